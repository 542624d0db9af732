section
-- ===== PART A: goes FIRST, ahead of the names: the tables' words, and 'selects' of the private methods out of them =====
/-- a private method of a class that the tables say can be made, by its rows of tables_1 -/
def lw_okq (q : MethodName × Nat) : Prop := (q.1.cls ≠ "java/lang/invoke/MethodHandle" ∧ q.1.cls ≠ "java/lang/invoke/VarHandle") ∧ Cond.instantiable q.1.cls q.2 ∈ tables_1 ∧ Cond.privateMethod q.1 ∈ tables_1 ∧ Cond.instanceMethod q.1 ∈ tables_1
theorem lw_p0 : lw_okq (⟨"LoopLaws", "findLoop", "(I)LLoopLaws$Loop;"⟩, 4) := ⟨⟨by decide +kernel, by decide +kernel⟩, List.mem_of_getElem? (i := 8) (by decide +kernel), List.mem_of_getElem? (i := 164) (by decide +kernel), List.mem_of_getElem? (i := 165) (by decide +kernel)⟩
theorem lw_p1 : lw_okq (⟨"LoopLaws$Loop", "moveTo", "(D)V"⟩, 16) := ⟨⟨by decide +kernel, by decide +kernel⟩, List.mem_of_getElem? (i := 43) (by decide +kernel), List.mem_of_getElem? (i := 198) (by decide +kernel), List.mem_of_getElem? (i := 199) (by decide +kernel)⟩
theorem lw_p2 : lw_okq (⟨"LoopLaws$Loop", "followLaw", "(D)V"⟩, 16) := ⟨⟨by decide +kernel, by decide +kernel⟩, List.mem_of_getElem? (i := 43) (by decide +kernel), List.mem_of_getElem? (i := 202) (by decide +kernel), List.mem_of_getElem? (i := 203) (by decide +kernel)⟩
theorem lw_p3 : lw_okq (⟨"LoopLaws$Loop", "switchOnOrOff", "(D)V"⟩, 16) := ⟨⟨by decide +kernel, by decide +kernel⟩, List.mem_of_getElem? (i := 43) (by decide +kernel), List.mem_of_getElem? (i := 210) (by decide +kernel), List.mem_of_getElem? (i := 211) (by decide +kernel)⟩
theorem lw_p4 : lw_okq (⟨"LoopLaws", "findSplit", "(I)LLoopLaws$Split;"⟩, 4) := ⟨⟨by decide +kernel, by decide +kernel⟩, List.mem_of_getElem? (i := 8) (by decide +kernel), List.mem_of_getElem? (i := 258) (by decide +kernel), List.mem_of_getElem? (i := 259) (by decide +kernel)⟩
theorem lw_p5 : lw_okq (⟨"LoopLaws$Tuning", "step", "(I)V"⟩, 7) := ⟨⟨by decide +kernel, by decide +kernel⟩, List.mem_of_getElem? (i := 70) (by decide +kernel), List.mem_of_getElem? (i := 281) (by decide +kernel), List.mem_of_getElem? (i := 282) (by decide +kernel)⟩
theorem lw_p6 : lw_okq (⟨"LoopLaws$Tuning", "countSwitch", "(II)V"⟩, 7) := ⟨⟨by decide +kernel, by decide +kernel⟩, List.mem_of_getElem? (i := 70) (by decide +kernel), List.mem_of_getElem? (i := 286) (by decide +kernel), List.mem_of_getElem? (i := 287) (by decide +kernel)⟩
theorem lw_p7 : lw_okq (⟨"LoopLaws$Tuning", "keepLevel", "(Z)V"⟩, 7) := ⟨⟨by decide +kernel, by decide +kernel⟩, List.mem_of_getElem? (i := 70) (by decide +kernel), List.mem_of_getElem? (i := 291) (by decide +kernel), List.mem_of_getElem? (i := 292) (by decide +kernel)⟩
theorem lw_p8 : lw_okq (⟨"LoopLawsModel", "isLoop", "(I)Z"⟩, 26) := ⟨⟨by decide +kernel, by decide +kernel⟩, List.mem_of_getElem? (i := 312) (by decide +kernel), List.mem_of_getElem? (i := 414) (by decide +kernel), List.mem_of_getElem? (i := 415) (by decide +kernel)⟩
theorem lw_p9 : lw_okq (⟨"LoopLawsModel", "move", "(ID)V"⟩, 26) := ⟨⟨by decide +kernel, by decide +kernel⟩, List.mem_of_getElem? (i := 312) (by decide +kernel), List.mem_of_getElem? (i := 430) (by decide +kernel), List.mem_of_getElem? (i := 431) (by decide +kernel)⟩
def lw_privs_1 : List (MethodName × Nat) := [(⟨"LoopLaws", "findLoop", "(I)LLoopLaws$Loop;"⟩, 4), (⟨"LoopLaws$Loop", "moveTo", "(D)V"⟩, 16), (⟨"LoopLaws$Loop", "followLaw", "(D)V"⟩, 16), (⟨"LoopLaws$Loop", "switchOnOrOff", "(D)V"⟩, 16), (⟨"LoopLaws", "findSplit", "(I)LLoopLaws$Split;"⟩, 4), (⟨"LoopLaws$Tuning", "step", "(I)V"⟩, 7), (⟨"LoopLaws$Tuning", "countSwitch", "(II)V"⟩, 7), (⟨"LoopLaws$Tuning", "keepLevel", "(Z)V"⟩, 7), (⟨"LoopLawsModel", "isLoop", "(I)Z"⟩, 26), (⟨"LoopLawsModel", "move", "(ID)V"⟩, 26)]
theorem lw_r1 : ∀ q ∈ lw_privs_1, lw_okq q := List.forall_mem_cons.mpr ⟨lw_p0, List.forall_mem_cons.mpr ⟨lw_p1, List.forall_mem_cons.mpr ⟨lw_p2, List.forall_mem_cons.mpr ⟨lw_p3, List.forall_mem_cons.mpr ⟨lw_p4, List.forall_mem_cons.mpr ⟨lw_p5, List.forall_mem_cons.mpr ⟨lw_p6, List.forall_mem_cons.mpr ⟨lw_p7, List.forall_mem_cons.mpr ⟨lw_p8, List.forall_mem_cons.mpr ⟨lw_p9, fun _ h => absurd h List.not_mem_nil⟩⟩⟩⟩⟩⟩⟩⟩⟩⟩
def lw_privs : List (MethodName × Nat) := lw_privs_1
def lw_tbl : List Cond := k2_sels lw_privs ++ tables_1
theorem lw_privs_ok : ∀ q ∈ lw_privs, lw_okq q := lw_r1
/-- the streams that the claim lets the run draw from -/
abbrev lw_cs : List Choice := [Jvm.Choice.named "NaN.bits"]
theorem lw_bits : nanBits ∈ lw_cs := by first | decide | exact List.mem_cons_self | simp [lw_cs, nanBits]
end
section
def RX0 : String := "LoopLaws$Loop"
def TX0 : u_T := fun k => match k with
  | 0 => ("LoopLaws$Loop", "p", "D", true)
  | 1 => ("LoopLaws$Loop", "i", "D", true)
  | 2 => ("LoopLaws$Loop", "d", "D", true)
  | 3 => ("LoopLaws$Loop", "limits", "LLoopLaws$Span;", true)
  | 4 => ("LoopLaws$Loop", "band", "LLoopLaws$Span;", true)
  | 5 => ("LoopLaws$Loop", "range", "LLoopLaws$Span;", true)
  | 6 => ("LoopLaws$Loop", "tuning", "LLoopLaws$Tuning;", true)
  | 7 => ("LoopLaws$Loop", "rate", "D", false)
  | 8 => ("LoopLaws$Loop", "safe", "D", false)
  | 9 => ("LoopLaws$Loop", "output", "D", false)
  | 10 => ("LoopLaws$Loop", "sum", "D", false)
  | 11 => ("LoopLaws$Loop", "lastError", "D", false)
  | 12 => ("LoopLaws$Loop", "hand", "D", false)
  | 13 => ("LoopLaws$Loop", "mode", "I", false)
  | 14 => ("LoopLaws$Loop", "faults", "I", false)
  | _ => ("LoopLaws$Loop", "outer", "LLoopLaws$Loop;", false)
def tyX0 : Nat → FieldType := fun k => match k with
  | 0 => .double
  | 1 => .double
  | 2 => .double
  | 3 => .object "LoopLaws$Span"
  | 4 => .object "LoopLaws$Span"
  | 5 => .object "LoopLaws$Span"
  | 6 => .object "LoopLaws$Tuning"
  | 7 => .double
  | 8 => .double
  | 9 => .double
  | 10 => .double
  | 11 => .double
  | 12 => .double
  | 13 => .int
  | 14 => .int
  | _ => .object "LoopLaws$Loop"
abbrev wsX00 : List Cond := u_ws RX0 TX0 16
theorem nmX0 : ∀ a, a < 16 → ∀ b, b < 16 → a ≠ b → (TX0 a).2.1 ≠ (TX0 b).2.1 := by decide +kernel
theorem tyX0_ok : ∀ k, k < 16 → parseFieldDescriptor (TX0 k).2.2.1 = some (tyX0 k) := by decide +kernel
abbrev cX0_init : ByteArray := prog_2_method_1_code
def yX0_init : MethodName := ⟨RX0, "<init>", "(DDD)V"⟩
abbrev cX0_pass : ByteArray := prog_2_method_2_code
def yX0_pass : MethodName := ⟨RX0, "pass", "(DD)V"⟩
abbrev cX0_followLaw : ByteArray := prog_2_method_3_code
def yX0_followLaw : MethodName := ⟨RX0, "followLaw", "(D)V"⟩
abbrev cX0_switchOnOrOff : ByteArray := prog_2_method_4_code
def yX0_switchOnOrOff : MethodName := ⟨RX0, "switchOnOrOff", "(D)V"⟩
abbrev cX0_moveTo : ByteArray := prog_2_method_5_code
def yX0_moveTo : MethodName := ⟨RX0, "moveTo", "(D)V"⟩
abbrev cX0_turnTo : ByteArray := prog_2_method_6_code
def yX0_turnTo : MethodName := ⟨RX0, "turnTo", "(I)V"⟩
def RX1 : String := "LoopLaws$Span"
def TX1 : u_T := fun k => match k with
  | 0 => ("LoopLaws$Span", "low", "D", false)
  | _ => ("LoopLaws$Span", "high", "D", false)
def tyX1 : Nat → FieldType := fun k => match k with
  | 0 => .double
  | _ => .double
abbrev wsX10 : List Cond := u_ws RX1 TX1 2
theorem nmX1 : ∀ a, a < 2 → ∀ b, b < 2 → a ≠ b → (TX1 a).2.1 ≠ (TX1 b).2.1 := by decide +kernel
theorem tyX1_ok : ∀ k, k < 2 → parseFieldDescriptor (TX1 k).2.2.1 = some (tyX1 k) := by decide +kernel
abbrev cX1_init : ByteArray := prog_3_method_1_code
def yX1_init : MethodName := ⟨RX1, "<init>", "(DD)V"⟩
abbrev cX1_set : ByteArray := prog_3_method_2_code
def yX1_set : MethodName := ⟨RX1, "set", "(DD)V"⟩
abbrev cX1_holds : ByteArray := prog_3_method_3_code
def yX1_holds : MethodName := ⟨RX1, "holds", "(D)Z"⟩
abbrev cX1_holdsInside : ByteArray := prog_3_method_4_code
def yX1_holdsInside : MethodName := ⟨RX1, "holdsInside", "(D)Z"⟩
abbrev cX1_nearest : ByteArray := prog_3_method_5_code
def yX1_nearest : MethodName := ⟨RX1, "nearest", "(D)D"⟩
def RX2 : String := "LoopLaws$Split"
def TX2 : u_T := fun k => match k with
  | 0 => ("LoopLaws$Split", "loop", "LLoopLaws$Loop;", true)
  | _ => ("LoopLaws$Split", "at", "D", true)
def tyX2 : Nat → FieldType := fun k => match k with
  | 0 => .object "LoopLaws$Loop"
  | _ => .double
abbrev wsX20 : List Cond := u_ws RX2 TX2 2
theorem nmX2 : ∀ a, a < 2 → ∀ b, b < 2 → a ≠ b → (TX2 a).2.1 ≠ (TX2 b).2.1 := by decide +kernel
theorem tyX2_ok : ∀ k, k < 2 → parseFieldDescriptor (TX2 k).2.2.1 = some (tyX2 k) := by decide +kernel
abbrev cX2_init : ByteArray := prog_4_method_1_code
def yX2_init : MethodName := ⟨RX2, "<init>", "(LLoopLaws$Loop;D)V"⟩
abbrev cX2_share : ByteArray := prog_4_method_2_code
def yX2_share : MethodName := ⟨RX2, "share", "(I)D"⟩
def RX3 : String := "LoopLaws$Tuning"
def TX3 : u_T := fun k => match k with
  | 0 => ("LoopLaws$Tuning", "level", "D", false)
  | 1 => ("LoopLaws$Tuning", "relays", "I", false)
  | 2 => ("LoopLaws$Tuning", "switches", "I", false)
  | 3 => ("LoopLaws$Tuning", "lastRise", "I", false)
  | 4 => ("LoopLaws$Tuning", "least", "D", false)
  | 5 => ("LoopLaws$Tuning", "greatest", "D", false)
  | _ => ("LoopLaws$Tuning", "period", "I", false)
def tyX3 : Nat → FieldType := fun k => match k with
  | 0 => .double
  | 1 => .int
  | 2 => .int
  | 3 => .int
  | 4 => .double
  | 5 => .double
  | _ => .int
abbrev wsX30 : List Cond := u_ws RX3 TX3 7
theorem nmX3 : ∀ a, a < 7 → ∀ b, b < 7 → a ≠ b → (TX3 a).2.1 ≠ (TX3 b).2.1 := by decide +kernel
theorem tyX3_ok : ∀ k, k < 7 → parseFieldDescriptor (TX3 k).2.2.1 = some (tyX3 k) := by decide +kernel
abbrev cX3_init : ByteArray := prog_5_method_1_code
def yX3_init : MethodName := ⟨RX3, "<init>", "()V"⟩
abbrev cX3_run : ByteArray := prog_5_method_2_code
def yX3_run : MethodName := ⟨RX3, "run", "(I)I"⟩
abbrev cX3_step : ByteArray := prog_5_method_3_code
def yX3_step : MethodName := ⟨RX3, "step", "(I)V"⟩
abbrev cX3_countSwitch : ByteArray := prog_5_method_4_code
def yX3_countSwitch : MethodName := ⟨RX3, "countSwitch", "(II)V"⟩
abbrev cX3_keepLevel : ByteArray := prog_5_method_5_code
def yX3_keepLevel : MethodName := ⟨RX3, "keepLevel", "(Z)V"⟩
abbrev cX3_gain : ByteArray := prog_5_method_6_code
def yX3_gain : MethodName := ⟨RX3, "gain", "(I)D"⟩
def RX4 : String := "LoopLaws"
def TX4 : u_T := fun k => match k with
  | 0 => ("LoopLaws", "loops", "[LLoopLaws$Loop;", true)
  | 1 => ("LoopLaws", "splits", "[LLoopLaws$Split;", true)
  | 2 => ("LoopLaws", "loopCount", "I", false)
  | _ => ("LoopLaws", "splitCount", "I", false)
def tyX4 : Nat → FieldType := fun k => match k with
  | 0 => .array (.object "LoopLaws$Loop")
  | 1 => .array (.object "LoopLaws$Split")
  | 2 => .int
  | _ => .int
abbrev wsX40 : List Cond := u_ws RX4 TX4 4
theorem nmX4 : ∀ a, a < 4 → ∀ b, b < 4 → a ≠ b → (TX4 a).2.1 ≠ (TX4 b).2.1 := by decide +kernel
theorem tyX4_ok : ∀ k, k < 4 → parseFieldDescriptor (TX4 k).2.2.1 = some (tyX4 k) := by decide +kernel
abbrev cX4_init : ByteArray := prog_1_method_1_code
def yX4_init : MethodName := ⟨RX4, "<init>", "()V"⟩
abbrev cX4_loop : ByteArray := prog_1_method_2_code
def yX4_loop : MethodName := ⟨RX4, "loop", "(DDD)I"⟩
abbrev cX4_limits : ByteArray := prog_1_method_3_code
def yX4_limits : MethodName := ⟨RX4, "limits", "(IDDD)Z"⟩
abbrev cX4_safe : ByteArray := prog_1_method_4_code
def yX4_safe : MethodName := ⟨RX4, "safe", "(ID)Z"⟩
abbrev cX4_tick : ByteArray := prog_1_method_5_code
def yX4_tick : MethodName := ⟨RX4, "tick", "(IDD)D"⟩
abbrev cX4_mode : ByteArray := prog_1_method_6_code
def yX4_mode : MethodName := ⟨RX4, "mode", "(II)Z"⟩
abbrev cX4_hand : ByteArray := prog_1_method_7_code
def yX4_hand : MethodName := ⟨RX4, "hand", "(ID)Z"⟩
abbrev cX4_cascade : ByteArray := prog_1_method_8_code
def yX4_cascade : MethodName := ⟨RX4, "cascade", "(II)Z"⟩
abbrev cX4_split : ByteArray := prog_1_method_9_code
def yX4_split : MethodName := ⟨RX4, "split", "(ID)I"⟩
abbrev cX4_part : ByteArray := prog_1_method_10_code
def yX4_part : MethodName := ⟨RX4, "part", "(II)D"⟩
abbrev cX4_band : ByteArray := prog_1_method_11_code
def yX4_band : MethodName := ⟨RX4, "band", "(IDD)Z"⟩
abbrev cX4_tune : ByteArray := prog_1_method_12_code
def yX4_tune : MethodName := ⟨RX4, "tune", "(II)I"⟩
abbrev cX4_tuned : ByteArray := prog_1_method_13_code
def yX4_tuned : MethodName := ⟨RX4, "tuned", "(II)D"⟩
abbrev cX4_fault : ByteArray := prog_1_method_14_code
def yX4_fault : MethodName := ⟨RX4, "fault", "(I)I"⟩
abbrev cX4_range : ByteArray := prog_1_method_15_code
def yX4_range : MethodName := ⟨RX4, "range", "(IDD)Z"⟩
abbrev cX4_findLoop : ByteArray := prog_1_method_16_code
def yX4_findLoop : MethodName := ⟨RX4, "findLoop", "(I)LLoopLaws$Loop;"⟩
abbrev cX4_findSplit : ByteArray := prog_1_method_17_code
def yX4_findSplit : MethodName := ⟨RX4, "findSplit", "(I)LLoopLaws$Split;"⟩
abbrev cX4_isWithin : ByteArray := prog_1_method_18_code
def yX4_isWithin : MethodName := ⟨RX4, "isWithin", "(DDD)Z"⟩
abbrev cX4_isGain : ByteArray := prog_1_method_19_code
def yX4_isGain : MethodName := ⟨RX4, "isGain", "(D)Z"⟩
abbrev cX4_isReading : ByteArray := prog_1_method_20_code
def yX4_isReading : MethodName := ⟨RX4, "isReading", "(D)Z"⟩
abbrev cX4_isOrdered : ByteArray := prog_1_method_21_code
def yX4_isOrdered : MethodName := ⟨RX4, "isOrdered", "(DDI)Z"⟩
abbrev cX4_isLed : ByteArray := prog_1_method_22_code
def yX4_isLed : MethodName := ⟨RX4, "isLed", "(LLoopLaws$Loop;LLoopLaws$Loop;)Z"⟩
def RX5 : String := "LoopLawsModel"
def TX5 : u_T := fun k => match k with
  | 0 => ("LoopLawsModel", "loops", "I", false)
  | 1 => ("LoopLawsModel", "ps", "[D", true)
  | 2 => ("LoopLawsModel", "is", "[D", true)
  | 3 => ("LoopLawsModel", "ds", "[D", true)
  | 4 => ("LoopLawsModel", "lows", "[D", true)
  | 5 => ("LoopLawsModel", "highs", "[D", true)
  | 6 => ("LoopLawsModel", "rates", "[D", true)
  | 7 => ("LoopLawsModel", "safes", "[D", true)
  | 8 => ("LoopLawsModel", "bandLows", "[D", true)
  | 9 => ("LoopLawsModel", "bandHighs", "[D", true)
  | 10 => ("LoopLawsModel", "hasRange", "[Z", true)
  | 11 => ("LoopLawsModel", "rangeLows", "[D", true)
  | 12 => ("LoopLawsModel", "rangeHighs", "[D", true)
  | 13 => ("LoopLawsModel", "us", "[D", true)
  | 14 => ("LoopLawsModel", "sums", "[D", true)
  | 15 => ("LoopLawsModel", "lasts", "[D", true)
  | 16 => ("LoopLawsModel", "hands", "[D", true)
  | 17 => ("LoopLawsModel", "modes", "[I", true)
  | 18 => ("LoopLawsModel", "outers", "[I", true)
  | 19 => ("LoopLawsModel", "faults", "[I", true)
  | 20 => ("LoopLawsModel", "leasts", "[D", true)
  | 21 => ("LoopLawsModel", "mosts", "[D", true)
  | 22 => ("LoopLawsModel", "between", "[I", true)
  | 23 => ("LoopLawsModel", "splits", "I", false)
  | 24 => ("LoopLawsModel", "splitLoops", "[I", true)
  | _ => ("LoopLawsModel", "splitAt", "[D", true)
def tyX5 : Nat → FieldType := fun k => match k with
  | 0 => .int
  | 1 => .array .double
  | 2 => .array .double
  | 3 => .array .double
  | 4 => .array .double
  | 5 => .array .double
  | 6 => .array .double
  | 7 => .array .double
  | 8 => .array .double
  | 9 => .array .double
  | 10 => .array .boolean
  | 11 => .array .double
  | 12 => .array .double
  | 13 => .array .double
  | 14 => .array .double
  | 15 => .array .double
  | 16 => .array .double
  | 17 => .array .int
  | 18 => .array .int
  | 19 => .array .int
  | 20 => .array .double
  | 21 => .array .double
  | 22 => .array .int
  | 23 => .int
  | 24 => .array .int
  | _ => .array .double
abbrev wsX50 : List Cond := u_ws RX5 TX5 26
theorem nmX5 : ∀ a, a < 26 → ∀ b, b < 26 → a ≠ b → (TX5 a).2.1 ≠ (TX5 b).2.1 := by decide +kernel
theorem tyX5_ok : ∀ k, k < 26 → parseFieldDescriptor (TX5 k).2.2.1 = some (tyX5 k) := by decide +kernel
abbrev cX5_init : ByteArray := prog_7_method_1_code
def yX5_init : MethodName := ⟨RX5, "<init>", "()V"⟩
abbrev cX5_isLoop : ByteArray := prog_7_method_2_code
def yX5_isLoop : MethodName := ⟨RX5, "isLoop", "(I)Z"⟩
abbrev cX5_isIn : ByteArray := prog_7_method_3_code
def yX5_isIn : MethodName := ⟨RX5, "isIn", "(DDD)Z"⟩
abbrev cX5_loop : ByteArray := prog_7_method_4_code
def yX5_loop : MethodName := ⟨RX5, "loop", "(DDD)I"⟩
abbrev cX5_limits : ByteArray := prog_7_method_5_code
def yX5_limits : MethodName := ⟨RX5, "limits", "(IDDD)Z"⟩
abbrev cX5_safe : ByteArray := prog_7_method_6_code
def yX5_safe : MethodName := ⟨RX5, "safe", "(ID)Z"⟩
abbrev cX5_move : ByteArray := prog_7_method_7_code
def yX5_move : MethodName := ⟨RX5, "move", "(ID)V"⟩
abbrev cX5_tick : ByteArray := prog_7_method_8_code
def yX5_tick : MethodName := ⟨RX5, "tick", "(IDD)D"⟩
abbrev cX5_mode : ByteArray := prog_7_method_9_code
def yX5_mode : MethodName := ⟨RX5, "mode", "(II)Z"⟩
abbrev cX5_hand : ByteArray := prog_7_method_10_code
def yX5_hand : MethodName := ⟨RX5, "hand", "(ID)Z"⟩
abbrev cX5_cascade : ByteArray := prog_7_method_11_code
def yX5_cascade : MethodName := ⟨RX5, "cascade", "(II)Z"⟩
abbrev cX5_split : ByteArray := prog_7_method_12_code
def yX5_split : MethodName := ⟨RX5, "split", "(ID)I"⟩
abbrev cX5_part : ByteArray := prog_7_method_13_code
def yX5_part : MethodName := ⟨RX5, "part", "(II)D"⟩
abbrev cX5_band : ByteArray := prog_7_method_14_code
def yX5_band : MethodName := ⟨RX5, "band", "(IDD)Z"⟩
abbrev cX5_tune : ByteArray := prog_7_method_15_code
def yX5_tune : MethodName := ⟨RX5, "tune", "(II)I"⟩
abbrev cX5_tuned : ByteArray := prog_7_method_16_code
def yX5_tuned : MethodName := ⟨RX5, "tuned", "(II)D"⟩
abbrev cX5_fault : ByteArray := prog_7_method_17_code
def yX5_fault : MethodName := ⟨RX5, "fault", "(I)I"⟩
abbrev cX5_range : ByteArray := prog_7_method_18_code
def yX5_range : MethodName := ⟨RX5, "range", "(IDD)Z"⟩
def RL : String := "LoopLawsLaw"
abbrev cL_law : ByteArray := code
def yL_law : MethodName := ⟨RL, "law", "([I)Z"⟩
abbrev vwCl : List vw_C := [(RX0, TX0, 16), (RX1, TX1, 2), (RX2, TX2, 2), (RX3, TX3, 7), (RX4, TX4, 4), (RX5, TX5, 26)]
end
section
theorem dX0_init_0 : decode cX0_init 0 = .ok (.aload_n 0, 1) := by decide +kernel
theorem dX0_init_1 : decode cX0_init 1 = .ok (.invokespecial 3, 3) := by decide +kernel
theorem dX0_init_4 : decode cX0_init 4 = .ok (.aload_n 0, 1) := by decide +kernel
theorem dX0_init_5 : decode cX0_init 5 = .ok (.new 9, 3) := by decide +kernel
theorem dX0_init_8 : decode cX0_init 8 = .ok (.dup, 1) := by decide +kernel
theorem dX0_init_9 : decode cX0_init 9 = .ok (.dconst 0, 1) := by decide +kernel
theorem dX0_init_10 : decode cX0_init 10 = .ok (.ldc2_w 11, 3) := by decide +kernel
theorem dX0_init_13 : decode cX0_init 13 = .ok (.invokespecial 13, 3) := by decide +kernel
theorem dX0_init_16 : decode cX0_init 16 = .ok (.putfield 16, 3) := by decide +kernel
theorem dX0_init_19 : decode cX0_init 19 = .ok (.aload_n 0, 1) := by decide +kernel
theorem dX0_init_20 : decode cX0_init 20 = .ok (.new 9, 3) := by decide +kernel
theorem dX0_init_23 : decode cX0_init 23 = .ok (.dup, 1) := by decide +kernel
theorem dX0_init_24 : decode cX0_init 24 = .ok (.ldc2_w 22, 3) := by decide +kernel
theorem dX0_init_27 : decode cX0_init 27 = .ok (.dconst 1, 1) := by decide +kernel
theorem dX0_init_28 : decode cX0_init 28 = .ok (.invokespecial 13, 3) := by decide +kernel
theorem dX0_init_31 : decode cX0_init 31 = .ok (.putfield 24, 3) := by decide +kernel
theorem dX0_init_34 : decode cX0_init 34 = .ok (.aload_n 0, 1) := by decide +kernel
theorem dX0_init_35 : decode cX0_init 35 = .ok (.new 9, 3) := by decide +kernel
theorem dX0_init_38 : decode cX0_init 38 = .ok (.dup, 1) := by decide +kernel
theorem dX0_init_39 : decode cX0_init 39 = .ok (.ldc2_w 27, 3) := by decide +kernel
theorem dX0_init_42 : decode cX0_init 42 = .ok (.ldc2_w 29, 3) := by decide +kernel
theorem dX0_init_45 : decode cX0_init 45 = .ok (.invokespecial 13, 3) := by decide +kernel
theorem dX0_init_48 : decode cX0_init 48 = .ok (.putfield 31, 3) := by decide +kernel
theorem dX0_init_51 : decode cX0_init 51 = .ok (.aload_n 0, 1) := by decide +kernel
theorem dX0_init_52 : decode cX0_init 52 = .ok (.new 34, 3) := by decide +kernel
theorem dX0_init_55 : decode cX0_init 55 = .ok (.dup, 1) := by decide +kernel
theorem dX0_init_56 : decode cX0_init 56 = .ok (.invokespecial 36, 3) := by decide +kernel
theorem dX0_init_59 : decode cX0_init 59 = .ok (.putfield 37, 3) := by decide +kernel
theorem dX0_init_62 : decode cX0_init 62 = .ok (.aload_n 0, 1) := by decide +kernel
theorem dX0_init_63 : decode cX0_init 63 = .ok (.ldc2_w 11, 3) := by decide +kernel
theorem dX0_init_66 : decode cX0_init 66 = .ok (.putfield 41, 3) := by decide +kernel
theorem dX0_init_69 : decode cX0_init 69 = .ok (.aload_n 0, 1) := by decide +kernel
theorem dX0_init_70 : decode cX0_init 70 = .ok (.iconst 0, 1) := by decide +kernel
theorem dX0_init_71 : decode cX0_init 71 = .ok (.putfield 45, 3) := by decide +kernel
theorem dX0_init_74 : decode cX0_init 74 = .ok (.aload_n 0, 1) := by decide +kernel
theorem dX0_init_75 : decode cX0_init 75 = .ok (.dload_n 1, 1) := by decide +kernel
theorem dX0_init_76 : decode cX0_init 76 = .ok (.putfield 49, 3) := by decide +kernel
theorem dX0_init_79 : decode cX0_init 79 = .ok (.aload_n 0, 1) := by decide +kernel
theorem dX0_init_80 : decode cX0_init 80 = .ok (.dload_n 3, 1) := by decide +kernel
theorem dX0_init_81 : decode cX0_init 81 = .ok (.putfield 52, 3) := by decide +kernel
theorem dX0_init_84 : decode cX0_init 84 = .ok (.aload_n 0, 1) := by decide +kernel
theorem dX0_init_85 : decode cX0_init 85 = .ok (.dload 5, 2) := by decide +kernel
theorem dX0_init_87 : decode cX0_init 87 = .ok (.putfield 55, 3) := by decide +kernel
theorem dX0_init_90 : decode cX0_init 90 = .ok (.return_, 1) := by decide +kernel
theorem dX0_pass_0 : decode cX0_pass 0 = .ok (.aload_n 0, 1) := by decide +kernel
theorem dX0_pass_1 : decode cX0_pass 1 = .ok (.getfield 31, 3) := by decide +kernel
theorem dX0_pass_4 : decode cX0_pass 4 = .ok (.dload_n 1, 1) := by decide +kernel
theorem dX0_pass_5 : decode cX0_pass 5 = .ok (.invokevirtual 58, 3) := by decide +kernel
theorem dX0_pass_8 : decode cX0_pass 8 = .ok (.ifCond .ne 22, 3) := by decide +kernel
theorem dX0_pass_11 : decode cX0_pass 11 = .ok (.aload_n 0, 1) := by decide +kernel
theorem dX0_pass_12 : decode cX0_pass 12 = .ok (.aload_n 0, 1) := by decide +kernel
theorem dX0_pass_13 : decode cX0_pass 13 = .ok (.getfield 62, 3) := by decide +kernel
theorem dX0_pass_16 : decode cX0_pass 16 = .ok (.putfield 65, 3) := by decide +kernel
theorem dX0_pass_19 : decode cX0_pass 19 = .ok (.aload_n 0, 1) := by decide +kernel
theorem dX0_pass_20 : decode cX0_pass 20 = .ok (.dup, 1) := by decide +kernel
theorem dX0_pass_21 : decode cX0_pass 21 = .ok (.getfield 68, 3) := by decide +kernel
theorem dX0_pass_24 : decode cX0_pass 24 = .ok (.iconst 1, 1) := by decide +kernel
theorem dX0_pass_25 : decode cX0_pass 25 = .ok (.iadd, 1) := by decide +kernel
theorem dX0_pass_26 : decode cX0_pass 26 = .ok (.putfield 68, 3) := by decide +kernel
theorem dX0_pass_29 : decode cX0_pass 29 = .ok (.return_, 1) := by decide +kernel
theorem dX0_pass_30 : decode cX0_pass 30 = .ok (.aload_n 0, 1) := by decide +kernel
theorem dX0_pass_31 : decode cX0_pass 31 = .ok (.getfield 71, 3) := by decide +kernel
theorem dX0_pass_34 : decode cX0_pass 34 = .ok (.ifnonnull 7, 3) := by decide +kernel
theorem dX0_pass_37 : decode cX0_pass 37 = .ok (.dload_n 3, 1) := by decide +kernel
theorem dX0_pass_38 : decode cX0_pass 38 = .ok (.goto 10, 3) := by decide +kernel
theorem dX0_pass_41 : decode cX0_pass 41 = .ok (.aload_n 0, 1) := by decide +kernel
theorem dX0_pass_42 : decode cX0_pass 42 = .ok (.getfield 71, 3) := by decide +kernel
theorem dX0_pass_45 : decode cX0_pass 45 = .ok (.getfield 65, 3) := by decide +kernel
theorem dX0_pass_48 : decode cX0_pass 48 = .ok (.dload_n 1, 1) := by decide +kernel
theorem dX0_pass_49 : decode cX0_pass 49 = .ok (.dsub, 1) := by decide +kernel
theorem dX0_pass_50 : decode cX0_pass 50 = .ok (.dstore 5, 2) := by decide +kernel
theorem dX0_pass_52 : decode cX0_pass 52 = .ok (.aload_n 0, 1) := by decide +kernel
theorem dX0_pass_53 : decode cX0_pass 53 = .ok (.getfield 45, 3) := by decide +kernel
theorem dX0_pass_56 : decode cX0_pass 56 = .ok (.ifCond .ne 14, 3) := by decide +kernel
theorem dX0_pass_59 : decode cX0_pass 59 = .ok (.aload_n 0, 1) := by decide +kernel
theorem dX0_pass_60 : decode cX0_pass 60 = .ok (.aload_n 0, 1) := by decide +kernel
theorem dX0_pass_61 : decode cX0_pass 61 = .ok (.getfield 75, 3) := by decide +kernel
theorem dX0_pass_64 : decode cX0_pass 64 = .ok (.invokevirtual 78, 3) := by decide +kernel
theorem dX0_pass_67 : decode cX0_pass 67 = .ok (.goto 26, 3) := by decide +kernel
theorem dX0_pass_70 : decode cX0_pass 70 = .ok (.aload_n 0, 1) := by decide +kernel
theorem dX0_pass_71 : decode cX0_pass 71 = .ok (.getfield 45, 3) := by decide +kernel
theorem dX0_pass_74 : decode cX0_pass 74 = .ok (.iconst 1, 1) := by decide +kernel
theorem dX0_pass_75 : decode cX0_pass 75 = .ok (.if_icmp .ne 12, 3) := by decide +kernel
theorem dX0_pass_78 : decode cX0_pass 78 = .ok (.aload_n 0, 1) := by decide +kernel
theorem dX0_pass_79 : decode cX0_pass 79 = .ok (.dload 5, 2) := by decide +kernel
theorem dX0_pass_81 : decode cX0_pass 81 = .ok (.invokevirtual 82, 3) := by decide +kernel
theorem dX0_pass_84 : decode cX0_pass 84 = .ok (.goto 9, 3) := by decide +kernel
theorem dX0_pass_87 : decode cX0_pass 87 = .ok (.aload_n 0, 1) := by decide +kernel
theorem dX0_pass_88 : decode cX0_pass 88 = .ok (.dload 5, 2) := by decide +kernel
theorem dX0_pass_90 : decode cX0_pass 90 = .ok (.invokevirtual 85, 3) := by decide +kernel
theorem dX0_pass_93 : decode cX0_pass 93 = .ok (.aload_n 0, 1) := by decide +kernel
theorem dX0_pass_94 : decode cX0_pass 94 = .ok (.dload 5, 2) := by decide +kernel
theorem dX0_pass_96 : decode cX0_pass 96 = .ok (.putfield 88, 3) := by decide +kernel
theorem dX0_pass_99 : decode cX0_pass 99 = .ok (.return_, 1) := by decide +kernel
theorem dX0_followLaw_0 : decode cX0_followLaw 0 = .ok (.aload_n 0, 1) := by decide +kernel
theorem dX0_followLaw_1 : decode cX0_followLaw 1 = .ok (.getfield 91, 3) := by decide +kernel
theorem dX0_followLaw_4 : decode cX0_followLaw 4 = .ok (.aload_n 0, 1) := by decide +kernel
theorem dX0_followLaw_5 : decode cX0_followLaw 5 = .ok (.getfield 52, 3) := by decide +kernel
theorem dX0_followLaw_8 : decode cX0_followLaw 8 = .ok (.dload_n 1, 1) := by decide +kernel
theorem dX0_followLaw_9 : decode cX0_followLaw 9 = .ok (.dmul, 1) := by decide +kernel
theorem dX0_followLaw_10 : decode cX0_followLaw 10 = .ok (.dadd, 1) := by decide +kernel
theorem dX0_followLaw_11 : decode cX0_followLaw 11 = .ok (.dstore_n 3, 1) := by decide +kernel
theorem dX0_followLaw_12 : decode cX0_followLaw 12 = .ok (.aload_n 0, 1) := by decide +kernel
theorem dX0_followLaw_13 : decode cX0_followLaw 13 = .ok (.getfield 49, 3) := by decide +kernel
theorem dX0_followLaw_16 : decode cX0_followLaw 16 = .ok (.dload_n 1, 1) := by decide +kernel
theorem dX0_followLaw_17 : decode cX0_followLaw 17 = .ok (.dmul, 1) := by decide +kernel
theorem dX0_followLaw_18 : decode cX0_followLaw 18 = .ok (.dload_n 3, 1) := by decide +kernel
theorem dX0_followLaw_19 : decode cX0_followLaw 19 = .ok (.dadd, 1) := by decide +kernel
theorem dX0_followLaw_20 : decode cX0_followLaw 20 = .ok (.aload_n 0, 1) := by decide +kernel
theorem dX0_followLaw_21 : decode cX0_followLaw 21 = .ok (.getfield 55, 3) := by decide +kernel
theorem dX0_followLaw_24 : decode cX0_followLaw 24 = .ok (.dload_n 1, 1) := by decide +kernel
theorem dX0_followLaw_25 : decode cX0_followLaw 25 = .ok (.aload_n 0, 1) := by decide +kernel
theorem dX0_followLaw_26 : decode cX0_followLaw 26 = .ok (.getfield 88, 3) := by decide +kernel
theorem dX0_followLaw_29 : decode cX0_followLaw 29 = .ok (.dsub, 1) := by decide +kernel
theorem dX0_followLaw_30 : decode cX0_followLaw 30 = .ok (.dmul, 1) := by decide +kernel
theorem dX0_followLaw_31 : decode cX0_followLaw 31 = .ok (.dadd, 1) := by decide +kernel
theorem dX0_followLaw_32 : decode cX0_followLaw 32 = .ok (.dstore 5, 2) := by decide +kernel
theorem dX0_followLaw_34 : decode cX0_followLaw 34 = .ok (.dload 5, 2) := by decide +kernel
theorem dX0_followLaw_36 : decode cX0_followLaw 36 = .ok (.aload_n 0, 1) := by decide +kernel
theorem dX0_followLaw_37 : decode cX0_followLaw 37 = .ok (.getfield 16, 3) := by decide +kernel
theorem dX0_followLaw_40 : decode cX0_followLaw 40 = .ok (.getfield 94, 3) := by decide +kernel
theorem dX0_followLaw_43 : decode cX0_followLaw 43 = .ok (.dcmp .l, 1) := by decide +kernel
theorem dX0_followLaw_44 : decode cX0_followLaw 44 = .ok (.ifCond .le 13, 3) := by decide +kernel
theorem dX0_followLaw_47 : decode cX0_followLaw 47 = .ok (.dload_n 1, 1) := by decide +kernel
theorem dX0_followLaw_48 : decode cX0_followLaw 48 = .ok (.dconst 0, 1) := by decide +kernel
theorem dX0_followLaw_49 : decode cX0_followLaw 49 = .ok (.dcmp .l, 1) := by decide +kernel
theorem dX0_followLaw_50 : decode cX0_followLaw 50 = .ok (.ifCond .le 7, 3) := by decide +kernel
theorem dX0_followLaw_53 : decode cX0_followLaw 53 = .ok (.iconst 1, 1) := by decide +kernel
theorem dX0_followLaw_54 : decode cX0_followLaw 54 = .ok (.goto 4, 3) := by decide +kernel
theorem dX0_followLaw_57 : decode cX0_followLaw 57 = .ok (.iconst 0, 1) := by decide +kernel
theorem dX0_followLaw_58 : decode cX0_followLaw 58 = .ok (.istore 7, 2) := by decide +kernel
theorem dX0_followLaw_60 : decode cX0_followLaw 60 = .ok (.dload 5, 2) := by decide +kernel
theorem dX0_followLaw_62 : decode cX0_followLaw 62 = .ok (.aload_n 0, 1) := by decide +kernel
theorem dX0_followLaw_63 : decode cX0_followLaw 63 = .ok (.getfield 16, 3) := by decide +kernel
theorem dX0_followLaw_66 : decode cX0_followLaw 66 = .ok (.getfield 97, 3) := by decide +kernel
theorem dX0_followLaw_69 : decode cX0_followLaw 69 = .ok (.dcmp .g, 1) := by decide +kernel
theorem dX0_followLaw_70 : decode cX0_followLaw 70 = .ok (.ifCond .ge 13, 3) := by decide +kernel
theorem dX0_followLaw_73 : decode cX0_followLaw 73 = .ok (.dload_n 1, 1) := by decide +kernel
theorem dX0_followLaw_74 : decode cX0_followLaw 74 = .ok (.dconst 0, 1) := by decide +kernel
theorem dX0_followLaw_75 : decode cX0_followLaw 75 = .ok (.dcmp .g, 1) := by decide +kernel
theorem dX0_followLaw_76 : decode cX0_followLaw 76 = .ok (.ifCond .ge 7, 3) := by decide +kernel
theorem dX0_followLaw_79 : decode cX0_followLaw 79 = .ok (.iconst 1, 1) := by decide +kernel
theorem dX0_followLaw_80 : decode cX0_followLaw 80 = .ok (.goto 4, 3) := by decide +kernel
theorem dX0_followLaw_83 : decode cX0_followLaw 83 = .ok (.iconst 0, 1) := by decide +kernel
theorem dX0_followLaw_84 : decode cX0_followLaw 84 = .ok (.istore 8, 2) := by decide +kernel
theorem dX0_followLaw_86 : decode cX0_followLaw 86 = .ok (.iload 7, 2) := by decide +kernel
theorem dX0_followLaw_88 : decode cX0_followLaw 88 = .ok (.ifCond .ne 13, 3) := by decide +kernel
theorem dX0_followLaw_91 : decode cX0_followLaw 91 = .ok (.iload 8, 2) := by decide +kernel
theorem dX0_followLaw_93 : decode cX0_followLaw 93 = .ok (.ifCond .ne 8, 3) := by decide +kernel
theorem dX0_followLaw_96 : decode cX0_followLaw 96 = .ok (.aload_n 0, 1) := by decide +kernel
theorem dX0_followLaw_97 : decode cX0_followLaw 97 = .ok (.dload_n 3, 1) := by decide +kernel
theorem dX0_followLaw_98 : decode cX0_followLaw 98 = .ok (.putfield 91, 3) := by decide +kernel
theorem dX0_followLaw_101 : decode cX0_followLaw 101 = .ok (.aload_n 0, 1) := by decide +kernel
theorem dX0_followLaw_102 : decode cX0_followLaw 102 = .ok (.aload_n 0, 1) := by decide +kernel
theorem dX0_followLaw_103 : decode cX0_followLaw 103 = .ok (.getfield 16, 3) := by decide +kernel
theorem dX0_followLaw_106 : decode cX0_followLaw 106 = .ok (.dload 5, 2) := by decide +kernel
theorem dX0_followLaw_108 : decode cX0_followLaw 108 = .ok (.invokevirtual 100, 3) := by decide +kernel
theorem dX0_followLaw_111 : decode cX0_followLaw 111 = .ok (.invokevirtual 78, 3) := by decide +kernel
theorem dX0_followLaw_114 : decode cX0_followLaw 114 = .ok (.return_, 1) := by decide +kernel
theorem dX0_switchOnOrOff_0 : decode cX0_switchOnOrOff 0 = .ok (.dload_n 1, 1) := by decide +kernel
theorem dX0_switchOnOrOff_1 : decode cX0_switchOnOrOff 1 = .ok (.aload_n 0, 1) := by decide +kernel
theorem dX0_switchOnOrOff_2 : decode cX0_switchOnOrOff 2 = .ok (.getfield 24, 3) := by decide +kernel
theorem dX0_switchOnOrOff_5 : decode cX0_switchOnOrOff 5 = .ok (.getfield 94, 3) := by decide +kernel
theorem dX0_switchOnOrOff_8 : decode cX0_switchOnOrOff 8 = .ok (.dcmp .l, 1) := by decide +kernel
theorem dX0_switchOnOrOff_9 : decode cX0_switchOnOrOff 9 = .ok (.ifCond .le 17, 3) := by decide +kernel
theorem dX0_switchOnOrOff_12 : decode cX0_switchOnOrOff 12 = .ok (.aload_n 0, 1) := by decide +kernel
theorem dX0_switchOnOrOff_13 : decode cX0_switchOnOrOff 13 = .ok (.aload_n 0, 1) := by decide +kernel
theorem dX0_switchOnOrOff_14 : decode cX0_switchOnOrOff 14 = .ok (.getfield 16, 3) := by decide +kernel
theorem dX0_switchOnOrOff_17 : decode cX0_switchOnOrOff 17 = .ok (.getfield 94, 3) := by decide +kernel
theorem dX0_switchOnOrOff_20 : decode cX0_switchOnOrOff 20 = .ok (.invokevirtual 78, 3) := by decide +kernel
theorem dX0_switchOnOrOff_23 : decode cX0_switchOnOrOff 23 = .ok (.goto 26, 3) := by decide +kernel
theorem dX0_switchOnOrOff_26 : decode cX0_switchOnOrOff 26 = .ok (.dload_n 1, 1) := by decide +kernel
theorem dX0_switchOnOrOff_27 : decode cX0_switchOnOrOff 27 = .ok (.aload_n 0, 1) := by decide +kernel
theorem dX0_switchOnOrOff_28 : decode cX0_switchOnOrOff 28 = .ok (.getfield 24, 3) := by decide +kernel
theorem dX0_switchOnOrOff_31 : decode cX0_switchOnOrOff 31 = .ok (.getfield 97, 3) := by decide +kernel
theorem dX0_switchOnOrOff_34 : decode cX0_switchOnOrOff 34 = .ok (.dcmp .g, 1) := by decide +kernel
theorem dX0_switchOnOrOff_35 : decode cX0_switchOnOrOff 35 = .ok (.ifCond .ge 14, 3) := by decide +kernel
theorem dX0_switchOnOrOff_38 : decode cX0_switchOnOrOff 38 = .ok (.aload_n 0, 1) := by decide +kernel
theorem dX0_switchOnOrOff_39 : decode cX0_switchOnOrOff 39 = .ok (.aload_n 0, 1) := by decide +kernel
theorem dX0_switchOnOrOff_40 : decode cX0_switchOnOrOff 40 = .ok (.getfield 16, 3) := by decide +kernel
theorem dX0_switchOnOrOff_43 : decode cX0_switchOnOrOff 43 = .ok (.getfield 97, 3) := by decide +kernel
theorem dX0_switchOnOrOff_46 : decode cX0_switchOnOrOff 46 = .ok (.invokevirtual 78, 3) := by decide +kernel
theorem dX0_switchOnOrOff_49 : decode cX0_switchOnOrOff 49 = .ok (.return_, 1) := by decide +kernel
theorem dX0_moveTo_0 : decode cX0_moveTo 0 = .ok (.dload_n 1, 1) := by decide +kernel
theorem dX0_moveTo_1 : decode cX0_moveTo 1 = .ok (.aload_n 0, 1) := by decide +kernel
theorem dX0_moveTo_2 : decode cX0_moveTo 2 = .ok (.getfield 65, 3) := by decide +kernel
theorem dX0_moveTo_5 : decode cX0_moveTo 5 = .ok (.aload_n 0, 1) := by decide +kernel
theorem dX0_moveTo_6 : decode cX0_moveTo 6 = .ok (.getfield 41, 3) := by decide +kernel
theorem dX0_moveTo_9 : decode cX0_moveTo 9 = .ok (.dadd, 1) := by decide +kernel
theorem dX0_moveTo_10 : decode cX0_moveTo 10 = .ok (.dcmp .l, 1) := by decide +kernel
theorem dX0_moveTo_11 : decode cX0_moveTo 11 = .ok (.ifCond .le 19, 3) := by decide +kernel
theorem dX0_moveTo_14 : decode cX0_moveTo 14 = .ok (.aload_n 0, 1) := by decide +kernel
theorem dX0_moveTo_15 : decode cX0_moveTo 15 = .ok (.aload_n 0, 1) := by decide +kernel
theorem dX0_moveTo_16 : decode cX0_moveTo 16 = .ok (.getfield 65, 3) := by decide +kernel
theorem dX0_moveTo_19 : decode cX0_moveTo 19 = .ok (.aload_n 0, 1) := by decide +kernel
theorem dX0_moveTo_20 : decode cX0_moveTo 20 = .ok (.getfield 41, 3) := by decide +kernel
theorem dX0_moveTo_23 : decode cX0_moveTo 23 = .ok (.dadd, 1) := by decide +kernel
theorem dX0_moveTo_24 : decode cX0_moveTo 24 = .ok (.putfield 65, 3) := by decide +kernel
theorem dX0_moveTo_27 : decode cX0_moveTo 27 = .ok (.goto 38, 3) := by decide +kernel
theorem dX0_moveTo_30 : decode cX0_moveTo 30 = .ok (.dload_n 1, 1) := by decide +kernel
theorem dX0_moveTo_31 : decode cX0_moveTo 31 = .ok (.aload_n 0, 1) := by decide +kernel
theorem dX0_moveTo_32 : decode cX0_moveTo 32 = .ok (.getfield 65, 3) := by decide +kernel
theorem dX0_moveTo_35 : decode cX0_moveTo 35 = .ok (.aload_n 0, 1) := by decide +kernel
theorem dX0_moveTo_36 : decode cX0_moveTo 36 = .ok (.getfield 41, 3) := by decide +kernel
theorem dX0_moveTo_39 : decode cX0_moveTo 39 = .ok (.dsub, 1) := by decide +kernel
theorem dX0_moveTo_40 : decode cX0_moveTo 40 = .ok (.dcmp .g, 1) := by decide +kernel
theorem dX0_moveTo_41 : decode cX0_moveTo 41 = .ok (.ifCond .ge 19, 3) := by decide +kernel
theorem dX0_moveTo_44 : decode cX0_moveTo 44 = .ok (.aload_n 0, 1) := by decide +kernel
theorem dX0_moveTo_45 : decode cX0_moveTo 45 = .ok (.aload_n 0, 1) := by decide +kernel
theorem dX0_moveTo_46 : decode cX0_moveTo 46 = .ok (.getfield 65, 3) := by decide +kernel
theorem dX0_moveTo_49 : decode cX0_moveTo 49 = .ok (.aload_n 0, 1) := by decide +kernel
theorem dX0_moveTo_50 : decode cX0_moveTo 50 = .ok (.getfield 41, 3) := by decide +kernel
theorem dX0_moveTo_53 : decode cX0_moveTo 53 = .ok (.dsub, 1) := by decide +kernel
theorem dX0_moveTo_54 : decode cX0_moveTo 54 = .ok (.putfield 65, 3) := by decide +kernel
theorem dX0_moveTo_57 : decode cX0_moveTo 57 = .ok (.goto 8, 3) := by decide +kernel
theorem dX0_moveTo_60 : decode cX0_moveTo 60 = .ok (.aload_n 0, 1) := by decide +kernel
theorem dX0_moveTo_61 : decode cX0_moveTo 61 = .ok (.dload_n 1, 1) := by decide +kernel
theorem dX0_moveTo_62 : decode cX0_moveTo 62 = .ok (.putfield 65, 3) := by decide +kernel
theorem dX0_moveTo_65 : decode cX0_moveTo 65 = .ok (.return_, 1) := by decide +kernel
theorem dX0_turnTo_0 : decode cX0_turnTo 0 = .ok (.iload_n 1, 1) := by decide +kernel
theorem dX0_turnTo_1 : decode cX0_turnTo 1 = .ok (.aload_n 0, 1) := by decide +kernel
theorem dX0_turnTo_2 : decode cX0_turnTo 2 = .ok (.getfield 45, 3) := by decide +kernel
theorem dX0_turnTo_5 : decode cX0_turnTo 5 = .ok (.if_icmp .ne 4, 3) := by decide +kernel
theorem dX0_turnTo_8 : decode cX0_turnTo 8 = .ok (.return_, 1) := by decide +kernel
theorem dX0_turnTo_9 : decode cX0_turnTo 9 = .ok (.aload_n 0, 1) := by decide +kernel
theorem dX0_turnTo_10 : decode cX0_turnTo 10 = .ok (.iload_n 1, 1) := by decide +kernel
theorem dX0_turnTo_11 : decode cX0_turnTo 11 = .ok (.putfield 45, 3) := by decide +kernel
theorem dX0_turnTo_14 : decode cX0_turnTo 14 = .ok (.iload_n 1, 1) := by decide +kernel
theorem dX0_turnTo_15 : decode cX0_turnTo 15 = .ok (.ifCond .ne 14, 3) := by decide +kernel
theorem dX0_turnTo_18 : decode cX0_turnTo 18 = .ok (.aload_n 0, 1) := by decide +kernel
theorem dX0_turnTo_19 : decode cX0_turnTo 19 = .ok (.aload_n 0, 1) := by decide +kernel
theorem dX0_turnTo_20 : decode cX0_turnTo 20 = .ok (.getfield 65, 3) := by decide +kernel
theorem dX0_turnTo_23 : decode cX0_turnTo 23 = .ok (.putfield 75, 3) := by decide +kernel
theorem dX0_turnTo_26 : decode cX0_turnTo 26 = .ok (.goto 26, 3) := by decide +kernel
theorem dX0_turnTo_29 : decode cX0_turnTo 29 = .ok (.iload_n 1, 1) := by decide +kernel
theorem dX0_turnTo_30 : decode cX0_turnTo 30 = .ok (.iconst 1, 1) := by decide +kernel
theorem dX0_turnTo_31 : decode cX0_turnTo 31 = .ok (.if_icmp .ne 21, 3) := by decide +kernel
theorem dX0_turnTo_34 : decode cX0_turnTo 34 = .ok (.aload_n 0, 1) := by decide +kernel
theorem dX0_turnTo_35 : decode cX0_turnTo 35 = .ok (.aload_n 0, 1) := by decide +kernel
theorem dX0_turnTo_36 : decode cX0_turnTo 36 = .ok (.getfield 65, 3) := by decide +kernel
theorem dX0_turnTo_39 : decode cX0_turnTo 39 = .ok (.aload_n 0, 1) := by decide +kernel
theorem dX0_turnTo_40 : decode cX0_turnTo 40 = .ok (.getfield 49, 3) := by decide +kernel
theorem dX0_turnTo_43 : decode cX0_turnTo 43 = .ok (.aload_n 0, 1) := by decide +kernel
theorem dX0_turnTo_44 : decode cX0_turnTo 44 = .ok (.getfield 88, 3) := by decide +kernel
theorem dX0_turnTo_47 : decode cX0_turnTo 47 = .ok (.dmul, 1) := by decide +kernel
theorem dX0_turnTo_48 : decode cX0_turnTo 48 = .ok (.dsub, 1) := by decide +kernel
theorem dX0_turnTo_49 : decode cX0_turnTo 49 = .ok (.putfield 91, 3) := by decide +kernel
theorem dX0_turnTo_52 : decode cX0_turnTo 52 = .ok (.return_, 1) := by decide +kernel
theorem dX1_init_0 : decode cX1_init 0 = .ok (.aload_n 0, 1) := by decide +kernel
theorem dX1_init_1 : decode cX1_init 1 = .ok (.invokespecial 1, 3) := by decide +kernel
theorem dX1_init_4 : decode cX1_init 4 = .ok (.aload_n 0, 1) := by decide +kernel
theorem dX1_init_5 : decode cX1_init 5 = .ok (.dload_n 1, 1) := by decide +kernel
theorem dX1_init_6 : decode cX1_init 6 = .ok (.putfield 7, 3) := by decide +kernel
theorem dX1_init_9 : decode cX1_init 9 = .ok (.aload_n 0, 1) := by decide +kernel
theorem dX1_init_10 : decode cX1_init 10 = .ok (.dload_n 3, 1) := by decide +kernel
theorem dX1_init_11 : decode cX1_init 11 = .ok (.putfield 13, 3) := by decide +kernel
theorem dX1_init_14 : decode cX1_init 14 = .ok (.return_, 1) := by decide +kernel
theorem dX1_set_0 : decode cX1_set 0 = .ok (.aload_n 0, 1) := by decide +kernel
theorem dX1_set_1 : decode cX1_set 1 = .ok (.dload_n 1, 1) := by decide +kernel
theorem dX1_set_2 : decode cX1_set 2 = .ok (.putfield 7, 3) := by decide +kernel
theorem dX1_set_5 : decode cX1_set 5 = .ok (.aload_n 0, 1) := by decide +kernel
theorem dX1_set_6 : decode cX1_set 6 = .ok (.dload_n 3, 1) := by decide +kernel
theorem dX1_set_7 : decode cX1_set 7 = .ok (.putfield 13, 3) := by decide +kernel
theorem dX1_set_10 : decode cX1_set 10 = .ok (.return_, 1) := by decide +kernel
theorem dX1_holds_0 : decode cX1_holds 0 = .ok (.dload_n 1, 1) := by decide +kernel
theorem dX1_holds_1 : decode cX1_holds 1 = .ok (.aload_n 0, 1) := by decide +kernel
theorem dX1_holds_2 : decode cX1_holds 2 = .ok (.getfield 7, 3) := by decide +kernel
theorem dX1_holds_5 : decode cX1_holds 5 = .ok (.dcmp .l, 1) := by decide +kernel
theorem dX1_holds_6 : decode cX1_holds 6 = .ok (.ifCond .lt 16, 3) := by decide +kernel
theorem dX1_holds_9 : decode cX1_holds 9 = .ok (.dload_n 1, 1) := by decide +kernel
theorem dX1_holds_10 : decode cX1_holds 10 = .ok (.aload_n 0, 1) := by decide +kernel
theorem dX1_holds_11 : decode cX1_holds 11 = .ok (.getfield 13, 3) := by decide +kernel
theorem dX1_holds_14 : decode cX1_holds 14 = .ok (.dcmp .g, 1) := by decide +kernel
theorem dX1_holds_15 : decode cX1_holds 15 = .ok (.ifCond .gt 7, 3) := by decide +kernel
theorem dX1_holds_18 : decode cX1_holds 18 = .ok (.iconst 1, 1) := by decide +kernel
theorem dX1_holds_19 : decode cX1_holds 19 = .ok (.goto 4, 3) := by decide +kernel
theorem dX1_holds_22 : decode cX1_holds 22 = .ok (.iconst 0, 1) := by decide +kernel
theorem dX1_holds_23 : decode cX1_holds 23 = .ok (.ireturn, 1) := by decide +kernel
theorem dX1_holdsInside_0 : decode cX1_holdsInside 0 = .ok (.dload_n 1, 1) := by decide +kernel
theorem dX1_holdsInside_1 : decode cX1_holdsInside 1 = .ok (.aload_n 0, 1) := by decide +kernel
theorem dX1_holdsInside_2 : decode cX1_holdsInside 2 = .ok (.getfield 7, 3) := by decide +kernel
theorem dX1_holdsInside_5 : decode cX1_holdsInside 5 = .ok (.dcmp .l, 1) := by decide +kernel
theorem dX1_holdsInside_6 : decode cX1_holdsInside 6 = .ok (.ifCond .le 16, 3) := by decide +kernel
theorem dX1_holdsInside_9 : decode cX1_holdsInside 9 = .ok (.dload_n 1, 1) := by decide +kernel
theorem dX1_holdsInside_10 : decode cX1_holdsInside 10 = .ok (.aload_n 0, 1) := by decide +kernel
theorem dX1_holdsInside_11 : decode cX1_holdsInside 11 = .ok (.getfield 13, 3) := by decide +kernel
theorem dX1_holdsInside_14 : decode cX1_holdsInside 14 = .ok (.dcmp .g, 1) := by decide +kernel
theorem dX1_holdsInside_15 : decode cX1_holdsInside 15 = .ok (.ifCond .ge 7, 3) := by decide +kernel
theorem dX1_holdsInside_18 : decode cX1_holdsInside 18 = .ok (.iconst 1, 1) := by decide +kernel
theorem dX1_holdsInside_19 : decode cX1_holdsInside 19 = .ok (.goto 4, 3) := by decide +kernel
theorem dX1_holdsInside_22 : decode cX1_holdsInside 22 = .ok (.iconst 0, 1) := by decide +kernel
theorem dX1_holdsInside_23 : decode cX1_holdsInside 23 = .ok (.ireturn, 1) := by decide +kernel
theorem dX1_nearest_0 : decode cX1_nearest 0 = .ok (.dload_n 1, 1) := by decide +kernel
theorem dX1_nearest_1 : decode cX1_nearest 1 = .ok (.aload_n 0, 1) := by decide +kernel
theorem dX1_nearest_2 : decode cX1_nearest 2 = .ok (.getfield 7, 3) := by decide +kernel
theorem dX1_nearest_5 : decode cX1_nearest 5 = .ok (.dcmp .g, 1) := by decide +kernel
theorem dX1_nearest_6 : decode cX1_nearest 6 = .ok (.ifCond .ge 10, 3) := by decide +kernel
theorem dX1_nearest_9 : decode cX1_nearest 9 = .ok (.aload_n 0, 1) := by decide +kernel
theorem dX1_nearest_10 : decode cX1_nearest 10 = .ok (.getfield 7, 3) := by decide +kernel
theorem dX1_nearest_13 : decode cX1_nearest 13 = .ok (.goto 20, 3) := by decide +kernel
theorem dX1_nearest_16 : decode cX1_nearest 16 = .ok (.dload_n 1, 1) := by decide +kernel
theorem dX1_nearest_17 : decode cX1_nearest 17 = .ok (.aload_n 0, 1) := by decide +kernel
theorem dX1_nearest_18 : decode cX1_nearest 18 = .ok (.getfield 13, 3) := by decide +kernel
theorem dX1_nearest_21 : decode cX1_nearest 21 = .ok (.dcmp .l, 1) := by decide +kernel
theorem dX1_nearest_22 : decode cX1_nearest 22 = .ok (.ifCond .le 10, 3) := by decide +kernel
theorem dX1_nearest_25 : decode cX1_nearest 25 = .ok (.aload_n 0, 1) := by decide +kernel
theorem dX1_nearest_26 : decode cX1_nearest 26 = .ok (.getfield 13, 3) := by decide +kernel
theorem dX1_nearest_29 : decode cX1_nearest 29 = .ok (.goto 4, 3) := by decide +kernel
theorem dX1_nearest_32 : decode cX1_nearest 32 = .ok (.dload_n 1, 1) := by decide +kernel
theorem dX1_nearest_33 : decode cX1_nearest 33 = .ok (.dreturn, 1) := by decide +kernel
theorem dX2_init_0 : decode cX2_init 0 = .ok (.aload_n 0, 1) := by decide +kernel
theorem dX2_init_1 : decode cX2_init 1 = .ok (.invokespecial 1, 3) := by decide +kernel
theorem dX2_init_4 : decode cX2_init 4 = .ok (.aload_n 0, 1) := by decide +kernel
theorem dX2_init_5 : decode cX2_init 5 = .ok (.aload_n 1, 1) := by decide +kernel
theorem dX2_init_6 : decode cX2_init 6 = .ok (.putfield 7, 3) := by decide +kernel
theorem dX2_init_9 : decode cX2_init 9 = .ok (.aload_n 0, 1) := by decide +kernel
theorem dX2_init_10 : decode cX2_init 10 = .ok (.dload_n 2, 1) := by decide +kernel
theorem dX2_init_11 : decode cX2_init 11 = .ok (.putfield 13, 3) := by decide +kernel
theorem dX2_init_14 : decode cX2_init 14 = .ok (.return_, 1) := by decide +kernel
theorem dX2_share_0 : decode cX2_share 0 = .ok (.aload_n 0, 1) := by decide +kernel
theorem dX2_share_1 : decode cX2_share 1 = .ok (.getfield 7, 3) := by decide +kernel
theorem dX2_share_4 : decode cX2_share 4 = .ok (.getfield 17, 3) := by decide +kernel
theorem dX2_share_7 : decode cX2_share 7 = .ok (.astore_n 2, 1) := by decide +kernel
theorem dX2_share_8 : decode cX2_share 8 = .ok (.aload_n 2, 1) := by decide +kernel
theorem dX2_share_9 : decode cX2_share 9 = .ok (.aload_n 0, 1) := by decide +kernel
theorem dX2_share_10 : decode cX2_share 10 = .ok (.getfield 13, 3) := by decide +kernel
theorem dX2_share_13 : decode cX2_share 13 = .ok (.invokevirtual 23, 3) := by decide +kernel
theorem dX2_share_16 : decode cX2_share 16 = .ok (.ifCond .ne 5, 3) := by decide +kernel
theorem dX2_share_19 : decode cX2_share 19 = .ok (.dconst 0, 1) := by decide +kernel
theorem dX2_share_20 : decode cX2_share 20 = .ok (.dreturn, 1) := by decide +kernel
theorem dX2_share_21 : decode cX2_share 21 = .ok (.iload_n 1, 1) := by decide +kernel
theorem dX2_share_22 : decode cX2_share 22 = .ok (.ifCond .ne 32, 3) := by decide +kernel
theorem dX2_share_25 : decode cX2_share 25 = .ok (.aload_n 0, 1) := by decide +kernel
theorem dX2_share_26 : decode cX2_share 26 = .ok (.getfield 7, 3) := by decide +kernel
theorem dX2_share_29 : decode cX2_share 29 = .ok (.getfield 29, 3) := by decide +kernel
theorem dX2_share_32 : decode cX2_share 32 = .ok (.aload_n 2, 1) := by decide +kernel
theorem dX2_share_33 : decode cX2_share 33 = .ok (.getfield 32, 3) := by decide +kernel
theorem dX2_share_36 : decode cX2_share 36 = .ok (.dsub, 1) := by decide +kernel
theorem dX2_share_37 : decode cX2_share 37 = .ok (.aload_n 0, 1) := by decide +kernel
theorem dX2_share_38 : decode cX2_share 38 = .ok (.getfield 13, 3) := by decide +kernel
theorem dX2_share_41 : decode cX2_share 41 = .ok (.aload_n 2, 1) := by decide +kernel
theorem dX2_share_42 : decode cX2_share 42 = .ok (.getfield 32, 3) := by decide +kernel
theorem dX2_share_45 : decode cX2_share 45 = .ok (.dsub, 1) := by decide +kernel
theorem dX2_share_46 : decode cX2_share 46 = .ok (.ddiv, 1) := by decide +kernel
theorem dX2_share_47 : decode cX2_share 47 = .ok (.ldc2_w 35, 3) := by decide +kernel
theorem dX2_share_50 : decode cX2_share 50 = .ok (.dmul, 1) := by decide +kernel
theorem dX2_share_51 : decode cX2_share 51 = .ok (.goto 29, 3) := by decide +kernel
theorem dX2_share_54 : decode cX2_share 54 = .ok (.aload_n 0, 1) := by decide +kernel
theorem dX2_share_55 : decode cX2_share 55 = .ok (.getfield 7, 3) := by decide +kernel
theorem dX2_share_58 : decode cX2_share 58 = .ok (.getfield 29, 3) := by decide +kernel
theorem dX2_share_61 : decode cX2_share 61 = .ok (.aload_n 0, 1) := by decide +kernel
theorem dX2_share_62 : decode cX2_share 62 = .ok (.getfield 13, 3) := by decide +kernel
theorem dX2_share_65 : decode cX2_share 65 = .ok (.dsub, 1) := by decide +kernel
theorem dX2_share_66 : decode cX2_share 66 = .ok (.aload_n 2, 1) := by decide +kernel
theorem dX2_share_67 : decode cX2_share 67 = .ok (.getfield 37, 3) := by decide +kernel
theorem dX2_share_70 : decode cX2_share 70 = .ok (.aload_n 0, 1) := by decide +kernel
theorem dX2_share_71 : decode cX2_share 71 = .ok (.getfield 13, 3) := by decide +kernel
theorem dX2_share_74 : decode cX2_share 74 = .ok (.dsub, 1) := by decide +kernel
theorem dX2_share_75 : decode cX2_share 75 = .ok (.ddiv, 1) := by decide +kernel
theorem dX2_share_76 : decode cX2_share 76 = .ok (.ldc2_w 35, 3) := by decide +kernel
theorem dX2_share_79 : decode cX2_share 79 = .ok (.dmul, 1) := by decide +kernel
theorem dX2_share_80 : decode cX2_share 80 = .ok (.dstore_n 3, 1) := by decide +kernel
theorem dX2_share_81 : decode cX2_share 81 = .ok (.dload_n 3, 1) := by decide +kernel
theorem dX2_share_82 : decode cX2_share 82 = .ok (.dconst 0, 1) := by decide +kernel
theorem dX2_share_83 : decode cX2_share 83 = .ok (.dcmp .g, 1) := by decide +kernel
theorem dX2_share_84 : decode cX2_share 84 = .ok (.ifCond .ge 7, 3) := by decide +kernel
theorem dX2_share_87 : decode cX2_share 87 = .ok (.dconst 0, 1) := by decide +kernel
theorem dX2_share_88 : decode cX2_share 88 = .ok (.goto 18, 3) := by decide +kernel
theorem dX2_share_91 : decode cX2_share 91 = .ok (.dload_n 3, 1) := by decide +kernel
theorem dX2_share_92 : decode cX2_share 92 = .ok (.ldc2_w 35, 3) := by decide +kernel
theorem dX2_share_95 : decode cX2_share 95 = .ok (.dcmp .l, 1) := by decide +kernel
theorem dX2_share_96 : decode cX2_share 96 = .ok (.ifCond .le 9, 3) := by decide +kernel
theorem dX2_share_99 : decode cX2_share 99 = .ok (.ldc2_w 35, 3) := by decide +kernel
theorem dX2_share_102 : decode cX2_share 102 = .ok (.goto 4, 3) := by decide +kernel
theorem dX2_share_105 : decode cX2_share 105 = .ok (.dload_n 3, 1) := by decide +kernel
theorem dX2_share_106 : decode cX2_share 106 = .ok (.dreturn, 1) := by decide +kernel
theorem dX3_init_0 : decode cX3_init 0 = .ok (.aload_n 0, 1) := by decide +kernel
theorem dX3_init_1 : decode cX3_init 1 = .ok (.invokespecial 1, 3) := by decide +kernel
theorem dX3_init_4 : decode cX3_init 4 = .ok (.return_, 1) := by decide +kernel
theorem dX3_run_0 : decode cX3_run 0 = .ok (.aload_n 0, 1) := by decide +kernel
theorem dX3_run_1 : decode cX3_run 1 = .ok (.dconst 0, 1) := by decide +kernel
theorem dX3_run_2 : decode cX3_run 2 = .ok (.putfield 7, 3) := by decide +kernel
theorem dX3_run_5 : decode cX3_run 5 = .ok (.aload_n 0, 1) := by decide +kernel
theorem dX3_run_6 : decode cX3_run 6 = .ok (.iconst 0, 1) := by decide +kernel
theorem dX3_run_7 : decode cX3_run 7 = .ok (.putfield 13, 3) := by decide +kernel
theorem dX3_run_10 : decode cX3_run 10 = .ok (.aload_n 0, 1) := by decide +kernel
theorem dX3_run_11 : decode cX3_run 11 = .ok (.iconst 0, 1) := by decide +kernel
theorem dX3_run_12 : decode cX3_run 12 = .ok (.putfield 17, 3) := by decide +kernel
theorem dX3_run_15 : decode cX3_run 15 = .ok (.aload_n 0, 1) := by decide +kernel
theorem dX3_run_16 : decode cX3_run 16 = .ok (.iconst 0, 1) := by decide +kernel
theorem dX3_run_17 : decode cX3_run 17 = .ok (.putfield 20, 3) := by decide +kernel
theorem dX3_run_20 : decode cX3_run 20 = .ok (.aload_n 0, 1) := by decide +kernel
theorem dX3_run_21 : decode cX3_run 21 = .ok (.iconst 0, 1) := by decide +kernel
theorem dX3_run_22 : decode cX3_run 22 = .ok (.putfield 23, 3) := by decide +kernel
theorem dX3_run_25 : decode cX3_run 25 = .ok (.iconst 0, 1) := by decide +kernel
theorem dX3_run_26 : decode cX3_run 26 = .ok (.istore_n 2, 1) := by decide +kernel
theorem dX3_run_27 : decode cX3_run 27 = .ok (.iload_n 2, 1) := by decide +kernel
theorem dX3_run_28 : decode cX3_run 28 = .ok (.iload_n 1, 1) := by decide +kernel
theorem dX3_run_29 : decode cX3_run 29 = .ok (.if_icmp .ge 14, 3) := by decide +kernel
theorem dX3_run_32 : decode cX3_run 32 = .ok (.aload_n 0, 1) := by decide +kernel
theorem dX3_run_33 : decode cX3_run 33 = .ok (.iload_n 2, 1) := by decide +kernel
theorem dX3_run_34 : decode cX3_run 34 = .ok (.invokevirtual 26, 3) := by decide +kernel
theorem dX3_run_37 : decode cX3_run 37 = .ok (.iinc 2 1, 3) := by decide +kernel
theorem dX3_run_40 : decode cX3_run 40 = .ok (.goto (-13), 3) := by decide +kernel
theorem dX3_run_43 : decode cX3_run 43 = .ok (.aload_n 0, 1) := by decide +kernel
theorem dX3_run_44 : decode cX3_run 44 = .ok (.getfield 17, 3) := by decide +kernel
theorem dX3_run_47 : decode cX3_run 47 = .ok (.ireturn, 1) := by decide +kernel
theorem dX3_step_0 : decode cX3_step 0 = .ok (.aload_n 0, 1) := by decide +kernel
theorem dX3_step_1 : decode cX3_step 1 = .ok (.getfield 7, 3) := by decide +kernel
theorem dX3_step_4 : decode cX3_step 4 = .ok (.ldc2_w 30, 3) := by decide +kernel
theorem dX3_step_7 : decode cX3_step 7 = .ok (.dcmp .g, 1) := by decide +kernel
theorem dX3_step_8 : decode cX3_step 8 = .ok (.ifCond .ge 7, 3) := by decide +kernel
theorem dX3_step_11 : decode cX3_step 11 = .ok (.iconst 1, 1) := by decide +kernel
theorem dX3_step_12 : decode cX3_step 12 = .ok (.goto 4, 3) := by decide +kernel
theorem dX3_step_15 : decode cX3_step 15 = .ok (.iconst 0, 1) := by decide +kernel
theorem dX3_step_16 : decode cX3_step 16 = .ok (.istore_n 2, 1) := by decide +kernel
theorem dX3_step_17 : decode cX3_step 17 = .ok (.iload_n 1, 1) := by decide +kernel
theorem dX3_step_18 : decode cX3_step 18 = .ok (.ifCond .le 17, 3) := by decide +kernel
theorem dX3_step_21 : decode cX3_step 21 = .ok (.iload_n 2, 1) := by decide +kernel
theorem dX3_step_22 : decode cX3_step 22 = .ok (.aload_n 0, 1) := by decide +kernel
theorem dX3_step_23 : decode cX3_step 23 = .ok (.getfield 13, 3) := by decide +kernel
theorem dX3_step_26 : decode cX3_step 26 = .ok (.iconst 1, 1) := by decide +kernel
theorem dX3_step_27 : decode cX3_step 27 = .ok (.iand, 1) := by decide +kernel
theorem dX3_step_28 : decode cX3_step 28 = .ok (.if_icmp .eq 7, 3) := by decide +kernel
theorem dX3_step_31 : decode cX3_step 31 = .ok (.iconst 1, 1) := by decide +kernel
theorem dX3_step_32 : decode cX3_step 32 = .ok (.goto 4, 3) := by decide +kernel
theorem dX3_step_35 : decode cX3_step 35 = .ok (.iconst 0, 1) := by decide +kernel
theorem dX3_step_36 : decode cX3_step 36 = .ok (.istore_n 3, 1) := by decide +kernel
theorem dX3_step_37 : decode cX3_step 37 = .ok (.iload_n 3, 1) := by decide +kernel
theorem dX3_step_38 : decode cX3_step 38 = .ok (.ifCond .eq 9, 3) := by decide +kernel
theorem dX3_step_41 : decode cX3_step 41 = .ok (.aload_n 0, 1) := by decide +kernel
theorem dX3_step_42 : decode cX3_step 42 = .ok (.iload_n 1, 1) := by decide +kernel
theorem dX3_step_43 : decode cX3_step 43 = .ok (.iload_n 2, 1) := by decide +kernel
theorem dX3_step_44 : decode cX3_step 44 = .ok (.invokevirtual 32, 3) := by decide +kernel
theorem dX3_step_47 : decode cX3_step 47 = .ok (.aload_n 0, 1) := by decide +kernel
theorem dX3_step_48 : decode cX3_step 48 = .ok (.getfield 13, 3) := by decide +kernel
theorem dX3_step_51 : decode cX3_step 51 = .ok (.iconst 3, 1) := by decide +kernel
theorem dX3_step_52 : decode cX3_step 52 = .ok (.ishr, 1) := by decide +kernel
theorem dX3_step_53 : decode cX3_step 53 = .ok (.iconst 1, 1) := by decide +kernel
theorem dX3_step_54 : decode cX3_step 54 = .ok (.iand, 1) := by decide +kernel
theorem dX3_step_55 : decode cX3_step 55 = .ok (.istore 4, 2) := by decide +kernel
theorem dX3_step_57 : decode cX3_step 57 = .ok (.aload_n 0, 1) := by decide +kernel
theorem dX3_step_58 : decode cX3_step 58 = .ok (.aload_n 0, 1) := by decide +kernel
theorem dX3_step_59 : decode cX3_step 59 = .ok (.getfield 13, 3) := by decide +kernel
theorem dX3_step_62 : decode cX3_step 62 = .ok (.iconst 1, 1) := by decide +kernel
theorem dX3_step_63 : decode cX3_step 63 = .ok (.ishl, 1) := by decide +kernel
theorem dX3_step_64 : decode cX3_step 64 = .ok (.iload_n 2, 1) := by decide +kernel
theorem dX3_step_65 : decode cX3_step 65 = .ok (.ior, 1) := by decide +kernel
theorem dX3_step_66 : decode cX3_step 66 = .ok (.bipush 15, 2) := by decide +kernel
theorem dX3_step_68 : decode cX3_step 68 = .ok (.iand, 1) := by decide +kernel
theorem dX3_step_69 : decode cX3_step 69 = .ok (.putfield 13, 3) := by decide +kernel
theorem dX3_step_72 : decode cX3_step 72 = .ok (.aload_n 0, 1) := by decide +kernel
theorem dX3_step_73 : decode cX3_step 73 = .ok (.aload_n 0, 1) := by decide +kernel
theorem dX3_step_74 : decode cX3_step 74 = .ok (.getfield 7, 3) := by decide +kernel
theorem dX3_step_77 : decode cX3_step 77 = .ok (.iload 4, 2) := by decide +kernel
theorem dX3_step_79 : decode cX3_step 79 = .ok (.i2d, 1) := by decide +kernel
theorem dX3_step_80 : decode cX3_step 80 = .ok (.aload_n 0, 1) := by decide +kernel
theorem dX3_step_81 : decode cX3_step 81 = .ok (.getfield 7, 3) := by decide +kernel
theorem dX3_step_84 : decode cX3_step 84 = .ok (.dsub, 1) := by decide +kernel
theorem dX3_step_85 : decode cX3_step 85 = .ok (.ldc2_w 36, 3) := by decide +kernel
theorem dX3_step_88 : decode cX3_step 88 = .ok (.dmul, 1) := by decide +kernel
theorem dX3_step_89 : decode cX3_step 89 = .ok (.dadd, 1) := by decide +kernel
theorem dX3_step_90 : decode cX3_step 90 = .ok (.putfield 7, 3) := by decide +kernel
theorem dX3_step_93 : decode cX3_step 93 = .ok (.aload_n 0, 1) := by decide +kernel
theorem dX3_step_94 : decode cX3_step 94 = .ok (.getfield 17, 3) := by decide +kernel
theorem dX3_step_97 : decode cX3_step 97 = .ok (.ifCond .le 24, 3) := by decide +kernel
theorem dX3_step_100 : decode cX3_step 100 = .ok (.aload_n 0, 1) := by decide +kernel
theorem dX3_step_101 : decode cX3_step 101 = .ok (.iload_n 3, 1) := by decide +kernel
theorem dX3_step_102 : decode cX3_step 102 = .ok (.ifCond .eq 15, 3) := by decide +kernel
theorem dX3_step_105 : decode cX3_step 105 = .ok (.aload_n 0, 1) := by decide +kernel
theorem dX3_step_106 : decode cX3_step 106 = .ok (.getfield 17, 3) := by decide +kernel
theorem dX3_step_109 : decode cX3_step 109 = .ok (.iconst 1, 1) := by decide +kernel
theorem dX3_step_110 : decode cX3_step 110 = .ok (.if_icmp .ne 7, 3) := by decide +kernel
theorem dX3_step_113 : decode cX3_step 113 = .ok (.iconst 1, 1) := by decide +kernel
theorem dX3_step_114 : decode cX3_step 114 = .ok (.goto 4, 3) := by decide +kernel
theorem dX3_step_117 : decode cX3_step 117 = .ok (.iconst 0, 1) := by decide +kernel
theorem dX3_step_118 : decode cX3_step 118 = .ok (.invokevirtual 38, 3) := by decide +kernel
theorem dX3_step_121 : decode cX3_step 121 = .ok (.return_, 1) := by decide +kernel
theorem dX3_countSwitch_0 : decode cX3_countSwitch 0 = .ok (.aload_n 0, 1) := by decide +kernel
theorem dX3_countSwitch_1 : decode cX3_countSwitch 1 = .ok (.dup, 1) := by decide +kernel
theorem dX3_countSwitch_2 : decode cX3_countSwitch 2 = .ok (.getfield 17, 3) := by decide +kernel
theorem dX3_countSwitch_5 : decode cX3_countSwitch 5 = .ok (.iconst 1, 1) := by decide +kernel
theorem dX3_countSwitch_6 : decode cX3_countSwitch 6 = .ok (.iadd, 1) := by decide +kernel
theorem dX3_countSwitch_7 : decode cX3_countSwitch 7 = .ok (.putfield 17, 3) := by decide +kernel
theorem dX3_countSwitch_10 : decode cX3_countSwitch 10 = .ok (.iload_n 2, 1) := by decide +kernel
theorem dX3_countSwitch_11 : decode cX3_countSwitch 11 = .ok (.iconst 1, 1) := by decide +kernel
theorem dX3_countSwitch_12 : decode cX3_countSwitch 12 = .ok (.if_icmp .ne 29, 3) := by decide +kernel
theorem dX3_countSwitch_15 : decode cX3_countSwitch 15 = .ok (.aload_n 0, 1) := by decide +kernel
theorem dX3_countSwitch_16 : decode cX3_countSwitch 16 = .ok (.aload_n 0, 1) := by decide +kernel
theorem dX3_countSwitch_17 : decode cX3_countSwitch 17 = .ok (.getfield 20, 3) := by decide +kernel
theorem dX3_countSwitch_20 : decode cX3_countSwitch 20 = .ok (.ifCond .ne 7, 3) := by decide +kernel
theorem dX3_countSwitch_23 : decode cX3_countSwitch 23 = .ok (.iconst 0, 1) := by decide +kernel
theorem dX3_countSwitch_24 : decode cX3_countSwitch 24 = .ok (.goto 9, 3) := by decide +kernel
theorem dX3_countSwitch_27 : decode cX3_countSwitch 27 = .ok (.iload_n 1, 1) := by decide +kernel
theorem dX3_countSwitch_28 : decode cX3_countSwitch 28 = .ok (.aload_n 0, 1) := by decide +kernel
theorem dX3_countSwitch_29 : decode cX3_countSwitch 29 = .ok (.getfield 20, 3) := by decide +kernel
theorem dX3_countSwitch_32 : decode cX3_countSwitch 32 = .ok (.isub, 1) := by decide +kernel
theorem dX3_countSwitch_33 : decode cX3_countSwitch 33 = .ok (.putfield 23, 3) := by decide +kernel
theorem dX3_countSwitch_36 : decode cX3_countSwitch 36 = .ok (.aload_n 0, 1) := by decide +kernel
theorem dX3_countSwitch_37 : decode cX3_countSwitch 37 = .ok (.iload_n 1, 1) := by decide +kernel
theorem dX3_countSwitch_38 : decode cX3_countSwitch 38 = .ok (.putfield 20, 3) := by decide +kernel
theorem dX3_countSwitch_41 : decode cX3_countSwitch 41 = .ok (.return_, 1) := by decide +kernel
theorem dX3_keepLevel_0 : decode cX3_keepLevel 0 = .ok (.aload_n 0, 1) := by decide +kernel
theorem dX3_keepLevel_1 : decode cX3_keepLevel 1 = .ok (.iload_n 1, 1) := by decide +kernel
theorem dX3_keepLevel_2 : decode cX3_keepLevel 2 = .ok (.ifCond .ne 15, 3) := by decide +kernel
theorem dX3_keepLevel_5 : decode cX3_keepLevel 5 = .ok (.aload_n 0, 1) := by decide +kernel
theorem dX3_keepLevel_6 : decode cX3_keepLevel 6 = .ok (.getfield 7, 3) := by decide +kernel
theorem dX3_keepLevel_9 : decode cX3_keepLevel 9 = .ok (.aload_n 0, 1) := by decide +kernel
theorem dX3_keepLevel_10 : decode cX3_keepLevel 10 = .ok (.getfield 42, 3) := by decide +kernel
theorem dX3_keepLevel_13 : decode cX3_keepLevel 13 = .ok (.dcmp .g, 1) := by decide +kernel
theorem dX3_keepLevel_14 : decode cX3_keepLevel 14 = .ok (.ifCond .ge 10, 3) := by decide +kernel
theorem dX3_keepLevel_17 : decode cX3_keepLevel 17 = .ok (.aload_n 0, 1) := by decide +kernel
theorem dX3_keepLevel_18 : decode cX3_keepLevel 18 = .ok (.getfield 7, 3) := by decide +kernel
theorem dX3_keepLevel_21 : decode cX3_keepLevel 21 = .ok (.goto 7, 3) := by decide +kernel
theorem dX3_keepLevel_24 : decode cX3_keepLevel 24 = .ok (.aload_n 0, 1) := by decide +kernel
theorem dX3_keepLevel_25 : decode cX3_keepLevel 25 = .ok (.getfield 42, 3) := by decide +kernel
theorem dX3_keepLevel_28 : decode cX3_keepLevel 28 = .ok (.putfield 42, 3) := by decide +kernel
theorem dX3_keepLevel_31 : decode cX3_keepLevel 31 = .ok (.aload_n 0, 1) := by decide +kernel
theorem dX3_keepLevel_32 : decode cX3_keepLevel 32 = .ok (.iload_n 1, 1) := by decide +kernel
theorem dX3_keepLevel_33 : decode cX3_keepLevel 33 = .ok (.ifCond .ne 15, 3) := by decide +kernel
theorem dX3_keepLevel_36 : decode cX3_keepLevel 36 = .ok (.aload_n 0, 1) := by decide +kernel
theorem dX3_keepLevel_37 : decode cX3_keepLevel 37 = .ok (.getfield 7, 3) := by decide +kernel
theorem dX3_keepLevel_40 : decode cX3_keepLevel 40 = .ok (.aload_n 0, 1) := by decide +kernel
theorem dX3_keepLevel_41 : decode cX3_keepLevel 41 = .ok (.getfield 45, 3) := by decide +kernel
theorem dX3_keepLevel_44 : decode cX3_keepLevel 44 = .ok (.dcmp .l, 1) := by decide +kernel
theorem dX3_keepLevel_45 : decode cX3_keepLevel 45 = .ok (.ifCond .le 10, 3) := by decide +kernel
theorem dX3_keepLevel_48 : decode cX3_keepLevel 48 = .ok (.aload_n 0, 1) := by decide +kernel
theorem dX3_keepLevel_49 : decode cX3_keepLevel 49 = .ok (.getfield 7, 3) := by decide +kernel
theorem dX3_keepLevel_52 : decode cX3_keepLevel 52 = .ok (.goto 7, 3) := by decide +kernel
theorem dX3_keepLevel_55 : decode cX3_keepLevel 55 = .ok (.aload_n 0, 1) := by decide +kernel
theorem dX3_keepLevel_56 : decode cX3_keepLevel 56 = .ok (.getfield 45, 3) := by decide +kernel
theorem dX3_keepLevel_59 : decode cX3_keepLevel 59 = .ok (.putfield 45, 3) := by decide +kernel
theorem dX3_keepLevel_62 : decode cX3_keepLevel 62 = .ok (.return_, 1) := by decide +kernel
theorem dX3_gain_0 : decode cX3_gain 0 = .ok (.aload_n 0, 1) := by decide +kernel
theorem dX3_gain_1 : decode cX3_gain 1 = .ok (.getfield 45, 3) := by decide +kernel
theorem dX3_gain_4 : decode cX3_gain 4 = .ok (.aload_n 0, 1) := by decide +kernel
theorem dX3_gain_5 : decode cX3_gain 5 = .ok (.getfield 42, 3) := by decide +kernel
theorem dX3_gain_8 : decode cX3_gain 8 = .ok (.dsub, 1) := by decide +kernel
theorem dX3_gain_9 : decode cX3_gain 9 = .ok (.ldc2_w 30, 3) := by decide +kernel
theorem dX3_gain_12 : decode cX3_gain 12 = .ok (.dmul, 1) := by decide +kernel
theorem dX3_gain_13 : decode cX3_gain 13 = .ok (.dstore_n 2, 1) := by decide +kernel
theorem dX3_gain_14 : decode cX3_gain 14 = .ok (.aload_n 0, 1) := by decide +kernel
theorem dX3_gain_15 : decode cX3_gain 15 = .ok (.getfield 23, 3) := by decide +kernel
theorem dX3_gain_18 : decode cX3_gain 18 = .ok (.ifCond .eq 9, 3) := by decide +kernel
theorem dX3_gain_21 : decode cX3_gain 21 = .ok (.dload_n 2, 1) := by decide +kernel
theorem dX3_gain_22 : decode cX3_gain 22 = .ok (.dconst 0, 1) := by decide +kernel
theorem dX3_gain_23 : decode cX3_gain 23 = .ok (.dcmp .g, 1) := by decide +kernel
theorem dX3_gain_24 : decode cX3_gain 24 = .ok (.ifCond .gt 5, 3) := by decide +kernel
theorem dX3_gain_27 : decode cX3_gain 27 = .ok (.dconst 0, 1) := by decide +kernel
theorem dX3_gain_28 : decode cX3_gain 28 = .ok (.dreturn, 1) := by decide +kernel
theorem dX3_gain_29 : decode cX3_gain 29 = .ok (.dconst 1, 1) := by decide +kernel
theorem dX3_gain_30 : decode cX3_gain 30 = .ok (.dload_n 2, 1) := by decide +kernel
theorem dX3_gain_31 : decode cX3_gain 31 = .ok (.ddiv, 1) := by decide +kernel
theorem dX3_gain_32 : decode cX3_gain 32 = .ok (.dstore 4, 2) := by decide +kernel
theorem dX3_gain_34 : decode cX3_gain 34 = .ok (.iload_n 1, 1) := by decide +kernel
theorem dX3_gain_35 : decode cX3_gain 35 = .ok (.tableswitch 54 0 2 #[25, 32, 41], 25) := by decide +kernel
theorem dX3_gain_60 : decode cX3_gain 60 = .ok (.ldc2_w 30, 3) := by decide +kernel
theorem dX3_gain_63 : decode cX3_gain 63 = .ok (.dload 4, 2) := by decide +kernel
theorem dX3_gain_65 : decode cX3_gain 65 = .ok (.dmul, 1) := by decide +kernel
theorem dX3_gain_66 : decode cX3_gain 66 = .ok (.dreturn, 1) := by decide +kernel
theorem dX3_gain_67 : decode cX3_gain 67 = .ok (.dload 4, 2) := by decide +kernel
theorem dX3_gain_69 : decode cX3_gain 69 = .ok (.aload_n 0, 1) := by decide +kernel
theorem dX3_gain_70 : decode cX3_gain 70 = .ok (.getfield 23, 3) := by decide +kernel
theorem dX3_gain_73 : decode cX3_gain 73 = .ok (.i2d, 1) := by decide +kernel
theorem dX3_gain_74 : decode cX3_gain 74 = .ok (.ddiv, 1) := by decide +kernel
theorem dX3_gain_75 : decode cX3_gain 75 = .ok (.dreturn, 1) := by decide +kernel
theorem dX3_gain_76 : decode cX3_gain 76 = .ok (.ldc2_w 36, 3) := by decide +kernel
theorem dX3_gain_79 : decode cX3_gain 79 = .ok (.dload 4, 2) := by decide +kernel
theorem dX3_gain_81 : decode cX3_gain 81 = .ok (.dmul, 1) := by decide +kernel
theorem dX3_gain_82 : decode cX3_gain 82 = .ok (.aload_n 0, 1) := by decide +kernel
theorem dX3_gain_83 : decode cX3_gain 83 = .ok (.getfield 23, 3) := by decide +kernel
theorem dX3_gain_86 : decode cX3_gain 86 = .ok (.i2d, 1) := by decide +kernel
theorem dX3_gain_87 : decode cX3_gain 87 = .ok (.dmul, 1) := by decide +kernel
theorem dX3_gain_88 : decode cX3_gain 88 = .ok (.dreturn, 1) := by decide +kernel
theorem dX3_gain_89 : decode cX3_gain 89 = .ok (.dconst 0, 1) := by decide +kernel
theorem dX3_gain_90 : decode cX3_gain 90 = .ok (.dreturn, 1) := by decide +kernel
theorem dX4_init_0 : decode cX4_init 0 = .ok (.aload_n 0, 1) := by decide +kernel
theorem dX4_init_1 : decode cX4_init 1 = .ok (.invokespecial 1, 3) := by decide +kernel
theorem dX4_init_4 : decode cX4_init 4 = .ok (.aload_n 0, 1) := by decide +kernel
theorem dX4_init_5 : decode cX4_init 5 = .ok (.bipush 16, 2) := by decide +kernel
theorem dX4_init_7 : decode cX4_init 7 = .ok (.anewarray 9, 3) := by decide +kernel
theorem dX4_init_10 : decode cX4_init 10 = .ok (.putfield 11, 3) := by decide +kernel
theorem dX4_init_13 : decode cX4_init 13 = .ok (.aload_n 0, 1) := by decide +kernel
theorem dX4_init_14 : decode cX4_init 14 = .ok (.bipush 16, 2) := by decide +kernel
theorem dX4_init_16 : decode cX4_init 16 = .ok (.anewarray 15, 3) := by decide +kernel
theorem dX4_init_19 : decode cX4_init 19 = .ok (.putfield 17, 3) := by decide +kernel
theorem dX4_init_22 : decode cX4_init 22 = .ok (.return_, 1) := by decide +kernel
theorem dX4_loop_0 : decode cX4_loop 0 = .ok (.dload_n 1, 1) := by decide +kernel
theorem dX4_loop_1 : decode cX4_loop 1 = .ok (.invokestatic 21, 3) := by decide +kernel
theorem dX4_loop_4 : decode cX4_loop 4 = .ok (.ifCond .eq 18, 3) := by decide +kernel
theorem dX4_loop_7 : decode cX4_loop 7 = .ok (.dload_n 3, 1) := by decide +kernel
theorem dX4_loop_8 : decode cX4_loop 8 = .ok (.invokestatic 21, 3) := by decide +kernel
theorem dX4_loop_11 : decode cX4_loop 11 = .ok (.ifCond .eq 11, 3) := by decide +kernel
theorem dX4_loop_14 : decode cX4_loop 14 = .ok (.dload 5, 2) := by decide +kernel
theorem dX4_loop_16 : decode cX4_loop 16 = .ok (.invokestatic 21, 3) := by decide +kernel
theorem dX4_loop_19 : decode cX4_loop 19 = .ok (.ifCond .ne 5, 3) := by decide +kernel
theorem dX4_loop_22 : decode cX4_loop 22 = .ok (.iconst (-1), 1) := by decide +kernel
theorem dX4_loop_23 : decode cX4_loop 23 = .ok (.ireturn, 1) := by decide +kernel
theorem dX4_loop_24 : decode cX4_loop 24 = .ok (.aload_n 0, 1) := by decide +kernel
theorem dX4_loop_25 : decode cX4_loop 25 = .ok (.getfield 25, 3) := by decide +kernel
theorem dX4_loop_28 : decode cX4_loop 28 = .ok (.aload_n 0, 1) := by decide +kernel
theorem dX4_loop_29 : decode cX4_loop 29 = .ok (.getfield 11, 3) := by decide +kernel
theorem dX4_loop_32 : decode cX4_loop 32 = .ok (.arraylength, 1) := by decide +kernel
theorem dX4_loop_33 : decode cX4_loop 33 = .ok (.if_icmp .lt 6, 3) := by decide +kernel
theorem dX4_loop_36 : decode cX4_loop 36 = .ok (.bipush (-2), 2) := by decide +kernel
theorem dX4_loop_38 : decode cX4_loop 38 = .ok (.ireturn, 1) := by decide +kernel
theorem dX4_loop_39 : decode cX4_loop 39 = .ok (.aload_n 0, 1) := by decide +kernel
theorem dX4_loop_40 : decode cX4_loop 40 = .ok (.getfield 25, 3) := by decide +kernel
theorem dX4_loop_43 : decode cX4_loop 43 = .ok (.istore 7, 2) := by decide +kernel
theorem dX4_loop_45 : decode cX4_loop 45 = .ok (.aload_n 0, 1) := by decide +kernel
theorem dX4_loop_46 : decode cX4_loop 46 = .ok (.getfield 11, 3) := by decide +kernel
theorem dX4_loop_49 : decode cX4_loop 49 = .ok (.iload 7, 2) := by decide +kernel
theorem dX4_loop_51 : decode cX4_loop 51 = .ok (.new 9, 3) := by decide +kernel
theorem dX4_loop_54 : decode cX4_loop 54 = .ok (.dup, 1) := by decide +kernel
theorem dX4_loop_55 : decode cX4_loop 55 = .ok (.dload_n 1, 1) := by decide +kernel
theorem dX4_loop_56 : decode cX4_loop 56 = .ok (.dload_n 3, 1) := by decide +kernel
theorem dX4_loop_57 : decode cX4_loop 57 = .ok (.dload 5, 2) := by decide +kernel
theorem dX4_loop_59 : decode cX4_loop 59 = .ok (.invokespecial 29, 3) := by decide +kernel
theorem dX4_loop_62 : decode cX4_loop 62 = .ok (.aastore, 1) := by decide +kernel
theorem dX4_loop_63 : decode cX4_loop 63 = .ok (.aload_n 0, 1) := by decide +kernel
theorem dX4_loop_64 : decode cX4_loop 64 = .ok (.iload 7, 2) := by decide +kernel
theorem dX4_loop_66 : decode cX4_loop 66 = .ok (.iconst 1, 1) := by decide +kernel
theorem dX4_loop_67 : decode cX4_loop 67 = .ok (.iadd, 1) := by decide +kernel
theorem dX4_loop_68 : decode cX4_loop 68 = .ok (.putfield 25, 3) := by decide +kernel
theorem dX4_loop_71 : decode cX4_loop 71 = .ok (.iload 7, 2) := by decide +kernel
theorem dX4_loop_73 : decode cX4_loop 73 = .ok (.ireturn, 1) := by decide +kernel
theorem dX4_limits_0 : decode cX4_limits 0 = .ok (.aload_n 0, 1) := by decide +kernel
theorem dX4_limits_1 : decode cX4_limits 1 = .ok (.iload_n 1, 1) := by decide +kernel
theorem dX4_limits_2 : decode cX4_limits 2 = .ok (.invokevirtual 32, 3) := by decide +kernel
theorem dX4_limits_5 : decode cX4_limits 5 = .ok (.astore 8, 2) := by decide +kernel
theorem dX4_limits_7 : decode cX4_limits 7 = .ok (.aload 8, 2) := by decide +kernel
theorem dX4_limits_9 : decode cX4_limits 9 = .ok (.ifnull 22, 3) := by decide +kernel
theorem dX4_limits_12 : decode cX4_limits 12 = .ok (.dload_n 2, 1) := by decide +kernel
theorem dX4_limits_13 : decode cX4_limits 13 = .ok (.dload 4, 2) := by decide +kernel
theorem dX4_limits_15 : decode cX4_limits 15 = .ok (.sipush 10000, 3) := by decide +kernel
theorem dX4_limits_18 : decode cX4_limits 18 = .ok (.invokestatic 36, 3) := by decide +kernel
theorem dX4_limits_21 : decode cX4_limits 21 = .ok (.ifCond .eq 10, 3) := by decide +kernel
theorem dX4_limits_24 : decode cX4_limits 24 = .ok (.dload_n 2, 1) := by decide +kernel
theorem dX4_limits_25 : decode cX4_limits 25 = .ok (.dload 4, 2) := by decide +kernel
theorem dX4_limits_27 : decode cX4_limits 27 = .ok (.dcmp .l, 1) := by decide +kernel
theorem dX4_limits_28 : decode cX4_limits 28 = .ok (.ifCond .ne 5, 3) := by decide +kernel
theorem dX4_limits_31 : decode cX4_limits 31 = .ok (.iconst 0, 1) := by decide +kernel
theorem dX4_limits_32 : decode cX4_limits 32 = .ok (.ireturn, 1) := by decide +kernel
theorem dX4_limits_33 : decode cX4_limits 33 = .ok (.dload 6, 2) := by decide +kernel
theorem dX4_limits_35 : decode cX4_limits 35 = .ok (.dconst 0, 1) := by decide +kernel
theorem dX4_limits_36 : decode cX4_limits 36 = .ok (.dcmp .g, 1) := by decide +kernel
theorem dX4_limits_37 : decode cX4_limits 37 = .ok (.ifCond .le 15, 3) := by decide +kernel
theorem dX4_limits_40 : decode cX4_limits 40 = .ok (.dload 6, 2) := by decide +kernel
theorem dX4_limits_42 : decode cX4_limits 42 = .ok (.dconst 0, 1) := by decide +kernel
theorem dX4_limits_43 : decode cX4_limits 43 = .ok (.ldc2_w 40, 3) := by decide +kernel
theorem dX4_limits_46 : decode cX4_limits 46 = .ok (.invokestatic 42, 3) := by decide +kernel
theorem dX4_limits_49 : decode cX4_limits 49 = .ok (.ifCond .ne 5, 3) := by decide +kernel
theorem dX4_limits_52 : decode cX4_limits 52 = .ok (.iconst 0, 1) := by decide +kernel
theorem dX4_limits_53 : decode cX4_limits 53 = .ok (.ireturn, 1) := by decide +kernel
theorem dX4_limits_54 : decode cX4_limits 54 = .ok (.aload 8, 2) := by decide +kernel
theorem dX4_limits_56 : decode cX4_limits 56 = .ok (.getfield 46, 3) := by decide +kernel
theorem dX4_limits_59 : decode cX4_limits 59 = .ok (.dload_n 2, 1) := by decide +kernel
theorem dX4_limits_60 : decode cX4_limits 60 = .ok (.dload 4, 2) := by decide +kernel
theorem dX4_limits_62 : decode cX4_limits 62 = .ok (.invokevirtual 50, 3) := by decide +kernel
theorem dX4_limits_65 : decode cX4_limits 65 = .ok (.aload 8, 2) := by decide +kernel
theorem dX4_limits_67 : decode cX4_limits 67 = .ok (.dload 6, 2) := by decide +kernel
theorem dX4_limits_69 : decode cX4_limits 69 = .ok (.putfield 56, 3) := by decide +kernel
theorem dX4_limits_72 : decode cX4_limits 72 = .ok (.iconst 1, 1) := by decide +kernel
end
section
theorem dX4_limits_73 : decode cX4_limits 73 = .ok (.ireturn, 1) := by decide +kernel
theorem dX4_safe_0 : decode cX4_safe 0 = .ok (.aload_n 0, 1) := by decide +kernel
theorem dX4_safe_1 : decode cX4_safe 1 = .ok (.iload_n 1, 1) := by decide +kernel
theorem dX4_safe_2 : decode cX4_safe 2 = .ok (.invokevirtual 32, 3) := by decide +kernel
theorem dX4_safe_5 : decode cX4_safe 5 = .ok (.astore 4, 2) := by decide +kernel
theorem dX4_safe_7 : decode cX4_safe 7 = .ok (.aload 4, 2) := by decide +kernel
theorem dX4_safe_9 : decode cX4_safe 9 = .ok (.ifnull 16, 3) := by decide +kernel
theorem dX4_safe_12 : decode cX4_safe 12 = .ok (.dload_n 2, 1) := by decide +kernel
theorem dX4_safe_13 : decode cX4_safe 13 = .ok (.ldc2_w 60, 3) := by decide +kernel
theorem dX4_safe_16 : decode cX4_safe 16 = .ok (.ldc2_w 40, 3) := by decide +kernel
theorem dX4_safe_19 : decode cX4_safe 19 = .ok (.invokestatic 42, 3) := by decide +kernel
theorem dX4_safe_22 : decode cX4_safe 22 = .ok (.ifCond .ne 5, 3) := by decide +kernel
theorem dX4_safe_25 : decode cX4_safe 25 = .ok (.iconst 0, 1) := by decide +kernel
theorem dX4_safe_26 : decode cX4_safe 26 = .ok (.ireturn, 1) := by decide +kernel
theorem dX4_safe_27 : decode cX4_safe 27 = .ok (.aload 4, 2) := by decide +kernel
theorem dX4_safe_29 : decode cX4_safe 29 = .ok (.dload_n 2, 1) := by decide +kernel
theorem dX4_safe_30 : decode cX4_safe 30 = .ok (.putfield 62, 3) := by decide +kernel
theorem dX4_safe_33 : decode cX4_safe 33 = .ok (.iconst 1, 1) := by decide +kernel
theorem dX4_safe_34 : decode cX4_safe 34 = .ok (.ireturn, 1) := by decide +kernel
theorem dX4_tick_0 : decode cX4_tick 0 = .ok (.aload_n 0, 1) := by decide +kernel
theorem dX4_tick_1 : decode cX4_tick 1 = .ok (.iload_n 1, 1) := by decide +kernel
theorem dX4_tick_2 : decode cX4_tick 2 = .ok (.invokevirtual 32, 3) := by decide +kernel
theorem dX4_tick_5 : decode cX4_tick 5 = .ok (.astore 6, 2) := by decide +kernel
theorem dX4_tick_7 : decode cX4_tick 7 = .ok (.aload 6, 2) := by decide +kernel
theorem dX4_tick_9 : decode cX4_tick 9 = .ok (.ifnull 18, 3) := by decide +kernel
theorem dX4_tick_12 : decode cX4_tick 12 = .ok (.dload_n 2, 1) := by decide +kernel
theorem dX4_tick_13 : decode cX4_tick 13 = .ok (.invokestatic 65, 3) := by decide +kernel
theorem dX4_tick_16 : decode cX4_tick 16 = .ok (.ifCond .eq 11, 3) := by decide +kernel
theorem dX4_tick_19 : decode cX4_tick 19 = .ok (.dload 4, 2) := by decide +kernel
theorem dX4_tick_21 : decode cX4_tick 21 = .ok (.invokestatic 65, 3) := by decide +kernel
theorem dX4_tick_24 : decode cX4_tick 24 = .ok (.ifCond .ne 5, 3) := by decide +kernel
theorem dX4_tick_27 : decode cX4_tick 27 = .ok (.dconst 0, 1) := by decide +kernel
theorem dX4_tick_28 : decode cX4_tick 28 = .ok (.dreturn, 1) := by decide +kernel
theorem dX4_tick_29 : decode cX4_tick 29 = .ok (.aload 6, 2) := by decide +kernel
theorem dX4_tick_31 : decode cX4_tick 31 = .ok (.dload_n 2, 1) := by decide +kernel
theorem dX4_tick_32 : decode cX4_tick 32 = .ok (.dload 4, 2) := by decide +kernel
theorem dX4_tick_34 : decode cX4_tick 34 = .ok (.invokevirtual 68, 3) := by decide +kernel
theorem dX4_tick_37 : decode cX4_tick 37 = .ok (.aload 6, 2) := by decide +kernel
theorem dX4_tick_39 : decode cX4_tick 39 = .ok (.getfield 71, 3) := by decide +kernel
theorem dX4_tick_42 : decode cX4_tick 42 = .ok (.dreturn, 1) := by decide +kernel
theorem dX4_mode_0 : decode cX4_mode 0 = .ok (.aload_n 0, 1) := by decide +kernel
theorem dX4_mode_1 : decode cX4_mode 1 = .ok (.iload_n 1, 1) := by decide +kernel
theorem dX4_mode_2 : decode cX4_mode 2 = .ok (.invokevirtual 32, 3) := by decide +kernel
theorem dX4_mode_5 : decode cX4_mode 5 = .ok (.astore_n 3, 1) := by decide +kernel
theorem dX4_mode_6 : decode cX4_mode 6 = .ok (.aload_n 3, 1) := by decide +kernel
theorem dX4_mode_7 : decode cX4_mode 7 = .ok (.ifnull 12, 3) := by decide +kernel
theorem dX4_mode_10 : decode cX4_mode 10 = .ok (.iload_n 2, 1) := by decide +kernel
theorem dX4_mode_11 : decode cX4_mode 11 = .ok (.ifCond .lt 8, 3) := by decide +kernel
theorem dX4_mode_14 : decode cX4_mode 14 = .ok (.iload_n 2, 1) := by decide +kernel
theorem dX4_mode_15 : decode cX4_mode 15 = .ok (.iconst 2, 1) := by decide +kernel
theorem dX4_mode_16 : decode cX4_mode 16 = .ok (.if_icmp .le 5, 3) := by decide +kernel
theorem dX4_mode_19 : decode cX4_mode 19 = .ok (.iconst 0, 1) := by decide +kernel
theorem dX4_mode_20 : decode cX4_mode 20 = .ok (.ireturn, 1) := by decide +kernel
theorem dX4_mode_21 : decode cX4_mode 21 = .ok (.aload_n 3, 1) := by decide +kernel
theorem dX4_mode_22 : decode cX4_mode 22 = .ok (.iload_n 2, 1) := by decide +kernel
theorem dX4_mode_23 : decode cX4_mode 23 = .ok (.invokevirtual 74, 3) := by decide +kernel
theorem dX4_mode_26 : decode cX4_mode 26 = .ok (.iconst 1, 1) := by decide +kernel
theorem dX4_mode_27 : decode cX4_mode 27 = .ok (.ireturn, 1) := by decide +kernel
theorem dX4_hand_0 : decode cX4_hand 0 = .ok (.aload_n 0, 1) := by decide +kernel
theorem dX4_hand_1 : decode cX4_hand 1 = .ok (.iload_n 1, 1) := by decide +kernel
theorem dX4_hand_2 : decode cX4_hand 2 = .ok (.invokevirtual 32, 3) := by decide +kernel
theorem dX4_hand_5 : decode cX4_hand 5 = .ok (.astore 4, 2) := by decide +kernel
theorem dX4_hand_7 : decode cX4_hand 7 = .ok (.aload 4, 2) := by decide +kernel
theorem dX4_hand_9 : decode cX4_hand 9 = .ok (.ifnull 23, 3) := by decide +kernel
theorem dX4_hand_12 : decode cX4_hand 12 = .ok (.aload 4, 2) := by decide +kernel
theorem dX4_hand_14 : decode cX4_hand 14 = .ok (.getfield 78, 3) := by decide +kernel
theorem dX4_hand_17 : decode cX4_hand 17 = .ok (.ifCond .ne 15, 3) := by decide +kernel
theorem dX4_hand_20 : decode cX4_hand 20 = .ok (.aload 4, 2) := by decide +kernel
theorem dX4_hand_22 : decode cX4_hand 22 = .ok (.getfield 46, 3) := by decide +kernel
theorem dX4_hand_25 : decode cX4_hand 25 = .ok (.dload_n 2, 1) := by decide +kernel
theorem dX4_hand_26 : decode cX4_hand 26 = .ok (.invokevirtual 81, 3) := by decide +kernel
theorem dX4_hand_29 : decode cX4_hand 29 = .ok (.ifCond .ne 5, 3) := by decide +kernel
theorem dX4_hand_32 : decode cX4_hand 32 = .ok (.iconst 0, 1) := by decide +kernel
theorem dX4_hand_33 : decode cX4_hand 33 = .ok (.ireturn, 1) := by decide +kernel
theorem dX4_hand_34 : decode cX4_hand 34 = .ok (.aload 4, 2) := by decide +kernel
theorem dX4_hand_36 : decode cX4_hand 36 = .ok (.dload_n 2, 1) := by decide +kernel
theorem dX4_hand_37 : decode cX4_hand 37 = .ok (.putfield 84, 3) := by decide +kernel
theorem dX4_hand_40 : decode cX4_hand 40 = .ok (.iconst 1, 1) := by decide +kernel
theorem dX4_hand_41 : decode cX4_hand 41 = .ok (.ireturn, 1) := by decide +kernel
theorem dX4_cascade_0 : decode cX4_cascade 0 = .ok (.aload_n 0, 1) := by decide +kernel
theorem dX4_cascade_1 : decode cX4_cascade 1 = .ok (.iload_n 1, 1) := by decide +kernel
theorem dX4_cascade_2 : decode cX4_cascade 2 = .ok (.invokevirtual 32, 3) := by decide +kernel
theorem dX4_cascade_5 : decode cX4_cascade 5 = .ok (.astore_n 3, 1) := by decide +kernel
theorem dX4_cascade_6 : decode cX4_cascade 6 = .ok (.aload_n 0, 1) := by decide +kernel
theorem dX4_cascade_7 : decode cX4_cascade 7 = .ok (.iload_n 2, 1) := by decide +kernel
theorem dX4_cascade_8 : decode cX4_cascade 8 = .ok (.invokevirtual 32, 3) := by decide +kernel
theorem dX4_cascade_11 : decode cX4_cascade 11 = .ok (.astore 4, 2) := by decide +kernel
theorem dX4_cascade_13 : decode cX4_cascade 13 = .ok (.aload_n 3, 1) := by decide +kernel
theorem dX4_cascade_14 : decode cX4_cascade 14 = .ok (.ifnull 17, 3) := by decide +kernel
theorem dX4_cascade_17 : decode cX4_cascade 17 = .ok (.aload 4, 2) := by decide +kernel
theorem dX4_cascade_19 : decode cX4_cascade 19 = .ok (.ifnull 12, 3) := by decide +kernel
theorem dX4_cascade_22 : decode cX4_cascade 22 = .ok (.aload_n 3, 1) := by decide +kernel
theorem dX4_cascade_23 : decode cX4_cascade 23 = .ok (.aload 4, 2) := by decide +kernel
theorem dX4_cascade_25 : decode cX4_cascade 25 = .ok (.invokestatic 87, 3) := by decide +kernel
theorem dX4_cascade_28 : decode cX4_cascade 28 = .ok (.ifCond .eq 5, 3) := by decide +kernel
theorem dX4_cascade_31 : decode cX4_cascade 31 = .ok (.iconst 0, 1) := by decide +kernel
theorem dX4_cascade_32 : decode cX4_cascade 32 = .ok (.ireturn, 1) := by decide +kernel
theorem dX4_cascade_33 : decode cX4_cascade 33 = .ok (.aload 4, 2) := by decide +kernel
theorem dX4_cascade_35 : decode cX4_cascade 35 = .ok (.aload_n 3, 1) := by decide +kernel
theorem dX4_cascade_36 : decode cX4_cascade 36 = .ok (.putfield 91, 3) := by decide +kernel
theorem dX4_cascade_39 : decode cX4_cascade 39 = .ok (.iconst 1, 1) := by decide +kernel
theorem dX4_cascade_40 : decode cX4_cascade 40 = .ok (.ireturn, 1) := by decide +kernel
theorem dX4_split_0 : decode cX4_split 0 = .ok (.aload_n 0, 1) := by decide +kernel
theorem dX4_split_1 : decode cX4_split 1 = .ok (.iload_n 1, 1) := by decide +kernel
theorem dX4_split_2 : decode cX4_split 2 = .ok (.invokevirtual 32, 3) := by decide +kernel
theorem dX4_split_5 : decode cX4_split 5 = .ok (.astore 4, 2) := by decide +kernel
theorem dX4_split_7 : decode cX4_split 7 = .ok (.aload 4, 2) := by decide +kernel
theorem dX4_split_9 : decode cX4_split 9 = .ok (.ifnull 15, 3) := by decide +kernel
theorem dX4_split_12 : decode cX4_split 12 = .ok (.aload 4, 2) := by decide +kernel
theorem dX4_split_14 : decode cX4_split 14 = .ok (.getfield 46, 3) := by decide +kernel
theorem dX4_split_17 : decode cX4_split 17 = .ok (.dload_n 2, 1) := by decide +kernel
theorem dX4_split_18 : decode cX4_split 18 = .ok (.invokevirtual 95, 3) := by decide +kernel
theorem dX4_split_21 : decode cX4_split 21 = .ok (.ifCond .ne 5, 3) := by decide +kernel
theorem dX4_split_24 : decode cX4_split 24 = .ok (.iconst (-1), 1) := by decide +kernel
theorem dX4_split_25 : decode cX4_split 25 = .ok (.ireturn, 1) := by decide +kernel
theorem dX4_split_26 : decode cX4_split 26 = .ok (.aload_n 0, 1) := by decide +kernel
theorem dX4_split_27 : decode cX4_split 27 = .ok (.getfield 98, 3) := by decide +kernel
theorem dX4_split_30 : decode cX4_split 30 = .ok (.aload_n 0, 1) := by decide +kernel
theorem dX4_split_31 : decode cX4_split 31 = .ok (.getfield 17, 3) := by decide +kernel
theorem dX4_split_34 : decode cX4_split 34 = .ok (.arraylength, 1) := by decide +kernel
theorem dX4_split_35 : decode cX4_split 35 = .ok (.if_icmp .lt 6, 3) := by decide +kernel
theorem dX4_split_38 : decode cX4_split 38 = .ok (.bipush (-2), 2) := by decide +kernel
theorem dX4_split_40 : decode cX4_split 40 = .ok (.ireturn, 1) := by decide +kernel
theorem dX4_split_41 : decode cX4_split 41 = .ok (.aload_n 0, 1) := by decide +kernel
theorem dX4_split_42 : decode cX4_split 42 = .ok (.getfield 98, 3) := by decide +kernel
theorem dX4_split_45 : decode cX4_split 45 = .ok (.istore 5, 2) := by decide +kernel
theorem dX4_split_47 : decode cX4_split 47 = .ok (.aload_n 0, 1) := by decide +kernel
theorem dX4_split_48 : decode cX4_split 48 = .ok (.getfield 17, 3) := by decide +kernel
theorem dX4_split_51 : decode cX4_split 51 = .ok (.iload 5, 2) := by decide +kernel
theorem dX4_split_53 : decode cX4_split 53 = .ok (.new 15, 3) := by decide +kernel
theorem dX4_split_56 : decode cX4_split 56 = .ok (.dup, 1) := by decide +kernel
theorem dX4_split_57 : decode cX4_split 57 = .ok (.aload 4, 2) := by decide +kernel
theorem dX4_split_59 : decode cX4_split 59 = .ok (.dload_n 2, 1) := by decide +kernel
theorem dX4_split_60 : decode cX4_split 60 = .ok (.invokespecial 101, 3) := by decide +kernel
theorem dX4_split_63 : decode cX4_split 63 = .ok (.aastore, 1) := by decide +kernel
theorem dX4_split_64 : decode cX4_split 64 = .ok (.aload_n 0, 1) := by decide +kernel
theorem dX4_split_65 : decode cX4_split 65 = .ok (.iload 5, 2) := by decide +kernel
theorem dX4_split_67 : decode cX4_split 67 = .ok (.iconst 1, 1) := by decide +kernel
theorem dX4_split_68 : decode cX4_split 68 = .ok (.iadd, 1) := by decide +kernel
theorem dX4_split_69 : decode cX4_split 69 = .ok (.putfield 98, 3) := by decide +kernel
theorem dX4_split_72 : decode cX4_split 72 = .ok (.iload 5, 2) := by decide +kernel
theorem dX4_split_74 : decode cX4_split 74 = .ok (.ireturn, 1) := by decide +kernel
theorem dX4_part_0 : decode cX4_part 0 = .ok (.aload_n 0, 1) := by decide +kernel
theorem dX4_part_1 : decode cX4_part 1 = .ok (.iload_n 1, 1) := by decide +kernel
theorem dX4_part_2 : decode cX4_part 2 = .ok (.invokevirtual 104, 3) := by decide +kernel
theorem dX4_part_5 : decode cX4_part 5 = .ok (.astore_n 3, 1) := by decide +kernel
theorem dX4_part_6 : decode cX4_part 6 = .ok (.aload_n 3, 1) := by decide +kernel
theorem dX4_part_7 : decode cX4_part 7 = .ok (.ifnull 12, 3) := by decide +kernel
theorem dX4_part_10 : decode cX4_part 10 = .ok (.iload_n 2, 1) := by decide +kernel
theorem dX4_part_11 : decode cX4_part 11 = .ok (.ifCond .lt 8, 3) := by decide +kernel
theorem dX4_part_14 : decode cX4_part 14 = .ok (.iload_n 2, 1) := by decide +kernel
theorem dX4_part_15 : decode cX4_part 15 = .ok (.iconst 1, 1) := by decide +kernel
theorem dX4_part_16 : decode cX4_part 16 = .ok (.if_icmp .le 7, 3) := by decide +kernel
theorem dX4_part_19 : decode cX4_part 19 = .ok (.ldc2_w 108, 3) := by decide +kernel
theorem dX4_part_22 : decode cX4_part 22 = .ok (.dreturn, 1) := by decide +kernel
theorem dX4_part_23 : decode cX4_part 23 = .ok (.aload_n 3, 1) := by decide +kernel
theorem dX4_part_24 : decode cX4_part 24 = .ok (.iload_n 2, 1) := by decide +kernel
theorem dX4_part_25 : decode cX4_part 25 = .ok (.invokevirtual 110, 3) := by decide +kernel
theorem dX4_part_28 : decode cX4_part 28 = .ok (.dreturn, 1) := by decide +kernel
theorem dX4_band_0 : decode cX4_band 0 = .ok (.aload_n 0, 1) := by decide +kernel
theorem dX4_band_1 : decode cX4_band 1 = .ok (.iload_n 1, 1) := by decide +kernel
theorem dX4_band_2 : decode cX4_band 2 = .ok (.invokevirtual 32, 3) := by decide +kernel
theorem dX4_band_5 : decode cX4_band 5 = .ok (.astore 6, 2) := by decide +kernel
theorem dX4_band_7 : decode cX4_band 7 = .ok (.aload 6, 2) := by decide +kernel
theorem dX4_band_9 : decode cX4_band 9 = .ok (.ifnull 15, 3) := by decide +kernel
theorem dX4_band_12 : decode cX4_band 12 = .ok (.dload_n 2, 1) := by decide +kernel
theorem dX4_band_13 : decode cX4_band 13 = .ok (.dload 4, 2) := by decide +kernel
theorem dX4_band_15 : decode cX4_band 15 = .ok (.sipush 10000, 3) := by decide +kernel
theorem dX4_band_18 : decode cX4_band 18 = .ok (.invokestatic 36, 3) := by decide +kernel
theorem dX4_band_21 : decode cX4_band 21 = .ok (.ifCond .ne 5, 3) := by decide +kernel
theorem dX4_band_24 : decode cX4_band 24 = .ok (.iconst 0, 1) := by decide +kernel
theorem dX4_band_25 : decode cX4_band 25 = .ok (.ireturn, 1) := by decide +kernel
theorem dX4_band_26 : decode cX4_band 26 = .ok (.aload 6, 2) := by decide +kernel
theorem dX4_band_28 : decode cX4_band 28 = .ok (.getfield 114, 3) := by decide +kernel
theorem dX4_band_31 : decode cX4_band 31 = .ok (.dload_n 2, 1) := by decide +kernel
theorem dX4_band_32 : decode cX4_band 32 = .ok (.dload 4, 2) := by decide +kernel
theorem dX4_band_34 : decode cX4_band 34 = .ok (.invokevirtual 50, 3) := by decide +kernel
theorem dX4_band_37 : decode cX4_band 37 = .ok (.iconst 1, 1) := by decide +kernel
theorem dX4_band_38 : decode cX4_band 38 = .ok (.ireturn, 1) := by decide +kernel
theorem dX4_tune_0 : decode cX4_tune 0 = .ok (.aload_n 0, 1) := by decide +kernel
theorem dX4_tune_1 : decode cX4_tune 1 = .ok (.iload_n 1, 1) := by decide +kernel
theorem dX4_tune_2 : decode cX4_tune 2 = .ok (.invokevirtual 32, 3) := by decide +kernel
theorem dX4_tune_5 : decode cX4_tune 5 = .ok (.astore_n 3, 1) := by decide +kernel
theorem dX4_tune_6 : decode cX4_tune 6 = .ok (.aload_n 3, 1) := by decide +kernel
theorem dX4_tune_7 : decode cX4_tune 7 = .ok (.ifnull 15, 3) := by decide +kernel
theorem dX4_tune_10 : decode cX4_tune 10 = .ok (.iload_n 2, 1) := by decide +kernel
theorem dX4_tune_11 : decode cX4_tune 11 = .ok (.iconst 1, 1) := by decide +kernel
theorem dX4_tune_12 : decode cX4_tune 12 = .ok (.if_icmp .lt 10, 3) := by decide +kernel
theorem dX4_tune_15 : decode cX4_tune 15 = .ok (.iload_n 2, 1) := by decide +kernel
theorem dX4_tune_16 : decode cX4_tune 16 = .ok (.sipush 10000, 3) := by decide +kernel
theorem dX4_tune_19 : decode cX4_tune 19 = .ok (.if_icmp .le 5, 3) := by decide +kernel
theorem dX4_tune_22 : decode cX4_tune 22 = .ok (.iconst (-1), 1) := by decide +kernel
theorem dX4_tune_23 : decode cX4_tune 23 = .ok (.ireturn, 1) := by decide +kernel
theorem dX4_tune_24 : decode cX4_tune 24 = .ok (.aload_n 3, 1) := by decide +kernel
theorem dX4_tune_25 : decode cX4_tune 25 = .ok (.getfield 117, 3) := by decide +kernel
theorem dX4_tune_28 : decode cX4_tune 28 = .ok (.iload_n 2, 1) := by decide +kernel
theorem dX4_tune_29 : decode cX4_tune 29 = .ok (.invokevirtual 121, 3) := by decide +kernel
theorem dX4_tune_32 : decode cX4_tune 32 = .ok (.ireturn, 1) := by decide +kernel
theorem dX4_tuned_0 : decode cX4_tuned 0 = .ok (.aload_n 0, 1) := by decide +kernel
theorem dX4_tuned_1 : decode cX4_tuned 1 = .ok (.iload_n 1, 1) := by decide +kernel
theorem dX4_tuned_2 : decode cX4_tuned 2 = .ok (.invokevirtual 32, 3) := by decide +kernel
theorem dX4_tuned_5 : decode cX4_tuned 5 = .ok (.astore_n 3, 1) := by decide +kernel
theorem dX4_tuned_6 : decode cX4_tuned 6 = .ok (.aload_n 3, 1) := by decide +kernel
theorem dX4_tuned_7 : decode cX4_tuned 7 = .ok (.ifnonnull 7, 3) := by decide +kernel
theorem dX4_tuned_10 : decode cX4_tuned 10 = .ok (.dconst 0, 1) := by decide +kernel
theorem dX4_tuned_11 : decode cX4_tuned 11 = .ok (.goto 11, 3) := by decide +kernel
theorem dX4_tuned_14 : decode cX4_tuned 14 = .ok (.aload_n 3, 1) := by decide +kernel
theorem dX4_tuned_15 : decode cX4_tuned 15 = .ok (.getfield 117, 3) := by decide +kernel
theorem dX4_tuned_18 : decode cX4_tuned 18 = .ok (.iload_n 2, 1) := by decide +kernel
theorem dX4_tuned_19 : decode cX4_tuned 19 = .ok (.invokevirtual 127, 3) := by decide +kernel
theorem dX4_tuned_22 : decode cX4_tuned 22 = .ok (.dreturn, 1) := by decide +kernel
theorem dX4_fault_0 : decode cX4_fault 0 = .ok (.aload_n 0, 1) := by decide +kernel
theorem dX4_fault_1 : decode cX4_fault 1 = .ok (.iload_n 1, 1) := by decide +kernel
theorem dX4_fault_2 : decode cX4_fault 2 = .ok (.invokevirtual 32, 3) := by decide +kernel
theorem dX4_fault_5 : decode cX4_fault 5 = .ok (.astore_n 2, 1) := by decide +kernel
theorem dX4_fault_6 : decode cX4_fault 6 = .ok (.aload_n 2, 1) := by decide +kernel
theorem dX4_fault_7 : decode cX4_fault 7 = .ok (.ifnonnull 7, 3) := by decide +kernel
theorem dX4_fault_10 : decode cX4_fault 10 = .ok (.iconst (-1), 1) := by decide +kernel
theorem dX4_fault_11 : decode cX4_fault 11 = .ok (.goto 7, 3) := by decide +kernel
theorem dX4_fault_14 : decode cX4_fault 14 = .ok (.aload_n 2, 1) := by decide +kernel
theorem dX4_fault_15 : decode cX4_fault 15 = .ok (.getfield 130, 3) := by decide +kernel
theorem dX4_fault_18 : decode cX4_fault 18 = .ok (.ireturn, 1) := by decide +kernel
theorem dX4_range_0 : decode cX4_range 0 = .ok (.aload_n 0, 1) := by decide +kernel
theorem dX4_range_1 : decode cX4_range 1 = .ok (.iload_n 1, 1) := by decide +kernel
theorem dX4_range_2 : decode cX4_range 2 = .ok (.invokevirtual 32, 3) := by decide +kernel
theorem dX4_range_5 : decode cX4_range 5 = .ok (.astore 6, 2) := by decide +kernel
theorem dX4_range_7 : decode cX4_range 7 = .ok (.aload 6, 2) := by decide +kernel
theorem dX4_range_9 : decode cX4_range 9 = .ok (.ifnull 14, 3) := by decide +kernel
theorem dX4_range_12 : decode cX4_range 12 = .ok (.dload_n 2, 1) := by decide +kernel
theorem dX4_range_13 : decode cX4_range 13 = .ok (.dload 4, 2) := by decide +kernel
theorem dX4_range_15 : decode cX4_range 15 = .ok (.ldc 133, 2) := by decide +kernel
theorem dX4_range_17 : decode cX4_range 17 = .ok (.invokestatic 36, 3) := by decide +kernel
theorem dX4_range_20 : decode cX4_range 20 = .ok (.ifCond .ne 5, 3) := by decide +kernel
theorem dX4_range_23 : decode cX4_range 23 = .ok (.iconst 0, 1) := by decide +kernel
theorem dX4_range_24 : decode cX4_range 24 = .ok (.ireturn, 1) := by decide +kernel
theorem dX4_range_25 : decode cX4_range 25 = .ok (.aload 6, 2) := by decide +kernel
theorem dX4_range_27 : decode cX4_range 27 = .ok (.getfield 134, 3) := by decide +kernel
theorem dX4_range_30 : decode cX4_range 30 = .ok (.dload_n 2, 1) := by decide +kernel
theorem dX4_range_31 : decode cX4_range 31 = .ok (.dload 4, 2) := by decide +kernel
theorem dX4_range_33 : decode cX4_range 33 = .ok (.invokevirtual 50, 3) := by decide +kernel
theorem dX4_range_36 : decode cX4_range 36 = .ok (.iconst 1, 1) := by decide +kernel
theorem dX4_range_37 : decode cX4_range 37 = .ok (.ireturn, 1) := by decide +kernel
theorem dX4_findLoop_0 : decode cX4_findLoop 0 = .ok (.iload_n 1, 1) := by decide +kernel
theorem dX4_findLoop_1 : decode cX4_findLoop 1 = .ok (.ifCond .lt 12, 3) := by decide +kernel
theorem dX4_findLoop_4 : decode cX4_findLoop 4 = .ok (.iload_n 1, 1) := by decide +kernel
theorem dX4_findLoop_5 : decode cX4_findLoop 5 = .ok (.aload_n 0, 1) := by decide +kernel
theorem dX4_findLoop_6 : decode cX4_findLoop 6 = .ok (.getfield 11, 3) := by decide +kernel
theorem dX4_findLoop_9 : decode cX4_findLoop 9 = .ok (.arraylength, 1) := by decide +kernel
theorem dX4_findLoop_10 : decode cX4_findLoop 10 = .ok (.if_icmp .lt 7, 3) := by decide +kernel
theorem dX4_findLoop_13 : decode cX4_findLoop 13 = .ok (.aconst_null, 1) := by decide +kernel
theorem dX4_findLoop_14 : decode cX4_findLoop 14 = .ok (.goto 9, 3) := by decide +kernel
theorem dX4_findLoop_17 : decode cX4_findLoop 17 = .ok (.aload_n 0, 1) := by decide +kernel
theorem dX4_findLoop_18 : decode cX4_findLoop 18 = .ok (.getfield 11, 3) := by decide +kernel
theorem dX4_findLoop_21 : decode cX4_findLoop 21 = .ok (.iload_n 1, 1) := by decide +kernel
theorem dX4_findLoop_22 : decode cX4_findLoop 22 = .ok (.aaload, 1) := by decide +kernel
theorem dX4_findLoop_23 : decode cX4_findLoop 23 = .ok (.areturn, 1) := by decide +kernel
theorem dX4_findSplit_0 : decode cX4_findSplit 0 = .ok (.iload_n 1, 1) := by decide +kernel
theorem dX4_findSplit_1 : decode cX4_findSplit 1 = .ok (.ifCond .lt 12, 3) := by decide +kernel
theorem dX4_findSplit_4 : decode cX4_findSplit 4 = .ok (.iload_n 1, 1) := by decide +kernel
theorem dX4_findSplit_5 : decode cX4_findSplit 5 = .ok (.aload_n 0, 1) := by decide +kernel
theorem dX4_findSplit_6 : decode cX4_findSplit 6 = .ok (.getfield 17, 3) := by decide +kernel
theorem dX4_findSplit_9 : decode cX4_findSplit 9 = .ok (.arraylength, 1) := by decide +kernel
theorem dX4_findSplit_10 : decode cX4_findSplit 10 = .ok (.if_icmp .lt 7, 3) := by decide +kernel
theorem dX4_findSplit_13 : decode cX4_findSplit 13 = .ok (.aconst_null, 1) := by decide +kernel
theorem dX4_findSplit_14 : decode cX4_findSplit 14 = .ok (.goto 9, 3) := by decide +kernel
theorem dX4_findSplit_17 : decode cX4_findSplit 17 = .ok (.aload_n 0, 1) := by decide +kernel
theorem dX4_findSplit_18 : decode cX4_findSplit 18 = .ok (.getfield 17, 3) := by decide +kernel
theorem dX4_findSplit_21 : decode cX4_findSplit 21 = .ok (.iload_n 1, 1) := by decide +kernel
theorem dX4_findSplit_22 : decode cX4_findSplit 22 = .ok (.aaload, 1) := by decide +kernel
theorem dX4_findSplit_23 : decode cX4_findSplit 23 = .ok (.areturn, 1) := by decide +kernel
theorem dX4_isWithin_0 : decode cX4_isWithin 0 = .ok (.dload_n 0, 1) := by decide +kernel
theorem dX4_isWithin_1 : decode cX4_isWithin 1 = .ok (.dload_n 2, 1) := by decide +kernel
theorem dX4_isWithin_2 : decode cX4_isWithin 2 = .ok (.dcmp .l, 1) := by decide +kernel
theorem dX4_isWithin_3 : decode cX4_isWithin 3 = .ok (.ifCond .lt 14, 3) := by decide +kernel
theorem dX4_isWithin_6 : decode cX4_isWithin 6 = .ok (.dload_n 0, 1) := by decide +kernel
theorem dX4_isWithin_7 : decode cX4_isWithin 7 = .ok (.dload 4, 2) := by decide +kernel
theorem dX4_isWithin_9 : decode cX4_isWithin 9 = .ok (.dcmp .g, 1) := by decide +kernel
theorem dX4_isWithin_10 : decode cX4_isWithin 10 = .ok (.ifCond .gt 7, 3) := by decide +kernel
theorem dX4_isWithin_13 : decode cX4_isWithin 13 = .ok (.iconst 1, 1) := by decide +kernel
theorem dX4_isWithin_14 : decode cX4_isWithin 14 = .ok (.goto 4, 3) := by decide +kernel
theorem dX4_isWithin_17 : decode cX4_isWithin 17 = .ok (.iconst 0, 1) := by decide +kernel
theorem dX4_isWithin_18 : decode cX4_isWithin 18 = .ok (.ireturn, 1) := by decide +kernel
theorem dX4_isGain_0 : decode cX4_isGain 0 = .ok (.dload_n 0, 1) := by decide +kernel
theorem dX4_isGain_1 : decode cX4_isGain 1 = .ok (.dconst 0, 1) := by decide +kernel
theorem dX4_isGain_2 : decode cX4_isGain 2 = .ok (.ldc2_w 137, 3) := by decide +kernel
theorem dX4_isGain_5 : decode cX4_isGain 5 = .ok (.invokestatic 42, 3) := by decide +kernel
theorem dX4_isGain_8 : decode cX4_isGain 8 = .ok (.ireturn, 1) := by decide +kernel
theorem dX4_isReading_0 : decode cX4_isReading 0 = .ok (.dload_n 0, 1) := by decide +kernel
theorem dX4_isReading_1 : decode cX4_isReading 1 = .ok (.ldc2_w 139, 3) := by decide +kernel
theorem dX4_isReading_4 : decode cX4_isReading 4 = .ok (.ldc2_w 141, 3) := by decide +kernel
theorem dX4_isReading_7 : decode cX4_isReading 7 = .ok (.invokestatic 42, 3) := by decide +kernel
theorem dX4_isReading_10 : decode cX4_isReading 10 = .ok (.ireturn, 1) := by decide +kernel
theorem dX4_isOrdered_0 : decode cX4_isOrdered 0 = .ok (.dload_n 0, 1) := by decide +kernel
theorem dX4_isOrdered_1 : decode cX4_isOrdered 1 = .ok (.iload 4, 2) := by decide +kernel
theorem dX4_isOrdered_3 : decode cX4_isOrdered 3 = .ok (.ineg, 1) := by decide +kernel
theorem dX4_isOrdered_4 : decode cX4_isOrdered 4 = .ok (.i2d, 1) := by decide +kernel
theorem dX4_isOrdered_5 : decode cX4_isOrdered 5 = .ok (.dcmp .l, 1) := by decide +kernel
theorem dX4_isOrdered_6 : decode cX4_isOrdered 6 = .ok (.ifCond .lt 21, 3) := by decide +kernel
theorem dX4_isOrdered_9 : decode cX4_isOrdered 9 = .ok (.dload_n 0, 1) := by decide +kernel
theorem dX4_isOrdered_10 : decode cX4_isOrdered 10 = .ok (.dload_n 2, 1) := by decide +kernel
theorem dX4_isOrdered_11 : decode cX4_isOrdered 11 = .ok (.dcmp .g, 1) := by decide +kernel
theorem dX4_isOrdered_12 : decode cX4_isOrdered 12 = .ok (.ifCond .gt 15, 3) := by decide +kernel
theorem dX4_isOrdered_15 : decode cX4_isOrdered 15 = .ok (.dload_n 2, 1) := by decide +kernel
theorem dX4_isOrdered_16 : decode cX4_isOrdered 16 = .ok (.iload 4, 2) := by decide +kernel
theorem dX4_isOrdered_18 : decode cX4_isOrdered 18 = .ok (.i2d, 1) := by decide +kernel
theorem dX4_isOrdered_19 : decode cX4_isOrdered 19 = .ok (.dcmp .g, 1) := by decide +kernel
theorem dX4_isOrdered_20 : decode cX4_isOrdered 20 = .ok (.ifCond .gt 7, 3) := by decide +kernel
theorem dX4_isOrdered_23 : decode cX4_isOrdered 23 = .ok (.iconst 1, 1) := by decide +kernel
theorem dX4_isOrdered_24 : decode cX4_isOrdered 24 = .ok (.goto 4, 3) := by decide +kernel
theorem dX4_isOrdered_27 : decode cX4_isOrdered 27 = .ok (.iconst 0, 1) := by decide +kernel
theorem dX4_isOrdered_28 : decode cX4_isOrdered 28 = .ok (.ireturn, 1) := by decide +kernel
theorem dX4_isLed_0 : decode cX4_isLed 0 = .ok (.aload_n 0, 1) := by decide +kernel
theorem dX4_isLed_1 : decode cX4_isLed 1 = .ok (.astore_n 2, 1) := by decide +kernel
theorem dX4_isLed_2 : decode cX4_isLed 2 = .ok (.iconst 0, 1) := by decide +kernel
theorem dX4_isLed_3 : decode cX4_isLed 3 = .ok (.istore_n 3, 1) := by decide +kernel
theorem dX4_isLed_4 : decode cX4_isLed 4 = .ok (.iload_n 3, 1) := by decide +kernel
theorem dX4_isLed_5 : decode cX4_isLed 5 = .ok (.bipush 16, 2) := by decide +kernel
theorem dX4_isLed_7 : decode cX4_isLed 7 = .ok (.if_icmp .ge 25, 3) := by decide +kernel
theorem dX4_isLed_10 : decode cX4_isLed 10 = .ok (.aload_n 2, 1) := by decide +kernel
theorem dX4_isLed_11 : decode cX4_isLed 11 = .ok (.ifnull 21, 3) := by decide +kernel
theorem dX4_isLed_14 : decode cX4_isLed 14 = .ok (.aload_n 2, 1) := by decide +kernel
theorem dX4_isLed_15 : decode cX4_isLed 15 = .ok (.aload_n 1, 1) := by decide +kernel
theorem dX4_isLed_16 : decode cX4_isLed 16 = .ok (.if_acmp .ne 5, 3) := by decide +kernel
theorem dX4_isLed_19 : decode cX4_isLed 19 = .ok (.iconst 1, 1) := by decide +kernel
theorem dX4_isLed_20 : decode cX4_isLed 20 = .ok (.ireturn, 1) := by decide +kernel
theorem dX4_isLed_21 : decode cX4_isLed 21 = .ok (.aload_n 2, 1) := by decide +kernel
theorem dX4_isLed_22 : decode cX4_isLed 22 = .ok (.getfield 91, 3) := by decide +kernel
theorem dX4_isLed_25 : decode cX4_isLed 25 = .ok (.astore_n 2, 1) := by decide +kernel
theorem dX4_isLed_26 : decode cX4_isLed 26 = .ok (.iinc 3 1, 3) := by decide +kernel
theorem dX4_isLed_29 : decode cX4_isLed 29 = .ok (.goto (-25), 3) := by decide +kernel
theorem dX4_isLed_32 : decode cX4_isLed 32 = .ok (.iconst 0, 1) := by decide +kernel
theorem dX4_isLed_33 : decode cX4_isLed 33 = .ok (.ireturn, 1) := by decide +kernel
theorem dX5_init_0 : decode cX5_init 0 = .ok (.aload_n 0, 1) := by decide +kernel
theorem dX5_init_1 : decode cX5_init 1 = .ok (.invokespecial 1, 3) := by decide +kernel
theorem dX5_init_4 : decode cX5_init 4 = .ok (.aload_n 0, 1) := by decide +kernel
theorem dX5_init_5 : decode cX5_init 5 = .ok (.bipush 16, 2) := by decide +kernel
theorem dX5_init_7 : decode cX5_init 7 = .ok (.newarray .double, 2) := by decide +kernel
theorem dX5_init_9 : decode cX5_init 9 = .ok (.putfield 9, 3) := by decide +kernel
theorem dX5_init_12 : decode cX5_init 12 = .ok (.aload_n 0, 1) := by decide +kernel
theorem dX5_init_13 : decode cX5_init 13 = .ok (.bipush 16, 2) := by decide +kernel
theorem dX5_init_15 : decode cX5_init 15 = .ok (.newarray .double, 2) := by decide +kernel
theorem dX5_init_17 : decode cX5_init 17 = .ok (.putfield 13, 3) := by decide +kernel
theorem dX5_init_20 : decode cX5_init 20 = .ok (.aload_n 0, 1) := by decide +kernel
theorem dX5_init_21 : decode cX5_init 21 = .ok (.bipush 16, 2) := by decide +kernel
theorem dX5_init_23 : decode cX5_init 23 = .ok (.newarray .double, 2) := by decide +kernel
theorem dX5_init_25 : decode cX5_init 25 = .ok (.putfield 16, 3) := by decide +kernel
theorem dX5_init_28 : decode cX5_init 28 = .ok (.aload_n 0, 1) := by decide +kernel
theorem dX5_init_29 : decode cX5_init 29 = .ok (.bipush 16, 2) := by decide +kernel
theorem dX5_init_31 : decode cX5_init 31 = .ok (.newarray .double, 2) := by decide +kernel
theorem dX5_init_33 : decode cX5_init 33 = .ok (.putfield 19, 3) := by decide +kernel
theorem dX5_init_36 : decode cX5_init 36 = .ok (.aload_n 0, 1) := by decide +kernel
theorem dX5_init_37 : decode cX5_init 37 = .ok (.bipush 16, 2) := by decide +kernel
theorem dX5_init_39 : decode cX5_init 39 = .ok (.newarray .double, 2) := by decide +kernel
theorem dX5_init_41 : decode cX5_init 41 = .ok (.putfield 22, 3) := by decide +kernel
theorem dX5_init_44 : decode cX5_init 44 = .ok (.aload_n 0, 1) := by decide +kernel
theorem dX5_init_45 : decode cX5_init 45 = .ok (.bipush 16, 2) := by decide +kernel
theorem dX5_init_47 : decode cX5_init 47 = .ok (.newarray .double, 2) := by decide +kernel
theorem dX5_init_49 : decode cX5_init 49 = .ok (.putfield 25, 3) := by decide +kernel
theorem dX5_init_52 : decode cX5_init 52 = .ok (.aload_n 0, 1) := by decide +kernel
theorem dX5_init_53 : decode cX5_init 53 = .ok (.bipush 16, 2) := by decide +kernel
theorem dX5_init_55 : decode cX5_init 55 = .ok (.newarray .double, 2) := by decide +kernel
theorem dX5_init_57 : decode cX5_init 57 = .ok (.putfield 28, 3) := by decide +kernel
theorem dX5_init_60 : decode cX5_init 60 = .ok (.aload_n 0, 1) := by decide +kernel
theorem dX5_init_61 : decode cX5_init 61 = .ok (.bipush 16, 2) := by decide +kernel
theorem dX5_init_63 : decode cX5_init 63 = .ok (.newarray .double, 2) := by decide +kernel
theorem dX5_init_65 : decode cX5_init 65 = .ok (.putfield 31, 3) := by decide +kernel
theorem dX5_init_68 : decode cX5_init 68 = .ok (.aload_n 0, 1) := by decide +kernel
theorem dX5_init_69 : decode cX5_init 69 = .ok (.bipush 16, 2) := by decide +kernel
theorem dX5_init_71 : decode cX5_init 71 = .ok (.newarray .double, 2) := by decide +kernel
theorem dX5_init_73 : decode cX5_init 73 = .ok (.putfield 34, 3) := by decide +kernel
theorem dX5_init_76 : decode cX5_init 76 = .ok (.aload_n 0, 1) := by decide +kernel
theorem dX5_init_77 : decode cX5_init 77 = .ok (.bipush 16, 2) := by decide +kernel
theorem dX5_init_79 : decode cX5_init 79 = .ok (.newarray .boolean, 2) := by decide +kernel
theorem dX5_init_81 : decode cX5_init 81 = .ok (.putfield 37, 3) := by decide +kernel
theorem dX5_init_84 : decode cX5_init 84 = .ok (.aload_n 0, 1) := by decide +kernel
theorem dX5_init_85 : decode cX5_init 85 = .ok (.bipush 16, 2) := by decide +kernel
theorem dX5_init_87 : decode cX5_init 87 = .ok (.newarray .double, 2) := by decide +kernel
theorem dX5_init_89 : decode cX5_init 89 = .ok (.putfield 41, 3) := by decide +kernel
theorem dX5_init_92 : decode cX5_init 92 = .ok (.aload_n 0, 1) := by decide +kernel
theorem dX5_init_93 : decode cX5_init 93 = .ok (.bipush 16, 2) := by decide +kernel
theorem dX5_init_95 : decode cX5_init 95 = .ok (.newarray .double, 2) := by decide +kernel
theorem dX5_init_97 : decode cX5_init 97 = .ok (.putfield 44, 3) := by decide +kernel
theorem dX5_init_100 : decode cX5_init 100 = .ok (.aload_n 0, 1) := by decide +kernel
theorem dX5_init_101 : decode cX5_init 101 = .ok (.bipush 16, 2) := by decide +kernel
theorem dX5_init_103 : decode cX5_init 103 = .ok (.newarray .double, 2) := by decide +kernel
theorem dX5_init_105 : decode cX5_init 105 = .ok (.putfield 47, 3) := by decide +kernel
theorem dX5_init_108 : decode cX5_init 108 = .ok (.aload_n 0, 1) := by decide +kernel
theorem dX5_init_109 : decode cX5_init 109 = .ok (.bipush 16, 2) := by decide +kernel
theorem dX5_init_111 : decode cX5_init 111 = .ok (.newarray .double, 2) := by decide +kernel
theorem dX5_init_113 : decode cX5_init 113 = .ok (.putfield 50, 3) := by decide +kernel
theorem dX5_init_116 : decode cX5_init 116 = .ok (.aload_n 0, 1) := by decide +kernel
theorem dX5_init_117 : decode cX5_init 117 = .ok (.bipush 16, 2) := by decide +kernel
theorem dX5_init_119 : decode cX5_init 119 = .ok (.newarray .double, 2) := by decide +kernel
theorem dX5_init_121 : decode cX5_init 121 = .ok (.putfield 53, 3) := by decide +kernel
theorem dX5_init_124 : decode cX5_init 124 = .ok (.aload_n 0, 1) := by decide +kernel
theorem dX5_init_125 : decode cX5_init 125 = .ok (.bipush 16, 2) := by decide +kernel
theorem dX5_init_127 : decode cX5_init 127 = .ok (.newarray .double, 2) := by decide +kernel
theorem dX5_init_129 : decode cX5_init 129 = .ok (.putfield 56, 3) := by decide +kernel
theorem dX5_init_132 : decode cX5_init 132 = .ok (.aload_n 0, 1) := by decide +kernel
theorem dX5_init_133 : decode cX5_init 133 = .ok (.bipush 16, 2) := by decide +kernel
theorem dX5_init_135 : decode cX5_init 135 = .ok (.newarray .int, 2) := by decide +kernel
theorem dX5_init_137 : decode cX5_init 137 = .ok (.putfield 59, 3) := by decide +kernel
theorem dX5_init_140 : decode cX5_init 140 = .ok (.aload_n 0, 1) := by decide +kernel
theorem dX5_init_141 : decode cX5_init 141 = .ok (.bipush 16, 2) := by decide +kernel
theorem dX5_init_143 : decode cX5_init 143 = .ok (.newarray .int, 2) := by decide +kernel
theorem dX5_init_145 : decode cX5_init 145 = .ok (.putfield 63, 3) := by decide +kernel
theorem dX5_init_148 : decode cX5_init 148 = .ok (.aload_n 0, 1) := by decide +kernel
theorem dX5_init_149 : decode cX5_init 149 = .ok (.bipush 16, 2) := by decide +kernel
theorem dX5_init_151 : decode cX5_init 151 = .ok (.newarray .int, 2) := by decide +kernel
theorem dX5_init_153 : decode cX5_init 153 = .ok (.putfield 66, 3) := by decide +kernel
theorem dX5_init_156 : decode cX5_init 156 = .ok (.aload_n 0, 1) := by decide +kernel
theorem dX5_init_157 : decode cX5_init 157 = .ok (.bipush 16, 2) := by decide +kernel
theorem dX5_init_159 : decode cX5_init 159 = .ok (.newarray .double, 2) := by decide +kernel
theorem dX5_init_161 : decode cX5_init 161 = .ok (.putfield 69, 3) := by decide +kernel
theorem dX5_init_164 : decode cX5_init 164 = .ok (.aload_n 0, 1) := by decide +kernel
theorem dX5_init_165 : decode cX5_init 165 = .ok (.bipush 16, 2) := by decide +kernel
theorem dX5_init_167 : decode cX5_init 167 = .ok (.newarray .double, 2) := by decide +kernel
theorem dX5_init_169 : decode cX5_init 169 = .ok (.putfield 72, 3) := by decide +kernel
theorem dX5_init_172 : decode cX5_init 172 = .ok (.aload_n 0, 1) := by decide +kernel
theorem dX5_init_173 : decode cX5_init 173 = .ok (.bipush 16, 2) := by decide +kernel
theorem dX5_init_175 : decode cX5_init 175 = .ok (.newarray .int, 2) := by decide +kernel
theorem dX5_init_177 : decode cX5_init 177 = .ok (.putfield 75, 3) := by decide +kernel
theorem dX5_init_180 : decode cX5_init 180 = .ok (.aload_n 0, 1) := by decide +kernel
theorem dX5_init_181 : decode cX5_init 181 = .ok (.bipush 16, 2) := by decide +kernel
theorem dX5_init_183 : decode cX5_init 183 = .ok (.newarray .int, 2) := by decide +kernel
theorem dX5_init_185 : decode cX5_init 185 = .ok (.putfield 78, 3) := by decide +kernel
theorem dX5_init_188 : decode cX5_init 188 = .ok (.aload_n 0, 1) := by decide +kernel
theorem dX5_init_189 : decode cX5_init 189 = .ok (.bipush 16, 2) := by decide +kernel
theorem dX5_init_191 : decode cX5_init 191 = .ok (.newarray .double, 2) := by decide +kernel
theorem dX5_init_193 : decode cX5_init 193 = .ok (.putfield 81, 3) := by decide +kernel
theorem dX5_init_196 : decode cX5_init 196 = .ok (.return_, 1) := by decide +kernel
theorem dX5_isLoop_0 : decode cX5_isLoop 0 = .ok (.iload_n 1, 1) := by decide +kernel
theorem dX5_isLoop_1 : decode cX5_isLoop 1 = .ok (.ifCond .lt 15, 3) := by decide +kernel
theorem dX5_isLoop_4 : decode cX5_isLoop 4 = .ok (.iload_n 1, 1) := by decide +kernel
theorem dX5_isLoop_5 : decode cX5_isLoop 5 = .ok (.aload_n 0, 1) := by decide +kernel
theorem dX5_isLoop_6 : decode cX5_isLoop 6 = .ok (.getfield 84, 3) := by decide +kernel
theorem dX5_isLoop_9 : decode cX5_isLoop 9 = .ok (.if_icmp .ge 7, 3) := by decide +kernel
theorem dX5_isLoop_12 : decode cX5_isLoop 12 = .ok (.iconst 1, 1) := by decide +kernel
theorem dX5_isLoop_13 : decode cX5_isLoop 13 = .ok (.goto 4, 3) := by decide +kernel
theorem dX5_isLoop_16 : decode cX5_isLoop 16 = .ok (.iconst 0, 1) := by decide +kernel
theorem dX5_isLoop_17 : decode cX5_isLoop 17 = .ok (.ireturn, 1) := by decide +kernel
theorem dX5_isIn_0 : decode cX5_isIn 0 = .ok (.dload_n 0, 1) := by decide +kernel
theorem dX5_isIn_1 : decode cX5_isIn 1 = .ok (.dload_n 2, 1) := by decide +kernel
theorem dX5_isIn_2 : decode cX5_isIn 2 = .ok (.dcmp .l, 1) := by decide +kernel
theorem dX5_isIn_3 : decode cX5_isIn 3 = .ok (.ifCond .lt 14, 3) := by decide +kernel
theorem dX5_isIn_6 : decode cX5_isIn 6 = .ok (.dload_n 0, 1) := by decide +kernel
theorem dX5_isIn_7 : decode cX5_isIn 7 = .ok (.dload 4, 2) := by decide +kernel
theorem dX5_isIn_9 : decode cX5_isIn 9 = .ok (.dcmp .g, 1) := by decide +kernel
theorem dX5_isIn_10 : decode cX5_isIn 10 = .ok (.ifCond .gt 7, 3) := by decide +kernel
theorem dX5_isIn_13 : decode cX5_isIn 13 = .ok (.iconst 1, 1) := by decide +kernel
theorem dX5_isIn_14 : decode cX5_isIn 14 = .ok (.goto 4, 3) := by decide +kernel
theorem dX5_isIn_17 : decode cX5_isIn 17 = .ok (.iconst 0, 1) := by decide +kernel
theorem dX5_isIn_18 : decode cX5_isIn 18 = .ok (.ireturn, 1) := by decide +kernel
theorem dX5_loop_0 : decode cX5_loop 0 = .ok (.dload_n 1, 1) := by decide +kernel
theorem dX5_loop_1 : decode cX5_loop 1 = .ok (.dconst 0, 1) := by decide +kernel
theorem dX5_loop_2 : decode cX5_loop 2 = .ok (.ldc2_w 88, 3) := by decide +kernel
theorem dX5_loop_5 : decode cX5_loop 5 = .ok (.invokestatic 90, 3) := by decide +kernel
theorem dX5_loop_8 : decode cX5_loop 8 = .ok (.ifCond .eq 26, 3) := by decide +kernel
theorem dX5_loop_11 : decode cX5_loop 11 = .ok (.dload_n 3, 1) := by decide +kernel
theorem dX5_loop_12 : decode cX5_loop 12 = .ok (.dconst 0, 1) := by decide +kernel
theorem dX5_loop_13 : decode cX5_loop 13 = .ok (.ldc2_w 88, 3) := by decide +kernel
theorem dX5_loop_16 : decode cX5_loop 16 = .ok (.invokestatic 90, 3) := by decide +kernel
theorem dX5_loop_19 : decode cX5_loop 19 = .ok (.ifCond .eq 15, 3) := by decide +kernel
theorem dX5_loop_22 : decode cX5_loop 22 = .ok (.dload 5, 2) := by decide +kernel
theorem dX5_loop_24 : decode cX5_loop 24 = .ok (.dconst 0, 1) := by decide +kernel
theorem dX5_loop_25 : decode cX5_loop 25 = .ok (.ldc2_w 88, 3) := by decide +kernel
theorem dX5_loop_28 : decode cX5_loop 28 = .ok (.invokestatic 90, 3) := by decide +kernel
theorem dX5_loop_31 : decode cX5_loop 31 = .ok (.ifCond .ne 5, 3) := by decide +kernel
theorem dX5_loop_34 : decode cX5_loop 34 = .ok (.iconst (-1), 1) := by decide +kernel
theorem dX5_loop_35 : decode cX5_loop 35 = .ok (.ireturn, 1) := by decide +kernel
theorem dX5_loop_36 : decode cX5_loop 36 = .ok (.aload_n 0, 1) := by decide +kernel
theorem dX5_loop_37 : decode cX5_loop 37 = .ok (.getfield 84, 3) := by decide +kernel
theorem dX5_loop_40 : decode cX5_loop 40 = .ok (.bipush 16, 2) := by decide +kernel
theorem dX5_loop_42 : decode cX5_loop 42 = .ok (.if_icmp .ne 6, 3) := by decide +kernel
theorem dX5_loop_45 : decode cX5_loop 45 = .ok (.bipush (-2), 2) := by decide +kernel
theorem dX5_loop_47 : decode cX5_loop 47 = .ok (.ireturn, 1) := by decide +kernel
theorem dX5_loop_48 : decode cX5_loop 48 = .ok (.aload_n 0, 1) := by decide +kernel
theorem dX5_loop_49 : decode cX5_loop 49 = .ok (.getfield 9, 3) := by decide +kernel
theorem dX5_loop_52 : decode cX5_loop 52 = .ok (.aload_n 0, 1) := by decide +kernel
theorem dX5_loop_53 : decode cX5_loop 53 = .ok (.getfield 84, 3) := by decide +kernel
theorem dX5_loop_56 : decode cX5_loop 56 = .ok (.dload_n 1, 1) := by decide +kernel
theorem dX5_loop_57 : decode cX5_loop 57 = .ok (.dastore, 1) := by decide +kernel
theorem dX5_loop_58 : decode cX5_loop 58 = .ok (.aload_n 0, 1) := by decide +kernel
theorem dX5_loop_59 : decode cX5_loop 59 = .ok (.getfield 13, 3) := by decide +kernel
theorem dX5_loop_62 : decode cX5_loop 62 = .ok (.aload_n 0, 1) := by decide +kernel
theorem dX5_loop_63 : decode cX5_loop 63 = .ok (.getfield 84, 3) := by decide +kernel
theorem dX5_loop_66 : decode cX5_loop 66 = .ok (.dload_n 3, 1) := by decide +kernel
theorem dX5_loop_67 : decode cX5_loop 67 = .ok (.dastore, 1) := by decide +kernel
theorem dX5_loop_68 : decode cX5_loop 68 = .ok (.aload_n 0, 1) := by decide +kernel
theorem dX5_loop_69 : decode cX5_loop 69 = .ok (.getfield 16, 3) := by decide +kernel
theorem dX5_loop_72 : decode cX5_loop 72 = .ok (.aload_n 0, 1) := by decide +kernel
theorem dX5_loop_73 : decode cX5_loop 73 = .ok (.getfield 84, 3) := by decide +kernel
theorem dX5_loop_76 : decode cX5_loop 76 = .ok (.dload 5, 2) := by decide +kernel
theorem dX5_loop_78 : decode cX5_loop 78 = .ok (.dastore, 1) := by decide +kernel
theorem dX5_loop_79 : decode cX5_loop 79 = .ok (.aload_n 0, 1) := by decide +kernel
theorem dX5_loop_80 : decode cX5_loop 80 = .ok (.getfield 22, 3) := by decide +kernel
theorem dX5_loop_83 : decode cX5_loop 83 = .ok (.aload_n 0, 1) := by decide +kernel
theorem dX5_loop_84 : decode cX5_loop 84 = .ok (.getfield 84, 3) := by decide +kernel
theorem dX5_loop_87 : decode cX5_loop 87 = .ok (.ldc2_w 94, 3) := by decide +kernel
theorem dX5_loop_90 : decode cX5_loop 90 = .ok (.dastore, 1) := by decide +kernel
theorem dX5_loop_91 : decode cX5_loop 91 = .ok (.aload_n 0, 1) := by decide +kernel
theorem dX5_loop_92 : decode cX5_loop 92 = .ok (.getfield 25, 3) := by decide +kernel
theorem dX5_loop_95 : decode cX5_loop 95 = .ok (.aload_n 0, 1) := by decide +kernel
theorem dX5_loop_96 : decode cX5_loop 96 = .ok (.getfield 84, 3) := by decide +kernel
theorem dX5_loop_99 : decode cX5_loop 99 = .ok (.ldc2_w 94, 3) := by decide +kernel
theorem dX5_loop_102 : decode cX5_loop 102 = .ok (.dastore, 1) := by decide +kernel
theorem dX5_loop_103 : decode cX5_loop 103 = .ok (.aload_n 0, 1) := by decide +kernel
theorem dX5_loop_104 : decode cX5_loop 104 = .ok (.getfield 31, 3) := by decide +kernel
theorem dX5_loop_107 : decode cX5_loop 107 = .ok (.aload_n 0, 1) := by decide +kernel
theorem dX5_loop_108 : decode cX5_loop 108 = .ok (.getfield 84, 3) := by decide +kernel
theorem dX5_loop_111 : decode cX5_loop 111 = .ok (.ldc2_w 96, 3) := by decide +kernel
theorem dX5_loop_114 : decode cX5_loop 114 = .ok (.dastore, 1) := by decide +kernel
theorem dX5_loop_115 : decode cX5_loop 115 = .ok (.aload_n 0, 1) := by decide +kernel
theorem dX5_loop_116 : decode cX5_loop 116 = .ok (.getfield 34, 3) := by decide +kernel
theorem dX5_loop_119 : decode cX5_loop 119 = .ok (.aload_n 0, 1) := by decide +kernel
theorem dX5_loop_120 : decode cX5_loop 120 = .ok (.getfield 84, 3) := by decide +kernel
theorem dX5_loop_123 : decode cX5_loop 123 = .ok (.dconst 1, 1) := by decide +kernel
theorem dX5_loop_124 : decode cX5_loop 124 = .ok (.dastore, 1) := by decide +kernel
theorem dX5_loop_125 : decode cX5_loop 125 = .ok (.aload_n 0, 1) := by decide +kernel
theorem dX5_loop_126 : decode cX5_loop 126 = .ok (.getfield 63, 3) := by decide +kernel
theorem dX5_loop_129 : decode cX5_loop 129 = .ok (.aload_n 0, 1) := by decide +kernel
theorem dX5_loop_130 : decode cX5_loop 130 = .ok (.getfield 84, 3) := by decide +kernel
theorem dX5_loop_133 : decode cX5_loop 133 = .ok (.iconst (-1), 1) := by decide +kernel
theorem dX5_loop_134 : decode cX5_loop 134 = .ok (.iastore, 1) := by decide +kernel
theorem dX5_loop_135 : decode cX5_loop 135 = .ok (.aload_n 0, 1) := by decide +kernel
theorem dX5_loop_136 : decode cX5_loop 136 = .ok (.dup, 1) := by decide +kernel
theorem dX5_loop_137 : decode cX5_loop 137 = .ok (.getfield 84, 3) := by decide +kernel
theorem dX5_loop_140 : decode cX5_loop 140 = .ok (.iconst 1, 1) := by decide +kernel
theorem dX5_loop_141 : decode cX5_loop 141 = .ok (.iadd, 1) := by decide +kernel
theorem dX5_loop_142 : decode cX5_loop 142 = .ok (.putfield 84, 3) := by decide +kernel
theorem dX5_loop_145 : decode cX5_loop 145 = .ok (.aload_n 0, 1) := by decide +kernel
theorem dX5_loop_146 : decode cX5_loop 146 = .ok (.getfield 84, 3) := by decide +kernel
theorem dX5_loop_149 : decode cX5_loop 149 = .ok (.iconst 1, 1) := by decide +kernel
theorem dX5_loop_150 : decode cX5_loop 150 = .ok (.isub, 1) := by decide +kernel
theorem dX5_loop_151 : decode cX5_loop 151 = .ok (.ireturn, 1) := by decide +kernel
theorem dX5_limits_0 : decode cX5_limits 0 = .ok (.aload_n 0, 1) := by decide +kernel
theorem dX5_limits_1 : decode cX5_limits 1 = .ok (.iload_n 1, 1) := by decide +kernel
theorem dX5_limits_2 : decode cX5_limits 2 = .ok (.invokevirtual 98, 3) := by decide +kernel
theorem dX5_limits_5 : decode cX5_limits 5 = .ok (.ifCond .eq 53, 3) := by decide +kernel
theorem dX5_limits_8 : decode cX5_limits 8 = .ok (.dload_n 2, 1) := by decide +kernel
theorem dX5_limits_9 : decode cX5_limits 9 = .ok (.ldc2_w 102, 3) := by decide +kernel
theorem dX5_limits_12 : decode cX5_limits 12 = .ok (.ldc2_w 104, 3) := by decide +kernel
theorem dX5_limits_15 : decode cX5_limits 15 = .ok (.invokestatic 90, 3) := by decide +kernel
theorem dX5_limits_18 : decode cX5_limits 18 = .ok (.ifCond .eq 40, 3) := by decide +kernel
theorem dX5_limits_21 : decode cX5_limits 21 = .ok (.dload 4, 2) := by decide +kernel
theorem dX5_limits_23 : decode cX5_limits 23 = .ok (.ldc2_w 102, 3) := by decide +kernel
theorem dX5_limits_26 : decode cX5_limits 26 = .ok (.ldc2_w 104, 3) := by decide +kernel
theorem dX5_limits_29 : decode cX5_limits 29 = .ok (.invokestatic 90, 3) := by decide +kernel
theorem dX5_limits_32 : decode cX5_limits 32 = .ok (.ifCond .eq 26, 3) := by decide +kernel
theorem dX5_limits_35 : decode cX5_limits 35 = .ok (.dload_n 2, 1) := by decide +kernel
theorem dX5_limits_36 : decode cX5_limits 36 = .ok (.dload 4, 2) := by decide +kernel
theorem dX5_limits_38 : decode cX5_limits 38 = .ok (.dcmp .g, 1) := by decide +kernel
theorem dX5_limits_39 : decode cX5_limits 39 = .ok (.ifCond .ge 19, 3) := by decide +kernel
theorem dX5_limits_42 : decode cX5_limits 42 = .ok (.dload 6, 2) := by decide +kernel
theorem dX5_limits_44 : decode cX5_limits 44 = .ok (.dconst 0, 1) := by decide +kernel
theorem dX5_limits_45 : decode cX5_limits 45 = .ok (.dcmp .l, 1) := by decide +kernel
theorem dX5_limits_46 : decode cX5_limits 46 = .ok (.ifCond .le 12, 3) := by decide +kernel
theorem dX5_limits_49 : decode cX5_limits 49 = .ok (.dload 6, 2) := by decide +kernel
theorem dX5_limits_51 : decode cX5_limits 51 = .ok (.ldc2_w 104, 3) := by decide +kernel
theorem dX5_limits_54 : decode cX5_limits 54 = .ok (.dcmp .l, 1) := by decide +kernel
theorem dX5_limits_55 : decode cX5_limits 55 = .ok (.ifCond .le 5, 3) := by decide +kernel
theorem dX5_limits_58 : decode cX5_limits 58 = .ok (.iconst 0, 1) := by decide +kernel
theorem dX5_limits_59 : decode cX5_limits 59 = .ok (.ireturn, 1) := by decide +kernel
theorem dX5_limits_60 : decode cX5_limits 60 = .ok (.aload_n 0, 1) := by decide +kernel
theorem dX5_limits_61 : decode cX5_limits 61 = .ok (.getfield 19, 3) := by decide +kernel
theorem dX5_limits_64 : decode cX5_limits 64 = .ok (.iload_n 1, 1) := by decide +kernel
theorem dX5_limits_65 : decode cX5_limits 65 = .ok (.dload_n 2, 1) := by decide +kernel
theorem dX5_limits_66 : decode cX5_limits 66 = .ok (.dastore, 1) := by decide +kernel
theorem dX5_limits_67 : decode cX5_limits 67 = .ok (.aload_n 0, 1) := by decide +kernel
theorem dX5_limits_68 : decode cX5_limits 68 = .ok (.getfield 22, 3) := by decide +kernel
theorem dX5_limits_71 : decode cX5_limits 71 = .ok (.iload_n 1, 1) := by decide +kernel
theorem dX5_limits_72 : decode cX5_limits 72 = .ok (.dload 4, 2) := by decide +kernel
theorem dX5_limits_74 : decode cX5_limits 74 = .ok (.dastore, 1) := by decide +kernel
theorem dX5_limits_75 : decode cX5_limits 75 = .ok (.aload_n 0, 1) := by decide +kernel
theorem dX5_limits_76 : decode cX5_limits 76 = .ok (.getfield 25, 3) := by decide +kernel
theorem dX5_limits_79 : decode cX5_limits 79 = .ok (.iload_n 1, 1) := by decide +kernel
theorem dX5_limits_80 : decode cX5_limits 80 = .ok (.dload 6, 2) := by decide +kernel
theorem dX5_limits_82 : decode cX5_limits 82 = .ok (.dastore, 1) := by decide +kernel
theorem dX5_limits_83 : decode cX5_limits 83 = .ok (.iconst 1, 1) := by decide +kernel
theorem dX5_limits_84 : decode cX5_limits 84 = .ok (.ireturn, 1) := by decide +kernel
theorem dX5_safe_0 : decode cX5_safe 0 = .ok (.aload_n 0, 1) := by decide +kernel
theorem dX5_safe_1 : decode cX5_safe 1 = .ok (.iload_n 1, 1) := by decide +kernel
theorem dX5_safe_2 : decode cX5_safe 2 = .ok (.invokevirtual 98, 3) := by decide +kernel
theorem dX5_safe_5 : decode cX5_safe 5 = .ok (.ifCond .eq 16, 3) := by decide +kernel
theorem dX5_safe_8 : decode cX5_safe 8 = .ok (.dload_n 2, 1) := by decide +kernel
theorem dX5_safe_9 : decode cX5_safe 9 = .ok (.ldc2_w 102, 3) := by decide +kernel
theorem dX5_safe_12 : decode cX5_safe 12 = .ok (.ldc2_w 104, 3) := by decide +kernel
theorem dX5_safe_15 : decode cX5_safe 15 = .ok (.invokestatic 90, 3) := by decide +kernel
theorem dX5_safe_18 : decode cX5_safe 18 = .ok (.ifCond .ne 5, 3) := by decide +kernel
theorem dX5_safe_21 : decode cX5_safe 21 = .ok (.iconst 0, 1) := by decide +kernel
theorem dX5_safe_22 : decode cX5_safe 22 = .ok (.ireturn, 1) := by decide +kernel
theorem dX5_safe_23 : decode cX5_safe 23 = .ok (.aload_n 0, 1) := by decide +kernel
theorem dX5_safe_24 : decode cX5_safe 24 = .ok (.getfield 28, 3) := by decide +kernel
theorem dX5_safe_27 : decode cX5_safe 27 = .ok (.iload_n 1, 1) := by decide +kernel
theorem dX5_safe_28 : decode cX5_safe 28 = .ok (.dload_n 2, 1) := by decide +kernel
theorem dX5_safe_29 : decode cX5_safe 29 = .ok (.dastore, 1) := by decide +kernel
theorem dX5_safe_30 : decode cX5_safe 30 = .ok (.iconst 1, 1) := by decide +kernel
theorem dX5_safe_31 : decode cX5_safe 31 = .ok (.ireturn, 1) := by decide +kernel
theorem dX5_move_0 : decode cX5_move 0 = .ok (.aload_n 0, 1) := by decide +kernel
theorem dX5_move_1 : decode cX5_move 1 = .ok (.getfield 47, 3) := by decide +kernel
theorem dX5_move_4 : decode cX5_move 4 = .ok (.iload_n 1, 1) := by decide +kernel
theorem dX5_move_5 : decode cX5_move 5 = .ok (.daload, 1) := by decide +kernel
theorem dX5_move_6 : decode cX5_move 6 = .ok (.aload_n 0, 1) := by decide +kernel
theorem dX5_move_7 : decode cX5_move 7 = .ok (.getfield 25, 3) := by decide +kernel
theorem dX5_move_10 : decode cX5_move 10 = .ok (.iload_n 1, 1) := by decide +kernel
theorem dX5_move_11 : decode cX5_move 11 = .ok (.daload, 1) := by decide +kernel
theorem dX5_move_12 : decode cX5_move 12 = .ok (.dadd, 1) := by decide +kernel
theorem dX5_move_13 : decode cX5_move 13 = .ok (.dstore 4, 2) := by decide +kernel
theorem dX5_move_15 : decode cX5_move 15 = .ok (.aload_n 0, 1) := by decide +kernel
theorem dX5_move_16 : decode cX5_move 16 = .ok (.getfield 47, 3) := by decide +kernel
theorem dX5_move_19 : decode cX5_move 19 = .ok (.iload_n 1, 1) := by decide +kernel
theorem dX5_move_20 : decode cX5_move 20 = .ok (.daload, 1) := by decide +kernel
theorem dX5_move_21 : decode cX5_move 21 = .ok (.aload_n 0, 1) := by decide +kernel
theorem dX5_move_22 : decode cX5_move 22 = .ok (.getfield 25, 3) := by decide +kernel
theorem dX5_move_25 : decode cX5_move 25 = .ok (.iload_n 1, 1) := by decide +kernel
theorem dX5_move_26 : decode cX5_move 26 = .ok (.daload, 1) := by decide +kernel
theorem dX5_move_27 : decode cX5_move 27 = .ok (.dsub, 1) := by decide +kernel
theorem dX5_move_28 : decode cX5_move 28 = .ok (.dstore 6, 2) := by decide +kernel
theorem dX5_move_30 : decode cX5_move 30 = .ok (.aload_n 0, 1) := by decide +kernel
theorem dX5_move_31 : decode cX5_move 31 = .ok (.getfield 47, 3) := by decide +kernel
theorem dX5_move_34 : decode cX5_move 34 = .ok (.iload_n 1, 1) := by decide +kernel
theorem dX5_move_35 : decode cX5_move 35 = .ok (.dload_n 2, 1) := by decide +kernel
theorem dX5_move_36 : decode cX5_move 36 = .ok (.dload 4, 2) := by decide +kernel
theorem dX5_move_38 : decode cX5_move 38 = .ok (.dcmp .l, 1) := by decide +kernel
theorem dX5_move_39 : decode cX5_move 39 = .ok (.ifCond .le 8, 3) := by decide +kernel
theorem dX5_move_42 : decode cX5_move 42 = .ok (.dload 4, 2) := by decide +kernel
theorem dX5_move_44 : decode cX5_move 44 = .ok (.goto 16, 3) := by decide +kernel
theorem dX5_move_47 : decode cX5_move 47 = .ok (.dload_n 2, 1) := by decide +kernel
theorem dX5_move_48 : decode cX5_move 48 = .ok (.dload 6, 2) := by decide +kernel
theorem dX5_move_50 : decode cX5_move 50 = .ok (.dcmp .g, 1) := by decide +kernel
theorem dX5_move_51 : decode cX5_move 51 = .ok (.ifCond .ge 8, 3) := by decide +kernel
theorem dX5_move_54 : decode cX5_move 54 = .ok (.dload 6, 2) := by decide +kernel
theorem dX5_move_56 : decode cX5_move 56 = .ok (.goto 4, 3) := by decide +kernel
theorem dX5_move_59 : decode cX5_move 59 = .ok (.dload_n 2, 1) := by decide +kernel
theorem dX5_move_60 : decode cX5_move 60 = .ok (.dastore, 1) := by decide +kernel
theorem dX5_move_61 : decode cX5_move 61 = .ok (.return_, 1) := by decide +kernel
theorem dX5_tick_0 : decode cX5_tick 0 = .ok (.aload_n 0, 1) := by decide +kernel
theorem dX5_tick_1 : decode cX5_tick 1 = .ok (.iload_n 1, 1) := by decide +kernel
theorem dX5_tick_2 : decode cX5_tick 2 = .ok (.invokevirtual 98, 3) := by decide +kernel
theorem dX5_tick_5 : decode cX5_tick 5 = .ok (.ifCond .eq 30, 3) := by decide +kernel
theorem dX5_tick_8 : decode cX5_tick 8 = .ok (.dload_n 2, 1) := by decide +kernel
theorem dX5_tick_9 : decode cX5_tick 9 = .ok (.ldc2_w 106, 3) := by decide +kernel
theorem dX5_tick_12 : decode cX5_tick 12 = .ok (.ldc2_w 108, 3) := by decide +kernel
theorem dX5_tick_15 : decode cX5_tick 15 = .ok (.invokestatic 90, 3) := by decide +kernel
theorem dX5_tick_18 : decode cX5_tick 18 = .ok (.ifCond .eq 17, 3) := by decide +kernel
theorem dX5_tick_21 : decode cX5_tick 21 = .ok (.dload 4, 2) := by decide +kernel
theorem dX5_tick_23 : decode cX5_tick 23 = .ok (.ldc2_w 106, 3) := by decide +kernel
theorem dX5_tick_26 : decode cX5_tick 26 = .ok (.ldc2_w 108, 3) := by decide +kernel
theorem dX5_tick_29 : decode cX5_tick 29 = .ok (.invokestatic 90, 3) := by decide +kernel
theorem dX5_tick_32 : decode cX5_tick 32 = .ok (.ifCond .ne 5, 3) := by decide +kernel
theorem dX5_tick_35 : decode cX5_tick 35 = .ok (.dconst 0, 1) := by decide +kernel
theorem dX5_tick_36 : decode cX5_tick 36 = .ok (.dreturn, 1) := by decide +kernel
theorem dX5_tick_37 : decode cX5_tick 37 = .ok (.aload_n 0, 1) := by decide +kernel
theorem dX5_tick_38 : decode cX5_tick 38 = .ok (.getfield 37, 3) := by decide +kernel
theorem dX5_tick_41 : decode cX5_tick 41 = .ok (.iload_n 1, 1) := by decide +kernel
theorem dX5_tick_42 : decode cX5_tick 42 = .ok (.baload, 1) := by decide +kernel
theorem dX5_tick_43 : decode cX5_tick 43 = .ok (.ifCond .eq 51, 3) := by decide +kernel
theorem dX5_tick_46 : decode cX5_tick 46 = .ok (.dload_n 2, 1) := by decide +kernel
theorem dX5_tick_47 : decode cX5_tick 47 = .ok (.aload_n 0, 1) := by decide +kernel
theorem dX5_tick_48 : decode cX5_tick 48 = .ok (.getfield 41, 3) := by decide +kernel
theorem dX5_tick_51 : decode cX5_tick 51 = .ok (.iload_n 1, 1) := by decide +kernel
theorem dX5_tick_52 : decode cX5_tick 52 = .ok (.daload, 1) := by decide +kernel
theorem dX5_tick_53 : decode cX5_tick 53 = .ok (.aload_n 0, 1) := by decide +kernel
end
section
theorem dX5_tick_54 : decode cX5_tick 54 = .ok (.getfield 44, 3) := by decide +kernel
theorem dX5_tick_57 : decode cX5_tick 57 = .ok (.iload_n 1, 1) := by decide +kernel
theorem dX5_tick_58 : decode cX5_tick 58 = .ok (.daload, 1) := by decide +kernel
theorem dX5_tick_59 : decode cX5_tick 59 = .ok (.invokestatic 90, 3) := by decide +kernel
theorem dX5_tick_62 : decode cX5_tick 62 = .ok (.ifCond .ne 32, 3) := by decide +kernel
theorem dX5_tick_65 : decode cX5_tick 65 = .ok (.aload_n 0, 1) := by decide +kernel
theorem dX5_tick_66 : decode cX5_tick 66 = .ok (.getfield 47, 3) := by decide +kernel
theorem dX5_tick_69 : decode cX5_tick 69 = .ok (.iload_n 1, 1) := by decide +kernel
theorem dX5_tick_70 : decode cX5_tick 70 = .ok (.aload_n 0, 1) := by decide +kernel
theorem dX5_tick_71 : decode cX5_tick 71 = .ok (.getfield 28, 3) := by decide +kernel
theorem dX5_tick_74 : decode cX5_tick 74 = .ok (.iload_n 1, 1) := by decide +kernel
theorem dX5_tick_75 : decode cX5_tick 75 = .ok (.daload, 1) := by decide +kernel
theorem dX5_tick_76 : decode cX5_tick 76 = .ok (.dastore, 1) := by decide +kernel
theorem dX5_tick_77 : decode cX5_tick 77 = .ok (.aload_n 0, 1) := by decide +kernel
theorem dX5_tick_78 : decode cX5_tick 78 = .ok (.getfield 66, 3) := by decide +kernel
theorem dX5_tick_81 : decode cX5_tick 81 = .ok (.iload_n 1, 1) := by decide +kernel
theorem dX5_tick_82 : decode cX5_tick 82 = .ok (.dup2, 1) := by decide +kernel
theorem dX5_tick_83 : decode cX5_tick 83 = .ok (.iaload, 1) := by decide +kernel
theorem dX5_tick_84 : decode cX5_tick 84 = .ok (.iconst 1, 1) := by decide +kernel
theorem dX5_tick_85 : decode cX5_tick 85 = .ok (.iadd, 1) := by decide +kernel
theorem dX5_tick_86 : decode cX5_tick 86 = .ok (.iastore, 1) := by decide +kernel
theorem dX5_tick_87 : decode cX5_tick 87 = .ok (.aload_n 0, 1) := by decide +kernel
theorem dX5_tick_88 : decode cX5_tick 88 = .ok (.getfield 47, 3) := by decide +kernel
theorem dX5_tick_91 : decode cX5_tick 91 = .ok (.iload_n 1, 1) := by decide +kernel
theorem dX5_tick_92 : decode cX5_tick 92 = .ok (.daload, 1) := by decide +kernel
theorem dX5_tick_93 : decode cX5_tick 93 = .ok (.dreturn, 1) := by decide +kernel
theorem dX5_tick_94 : decode cX5_tick 94 = .ok (.aload_n 0, 1) := by decide +kernel
theorem dX5_tick_95 : decode cX5_tick 95 = .ok (.getfield 63, 3) := by decide +kernel
theorem dX5_tick_98 : decode cX5_tick 98 = .ok (.iload_n 1, 1) := by decide +kernel
theorem dX5_tick_99 : decode cX5_tick 99 = .ok (.iaload, 1) := by decide +kernel
theorem dX5_tick_100 : decode cX5_tick 100 = .ok (.ifCond .lt 17, 3) := by decide +kernel
theorem dX5_tick_103 : decode cX5_tick 103 = .ok (.aload_n 0, 1) := by decide +kernel
theorem dX5_tick_104 : decode cX5_tick 104 = .ok (.getfield 47, 3) := by decide +kernel
theorem dX5_tick_107 : decode cX5_tick 107 = .ok (.aload_n 0, 1) := by decide +kernel
theorem dX5_tick_108 : decode cX5_tick 108 = .ok (.getfield 63, 3) := by decide +kernel
theorem dX5_tick_111 : decode cX5_tick 111 = .ok (.iload_n 1, 1) := by decide +kernel
theorem dX5_tick_112 : decode cX5_tick 112 = .ok (.iaload, 1) := by decide +kernel
theorem dX5_tick_113 : decode cX5_tick 113 = .ok (.daload, 1) := by decide +kernel
theorem dX5_tick_114 : decode cX5_tick 114 = .ok (.goto 5, 3) := by decide +kernel
theorem dX5_tick_117 : decode cX5_tick 117 = .ok (.dload 4, 2) := by decide +kernel
theorem dX5_tick_119 : decode cX5_tick 119 = .ok (.dload_n 2, 1) := by decide +kernel
theorem dX5_tick_120 : decode cX5_tick 120 = .ok (.dsub, 1) := by decide +kernel
theorem dX5_tick_121 : decode cX5_tick 121 = .ok (.dstore 6, 2) := by decide +kernel
theorem dX5_tick_123 : decode cX5_tick 123 = .ok (.aload_n 0, 1) := by decide +kernel
theorem dX5_tick_124 : decode cX5_tick 124 = .ok (.getfield 59, 3) := by decide +kernel
theorem dX5_tick_127 : decode cX5_tick 127 = .ok (.iload_n 1, 1) := by decide +kernel
theorem dX5_tick_128 : decode cX5_tick 128 = .ok (.iaload, 1) := by decide +kernel
theorem dX5_tick_129 : decode cX5_tick 129 = .ok (.ifCond .ne 17, 3) := by decide +kernel
theorem dX5_tick_132 : decode cX5_tick 132 = .ok (.aload_n 0, 1) := by decide +kernel
theorem dX5_tick_133 : decode cX5_tick 133 = .ok (.iload_n 1, 1) := by decide +kernel
theorem dX5_tick_134 : decode cX5_tick 134 = .ok (.aload_n 0, 1) := by decide +kernel
theorem dX5_tick_135 : decode cX5_tick 135 = .ok (.getfield 56, 3) := by decide +kernel
theorem dX5_tick_138 : decode cX5_tick 138 = .ok (.iload_n 1, 1) := by decide +kernel
theorem dX5_tick_139 : decode cX5_tick 139 = .ok (.daload, 1) := by decide +kernel
theorem dX5_tick_140 : decode cX5_tick 140 = .ok (.invokevirtual 110, 3) := by decide +kernel
theorem dX5_tick_143 : decode cX5_tick 143 = .ok (.goto 219, 3) := by decide +kernel
theorem dX5_tick_146 : decode cX5_tick 146 = .ok (.aload_n 0, 1) := by decide +kernel
theorem dX5_tick_147 : decode cX5_tick 147 = .ok (.getfield 59, 3) := by decide +kernel
theorem dX5_tick_150 : decode cX5_tick 150 = .ok (.iload_n 1, 1) := by decide +kernel
theorem dX5_tick_151 : decode cX5_tick 151 = .ok (.iaload, 1) := by decide +kernel
theorem dX5_tick_152 : decode cX5_tick 152 = .ok (.iconst 1, 1) := by decide +kernel
theorem dX5_tick_153 : decode cX5_tick 153 = .ok (.if_icmp .ne 160, 3) := by decide +kernel
theorem dX5_tick_156 : decode cX5_tick 156 = .ok (.aload_n 0, 1) := by decide +kernel
theorem dX5_tick_157 : decode cX5_tick 157 = .ok (.getfield 50, 3) := by decide +kernel
theorem dX5_tick_160 : decode cX5_tick 160 = .ok (.iload_n 1, 1) := by decide +kernel
theorem dX5_tick_161 : decode cX5_tick 161 = .ok (.daload, 1) := by decide +kernel
theorem dX5_tick_162 : decode cX5_tick 162 = .ok (.aload_n 0, 1) := by decide +kernel
theorem dX5_tick_163 : decode cX5_tick 163 = .ok (.getfield 13, 3) := by decide +kernel
theorem dX5_tick_166 : decode cX5_tick 166 = .ok (.iload_n 1, 1) := by decide +kernel
theorem dX5_tick_167 : decode cX5_tick 167 = .ok (.daload, 1) := by decide +kernel
theorem dX5_tick_168 : decode cX5_tick 168 = .ok (.dload 6, 2) := by decide +kernel
theorem dX5_tick_170 : decode cX5_tick 170 = .ok (.dmul, 1) := by decide +kernel
theorem dX5_tick_171 : decode cX5_tick 171 = .ok (.dadd, 1) := by decide +kernel
theorem dX5_tick_172 : decode cX5_tick 172 = .ok (.dstore 8, 2) := by decide +kernel
theorem dX5_tick_174 : decode cX5_tick 174 = .ok (.aload_n 0, 1) := by decide +kernel
theorem dX5_tick_175 : decode cX5_tick 175 = .ok (.getfield 9, 3) := by decide +kernel
theorem dX5_tick_178 : decode cX5_tick 178 = .ok (.iload_n 1, 1) := by decide +kernel
theorem dX5_tick_179 : decode cX5_tick 179 = .ok (.daload, 1) := by decide +kernel
theorem dX5_tick_180 : decode cX5_tick 180 = .ok (.dload 6, 2) := by decide +kernel
theorem dX5_tick_182 : decode cX5_tick 182 = .ok (.dmul, 1) := by decide +kernel
theorem dX5_tick_183 : decode cX5_tick 183 = .ok (.dload 8, 2) := by decide +kernel
theorem dX5_tick_185 : decode cX5_tick 185 = .ok (.dadd, 1) := by decide +kernel
theorem dX5_tick_186 : decode cX5_tick 186 = .ok (.aload_n 0, 1) := by decide +kernel
theorem dX5_tick_187 : decode cX5_tick 187 = .ok (.getfield 16, 3) := by decide +kernel
theorem dX5_tick_190 : decode cX5_tick 190 = .ok (.iload_n 1, 1) := by decide +kernel
theorem dX5_tick_191 : decode cX5_tick 191 = .ok (.daload, 1) := by decide +kernel
theorem dX5_tick_192 : decode cX5_tick 192 = .ok (.dload 6, 2) := by decide +kernel
theorem dX5_tick_194 : decode cX5_tick 194 = .ok (.aload_n 0, 1) := by decide +kernel
theorem dX5_tick_195 : decode cX5_tick 195 = .ok (.getfield 53, 3) := by decide +kernel
theorem dX5_tick_198 : decode cX5_tick 198 = .ok (.iload_n 1, 1) := by decide +kernel
theorem dX5_tick_199 : decode cX5_tick 199 = .ok (.daload, 1) := by decide +kernel
theorem dX5_tick_200 : decode cX5_tick 200 = .ok (.dsub, 1) := by decide +kernel
theorem dX5_tick_201 : decode cX5_tick 201 = .ok (.dmul, 1) := by decide +kernel
theorem dX5_tick_202 : decode cX5_tick 202 = .ok (.dadd, 1) := by decide +kernel
theorem dX5_tick_203 : decode cX5_tick 203 = .ok (.dstore 10, 2) := by decide +kernel
theorem dX5_tick_205 : decode cX5_tick 205 = .ok (.dload 10, 2) := by decide +kernel
theorem dX5_tick_207 : decode cX5_tick 207 = .ok (.aload_n 0, 1) := by decide +kernel
theorem dX5_tick_208 : decode cX5_tick 208 = .ok (.getfield 22, 3) := by decide +kernel
theorem dX5_tick_211 : decode cX5_tick 211 = .ok (.iload_n 1, 1) := by decide +kernel
theorem dX5_tick_212 : decode cX5_tick 212 = .ok (.daload, 1) := by decide +kernel
theorem dX5_tick_213 : decode cX5_tick 213 = .ok (.dcmp .l, 1) := by decide +kernel
theorem dX5_tick_214 : decode cX5_tick 214 = .ok (.ifCond .le 7, 3) := by decide +kernel
theorem dX5_tick_217 : decode cX5_tick 217 = .ok (.iconst 1, 1) := by decide +kernel
theorem dX5_tick_218 : decode cX5_tick 218 = .ok (.goto 4, 3) := by decide +kernel
theorem dX5_tick_221 : decode cX5_tick 221 = .ok (.iconst 0, 1) := by decide +kernel
theorem dX5_tick_222 : decode cX5_tick 222 = .ok (.istore 12, 2) := by decide +kernel
theorem dX5_tick_224 : decode cX5_tick 224 = .ok (.dload 10, 2) := by decide +kernel
theorem dX5_tick_226 : decode cX5_tick 226 = .ok (.aload_n 0, 1) := by decide +kernel
theorem dX5_tick_227 : decode cX5_tick 227 = .ok (.getfield 19, 3) := by decide +kernel
theorem dX5_tick_230 : decode cX5_tick 230 = .ok (.iload_n 1, 1) := by decide +kernel
theorem dX5_tick_231 : decode cX5_tick 231 = .ok (.daload, 1) := by decide +kernel
theorem dX5_tick_232 : decode cX5_tick 232 = .ok (.dcmp .g, 1) := by decide +kernel
theorem dX5_tick_233 : decode cX5_tick 233 = .ok (.ifCond .ge 7, 3) := by decide +kernel
theorem dX5_tick_236 : decode cX5_tick 236 = .ok (.iconst 1, 1) := by decide +kernel
theorem dX5_tick_237 : decode cX5_tick 237 = .ok (.goto 4, 3) := by decide +kernel
theorem dX5_tick_240 : decode cX5_tick 240 = .ok (.iconst 0, 1) := by decide +kernel
theorem dX5_tick_241 : decode cX5_tick 241 = .ok (.istore 13, 2) := by decide +kernel
theorem dX5_tick_243 : decode cX5_tick 243 = .ok (.iload 12, 2) := by decide +kernel
theorem dX5_tick_245 : decode cX5_tick 245 = .ok (.ifCond .eq 10, 3) := by decide +kernel
theorem dX5_tick_248 : decode cX5_tick 248 = .ok (.dload 6, 2) := by decide +kernel
theorem dX5_tick_250 : decode cX5_tick 250 = .ok (.dconst 0, 1) := by decide +kernel
theorem dX5_tick_251 : decode cX5_tick 251 = .ok (.dcmp .l, 1) := by decide +kernel
theorem dX5_tick_252 : decode cX5_tick 252 = .ok (.ifCond .gt 23, 3) := by decide +kernel
theorem dX5_tick_255 : decode cX5_tick 255 = .ok (.iload 13, 2) := by decide +kernel
theorem dX5_tick_257 : decode cX5_tick 257 = .ok (.ifCond .eq 10, 3) := by decide +kernel
theorem dX5_tick_260 : decode cX5_tick 260 = .ok (.dload 6, 2) := by decide +kernel
theorem dX5_tick_262 : decode cX5_tick 262 = .ok (.dconst 0, 1) := by decide +kernel
theorem dX5_tick_263 : decode cX5_tick 263 = .ok (.dcmp .g, 1) := by decide +kernel
theorem dX5_tick_264 : decode cX5_tick 264 = .ok (.ifCond .lt 11, 3) := by decide +kernel
theorem dX5_tick_267 : decode cX5_tick 267 = .ok (.aload_n 0, 1) := by decide +kernel
theorem dX5_tick_268 : decode cX5_tick 268 = .ok (.getfield 50, 3) := by decide +kernel
theorem dX5_tick_271 : decode cX5_tick 271 = .ok (.iload_n 1, 1) := by decide +kernel
theorem dX5_tick_272 : decode cX5_tick 272 = .ok (.dload 8, 2) := by decide +kernel
theorem dX5_tick_274 : decode cX5_tick 274 = .ok (.dastore, 1) := by decide +kernel
theorem dX5_tick_275 : decode cX5_tick 275 = .ok (.aload_n 0, 1) := by decide +kernel
theorem dX5_tick_276 : decode cX5_tick 276 = .ok (.iload_n 1, 1) := by decide +kernel
theorem dX5_tick_277 : decode cX5_tick 277 = .ok (.iload 13, 2) := by decide +kernel
theorem dX5_tick_279 : decode cX5_tick 279 = .ok (.ifCond .eq 12, 3) := by decide +kernel
theorem dX5_tick_282 : decode cX5_tick 282 = .ok (.aload_n 0, 1) := by decide +kernel
theorem dX5_tick_283 : decode cX5_tick 283 = .ok (.getfield 19, 3) := by decide +kernel
theorem dX5_tick_286 : decode cX5_tick 286 = .ok (.iload_n 1, 1) := by decide +kernel
theorem dX5_tick_287 : decode cX5_tick 287 = .ok (.daload, 1) := by decide +kernel
theorem dX5_tick_288 : decode cX5_tick 288 = .ok (.goto 19, 3) := by decide +kernel
theorem dX5_tick_291 : decode cX5_tick 291 = .ok (.iload 12, 2) := by decide +kernel
theorem dX5_tick_293 : decode cX5_tick 293 = .ok (.ifCond .eq 12, 3) := by decide +kernel
theorem dX5_tick_296 : decode cX5_tick 296 = .ok (.aload_n 0, 1) := by decide +kernel
theorem dX5_tick_297 : decode cX5_tick 297 = .ok (.getfield 22, 3) := by decide +kernel
theorem dX5_tick_300 : decode cX5_tick 300 = .ok (.iload_n 1, 1) := by decide +kernel
theorem dX5_tick_301 : decode cX5_tick 301 = .ok (.daload, 1) := by decide +kernel
theorem dX5_tick_302 : decode cX5_tick 302 = .ok (.goto 5, 3) := by decide +kernel
theorem dX5_tick_305 : decode cX5_tick 305 = .ok (.dload 10, 2) := by decide +kernel
theorem dX5_tick_307 : decode cX5_tick 307 = .ok (.invokevirtual 110, 3) := by decide +kernel
theorem dX5_tick_310 : decode cX5_tick 310 = .ok (.goto 52, 3) := by decide +kernel
theorem dX5_tick_313 : decode cX5_tick 313 = .ok (.dload 6, 2) := by decide +kernel
theorem dX5_tick_315 : decode cX5_tick 315 = .ok (.aload_n 0, 1) := by decide +kernel
theorem dX5_tick_316 : decode cX5_tick 316 = .ok (.getfield 34, 3) := by decide +kernel
theorem dX5_tick_319 : decode cX5_tick 319 = .ok (.iload_n 1, 1) := by decide +kernel
theorem dX5_tick_320 : decode cX5_tick 320 = .ok (.daload, 1) := by decide +kernel
theorem dX5_tick_321 : decode cX5_tick 321 = .ok (.dcmp .l, 1) := by decide +kernel
theorem dX5_tick_322 : decode cX5_tick 322 = .ok (.ifCond .le 17, 3) := by decide +kernel
theorem dX5_tick_325 : decode cX5_tick 325 = .ok (.aload_n 0, 1) := by decide +kernel
theorem dX5_tick_326 : decode cX5_tick 326 = .ok (.iload_n 1, 1) := by decide +kernel
theorem dX5_tick_327 : decode cX5_tick 327 = .ok (.aload_n 0, 1) := by decide +kernel
theorem dX5_tick_328 : decode cX5_tick 328 = .ok (.getfield 22, 3) := by decide +kernel
theorem dX5_tick_331 : decode cX5_tick 331 = .ok (.iload_n 1, 1) := by decide +kernel
theorem dX5_tick_332 : decode cX5_tick 332 = .ok (.daload, 1) := by decide +kernel
theorem dX5_tick_333 : decode cX5_tick 333 = .ok (.invokevirtual 110, 3) := by decide +kernel
theorem dX5_tick_336 : decode cX5_tick 336 = .ok (.goto 26, 3) := by decide +kernel
theorem dX5_tick_339 : decode cX5_tick 339 = .ok (.dload 6, 2) := by decide +kernel
theorem dX5_tick_341 : decode cX5_tick 341 = .ok (.aload_n 0, 1) := by decide +kernel
theorem dX5_tick_342 : decode cX5_tick 342 = .ok (.getfield 31, 3) := by decide +kernel
theorem dX5_tick_345 : decode cX5_tick 345 = .ok (.iload_n 1, 1) := by decide +kernel
theorem dX5_tick_346 : decode cX5_tick 346 = .ok (.daload, 1) := by decide +kernel
theorem dX5_tick_347 : decode cX5_tick 347 = .ok (.dcmp .g, 1) := by decide +kernel
theorem dX5_tick_348 : decode cX5_tick 348 = .ok (.ifCond .ge 14, 3) := by decide +kernel
theorem dX5_tick_351 : decode cX5_tick 351 = .ok (.aload_n 0, 1) := by decide +kernel
theorem dX5_tick_352 : decode cX5_tick 352 = .ok (.iload_n 1, 1) := by decide +kernel
theorem dX5_tick_353 : decode cX5_tick 353 = .ok (.aload_n 0, 1) := by decide +kernel
theorem dX5_tick_354 : decode cX5_tick 354 = .ok (.getfield 19, 3) := by decide +kernel
theorem dX5_tick_357 : decode cX5_tick 357 = .ok (.iload_n 1, 1) := by decide +kernel
theorem dX5_tick_358 : decode cX5_tick 358 = .ok (.daload, 1) := by decide +kernel
theorem dX5_tick_359 : decode cX5_tick 359 = .ok (.invokevirtual 110, 3) := by decide +kernel
theorem dX5_tick_362 : decode cX5_tick 362 = .ok (.aload_n 0, 1) := by decide +kernel
theorem dX5_tick_363 : decode cX5_tick 363 = .ok (.getfield 53, 3) := by decide +kernel
theorem dX5_tick_366 : decode cX5_tick 366 = .ok (.iload_n 1, 1) := by decide +kernel
theorem dX5_tick_367 : decode cX5_tick 367 = .ok (.dload 6, 2) := by decide +kernel
theorem dX5_tick_369 : decode cX5_tick 369 = .ok (.dastore, 1) := by decide +kernel
theorem dX5_tick_370 : decode cX5_tick 370 = .ok (.aload_n 0, 1) := by decide +kernel
theorem dX5_tick_371 : decode cX5_tick 371 = .ok (.getfield 47, 3) := by decide +kernel
theorem dX5_tick_374 : decode cX5_tick 374 = .ok (.iload_n 1, 1) := by decide +kernel
theorem dX5_tick_375 : decode cX5_tick 375 = .ok (.daload, 1) := by decide +kernel
theorem dX5_tick_376 : decode cX5_tick 376 = .ok (.dreturn, 1) := by decide +kernel
theorem dX5_mode_0 : decode cX5_mode 0 = .ok (.aload_n 0, 1) := by decide +kernel
theorem dX5_mode_1 : decode cX5_mode 1 = .ok (.iload_n 1, 1) := by decide +kernel
theorem dX5_mode_2 : decode cX5_mode 2 = .ok (.invokevirtual 98, 3) := by decide +kernel
theorem dX5_mode_5 : decode cX5_mode 5 = .ok (.ifCond .eq 12, 3) := by decide +kernel
theorem dX5_mode_8 : decode cX5_mode 8 = .ok (.iload_n 2, 1) := by decide +kernel
theorem dX5_mode_9 : decode cX5_mode 9 = .ok (.ifCond .lt 8, 3) := by decide +kernel
theorem dX5_mode_12 : decode cX5_mode 12 = .ok (.iload_n 2, 1) := by decide +kernel
theorem dX5_mode_13 : decode cX5_mode 13 = .ok (.iconst 2, 1) := by decide +kernel
theorem dX5_mode_14 : decode cX5_mode 14 = .ok (.if_icmp .le 5, 3) := by decide +kernel
theorem dX5_mode_17 : decode cX5_mode 17 = .ok (.iconst 0, 1) := by decide +kernel
theorem dX5_mode_18 : decode cX5_mode 18 = .ok (.ireturn, 1) := by decide +kernel
theorem dX5_mode_19 : decode cX5_mode 19 = .ok (.aload_n 0, 1) := by decide +kernel
theorem dX5_mode_20 : decode cX5_mode 20 = .ok (.getfield 59, 3) := by decide +kernel
theorem dX5_mode_23 : decode cX5_mode 23 = .ok (.iload_n 1, 1) := by decide +kernel
theorem dX5_mode_24 : decode cX5_mode 24 = .ok (.iaload, 1) := by decide +kernel
theorem dX5_mode_25 : decode cX5_mode 25 = .ok (.iload_n 2, 1) := by decide +kernel
theorem dX5_mode_26 : decode cX5_mode 26 = .ok (.if_icmp .eq 75, 3) := by decide +kernel
theorem dX5_mode_29 : decode cX5_mode 29 = .ok (.aload_n 0, 1) := by decide +kernel
theorem dX5_mode_30 : decode cX5_mode 30 = .ok (.getfield 56, 3) := by decide +kernel
theorem dX5_mode_33 : decode cX5_mode 33 = .ok (.iload_n 1, 1) := by decide +kernel
theorem dX5_mode_34 : decode cX5_mode 34 = .ok (.iload_n 2, 1) := by decide +kernel
theorem dX5_mode_35 : decode cX5_mode 35 = .ok (.ifCond .ne 12, 3) := by decide +kernel
theorem dX5_mode_38 : decode cX5_mode 38 = .ok (.aload_n 0, 1) := by decide +kernel
theorem dX5_mode_39 : decode cX5_mode 39 = .ok (.getfield 47, 3) := by decide +kernel
theorem dX5_mode_42 : decode cX5_mode 42 = .ok (.iload_n 1, 1) := by decide +kernel
theorem dX5_mode_43 : decode cX5_mode 43 = .ok (.daload, 1) := by decide +kernel
theorem dX5_mode_44 : decode cX5_mode 44 = .ok (.goto 9, 3) := by decide +kernel
theorem dX5_mode_47 : decode cX5_mode 47 = .ok (.aload_n 0, 1) := by decide +kernel
theorem dX5_mode_48 : decode cX5_mode 48 = .ok (.getfield 56, 3) := by decide +kernel
theorem dX5_mode_51 : decode cX5_mode 51 = .ok (.iload_n 1, 1) := by decide +kernel
theorem dX5_mode_52 : decode cX5_mode 52 = .ok (.daload, 1) := by decide +kernel
theorem dX5_mode_53 : decode cX5_mode 53 = .ok (.dastore, 1) := by decide +kernel
theorem dX5_mode_54 : decode cX5_mode 54 = .ok (.aload_n 0, 1) := by decide +kernel
theorem dX5_mode_55 : decode cX5_mode 55 = .ok (.getfield 50, 3) := by decide +kernel
theorem dX5_mode_58 : decode cX5_mode 58 = .ok (.iload_n 1, 1) := by decide +kernel
theorem dX5_mode_59 : decode cX5_mode 59 = .ok (.iload_n 2, 1) := by decide +kernel
theorem dX5_mode_60 : decode cX5_mode 60 = .ok (.iconst 1, 1) := by decide +kernel
theorem dX5_mode_61 : decode cX5_mode 61 = .ok (.if_icmp .ne 26, 3) := by decide +kernel
theorem dX5_mode_64 : decode cX5_mode 64 = .ok (.aload_n 0, 1) := by decide +kernel
theorem dX5_mode_65 : decode cX5_mode 65 = .ok (.getfield 47, 3) := by decide +kernel
theorem dX5_mode_68 : decode cX5_mode 68 = .ok (.iload_n 1, 1) := by decide +kernel
theorem dX5_mode_69 : decode cX5_mode 69 = .ok (.daload, 1) := by decide +kernel
theorem dX5_mode_70 : decode cX5_mode 70 = .ok (.aload_n 0, 1) := by decide +kernel
theorem dX5_mode_71 : decode cX5_mode 71 = .ok (.getfield 9, 3) := by decide +kernel
theorem dX5_mode_74 : decode cX5_mode 74 = .ok (.iload_n 1, 1) := by decide +kernel
theorem dX5_mode_75 : decode cX5_mode 75 = .ok (.daload, 1) := by decide +kernel
theorem dX5_mode_76 : decode cX5_mode 76 = .ok (.aload_n 0, 1) := by decide +kernel
theorem dX5_mode_77 : decode cX5_mode 77 = .ok (.getfield 53, 3) := by decide +kernel
theorem dX5_mode_80 : decode cX5_mode 80 = .ok (.iload_n 1, 1) := by decide +kernel
theorem dX5_mode_81 : decode cX5_mode 81 = .ok (.daload, 1) := by decide +kernel
theorem dX5_mode_82 : decode cX5_mode 82 = .ok (.dmul, 1) := by decide +kernel
theorem dX5_mode_83 : decode cX5_mode 83 = .ok (.dsub, 1) := by decide +kernel
theorem dX5_mode_84 : decode cX5_mode 84 = .ok (.goto 9, 3) := by decide +kernel
theorem dX5_mode_87 : decode cX5_mode 87 = .ok (.aload_n 0, 1) := by decide +kernel
theorem dX5_mode_88 : decode cX5_mode 88 = .ok (.getfield 50, 3) := by decide +kernel
theorem dX5_mode_91 : decode cX5_mode 91 = .ok (.iload_n 1, 1) := by decide +kernel
theorem dX5_mode_92 : decode cX5_mode 92 = .ok (.daload, 1) := by decide +kernel
theorem dX5_mode_93 : decode cX5_mode 93 = .ok (.dastore, 1) := by decide +kernel
theorem dX5_mode_94 : decode cX5_mode 94 = .ok (.aload_n 0, 1) := by decide +kernel
theorem dX5_mode_95 : decode cX5_mode 95 = .ok (.getfield 59, 3) := by decide +kernel
theorem dX5_mode_98 : decode cX5_mode 98 = .ok (.iload_n 1, 1) := by decide +kernel
theorem dX5_mode_99 : decode cX5_mode 99 = .ok (.iload_n 2, 1) := by decide +kernel
theorem dX5_mode_100 : decode cX5_mode 100 = .ok (.iastore, 1) := by decide +kernel
theorem dX5_mode_101 : decode cX5_mode 101 = .ok (.iconst 1, 1) := by decide +kernel
theorem dX5_mode_102 : decode cX5_mode 102 = .ok (.ireturn, 1) := by decide +kernel
theorem dX5_hand_0 : decode cX5_hand 0 = .ok (.aload_n 0, 1) := by decide +kernel
theorem dX5_hand_1 : decode cX5_hand 1 = .ok (.iload_n 1, 1) := by decide +kernel
theorem dX5_hand_2 : decode cX5_hand 2 = .ok (.invokevirtual 98, 3) := by decide +kernel
theorem dX5_hand_5 : decode cX5_hand 5 = .ok (.ifCond .eq 31, 3) := by decide +kernel
theorem dX5_hand_8 : decode cX5_hand 8 = .ok (.aload_n 0, 1) := by decide +kernel
theorem dX5_hand_9 : decode cX5_hand 9 = .ok (.getfield 59, 3) := by decide +kernel
theorem dX5_hand_12 : decode cX5_hand 12 = .ok (.iload_n 1, 1) := by decide +kernel
theorem dX5_hand_13 : decode cX5_hand 13 = .ok (.iaload, 1) := by decide +kernel
theorem dX5_hand_14 : decode cX5_hand 14 = .ok (.ifCond .ne 22, 3) := by decide +kernel
theorem dX5_hand_17 : decode cX5_hand 17 = .ok (.dload_n 2, 1) := by decide +kernel
theorem dX5_hand_18 : decode cX5_hand 18 = .ok (.aload_n 0, 1) := by decide +kernel
theorem dX5_hand_19 : decode cX5_hand 19 = .ok (.getfield 19, 3) := by decide +kernel
theorem dX5_hand_22 : decode cX5_hand 22 = .ok (.iload_n 1, 1) := by decide +kernel
theorem dX5_hand_23 : decode cX5_hand 23 = .ok (.daload, 1) := by decide +kernel
theorem dX5_hand_24 : decode cX5_hand 24 = .ok (.aload_n 0, 1) := by decide +kernel
theorem dX5_hand_25 : decode cX5_hand 25 = .ok (.getfield 22, 3) := by decide +kernel
theorem dX5_hand_28 : decode cX5_hand 28 = .ok (.iload_n 1, 1) := by decide +kernel
theorem dX5_hand_29 : decode cX5_hand 29 = .ok (.daload, 1) := by decide +kernel
theorem dX5_hand_30 : decode cX5_hand 30 = .ok (.invokestatic 90, 3) := by decide +kernel
theorem dX5_hand_33 : decode cX5_hand 33 = .ok (.ifCond .ne 5, 3) := by decide +kernel
theorem dX5_hand_36 : decode cX5_hand 36 = .ok (.iconst 0, 1) := by decide +kernel
theorem dX5_hand_37 : decode cX5_hand 37 = .ok (.ireturn, 1) := by decide +kernel
theorem dX5_hand_38 : decode cX5_hand 38 = .ok (.aload_n 0, 1) := by decide +kernel
theorem dX5_hand_39 : decode cX5_hand 39 = .ok (.getfield 56, 3) := by decide +kernel
theorem dX5_hand_42 : decode cX5_hand 42 = .ok (.iload_n 1, 1) := by decide +kernel
theorem dX5_hand_43 : decode cX5_hand 43 = .ok (.dload_n 2, 1) := by decide +kernel
theorem dX5_hand_44 : decode cX5_hand 44 = .ok (.dastore, 1) := by decide +kernel
theorem dX5_hand_45 : decode cX5_hand 45 = .ok (.iconst 1, 1) := by decide +kernel
theorem dX5_hand_46 : decode cX5_hand 46 = .ok (.ireturn, 1) := by decide +kernel
theorem dX5_cascade_0 : decode cX5_cascade 0 = .ok (.aload_n 0, 1) := by decide +kernel
theorem dX5_cascade_1 : decode cX5_cascade 1 = .ok (.iload_n 1, 1) := by decide +kernel
theorem dX5_cascade_2 : decode cX5_cascade 2 = .ok (.invokevirtual 98, 3) := by decide +kernel
theorem dX5_cascade_5 : decode cX5_cascade 5 = .ok (.ifCond .eq 11, 3) := by decide +kernel
theorem dX5_cascade_8 : decode cX5_cascade 8 = .ok (.aload_n 0, 1) := by decide +kernel
theorem dX5_cascade_9 : decode cX5_cascade 9 = .ok (.iload_n 2, 1) := by decide +kernel
theorem dX5_cascade_10 : decode cX5_cascade 10 = .ok (.invokevirtual 98, 3) := by decide +kernel
theorem dX5_cascade_13 : decode cX5_cascade 13 = .ok (.ifCond .ne 5, 3) := by decide +kernel
theorem dX5_cascade_16 : decode cX5_cascade 16 = .ok (.iconst 0, 1) := by decide +kernel
theorem dX5_cascade_17 : decode cX5_cascade 17 = .ok (.ireturn, 1) := by decide +kernel
theorem dX5_cascade_18 : decode cX5_cascade 18 = .ok (.iload_n 1, 1) := by decide +kernel
theorem dX5_cascade_19 : decode cX5_cascade 19 = .ok (.istore_n 3, 1) := by decide +kernel
theorem dX5_cascade_20 : decode cX5_cascade 20 = .ok (.iload_n 3, 1) := by decide +kernel
theorem dX5_cascade_21 : decode cX5_cascade 21 = .ok (.ifCond .lt 20, 3) := by decide +kernel
theorem dX5_cascade_24 : decode cX5_cascade 24 = .ok (.iload_n 3, 1) := by decide +kernel
theorem dX5_cascade_25 : decode cX5_cascade 25 = .ok (.iload_n 2, 1) := by decide +kernel
theorem dX5_cascade_26 : decode cX5_cascade 26 = .ok (.if_icmp .ne 5, 3) := by decide +kernel
theorem dX5_cascade_29 : decode cX5_cascade 29 = .ok (.iconst 0, 1) := by decide +kernel
theorem dX5_cascade_30 : decode cX5_cascade 30 = .ok (.ireturn, 1) := by decide +kernel
theorem dX5_cascade_31 : decode cX5_cascade 31 = .ok (.aload_n 0, 1) := by decide +kernel
theorem dX5_cascade_32 : decode cX5_cascade 32 = .ok (.getfield 63, 3) := by decide +kernel
theorem dX5_cascade_35 : decode cX5_cascade 35 = .ok (.iload_n 3, 1) := by decide +kernel
theorem dX5_cascade_36 : decode cX5_cascade 36 = .ok (.iaload, 1) := by decide +kernel
theorem dX5_cascade_37 : decode cX5_cascade 37 = .ok (.istore_n 3, 1) := by decide +kernel
theorem dX5_cascade_38 : decode cX5_cascade 38 = .ok (.goto (-18), 3) := by decide +kernel
theorem dX5_cascade_41 : decode cX5_cascade 41 = .ok (.aload_n 0, 1) := by decide +kernel
theorem dX5_cascade_42 : decode cX5_cascade 42 = .ok (.getfield 63, 3) := by decide +kernel
theorem dX5_cascade_45 : decode cX5_cascade 45 = .ok (.iload_n 2, 1) := by decide +kernel
theorem dX5_cascade_46 : decode cX5_cascade 46 = .ok (.iload_n 1, 1) := by decide +kernel
theorem dX5_cascade_47 : decode cX5_cascade 47 = .ok (.iastore, 1) := by decide +kernel
theorem dX5_cascade_48 : decode cX5_cascade 48 = .ok (.iconst 1, 1) := by decide +kernel
theorem dX5_cascade_49 : decode cX5_cascade 49 = .ok (.ireturn, 1) := by decide +kernel
theorem dX5_split_0 : decode cX5_split 0 = .ok (.aload_n 0, 1) := by decide +kernel
theorem dX5_split_1 : decode cX5_split 1 = .ok (.iload_n 1, 1) := by decide +kernel
theorem dX5_split_2 : decode cX5_split 2 = .ok (.invokevirtual 98, 3) := by decide +kernel
theorem dX5_split_5 : decode cX5_split 5 = .ok (.ifCond .eq 25, 3) := by decide +kernel
theorem dX5_split_8 : decode cX5_split 8 = .ok (.dload_n 2, 1) := by decide +kernel
theorem dX5_split_9 : decode cX5_split 9 = .ok (.aload_n 0, 1) := by decide +kernel
theorem dX5_split_10 : decode cX5_split 10 = .ok (.getfield 19, 3) := by decide +kernel
theorem dX5_split_13 : decode cX5_split 13 = .ok (.iload_n 1, 1) := by decide +kernel
theorem dX5_split_14 : decode cX5_split 14 = .ok (.daload, 1) := by decide +kernel
theorem dX5_split_15 : decode cX5_split 15 = .ok (.dcmp .l, 1) := by decide +kernel
theorem dX5_split_16 : decode cX5_split 16 = .ok (.ifCond .le 14, 3) := by decide +kernel
theorem dX5_split_19 : decode cX5_split 19 = .ok (.dload_n 2, 1) := by decide +kernel
theorem dX5_split_20 : decode cX5_split 20 = .ok (.aload_n 0, 1) := by decide +kernel
theorem dX5_split_21 : decode cX5_split 21 = .ok (.getfield 22, 3) := by decide +kernel
theorem dX5_split_24 : decode cX5_split 24 = .ok (.iload_n 1, 1) := by decide +kernel
theorem dX5_split_25 : decode cX5_split 25 = .ok (.daload, 1) := by decide +kernel
theorem dX5_split_26 : decode cX5_split 26 = .ok (.dcmp .g, 1) := by decide +kernel
theorem dX5_split_27 : decode cX5_split 27 = .ok (.ifCond .lt 5, 3) := by decide +kernel
theorem dX5_split_30 : decode cX5_split 30 = .ok (.iconst (-1), 1) := by decide +kernel
theorem dX5_split_31 : decode cX5_split 31 = .ok (.ireturn, 1) := by decide +kernel
theorem dX5_split_32 : decode cX5_split 32 = .ok (.aload_n 0, 1) := by decide +kernel
theorem dX5_split_33 : decode cX5_split 33 = .ok (.getfield 114, 3) := by decide +kernel
theorem dX5_split_36 : decode cX5_split 36 = .ok (.bipush 16, 2) := by decide +kernel
theorem dX5_split_38 : decode cX5_split 38 = .ok (.if_icmp .ne 6, 3) := by decide +kernel
theorem dX5_split_41 : decode cX5_split 41 = .ok (.bipush (-2), 2) := by decide +kernel
theorem dX5_split_43 : decode cX5_split 43 = .ok (.ireturn, 1) := by decide +kernel
theorem dX5_split_44 : decode cX5_split 44 = .ok (.aload_n 0, 1) := by decide +kernel
theorem dX5_split_45 : decode cX5_split 45 = .ok (.getfield 78, 3) := by decide +kernel
theorem dX5_split_48 : decode cX5_split 48 = .ok (.aload_n 0, 1) := by decide +kernel
theorem dX5_split_49 : decode cX5_split 49 = .ok (.getfield 114, 3) := by decide +kernel
theorem dX5_split_52 : decode cX5_split 52 = .ok (.iload_n 1, 1) := by decide +kernel
theorem dX5_split_53 : decode cX5_split 53 = .ok (.iastore, 1) := by decide +kernel
theorem dX5_split_54 : decode cX5_split 54 = .ok (.aload_n 0, 1) := by decide +kernel
theorem dX5_split_55 : decode cX5_split 55 = .ok (.getfield 81, 3) := by decide +kernel
theorem dX5_split_58 : decode cX5_split 58 = .ok (.aload_n 0, 1) := by decide +kernel
theorem dX5_split_59 : decode cX5_split 59 = .ok (.getfield 114, 3) := by decide +kernel
theorem dX5_split_62 : decode cX5_split 62 = .ok (.dload_n 2, 1) := by decide +kernel
theorem dX5_split_63 : decode cX5_split 63 = .ok (.dastore, 1) := by decide +kernel
theorem dX5_split_64 : decode cX5_split 64 = .ok (.aload_n 0, 1) := by decide +kernel
theorem dX5_split_65 : decode cX5_split 65 = .ok (.dup, 1) := by decide +kernel
theorem dX5_split_66 : decode cX5_split 66 = .ok (.getfield 114, 3) := by decide +kernel
theorem dX5_split_69 : decode cX5_split 69 = .ok (.iconst 1, 1) := by decide +kernel
theorem dX5_split_70 : decode cX5_split 70 = .ok (.iadd, 1) := by decide +kernel
theorem dX5_split_71 : decode cX5_split 71 = .ok (.putfield 114, 3) := by decide +kernel
theorem dX5_split_74 : decode cX5_split 74 = .ok (.aload_n 0, 1) := by decide +kernel
theorem dX5_split_75 : decode cX5_split 75 = .ok (.getfield 114, 3) := by decide +kernel
theorem dX5_split_78 : decode cX5_split 78 = .ok (.iconst 1, 1) := by decide +kernel
theorem dX5_split_79 : decode cX5_split 79 = .ok (.isub, 1) := by decide +kernel
theorem dX5_split_80 : decode cX5_split 80 = .ok (.ireturn, 1) := by decide +kernel
theorem dX5_part_0 : decode cX5_part 0 = .ok (.iload_n 1, 1) := by decide +kernel
theorem dX5_part_1 : decode cX5_part 1 = .ok (.ifCond .lt 20, 3) := by decide +kernel
theorem dX5_part_4 : decode cX5_part 4 = .ok (.iload_n 1, 1) := by decide +kernel
theorem dX5_part_5 : decode cX5_part 5 = .ok (.aload_n 0, 1) := by decide +kernel
theorem dX5_part_6 : decode cX5_part 6 = .ok (.getfield 114, 3) := by decide +kernel
theorem dX5_part_9 : decode cX5_part 9 = .ok (.if_icmp .ge 12, 3) := by decide +kernel
theorem dX5_part_12 : decode cX5_part 12 = .ok (.iload_n 2, 1) := by decide +kernel
theorem dX5_part_13 : decode cX5_part 13 = .ok (.ifCond .lt 8, 3) := by decide +kernel
theorem dX5_part_16 : decode cX5_part 16 = .ok (.iload_n 2, 1) := by decide +kernel
theorem dX5_part_17 : decode cX5_part 17 = .ok (.iconst 1, 1) := by decide +kernel
theorem dX5_part_18 : decode cX5_part 18 = .ok (.if_icmp .le 7, 3) := by decide +kernel
theorem dX5_part_21 : decode cX5_part 21 = .ok (.ldc2_w 96, 3) := by decide +kernel
theorem dX5_part_24 : decode cX5_part 24 = .ok (.dreturn, 1) := by decide +kernel
theorem dX5_part_25 : decode cX5_part 25 = .ok (.aload_n 0, 1) := by decide +kernel
theorem dX5_part_26 : decode cX5_part 26 = .ok (.getfield 78, 3) := by decide +kernel
theorem dX5_part_29 : decode cX5_part 29 = .ok (.iload_n 1, 1) := by decide +kernel
theorem dX5_part_30 : decode cX5_part 30 = .ok (.iaload, 1) := by decide +kernel
theorem dX5_part_31 : decode cX5_part 31 = .ok (.istore_n 3, 1) := by decide +kernel
theorem dX5_part_32 : decode cX5_part 32 = .ok (.aload_n 0, 1) := by decide +kernel
theorem dX5_part_33 : decode cX5_part 33 = .ok (.getfield 81, 3) := by decide +kernel
theorem dX5_part_36 : decode cX5_part 36 = .ok (.iload_n 1, 1) := by decide +kernel
theorem dX5_part_37 : decode cX5_part 37 = .ok (.daload, 1) := by decide +kernel
theorem dX5_part_38 : decode cX5_part 38 = .ok (.dstore 4, 2) := by decide +kernel
theorem dX5_part_40 : decode cX5_part 40 = .ok (.dload 4, 2) := by decide +kernel
theorem dX5_part_42 : decode cX5_part 42 = .ok (.aload_n 0, 1) := by decide +kernel
theorem dX5_part_43 : decode cX5_part 43 = .ok (.getfield 19, 3) := by decide +kernel
theorem dX5_part_46 : decode cX5_part 46 = .ok (.iload_n 3, 1) := by decide +kernel
theorem dX5_part_47 : decode cX5_part 47 = .ok (.daload, 1) := by decide +kernel
theorem dX5_part_48 : decode cX5_part 48 = .ok (.dcmp .l, 1) := by decide +kernel
theorem dX5_part_49 : decode cX5_part 49 = .ok (.ifCond .le 15, 3) := by decide +kernel
theorem dX5_part_52 : decode cX5_part 52 = .ok (.dload 4, 2) := by decide +kernel
theorem dX5_part_54 : decode cX5_part 54 = .ok (.aload_n 0, 1) := by decide +kernel
theorem dX5_part_55 : decode cX5_part 55 = .ok (.getfield 22, 3) := by decide +kernel
theorem dX5_part_58 : decode cX5_part 58 = .ok (.iload_n 3, 1) := by decide +kernel
theorem dX5_part_59 : decode cX5_part 59 = .ok (.daload, 1) := by decide +kernel
theorem dX5_part_60 : decode cX5_part 60 = .ok (.dcmp .g, 1) := by decide +kernel
theorem dX5_part_61 : decode cX5_part 61 = .ok (.ifCond .lt 5, 3) := by decide +kernel
theorem dX5_part_64 : decode cX5_part 64 = .ok (.dconst 0, 1) := by decide +kernel
theorem dX5_part_65 : decode cX5_part 65 = .ok (.dreturn, 1) := by decide +kernel
theorem dX5_part_66 : decode cX5_part 66 = .ok (.iload_n 2, 1) := by decide +kernel
theorem dX5_part_67 : decode cX5_part 67 = .ok (.ifCond .ne 33, 3) := by decide +kernel
theorem dX5_part_70 : decode cX5_part 70 = .ok (.aload_n 0, 1) := by decide +kernel
theorem dX5_part_71 : decode cX5_part 71 = .ok (.getfield 47, 3) := by decide +kernel
theorem dX5_part_74 : decode cX5_part 74 = .ok (.iload_n 3, 1) := by decide +kernel
theorem dX5_part_75 : decode cX5_part 75 = .ok (.daload, 1) := by decide +kernel
theorem dX5_part_76 : decode cX5_part 76 = .ok (.aload_n 0, 1) := by decide +kernel
theorem dX5_part_77 : decode cX5_part 77 = .ok (.getfield 19, 3) := by decide +kernel
theorem dX5_part_80 : decode cX5_part 80 = .ok (.iload_n 3, 1) := by decide +kernel
theorem dX5_part_81 : decode cX5_part 81 = .ok (.daload, 1) := by decide +kernel
theorem dX5_part_82 : decode cX5_part 82 = .ok (.dsub, 1) := by decide +kernel
theorem dX5_part_83 : decode cX5_part 83 = .ok (.dload 4, 2) := by decide +kernel
theorem dX5_part_85 : decode cX5_part 85 = .ok (.aload_n 0, 1) := by decide +kernel
theorem dX5_part_86 : decode cX5_part 86 = .ok (.getfield 19, 3) := by decide +kernel
theorem dX5_part_89 : decode cX5_part 89 = .ok (.iload_n 3, 1) := by decide +kernel
theorem dX5_part_90 : decode cX5_part 90 = .ok (.daload, 1) := by decide +kernel
theorem dX5_part_91 : decode cX5_part 91 = .ok (.dsub, 1) := by decide +kernel
theorem dX5_part_92 : decode cX5_part 92 = .ok (.ddiv, 1) := by decide +kernel
theorem dX5_part_93 : decode cX5_part 93 = .ok (.ldc2_w 94, 3) := by decide +kernel
theorem dX5_part_96 : decode cX5_part 96 = .ok (.dmul, 1) := by decide +kernel
theorem dX5_part_97 : decode cX5_part 97 = .ok (.goto 26, 3) := by decide +kernel
theorem dX5_part_100 : decode cX5_part 100 = .ok (.aload_n 0, 1) := by decide +kernel
theorem dX5_part_101 : decode cX5_part 101 = .ok (.getfield 47, 3) := by decide +kernel
theorem dX5_part_104 : decode cX5_part 104 = .ok (.iload_n 3, 1) := by decide +kernel
theorem dX5_part_105 : decode cX5_part 105 = .ok (.daload, 1) := by decide +kernel
theorem dX5_part_106 : decode cX5_part 106 = .ok (.dload 4, 2) := by decide +kernel
theorem dX5_part_108 : decode cX5_part 108 = .ok (.dsub, 1) := by decide +kernel
theorem dX5_part_109 : decode cX5_part 109 = .ok (.aload_n 0, 1) := by decide +kernel
theorem dX5_part_110 : decode cX5_part 110 = .ok (.getfield 22, 3) := by decide +kernel
theorem dX5_part_113 : decode cX5_part 113 = .ok (.iload_n 3, 1) := by decide +kernel
theorem dX5_part_114 : decode cX5_part 114 = .ok (.daload, 1) := by decide +kernel
theorem dX5_part_115 : decode cX5_part 115 = .ok (.dload 4, 2) := by decide +kernel
theorem dX5_part_117 : decode cX5_part 117 = .ok (.dsub, 1) := by decide +kernel
theorem dX5_part_118 : decode cX5_part 118 = .ok (.ddiv, 1) := by decide +kernel
theorem dX5_part_119 : decode cX5_part 119 = .ok (.ldc2_w 94, 3) := by decide +kernel
theorem dX5_part_122 : decode cX5_part 122 = .ok (.dmul, 1) := by decide +kernel
theorem dX5_part_123 : decode cX5_part 123 = .ok (.dstore 6, 2) := by decide +kernel
theorem dX5_part_125 : decode cX5_part 125 = .ok (.dload 6, 2) := by decide +kernel
theorem dX5_part_127 : decode cX5_part 127 = .ok (.dconst 0, 1) := by decide +kernel
theorem dX5_part_128 : decode cX5_part 128 = .ok (.dcmp .g, 1) := by decide +kernel
theorem dX5_part_129 : decode cX5_part 129 = .ok (.ifCond .ge 7, 3) := by decide +kernel
theorem dX5_part_132 : decode cX5_part 132 = .ok (.dconst 0, 1) := by decide +kernel
theorem dX5_part_133 : decode cX5_part 133 = .ok (.goto 20, 3) := by decide +kernel
theorem dX5_part_136 : decode cX5_part 136 = .ok (.dload 6, 2) := by decide +kernel
theorem dX5_part_138 : decode cX5_part 138 = .ok (.ldc2_w 94, 3) := by decide +kernel
theorem dX5_part_141 : decode cX5_part 141 = .ok (.dcmp .l, 1) := by decide +kernel
theorem dX5_part_142 : decode cX5_part 142 = .ok (.ifCond .le 9, 3) := by decide +kernel
theorem dX5_part_145 : decode cX5_part 145 = .ok (.ldc2_w 94, 3) := by decide +kernel
theorem dX5_part_148 : decode cX5_part 148 = .ok (.goto 5, 3) := by decide +kernel
theorem dX5_part_151 : decode cX5_part 151 = .ok (.dload 6, 2) := by decide +kernel
theorem dX5_part_153 : decode cX5_part 153 = .ok (.dreturn, 1) := by decide +kernel
theorem dX5_band_0 : decode cX5_band 0 = .ok (.aload_n 0, 1) := by decide +kernel
theorem dX5_band_1 : decode cX5_band 1 = .ok (.iload_n 1, 1) := by decide +kernel
theorem dX5_band_2 : decode cX5_band 2 = .ok (.invokevirtual 98, 3) := by decide +kernel
theorem dX5_band_5 : decode cX5_band 5 = .ok (.ifCond .eq 28, 3) := by decide +kernel
theorem dX5_band_8 : decode cX5_band 8 = .ok (.dload_n 2, 1) := by decide +kernel
theorem dX5_band_9 : decode cX5_band 9 = .ok (.ldc2_w 102, 3) := by decide +kernel
theorem dX5_band_12 : decode cX5_band 12 = .ok (.ldc2_w 104, 3) := by decide +kernel
theorem dX5_band_15 : decode cX5_band 15 = .ok (.invokestatic 90, 3) := by decide +kernel
theorem dX5_band_18 : decode cX5_band 18 = .ok (.ifCond .eq 15, 3) := by decide +kernel
theorem dX5_band_21 : decode cX5_band 21 = .ok (.dload 4, 2) := by decide +kernel
theorem dX5_band_23 : decode cX5_band 23 = .ok (.dload_n 2, 1) := by decide +kernel
theorem dX5_band_24 : decode cX5_band 24 = .ok (.ldc2_w 104, 3) := by decide +kernel
theorem dX5_band_27 : decode cX5_band 27 = .ok (.invokestatic 90, 3) := by decide +kernel
theorem dX5_band_30 : decode cX5_band 30 = .ok (.ifCond .ne 5, 3) := by decide +kernel
theorem dX5_band_33 : decode cX5_band 33 = .ok (.iconst 0, 1) := by decide +kernel
theorem dX5_band_34 : decode cX5_band 34 = .ok (.ireturn, 1) := by decide +kernel
theorem dX5_band_35 : decode cX5_band 35 = .ok (.aload_n 0, 1) := by decide +kernel
theorem dX5_band_36 : decode cX5_band 36 = .ok (.getfield 31, 3) := by decide +kernel
theorem dX5_band_39 : decode cX5_band 39 = .ok (.iload_n 1, 1) := by decide +kernel
theorem dX5_band_40 : decode cX5_band 40 = .ok (.dload_n 2, 1) := by decide +kernel
theorem dX5_band_41 : decode cX5_band 41 = .ok (.dastore, 1) := by decide +kernel
theorem dX5_band_42 : decode cX5_band 42 = .ok (.aload_n 0, 1) := by decide +kernel
theorem dX5_band_43 : decode cX5_band 43 = .ok (.getfield 34, 3) := by decide +kernel
theorem dX5_band_46 : decode cX5_band 46 = .ok (.iload_n 1, 1) := by decide +kernel
theorem dX5_band_47 : decode cX5_band 47 = .ok (.dload 4, 2) := by decide +kernel
theorem dX5_band_49 : decode cX5_band 49 = .ok (.dastore, 1) := by decide +kernel
theorem dX5_band_50 : decode cX5_band 50 = .ok (.iconst 1, 1) := by decide +kernel
theorem dX5_band_51 : decode cX5_band 51 = .ok (.ireturn, 1) := by decide +kernel
theorem dX5_tune_0 : decode cX5_tune 0 = .ok (.aload_n 0, 1) := by decide +kernel
theorem dX5_tune_1 : decode cX5_tune 1 = .ok (.iload_n 1, 1) := by decide +kernel
theorem dX5_tune_2 : decode cX5_tune 2 = .ok (.invokevirtual 98, 3) := by decide +kernel
theorem dX5_tune_5 : decode cX5_tune 5 = .ok (.ifCond .eq 15, 3) := by decide +kernel
theorem dX5_tune_8 : decode cX5_tune 8 = .ok (.iload_n 2, 1) := by decide +kernel
theorem dX5_tune_9 : decode cX5_tune 9 = .ok (.iconst 1, 1) := by decide +kernel
theorem dX5_tune_10 : decode cX5_tune 10 = .ok (.if_icmp .lt 10, 3) := by decide +kernel
theorem dX5_tune_13 : decode cX5_tune 13 = .ok (.iload_n 2, 1) := by decide +kernel
theorem dX5_tune_14 : decode cX5_tune 14 = .ok (.sipush 10000, 3) := by decide +kernel
theorem dX5_tune_17 : decode cX5_tune 17 = .ok (.if_icmp .le 5, 3) := by decide +kernel
theorem dX5_tune_20 : decode cX5_tune 20 = .ok (.iconst (-1), 1) := by decide +kernel
theorem dX5_tune_21 : decode cX5_tune 21 = .ok (.ireturn, 1) := by decide +kernel
theorem dX5_tune_22 : decode cX5_tune 22 = .ok (.dconst 0, 1) := by decide +kernel
theorem dX5_tune_23 : decode cX5_tune 23 = .ok (.dstore_n 3, 1) := by decide +kernel
theorem dX5_tune_24 : decode cX5_tune 24 = .ok (.iconst 0, 1) := by decide +kernel
theorem dX5_tune_25 : decode cX5_tune 25 = .ok (.istore 5, 2) := by decide +kernel
theorem dX5_tune_27 : decode cX5_tune 27 = .ok (.iconst 0, 1) := by decide +kernel
theorem dX5_tune_28 : decode cX5_tune 28 = .ok (.istore 6, 2) := by decide +kernel
theorem dX5_tune_30 : decode cX5_tune 30 = .ok (.iconst 0, 1) := by decide +kernel
theorem dX5_tune_31 : decode cX5_tune 31 = .ok (.istore 7, 2) := by decide +kernel
theorem dX5_tune_33 : decode cX5_tune 33 = .ok (.iconst 0, 1) := by decide +kernel
theorem dX5_tune_34 : decode cX5_tune 34 = .ok (.istore 8, 2) := by decide +kernel
theorem dX5_tune_36 : decode cX5_tune 36 = .ok (.aload_n 0, 1) := by decide +kernel
theorem dX5_tune_37 : decode cX5_tune 37 = .ok (.getfield 75, 3) := by decide +kernel
theorem dX5_tune_40 : decode cX5_tune 40 = .ok (.iload_n 1, 1) := by decide +kernel
theorem dX5_tune_41 : decode cX5_tune 41 = .ok (.iconst 0, 1) := by decide +kernel
theorem dX5_tune_42 : decode cX5_tune 42 = .ok (.iastore, 1) := by decide +kernel
theorem dX5_tune_43 : decode cX5_tune 43 = .ok (.aload_n 0, 1) := by decide +kernel
theorem dX5_tune_44 : decode cX5_tune 44 = .ok (.getfield 69, 3) := by decide +kernel
theorem dX5_tune_47 : decode cX5_tune 47 = .ok (.iload_n 1, 1) := by decide +kernel
theorem dX5_tune_48 : decode cX5_tune 48 = .ok (.dconst 0, 1) := by decide +kernel
theorem dX5_tune_49 : decode cX5_tune 49 = .ok (.dastore, 1) := by decide +kernel
theorem dX5_tune_50 : decode cX5_tune 50 = .ok (.aload_n 0, 1) := by decide +kernel
theorem dX5_tune_51 : decode cX5_tune 51 = .ok (.getfield 72, 3) := by decide +kernel
theorem dX5_tune_54 : decode cX5_tune 54 = .ok (.iload_n 1, 1) := by decide +kernel
theorem dX5_tune_55 : decode cX5_tune 55 = .ok (.dconst 0, 1) := by decide +kernel
theorem dX5_tune_56 : decode cX5_tune 56 = .ok (.dastore, 1) := by decide +kernel
theorem dX5_tune_57 : decode cX5_tune 57 = .ok (.iconst 0, 1) := by decide +kernel
theorem dX5_tune_58 : decode cX5_tune 58 = .ok (.istore 9, 2) := by decide +kernel
theorem dX5_tune_60 : decode cX5_tune 60 = .ok (.iconst 0, 1) := by decide +kernel
theorem dX5_tune_61 : decode cX5_tune 61 = .ok (.istore 10, 2) := by decide +kernel
theorem dX5_tune_63 : decode cX5_tune 63 = .ok (.iload 10, 2) := by decide +kernel
theorem dX5_tune_65 : decode cX5_tune 65 = .ok (.iload_n 2, 1) := by decide +kernel
theorem dX5_tune_66 : decode cX5_tune 66 = .ok (.if_icmp .ge 178, 3) := by decide +kernel
theorem dX5_tune_69 : decode cX5_tune 69 = .ok (.dload_n 3, 1) := by decide +kernel
theorem dX5_tune_70 : decode cX5_tune 70 = .ok (.ldc2_w 117, 3) := by decide +kernel
theorem dX5_tune_73 : decode cX5_tune 73 = .ok (.dcmp .g, 1) := by decide +kernel
theorem dX5_tune_74 : decode cX5_tune 74 = .ok (.ifCond .ge 7, 3) := by decide +kernel
theorem dX5_tune_77 : decode cX5_tune 77 = .ok (.iconst 1, 1) := by decide +kernel
theorem dX5_tune_78 : decode cX5_tune 78 = .ok (.goto 4, 3) := by decide +kernel
theorem dX5_tune_81 : decode cX5_tune 81 = .ok (.iconst 0, 1) := by decide +kernel
theorem dX5_tune_82 : decode cX5_tune 82 = .ok (.istore 11, 2) := by decide +kernel
theorem dX5_tune_84 : decode cX5_tune 84 = .ok (.iload 10, 2) := by decide +kernel
theorem dX5_tune_86 : decode cX5_tune 86 = .ok (.ifCond .le 48, 3) := by decide +kernel
theorem dX5_tune_89 : decode cX5_tune 89 = .ok (.iload 11, 2) := by decide +kernel
theorem dX5_tune_91 : decode cX5_tune 91 = .ok (.iload 5, 2) := by decide +kernel
theorem dX5_tune_93 : decode cX5_tune 93 = .ok (.iconst 1, 1) := by decide +kernel
theorem dX5_tune_94 : decode cX5_tune 94 = .ok (.iand, 1) := by decide +kernel
theorem dX5_tune_95 : decode cX5_tune 95 = .ok (.if_icmp .eq 39, 3) := by decide +kernel
theorem dX5_tune_98 : decode cX5_tune 98 = .ok (.iinc 6 1, 3) := by decide +kernel
theorem dX5_tune_101 : decode cX5_tune 101 = .ok (.iload 11, 2) := by decide +kernel
theorem dX5_tune_103 : decode cX5_tune 103 = .ok (.iconst 1, 1) := by decide +kernel
theorem dX5_tune_104 : decode cX5_tune 104 = .ok (.if_icmp .ne 30, 3) := by decide +kernel
theorem dX5_tune_107 : decode cX5_tune 107 = .ok (.aload_n 0, 1) := by decide +kernel
theorem dX5_tune_108 : decode cX5_tune 108 = .ok (.getfield 75, 3) := by decide +kernel
theorem dX5_tune_111 : decode cX5_tune 111 = .ok (.iload_n 1, 1) := by decide +kernel
theorem dX5_tune_112 : decode cX5_tune 112 = .ok (.iload 7, 2) := by decide +kernel
theorem dX5_tune_114 : decode cX5_tune 114 = .ok (.ifCond .le 11, 3) := by decide +kernel
theorem dX5_tune_117 : decode cX5_tune 117 = .ok (.iload 10, 2) := by decide +kernel
theorem dX5_tune_119 : decode cX5_tune 119 = .ok (.iload 8, 2) := by decide +kernel
theorem dX5_tune_121 : decode cX5_tune 121 = .ok (.isub, 1) := by decide +kernel
theorem dX5_tune_122 : decode cX5_tune 122 = .ok (.goto 4, 3) := by decide +kernel
theorem dX5_tune_125 : decode cX5_tune 125 = .ok (.iconst 0, 1) := by decide +kernel
theorem dX5_tune_126 : decode cX5_tune 126 = .ok (.iastore, 1) := by decide +kernel
theorem dX5_tune_127 : decode cX5_tune 127 = .ok (.iload 10, 2) := by decide +kernel
theorem dX5_tune_129 : decode cX5_tune 129 = .ok (.istore 8, 2) := by decide +kernel
theorem dX5_tune_131 : decode cX5_tune 131 = .ok (.iinc 7 1, 3) := by decide +kernel
theorem dX5_tune_134 : decode cX5_tune 134 = .ok (.iload 5, 2) := by decide +kernel
theorem dX5_tune_136 : decode cX5_tune 136 = .ok (.iconst 3, 1) := by decide +kernel
theorem dX5_tune_137 : decode cX5_tune 137 = .ok (.ishr, 1) := by decide +kernel
theorem dX5_tune_138 : decode cX5_tune 138 = .ok (.iconst 1, 1) := by decide +kernel
theorem dX5_tune_139 : decode cX5_tune 139 = .ok (.iand, 1) := by decide +kernel
theorem dX5_tune_140 : decode cX5_tune 140 = .ok (.i2d, 1) := by decide +kernel
theorem dX5_tune_141 : decode cX5_tune 141 = .ok (.dstore 12, 2) := by decide +kernel
theorem dX5_tune_143 : decode cX5_tune 143 = .ok (.dload_n 3, 1) := by decide +kernel
theorem dX5_tune_144 : decode cX5_tune 144 = .ok (.dload 12, 2) := by decide +kernel
theorem dX5_tune_146 : decode cX5_tune 146 = .ok (.dload_n 3, 1) := by decide +kernel
theorem dX5_tune_147 : decode cX5_tune 147 = .ok (.dsub, 1) := by decide +kernel
theorem dX5_tune_148 : decode cX5_tune 148 = .ok (.ldc2_w 119, 3) := by decide +kernel
theorem dX5_tune_151 : decode cX5_tune 151 = .ok (.dmul, 1) := by decide +kernel
theorem dX5_tune_152 : decode cX5_tune 152 = .ok (.dadd, 1) := by decide +kernel
theorem dX5_tune_153 : decode cX5_tune 153 = .ok (.dstore_n 3, 1) := by decide +kernel
theorem dX5_tune_154 : decode cX5_tune 154 = .ok (.iload 5, 2) := by decide +kernel
theorem dX5_tune_156 : decode cX5_tune 156 = .ok (.iconst 1, 1) := by decide +kernel
theorem dX5_tune_157 : decode cX5_tune 157 = .ok (.ishl, 1) := by decide +kernel
theorem dX5_tune_158 : decode cX5_tune 158 = .ok (.bipush 15, 2) := by decide +kernel
theorem dX5_tune_160 : decode cX5_tune 160 = .ok (.iand, 1) := by decide +kernel
theorem dX5_tune_161 : decode cX5_tune 161 = .ok (.iload 11, 2) := by decide +kernel
theorem dX5_tune_163 : decode cX5_tune 163 = .ok (.ior, 1) := by decide +kernel
theorem dX5_tune_164 : decode cX5_tune 164 = .ok (.istore 5, 2) := by decide +kernel
theorem dX5_tune_166 : decode cX5_tune 166 = .ok (.iload 6, 2) := by decide +kernel
theorem dX5_tune_168 : decode cX5_tune 168 = .ok (.ifCond .le 70, 3) := by decide +kernel
theorem dX5_tune_171 : decode cX5_tune 171 = .ok (.aload_n 0, 1) := by decide +kernel
theorem dX5_tune_172 : decode cX5_tune 172 = .ok (.getfield 69, 3) := by decide +kernel
theorem dX5_tune_175 : decode cX5_tune 175 = .ok (.iload_n 1, 1) := by decide +kernel
theorem dX5_tune_176 : decode cX5_tune 176 = .ok (.iload 9, 2) := by decide +kernel
theorem dX5_tune_178 : decode cX5_tune 178 = .ok (.ifCond .eq 14, 3) := by decide +kernel
theorem dX5_tune_181 : decode cX5_tune 181 = .ok (.dload_n 3, 1) := by decide +kernel
theorem dX5_tune_182 : decode cX5_tune 182 = .ok (.aload_n 0, 1) := by decide +kernel
theorem dX5_tune_183 : decode cX5_tune 183 = .ok (.getfield 69, 3) := by decide +kernel
theorem dX5_tune_186 : decode cX5_tune 186 = .ok (.iload_n 1, 1) := by decide +kernel
theorem dX5_tune_187 : decode cX5_tune 187 = .ok (.daload, 1) := by decide +kernel
theorem dX5_tune_188 : decode cX5_tune 188 = .ok (.dcmp .g, 1) := by decide +kernel
theorem dX5_tune_189 : decode cX5_tune 189 = .ok (.ifCond .ge 7, 3) := by decide +kernel
theorem dX5_tune_192 : decode cX5_tune 192 = .ok (.dload_n 3, 1) := by decide +kernel
theorem dX5_tune_193 : decode cX5_tune 193 = .ok (.goto 9, 3) := by decide +kernel
theorem dX5_tune_196 : decode cX5_tune 196 = .ok (.aload_n 0, 1) := by decide +kernel
theorem dX5_tune_197 : decode cX5_tune 197 = .ok (.getfield 69, 3) := by decide +kernel
theorem dX5_tune_200 : decode cX5_tune 200 = .ok (.iload_n 1, 1) := by decide +kernel
theorem dX5_tune_201 : decode cX5_tune 201 = .ok (.daload, 1) := by decide +kernel
theorem dX5_tune_202 : decode cX5_tune 202 = .ok (.dastore, 1) := by decide +kernel
theorem dX5_tune_203 : decode cX5_tune 203 = .ok (.aload_n 0, 1) := by decide +kernel
theorem dX5_tune_204 : decode cX5_tune 204 = .ok (.getfield 72, 3) := by decide +kernel
theorem dX5_tune_207 : decode cX5_tune 207 = .ok (.iload_n 1, 1) := by decide +kernel
theorem dX5_tune_208 : decode cX5_tune 208 = .ok (.iload 9, 2) := by decide +kernel
theorem dX5_tune_210 : decode cX5_tune 210 = .ok (.ifCond .eq 14, 3) := by decide +kernel
theorem dX5_tune_213 : decode cX5_tune 213 = .ok (.dload_n 3, 1) := by decide +kernel
theorem dX5_tune_214 : decode cX5_tune 214 = .ok (.aload_n 0, 1) := by decide +kernel
theorem dX5_tune_215 : decode cX5_tune 215 = .ok (.getfield 72, 3) := by decide +kernel
theorem dX5_tune_218 : decode cX5_tune 218 = .ok (.iload_n 1, 1) := by decide +kernel
theorem dX5_tune_219 : decode cX5_tune 219 = .ok (.daload, 1) := by decide +kernel
theorem dX5_tune_220 : decode cX5_tune 220 = .ok (.dcmp .l, 1) := by decide +kernel
theorem dX5_tune_221 : decode cX5_tune 221 = .ok (.ifCond .le 7, 3) := by decide +kernel
theorem dX5_tune_224 : decode cX5_tune 224 = .ok (.dload_n 3, 1) := by decide +kernel
theorem dX5_tune_225 : decode cX5_tune 225 = .ok (.goto 9, 3) := by decide +kernel
theorem dX5_tune_228 : decode cX5_tune 228 = .ok (.aload_n 0, 1) := by decide +kernel
theorem dX5_tune_229 : decode cX5_tune 229 = .ok (.getfield 72, 3) := by decide +kernel
theorem dX5_tune_232 : decode cX5_tune 232 = .ok (.iload_n 1, 1) := by decide +kernel
theorem dX5_tune_233 : decode cX5_tune 233 = .ok (.daload, 1) := by decide +kernel
theorem dX5_tune_234 : decode cX5_tune 234 = .ok (.dastore, 1) := by decide +kernel
theorem dX5_tune_235 : decode cX5_tune 235 = .ok (.iconst 1, 1) := by decide +kernel
theorem dX5_tune_236 : decode cX5_tune 236 = .ok (.istore 9, 2) := by decide +kernel
theorem dX5_tune_238 : decode cX5_tune 238 = .ok (.iinc 10 1, 3) := by decide +kernel
theorem dX5_tune_241 : decode cX5_tune 241 = .ok (.goto (-178), 3) := by decide +kernel
theorem dX5_tune_244 : decode cX5_tune 244 = .ok (.iload 6, 2) := by decide +kernel
theorem dX5_tune_246 : decode cX5_tune 246 = .ok (.ireturn, 1) := by decide +kernel
theorem dX5_tuned_0 : decode cX5_tuned 0 = .ok (.aload_n 0, 1) := by decide +kernel
theorem dX5_tuned_1 : decode cX5_tuned 1 = .ok (.iload_n 1, 1) := by decide +kernel
theorem dX5_tuned_2 : decode cX5_tuned 2 = .ok (.invokevirtual 98, 3) := by decide +kernel
theorem dX5_tuned_5 : decode cX5_tuned 5 = .ok (.ifCond .eq 21, 3) := by decide +kernel
theorem dX5_tuned_8 : decode cX5_tuned 8 = .ok (.iload_n 2, 1) := by decide +kernel
theorem dX5_tuned_9 : decode cX5_tuned 9 = .ok (.ifCond .lt 17, 3) := by decide +kernel
theorem dX5_tuned_12 : decode cX5_tuned 12 = .ok (.iload_n 2, 1) := by decide +kernel
theorem dX5_tuned_13 : decode cX5_tuned 13 = .ok (.iconst 2, 1) := by decide +kernel
theorem dX5_tuned_14 : decode cX5_tuned 14 = .ok (.if_icmp .gt 12, 3) := by decide +kernel
theorem dX5_tuned_17 : decode cX5_tuned 17 = .ok (.aload_n 0, 1) := by decide +kernel
theorem dX5_tuned_18 : decode cX5_tuned 18 = .ok (.getfield 75, 3) := by decide +kernel
theorem dX5_tuned_21 : decode cX5_tuned 21 = .ok (.iload_n 1, 1) := by decide +kernel
theorem dX5_tuned_22 : decode cX5_tuned 22 = .ok (.iaload, 1) := by decide +kernel
theorem dX5_tuned_23 : decode cX5_tuned 23 = .ok (.ifCond .ne 5, 3) := by decide +kernel
theorem dX5_tuned_26 : decode cX5_tuned 26 = .ok (.dconst 0, 1) := by decide +kernel
theorem dX5_tuned_27 : decode cX5_tuned 27 = .ok (.dreturn, 1) := by decide +kernel
theorem dX5_tuned_28 : decode cX5_tuned 28 = .ok (.aload_n 0, 1) := by decide +kernel
theorem dX5_tuned_29 : decode cX5_tuned 29 = .ok (.getfield 72, 3) := by decide +kernel
theorem dX5_tuned_32 : decode cX5_tuned 32 = .ok (.iload_n 1, 1) := by decide +kernel
theorem dX5_tuned_33 : decode cX5_tuned 33 = .ok (.daload, 1) := by decide +kernel
theorem dX5_tuned_34 : decode cX5_tuned 34 = .ok (.aload_n 0, 1) := by decide +kernel
theorem dX5_tuned_35 : decode cX5_tuned 35 = .ok (.getfield 69, 3) := by decide +kernel
theorem dX5_tuned_38 : decode cX5_tuned 38 = .ok (.iload_n 1, 1) := by decide +kernel
theorem dX5_tuned_39 : decode cX5_tuned 39 = .ok (.daload, 1) := by decide +kernel
theorem dX5_tuned_40 : decode cX5_tuned 40 = .ok (.dsub, 1) := by decide +kernel
theorem dX5_tuned_41 : decode cX5_tuned 41 = .ok (.ldc2_w 117, 3) := by decide +kernel
theorem dX5_tuned_44 : decode cX5_tuned 44 = .ok (.dmul, 1) := by decide +kernel
theorem dX5_tuned_45 : decode cX5_tuned 45 = .ok (.dstore_n 3, 1) := by decide +kernel
theorem dX5_tuned_46 : decode cX5_tuned 46 = .ok (.dload_n 3, 1) := by decide +kernel
theorem dX5_tuned_47 : decode cX5_tuned 47 = .ok (.dconst 0, 1) := by decide +kernel
theorem dX5_tuned_48 : decode cX5_tuned 48 = .ok (.dcmp .l, 1) := by decide +kernel
theorem dX5_tuned_49 : decode cX5_tuned 49 = .ok (.ifCond .gt 5, 3) := by decide +kernel
end
section
theorem dX5_tuned_52 : decode cX5_tuned 52 = .ok (.dconst 0, 1) := by decide +kernel
theorem dX5_tuned_53 : decode cX5_tuned 53 = .ok (.dreturn, 1) := by decide +kernel
theorem dX5_tuned_54 : decode cX5_tuned 54 = .ok (.dconst 1, 1) := by decide +kernel
theorem dX5_tuned_55 : decode cX5_tuned 55 = .ok (.dload_n 3, 1) := by decide +kernel
theorem dX5_tuned_56 : decode cX5_tuned 56 = .ok (.ddiv, 1) := by decide +kernel
theorem dX5_tuned_57 : decode cX5_tuned 57 = .ok (.dstore 5, 2) := by decide +kernel
theorem dX5_tuned_59 : decode cX5_tuned 59 = .ok (.aload_n 0, 1) := by decide +kernel
theorem dX5_tuned_60 : decode cX5_tuned 60 = .ok (.getfield 75, 3) := by decide +kernel
theorem dX5_tuned_63 : decode cX5_tuned 63 = .ok (.iload_n 1, 1) := by decide +kernel
theorem dX5_tuned_64 : decode cX5_tuned 64 = .ok (.iaload, 1) := by decide +kernel
theorem dX5_tuned_65 : decode cX5_tuned 65 = .ok (.i2d, 1) := by decide +kernel
theorem dX5_tuned_66 : decode cX5_tuned 66 = .ok (.dstore 7, 2) := by decide +kernel
theorem dX5_tuned_68 : decode cX5_tuned 68 = .ok (.iload_n 2, 1) := by decide +kernel
theorem dX5_tuned_69 : decode cX5_tuned 69 = .ok (.ifCond .ne 12, 3) := by decide +kernel
theorem dX5_tuned_72 : decode cX5_tuned 72 = .ok (.ldc2_w 117, 3) := by decide +kernel
theorem dX5_tuned_75 : decode cX5_tuned 75 = .ok (.dload 5, 2) := by decide +kernel
theorem dX5_tuned_77 : decode cX5_tuned 77 = .ok (.dmul, 1) := by decide +kernel
theorem dX5_tuned_78 : decode cX5_tuned 78 = .ok (.goto 25, 3) := by decide +kernel
theorem dX5_tuned_81 : decode cX5_tuned 81 = .ok (.iload_n 2, 1) := by decide +kernel
theorem dX5_tuned_82 : decode cX5_tuned 82 = .ok (.iconst 1, 1) := by decide +kernel
theorem dX5_tuned_83 : decode cX5_tuned 83 = .ok (.if_icmp .ne 11, 3) := by decide +kernel
theorem dX5_tuned_86 : decode cX5_tuned 86 = .ok (.dload 5, 2) := by decide +kernel
theorem dX5_tuned_88 : decode cX5_tuned 88 = .ok (.dload 7, 2) := by decide +kernel
theorem dX5_tuned_90 : decode cX5_tuned 90 = .ok (.ddiv, 1) := by decide +kernel
theorem dX5_tuned_91 : decode cX5_tuned 91 = .ok (.goto 12, 3) := by decide +kernel
theorem dX5_tuned_94 : decode cX5_tuned 94 = .ok (.ldc2_w 119, 3) := by decide +kernel
theorem dX5_tuned_97 : decode cX5_tuned 97 = .ok (.dload 5, 2) := by decide +kernel
theorem dX5_tuned_99 : decode cX5_tuned 99 = .ok (.dmul, 1) := by decide +kernel
theorem dX5_tuned_100 : decode cX5_tuned 100 = .ok (.dload 7, 2) := by decide +kernel
theorem dX5_tuned_102 : decode cX5_tuned 102 = .ok (.dmul, 1) := by decide +kernel
theorem dX5_tuned_103 : decode cX5_tuned 103 = .ok (.dreturn, 1) := by decide +kernel
theorem dX5_fault_0 : decode cX5_fault 0 = .ok (.aload_n 0, 1) := by decide +kernel
theorem dX5_fault_1 : decode cX5_fault 1 = .ok (.iload_n 1, 1) := by decide +kernel
theorem dX5_fault_2 : decode cX5_fault 2 = .ok (.invokevirtual 98, 3) := by decide +kernel
theorem dX5_fault_5 : decode cX5_fault 5 = .ok (.ifCond .eq 12, 3) := by decide +kernel
theorem dX5_fault_8 : decode cX5_fault 8 = .ok (.aload_n 0, 1) := by decide +kernel
theorem dX5_fault_9 : decode cX5_fault 9 = .ok (.getfield 66, 3) := by decide +kernel
theorem dX5_fault_12 : decode cX5_fault 12 = .ok (.iload_n 1, 1) := by decide +kernel
theorem dX5_fault_13 : decode cX5_fault 13 = .ok (.iaload, 1) := by decide +kernel
theorem dX5_fault_14 : decode cX5_fault 14 = .ok (.goto 4, 3) := by decide +kernel
theorem dX5_fault_17 : decode cX5_fault 17 = .ok (.iconst (-1), 1) := by decide +kernel
theorem dX5_fault_18 : decode cX5_fault 18 = .ok (.ireturn, 1) := by decide +kernel
theorem dX5_range_0 : decode cX5_range 0 = .ok (.aload_n 0, 1) := by decide +kernel
theorem dX5_range_1 : decode cX5_range 1 = .ok (.iload_n 1, 1) := by decide +kernel
theorem dX5_range_2 : decode cX5_range 2 = .ok (.invokevirtual 98, 3) := by decide +kernel
theorem dX5_range_5 : decode cX5_range 5 = .ok (.ifCond .eq 28, 3) := by decide +kernel
theorem dX5_range_8 : decode cX5_range 8 = .ok (.dload_n 2, 1) := by decide +kernel
theorem dX5_range_9 : decode cX5_range 9 = .ok (.ldc2_w 106, 3) := by decide +kernel
theorem dX5_range_12 : decode cX5_range 12 = .ok (.ldc2_w 108, 3) := by decide +kernel
theorem dX5_range_15 : decode cX5_range 15 = .ok (.invokestatic 90, 3) := by decide +kernel
theorem dX5_range_18 : decode cX5_range 18 = .ok (.ifCond .eq 15, 3) := by decide +kernel
theorem dX5_range_21 : decode cX5_range 21 = .ok (.dload 4, 2) := by decide +kernel
theorem dX5_range_23 : decode cX5_range 23 = .ok (.dload_n 2, 1) := by decide +kernel
theorem dX5_range_24 : decode cX5_range 24 = .ok (.ldc2_w 108, 3) := by decide +kernel
theorem dX5_range_27 : decode cX5_range 27 = .ok (.invokestatic 90, 3) := by decide +kernel
theorem dX5_range_30 : decode cX5_range 30 = .ok (.ifCond .ne 5, 3) := by decide +kernel
theorem dX5_range_33 : decode cX5_range 33 = .ok (.iconst 0, 1) := by decide +kernel
theorem dX5_range_34 : decode cX5_range 34 = .ok (.ireturn, 1) := by decide +kernel
theorem dX5_range_35 : decode cX5_range 35 = .ok (.aload_n 0, 1) := by decide +kernel
theorem dX5_range_36 : decode cX5_range 36 = .ok (.getfield 37, 3) := by decide +kernel
theorem dX5_range_39 : decode cX5_range 39 = .ok (.iload_n 1, 1) := by decide +kernel
theorem dX5_range_40 : decode cX5_range 40 = .ok (.iconst 1, 1) := by decide +kernel
theorem dX5_range_41 : decode cX5_range 41 = .ok (.bastore, 1) := by decide +kernel
theorem dX5_range_42 : decode cX5_range 42 = .ok (.aload_n 0, 1) := by decide +kernel
theorem dX5_range_43 : decode cX5_range 43 = .ok (.getfield 41, 3) := by decide +kernel
theorem dX5_range_46 : decode cX5_range 46 = .ok (.iload_n 1, 1) := by decide +kernel
theorem dX5_range_47 : decode cX5_range 47 = .ok (.dload_n 2, 1) := by decide +kernel
theorem dX5_range_48 : decode cX5_range 48 = .ok (.dastore, 1) := by decide +kernel
theorem dX5_range_49 : decode cX5_range 49 = .ok (.aload_n 0, 1) := by decide +kernel
theorem dX5_range_50 : decode cX5_range 50 = .ok (.getfield 44, 3) := by decide +kernel
theorem dX5_range_53 : decode cX5_range 53 = .ok (.iload_n 1, 1) := by decide +kernel
theorem dX5_range_54 : decode cX5_range 54 = .ok (.dload 4, 2) := by decide +kernel
theorem dX5_range_56 : decode cX5_range 56 = .ok (.dastore, 1) := by decide +kernel
theorem dX5_range_57 : decode cX5_range 57 = .ok (.iconst 1, 1) := by decide +kernel
theorem dX5_range_58 : decode cX5_range 58 = .ok (.ireturn, 1) := by decide +kernel
theorem dL_law_0 : decode cL_law 0 = .ok (.new 7, 3) := by decide +kernel
theorem dL_law_3 : decode cL_law 3 = .ok (.dup, 1) := by decide +kernel
theorem dL_law_4 : decode cL_law 4 = .ok (.invokespecial 9, 3) := by decide +kernel
theorem dL_law_7 : decode cL_law 7 = .ok (.astore_n 1, 1) := by decide +kernel
theorem dL_law_8 : decode cL_law 8 = .ok (.new 10, 3) := by decide +kernel
theorem dL_law_11 : decode cL_law 11 = .ok (.dup, 1) := by decide +kernel
theorem dL_law_12 : decode cL_law 12 = .ok (.invokespecial 12, 3) := by decide +kernel
theorem dL_law_15 : decode cL_law 15 = .ok (.astore_n 2, 1) := by decide +kernel
theorem dL_law_16 : decode cL_law 16 = .ok (.iconst 0, 1) := by decide +kernel
theorem dL_law_17 : decode cL_law 17 = .ok (.istore_n 3, 1) := by decide +kernel
theorem dL_law_18 : decode cL_law 18 = .ok (.iload_n 3, 1) := by decide +kernel
theorem dL_law_19 : decode cL_law 19 = .ok (.aload_n 0, 1) := by decide +kernel
theorem dL_law_20 : decode cL_law 20 = .ok (.arraylength, 1) := by decide +kernel
theorem dL_law_21 : decode cL_law 21 = .ok (.iconst 5, 1) := by decide +kernel
theorem dL_law_22 : decode cL_law 22 = .ok (.isub, 1) := by decide +kernel
theorem dL_law_23 : decode cL_law 23 = .ok (.if_icmp .gt 833, 3) := by decide +kernel
theorem dL_law_26 : decode cL_law 26 = .ok (.aload_n 0, 1) := by decide +kernel
theorem dL_law_27 : decode cL_law 27 = .ok (.iload_n 3, 1) := by decide +kernel
theorem dL_law_28 : decode cL_law 28 = .ok (.iaload, 1) := by decide +kernel
theorem dL_law_29 : decode cL_law 29 = .ok (.bipush 15, 2) := by decide +kernel
theorem dL_law_31 : decode cL_law 31 = .ok (.iand, 1) := by decide +kernel
theorem dL_law_32 : decode cL_law 32 = .ok (.tableswitch 818 0 13 #[72, 145, 228, 271, 362, 395, 438, 471, 514, 575, 638, 671, 732, 755], 72) := by decide +kernel
theorem dL_law_104 : decode cL_law 104 = .ok (.aload_n 1, 1) := by decide +kernel
theorem dL_law_105 : decode cL_law 105 = .ok (.aload_n 0, 1) := by decide +kernel
theorem dL_law_106 : decode cL_law 106 = .ok (.iload_n 3, 1) := by decide +kernel
theorem dL_law_107 : decode cL_law 107 = .ok (.iconst 1, 1) := by decide +kernel
theorem dL_law_108 : decode cL_law 108 = .ok (.iadd, 1) := by decide +kernel
theorem dL_law_109 : decode cL_law 109 = .ok (.iaload, 1) := by decide +kernel
theorem dL_law_110 : decode cL_law 110 = .ok (.i2d, 1) := by decide +kernel
theorem dL_law_111 : decode cL_law 111 = .ok (.ldc2_w 13, 3) := by decide +kernel
theorem dL_law_114 : decode cL_law 114 = .ok (.dmul, 1) := by decide +kernel
theorem dL_law_115 : decode cL_law 115 = .ok (.aload_n 0, 1) := by decide +kernel
theorem dL_law_116 : decode cL_law 116 = .ok (.iload_n 3, 1) := by decide +kernel
theorem dL_law_117 : decode cL_law 117 = .ok (.iconst 2, 1) := by decide +kernel
theorem dL_law_118 : decode cL_law 118 = .ok (.iadd, 1) := by decide +kernel
theorem dL_law_119 : decode cL_law 119 = .ok (.iaload, 1) := by decide +kernel
theorem dL_law_120 : decode cL_law 120 = .ok (.i2d, 1) := by decide +kernel
theorem dL_law_121 : decode cL_law 121 = .ok (.ldc2_w 13, 3) := by decide +kernel
theorem dL_law_124 : decode cL_law 124 = .ok (.dmul, 1) := by decide +kernel
theorem dL_law_125 : decode cL_law 125 = .ok (.aload_n 0, 1) := by decide +kernel
theorem dL_law_126 : decode cL_law 126 = .ok (.iload_n 3, 1) := by decide +kernel
theorem dL_law_127 : decode cL_law 127 = .ok (.iconst 3, 1) := by decide +kernel
theorem dL_law_128 : decode cL_law 128 = .ok (.iadd, 1) := by decide +kernel
theorem dL_law_129 : decode cL_law 129 = .ok (.iaload, 1) := by decide +kernel
theorem dL_law_130 : decode cL_law 130 = .ok (.i2d, 1) := by decide +kernel
theorem dL_law_131 : decode cL_law 131 = .ok (.ldc2_w 13, 3) := by decide +kernel
theorem dL_law_134 : decode cL_law 134 = .ok (.dmul, 1) := by decide +kernel
theorem dL_law_135 : decode cL_law 135 = .ok (.invokevirtual 15, 3) := by decide +kernel
theorem dL_law_138 : decode cL_law 138 = .ok (.aload_n 2, 1) := by decide +kernel
theorem dL_law_139 : decode cL_law 139 = .ok (.aload_n 0, 1) := by decide +kernel
theorem dL_law_140 : decode cL_law 140 = .ok (.iload_n 3, 1) := by decide +kernel
theorem dL_law_141 : decode cL_law 141 = .ok (.iconst 1, 1) := by decide +kernel
theorem dL_law_142 : decode cL_law 142 = .ok (.iadd, 1) := by decide +kernel
theorem dL_law_143 : decode cL_law 143 = .ok (.iaload, 1) := by decide +kernel
theorem dL_law_144 : decode cL_law 144 = .ok (.i2d, 1) := by decide +kernel
theorem dL_law_145 : decode cL_law 145 = .ok (.ldc2_w 13, 3) := by decide +kernel
theorem dL_law_148 : decode cL_law 148 = .ok (.dmul, 1) := by decide +kernel
theorem dL_law_149 : decode cL_law 149 = .ok (.aload_n 0, 1) := by decide +kernel
theorem dL_law_150 : decode cL_law 150 = .ok (.iload_n 3, 1) := by decide +kernel
theorem dL_law_151 : decode cL_law 151 = .ok (.iconst 2, 1) := by decide +kernel
theorem dL_law_152 : decode cL_law 152 = .ok (.iadd, 1) := by decide +kernel
theorem dL_law_153 : decode cL_law 153 = .ok (.iaload, 1) := by decide +kernel
theorem dL_law_154 : decode cL_law 154 = .ok (.i2d, 1) := by decide +kernel
theorem dL_law_155 : decode cL_law 155 = .ok (.ldc2_w 13, 3) := by decide +kernel
theorem dL_law_158 : decode cL_law 158 = .ok (.dmul, 1) := by decide +kernel
theorem dL_law_159 : decode cL_law 159 = .ok (.aload_n 0, 1) := by decide +kernel
theorem dL_law_160 : decode cL_law 160 = .ok (.iload_n 3, 1) := by decide +kernel
theorem dL_law_161 : decode cL_law 161 = .ok (.iconst 3, 1) := by decide +kernel
theorem dL_law_162 : decode cL_law 162 = .ok (.iadd, 1) := by decide +kernel
theorem dL_law_163 : decode cL_law 163 = .ok (.iaload, 1) := by decide +kernel
theorem dL_law_164 : decode cL_law 164 = .ok (.i2d, 1) := by decide +kernel
theorem dL_law_165 : decode cL_law 165 = .ok (.ldc2_w 13, 3) := by decide +kernel
theorem dL_law_168 : decode cL_law 168 = .ok (.dmul, 1) := by decide +kernel
theorem dL_law_169 : decode cL_law 169 = .ok (.invokevirtual 19, 3) := by decide +kernel
theorem dL_law_172 : decode cL_law 172 = .ok (.if_icmp .eq 678, 3) := by decide +kernel
theorem dL_law_175 : decode cL_law 175 = .ok (.iconst 0, 1) := by decide +kernel
theorem dL_law_176 : decode cL_law 176 = .ok (.ireturn, 1) := by decide +kernel
theorem dL_law_177 : decode cL_law 177 = .ok (.aload_n 1, 1) := by decide +kernel
theorem dL_law_178 : decode cL_law 178 = .ok (.aload_n 0, 1) := by decide +kernel
theorem dL_law_179 : decode cL_law 179 = .ok (.iload_n 3, 1) := by decide +kernel
theorem dL_law_180 : decode cL_law 180 = .ok (.iconst 1, 1) := by decide +kernel
theorem dL_law_181 : decode cL_law 181 = .ok (.iadd, 1) := by decide +kernel
theorem dL_law_182 : decode cL_law 182 = .ok (.iaload, 1) := by decide +kernel
theorem dL_law_183 : decode cL_law 183 = .ok (.aload_n 0, 1) := by decide +kernel
theorem dL_law_184 : decode cL_law 184 = .ok (.iload_n 3, 1) := by decide +kernel
theorem dL_law_185 : decode cL_law 185 = .ok (.iconst 2, 1) := by decide +kernel
theorem dL_law_186 : decode cL_law 186 = .ok (.iadd, 1) := by decide +kernel
theorem dL_law_187 : decode cL_law 187 = .ok (.iaload, 1) := by decide +kernel
theorem dL_law_188 : decode cL_law 188 = .ok (.i2d, 1) := by decide +kernel
theorem dL_law_189 : decode cL_law 189 = .ok (.ldc2_w 13, 3) := by decide +kernel
theorem dL_law_192 : decode cL_law 192 = .ok (.dmul, 1) := by decide +kernel
theorem dL_law_193 : decode cL_law 193 = .ok (.aload_n 0, 1) := by decide +kernel
theorem dL_law_194 : decode cL_law 194 = .ok (.iload_n 3, 1) := by decide +kernel
theorem dL_law_195 : decode cL_law 195 = .ok (.iconst 3, 1) := by decide +kernel
theorem dL_law_196 : decode cL_law 196 = .ok (.iadd, 1) := by decide +kernel
theorem dL_law_197 : decode cL_law 197 = .ok (.iaload, 1) := by decide +kernel
theorem dL_law_198 : decode cL_law 198 = .ok (.i2d, 1) := by decide +kernel
theorem dL_law_199 : decode cL_law 199 = .ok (.ldc2_w 13, 3) := by decide +kernel
theorem dL_law_202 : decode cL_law 202 = .ok (.dmul, 1) := by decide +kernel
theorem dL_law_203 : decode cL_law 203 = .ok (.aload_n 0, 1) := by decide +kernel
theorem dL_law_204 : decode cL_law 204 = .ok (.iload_n 3, 1) := by decide +kernel
theorem dL_law_205 : decode cL_law 205 = .ok (.iconst 4, 1) := by decide +kernel
theorem dL_law_206 : decode cL_law 206 = .ok (.iadd, 1) := by decide +kernel
theorem dL_law_207 : decode cL_law 207 = .ok (.iaload, 1) := by decide +kernel
theorem dL_law_208 : decode cL_law 208 = .ok (.i2d, 1) := by decide +kernel
theorem dL_law_209 : decode cL_law 209 = .ok (.ldc2_w 13, 3) := by decide +kernel
theorem dL_law_212 : decode cL_law 212 = .ok (.dmul, 1) := by decide +kernel
theorem dL_law_213 : decode cL_law 213 = .ok (.invokevirtual 20, 3) := by decide +kernel
theorem dL_law_216 : decode cL_law 216 = .ok (.aload_n 2, 1) := by decide +kernel
theorem dL_law_217 : decode cL_law 217 = .ok (.aload_n 0, 1) := by decide +kernel
theorem dL_law_218 : decode cL_law 218 = .ok (.iload_n 3, 1) := by decide +kernel
theorem dL_law_219 : decode cL_law 219 = .ok (.iconst 1, 1) := by decide +kernel
theorem dL_law_220 : decode cL_law 220 = .ok (.iadd, 1) := by decide +kernel
theorem dL_law_221 : decode cL_law 221 = .ok (.iaload, 1) := by decide +kernel
theorem dL_law_222 : decode cL_law 222 = .ok (.aload_n 0, 1) := by decide +kernel
theorem dL_law_223 : decode cL_law 223 = .ok (.iload_n 3, 1) := by decide +kernel
theorem dL_law_224 : decode cL_law 224 = .ok (.iconst 2, 1) := by decide +kernel
theorem dL_law_225 : decode cL_law 225 = .ok (.iadd, 1) := by decide +kernel
theorem dL_law_226 : decode cL_law 226 = .ok (.iaload, 1) := by decide +kernel
theorem dL_law_227 : decode cL_law 227 = .ok (.i2d, 1) := by decide +kernel
theorem dL_law_228 : decode cL_law 228 = .ok (.ldc2_w 13, 3) := by decide +kernel
theorem dL_law_231 : decode cL_law 231 = .ok (.dmul, 1) := by decide +kernel
theorem dL_law_232 : decode cL_law 232 = .ok (.aload_n 0, 1) := by decide +kernel
theorem dL_law_233 : decode cL_law 233 = .ok (.iload_n 3, 1) := by decide +kernel
theorem dL_law_234 : decode cL_law 234 = .ok (.iconst 3, 1) := by decide +kernel
theorem dL_law_235 : decode cL_law 235 = .ok (.iadd, 1) := by decide +kernel
theorem dL_law_236 : decode cL_law 236 = .ok (.iaload, 1) := by decide +kernel
theorem dL_law_237 : decode cL_law 237 = .ok (.i2d, 1) := by decide +kernel
theorem dL_law_238 : decode cL_law 238 = .ok (.ldc2_w 13, 3) := by decide +kernel
theorem dL_law_241 : decode cL_law 241 = .ok (.dmul, 1) := by decide +kernel
theorem dL_law_242 : decode cL_law 242 = .ok (.aload_n 0, 1) := by decide +kernel
theorem dL_law_243 : decode cL_law 243 = .ok (.iload_n 3, 1) := by decide +kernel
theorem dL_law_244 : decode cL_law 244 = .ok (.iconst 4, 1) := by decide +kernel
theorem dL_law_245 : decode cL_law 245 = .ok (.iadd, 1) := by decide +kernel
theorem dL_law_246 : decode cL_law 246 = .ok (.iaload, 1) := by decide +kernel
theorem dL_law_247 : decode cL_law 247 = .ok (.i2d, 1) := by decide +kernel
theorem dL_law_248 : decode cL_law 248 = .ok (.ldc2_w 13, 3) := by decide +kernel
theorem dL_law_251 : decode cL_law 251 = .ok (.dmul, 1) := by decide +kernel
theorem dL_law_252 : decode cL_law 252 = .ok (.invokevirtual 24, 3) := by decide +kernel
theorem dL_law_255 : decode cL_law 255 = .ok (.if_icmp .eq 595, 3) := by decide +kernel
theorem dL_law_258 : decode cL_law 258 = .ok (.iconst 0, 1) := by decide +kernel
theorem dL_law_259 : decode cL_law 259 = .ok (.ireturn, 1) := by decide +kernel
theorem dL_law_260 : decode cL_law 260 = .ok (.aload_n 1, 1) := by decide +kernel
theorem dL_law_261 : decode cL_law 261 = .ok (.aload_n 0, 1) := by decide +kernel
theorem dL_law_262 : decode cL_law 262 = .ok (.iload_n 3, 1) := by decide +kernel
theorem dL_law_263 : decode cL_law 263 = .ok (.iconst 1, 1) := by decide +kernel
theorem dL_law_264 : decode cL_law 264 = .ok (.iadd, 1) := by decide +kernel
theorem dL_law_265 : decode cL_law 265 = .ok (.iaload, 1) := by decide +kernel
theorem dL_law_266 : decode cL_law 266 = .ok (.aload_n 0, 1) := by decide +kernel
theorem dL_law_267 : decode cL_law 267 = .ok (.iload_n 3, 1) := by decide +kernel
theorem dL_law_268 : decode cL_law 268 = .ok (.iconst 2, 1) := by decide +kernel
theorem dL_law_269 : decode cL_law 269 = .ok (.iadd, 1) := by decide +kernel
theorem dL_law_270 : decode cL_law 270 = .ok (.iaload, 1) := by decide +kernel
theorem dL_law_271 : decode cL_law 271 = .ok (.i2d, 1) := by decide +kernel
theorem dL_law_272 : decode cL_law 272 = .ok (.ldc2_w 13, 3) := by decide +kernel
theorem dL_law_275 : decode cL_law 275 = .ok (.dmul, 1) := by decide +kernel
theorem dL_law_276 : decode cL_law 276 = .ok (.invokevirtual 25, 3) := by decide +kernel
theorem dL_law_279 : decode cL_law 279 = .ok (.aload_n 2, 1) := by decide +kernel
theorem dL_law_280 : decode cL_law 280 = .ok (.aload_n 0, 1) := by decide +kernel
theorem dL_law_281 : decode cL_law 281 = .ok (.iload_n 3, 1) := by decide +kernel
theorem dL_law_282 : decode cL_law 282 = .ok (.iconst 1, 1) := by decide +kernel
theorem dL_law_283 : decode cL_law 283 = .ok (.iadd, 1) := by decide +kernel
theorem dL_law_284 : decode cL_law 284 = .ok (.iaload, 1) := by decide +kernel
theorem dL_law_285 : decode cL_law 285 = .ok (.aload_n 0, 1) := by decide +kernel
theorem dL_law_286 : decode cL_law 286 = .ok (.iload_n 3, 1) := by decide +kernel
theorem dL_law_287 : decode cL_law 287 = .ok (.iconst 2, 1) := by decide +kernel
theorem dL_law_288 : decode cL_law 288 = .ok (.iadd, 1) := by decide +kernel
theorem dL_law_289 : decode cL_law 289 = .ok (.iaload, 1) := by decide +kernel
theorem dL_law_290 : decode cL_law 290 = .ok (.i2d, 1) := by decide +kernel
theorem dL_law_291 : decode cL_law 291 = .ok (.ldc2_w 13, 3) := by decide +kernel
theorem dL_law_294 : decode cL_law 294 = .ok (.dmul, 1) := by decide +kernel
theorem dL_law_295 : decode cL_law 295 = .ok (.invokevirtual 29, 3) := by decide +kernel
theorem dL_law_298 : decode cL_law 298 = .ok (.if_icmp .eq 552, 3) := by decide +kernel
theorem dL_law_301 : decode cL_law 301 = .ok (.iconst 0, 1) := by decide +kernel
theorem dL_law_302 : decode cL_law 302 = .ok (.ireturn, 1) := by decide +kernel
theorem dL_law_303 : decode cL_law 303 = .ok (.aload_n 1, 1) := by decide +kernel
theorem dL_law_304 : decode cL_law 304 = .ok (.aload_n 0, 1) := by decide +kernel
theorem dL_law_305 : decode cL_law 305 = .ok (.iload_n 3, 1) := by decide +kernel
theorem dL_law_306 : decode cL_law 306 = .ok (.iconst 1, 1) := by decide +kernel
theorem dL_law_307 : decode cL_law 307 = .ok (.iadd, 1) := by decide +kernel
theorem dL_law_308 : decode cL_law 308 = .ok (.iaload, 1) := by decide +kernel
theorem dL_law_309 : decode cL_law 309 = .ok (.aload_n 0, 1) := by decide +kernel
theorem dL_law_310 : decode cL_law 310 = .ok (.iload_n 3, 1) := by decide +kernel
theorem dL_law_311 : decode cL_law 311 = .ok (.iconst 2, 1) := by decide +kernel
theorem dL_law_312 : decode cL_law 312 = .ok (.iadd, 1) := by decide +kernel
theorem dL_law_313 : decode cL_law 313 = .ok (.iaload, 1) := by decide +kernel
theorem dL_law_314 : decode cL_law 314 = .ok (.i2d, 1) := by decide +kernel
theorem dL_law_315 : decode cL_law 315 = .ok (.ldc2_w 13, 3) := by decide +kernel
theorem dL_law_318 : decode cL_law 318 = .ok (.dmul, 1) := by decide +kernel
theorem dL_law_319 : decode cL_law 319 = .ok (.aload_n 0, 1) := by decide +kernel
theorem dL_law_320 : decode cL_law 320 = .ok (.iload_n 3, 1) := by decide +kernel
theorem dL_law_321 : decode cL_law 321 = .ok (.iconst 3, 1) := by decide +kernel
theorem dL_law_322 : decode cL_law 322 = .ok (.iadd, 1) := by decide +kernel
theorem dL_law_323 : decode cL_law 323 = .ok (.iaload, 1) := by decide +kernel
theorem dL_law_324 : decode cL_law 324 = .ok (.i2d, 1) := by decide +kernel
theorem dL_law_325 : decode cL_law 325 = .ok (.ldc2_w 13, 3) := by decide +kernel
theorem dL_law_328 : decode cL_law 328 = .ok (.dmul, 1) := by decide +kernel
theorem dL_law_329 : decode cL_law 329 = .ok (.invokevirtual 30, 3) := by decide +kernel
theorem dL_law_332 : decode cL_law 332 = .ok (.dstore 4, 2) := by decide +kernel
theorem dL_law_334 : decode cL_law 334 = .ok (.aload_n 2, 1) := by decide +kernel
theorem dL_law_335 : decode cL_law 335 = .ok (.aload_n 0, 1) := by decide +kernel
theorem dL_law_336 : decode cL_law 336 = .ok (.iload_n 3, 1) := by decide +kernel
theorem dL_law_337 : decode cL_law 337 = .ok (.iconst 1, 1) := by decide +kernel
theorem dL_law_338 : decode cL_law 338 = .ok (.iadd, 1) := by decide +kernel
theorem dL_law_339 : decode cL_law 339 = .ok (.iaload, 1) := by decide +kernel
theorem dL_law_340 : decode cL_law 340 = .ok (.aload_n 0, 1) := by decide +kernel
theorem dL_law_341 : decode cL_law 341 = .ok (.iload_n 3, 1) := by decide +kernel
theorem dL_law_342 : decode cL_law 342 = .ok (.iconst 2, 1) := by decide +kernel
theorem dL_law_343 : decode cL_law 343 = .ok (.iadd, 1) := by decide +kernel
theorem dL_law_344 : decode cL_law 344 = .ok (.iaload, 1) := by decide +kernel
theorem dL_law_345 : decode cL_law 345 = .ok (.i2d, 1) := by decide +kernel
theorem dL_law_346 : decode cL_law 346 = .ok (.ldc2_w 13, 3) := by decide +kernel
theorem dL_law_349 : decode cL_law 349 = .ok (.dmul, 1) := by decide +kernel
theorem dL_law_350 : decode cL_law 350 = .ok (.aload_n 0, 1) := by decide +kernel
theorem dL_law_351 : decode cL_law 351 = .ok (.iload_n 3, 1) := by decide +kernel
theorem dL_law_352 : decode cL_law 352 = .ok (.iconst 3, 1) := by decide +kernel
theorem dL_law_353 : decode cL_law 353 = .ok (.iadd, 1) := by decide +kernel
theorem dL_law_354 : decode cL_law 354 = .ok (.iaload, 1) := by decide +kernel
theorem dL_law_355 : decode cL_law 355 = .ok (.i2d, 1) := by decide +kernel
theorem dL_law_356 : decode cL_law 356 = .ok (.ldc2_w 13, 3) := by decide +kernel
theorem dL_law_359 : decode cL_law 359 = .ok (.dmul, 1) := by decide +kernel
theorem dL_law_360 : decode cL_law 360 = .ok (.invokevirtual 34, 3) := by decide +kernel
theorem dL_law_363 : decode cL_law 363 = .ok (.dstore 6, 2) := by decide +kernel
theorem dL_law_365 : decode cL_law 365 = .ok (.dload 4, 2) := by decide +kernel
theorem dL_law_367 : decode cL_law 367 = .ok (.dload 6, 2) := by decide +kernel
theorem dL_law_369 : decode cL_law 369 = .ok (.dcmp .l, 1) := by decide +kernel
theorem dL_law_370 : decode cL_law 370 = .ok (.ifCond .eq 21, 3) := by decide +kernel
theorem dL_law_373 : decode cL_law 373 = .ok (.dload 4, 2) := by decide +kernel
theorem dL_law_375 : decode cL_law 375 = .ok (.dload 4, 2) := by decide +kernel
theorem dL_law_377 : decode cL_law 377 = .ok (.dcmp .l, 1) := by decide +kernel
theorem dL_law_378 : decode cL_law 378 = .ok (.ifCond .eq 11, 3) := by decide +kernel
theorem dL_law_381 : decode cL_law 381 = .ok (.dload 6, 2) := by decide +kernel
theorem dL_law_383 : decode cL_law 383 = .ok (.dload 6, 2) := by decide +kernel
theorem dL_law_385 : decode cL_law 385 = .ok (.dcmp .l, 1) := by decide +kernel
theorem dL_law_386 : decode cL_law 386 = .ok (.ifCond .ne 5, 3) := by decide +kernel
theorem dL_law_389 : decode cL_law 389 = .ok (.iconst 0, 1) := by decide +kernel
theorem dL_law_390 : decode cL_law 390 = .ok (.ireturn, 1) := by decide +kernel
theorem dL_law_391 : decode cL_law 391 = .ok (.goto 459, 3) := by decide +kernel
theorem dL_law_394 : decode cL_law 394 = .ok (.aload_n 1, 1) := by decide +kernel
theorem dL_law_395 : decode cL_law 395 = .ok (.aload_n 0, 1) := by decide +kernel
theorem dL_law_396 : decode cL_law 396 = .ok (.iload_n 3, 1) := by decide +kernel
theorem dL_law_397 : decode cL_law 397 = .ok (.iconst 1, 1) := by decide +kernel
theorem dL_law_398 : decode cL_law 398 = .ok (.iadd, 1) := by decide +kernel
theorem dL_law_399 : decode cL_law 399 = .ok (.iaload, 1) := by decide +kernel
theorem dL_law_400 : decode cL_law 400 = .ok (.aload_n 0, 1) := by decide +kernel
theorem dL_law_401 : decode cL_law 401 = .ok (.iload_n 3, 1) := by decide +kernel
theorem dL_law_402 : decode cL_law 402 = .ok (.iconst 2, 1) := by decide +kernel
theorem dL_law_403 : decode cL_law 403 = .ok (.iadd, 1) := by decide +kernel
theorem dL_law_404 : decode cL_law 404 = .ok (.iaload, 1) := by decide +kernel
theorem dL_law_405 : decode cL_law 405 = .ok (.invokevirtual 35, 3) := by decide +kernel
theorem dL_law_408 : decode cL_law 408 = .ok (.aload_n 2, 1) := by decide +kernel
theorem dL_law_409 : decode cL_law 409 = .ok (.aload_n 0, 1) := by decide +kernel
theorem dL_law_410 : decode cL_law 410 = .ok (.iload_n 3, 1) := by decide +kernel
theorem dL_law_411 : decode cL_law 411 = .ok (.iconst 1, 1) := by decide +kernel
theorem dL_law_412 : decode cL_law 412 = .ok (.iadd, 1) := by decide +kernel
theorem dL_law_413 : decode cL_law 413 = .ok (.iaload, 1) := by decide +kernel
theorem dL_law_414 : decode cL_law 414 = .ok (.aload_n 0, 1) := by decide +kernel
theorem dL_law_415 : decode cL_law 415 = .ok (.iload_n 3, 1) := by decide +kernel
theorem dL_law_416 : decode cL_law 416 = .ok (.iconst 2, 1) := by decide +kernel
theorem dL_law_417 : decode cL_law 417 = .ok (.iadd, 1) := by decide +kernel
theorem dL_law_418 : decode cL_law 418 = .ok (.iaload, 1) := by decide +kernel
theorem dL_law_419 : decode cL_law 419 = .ok (.invokevirtual 39, 3) := by decide +kernel
theorem dL_law_422 : decode cL_law 422 = .ok (.if_icmp .eq 428, 3) := by decide +kernel
theorem dL_law_425 : decode cL_law 425 = .ok (.iconst 0, 1) := by decide +kernel
theorem dL_law_426 : decode cL_law 426 = .ok (.ireturn, 1) := by decide +kernel
theorem dL_law_427 : decode cL_law 427 = .ok (.aload_n 1, 1) := by decide +kernel
theorem dL_law_428 : decode cL_law 428 = .ok (.aload_n 0, 1) := by decide +kernel
theorem dL_law_429 : decode cL_law 429 = .ok (.iload_n 3, 1) := by decide +kernel
theorem dL_law_430 : decode cL_law 430 = .ok (.iconst 1, 1) := by decide +kernel
theorem dL_law_431 : decode cL_law 431 = .ok (.iadd, 1) := by decide +kernel
theorem dL_law_432 : decode cL_law 432 = .ok (.iaload, 1) := by decide +kernel
theorem dL_law_433 : decode cL_law 433 = .ok (.aload_n 0, 1) := by decide +kernel
theorem dL_law_434 : decode cL_law 434 = .ok (.iload_n 3, 1) := by decide +kernel
theorem dL_law_435 : decode cL_law 435 = .ok (.iconst 2, 1) := by decide +kernel
theorem dL_law_436 : decode cL_law 436 = .ok (.iadd, 1) := by decide +kernel
theorem dL_law_437 : decode cL_law 437 = .ok (.iaload, 1) := by decide +kernel
theorem dL_law_438 : decode cL_law 438 = .ok (.i2d, 1) := by decide +kernel
theorem dL_law_439 : decode cL_law 439 = .ok (.ldc2_w 13, 3) := by decide +kernel
theorem dL_law_442 : decode cL_law 442 = .ok (.dmul, 1) := by decide +kernel
theorem dL_law_443 : decode cL_law 443 = .ok (.invokevirtual 40, 3) := by decide +kernel
theorem dL_law_446 : decode cL_law 446 = .ok (.aload_n 2, 1) := by decide +kernel
theorem dL_law_447 : decode cL_law 447 = .ok (.aload_n 0, 1) := by decide +kernel
theorem dL_law_448 : decode cL_law 448 = .ok (.iload_n 3, 1) := by decide +kernel
theorem dL_law_449 : decode cL_law 449 = .ok (.iconst 1, 1) := by decide +kernel
theorem dL_law_450 : decode cL_law 450 = .ok (.iadd, 1) := by decide +kernel
theorem dL_law_451 : decode cL_law 451 = .ok (.iaload, 1) := by decide +kernel
theorem dL_law_452 : decode cL_law 452 = .ok (.aload_n 0, 1) := by decide +kernel
theorem dL_law_453 : decode cL_law 453 = .ok (.iload_n 3, 1) := by decide +kernel
theorem dL_law_454 : decode cL_law 454 = .ok (.iconst 2, 1) := by decide +kernel
theorem dL_law_455 : decode cL_law 455 = .ok (.iadd, 1) := by decide +kernel
theorem dL_law_456 : decode cL_law 456 = .ok (.iaload, 1) := by decide +kernel
theorem dL_law_457 : decode cL_law 457 = .ok (.i2d, 1) := by decide +kernel
theorem dL_law_458 : decode cL_law 458 = .ok (.ldc2_w 13, 3) := by decide +kernel
theorem dL_law_461 : decode cL_law 461 = .ok (.dmul, 1) := by decide +kernel
theorem dL_law_462 : decode cL_law 462 = .ok (.invokevirtual 43, 3) := by decide +kernel
theorem dL_law_465 : decode cL_law 465 = .ok (.if_icmp .eq 385, 3) := by decide +kernel
theorem dL_law_468 : decode cL_law 468 = .ok (.iconst 0, 1) := by decide +kernel
theorem dL_law_469 : decode cL_law 469 = .ok (.ireturn, 1) := by decide +kernel
theorem dL_law_470 : decode cL_law 470 = .ok (.aload_n 1, 1) := by decide +kernel
theorem dL_law_471 : decode cL_law 471 = .ok (.aload_n 0, 1) := by decide +kernel
theorem dL_law_472 : decode cL_law 472 = .ok (.iload_n 3, 1) := by decide +kernel
theorem dL_law_473 : decode cL_law 473 = .ok (.iconst 1, 1) := by decide +kernel
theorem dL_law_474 : decode cL_law 474 = .ok (.iadd, 1) := by decide +kernel
theorem dL_law_475 : decode cL_law 475 = .ok (.iaload, 1) := by decide +kernel
theorem dL_law_476 : decode cL_law 476 = .ok (.aload_n 0, 1) := by decide +kernel
theorem dL_law_477 : decode cL_law 477 = .ok (.iload_n 3, 1) := by decide +kernel
theorem dL_law_478 : decode cL_law 478 = .ok (.iconst 2, 1) := by decide +kernel
theorem dL_law_479 : decode cL_law 479 = .ok (.iadd, 1) := by decide +kernel
theorem dL_law_480 : decode cL_law 480 = .ok (.iaload, 1) := by decide +kernel
theorem dL_law_481 : decode cL_law 481 = .ok (.invokevirtual 44, 3) := by decide +kernel
theorem dL_law_484 : decode cL_law 484 = .ok (.aload_n 2, 1) := by decide +kernel
theorem dL_law_485 : decode cL_law 485 = .ok (.aload_n 0, 1) := by decide +kernel
theorem dL_law_486 : decode cL_law 486 = .ok (.iload_n 3, 1) := by decide +kernel
theorem dL_law_487 : decode cL_law 487 = .ok (.iconst 1, 1) := by decide +kernel
theorem dL_law_488 : decode cL_law 488 = .ok (.iadd, 1) := by decide +kernel
theorem dL_law_489 : decode cL_law 489 = .ok (.iaload, 1) := by decide +kernel
theorem dL_law_490 : decode cL_law 490 = .ok (.aload_n 0, 1) := by decide +kernel
theorem dL_law_491 : decode cL_law 491 = .ok (.iload_n 3, 1) := by decide +kernel
theorem dL_law_492 : decode cL_law 492 = .ok (.iconst 2, 1) := by decide +kernel
theorem dL_law_493 : decode cL_law 493 = .ok (.iadd, 1) := by decide +kernel
theorem dL_law_494 : decode cL_law 494 = .ok (.iaload, 1) := by decide +kernel
theorem dL_law_495 : decode cL_law 495 = .ok (.invokevirtual 47, 3) := by decide +kernel
theorem dL_law_498 : decode cL_law 498 = .ok (.if_icmp .eq 352, 3) := by decide +kernel
theorem dL_law_501 : decode cL_law 501 = .ok (.iconst 0, 1) := by decide +kernel
theorem dL_law_502 : decode cL_law 502 = .ok (.ireturn, 1) := by decide +kernel
theorem dL_law_503 : decode cL_law 503 = .ok (.aload_n 1, 1) := by decide +kernel
theorem dL_law_504 : decode cL_law 504 = .ok (.aload_n 0, 1) := by decide +kernel
theorem dL_law_505 : decode cL_law 505 = .ok (.iload_n 3, 1) := by decide +kernel
theorem dL_law_506 : decode cL_law 506 = .ok (.iconst 1, 1) := by decide +kernel
theorem dL_law_507 : decode cL_law 507 = .ok (.iadd, 1) := by decide +kernel
theorem dL_law_508 : decode cL_law 508 = .ok (.iaload, 1) := by decide +kernel
theorem dL_law_509 : decode cL_law 509 = .ok (.aload_n 0, 1) := by decide +kernel
theorem dL_law_510 : decode cL_law 510 = .ok (.iload_n 3, 1) := by decide +kernel
theorem dL_law_511 : decode cL_law 511 = .ok (.iconst 2, 1) := by decide +kernel
theorem dL_law_512 : decode cL_law 512 = .ok (.iadd, 1) := by decide +kernel
theorem dL_law_513 : decode cL_law 513 = .ok (.iaload, 1) := by decide +kernel
theorem dL_law_514 : decode cL_law 514 = .ok (.i2d, 1) := by decide +kernel
theorem dL_law_515 : decode cL_law 515 = .ok (.ldc2_w 13, 3) := by decide +kernel
theorem dL_law_518 : decode cL_law 518 = .ok (.dmul, 1) := by decide +kernel
theorem dL_law_519 : decode cL_law 519 = .ok (.invokevirtual 48, 3) := by decide +kernel
theorem dL_law_522 : decode cL_law 522 = .ok (.aload_n 2, 1) := by decide +kernel
theorem dL_law_523 : decode cL_law 523 = .ok (.aload_n 0, 1) := by decide +kernel
theorem dL_law_524 : decode cL_law 524 = .ok (.iload_n 3, 1) := by decide +kernel
theorem dL_law_525 : decode cL_law 525 = .ok (.iconst 1, 1) := by decide +kernel
theorem dL_law_526 : decode cL_law 526 = .ok (.iadd, 1) := by decide +kernel
theorem dL_law_527 : decode cL_law 527 = .ok (.iaload, 1) := by decide +kernel
theorem dL_law_528 : decode cL_law 528 = .ok (.aload_n 0, 1) := by decide +kernel
theorem dL_law_529 : decode cL_law 529 = .ok (.iload_n 3, 1) := by decide +kernel
theorem dL_law_530 : decode cL_law 530 = .ok (.iconst 2, 1) := by decide +kernel
theorem dL_law_531 : decode cL_law 531 = .ok (.iadd, 1) := by decide +kernel
theorem dL_law_532 : decode cL_law 532 = .ok (.iaload, 1) := by decide +kernel
theorem dL_law_533 : decode cL_law 533 = .ok (.i2d, 1) := by decide +kernel
theorem dL_law_534 : decode cL_law 534 = .ok (.ldc2_w 13, 3) := by decide +kernel
theorem dL_law_537 : decode cL_law 537 = .ok (.dmul, 1) := by decide +kernel
theorem dL_law_538 : decode cL_law 538 = .ok (.invokevirtual 52, 3) := by decide +kernel
theorem dL_law_541 : decode cL_law 541 = .ok (.if_icmp .eq 309, 3) := by decide +kernel
theorem dL_law_544 : decode cL_law 544 = .ok (.iconst 0, 1) := by decide +kernel
theorem dL_law_545 : decode cL_law 545 = .ok (.ireturn, 1) := by decide +kernel
theorem dL_law_546 : decode cL_law 546 = .ok (.aload_n 1, 1) := by decide +kernel
theorem dL_law_547 : decode cL_law 547 = .ok (.aload_n 0, 1) := by decide +kernel
theorem dL_law_548 : decode cL_law 548 = .ok (.iload_n 3, 1) := by decide +kernel
theorem dL_law_549 : decode cL_law 549 = .ok (.iconst 1, 1) := by decide +kernel
theorem dL_law_550 : decode cL_law 550 = .ok (.iadd, 1) := by decide +kernel
theorem dL_law_551 : decode cL_law 551 = .ok (.iaload, 1) := by decide +kernel
theorem dL_law_552 : decode cL_law 552 = .ok (.aload_n 0, 1) := by decide +kernel
theorem dL_law_553 : decode cL_law 553 = .ok (.iload_n 3, 1) := by decide +kernel
theorem dL_law_554 : decode cL_law 554 = .ok (.iconst 2, 1) := by decide +kernel
theorem dL_law_555 : decode cL_law 555 = .ok (.iadd, 1) := by decide +kernel
theorem dL_law_556 : decode cL_law 556 = .ok (.iaload, 1) := by decide +kernel
theorem dL_law_557 : decode cL_law 557 = .ok (.invokevirtual 53, 3) := by decide +kernel
theorem dL_law_560 : decode cL_law 560 = .ok (.dstore 4, 2) := by decide +kernel
theorem dL_law_562 : decode cL_law 562 = .ok (.aload_n 2, 1) := by decide +kernel
theorem dL_law_563 : decode cL_law 563 = .ok (.aload_n 0, 1) := by decide +kernel
theorem dL_law_564 : decode cL_law 564 = .ok (.iload_n 3, 1) := by decide +kernel
theorem dL_law_565 : decode cL_law 565 = .ok (.iconst 1, 1) := by decide +kernel
theorem dL_law_566 : decode cL_law 566 = .ok (.iadd, 1) := by decide +kernel
theorem dL_law_567 : decode cL_law 567 = .ok (.iaload, 1) := by decide +kernel
theorem dL_law_568 : decode cL_law 568 = .ok (.aload_n 0, 1) := by decide +kernel
theorem dL_law_569 : decode cL_law 569 = .ok (.iload_n 3, 1) := by decide +kernel
theorem dL_law_570 : decode cL_law 570 = .ok (.iconst 2, 1) := by decide +kernel
theorem dL_law_571 : decode cL_law 571 = .ok (.iadd, 1) := by decide +kernel
theorem dL_law_572 : decode cL_law 572 = .ok (.iaload, 1) := by decide +kernel
theorem dL_law_573 : decode cL_law 573 = .ok (.invokevirtual 57, 3) := by decide +kernel
theorem dL_law_576 : decode cL_law 576 = .ok (.dstore 6, 2) := by decide +kernel
theorem dL_law_578 : decode cL_law 578 = .ok (.dload 4, 2) := by decide +kernel
theorem dL_law_580 : decode cL_law 580 = .ok (.dload 6, 2) := by decide +kernel
theorem dL_law_582 : decode cL_law 582 = .ok (.dcmp .l, 1) := by decide +kernel
theorem dL_law_583 : decode cL_law 583 = .ok (.ifCond .eq 21, 3) := by decide +kernel
theorem dL_law_586 : decode cL_law 586 = .ok (.dload 4, 2) := by decide +kernel
theorem dL_law_588 : decode cL_law 588 = .ok (.dload 4, 2) := by decide +kernel
theorem dL_law_590 : decode cL_law 590 = .ok (.dcmp .l, 1) := by decide +kernel
theorem dL_law_591 : decode cL_law 591 = .ok (.ifCond .eq 11, 3) := by decide +kernel
theorem dL_law_594 : decode cL_law 594 = .ok (.dload 6, 2) := by decide +kernel
theorem dL_law_596 : decode cL_law 596 = .ok (.dload 6, 2) := by decide +kernel
theorem dL_law_598 : decode cL_law 598 = .ok (.dcmp .l, 1) := by decide +kernel
theorem dL_law_599 : decode cL_law 599 = .ok (.ifCond .ne 5, 3) := by decide +kernel
theorem dL_law_602 : decode cL_law 602 = .ok (.iconst 0, 1) := by decide +kernel
theorem dL_law_603 : decode cL_law 603 = .ok (.ireturn, 1) := by decide +kernel
theorem dL_law_604 : decode cL_law 604 = .ok (.goto 246, 3) := by decide +kernel
theorem dL_law_607 : decode cL_law 607 = .ok (.aload_n 1, 1) := by decide +kernel
theorem dL_law_608 : decode cL_law 608 = .ok (.aload_n 0, 1) := by decide +kernel
theorem dL_law_609 : decode cL_law 609 = .ok (.iload_n 3, 1) := by decide +kernel
theorem dL_law_610 : decode cL_law 610 = .ok (.iconst 1, 1) := by decide +kernel
theorem dL_law_611 : decode cL_law 611 = .ok (.iadd, 1) := by decide +kernel
theorem dL_law_612 : decode cL_law 612 = .ok (.iaload, 1) := by decide +kernel
theorem dL_law_613 : decode cL_law 613 = .ok (.aload_n 0, 1) := by decide +kernel
theorem dL_law_614 : decode cL_law 614 = .ok (.iload_n 3, 1) := by decide +kernel
theorem dL_law_615 : decode cL_law 615 = .ok (.iconst 2, 1) := by decide +kernel
theorem dL_law_616 : decode cL_law 616 = .ok (.iadd, 1) := by decide +kernel
theorem dL_law_617 : decode cL_law 617 = .ok (.iaload, 1) := by decide +kernel
theorem dL_law_618 : decode cL_law 618 = .ok (.i2d, 1) := by decide +kernel
theorem dL_law_619 : decode cL_law 619 = .ok (.ldc2_w 13, 3) := by decide +kernel
theorem dL_law_622 : decode cL_law 622 = .ok (.dmul, 1) := by decide +kernel
theorem dL_law_623 : decode cL_law 623 = .ok (.aload_n 0, 1) := by decide +kernel
theorem dL_law_624 : decode cL_law 624 = .ok (.iload_n 3, 1) := by decide +kernel
theorem dL_law_625 : decode cL_law 625 = .ok (.iconst 3, 1) := by decide +kernel
theorem dL_law_626 : decode cL_law 626 = .ok (.iadd, 1) := by decide +kernel
theorem dL_law_627 : decode cL_law 627 = .ok (.iaload, 1) := by decide +kernel
theorem dL_law_628 : decode cL_law 628 = .ok (.i2d, 1) := by decide +kernel
theorem dL_law_629 : decode cL_law 629 = .ok (.ldc2_w 13, 3) := by decide +kernel
theorem dL_law_632 : decode cL_law 632 = .ok (.dmul, 1) := by decide +kernel
theorem dL_law_633 : decode cL_law 633 = .ok (.invokevirtual 58, 3) := by decide +kernel
theorem dL_law_636 : decode cL_law 636 = .ok (.aload_n 2, 1) := by decide +kernel
theorem dL_law_637 : decode cL_law 637 = .ok (.aload_n 0, 1) := by decide +kernel
theorem dL_law_638 : decode cL_law 638 = .ok (.iload_n 3, 1) := by decide +kernel
theorem dL_law_639 : decode cL_law 639 = .ok (.iconst 1, 1) := by decide +kernel
theorem dL_law_640 : decode cL_law 640 = .ok (.iadd, 1) := by decide +kernel
theorem dL_law_641 : decode cL_law 641 = .ok (.iaload, 1) := by decide +kernel
theorem dL_law_642 : decode cL_law 642 = .ok (.aload_n 0, 1) := by decide +kernel
theorem dL_law_643 : decode cL_law 643 = .ok (.iload_n 3, 1) := by decide +kernel
theorem dL_law_644 : decode cL_law 644 = .ok (.iconst 2, 1) := by decide +kernel
theorem dL_law_645 : decode cL_law 645 = .ok (.iadd, 1) := by decide +kernel
theorem dL_law_646 : decode cL_law 646 = .ok (.iaload, 1) := by decide +kernel
theorem dL_law_647 : decode cL_law 647 = .ok (.i2d, 1) := by decide +kernel
theorem dL_law_648 : decode cL_law 648 = .ok (.ldc2_w 13, 3) := by decide +kernel
theorem dL_law_651 : decode cL_law 651 = .ok (.dmul, 1) := by decide +kernel
theorem dL_law_652 : decode cL_law 652 = .ok (.aload_n 0, 1) := by decide +kernel
theorem dL_law_653 : decode cL_law 653 = .ok (.iload_n 3, 1) := by decide +kernel
theorem dL_law_654 : decode cL_law 654 = .ok (.iconst 3, 1) := by decide +kernel
theorem dL_law_655 : decode cL_law 655 = .ok (.iadd, 1) := by decide +kernel
theorem dL_law_656 : decode cL_law 656 = .ok (.iaload, 1) := by decide +kernel
theorem dL_law_657 : decode cL_law 657 = .ok (.i2d, 1) := by decide +kernel
theorem dL_law_658 : decode cL_law 658 = .ok (.ldc2_w 13, 3) := by decide +kernel
theorem dL_law_661 : decode cL_law 661 = .ok (.dmul, 1) := by decide +kernel
theorem dL_law_662 : decode cL_law 662 = .ok (.invokevirtual 62, 3) := by decide +kernel
theorem dL_law_665 : decode cL_law 665 = .ok (.if_icmp .eq 185, 3) := by decide +kernel
theorem dL_law_668 : decode cL_law 668 = .ok (.iconst 0, 1) := by decide +kernel
theorem dL_law_669 : decode cL_law 669 = .ok (.ireturn, 1) := by decide +kernel
theorem dL_law_670 : decode cL_law 670 = .ok (.aload_n 1, 1) := by decide +kernel
theorem dL_law_671 : decode cL_law 671 = .ok (.aload_n 0, 1) := by decide +kernel
theorem dL_law_672 : decode cL_law 672 = .ok (.iload_n 3, 1) := by decide +kernel
theorem dL_law_673 : decode cL_law 673 = .ok (.iconst 1, 1) := by decide +kernel
theorem dL_law_674 : decode cL_law 674 = .ok (.iadd, 1) := by decide +kernel
theorem dL_law_675 : decode cL_law 675 = .ok (.iaload, 1) := by decide +kernel
theorem dL_law_676 : decode cL_law 676 = .ok (.aload_n 0, 1) := by decide +kernel
theorem dL_law_677 : decode cL_law 677 = .ok (.iload_n 3, 1) := by decide +kernel
theorem dL_law_678 : decode cL_law 678 = .ok (.iconst 2, 1) := by decide +kernel
theorem dL_law_679 : decode cL_law 679 = .ok (.iadd, 1) := by decide +kernel
theorem dL_law_680 : decode cL_law 680 = .ok (.iaload, 1) := by decide +kernel
theorem dL_law_681 : decode cL_law 681 = .ok (.invokevirtual 63, 3) := by decide +kernel
theorem dL_law_684 : decode cL_law 684 = .ok (.aload_n 2, 1) := by decide +kernel
theorem dL_law_685 : decode cL_law 685 = .ok (.aload_n 0, 1) := by decide +kernel
theorem dL_law_686 : decode cL_law 686 = .ok (.iload_n 3, 1) := by decide +kernel
theorem dL_law_687 : decode cL_law 687 = .ok (.iconst 1, 1) := by decide +kernel
theorem dL_law_688 : decode cL_law 688 = .ok (.iadd, 1) := by decide +kernel
theorem dL_law_689 : decode cL_law 689 = .ok (.iaload, 1) := by decide +kernel
theorem dL_law_690 : decode cL_law 690 = .ok (.aload_n 0, 1) := by decide +kernel
theorem dL_law_691 : decode cL_law 691 = .ok (.iload_n 3, 1) := by decide +kernel
theorem dL_law_692 : decode cL_law 692 = .ok (.iconst 2, 1) := by decide +kernel
theorem dL_law_693 : decode cL_law 693 = .ok (.iadd, 1) := by decide +kernel
theorem dL_law_694 : decode cL_law 694 = .ok (.iaload, 1) := by decide +kernel
theorem dL_law_695 : decode cL_law 695 = .ok (.invokevirtual 67, 3) := by decide +kernel
theorem dL_law_698 : decode cL_law 698 = .ok (.if_icmp .eq 152, 3) := by decide +kernel
theorem dL_law_701 : decode cL_law 701 = .ok (.iconst 0, 1) := by decide +kernel
theorem dL_law_702 : decode cL_law 702 = .ok (.ireturn, 1) := by decide +kernel
theorem dL_law_703 : decode cL_law 703 = .ok (.aload_n 1, 1) := by decide +kernel
theorem dL_law_704 : decode cL_law 704 = .ok (.aload_n 0, 1) := by decide +kernel
theorem dL_law_705 : decode cL_law 705 = .ok (.iload_n 3, 1) := by decide +kernel
theorem dL_law_706 : decode cL_law 706 = .ok (.iconst 1, 1) := by decide +kernel
theorem dL_law_707 : decode cL_law 707 = .ok (.iadd, 1) := by decide +kernel
theorem dL_law_708 : decode cL_law 708 = .ok (.iaload, 1) := by decide +kernel
theorem dL_law_709 : decode cL_law 709 = .ok (.aload_n 0, 1) := by decide +kernel
theorem dL_law_710 : decode cL_law 710 = .ok (.iload_n 3, 1) := by decide +kernel
theorem dL_law_711 : decode cL_law 711 = .ok (.iconst 2, 1) := by decide +kernel
theorem dL_law_712 : decode cL_law 712 = .ok (.iadd, 1) := by decide +kernel
theorem dL_law_713 : decode cL_law 713 = .ok (.iaload, 1) := by decide +kernel
theorem dL_law_714 : decode cL_law 714 = .ok (.invokevirtual 68, 3) := by decide +kernel
theorem dL_law_717 : decode cL_law 717 = .ok (.dstore 4, 2) := by decide +kernel
theorem dL_law_719 : decode cL_law 719 = .ok (.aload_n 2, 1) := by decide +kernel
theorem dL_law_720 : decode cL_law 720 = .ok (.aload_n 0, 1) := by decide +kernel
theorem dL_law_721 : decode cL_law 721 = .ok (.iload_n 3, 1) := by decide +kernel
theorem dL_law_722 : decode cL_law 722 = .ok (.iconst 1, 1) := by decide +kernel
theorem dL_law_723 : decode cL_law 723 = .ok (.iadd, 1) := by decide +kernel
theorem dL_law_724 : decode cL_law 724 = .ok (.iaload, 1) := by decide +kernel
theorem dL_law_725 : decode cL_law 725 = .ok (.aload_n 0, 1) := by decide +kernel
theorem dL_law_726 : decode cL_law 726 = .ok (.iload_n 3, 1) := by decide +kernel
theorem dL_law_727 : decode cL_law 727 = .ok (.iconst 2, 1) := by decide +kernel
theorem dL_law_728 : decode cL_law 728 = .ok (.iadd, 1) := by decide +kernel
theorem dL_law_729 : decode cL_law 729 = .ok (.iaload, 1) := by decide +kernel
theorem dL_law_730 : decode cL_law 730 = .ok (.invokevirtual 71, 3) := by decide +kernel
theorem dL_law_733 : decode cL_law 733 = .ok (.dstore 6, 2) := by decide +kernel
theorem dL_law_735 : decode cL_law 735 = .ok (.dload 4, 2) := by decide +kernel
theorem dL_law_737 : decode cL_law 737 = .ok (.dload 6, 2) := by decide +kernel
theorem dL_law_739 : decode cL_law 739 = .ok (.dcmp .l, 1) := by decide +kernel
theorem dL_law_740 : decode cL_law 740 = .ok (.ifCond .eq 21, 3) := by decide +kernel
theorem dL_law_743 : decode cL_law 743 = .ok (.dload 4, 2) := by decide +kernel
theorem dL_law_745 : decode cL_law 745 = .ok (.dload 4, 2) := by decide +kernel
theorem dL_law_747 : decode cL_law 747 = .ok (.dcmp .l, 1) := by decide +kernel
theorem dL_law_748 : decode cL_law 748 = .ok (.ifCond .eq 11, 3) := by decide +kernel
theorem dL_law_751 : decode cL_law 751 = .ok (.dload 6, 2) := by decide +kernel
theorem dL_law_753 : decode cL_law 753 = .ok (.dload 6, 2) := by decide +kernel
theorem dL_law_755 : decode cL_law 755 = .ok (.dcmp .l, 1) := by decide +kernel
theorem dL_law_756 : decode cL_law 756 = .ok (.ifCond .ne 5, 3) := by decide +kernel
theorem dL_law_759 : decode cL_law 759 = .ok (.iconst 0, 1) := by decide +kernel
theorem dL_law_760 : decode cL_law 760 = .ok (.ireturn, 1) := by decide +kernel
theorem dL_law_761 : decode cL_law 761 = .ok (.goto 89, 3) := by decide +kernel
theorem dL_law_764 : decode cL_law 764 = .ok (.aload_n 1, 1) := by decide +kernel
theorem dL_law_765 : decode cL_law 765 = .ok (.aload_n 0, 1) := by decide +kernel
theorem dL_law_766 : decode cL_law 766 = .ok (.iload_n 3, 1) := by decide +kernel
theorem dL_law_767 : decode cL_law 767 = .ok (.iconst 1, 1) := by decide +kernel
theorem dL_law_768 : decode cL_law 768 = .ok (.iadd, 1) := by decide +kernel
theorem dL_law_769 : decode cL_law 769 = .ok (.iaload, 1) := by decide +kernel
theorem dL_law_770 : decode cL_law 770 = .ok (.invokevirtual 72, 3) := by decide +kernel
theorem dL_law_773 : decode cL_law 773 = .ok (.aload_n 2, 1) := by decide +kernel
theorem dL_law_774 : decode cL_law 774 = .ok (.aload_n 0, 1) := by decide +kernel
theorem dL_law_775 : decode cL_law 775 = .ok (.iload_n 3, 1) := by decide +kernel
theorem dL_law_776 : decode cL_law 776 = .ok (.iconst 1, 1) := by decide +kernel
theorem dL_law_777 : decode cL_law 777 = .ok (.iadd, 1) := by decide +kernel
theorem dL_law_778 : decode cL_law 778 = .ok (.iaload, 1) := by decide +kernel
theorem dL_law_779 : decode cL_law 779 = .ok (.invokevirtual 76, 3) := by decide +kernel
theorem dL_law_782 : decode cL_law 782 = .ok (.if_icmp .eq 68, 3) := by decide +kernel
theorem dL_law_785 : decode cL_law 785 = .ok (.iconst 0, 1) := by decide +kernel
theorem dL_law_786 : decode cL_law 786 = .ok (.ireturn, 1) := by decide +kernel
theorem dL_law_787 : decode cL_law 787 = .ok (.aload_n 1, 1) := by decide +kernel
theorem dL_law_788 : decode cL_law 788 = .ok (.aload_n 0, 1) := by decide +kernel
theorem dL_law_789 : decode cL_law 789 = .ok (.iload_n 3, 1) := by decide +kernel
theorem dL_law_790 : decode cL_law 790 = .ok (.iconst 1, 1) := by decide +kernel
theorem dL_law_791 : decode cL_law 791 = .ok (.iadd, 1) := by decide +kernel
theorem dL_law_792 : decode cL_law 792 = .ok (.iaload, 1) := by decide +kernel
theorem dL_law_793 : decode cL_law 793 = .ok (.aload_n 0, 1) := by decide +kernel
theorem dL_law_794 : decode cL_law 794 = .ok (.iload_n 3, 1) := by decide +kernel
theorem dL_law_795 : decode cL_law 795 = .ok (.iconst 2, 1) := by decide +kernel
theorem dL_law_796 : decode cL_law 796 = .ok (.iadd, 1) := by decide +kernel
theorem dL_law_797 : decode cL_law 797 = .ok (.iaload, 1) := by decide +kernel
theorem dL_law_798 : decode cL_law 798 = .ok (.i2d, 1) := by decide +kernel
theorem dL_law_799 : decode cL_law 799 = .ok (.ldc2_w 13, 3) := by decide +kernel
theorem dL_law_802 : decode cL_law 802 = .ok (.dmul, 1) := by decide +kernel
theorem dL_law_803 : decode cL_law 803 = .ok (.aload_n 0, 1) := by decide +kernel
theorem dL_law_804 : decode cL_law 804 = .ok (.iload_n 3, 1) := by decide +kernel
theorem dL_law_805 : decode cL_law 805 = .ok (.iconst 3, 1) := by decide +kernel
theorem dL_law_806 : decode cL_law 806 = .ok (.iadd, 1) := by decide +kernel
theorem dL_law_807 : decode cL_law 807 = .ok (.iaload, 1) := by decide +kernel
theorem dL_law_808 : decode cL_law 808 = .ok (.i2d, 1) := by decide +kernel
theorem dL_law_809 : decode cL_law 809 = .ok (.ldc2_w 13, 3) := by decide +kernel
theorem dL_law_812 : decode cL_law 812 = .ok (.dmul, 1) := by decide +kernel
theorem dL_law_813 : decode cL_law 813 = .ok (.invokevirtual 77, 3) := by decide +kernel
theorem dL_law_816 : decode cL_law 816 = .ok (.aload_n 2, 1) := by decide +kernel
theorem dL_law_817 : decode cL_law 817 = .ok (.aload_n 0, 1) := by decide +kernel
theorem dL_law_818 : decode cL_law 818 = .ok (.iload_n 3, 1) := by decide +kernel
theorem dL_law_819 : decode cL_law 819 = .ok (.iconst 1, 1) := by decide +kernel
theorem dL_law_820 : decode cL_law 820 = .ok (.iadd, 1) := by decide +kernel
theorem dL_law_821 : decode cL_law 821 = .ok (.iaload, 1) := by decide +kernel
theorem dL_law_822 : decode cL_law 822 = .ok (.aload_n 0, 1) := by decide +kernel
theorem dL_law_823 : decode cL_law 823 = .ok (.iload_n 3, 1) := by decide +kernel
theorem dL_law_824 : decode cL_law 824 = .ok (.iconst 2, 1) := by decide +kernel
theorem dL_law_825 : decode cL_law 825 = .ok (.iadd, 1) := by decide +kernel
theorem dL_law_826 : decode cL_law 826 = .ok (.iaload, 1) := by decide +kernel
theorem dL_law_827 : decode cL_law 827 = .ok (.i2d, 1) := by decide +kernel
theorem dL_law_828 : decode cL_law 828 = .ok (.ldc2_w 13, 3) := by decide +kernel
theorem dL_law_831 : decode cL_law 831 = .ok (.dmul, 1) := by decide +kernel
theorem dL_law_832 : decode cL_law 832 = .ok (.aload_n 0, 1) := by decide +kernel
theorem dL_law_833 : decode cL_law 833 = .ok (.iload_n 3, 1) := by decide +kernel
theorem dL_law_834 : decode cL_law 834 = .ok (.iconst 3, 1) := by decide +kernel
theorem dL_law_835 : decode cL_law 835 = .ok (.iadd, 1) := by decide +kernel
theorem dL_law_836 : decode cL_law 836 = .ok (.iaload, 1) := by decide +kernel
theorem dL_law_837 : decode cL_law 837 = .ok (.i2d, 1) := by decide +kernel
theorem dL_law_838 : decode cL_law 838 = .ok (.ldc2_w 13, 3) := by decide +kernel
theorem dL_law_841 : decode cL_law 841 = .ok (.dmul, 1) := by decide +kernel
theorem dL_law_842 : decode cL_law 842 = .ok (.invokevirtual 80, 3) := by decide +kernel
theorem dL_law_845 : decode cL_law 845 = .ok (.if_icmp .eq 5, 3) := by decide +kernel
theorem dL_law_848 : decode cL_law 848 = .ok (.iconst 0, 1) := by decide +kernel
theorem dL_law_849 : decode cL_law 849 = .ok (.ireturn, 1) := by decide +kernel
theorem dL_law_850 : decode cL_law 850 = .ok (.iinc 3 5, 3) := by decide +kernel
theorem dL_law_853 : decode cL_law 853 = .ok (.goto (-835), 3) := by decide +kernel
theorem dL_law_856 : decode cL_law 856 = .ok (.iconst 1, 1) := by decide +kernel
theorem dL_law_857 : decode cL_law 857 = .ok (.ireturn, 1) := by decide +kernel
end
section
/-! the words that every method is given: all good words of the tables -/
def lw_all : List Cond := lw_tbl.filter goodWord
theorem lw_all_tbl {w : Cond} (h : w ∈ lw_all) : w ∈ lw_tbl := (List.mem_filter.mp h).1
theorem lw_all_good {w : Cond} (h : w ∈ lw_all) : goodWord w = true := (List.mem_filter.mp h).2
theorem lw_q {w : Cond} (i : Nat) (h : lw_tbl[i]? = some w) (hg : goodWord w = true) : w ∈ lw_all := List.mem_filter.mpr ⟨List.mem_of_getElem? h, hg⟩
def ws_ (y : MethodName) (cc : ByteArray) (maxL : Nat) (ret : Option FieldType) : List Cond := .code y cc maxL ret :: lw_all
theorem ws_good {y : MethodName} {cc : ByteArray} {maxL : Nat} {ret : Option FieldType} (h : Cond.code y cc maxL ret ∈ lw_all) : GoodIn lw_all (ws_ y cc maxL ret) := by
  intro w hw
  rcases List.mem_cons.mp hw with rfl | hw
  · exact ⟨h, good_of_word (lw_all_good h)⟩
  · exact ⟨hw, good_of_word (lw_all_good hw)⟩
theorem q_init_L : (Cond.initialized RL : Cond) ∈ lw_all := lw_q 10 (by decide +kernel) (by decide +kernel)
theorem q_init_X4 : (Cond.initialized RX4 : Cond) ∈ lw_all := lw_q 11 (by decide +kernel) (by decide +kernel)
theorem q_init_X5 : (Cond.initialized RX5 : Cond) ∈ lw_all := lw_q 12 (by decide +kernel) (by decide +kernel)
theorem q_init_X0 : (Cond.initialized RX0 : Cond) ∈ lw_all := lw_q 13 (by decide +kernel) (by decide +kernel)
theorem q_init_X1 : (Cond.initialized RX1 : Cond) ∈ lw_all := lw_q 14 (by decide +kernel) (by decide +kernel)
theorem q_init_X3 : (Cond.initialized RX3 : Cond) ∈ lw_all := lw_q 15 (by decide +kernel) (by decide +kernel)
theorem q_init_X2 : (Cond.initialized RX2 : Cond) ∈ lw_all := lw_q 16 (by decide +kernel) (by decide +kernel)
theorem q_cl_L_7 : (Cond.classLink RL 7 RX4 : Cond) ∈ lw_all := lw_q 17 (by decide +kernel) (by decide +kernel)
theorem q_inst_X4 : (Cond.instantiable RX4 4 : Cond) ∈ lw_all := lw_q 18 (by decide +kernel) (by decide +kernel)
theorem q_ml_L_9 : (Cond.methodLink RL 9 yX4_init : Cond) ∈ lw_all := lw_q 19 (by decide +kernel) (by decide +kernel)
theorem q_im_X4_init : (Cond.instanceMethod yX4_init : Cond) ∈ lw_all := lw_q 20 (by decide +kernel) (by decide +kernel)
theorem q_code_X4_init : (Cond.code yX4_init cX4_init 1 none : Cond) ∈ lw_all := lw_q 21 (by decide +kernel) (by decide +kernel)
theorem q_ml_X4_1 : (Cond.methodLink RX4 1 objectInit : Cond) ∈ lw_all := lw_q 22 (by decide +kernel) (by decide +kernel)
theorem q_im_obj_init : (Cond.instanceMethod objectInit : Cond) ∈ lw_all := lw_q 23 (by decide +kernel) (by decide +kernel)
theorem q_code_obj_init : (Cond.code objectInit ⟨#[0xb1]⟩ 1 none : Cond) ∈ lw_all := lw_q 24 (by decide +kernel) (by decide +kernel)
theorem q_cl_X4_9 : (Cond.classLink RX4 9 RX0 : Cond) ∈ lw_all := lw_q 25 (by decide +kernel) (by decide +kernel)
theorem q_cl_X4_15 : (Cond.classLink RX4 15 RX2 : Cond) ∈ lw_all := lw_q 27 (by decide +kernel) (by decide +kernel)
theorem q_fl_X4_11 : (Cond.fieldLink RX4 11 "LoopLaws" "loops" "[LLoopLaws$Loop;" : Cond) ∈ lw_all := lw_q 29 (by decide +kernel) (by decide +kernel)
theorem q_fl_X4_17 : (Cond.fieldLink RX4 17 "LoopLaws" "splits" "[LLoopLaws$Split;" : Cond) ∈ lw_all := lw_q 30 (by decide +kernel) (by decide +kernel)
theorem q_fl_X4_25 : (Cond.fieldLink RX4 25 "LoopLaws" "loopCount" "I" : Cond) ∈ lw_all := lw_q 31 (by decide +kernel) (by decide +kernel)
theorem q_fl_X4_98 : (Cond.fieldLink RX4 98 "LoopLaws" "splitCount" "I" : Cond) ∈ lw_all := lw_q 32 (by decide +kernel) (by decide +kernel)
theorem q_ml_L_15 : (Cond.methodLink RL 15 yX4_loop : Cond) ∈ lw_all := lw_q 42 (by decide +kernel) (by decide +kernel)
theorem q_im_X4_loop : (Cond.instanceMethod yX4_loop : Cond) ∈ lw_all := lw_q 43 (by decide +kernel) (by decide +kernel)
theorem q_sel_X4_loop : (Cond.selects RX4 yX4_loop yX4_loop : Cond) ∈ lw_all := lw_q 44 (by decide +kernel) (by decide +kernel)
theorem q_code_X4_loop : (Cond.code yX4_loop cX4_loop 8 (some .int) : Cond) ∈ lw_all := lw_q 45 (by decide +kernel) (by decide +kernel)
theorem q_ml_X4_21 : (Cond.methodLink RX4 21 yX4_isGain : Cond) ∈ lw_all := lw_q 46 (by decide +kernel) (by decide +kernel)
theorem q_st_X4_isGain : (Cond.static yX4_isGain : Cond) ∈ lw_all := lw_q 47 (by decide +kernel) (by decide +kernel)
theorem q_code_X4_isGain : (Cond.code yX4_isGain cX4_isGain 2 (some .boolean) : Cond) ∈ lw_all := lw_q 48 (by decide +kernel) (by decide +kernel)
theorem q_cd_X4_137 : (Cond.constantDouble RX4 137 4652007308841189376 : Cond) ∈ lw_all := lw_q 49 (by decide +kernel) (by decide +kernel)
theorem q_ml_X4_42 : (Cond.methodLink RX4 42 yX4_isWithin : Cond) ∈ lw_all := lw_q 50 (by decide +kernel) (by decide +kernel)
theorem q_st_X4_isWithin : (Cond.static yX4_isWithin : Cond) ∈ lw_all := lw_q 51 (by decide +kernel) (by decide +kernel)
theorem q_code_X4_isWithin : (Cond.code yX4_isWithin cX4_isWithin 6 (some .boolean) : Cond) ∈ lw_all := lw_q 52 (by decide +kernel) (by decide +kernel)
theorem q_inst_X0 : (Cond.instantiable RX0 16 : Cond) ∈ lw_all := lw_q 53 (by decide +kernel) (by decide +kernel)
theorem q_ml_X4_29 : (Cond.methodLink RX4 29 yX0_init : Cond) ∈ lw_all := lw_q 54 (by decide +kernel) (by decide +kernel)
theorem q_im_X0_init : (Cond.instanceMethod yX0_init : Cond) ∈ lw_all := lw_q 55 (by decide +kernel) (by decide +kernel)
theorem q_code_X0_init : (Cond.code yX0_init cX0_init 7 none : Cond) ∈ lw_all := lw_q 56 (by decide +kernel) (by decide +kernel)
theorem q_ml_X0_3 : (Cond.methodLink RX0 3 objectInit : Cond) ∈ lw_all := lw_q 57 (by decide +kernel) (by decide +kernel)
theorem q_cl_X0_9 : (Cond.classLink RX0 9 RX1 : Cond) ∈ lw_all := lw_q 58 (by decide +kernel) (by decide +kernel)
theorem q_inst_X1 : (Cond.instantiable RX1 2 : Cond) ∈ lw_all := lw_q 59 (by decide +kernel) (by decide +kernel)
theorem q_cd_X0_11 : (Cond.constantDouble RX0 11 4636737291354636288 : Cond) ∈ lw_all := lw_q 60 (by decide +kernel) (by decide +kernel)
theorem q_ml_X0_13 : (Cond.methodLink RX0 13 yX1_init : Cond) ∈ lw_all := lw_q 61 (by decide +kernel) (by decide +kernel)
theorem q_im_X1_init : (Cond.instanceMethod yX1_init : Cond) ∈ lw_all := lw_q 62 (by decide +kernel) (by decide +kernel)
theorem q_code_X1_init : (Cond.code yX1_init cX1_init 5 none : Cond) ∈ lw_all := lw_q 63 (by decide +kernel) (by decide +kernel)
theorem q_ml_X1_1 : (Cond.methodLink RX1 1 objectInit : Cond) ∈ lw_all := lw_q 64 (by decide +kernel) (by decide +kernel)
theorem q_fl_X1_7 : (Cond.fieldLink RX1 7 "LoopLaws$Span" "low" "D" : Cond) ∈ lw_all := lw_q 65 (by decide +kernel) (by decide +kernel)
theorem q_fl_X1_13 : (Cond.fieldLink RX1 13 "LoopLaws$Span" "high" "D" : Cond) ∈ lw_all := lw_q 68 (by decide +kernel) (by decide +kernel)
theorem q_cd_X0_22 : (Cond.constantDouble RX0 22 13830554455654793216 : Cond) ∈ lw_all := lw_q 76 (by decide +kernel) (by decide +kernel)
theorem q_cd_X0_27 : (Cond.constantDouble RX0 27 13920209183539462144 : Cond) ∈ lw_all := lw_q 77 (by decide +kernel) (by decide +kernel)
theorem q_cd_X0_29 : (Cond.constantDouble RX0 29 4696837146684686336 : Cond) ∈ lw_all := lw_q 78 (by decide +kernel) (by decide +kernel)
theorem q_cl_X0_34 : (Cond.classLink RX0 34 RX3 : Cond) ∈ lw_all := lw_q 79 (by decide +kernel) (by decide +kernel)
theorem q_inst_X3 : (Cond.instantiable RX3 7 : Cond) ∈ lw_all := lw_q 80 (by decide +kernel) (by decide +kernel)
theorem q_im_X3_init : (Cond.instanceMethod yX3_init : Cond) ∈ lw_all := lw_q 82 (by decide +kernel) (by decide +kernel)
theorem q_code_X3_init : (Cond.code yX3_init cX3_init 1 none : Cond) ∈ lw_all := lw_q 83 (by decide +kernel) (by decide +kernel)
theorem q_ml_X3_1 : (Cond.methodLink RX3 1 objectInit : Cond) ∈ lw_all := lw_q 84 (by decide +kernel) (by decide +kernel)
theorem q_fl_X3_7 : (Cond.fieldLink RX3 7 "LoopLaws$Tuning" "level" "D" : Cond) ∈ lw_all := lw_q 85 (by decide +kernel) (by decide +kernel)
theorem q_fl_X3_13 : (Cond.fieldLink RX3 13 "LoopLaws$Tuning" "relays" "I" : Cond) ∈ lw_all := lw_q 86 (by decide +kernel) (by decide +kernel)
theorem q_fl_X3_17 : (Cond.fieldLink RX3 17 "LoopLaws$Tuning" "switches" "I" : Cond) ∈ lw_all := lw_q 87 (by decide +kernel) (by decide +kernel)
theorem q_fl_X3_20 : (Cond.fieldLink RX3 20 "LoopLaws$Tuning" "lastRise" "I" : Cond) ∈ lw_all := lw_q 88 (by decide +kernel) (by decide +kernel)
theorem q_fl_X3_42 : (Cond.fieldLink RX3 42 "LoopLaws$Tuning" "least" "D" : Cond) ∈ lw_all := lw_q 89 (by decide +kernel) (by decide +kernel)
theorem q_fl_X3_45 : (Cond.fieldLink RX3 45 "LoopLaws$Tuning" "greatest" "D" : Cond) ∈ lw_all := lw_q 90 (by decide +kernel) (by decide +kernel)
theorem q_fl_X3_23 : (Cond.fieldLink RX3 23 "LoopLaws$Tuning" "period" "I" : Cond) ∈ lw_all := lw_q 91 (by decide +kernel) (by decide +kernel)
theorem q_fl_X0_49 : (Cond.fieldLink RX0 49 "LoopLaws$Loop" "p" "D" : Cond) ∈ lw_all := lw_q 107 (by decide +kernel) (by decide +kernel)
theorem q_fl_X0_52 : (Cond.fieldLink RX0 52 "LoopLaws$Loop" "i" "D" : Cond) ∈ lw_all := lw_q 108 (by decide +kernel) (by decide +kernel)
theorem q_fl_X0_55 : (Cond.fieldLink RX0 55 "LoopLaws$Loop" "d" "D" : Cond) ∈ lw_all := lw_q 109 (by decide +kernel) (by decide +kernel)
theorem q_fl_X0_16 : (Cond.fieldLink RX0 16 "LoopLaws$Loop" "limits" "LLoopLaws$Span;" : Cond) ∈ lw_all := lw_q 110 (by decide +kernel) (by decide +kernel)
theorem q_fl_X0_24 : (Cond.fieldLink RX0 24 "LoopLaws$Loop" "band" "LLoopLaws$Span;" : Cond) ∈ lw_all := lw_q 113 (by decide +kernel) (by decide +kernel)
theorem q_fl_X0_31 : (Cond.fieldLink RX0 31 "LoopLaws$Loop" "range" "LLoopLaws$Span;" : Cond) ∈ lw_all := lw_q 115 (by decide +kernel) (by decide +kernel)
theorem q_fl_X0_37 : (Cond.fieldLink RX0 37 "LoopLaws$Loop" "tuning" "LLoopLaws$Tuning;" : Cond) ∈ lw_all := lw_q 117 (by decide +kernel) (by decide +kernel)
theorem q_fl_X0_41 : (Cond.fieldLink RX0 41 "LoopLaws$Loop" "rate" "D" : Cond) ∈ lw_all := lw_q 119 (by decide +kernel) (by decide +kernel)
theorem q_fl_X0_62 : (Cond.fieldLink RX0 62 "LoopLaws$Loop" "safe" "D" : Cond) ∈ lw_all := lw_q 121 (by decide +kernel) (by decide +kernel)
theorem q_fl_X0_65 : (Cond.fieldLink RX0 65 "LoopLaws$Loop" "output" "D" : Cond) ∈ lw_all := lw_q 123 (by decide +kernel) (by decide +kernel)
theorem q_fl_X0_91 : (Cond.fieldLink RX0 91 "LoopLaws$Loop" "sum" "D" : Cond) ∈ lw_all := lw_q 126 (by decide +kernel) (by decide +kernel)
theorem q_fl_X0_88 : (Cond.fieldLink RX0 88 "LoopLaws$Loop" "lastError" "D" : Cond) ∈ lw_all := lw_q 127 (by decide +kernel) (by decide +kernel)
theorem q_fl_X0_75 : (Cond.fieldLink RX0 75 "LoopLaws$Loop" "hand" "D" : Cond) ∈ lw_all := lw_q 128 (by decide +kernel) (by decide +kernel)
theorem q_fl_X0_45 : (Cond.fieldLink RX0 45 "LoopLaws$Loop" "mode" "I" : Cond) ∈ lw_all := lw_q 130 (by decide +kernel) (by decide +kernel)
theorem q_fl_X0_68 : (Cond.fieldLink RX0 68 "LoopLaws$Loop" "faults" "I" : Cond) ∈ lw_all := lw_q 132 (by decide +kernel) (by decide +kernel)
theorem q_fl_X0_71 : (Cond.fieldLink RX0 71 "LoopLaws$Loop" "outer" "LLoopLaws$Loop;" : Cond) ∈ lw_all := lw_q 134 (by decide +kernel) (by decide +kernel)
theorem q_ml_L_20 : (Cond.methodLink RL 20 yX4_limits : Cond) ∈ lw_all := lw_q 169 (by decide +kernel) (by decide +kernel)
theorem q_im_X4_limits : (Cond.instanceMethod yX4_limits : Cond) ∈ lw_all := lw_q 170 (by decide +kernel) (by decide +kernel)
theorem q_sel_X4_limits : (Cond.selects RX4 yX4_limits yX4_limits : Cond) ∈ lw_all := lw_q 171 (by decide +kernel) (by decide +kernel)
theorem q_code_X4_limits : (Cond.code yX4_limits cX4_limits 9 (some .boolean) : Cond) ∈ lw_all := lw_q 172 (by decide +kernel) (by decide +kernel)
theorem q_ml_X4_32 : (Cond.methodLink RX4 32 yX4_findLoop : Cond) ∈ lw_all := lw_q 173 (by decide +kernel) (by decide +kernel)
theorem q_im_X4_findLoop : (Cond.instanceMethod yX4_findLoop : Cond) ∈ lw_all := lw_q 175 (by decide +kernel) (by decide +kernel)
theorem q_code_X4_findLoop : (Cond.code yX4_findLoop cX4_findLoop 2 (some (.object "LoopLaws$Loop")) : Cond) ∈ lw_all := lw_q 176 (by decide +kernel) (by decide +kernel)
theorem q_ml_X4_36 : (Cond.methodLink RX4 36 yX4_isOrdered : Cond) ∈ lw_all := lw_q 177 (by decide +kernel) (by decide +kernel)
theorem q_st_X4_isOrdered : (Cond.static yX4_isOrdered : Cond) ∈ lw_all := lw_q 178 (by decide +kernel) (by decide +kernel)
theorem q_code_X4_isOrdered : (Cond.code yX4_isOrdered cX4_isOrdered 5 (some .boolean) : Cond) ∈ lw_all := lw_q 179 (by decide +kernel) (by decide +kernel)
theorem q_cd_X4_40 : (Cond.constantDouble RX4 40 4666723172467343360 : Cond) ∈ lw_all := lw_q 180 (by decide +kernel) (by decide +kernel)
theorem q_ml_X4_50 : (Cond.methodLink RX4 50 yX1_set : Cond) ∈ lw_all := lw_q 181 (by decide +kernel) (by decide +kernel)
theorem q_im_X1_set : (Cond.instanceMethod yX1_set : Cond) ∈ lw_all := lw_q 182 (by decide +kernel) (by decide +kernel)
theorem q_sel_X1_set : (Cond.selects RX1 yX1_set yX1_set : Cond) ∈ lw_all := lw_q 183 (by decide +kernel) (by decide +kernel)
theorem q_code_X1_set : (Cond.code yX1_set cX1_set 5 none : Cond) ∈ lw_all := lw_q 184 (by decide +kernel) (by decide +kernel)
theorem q_ml_L_25 : (Cond.methodLink RL 25 yX4_safe : Cond) ∈ lw_all := lw_q 185 (by decide +kernel) (by decide +kernel)
theorem q_im_X4_safe : (Cond.instanceMethod yX4_safe : Cond) ∈ lw_all := lw_q 186 (by decide +kernel) (by decide +kernel)
theorem q_sel_X4_safe : (Cond.selects RX4 yX4_safe yX4_safe : Cond) ∈ lw_all := lw_q 187 (by decide +kernel) (by decide +kernel)
theorem q_code_X4_safe : (Cond.code yX4_safe cX4_safe 5 (some .boolean) : Cond) ∈ lw_all := lw_q 188 (by decide +kernel) (by decide +kernel)
theorem q_cd_X4_60 : (Cond.constantDouble RX4 60 13890095209322119168 : Cond) ∈ lw_all := lw_q 189 (by decide +kernel) (by decide +kernel)
theorem q_ml_L_30 : (Cond.methodLink RL 30 yX4_tick : Cond) ∈ lw_all := lw_q 190 (by decide +kernel) (by decide +kernel)
theorem q_im_X4_tick : (Cond.instanceMethod yX4_tick : Cond) ∈ lw_all := lw_q 191 (by decide +kernel) (by decide +kernel)
theorem q_sel_X4_tick : (Cond.selects RX4 yX4_tick yX4_tick : Cond) ∈ lw_all := lw_q 192 (by decide +kernel) (by decide +kernel)
theorem q_code_X4_tick : (Cond.code yX4_tick cX4_tick 7 (some .double) : Cond) ∈ lw_all := lw_q 193 (by decide +kernel) (by decide +kernel)
theorem q_ml_X4_65 : (Cond.methodLink RX4 65 yX4_isReading : Cond) ∈ lw_all := lw_q 194 (by decide +kernel) (by decide +kernel)
theorem q_st_X4_isReading : (Cond.static yX4_isReading : Cond) ∈ lw_all := lw_q 195 (by decide +kernel) (by decide +kernel)
theorem q_code_X4_isReading : (Cond.code yX4_isReading cX4_isReading 2 (some .boolean) : Cond) ∈ lw_all := lw_q 196 (by decide +kernel) (by decide +kernel)
theorem q_cd_X4_139 : (Cond.constantDouble RX4 139 13920209183539462144 : Cond) ∈ lw_all := lw_q 197 (by decide +kernel) (by decide +kernel)
theorem q_cd_X4_141 : (Cond.constantDouble RX4 141 4696837146684686336 : Cond) ∈ lw_all := lw_q 198 (by decide +kernel) (by decide +kernel)
theorem q_ml_X4_68 : (Cond.methodLink RX4 68 yX0_pass : Cond) ∈ lw_all := lw_q 199 (by decide +kernel) (by decide +kernel)
theorem q_im_X0_pass : (Cond.instanceMethod yX0_pass : Cond) ∈ lw_all := lw_q 200 (by decide +kernel) (by decide +kernel)
theorem q_sel_X0_pass : (Cond.selects RX0 yX0_pass yX0_pass : Cond) ∈ lw_all := lw_q 201 (by decide +kernel) (by decide +kernel)
theorem q_code_X0_pass : (Cond.code yX0_pass cX0_pass 7 none : Cond) ∈ lw_all := lw_q 202 (by decide +kernel) (by decide +kernel)
theorem q_ml_X0_58 : (Cond.methodLink RX0 58 yX1_holds : Cond) ∈ lw_all := lw_q 203 (by decide +kernel) (by decide +kernel)
theorem q_im_X1_holds : (Cond.instanceMethod yX1_holds : Cond) ∈ lw_all := lw_q 204 (by decide +kernel) (by decide +kernel)
theorem q_sel_X1_holds : (Cond.selects RX1 yX1_holds yX1_holds : Cond) ∈ lw_all := lw_q 205 (by decide +kernel) (by decide +kernel)
theorem q_code_X1_holds : (Cond.code yX1_holds cX1_holds 3 (some .boolean) : Cond) ∈ lw_all := lw_q 206 (by decide +kernel) (by decide +kernel)
theorem q_ml_X0_78 : (Cond.methodLink RX0 78 yX0_moveTo : Cond) ∈ lw_all := lw_q 207 (by decide +kernel) (by decide +kernel)
theorem q_im_X0_moveTo : (Cond.instanceMethod yX0_moveTo : Cond) ∈ lw_all := lw_q 209 (by decide +kernel) (by decide +kernel)
theorem q_code_X0_moveTo : (Cond.code yX0_moveTo cX0_moveTo 3 none : Cond) ∈ lw_all := lw_q 210 (by decide +kernel) (by decide +kernel)
theorem q_ml_X0_82 : (Cond.methodLink RX0 82 yX0_followLaw : Cond) ∈ lw_all := lw_q 211 (by decide +kernel) (by decide +kernel)
theorem q_im_X0_followLaw : (Cond.instanceMethod yX0_followLaw : Cond) ∈ lw_all := lw_q 213 (by decide +kernel) (by decide +kernel)
theorem q_code_X0_followLaw : (Cond.code yX0_followLaw cX0_followLaw 9 none : Cond) ∈ lw_all := lw_q 214 (by decide +kernel) (by decide +kernel)
theorem q_ml_X0_100 : (Cond.methodLink RX0 100 yX1_nearest : Cond) ∈ lw_all := lw_q 215 (by decide +kernel) (by decide +kernel)
theorem q_im_X1_nearest : (Cond.instanceMethod yX1_nearest : Cond) ∈ lw_all := lw_q 216 (by decide +kernel) (by decide +kernel)
theorem q_sel_X1_nearest : (Cond.selects RX1 yX1_nearest yX1_nearest : Cond) ∈ lw_all := lw_q 217 (by decide +kernel) (by decide +kernel)
theorem q_code_X1_nearest : (Cond.code yX1_nearest cX1_nearest 3 (some .double) : Cond) ∈ lw_all := lw_q 218 (by decide +kernel) (by decide +kernel)
theorem q_ml_X0_85 : (Cond.methodLink RX0 85 yX0_switchOnOrOff : Cond) ∈ lw_all := lw_q 219 (by decide +kernel) (by decide +kernel)
theorem q_im_X0_switchOnOrOff : (Cond.instanceMethod yX0_switchOnOrOff : Cond) ∈ lw_all := lw_q 221 (by decide +kernel) (by decide +kernel)
theorem q_code_X0_switchOnOrOff : (Cond.code yX0_switchOnOrOff cX0_switchOnOrOff 3 none : Cond) ∈ lw_all := lw_q 222 (by decide +kernel) (by decide +kernel)
theorem q_ml_L_35 : (Cond.methodLink RL 35 yX4_mode : Cond) ∈ lw_all := lw_q 223 (by decide +kernel) (by decide +kernel)
theorem q_im_X4_mode : (Cond.instanceMethod yX4_mode : Cond) ∈ lw_all := lw_q 224 (by decide +kernel) (by decide +kernel)
theorem q_sel_X4_mode : (Cond.selects RX4 yX4_mode yX4_mode : Cond) ∈ lw_all := lw_q 225 (by decide +kernel) (by decide +kernel)
theorem q_code_X4_mode : (Cond.code yX4_mode cX4_mode 4 (some .boolean) : Cond) ∈ lw_all := lw_q 226 (by decide +kernel) (by decide +kernel)
theorem q_ml_X4_74 : (Cond.methodLink RX4 74 yX0_turnTo : Cond) ∈ lw_all := lw_q 227 (by decide +kernel) (by decide +kernel)
theorem q_im_X0_turnTo : (Cond.instanceMethod yX0_turnTo : Cond) ∈ lw_all := lw_q 228 (by decide +kernel) (by decide +kernel)
theorem q_sel_X0_turnTo : (Cond.selects RX0 yX0_turnTo yX0_turnTo : Cond) ∈ lw_all := lw_q 229 (by decide +kernel) (by decide +kernel)
theorem q_code_X0_turnTo : (Cond.code yX0_turnTo cX0_turnTo 2 none : Cond) ∈ lw_all := lw_q 230 (by decide +kernel) (by decide +kernel)
theorem q_ml_L_40 : (Cond.methodLink RL 40 yX4_hand : Cond) ∈ lw_all := lw_q 231 (by decide +kernel) (by decide +kernel)
theorem q_im_X4_hand : (Cond.instanceMethod yX4_hand : Cond) ∈ lw_all := lw_q 232 (by decide +kernel) (by decide +kernel)
theorem q_sel_X4_hand : (Cond.selects RX4 yX4_hand yX4_hand : Cond) ∈ lw_all := lw_q 233 (by decide +kernel) (by decide +kernel)
theorem q_code_X4_hand : (Cond.code yX4_hand cX4_hand 5 (some .boolean) : Cond) ∈ lw_all := lw_q 234 (by decide +kernel) (by decide +kernel)
theorem q_ml_X4_81 : (Cond.methodLink RX4 81 yX1_holds : Cond) ∈ lw_all := lw_q 235 (by decide +kernel) (by decide +kernel)
theorem q_ml_L_44 : (Cond.methodLink RL 44 yX4_cascade : Cond) ∈ lw_all := lw_q 236 (by decide +kernel) (by decide +kernel)
theorem q_im_X4_cascade : (Cond.instanceMethod yX4_cascade : Cond) ∈ lw_all := lw_q 237 (by decide +kernel) (by decide +kernel)
theorem q_sel_X4_cascade : (Cond.selects RX4 yX4_cascade yX4_cascade : Cond) ∈ lw_all := lw_q 238 (by decide +kernel) (by decide +kernel)
theorem q_code_X4_cascade : (Cond.code yX4_cascade cX4_cascade 5 (some .boolean) : Cond) ∈ lw_all := lw_q 239 (by decide +kernel) (by decide +kernel)
theorem q_ml_X4_87 : (Cond.methodLink RX4 87 yX4_isLed : Cond) ∈ lw_all := lw_q 240 (by decide +kernel) (by decide +kernel)
theorem q_st_X4_isLed : (Cond.static yX4_isLed : Cond) ∈ lw_all := lw_q 241 (by decide +kernel) (by decide +kernel)
theorem q_code_X4_isLed : (Cond.code yX4_isLed cX4_isLed 4 (some .boolean) : Cond) ∈ lw_all := lw_q 242 (by decide +kernel) (by decide +kernel)
theorem q_ml_L_48 : (Cond.methodLink RL 48 yX4_split : Cond) ∈ lw_all := lw_q 243 (by decide +kernel) (by decide +kernel)
theorem q_im_X4_split : (Cond.instanceMethod yX4_split : Cond) ∈ lw_all := lw_q 244 (by decide +kernel) (by decide +kernel)
theorem q_sel_X4_split : (Cond.selects RX4 yX4_split yX4_split : Cond) ∈ lw_all := lw_q 245 (by decide +kernel) (by decide +kernel)
theorem q_code_X4_split : (Cond.code yX4_split cX4_split 6 (some .int) : Cond) ∈ lw_all := lw_q 246 (by decide +kernel) (by decide +kernel)
theorem q_ml_X4_95 : (Cond.methodLink RX4 95 yX1_holdsInside : Cond) ∈ lw_all := lw_q 247 (by decide +kernel) (by decide +kernel)
theorem q_im_X1_holdsInside : (Cond.instanceMethod yX1_holdsInside : Cond) ∈ lw_all := lw_q 248 (by decide +kernel) (by decide +kernel)
theorem q_sel_X1_holdsInside : (Cond.selects RX1 yX1_holdsInside yX1_holdsInside : Cond) ∈ lw_all := lw_q 249 (by decide +kernel) (by decide +kernel)
theorem q_code_X1_holdsInside : (Cond.code yX1_holdsInside cX1_holdsInside 3 (some .boolean) : Cond) ∈ lw_all := lw_q 250 (by decide +kernel) (by decide +kernel)
theorem q_inst_X2 : (Cond.instantiable RX2 2 : Cond) ∈ lw_all := lw_q 251 (by decide +kernel) (by decide +kernel)
theorem q_ml_X4_101 : (Cond.methodLink RX4 101 yX2_init : Cond) ∈ lw_all := lw_q 252 (by decide +kernel) (by decide +kernel)
theorem q_im_X2_init : (Cond.instanceMethod yX2_init : Cond) ∈ lw_all := lw_q 253 (by decide +kernel) (by decide +kernel)
theorem q_code_X2_init : (Cond.code yX2_init cX2_init 4 none : Cond) ∈ lw_all := lw_q 254 (by decide +kernel) (by decide +kernel)
theorem q_ml_X2_1 : (Cond.methodLink RX2 1 objectInit : Cond) ∈ lw_all := lw_q 255 (by decide +kernel) (by decide +kernel)
theorem q_fl_X2_7 : (Cond.fieldLink RX2 7 "LoopLaws$Split" "loop" "LLoopLaws$Loop;" : Cond) ∈ lw_all := lw_q 256 (by decide +kernel) (by decide +kernel)
theorem q_fl_X2_13 : (Cond.fieldLink RX2 13 "LoopLaws$Split" "at" "D" : Cond) ∈ lw_all := lw_q 257 (by decide +kernel) (by decide +kernel)
theorem q_ml_L_53 : (Cond.methodLink RL 53 yX4_part : Cond) ∈ lw_all := lw_q 263 (by decide +kernel) (by decide +kernel)
theorem q_im_X4_part : (Cond.instanceMethod yX4_part : Cond) ∈ lw_all := lw_q 264 (by decide +kernel) (by decide +kernel)
theorem q_sel_X4_part : (Cond.selects RX4 yX4_part yX4_part : Cond) ∈ lw_all := lw_q 265 (by decide +kernel) (by decide +kernel)
theorem q_code_X4_part : (Cond.code yX4_part cX4_part 4 (some .double) : Cond) ∈ lw_all := lw_q 266 (by decide +kernel) (by decide +kernel)
theorem q_ml_X4_104 : (Cond.methodLink RX4 104 yX4_findSplit : Cond) ∈ lw_all := lw_q 267 (by decide +kernel) (by decide +kernel)
theorem q_im_X4_findSplit : (Cond.instanceMethod yX4_findSplit : Cond) ∈ lw_all := lw_q 269 (by decide +kernel) (by decide +kernel)
theorem q_code_X4_findSplit : (Cond.code yX4_findSplit cX4_findSplit 2 (some (.object "LoopLaws$Split")) : Cond) ∈ lw_all := lw_q 270 (by decide +kernel) (by decide +kernel)
theorem q_cd_X4_108 : (Cond.constantDouble RX4 108 13830554455654793216 : Cond) ∈ lw_all := lw_q 271 (by decide +kernel) (by decide +kernel)
theorem q_ml_X4_110 : (Cond.methodLink RX4 110 yX2_share : Cond) ∈ lw_all := lw_q 272 (by decide +kernel) (by decide +kernel)
theorem q_im_X2_share : (Cond.instanceMethod yX2_share : Cond) ∈ lw_all := lw_q 273 (by decide +kernel) (by decide +kernel)
theorem q_sel_X2_share : (Cond.selects RX2 yX2_share yX2_share : Cond) ∈ lw_all := lw_q 274 (by decide +kernel) (by decide +kernel)
theorem q_code_X2_share : (Cond.code yX2_share cX2_share 5 (some .double) : Cond) ∈ lw_all := lw_q 275 (by decide +kernel) (by decide +kernel)
theorem q_ml_X2_23 : (Cond.methodLink RX2 23 yX1_holdsInside : Cond) ∈ lw_all := lw_q 276 (by decide +kernel) (by decide +kernel)
theorem q_cd_X2_35 : (Cond.constantDouble RX2 35 4636737291354636288 : Cond) ∈ lw_all := lw_q 277 (by decide +kernel) (by decide +kernel)
theorem q_ml_L_58 : (Cond.methodLink RL 58 yX4_band : Cond) ∈ lw_all := lw_q 278 (by decide +kernel) (by decide +kernel)
theorem q_im_X4_band : (Cond.instanceMethod yX4_band : Cond) ∈ lw_all := lw_q 279 (by decide +kernel) (by decide +kernel)
theorem q_sel_X4_band : (Cond.selects RX4 yX4_band yX4_band : Cond) ∈ lw_all := lw_q 280 (by decide +kernel) (by decide +kernel)
theorem q_code_X4_band : (Cond.code yX4_band cX4_band 7 (some .boolean) : Cond) ∈ lw_all := lw_q 281 (by decide +kernel) (by decide +kernel)
theorem q_ml_L_63 : (Cond.methodLink RL 63 yX4_tune : Cond) ∈ lw_all := lw_q 282 (by decide +kernel) (by decide +kernel)
theorem q_im_X4_tune : (Cond.instanceMethod yX4_tune : Cond) ∈ lw_all := lw_q 283 (by decide +kernel) (by decide +kernel)
theorem q_sel_X4_tune : (Cond.selects RX4 yX4_tune yX4_tune : Cond) ∈ lw_all := lw_q 284 (by decide +kernel) (by decide +kernel)
theorem q_code_X4_tune : (Cond.code yX4_tune cX4_tune 4 (some .int) : Cond) ∈ lw_all := lw_q 285 (by decide +kernel) (by decide +kernel)
theorem q_ml_X4_121 : (Cond.methodLink RX4 121 yX3_run : Cond) ∈ lw_all := lw_q 286 (by decide +kernel) (by decide +kernel)
theorem q_im_X3_run : (Cond.instanceMethod yX3_run : Cond) ∈ lw_all := lw_q 287 (by decide +kernel) (by decide +kernel)
theorem q_sel_X3_run : (Cond.selects RX3 yX3_run yX3_run : Cond) ∈ lw_all := lw_q 288 (by decide +kernel) (by decide +kernel)
theorem q_code_X3_run : (Cond.code yX3_run cX3_run 3 (some .int) : Cond) ∈ lw_all := lw_q 289 (by decide +kernel) (by decide +kernel)
theorem q_ml_X3_26 : (Cond.methodLink RX3 26 yX3_step : Cond) ∈ lw_all := lw_q 290 (by decide +kernel) (by decide +kernel)
theorem q_im_X3_step : (Cond.instanceMethod yX3_step : Cond) ∈ lw_all := lw_q 292 (by decide +kernel) (by decide +kernel)
theorem q_code_X3_step : (Cond.code yX3_step cX3_step 5 none : Cond) ∈ lw_all := lw_q 293 (by decide +kernel) (by decide +kernel)
theorem q_cd_X3_30 : (Cond.constantDouble RX3 30 4602678819172646912 : Cond) ∈ lw_all := lw_q 294 (by decide +kernel) (by decide +kernel)
theorem q_ml_X3_32 : (Cond.methodLink RX3 32 yX3_countSwitch : Cond) ∈ lw_all := lw_q 295 (by decide +kernel) (by decide +kernel)
theorem q_im_X3_countSwitch : (Cond.instanceMethod yX3_countSwitch : Cond) ∈ lw_all := lw_q 297 (by decide +kernel) (by decide +kernel)
theorem q_code_X3_countSwitch : (Cond.code yX3_countSwitch cX3_countSwitch 3 none : Cond) ∈ lw_all := lw_q 298 (by decide +kernel) (by decide +kernel)
theorem q_cd_X3_36 : (Cond.constantDouble RX3 36 4589168020290535424 : Cond) ∈ lw_all := lw_q 299 (by decide +kernel) (by decide +kernel)
theorem q_ml_X3_38 : (Cond.methodLink RX3 38 yX3_keepLevel : Cond) ∈ lw_all := lw_q 300 (by decide +kernel) (by decide +kernel)
theorem q_im_X3_keepLevel : (Cond.instanceMethod yX3_keepLevel : Cond) ∈ lw_all := lw_q 302 (by decide +kernel) (by decide +kernel)
theorem q_code_X3_keepLevel : (Cond.code yX3_keepLevel cX3_keepLevel 2 none : Cond) ∈ lw_all := lw_q 303 (by decide +kernel) (by decide +kernel)
theorem q_ml_L_68 : (Cond.methodLink RL 68 yX4_tuned : Cond) ∈ lw_all := lw_q 304 (by decide +kernel) (by decide +kernel)
theorem q_im_X4_tuned : (Cond.instanceMethod yX4_tuned : Cond) ∈ lw_all := lw_q 305 (by decide +kernel) (by decide +kernel)
theorem q_sel_X4_tuned : (Cond.selects RX4 yX4_tuned yX4_tuned : Cond) ∈ lw_all := lw_q 306 (by decide +kernel) (by decide +kernel)
theorem q_code_X4_tuned : (Cond.code yX4_tuned cX4_tuned 4 (some .double) : Cond) ∈ lw_all := lw_q 307 (by decide +kernel) (by decide +kernel)
theorem q_ml_X4_127 : (Cond.methodLink RX4 127 yX3_gain : Cond) ∈ lw_all := lw_q 308 (by decide +kernel) (by decide +kernel)
theorem q_im_X3_gain : (Cond.instanceMethod yX3_gain : Cond) ∈ lw_all := lw_q 309 (by decide +kernel) (by decide +kernel)
theorem q_sel_X3_gain : (Cond.selects RX3 yX3_gain yX3_gain : Cond) ∈ lw_all := lw_q 310 (by decide +kernel) (by decide +kernel)
theorem q_code_X3_gain : (Cond.code yX3_gain cX3_gain 6 (some .double) : Cond) ∈ lw_all := lw_q 311 (by decide +kernel) (by decide +kernel)
theorem q_ml_L_72 : (Cond.methodLink RL 72 yX4_fault : Cond) ∈ lw_all := lw_q 312 (by decide +kernel) (by decide +kernel)
theorem q_im_X4_fault : (Cond.instanceMethod yX4_fault : Cond) ∈ lw_all := lw_q 313 (by decide +kernel) (by decide +kernel)
theorem q_sel_X4_fault : (Cond.selects RX4 yX4_fault yX4_fault : Cond) ∈ lw_all := lw_q 314 (by decide +kernel) (by decide +kernel)
theorem q_code_X4_fault : (Cond.code yX4_fault cX4_fault 3 (some .int) : Cond) ∈ lw_all := lw_q 315 (by decide +kernel) (by decide +kernel)
theorem q_ml_L_77 : (Cond.methodLink RL 77 yX4_range : Cond) ∈ lw_all := lw_q 316 (by decide +kernel) (by decide +kernel)
theorem q_im_X4_range : (Cond.instanceMethod yX4_range : Cond) ∈ lw_all := lw_q 317 (by decide +kernel) (by decide +kernel)
theorem q_sel_X4_range : (Cond.selects RX4 yX4_range yX4_range : Cond) ∈ lw_all := lw_q 318 (by decide +kernel) (by decide +kernel)
theorem q_code_X4_range : (Cond.code yX4_range cX4_range 7 (some .boolean) : Cond) ∈ lw_all := lw_q 319 (by decide +kernel) (by decide +kernel)
theorem q_ci_X4_133 : (Cond.constant RX4 133 1000000 : Cond) ∈ lw_all := lw_q 320 (by decide +kernel) (by decide +kernel)
theorem q_cl_L_10 : (Cond.classLink RL 10 RX5 : Cond) ∈ lw_all := lw_q 321 (by decide +kernel) (by decide +kernel)
theorem q_inst_X5 : (Cond.instantiable RX5 26 : Cond) ∈ lw_all := lw_q 322 (by decide +kernel) (by decide +kernel)
theorem q_ml_L_12 : (Cond.methodLink RL 12 yX5_init : Cond) ∈ lw_all := lw_q 323 (by decide +kernel) (by decide +kernel)
theorem q_im_X5_init : (Cond.instanceMethod yX5_init : Cond) ∈ lw_all := lw_q 324 (by decide +kernel) (by decide +kernel)
theorem q_code_X5_init : (Cond.code yX5_init cX5_init 1 none : Cond) ∈ lw_all := lw_q 325 (by decide +kernel) (by decide +kernel)
theorem q_ml_X5_1 : (Cond.methodLink RX5 1 objectInit : Cond) ∈ lw_all := lw_q 326 (by decide +kernel) (by decide +kernel)
theorem q_fl_X5_84 : (Cond.fieldLink RX5 84 "LoopLawsModel" "loops" "I" : Cond) ∈ lw_all := lw_q 327 (by decide +kernel) (by decide +kernel)
theorem q_fl_X5_9 : (Cond.fieldLink RX5 9 "LoopLawsModel" "ps" "[D" : Cond) ∈ lw_all := lw_q 328 (by decide +kernel) (by decide +kernel)
theorem q_fl_X5_13 : (Cond.fieldLink RX5 13 "LoopLawsModel" "is" "[D" : Cond) ∈ lw_all := lw_q 329 (by decide +kernel) (by decide +kernel)
theorem q_fl_X5_16 : (Cond.fieldLink RX5 16 "LoopLawsModel" "ds" "[D" : Cond) ∈ lw_all := lw_q 330 (by decide +kernel) (by decide +kernel)
theorem q_fl_X5_19 : (Cond.fieldLink RX5 19 "LoopLawsModel" "lows" "[D" : Cond) ∈ lw_all := lw_q 331 (by decide +kernel) (by decide +kernel)
theorem q_fl_X5_22 : (Cond.fieldLink RX5 22 "LoopLawsModel" "highs" "[D" : Cond) ∈ lw_all := lw_q 332 (by decide +kernel) (by decide +kernel)
theorem q_fl_X5_25 : (Cond.fieldLink RX5 25 "LoopLawsModel" "rates" "[D" : Cond) ∈ lw_all := lw_q 333 (by decide +kernel) (by decide +kernel)
theorem q_fl_X5_28 : (Cond.fieldLink RX5 28 "LoopLawsModel" "safes" "[D" : Cond) ∈ lw_all := lw_q 334 (by decide +kernel) (by decide +kernel)
theorem q_fl_X5_31 : (Cond.fieldLink RX5 31 "LoopLawsModel" "bandLows" "[D" : Cond) ∈ lw_all := lw_q 335 (by decide +kernel) (by decide +kernel)
theorem q_fl_X5_34 : (Cond.fieldLink RX5 34 "LoopLawsModel" "bandHighs" "[D" : Cond) ∈ lw_all := lw_q 336 (by decide +kernel) (by decide +kernel)
theorem q_fl_X5_37 : (Cond.fieldLink RX5 37 "LoopLawsModel" "hasRange" "[Z" : Cond) ∈ lw_all := lw_q 337 (by decide +kernel) (by decide +kernel)
theorem q_fl_X5_41 : (Cond.fieldLink RX5 41 "LoopLawsModel" "rangeLows" "[D" : Cond) ∈ lw_all := lw_q 338 (by decide +kernel) (by decide +kernel)
theorem q_fl_X5_44 : (Cond.fieldLink RX5 44 "LoopLawsModel" "rangeHighs" "[D" : Cond) ∈ lw_all := lw_q 339 (by decide +kernel) (by decide +kernel)
theorem q_fl_X5_47 : (Cond.fieldLink RX5 47 "LoopLawsModel" "us" "[D" : Cond) ∈ lw_all := lw_q 340 (by decide +kernel) (by decide +kernel)
theorem q_fl_X5_50 : (Cond.fieldLink RX5 50 "LoopLawsModel" "sums" "[D" : Cond) ∈ lw_all := lw_q 341 (by decide +kernel) (by decide +kernel)
theorem q_fl_X5_53 : (Cond.fieldLink RX5 53 "LoopLawsModel" "lasts" "[D" : Cond) ∈ lw_all := lw_q 342 (by decide +kernel) (by decide +kernel)
theorem q_fl_X5_56 : (Cond.fieldLink RX5 56 "LoopLawsModel" "hands" "[D" : Cond) ∈ lw_all := lw_q 343 (by decide +kernel) (by decide +kernel)
theorem q_fl_X5_59 : (Cond.fieldLink RX5 59 "LoopLawsModel" "modes" "[I" : Cond) ∈ lw_all := lw_q 344 (by decide +kernel) (by decide +kernel)
theorem q_fl_X5_63 : (Cond.fieldLink RX5 63 "LoopLawsModel" "outers" "[I" : Cond) ∈ lw_all := lw_q 345 (by decide +kernel) (by decide +kernel)
theorem q_fl_X5_66 : (Cond.fieldLink RX5 66 "LoopLawsModel" "faults" "[I" : Cond) ∈ lw_all := lw_q 346 (by decide +kernel) (by decide +kernel)
theorem q_fl_X5_69 : (Cond.fieldLink RX5 69 "LoopLawsModel" "leasts" "[D" : Cond) ∈ lw_all := lw_q 347 (by decide +kernel) (by decide +kernel)
theorem q_fl_X5_72 : (Cond.fieldLink RX5 72 "LoopLawsModel" "mosts" "[D" : Cond) ∈ lw_all := lw_q 348 (by decide +kernel) (by decide +kernel)
theorem q_fl_X5_75 : (Cond.fieldLink RX5 75 "LoopLawsModel" "between" "[I" : Cond) ∈ lw_all := lw_q 349 (by decide +kernel) (by decide +kernel)
theorem q_fl_X5_114 : (Cond.fieldLink RX5 114 "LoopLawsModel" "splits" "I" : Cond) ∈ lw_all := lw_q 350 (by decide +kernel) (by decide +kernel)
theorem q_fl_X5_78 : (Cond.fieldLink RX5 78 "LoopLawsModel" "splitLoops" "[I" : Cond) ∈ lw_all := lw_q 351 (by decide +kernel) (by decide +kernel)
theorem q_fl_X5_81 : (Cond.fieldLink RX5 81 "LoopLawsModel" "splitAt" "[D" : Cond) ∈ lw_all := lw_q 352 (by decide +kernel) (by decide +kernel)
theorem q_arr_double : (Cond.arrayClass .double : Cond) ∈ lw_all := lw_q 406 (by decide +kernel) (by decide +kernel)
theorem q_arr_boolean : (Cond.arrayClass .boolean : Cond) ∈ lw_all := lw_q 407 (by decide +kernel) (by decide +kernel)
theorem q_arr_int : (Cond.arrayClass .int : Cond) ∈ lw_all := lw_q 408 (by decide +kernel) (by decide +kernel)
theorem q_ml_L_19 : (Cond.methodLink RL 19 yX5_loop : Cond) ∈ lw_all := lw_q 409 (by decide +kernel) (by decide +kernel)
theorem q_im_X5_loop : (Cond.instanceMethod yX5_loop : Cond) ∈ lw_all := lw_q 410 (by decide +kernel) (by decide +kernel)
theorem q_sel_X5_loop : (Cond.selects RX5 yX5_loop yX5_loop : Cond) ∈ lw_all := lw_q 411 (by decide +kernel) (by decide +kernel)
theorem q_code_X5_loop : (Cond.code yX5_loop cX5_loop 7 (some .int) : Cond) ∈ lw_all := lw_q 412 (by decide +kernel) (by decide +kernel)
theorem q_cd_X5_88 : (Cond.constantDouble RX5 88 4652007308841189376 : Cond) ∈ lw_all := lw_q 413 (by decide +kernel) (by decide +kernel)
theorem q_ml_X5_90 : (Cond.methodLink RX5 90 yX5_isIn : Cond) ∈ lw_all := lw_q 414 (by decide +kernel) (by decide +kernel)
theorem q_st_X5_isIn : (Cond.static yX5_isIn : Cond) ∈ lw_all := lw_q 415 (by decide +kernel) (by decide +kernel)
theorem q_code_X5_isIn : (Cond.code yX5_isIn cX5_isIn 6 (some .boolean) : Cond) ∈ lw_all := lw_q 416 (by decide +kernel) (by decide +kernel)
theorem q_cd_X5_94 : (Cond.constantDouble RX5 94 4636737291354636288 : Cond) ∈ lw_all := lw_q 417 (by decide +kernel) (by decide +kernel)
theorem q_cd_X5_96 : (Cond.constantDouble RX5 96 13830554455654793216 : Cond) ∈ lw_all := lw_q 418 (by decide +kernel) (by decide +kernel)
theorem q_ml_L_24 : (Cond.methodLink RL 24 yX5_limits : Cond) ∈ lw_all := lw_q 419 (by decide +kernel) (by decide +kernel)
theorem q_im_X5_limits : (Cond.instanceMethod yX5_limits : Cond) ∈ lw_all := lw_q 420 (by decide +kernel) (by decide +kernel)
theorem q_sel_X5_limits : (Cond.selects RX5 yX5_limits yX5_limits : Cond) ∈ lw_all := lw_q 421 (by decide +kernel) (by decide +kernel)
theorem q_code_X5_limits : (Cond.code yX5_limits cX5_limits 8 (some .boolean) : Cond) ∈ lw_all := lw_q 422 (by decide +kernel) (by decide +kernel)
theorem q_ml_X5_98 : (Cond.methodLink RX5 98 yX5_isLoop : Cond) ∈ lw_all := lw_q 423 (by decide +kernel) (by decide +kernel)
theorem q_im_X5_isLoop : (Cond.instanceMethod yX5_isLoop : Cond) ∈ lw_all := lw_q 425 (by decide +kernel) (by decide +kernel)
theorem q_code_X5_isLoop : (Cond.code yX5_isLoop cX5_isLoop 2 (some .boolean) : Cond) ∈ lw_all := lw_q 426 (by decide +kernel) (by decide +kernel)
theorem q_cd_X5_102 : (Cond.constantDouble RX5 102 13890095209322119168 : Cond) ∈ lw_all := lw_q 427 (by decide +kernel) (by decide +kernel)
theorem q_cd_X5_104 : (Cond.constantDouble RX5 104 4666723172467343360 : Cond) ∈ lw_all := lw_q 428 (by decide +kernel) (by decide +kernel)
theorem q_ml_L_29 : (Cond.methodLink RL 29 yX5_safe : Cond) ∈ lw_all := lw_q 429 (by decide +kernel) (by decide +kernel)
theorem q_im_X5_safe : (Cond.instanceMethod yX5_safe : Cond) ∈ lw_all := lw_q 430 (by decide +kernel) (by decide +kernel)
theorem q_sel_X5_safe : (Cond.selects RX5 yX5_safe yX5_safe : Cond) ∈ lw_all := lw_q 431 (by decide +kernel) (by decide +kernel)
theorem q_code_X5_safe : (Cond.code yX5_safe cX5_safe 4 (some .boolean) : Cond) ∈ lw_all := lw_q 432 (by decide +kernel) (by decide +kernel)
theorem q_ml_L_34 : (Cond.methodLink RL 34 yX5_tick : Cond) ∈ lw_all := lw_q 433 (by decide +kernel) (by decide +kernel)
theorem q_im_X5_tick : (Cond.instanceMethod yX5_tick : Cond) ∈ lw_all := lw_q 434 (by decide +kernel) (by decide +kernel)
theorem q_sel_X5_tick : (Cond.selects RX5 yX5_tick yX5_tick : Cond) ∈ lw_all := lw_q 435 (by decide +kernel) (by decide +kernel)
theorem q_code_X5_tick : (Cond.code yX5_tick cX5_tick 14 (some .double) : Cond) ∈ lw_all := lw_q 436 (by decide +kernel) (by decide +kernel)
theorem q_cd_X5_106 : (Cond.constantDouble RX5 106 13920209183539462144 : Cond) ∈ lw_all := lw_q 437 (by decide +kernel) (by decide +kernel)
theorem q_cd_X5_108 : (Cond.constantDouble RX5 108 4696837146684686336 : Cond) ∈ lw_all := lw_q 438 (by decide +kernel) (by decide +kernel)
theorem q_ml_X5_110 : (Cond.methodLink RX5 110 yX5_move : Cond) ∈ lw_all := lw_q 439 (by decide +kernel) (by decide +kernel)
theorem q_im_X5_move : (Cond.instanceMethod yX5_move : Cond) ∈ lw_all := lw_q 441 (by decide +kernel) (by decide +kernel)
theorem q_code_X5_move : (Cond.code yX5_move cX5_move 8 none : Cond) ∈ lw_all := lw_q 442 (by decide +kernel) (by decide +kernel)
theorem q_ml_L_39 : (Cond.methodLink RL 39 yX5_mode : Cond) ∈ lw_all := lw_q 443 (by decide +kernel) (by decide +kernel)
theorem q_im_X5_mode : (Cond.instanceMethod yX5_mode : Cond) ∈ lw_all := lw_q 444 (by decide +kernel) (by decide +kernel)
theorem q_sel_X5_mode : (Cond.selects RX5 yX5_mode yX5_mode : Cond) ∈ lw_all := lw_q 445 (by decide +kernel) (by decide +kernel)
theorem q_code_X5_mode : (Cond.code yX5_mode cX5_mode 3 (some .boolean) : Cond) ∈ lw_all := lw_q 446 (by decide +kernel) (by decide +kernel)
theorem q_ml_L_43 : (Cond.methodLink RL 43 yX5_hand : Cond) ∈ lw_all := lw_q 447 (by decide +kernel) (by decide +kernel)
theorem q_im_X5_hand : (Cond.instanceMethod yX5_hand : Cond) ∈ lw_all := lw_q 448 (by decide +kernel) (by decide +kernel)
theorem q_sel_X5_hand : (Cond.selects RX5 yX5_hand yX5_hand : Cond) ∈ lw_all := lw_q 449 (by decide +kernel) (by decide +kernel)
theorem q_code_X5_hand : (Cond.code yX5_hand cX5_hand 4 (some .boolean) : Cond) ∈ lw_all := lw_q 450 (by decide +kernel) (by decide +kernel)
theorem q_ml_L_47 : (Cond.methodLink RL 47 yX5_cascade : Cond) ∈ lw_all := lw_q 451 (by decide +kernel) (by decide +kernel)
theorem q_im_X5_cascade : (Cond.instanceMethod yX5_cascade : Cond) ∈ lw_all := lw_q 452 (by decide +kernel) (by decide +kernel)
theorem q_sel_X5_cascade : (Cond.selects RX5 yX5_cascade yX5_cascade : Cond) ∈ lw_all := lw_q 453 (by decide +kernel) (by decide +kernel)
theorem q_code_X5_cascade : (Cond.code yX5_cascade cX5_cascade 4 (some .boolean) : Cond) ∈ lw_all := lw_q 454 (by decide +kernel) (by decide +kernel)
theorem q_ml_L_52 : (Cond.methodLink RL 52 yX5_split : Cond) ∈ lw_all := lw_q 455 (by decide +kernel) (by decide +kernel)
theorem q_im_X5_split : (Cond.instanceMethod yX5_split : Cond) ∈ lw_all := lw_q 456 (by decide +kernel) (by decide +kernel)
theorem q_sel_X5_split : (Cond.selects RX5 yX5_split yX5_split : Cond) ∈ lw_all := lw_q 457 (by decide +kernel) (by decide +kernel)
theorem q_code_X5_split : (Cond.code yX5_split cX5_split 4 (some .int) : Cond) ∈ lw_all := lw_q 458 (by decide +kernel) (by decide +kernel)
theorem q_ml_L_57 : (Cond.methodLink RL 57 yX5_part : Cond) ∈ lw_all := lw_q 459 (by decide +kernel) (by decide +kernel)
theorem q_im_X5_part : (Cond.instanceMethod yX5_part : Cond) ∈ lw_all := lw_q 460 (by decide +kernel) (by decide +kernel)
theorem q_sel_X5_part : (Cond.selects RX5 yX5_part yX5_part : Cond) ∈ lw_all := lw_q 461 (by decide +kernel) (by decide +kernel)
theorem q_code_X5_part : (Cond.code yX5_part cX5_part 8 (some .double) : Cond) ∈ lw_all := lw_q 462 (by decide +kernel) (by decide +kernel)
theorem q_ml_L_62 : (Cond.methodLink RL 62 yX5_band : Cond) ∈ lw_all := lw_q 463 (by decide +kernel) (by decide +kernel)
theorem q_im_X5_band : (Cond.instanceMethod yX5_band : Cond) ∈ lw_all := lw_q 464 (by decide +kernel) (by decide +kernel)
theorem q_sel_X5_band : (Cond.selects RX5 yX5_band yX5_band : Cond) ∈ lw_all := lw_q 465 (by decide +kernel) (by decide +kernel)
theorem q_code_X5_band : (Cond.code yX5_band cX5_band 6 (some .boolean) : Cond) ∈ lw_all := lw_q 466 (by decide +kernel) (by decide +kernel)
theorem q_ml_L_67 : (Cond.methodLink RL 67 yX5_tune : Cond) ∈ lw_all := lw_q 467 (by decide +kernel) (by decide +kernel)
theorem q_im_X5_tune : (Cond.instanceMethod yX5_tune : Cond) ∈ lw_all := lw_q 468 (by decide +kernel) (by decide +kernel)
theorem q_sel_X5_tune : (Cond.selects RX5 yX5_tune yX5_tune : Cond) ∈ lw_all := lw_q 469 (by decide +kernel) (by decide +kernel)
theorem q_code_X5_tune : (Cond.code yX5_tune cX5_tune 14 (some .int) : Cond) ∈ lw_all := lw_q 470 (by decide +kernel) (by decide +kernel)
theorem q_cd_X5_117 : (Cond.constantDouble RX5 117 4602678819172646912 : Cond) ∈ lw_all := lw_q 471 (by decide +kernel) (by decide +kernel)
theorem q_cd_X5_119 : (Cond.constantDouble RX5 119 4589168020290535424 : Cond) ∈ lw_all := lw_q 472 (by decide +kernel) (by decide +kernel)
theorem q_ml_L_71 : (Cond.methodLink RL 71 yX5_tuned : Cond) ∈ lw_all := lw_q 473 (by decide +kernel) (by decide +kernel)
theorem q_im_X5_tuned : (Cond.instanceMethod yX5_tuned : Cond) ∈ lw_all := lw_q 474 (by decide +kernel) (by decide +kernel)
theorem q_sel_X5_tuned : (Cond.selects RX5 yX5_tuned yX5_tuned : Cond) ∈ lw_all := lw_q 475 (by decide +kernel) (by decide +kernel)
theorem q_code_X5_tuned : (Cond.code yX5_tuned cX5_tuned 9 (some .double) : Cond) ∈ lw_all := lw_q 476 (by decide +kernel) (by decide +kernel)
theorem q_ml_L_76 : (Cond.methodLink RL 76 yX5_fault : Cond) ∈ lw_all := lw_q 477 (by decide +kernel) (by decide +kernel)
theorem q_im_X5_fault : (Cond.instanceMethod yX5_fault : Cond) ∈ lw_all := lw_q 478 (by decide +kernel) (by decide +kernel)
theorem q_sel_X5_fault : (Cond.selects RX5 yX5_fault yX5_fault : Cond) ∈ lw_all := lw_q 479 (by decide +kernel) (by decide +kernel)
theorem q_code_X5_fault : (Cond.code yX5_fault cX5_fault 2 (some .int) : Cond) ∈ lw_all := lw_q 480 (by decide +kernel) (by decide +kernel)
theorem q_ml_L_80 : (Cond.methodLink RL 80 yX5_range : Cond) ∈ lw_all := lw_q 481 (by decide +kernel) (by decide +kernel)
theorem q_im_X5_range : (Cond.instanceMethod yX5_range : Cond) ∈ lw_all := lw_q 482 (by decide +kernel) (by decide +kernel)
theorem q_sel_X5_range : (Cond.selects RX5 yX5_range yX5_range : Cond) ∈ lw_all := lw_q 483 (by decide +kernel) (by decide +kernel)
theorem q_code_X5_range : (Cond.code yX5_range cX5_range 6 (some .boolean) : Cond) ∈ lw_all := lw_q 484 (by decide +kernel) (by decide +kernel)
theorem q_cd_L_13 : (Cond.constantDouble RL 13 4593671619917905920 : Cond) ∈ lw_all := lw_q 485 (by decide +kernel) (by decide +kernel)
theorem q_sel_X4_findLoop : (Cond.selects RX4 yX4_findLoop yX4_findLoop : Cond) ∈ lw_all := lw_q 0 (by decide +kernel) (by decide +kernel)
theorem q_sel_X0_moveTo : (Cond.selects RX0 yX0_moveTo yX0_moveTo : Cond) ∈ lw_all := lw_q 1 (by decide +kernel) (by decide +kernel)
theorem q_sel_X0_followLaw : (Cond.selects RX0 yX0_followLaw yX0_followLaw : Cond) ∈ lw_all := lw_q 2 (by decide +kernel) (by decide +kernel)
theorem q_sel_X0_switchOnOrOff : (Cond.selects RX0 yX0_switchOnOrOff yX0_switchOnOrOff : Cond) ∈ lw_all := lw_q 3 (by decide +kernel) (by decide +kernel)
theorem q_sel_X4_findSplit : (Cond.selects RX4 yX4_findSplit yX4_findSplit : Cond) ∈ lw_all := lw_q 4 (by decide +kernel) (by decide +kernel)
theorem q_sel_X3_step : (Cond.selects RX3 yX3_step yX3_step : Cond) ∈ lw_all := lw_q 5 (by decide +kernel) (by decide +kernel)
theorem q_sel_X3_countSwitch : (Cond.selects RX3 yX3_countSwitch yX3_countSwitch : Cond) ∈ lw_all := lw_q 6 (by decide +kernel) (by decide +kernel)
theorem q_sel_X3_keepLevel : (Cond.selects RX3 yX3_keepLevel yX3_keepLevel : Cond) ∈ lw_all := lw_q 7 (by decide +kernel) (by decide +kernel)
theorem q_sel_X5_isLoop : (Cond.selects RX5 yX5_isLoop yX5_isLoop : Cond) ∈ lw_all := lw_q 8 (by decide +kernel) (by decide +kernel)
theorem q_sel_X5_move : (Cond.selects RX5 yX5_move yX5_move : Cond) ∈ lw_all := lw_q 9 (by decide +kernel) (by decide +kernel)
theorem q_u0 : ∀ w ∈ u_ws RX0 TX0 16, w ∈ lw_all := fun w h => of_decide_eq_true (List.all_eq_true.mp (by decide +kernel : (u_ws RX0 TX0 16).all (fun w => decide (w ∈ lw_all)) = true) w h)
theorem q_u1 : ∀ w ∈ u_ws RX1 TX1 2, w ∈ lw_all := fun w h => of_decide_eq_true (List.all_eq_true.mp (by decide +kernel : (u_ws RX1 TX1 2).all (fun w => decide (w ∈ lw_all)) = true) w h)
theorem q_u2 : ∀ w ∈ u_ws RX2 TX2 2, w ∈ lw_all := fun w h => of_decide_eq_true (List.all_eq_true.mp (by decide +kernel : (u_ws RX2 TX2 2).all (fun w => decide (w ∈ lw_all)) = true) w h)
theorem q_u3 : ∀ w ∈ u_ws RX3 TX3 7, w ∈ lw_all := fun w h => of_decide_eq_true (List.all_eq_true.mp (by decide +kernel : (u_ws RX3 TX3 7).all (fun w => decide (w ∈ lw_all)) = true) w h)
theorem q_u4 : ∀ w ∈ u_ws RX4 TX4 4, w ∈ lw_all := fun w h => of_decide_eq_true (List.all_eq_true.mp (by decide +kernel : (u_ws RX4 TX4 4).all (fun w => decide (w ∈ lw_all)) = true) w h)
theorem q_u5 : ∀ w ∈ u_ws RX5 TX5 26, w ∈ lw_all := fun w h => of_decide_eq_true (List.all_eq_true.mp (by decide +kernel : (u_ws RX5 TX5 26).all (fun w => decide (w ∈ lw_all)) = true) w h)
/-- the words on private members of nest mates: they ride in every start -/
def lw_nest : List Cond := [Cond.fieldLinkNest RX2 32 "LoopLaws$Span" "low" "D" "LoopLaws", Cond.fieldLinkNest RX0 97 "LoopLaws$Span" "low" "D" "LoopLaws", Cond.fieldLinkNest RX2 37 "LoopLaws$Span" "high" "D" "LoopLaws", Cond.fieldLinkNest RX0 94 "LoopLaws$Span" "high" "D" "LoopLaws", Cond.methodLinkNest RX0 36 yX3_init "LoopLaws", Cond.fieldLinkNest RX2 17 "LoopLaws$Loop" "limits" "LLoopLaws$Span;" "LoopLaws", Cond.fieldLinkNest RX4 46 "LoopLaws$Loop" "limits" "LLoopLaws$Span;" "LoopLaws", Cond.fieldLinkNest RX4 114 "LoopLaws$Loop" "band" "LLoopLaws$Span;" "LoopLaws", Cond.fieldLinkNest RX4 134 "LoopLaws$Loop" "range" "LLoopLaws$Span;" "LoopLaws", Cond.fieldLinkNest RX4 117 "LoopLaws$Loop" "tuning" "LLoopLaws$Tuning;" "LoopLaws", Cond.fieldLinkNest RX4 56 "LoopLaws$Loop" "rate" "D" "LoopLaws", Cond.fieldLinkNest RX4 62 "LoopLaws$Loop" "safe" "D" "LoopLaws", Cond.fieldLinkNest RX2 29 "LoopLaws$Loop" "output" "D" "LoopLaws", Cond.fieldLinkNest RX4 71 "LoopLaws$Loop" "output" "D" "LoopLaws", Cond.fieldLinkNest RX4 84 "LoopLaws$Loop" "hand" "D" "LoopLaws", Cond.fieldLinkNest RX4 78 "LoopLaws$Loop" "mode" "I" "LoopLaws", Cond.fieldLinkNest RX4 130 "LoopLaws$Loop" "faults" "I" "LoopLaws", Cond.fieldLinkNest RX4 91 "LoopLaws$Loop" "outer" "LLoopLaws$Loop;" "LoopLaws"]
def NW (U : State) : Prop := (∀ w ∈ lw_nest, va_Nw w U) ∧ va_AO "LoopLaws$Loop" U ∧ va_AO "LoopLaws$Split" U
theorem lw_nest_tbl : ∀ w ∈ lw_nest, w ∈ lw_tbl := by
  intro w h
  simp only [lw_nest, List.mem_cons, List.not_mem_nil, or_false] at h
  rcases h with rfl | rfl | rfl | rfl | rfl | rfl | rfl | rfl | rfl | rfl | rfl | rfl | rfl | rfl | rfl | rfl | rfl | rfl
  · exact List.mem_of_getElem? (i := 66) (by decide +kernel)
  · exact List.mem_of_getElem? (i := 67) (by decide +kernel)
  · exact List.mem_of_getElem? (i := 69) (by decide +kernel)
  · exact List.mem_of_getElem? (i := 70) (by decide +kernel)
  · exact List.mem_of_getElem? (i := 81) (by decide +kernel)
  · exact List.mem_of_getElem? (i := 111) (by decide +kernel)
  · exact List.mem_of_getElem? (i := 112) (by decide +kernel)
  · exact List.mem_of_getElem? (i := 114) (by decide +kernel)
  · exact List.mem_of_getElem? (i := 116) (by decide +kernel)
  · exact List.mem_of_getElem? (i := 118) (by decide +kernel)
  · exact List.mem_of_getElem? (i := 120) (by decide +kernel)
  · exact List.mem_of_getElem? (i := 122) (by decide +kernel)
  · exact List.mem_of_getElem? (i := 124) (by decide +kernel)
  · exact List.mem_of_getElem? (i := 125) (by decide +kernel)
  · exact List.mem_of_getElem? (i := 129) (by decide +kernel)
  · exact List.mem_of_getElem? (i := 131) (by decide +kernel)
  · exact List.mem_of_getElem? (i := 133) (by decide +kernel)
  · exact List.mem_of_getElem? (i := 135) (by decide +kernel)
theorem lw_ao1 : (Cond.arrayOver (.object "LoopLaws$Loop")) ∈ lw_tbl := List.mem_of_getElem? (i := 26) (by decide +kernel)
theorem lw_ao2 : (Cond.arrayOver (.object "LoopLaws$Split")) ∈ lw_tbl := List.mem_of_getElem? (i := 28) (by decide +kernel)
theorem NW.warm {s U : State} (hW : s.WarmedH U.vm) (h : NW s) : NW U := by
  refine ⟨fun w hw => ?_, h.2.1.moved hW.alike, h.2.2.moved hW.alike⟩
  have h1 := h.1 w hw
  simp only [lw_nest, List.mem_cons, List.not_mem_nil, or_false] at hw
  rcases hw with rfl | rfl | rfl | rfl | rfl | rfl | rfl | rfl | rfl | rfl | rfl | rfl | rfl | rfl | rfl | rfl | rfl | rfl
  · exact va_Nw.warmF hW h1
  · exact va_Nw.warmF hW h1
  · exact va_Nw.warmF hW h1
  · exact va_Nw.warmF hW h1
  · exact va_Nw.warmM hW h1
  · exact va_Nw.warmF hW h1
  · exact va_Nw.warmF hW h1
  · exact va_Nw.warmF hW h1
  · exact va_Nw.warmF hW h1
  · exact va_Nw.warmF hW h1
  · exact va_Nw.warmF hW h1
  · exact va_Nw.warmF hW h1
  · exact va_Nw.warmF hW h1
  · exact va_Nw.warmF hW h1
  · exact va_Nw.warmF hW h1
  · exact va_Nw.warmF hW h1
  · exact va_Nw.warmF hW h1
  · exact va_Nw.warmF hW h1
theorem lw_nest_on : ∀ w ∈ lw_nest, w.onTables = true := by decide +kernel
theorem NW.same {s U : State} (e : s.vm = U.vm) (h : NW s) : NW U := ⟨fun w hw => va_Nw.same (lw_nest_on w hw) e (h.1 w hw), h.2.1.moved (e ▸ Vm.Alike.refl _), h.2.2.moved (e ▸ Vm.Alike.refl _)⟩
theorem q_fn_X2_32 : (Cond.fieldLinkNest RX2 32 "LoopLaws$Span" "low" "D" "LoopLaws") ∈ lw_nest := by simp [lw_nest]
theorem q_fn_X0_97 : (Cond.fieldLinkNest RX0 97 "LoopLaws$Span" "low" "D" "LoopLaws") ∈ lw_nest := by simp [lw_nest]
theorem q_fn_X2_37 : (Cond.fieldLinkNest RX2 37 "LoopLaws$Span" "high" "D" "LoopLaws") ∈ lw_nest := by simp [lw_nest]
theorem q_fn_X0_94 : (Cond.fieldLinkNest RX0 94 "LoopLaws$Span" "high" "D" "LoopLaws") ∈ lw_nest := by simp [lw_nest]
theorem q_mn_X0_36 : (Cond.methodLinkNest RX0 36 yX3_init "LoopLaws") ∈ lw_nest := by simp [lw_nest]
theorem q_fn_X2_17 : (Cond.fieldLinkNest RX2 17 "LoopLaws$Loop" "limits" "LLoopLaws$Span;" "LoopLaws") ∈ lw_nest := by simp [lw_nest]
theorem q_fn_X4_46 : (Cond.fieldLinkNest RX4 46 "LoopLaws$Loop" "limits" "LLoopLaws$Span;" "LoopLaws") ∈ lw_nest := by simp [lw_nest]
theorem q_fn_X4_114 : (Cond.fieldLinkNest RX4 114 "LoopLaws$Loop" "band" "LLoopLaws$Span;" "LoopLaws") ∈ lw_nest := by simp [lw_nest]
theorem q_fn_X4_134 : (Cond.fieldLinkNest RX4 134 "LoopLaws$Loop" "range" "LLoopLaws$Span;" "LoopLaws") ∈ lw_nest := by simp [lw_nest]
theorem q_fn_X4_117 : (Cond.fieldLinkNest RX4 117 "LoopLaws$Loop" "tuning" "LLoopLaws$Tuning;" "LoopLaws") ∈ lw_nest := by simp [lw_nest]
theorem q_fn_X4_56 : (Cond.fieldLinkNest RX4 56 "LoopLaws$Loop" "rate" "D" "LoopLaws") ∈ lw_nest := by simp [lw_nest]
theorem q_fn_X4_62 : (Cond.fieldLinkNest RX4 62 "LoopLaws$Loop" "safe" "D" "LoopLaws") ∈ lw_nest := by simp [lw_nest]
theorem q_fn_X2_29 : (Cond.fieldLinkNest RX2 29 "LoopLaws$Loop" "output" "D" "LoopLaws") ∈ lw_nest := by simp [lw_nest]
theorem q_fn_X4_71 : (Cond.fieldLinkNest RX4 71 "LoopLaws$Loop" "output" "D" "LoopLaws") ∈ lw_nest := by simp [lw_nest]
theorem q_fn_X4_84 : (Cond.fieldLinkNest RX4 84 "LoopLaws$Loop" "hand" "D" "LoopLaws") ∈ lw_nest := by simp [lw_nest]
theorem q_fn_X4_78 : (Cond.fieldLinkNest RX4 78 "LoopLaws$Loop" "mode" "I" "LoopLaws") ∈ lw_nest := by simp [lw_nest]
theorem q_fn_X4_130 : (Cond.fieldLinkNest RX4 130 "LoopLaws$Loop" "faults" "I" "LoopLaws") ∈ lw_nest := by simp [lw_nest]
theorem q_fn_X4_91 : (Cond.fieldLinkNest RX4 91 "LoopLaws$Loop" "outer" "LLoopLaws$Loop;" "LoopLaws") ∈ lw_nest := by simp [lw_nest]
end
section
/-! data of doubles: NaNs alike; arithmetic and order over data -/
abbrev DT : Type := FP.Core.Datum
def dv (x : UInt64) : DT := FP.Core.decode FP.Core.b64 x.toNat
def qof (d : DT) : DT := FP.Core.decode FP.Core.b64 (UInt64.ofNat (FP.Core.encode FP.Core.b64 d)).toNat
def qadd (x y : DT) : DT := qof (FP.Core.round FP.Core.b64 (FP.Core.exactSum x y))
def qsub (x y : DT) : DT := qof (FP.Core.round FP.Core.b64 (FP.Core.exactSum x (FP.Core.negate y)))
def qmul (x y : DT) : DT := qof (FP.Core.round FP.Core.b64 (FP.Core.exactProduct x y))
def qdiv (x y : DT) : DT := qof (FP.Core.quotient FP.Core.b64 x y)
theorem dv_nan {x : UInt64} (h : isNaN64 x = true) : dv x = .nan := by
  have h1 : 0x7ff0000000000000 < x.toNat &&& 0x7fffffffffffffff := isNaN64_iff.mp h
  have h2 : x.toNat &&& 0x7fffffffffffffff = x.toNat % 9223372036854775808 := Nat.and_two_pow_sub_one_eq_mod x.toNat 63
  rw [h2] at h1
  have hlt := x.toNat_lt
  have e1 : FP.Core.fieldE FP.Core.b64 x.toNat = FP.Core.b64.exps - 1 := by
    show x.toNat / 2 ^ (53 - 1) % 2 ^ 11 = 2 ^ 11 - 1
    omega
  have e2 : ¬ FP.Core.fieldT FP.Core.b64 x.toNat = 0 := by
    show ¬ x.toNat % 2 ^ (53 - 1) = 0
    omega
  unfold dv FP.Core.decode
  rw [if_pos e1, if_neg e2]
theorem dv_alike {a b : UInt64} (h : alike64 a b = true) : dv a = dv b := by
  unfold alike64 at h
  rcases (Bool.or_eq_true _ _).mp h with h | h
  · rw [of_decide_eq_true h]
  · obtain ⟨h1, h2⟩ := (Bool.and_eq_true _ _).mp h
    rw [dv_nan h1, dv_nan h2]
theorem dv_add {r x y : UInt64} (h : alike64 r (FP.dadd x y) = true) : dv r = qadd (dv x) (dv y) := dv_alike h
theorem dv_sub {r x y : UInt64} (h : alike64 r (FP.dsub x y) = true) : dv r = qsub (dv x) (dv y) := dv_alike h
theorem dv_mul {r x y : UInt64} (h : alike64 r (FP.dmul x y) = true) : dv r = qmul (dv x) (dv y) := dv_alike h
theorem dv_div {r x y : UInt64} (h : alike64 r (FP.ddiv x y) = true) : dv r = qdiv (dv x) (dv y) := dv_alike h
def qcmp (x y : DT) : Option Ordering := FP.Core.order x y
def qgt (x y : DT) : Bool := qcmp x y == some .gt
def qlt (x y : DT) : Bool := qcmp x y == some .lt
def qeq (x y : DT) : Bool := qcmp x y == some .eq
def qge (x y : DT) : Bool := qgt x y || qeq x y
def qle (x y : DT) : Bool := qlt x y || qeq x y
theorem dcmp_dv (x y : UInt64) : FP.dcmp x y = qcmp (dv x) (dv y) := rfl
theorem br_l_le (x y : UInt64) : (Op.cmpValue (FP.dcmp x y) .l ≤ 0) ↔ qgt (dv x) (dv y) = false := by
  rw [dcmp_dv]; unfold qgt; rcases qcmp (dv x) (dv y) with _ | (_ | _ | _) <;> decide
theorem br_l_gt (x y : UInt64) : (0 < Op.cmpValue (FP.dcmp x y) .l) ↔ qgt (dv x) (dv y) = true := by
  rw [dcmp_dv]; unfold qgt; rcases qcmp (dv x) (dv y) with _ | (_ | _ | _) <;> decide
theorem br_l_lt (x y : UInt64) : (Op.cmpValue (FP.dcmp x y) .l < 0) ↔ qge (dv x) (dv y) = false := by
  rw [dcmp_dv]; unfold qge qgt qeq; rcases qcmp (dv x) (dv y) with _ | (_ | _ | _) <;> decide
theorem br_l_eq (x y : UInt64) : (Op.cmpValue (FP.dcmp x y) .l = 0) ↔ qeq (dv x) (dv y) = true := by
  rw [dcmp_dv]; unfold qeq; rcases qcmp (dv x) (dv y) with _ | (_ | _ | _) <;> decide
theorem br_g_ge (x y : UInt64) : (0 ≤ Op.cmpValue (FP.dcmp x y) .g) ↔ qlt (dv x) (dv y) = false := by
  rw [dcmp_dv]; unfold qlt; rcases qcmp (dv x) (dv y) with _ | (_ | _ | _) <;> decide
theorem br_g_lt (x y : UInt64) : (Op.cmpValue (FP.dcmp x y) .g < 0) ↔ qlt (dv x) (dv y) = true := by
  rw [dcmp_dv]; unfold qlt; rcases qcmp (dv x) (dv y) with _ | (_ | _ | _) <;> decide
theorem br_g_gt (x y : UInt64) : (0 < Op.cmpValue (FP.dcmp x y) .g) ↔ qle (dv x) (dv y) = false := by
  rw [dcmp_dv]; unfold qle qlt qeq; rcases qcmp (dv x) (dv y) with _ | (_ | _ | _) <;> decide
theorem br_g_le (x y : UInt64) : (Op.cmpValue (FP.dcmp x y) .g ≤ 0) ↔ qle (dv x) (dv y) = true := by
  rw [dcmp_dv]; unfold qle qlt qeq; rcases qcmp (dv x) (dv y) with _ | (_ | _ | _) <;> decide
end
section
/-! the judgement V: W with heap, locs, draws and the locals' array hidden; the world is one pool (L, f) -/
abbrev GD : Type := va_G × (ClassId × ClassId × ClassId × ClassId × ClassId)
def tysG (G : GD) : List (ClassId × FieldType) := [(G.2.1, .double), (G.2.2.1, .int), (G.2.2.2.1, .boolean), (G.2.2.2.2.1, .object "LoopLaws$Loop"), (G.2.2.2.2.2, .object "LoopLaws$Split")]
abbrev CX : Type := Program × Launch × Env × Room × State × MethodId × Array Value × List Frame × Method × Code × GD × (Nat → Prop) × Heap × (State → Prop)
abbrev PO : Type := Option Value → List Nat → (Nat → va_E) → Prop
def V (C : CX) (nL : Nat) (L : List Nat) (f : Nat → va_E) (k n pc : Nat) (lv : List (Nat × Value)) (st : List Value) : Prop :=
  match C with
  | (p, l, e, R, s, m, args, below, meth, c, G, A, H0, Q) => ∀ (H : Heap) (locs : List Loc) (d : Drawn) (ls : Array Slot), s.drawn.sameBut d lw_cs → va_P G.1 vwCl (va_pl L f) H → va_D A (va_pl L f) → va_S A H0 H locs → lv_has ls nL lv → W p l e R (s.setDrawn d) m args below meth c H locs k n Q (F0 m pc ls st)
def retOk (cc : ByteArray) (ret : Option FieldType) (pc : Nat) (v : Option Value) : Prop :=
  (ret = none ∧ v = none ∧ decode cc pc = .ok (.return_, 1)) ∨
  (∃ (ty : FieldType) (x : Int32), ret = some ty ∧ v = some (.int x) ∧ narrow ty (.int x) = .int x ∧ decode cc pc = .ok (.ireturn, 1)) ∨
  (∃ x : UInt64, ret = some .double ∧ v = some (.double x) ∧ decode cc pc = .ok (.dreturn, 1)) ∨
  (∃ (n : String) (x : Option Nat), ret = some (.object n) ∧ v = some (va_rf x) ∧ decode cc pc = .ok (.areturn, 1))
def CxOk (C : CX) (cc : ByteArray) (nL : Nat) (own : String) (ini : Bool) (R0 : Room) (G0 : GD) (l0 : Launch) (ret : Option FieldType) (post : PO) : Prop :=
  match C with
  | (p, l, e, R, s, m, args, below, meth, c, G, A, H0, Q) =>
    p.tables.exec = Jvm.exec ∧ c.code = cc ∧ c.maxLocals = nL ∧ s.vm.findClass own = some m.cls ∧ (∀ w ∈ lw_all, w.before args s = true) ∧ va_K G.1 vwCl (tysG G) s ∧ NW s ∧ (∀ q : Nat, H0.size ≤ q → A q) ∧ R = R0 ∧ G = G0 ∧ l = l0 ∧ (ini = true → meth.name = "<init>") ∧
    ∀ (v : Option Value) (L : List Nat) (f : Nat → va_E) (k n pc : Nat) (H : Heap) (locs : List Loc) (d : Drawn) (ls : Array Slot), k ≤ R0.cells → n ≤ R0.slots → retOk cc ret pc v → post v L f → s.drawn.sameBut d lw_cs → va_P G.1 vwCl (va_pl L f) H → va_D A (va_pl L f) → va_S A H0 H locs → W p l e R (s.setDrawn d) m args below meth c H locs k n Q (F0 m pc ls v.toList)
/-- a method's contract over the whole pool -/
def Ctr (l : Launch) (y : MethodName) (cc : ByteArray) (maxL : Nat) (ret : Option FieldType) (rm : Room) (G : GD) (av : List Value) (L : List Nat) (f : Nat → va_E) (post : PO) : Prop :=
  ∀ sz : Nat, MetD lw_cs l y (ws_ y cc maxL ret) rm (va_Pc av (fun U => U.heap.size = sz ∧ va_P G.1 vwCl (va_pl L f) U.heap ∧ va_K G.1 vwCl (tysG G) U ∧ NW U ∧ va_D (fun _ => True) (va_pl L f)))
    (fun _ st oc t => (∃ (v : Option Value) (L1 : List Nat) (f1 : Nat → va_E), oc = .returned v ∧ post v L1 f1 ∧ va_P G.1 vwCl (va_pl L1 f1) t.heap ∧ va_D (va_A (va_pl L f) sz) (va_pl L1 f1)) ∧ va_F (va_A (va_pl L f) sz) st t) rm.cells rm.slots (va_A (va_pl L f) sz)
theorem pl_free {A0 : Nat → Prop} {ws : va_W} {H0 H : Heap} {locs : List Loc} (hD : va_D A0 ws) (hS : va_S A0 H0 H locs) (hA : ∀ q, H0.size ≤ q → A0 q) : ∀ q, va_A ws H.size q → A0 q := by
  intro q h
  rcases h with ⟨k, e, h⟩ | h
  · exact hD.2 k (q, e) h
  · exact hA q (Nat.le_trans hS.1 h)
theorem pl_at {L : List Nat} {f : Nat → va_E} {a : Nat} {e : va_E} (h : a ∈ L) (he : f a = e) : ∃ k : Nat, (va_pl L f)[k]? = some (a, e) := by
  obtain ⟨k, hk⟩ := va_pl_get (X := []) (f := f) h
  exact ⟨k, he ▸ hk⟩
theorem pl_set {A : Nat → Prop} {L : List Nat} {f : Nat → va_E} {a k : Nat} {e e0 : va_E} (hD : va_D A (va_pl L f)) (h : a ∈ L) (he : f a = e0) (hk : (va_pl L f)[k]? = some (a, e0)) : (va_pl L f).set k (a, e) = va_pl L (va_up f a e) := by
  subst he
  exact va_pl_set (X := []) hD h hk
theorem pl_push {A : Nat → Prop} {L : List Nat} {f : Nat → va_E} {q : Nat} {e : va_E} (hD : va_D A (va_pl L f ++ [(q, e)])) : q ∉ L ∧ va_pl L f ++ [(q, e)] = va_pl (L ++ [q]) (va_up f q e) := by
  have h : q ∉ L := va_pl_fresh2 (X := []) hD
  exact ⟨h, va_pl_push h⟩
theorem pl_mem {A : Nat → Prop} {L : List Nat} {f : Nat → va_E} (hD : va_D A (va_pl L f)) : va_D (fun _ => True) (va_pl L f) := hD.weaken (fun _ _ _ _ => trivial)
/-- same place, written twice -/
theorem va_up_up {α : Type} (f : Nat → α) (k : Nat) (v w : α) : va_up (va_up f k v) k w = va_up f k w := by
  funext j
  unfold va_up
  split <;> rfl
set_option maxHeartbeats 4000000 in
/-- into a method: its contract out of the walk of its body -/
theorem g_enter {l : Launch} {y : MethodName} {cc : ByteArray} {maxL : Nat} {ret : Option FieldType} {rm : Room} {G : GD} {av : List Value} {L : List Nat} {f : Nat → va_E} {post : PO} (own : String) (ini : Bool) (hy : plainName y.cls = true) (ho : y.cls = own) (hi : ini = true → y.name = "<init>") (hlen : (lg_sl av).length ≤ maxL)
    (body : ∀ C : CX, CxOk C cc maxL own ini rm G l ret post → V C maxL L f 0 0 0 (lv_args 0 av) []) : Ctr l y cc maxL ret rm G av L f post := by
  intro sz
  refine MetD.ofW (cc := cc) (maxL := maxL) (ret := ret) hy rfl ?_
  intro p e s m args below meth c s₁ B hml hv hd0
  obtain ⟨rfl, hsz, hP, hK, hN, hD0⟩ := hv
  have hx := B.exec
  have hb := B.bytes
  have hr := B.returns
  have hts0 := atoms_spec (ws := ws_ y cc maxL ret) B.pre
  have hts : ∀ w ∈ lw_all, w.before _ s = true := fun w h => hts0 w (List.mem_cons_of_mem _ h)
  have hown : s.vm.findClass own = some m.cls := by rw [← ho]; exact findClass_of_methodNamed B.named
  have hlocks := B.notSynchronized
  have hin : ini = true → meth.name = "<init>" := fun h => (name_of_methodNamed B.named B.method).1.trans (hi h)
  subst hsz
  have hD := hD0.self (sz := s.heap.size)
  have hA : ∀ q : Nat, s.heap.size ≤ q → va_A (va_pl L f) s.heap.size q := fun q h => Or.inr h
  have hS : va_S (va_A (va_pl L f) s.heap.size) s.heap s.heap [] := va_S.rf
  have hl := lv_entry av (n := maxL) hlen
  rw [lg_entry_eq]
  refine body (p, l, e, (headSpec (ws_ y cc maxL ret) rm).room, s, m, av.toArray, below, meth, c, G, va_A (va_pl L f) s.heap.size, s.heap, _) ⟨hx, hb, hml, hown, hts, hK, hN, hA, rfl, rfl, rfl, hin, ?_⟩ s.heap [] s.drawn _ hd0 hP hD hS hl
  intro v L1 f1 k n pc H locs d ls hk hn hro hpost hd hP1 hD1 hS1
  refine W.widen hk hn (W.endD hd ?_)
  have hq : ∀ t : State, t.heap = H → (s.setDrawn d).WarmedH t.vm → (∃ (v1 : Option Value) (L2 : List Nat) (f2 : Nat → va_E), Outcome.returned v = .returned v1 ∧ post v1 L2 f2 ∧ va_P G.1 vwCl (va_pl L2 f2) t.heap ∧ va_D (va_A (va_pl L f) s.heap.size) (va_pl L2 f2)) ∧ va_F (va_A (va_pl L f) s.heap.size) (s.setDrawn d) t := fun t ht hW => ⟨⟨v, L1, f1, rfl, hpost, by rw [ht]; exact hP1, hD1⟩, ⟨by rw [ht]; exact hS1.1, fun q h1 h2 => by rw [ht]; exact hS1.2.1 q h1 h2⟩⟩
  rcases hro with ⟨h1, rfl, h3⟩ | ⟨ty, x, h1, rfl, h3, h4⟩ | ⟨x, h1, rfl, h3⟩ | ⟨nn, x, h1, rfl, h3⟩
  · exact W.vret hx hb (hr.trans h1) hq hS1.2.2 h3 hlocks
  · exact W.zret hx hb (hr.trans h1) h3 hq hS1.2.2 h4 hlocks
  · exact W.dret hx hb (hr.trans h1) hq hS1.2.2 h3 hlocks
  · exact W.aret hx hb (hr.trans h1) (Or.inl ⟨nn, rfl⟩) (by cases x; exact Or.inl rfl; exact Or.inr ⟨_, rfl⟩) hq hS1.2.2 h3 hlocks
section G
variable {C : CX} {cc : ByteArray} {nL : Nat} {own : String} {ini : Bool} {R0 : Room} {G0 : GD} {l0 : Launch} {ret : Option FieldType} {post : PO} {L : List Nat} {f : Nat → va_E} {k n pc : Nat} {lv : List (Nat × Value)} {st : List Value}
/-- cells and slots are counted up -/
theorem g_widen {k1 n1 : Nat} (h1 : k ≤ k1) (h2 : n ≤ n1) (kk : V C nL L f k1 n1 pc lv st) : V C nL L f k n pc lv st := by
  obtain ⟨p, l, e, R, s, m, args, below, meth, c, G, A, H0, Q⟩ := C
  intro H locs d ls hd hP hD hS hl
  exact W.widen h1 h2 (kk H locs d ls hd hP hD hS hl)
/-- fewer locals -/
theorem g_sub {lv' : List (Nat × Value)} (ks : List Nat) (h : lv_pick lv ks = lv') (kk : V C nL L f k n pc lv' st) : V C nL L f k n pc lv st := by
  obtain ⟨p, l, e, R, s, m, args, below, meth, c, G, A, H0, Q⟩ := C
  intro H locs d ls hd hP hD hS hl
  exact kk H locs d ls hd hP hD hS (lv_sub hl ks h)
theorem g_eq {f' : Nat → va_E} (h : f = f') (kk : V C nL L f' k n pc lv st) : V C nL L f k n pc lv st := h ▸ kk
theorem g_iload_n (hC : CxOk C cc nL own ini R0 G0 l0 ret post) {kx : Fin 4} {x : Int32} (hdg : decode cc pc = .ok (.iload_n kx, 1)) (j : Nat) (hj : lv[j]? = some ((kx : Nat), .int x)) (kk : V C nL L f k n (pc + 1) lv (.int x :: st)) : V C nL L f k n pc lv st := by
  obtain ⟨p, l, e, R, s, m, args, below, meth, c, G, A, H0, Q⟩ := C
  obtain ⟨hx, hb, hml, hown, hts, hK, hN, hA, rfl, rfl, rfl, hin, hexit⟩ := hC
  intro H locs d ls hd hP hD hS hl
  exact lv_iload_n hx hb hdg rfl (lv_at hl j hj) (kk H locs d ls hd hP hD hS hl)
theorem g_iload (hC : CxOk C cc nL own ini R0 G0 l0 ret post) {i : Nat} {x : Int32} (hdg : decode cc pc = .ok (.iload i, 2)) (j : Nat) (hj : lv[j]? = some (i, .int x)) (kk : V C nL L f k n (pc + 2) lv (.int x :: st)) : V C nL L f k n pc lv st := by
  obtain ⟨p, l, e, R, s, m, args, below, meth, c, G, A, H0, Q⟩ := C
  obtain ⟨hx, hb, hml, hown, hts, hK, hN, hA, rfl, rfl, rfl, hin, hexit⟩ := hC
  intro H locs d ls hd hP hD hS hl
  exact lv_iload hx hb hdg (lv_at hl j hj) (kk H locs d ls hd hP hD hS hl)
theorem g_istore_n (hC : CxOk C cc nL own ini R0 G0 l0 ret post) {kx : Fin 4} {x : Int32} {lv1 : List (Nat × Value)} (hdg : decode cc pc = .ok (.istore_n kx, 1)) (hn : (kx : Nat) < nL) (hl1 : ((kx : Nat), Value.int x) :: lv.filter (fun q => !(q.1 == (kx : Nat)) && !(q.1 + 1 == (kx : Nat) && q.2.category == 2)) = lv1) (kk : V C nL L f k n (pc + 1) lv1 st) : V C nL L f k n pc lv (.int x :: st) := by
  obtain ⟨p, l, e, R, s, m, args, below, meth, c, G, A, H0, Q⟩ := C
  obtain ⟨hx, hb, hml, hown, hts, hK, hN, hA, rfl, rfl, rfl, hin, hexit⟩ := hC
  intro H locs d ls hd hP hD hS hl
  exact lv_istore_n hx hb hdg rfl hl hn hl1 (fun ls1 hl2 => kk H locs d ls1 hd hP hD hS hl2)
theorem g_istore (hC : CxOk C cc nL own ini R0 G0 l0 ret post) {i : Nat} {x : Int32} {lv1 : List (Nat × Value)} (hdg : decode cc pc = .ok (.istore i, 2)) (hn : i < nL) (hl1 : (i, Value.int x) :: lv.filter (fun q => !(q.1 == i) && !(q.1 + 1 == i && q.2.category == 2)) = lv1) (kk : V C nL L f k n (pc + 2) lv1 st) : V C nL L f k n pc lv (.int x :: st) := by
  obtain ⟨p, l, e, R, s, m, args, below, meth, c, G, A, H0, Q⟩ := C
  obtain ⟨hx, hb, hml, hown, hts, hK, hN, hA, rfl, rfl, rfl, hin, hexit⟩ := hC
  intro H locs d ls hd hP hD hS hl
  exact lv_istore hx hb hdg hl hn hl1 (fun ls1 hl2 => kk H locs d ls1 hd hP hD hS hl2)
theorem g_dload_n (hC : CxOk C cc nL own ini R0 G0 l0 ret post) {kx : Fin 4} {x : UInt64} (hdg : decode cc pc = .ok (.dload_n kx, 1)) (j : Nat) (hj : lv[j]? = some ((kx : Nat), .double x)) (kk : V C nL L f k n (pc + 1) lv (.double x :: st)) : V C nL L f k n pc lv st := by
  obtain ⟨p, l, e, R, s, m, args, below, meth, c, G, A, H0, Q⟩ := C
  obtain ⟨hx, hb, hml, hown, hts, hK, hN, hA, rfl, rfl, rfl, hin, hexit⟩ := hC
  intro H locs d ls hd hP hD hS hl
  exact lv_dload_n hx hb hdg rfl (lv_at hl j hj) (kk H locs d ls hd hP hD hS hl)
theorem g_dload (hC : CxOk C cc nL own ini R0 G0 l0 ret post) {i : Nat} {x : UInt64} (hdg : decode cc pc = .ok (.dload i, 2)) (j : Nat) (hj : lv[j]? = some (i, .double x)) (kk : V C nL L f k n (pc + 2) lv (.double x :: st)) : V C nL L f k n pc lv st := by
  obtain ⟨p, l, e, R, s, m, args, below, meth, c, G, A, H0, Q⟩ := C
  obtain ⟨hx, hb, hml, hown, hts, hK, hN, hA, rfl, rfl, rfl, hin, hexit⟩ := hC
  intro H locs d ls hd hP hD hS hl
  exact lv_dload hx hb hdg (lv_at hl j hj) (kk H locs d ls hd hP hD hS hl)
theorem g_dstore_n (hC : CxOk C cc nL own ini R0 G0 l0 ret post) {kx : Fin 4} {x : UInt64} {lv1 : List (Nat × Value)} (hdg : decode cc pc = .ok (.dstore_n kx, 1)) (hn : (kx : Nat) + 1 < nL) (hl1 : ((kx : Nat), Value.double x) :: lv.filter (fun q => !(q.1 == (kx : Nat)) && (!(q.1 == (kx : Nat) + 1) && !(q.1 + 1 == (kx : Nat) && q.2.category == 2))) = lv1) (kk : V C nL L f k n (pc + 1) lv1 st) : V C nL L f k n pc lv (.double x :: st) := by
  obtain ⟨p, l, e, R, s, m, args, below, meth, c, G, A, H0, Q⟩ := C
  obtain ⟨hx, hb, hml, hown, hts, hK, hN, hA, rfl, rfl, rfl, hin, hexit⟩ := hC
  intro H locs d ls hd hP hD hS hl
  exact lv_dstore_n hx hb hdg rfl hl hn hl1 (fun ls1 hl2 => kk H locs d ls1 hd hP hD hS hl2)
theorem g_dstore (hC : CxOk C cc nL own ini R0 G0 l0 ret post) {i : Nat} {x : UInt64} {lv1 : List (Nat × Value)} (hdg : decode cc pc = .ok (.dstore i, 2)) (hn : i + 1 < nL) (hl1 : (i, Value.double x) :: lv.filter (fun q => !(q.1 == i) && (!(q.1 == i + 1) && !(q.1 + 1 == i && q.2.category == 2))) = lv1) (kk : V C nL L f k n (pc + 2) lv1 st) : V C nL L f k n pc lv (.double x :: st) := by
  obtain ⟨p, l, e, R, s, m, args, below, meth, c, G, A, H0, Q⟩ := C
  obtain ⟨hx, hb, hml, hown, hts, hK, hN, hA, rfl, rfl, rfl, hin, hexit⟩ := hC
  intro H locs d ls hd hP hD hS hl
  exact lv_dstore hx hb hdg hl hn hl1 (fun ls1 hl2 => kk H locs d ls1 hd hP hD hS hl2)
theorem g_aload_n (hC : CxOk C cc nL own ini R0 G0 l0 ret post) {kx : Fin 4} {x : Nat} (hdg : decode cc pc = .ok (.aload_n kx, 1)) (j : Nat) (hj : lv[j]? = some ((kx : Nat), .ref x)) (kk : V C nL L f k n (pc + 1) lv (.ref x :: st)) : V C nL L f k n pc lv st := by
  obtain ⟨p, l, e, R, s, m, args, below, meth, c, G, A, H0, Q⟩ := C
  obtain ⟨hx, hb, hml, hown, hts, hK, hN, hA, rfl, rfl, rfl, hin, hexit⟩ := hC
  intro H locs d ls hd hP hD hS hl
  exact lv_aload_n hx hb hdg rfl (lv_at hl j hj) (kk H locs d ls hd hP hD hS hl)
theorem g_aload (hC : CxOk C cc nL own ini R0 G0 l0 ret post) {i : Nat} {x : Nat} (hdg : decode cc pc = .ok (.aload i, 2)) (j : Nat) (hj : lv[j]? = some (i, .ref x)) (kk : V C nL L f k n (pc + 2) lv (.ref x :: st)) : V C nL L f k n pc lv st := by
  obtain ⟨p, l, e, R, s, m, args, below, meth, c, G, A, H0, Q⟩ := C
  obtain ⟨hx, hb, hml, hown, hts, hK, hN, hA, rfl, rfl, rfl, hin, hexit⟩ := hC
  intro H locs d ls hd hP hD hS hl
  exact lv_aload hx hb hdg (lv_at hl j hj) (kk H locs d ls hd hP hD hS hl)
theorem g_astore_n (hC : CxOk C cc nL own ini R0 G0 l0 ret post) {kx : Fin 4} {x : Nat} {lv1 : List (Nat × Value)} (hdg : decode cc pc = .ok (.astore_n kx, 1)) (hn : (kx : Nat) < nL) (hl1 : ((kx : Nat), Value.ref x) :: lv.filter (fun q => !(q.1 == (kx : Nat)) && !(q.1 + 1 == (kx : Nat) && q.2.category == 2)) = lv1) (kk : V C nL L f k n (pc + 1) lv1 st) : V C nL L f k n pc lv (.ref x :: st) := by
  obtain ⟨p, l, e, R, s, m, args, below, meth, c, G, A, H0, Q⟩ := C
  obtain ⟨hx, hb, hml, hown, hts, hK, hN, hA, rfl, rfl, rfl, hin, hexit⟩ := hC
  intro H locs d ls hd hP hD hS hl
  exact lv_astore_n hx hb hdg rfl hl hn hl1 (fun ls1 hl2 => kk H locs d ls1 hd hP hD hS hl2)
theorem g_astore (hC : CxOk C cc nL own ini R0 G0 l0 ret post) {i : Nat} {x : Nat} {lv1 : List (Nat × Value)} (hdg : decode cc pc = .ok (.astore i, 2)) (hn : i < nL) (hl1 : (i, Value.ref x) :: lv.filter (fun q => !(q.1 == i) && !(q.1 + 1 == i && q.2.category == 2)) = lv1) (kk : V C nL L f k n (pc + 2) lv1 st) : V C nL L f k n pc lv (.ref x :: st) := by
  obtain ⟨p, l, e, R, s, m, args, below, meth, c, G, A, H0, Q⟩ := C
  obtain ⟨hx, hb, hml, hown, hts, hK, hN, hA, rfl, rfl, rfl, hin, hexit⟩ := hC
  intro H locs d ls hd hP hD hS hl
  exact lv_astore hx hb hdg hl hn hl1 (fun ls1 hl2 => kk H locs d ls1 hd hP hD hS hl2)
theorem g_iconst (hC : CxOk C cc nL own ini R0 G0 l0 ret post) {z : Int} (v : Int32) (hdg : decode cc pc = .ok (.iconst z, 1)) (hv : Int32.ofInt z = v) (kk : V C nL L f k n (pc + 1) lv (.int v :: st)) : V C nL L f k n pc lv st := by
  obtain ⟨p, l, e, R, s, m, args, below, meth, c, G, A, H0, Q⟩ := C
  obtain ⟨hx, hb, hml, hown, hts, hK, hN, hA, rfl, rfl, rfl, hin, hexit⟩ := hC
  intro H locs d ls hd hP hD hS hl
  exact lv_iconst hx hb hdg hv (kk H locs d ls hd hP hD hS hl)
theorem g_bipush (hC : CxOk C cc nL own ini R0 G0 l0 ret post) {z : Int} (v : Int32) (hdg : decode cc pc = .ok (.bipush z, 2)) (hv : (Int8.ofInt z).toInt32 = v) (kk : V C nL L f k n (pc + 2) lv (.int v :: st)) : V C nL L f k n pc lv st := by
  obtain ⟨p, l, e, R, s, m, args, below, meth, c, G, A, H0, Q⟩ := C
  obtain ⟨hx, hb, hml, hown, hts, hK, hN, hA, rfl, rfl, rfl, hin, hexit⟩ := hC
  intro H locs d ls hd hP hD hS hl
  exact lv_bipush hx hb hdg hv (kk H locs d ls hd hP hD hS hl)
theorem g_sipush (hC : CxOk C cc nL own ini R0 G0 l0 ret post) {z : Int} (v : Int32) (hdg : decode cc pc = .ok (.sipush z, 3)) (hv : (Int16.ofInt z).toInt32 = v) (kk : V C nL L f k n (pc + 3) lv (.int v :: st)) : V C nL L f k n pc lv st := by
  obtain ⟨p, l, e, R, s, m, args, below, meth, c, G, A, H0, Q⟩ := C
  obtain ⟨hx, hb, hml, hown, hts, hK, hN, hA, rfl, rfl, rfl, hin, hexit⟩ := hC
  intro H locs d ls hd hP hD hS hl
  exact lv_sipush hx hb hdg hv (kk H locs d ls hd hP hD hS hl)
theorem g_ldc (hC : CxOk C cc nL own ini R0 G0 l0 ret post) {ix : Nat} {v : Int32} (hdg : decode cc pc = .ok (.ldc ix, 2)) (hw : Cond.constant own ix v ∈ lw_all) (kk : V C nL L f k n (pc + 2) lv (.int v :: st)) : V C nL L f k n pc lv st := by
  obtain ⟨p, l, e, R, s, m, args, below, meth, c, G, A, H0, Q⟩ := C
  obtain ⟨hx, hb, hml, hown, hts, hK, hN, hA, rfl, rfl, rfl, hin, hexit⟩ := hC
  intro H locs d ls hd hP hD hS hl
  exact lv_ldc (s := s.setDrawn d) hx hb hown (dr_words hts d _ hw) hdg (kk H locs d ls hd hP hD hS hl)
theorem g_ldc2 (hC : CxOk C cc nL own ini R0 G0 l0 ret post) {ix : Nat} {v : UInt64} (hdg : decode cc pc = .ok (.ldc2_w ix, 3)) (hw : Cond.constantDouble own ix v ∈ lw_all) (kk : V C nL L f k n (pc + 3) lv (.double v :: st)) : V C nL L f k n pc lv st := by
  obtain ⟨p, l, e, R, s, m, args, below, meth, c, G, A, H0, Q⟩ := C
  obtain ⟨hx, hb, hml, hown, hts, hK, hN, hA, rfl, rfl, rfl, hin, hexit⟩ := hC
  intro H locs d ls hd hP hD hS hl
  exact lv_ldc2d (s := s.setDrawn d) hx hb hown (dr_words hts d _ hw) hdg (kk H locs d ls hd hP hD hS hl)
theorem g_dconst0 (hC : CxOk C cc nL own ini R0 G0 l0 ret post) (hdg : decode cc pc = .ok (.dconst 0, 1)) (kk : V C nL L f k n (pc + 1) lv (.double 0 :: st)) : V C nL L f k n pc lv st := by
  obtain ⟨p, l, e, R, s, m, args, below, meth, c, G, A, H0, Q⟩ := C
  obtain ⟨hx, hb, hml, hown, hts, hK, hN, hA, rfl, rfl, rfl, hin, hexit⟩ := hC
  intro H locs d ls hd hP hD hS hl
  exact lv_dconst0 hx hb hdg (kk H locs d ls hd hP hD hS hl)
theorem g_dconst1 (hC : CxOk C cc nL own ini R0 G0 l0 ret post) (hdg : decode cc pc = .ok (.dconst 1, 1)) (kk : V C nL L f k n (pc + 1) lv (.double 4607182418800017408 :: st)) : V C nL L f k n pc lv st := by
  obtain ⟨p, l, e, R, s, m, args, below, meth, c, G, A, H0, Q⟩ := C
  obtain ⟨hx, hb, hml, hown, hts, hK, hN, hA, rfl, rfl, rfl, hin, hexit⟩ := hC
  intro H locs d ls hd hP hD hS hl
  exact lv_dconst1 hx hb hdg (kk H locs d ls hd hP hD hS hl)
theorem g_null (hC : CxOk C cc nL own ini R0 G0 l0 ret post) (hdg : decode cc pc = .ok (.aconst_null, 1)) (kk : V C nL L f k n (pc + 1) lv (.null :: st)) : V C nL L f k n pc lv st := by
  obtain ⟨p, l, e, R, s, m, args, below, meth, c, G, A, H0, Q⟩ := C
  obtain ⟨hx, hb, hml, hown, hts, hK, hN, hA, rfl, rfl, rfl, hin, hexit⟩ := hC
  intro H locs d ls hd hP hD hS hl
  exact lv_null hx hb hdg (kk H locs d ls hd hP hD hS hl)
theorem g_dup (hC : CxOk C cc nL own ini R0 G0 l0 ret post) {v : Value} (hdg : decode cc pc = .ok (.dup, 1)) (hv : v.category = 1) (kk : V C nL L f k n (pc + 1) lv (v :: v :: st)) : V C nL L f k n pc lv (v :: st) := by
  obtain ⟨p, l, e, R, s, m, args, below, meth, c, G, A, H0, Q⟩ := C
  obtain ⟨hx, hb, hml, hown, hts, hK, hN, hA, rfl, rfl, rfl, hin, hexit⟩ := hC
  intro H locs d ls hd hP hD hS hl
  exact lv_dup hx hb hdg hv (kk H locs d ls hd hP hD hS hl)
theorem g_dup2 (hC : CxOk C cc nL own ini R0 G0 l0 ret post) {v w : Value} (hdg : decode cc pc = .ok (.dup2, 1)) (hv : v.category = 1) (hw : w.category = 1) (kk : V C nL L f k n (pc + 1) lv (v :: w :: v :: w :: st)) : V C nL L f k n pc lv (v :: w :: st) := by
  obtain ⟨p, l, e, R, s, m, args, below, meth, c, G, A, H0, Q⟩ := C
  obtain ⟨hx, hb, hml, hown, hts, hK, hN, hA, rfl, rfl, rfl, hin, hexit⟩ := hC
  intro H locs d ls hd hP hD hS hl
  exact lv_dup2_11 hx hb hdg hv hw (kk H locs d ls hd hP hD hS hl)
theorem g_iadd (hC : CxOk C cc nL own ini R0 G0 l0 ret post) {x y : Int32} (hdg : decode cc pc = .ok (.iadd, 1)) (kk : V C nL L f k n (pc + 1) lv (.int (x + y) :: st)) : V C nL L f k n pc lv (.int y :: .int x :: st) := by
  obtain ⟨p, l, e, R, s, m, args, below, meth, c, G, A, H0, Q⟩ := C
  obtain ⟨hx, hb, hml, hown, hts, hK, hN, hA, rfl, rfl, rfl, hin, hexit⟩ := hC
  intro H locs d ls hd hP hD hS hl
  exact lv_iadd hx hb hdg (kk H locs d ls hd hP hD hS hl)
theorem g_isub (hC : CxOk C cc nL own ini R0 G0 l0 ret post) {x y : Int32} (hdg : decode cc pc = .ok (.isub, 1)) (kk : V C nL L f k n (pc + 1) lv (.int (x - y) :: st)) : V C nL L f k n pc lv (.int y :: .int x :: st) := by
  obtain ⟨p, l, e, R, s, m, args, below, meth, c, G, A, H0, Q⟩ := C
  obtain ⟨hx, hb, hml, hown, hts, hK, hN, hA, rfl, rfl, rfl, hin, hexit⟩ := hC
  intro H locs d ls hd hP hD hS hl
  exact lv_isub hx hb hdg (kk H locs d ls hd hP hD hS hl)
theorem g_iand (hC : CxOk C cc nL own ini R0 G0 l0 ret post) {x y : Int32} (hdg : decode cc pc = .ok (.iand, 1)) (kk : V C nL L f k n (pc + 1) lv (.int (x &&& y) :: st)) : V C nL L f k n pc lv (.int y :: .int x :: st) := by
  obtain ⟨p, l, e, R, s, m, args, below, meth, c, G, A, H0, Q⟩ := C
  obtain ⟨hx, hb, hml, hown, hts, hK, hN, hA, rfl, rfl, rfl, hin, hexit⟩ := hC
  intro H locs d ls hd hP hD hS hl
  exact lv_iand hx hb hdg (kk H locs d ls hd hP hD hS hl)
theorem g_ior (hC : CxOk C cc nL own ini R0 G0 l0 ret post) {x y : Int32} (hdg : decode cc pc = .ok (.ior, 1)) (kk : V C nL L f k n (pc + 1) lv (.int (x ||| y) :: st)) : V C nL L f k n pc lv (.int y :: .int x :: st) := by
  obtain ⟨p, l, e, R, s, m, args, below, meth, c, G, A, H0, Q⟩ := C
  obtain ⟨hx, hb, hml, hown, hts, hK, hN, hA, rfl, rfl, rfl, hin, hexit⟩ := hC
  intro H locs d ls hd hP hD hS hl
  exact lv_ior hx hb hdg (kk H locs d ls hd hP hD hS hl)
theorem g_ishl (hC : CxOk C cc nL own ini R0 G0 l0 ret post) {x y : Int32} (hdg : decode cc pc = .ok (.ishl, 1)) (kk : V C nL L f k n (pc + 1) lv (.int (x <<< (y &&& 31)) :: st)) : V C nL L f k n pc lv (.int y :: .int x :: st) := by
  obtain ⟨p, l, e, R, s, m, args, below, meth, c, G, A, H0, Q⟩ := C
  obtain ⟨hx, hb, hml, hown, hts, hK, hN, hA, rfl, rfl, rfl, hin, hexit⟩ := hC
  intro H locs d ls hd hP hD hS hl
  exact lv_ishl hx hb hdg (kk H locs d ls hd hP hD hS hl)
theorem g_ishr (hC : CxOk C cc nL own ini R0 G0 l0 ret post) {x y : Int32} (hdg : decode cc pc = .ok (.ishr, 1)) (kk : V C nL L f k n (pc + 1) lv (.int (x >>> (y &&& 31)) :: st)) : V C nL L f k n pc lv (.int y :: .int x :: st) := by
  obtain ⟨p, l, e, R, s, m, args, below, meth, c, G, A, H0, Q⟩ := C
  obtain ⟨hx, hb, hml, hown, hts, hK, hN, hA, rfl, rfl, rfl, hin, hexit⟩ := hC
  intro H locs d ls hd hP hD hS hl
  exact lv_ishr hx hb hdg (kk H locs d ls hd hP hD hS hl)
theorem g_ineg (hC : CxOk C cc nL own ini R0 G0 l0 ret post) {x : Int32} (hdg : decode cc pc = .ok (.ineg, 1)) (kk : V C nL L f k n (pc + 1) lv (.int (-x) :: st)) : V C nL L f k n pc lv (.int x :: st) := by
  obtain ⟨p, l, e, R, s, m, args, below, meth, c, G, A, H0, Q⟩ := C
  obtain ⟨hx, hb, hml, hown, hts, hK, hN, hA, rfl, rfl, rfl, hin, hexit⟩ := hC
  intro H locs d ls hd hP hD hS hl
  exact lv_ineg hx hb hdg (kk H locs d ls hd hP hD hS hl)
theorem g_i2d (hC : CxOk C cc nL own ini R0 G0 l0 ret post) {x : Int32} (hdg : decode cc pc = .ok (.i2d, 1)) (kk : V C nL L f k n (pc + 1) lv (.double (FP.i2d x) :: st)) : V C nL L f k n pc lv (.int x :: st) := by
  obtain ⟨p, l, e, R, s, m, args, below, meth, c, G, A, H0, Q⟩ := C
  obtain ⟨hx, hb, hml, hown, hts, hK, hN, hA, rfl, rfl, rfl, hin, hexit⟩ := hC
  intro H locs d ls hd hP hD hS hl
  exact lv_i2d hx hb hdg (kk H locs d ls hd hP hD hS hl)
theorem g_dadd (hC : CxOk C cc nL own ini R0 G0 l0 ret post) {x y : UInt64} (hdg : decode cc pc = .ok (.dadd, 1)) (kk : ∀ r : UInt64, dv r = qadd (dv x) (dv y) → V C nL L f k n (pc + 1) lv (.double r :: st)) : V C nL L f k n pc lv (.double y :: .double x :: st) := by
  obtain ⟨p, l, e, R, s, m, args, below, meth, c, G, A, H0, Q⟩ := C
  obtain ⟨hx, hb, hml, hown, hts, hK, hN, hA, rfl, rfl, rfl, hin, hexit⟩ := hC
  intro H locs d ls hd hP hD hS hl
  exact lv_dadd_any hd lw_bits hx hb hdg (fun r d1 ha hd1 => kk r (dv_add ha) H locs d1 ls hd1 hP hD hS hl)
theorem g_dsub (hC : CxOk C cc nL own ini R0 G0 l0 ret post) {x y : UInt64} (hdg : decode cc pc = .ok (.dsub, 1)) (kk : ∀ r : UInt64, dv r = qsub (dv x) (dv y) → V C nL L f k n (pc + 1) lv (.double r :: st)) : V C nL L f k n pc lv (.double y :: .double x :: st) := by
  obtain ⟨p, l, e, R, s, m, args, below, meth, c, G, A, H0, Q⟩ := C
  obtain ⟨hx, hb, hml, hown, hts, hK, hN, hA, rfl, rfl, rfl, hin, hexit⟩ := hC
  intro H locs d ls hd hP hD hS hl
  exact lv_dsub_any hd lw_bits hx hb hdg (fun r d1 ha hd1 => kk r (dv_sub ha) H locs d1 ls hd1 hP hD hS hl)
theorem g_dmul (hC : CxOk C cc nL own ini R0 G0 l0 ret post) {x y : UInt64} (hdg : decode cc pc = .ok (.dmul, 1)) (kk : ∀ r : UInt64, dv r = qmul (dv x) (dv y) → V C nL L f k n (pc + 1) lv (.double r :: st)) : V C nL L f k n pc lv (.double y :: .double x :: st) := by
  obtain ⟨p, l, e, R, s, m, args, below, meth, c, G, A, H0, Q⟩ := C
  obtain ⟨hx, hb, hml, hown, hts, hK, hN, hA, rfl, rfl, rfl, hin, hexit⟩ := hC
  intro H locs d ls hd hP hD hS hl
  exact lv_dmul_any hd lw_bits hx hb hdg (fun r d1 ha hd1 => kk r (dv_mul ha) H locs d1 ls hd1 hP hD hS hl)
theorem g_ddiv (hC : CxOk C cc nL own ini R0 G0 l0 ret post) {x y : UInt64} (hdg : decode cc pc = .ok (.ddiv, 1)) (kk : ∀ r : UInt64, dv r = qdiv (dv x) (dv y) → V C nL L f k n (pc + 1) lv (.double r :: st)) : V C nL L f k n pc lv (.double y :: .double x :: st) := by
  obtain ⟨p, l, e, R, s, m, args, below, meth, c, G, A, H0, Q⟩ := C
  obtain ⟨hx, hb, hml, hown, hts, hK, hN, hA, rfl, rfl, rfl, hin, hexit⟩ := hC
  intro H locs d ls hd hP hD hS hl
  exact lv_ddiv_any hd lw_bits hx hb hdg (fun r d1 ha hd1 => kk r (dv_div ha) H locs d1 ls hd1 hP hD hS hl)
theorem g_iinc (hC : CxOk C cc nL own ini R0 G0 l0 ret post) {i : Nat} {z : Int} {x v : Int32} {lv1 : List (Nat × Value)} (hdg : decode cc pc = .ok (.iinc i z, 3)) (j : Nat) (hj : lv[j]? = some (i, .int x)) (hv : x + Int32.ofInt z = v) (hn : i < nL) (hl1 : (i, Value.int v) :: lv.filter (fun q => !(q.1 == i) && !(q.1 + 1 == i && q.2.category == 2)) = lv1) (kk : V C nL L f k n (pc + 3) lv1 st) : V C nL L f k n pc lv st := by
  obtain ⟨p, l, e, R, s, m, args, below, meth, c, G, A, H0, Q⟩ := C
  obtain ⟨hx, hb, hml, hown, hts, hK, hN, hA, rfl, rfl, rfl, hin, hexit⟩ := hC
  intro H locs d ls hd hP hD hS hl
  exact lv_iinc hx hb hdg hl hj hv hn hl1 (fun ls1 hl2 => kk H locs d ls1 hd hP hD hS hl2)
theorem g_goto (hC : CxOk C cc nL own ini R0 G0 l0 ret post) {off : Int} (tgt : Nat) (hdg : decode cc pc = .ok (.goto off, 3)) (ht : (pc : Int) + off = (tgt : Int)) (kk : V C nL L f k n tgt lv st) : V C nL L f k n pc lv st := by
  obtain ⟨p, l, e, R, s, m, args, below, meth, c, G, A, H0, Q⟩ := C
  obtain ⟨hx, hb, hml, hown, hts, hK, hN, hA, rfl, rfl, rfl, hin, hexit⟩ := hC
  intro H locs d ls hd hP hD hS hl
  exact lv_goto hx hb hdg ht (kk H locs d ls hd hP hD hS hl)
theorem g_if_eq (hC : CxOk C cc nL own ini R0 G0 l0 ret post) {off : Int} {x : Int32} (tgt : Nat) (hdg : decode cc pc = .ok (.ifCond .eq off, 3)) (ht : (pc : Int) + off = (tgt : Int)) (kt : x = 0 → V C nL L f k n tgt lv st) (kf : ¬ x = 0 → V C nL L f k n (pc + 3) lv st)  : V C nL L f k n pc lv (.int x :: st) := by
  obtain ⟨p, l, e, R, s, m, args, below, meth, c, G, A, H0, Q⟩ := C
  obtain ⟨hx, hb, hml, hown, hts, hK, hN, hA, rfl, rfl, rfl, hin, hexit⟩ := hC
  intro H locs d ls hd hP hD hS hl
  exact lv_if_eq hx hb hdg ht (fun h => kt h H locs d ls hd hP hD hS hl) (fun h => kf h H locs d ls hd hP hD hS hl)
theorem g_icmp_eq (hC : CxOk C cc nL own ini R0 G0 l0 ret post) {off : Int} {x y : Int32} (tgt : Nat) (hdg : decode cc pc = .ok (.if_icmp .eq off, 3)) (ht : (pc : Int) + off = (tgt : Int)) (kt : x = y → V C nL L f k n tgt lv st) (kf : ¬ x = y → V C nL L f k n (pc + 3) lv st)  : V C nL L f k n pc lv (.int y :: .int x :: st) := by
  obtain ⟨p, l, e, R, s, m, args, below, meth, c, G, A, H0, Q⟩ := C
  obtain ⟨hx, hb, hml, hown, hts, hK, hN, hA, rfl, rfl, rfl, hin, hexit⟩ := hC
  intro H locs d ls hd hP hD hS hl
  exact lv_icmp_eq hx hb hdg ht (fun h => kt h H locs d ls hd hP hD hS hl) (fun h => kf h H locs d ls hd hP hD hS hl)
theorem g_if_ne (hC : CxOk C cc nL own ini R0 G0 l0 ret post) {off : Int} {x : Int32} (tgt : Nat) (hdg : decode cc pc = .ok (.ifCond .ne off, 3)) (ht : (pc : Int) + off = (tgt : Int)) (kt : ¬ x = 0 → V C nL L f k n tgt lv st) (kf : x = 0 → V C nL L f k n (pc + 3) lv st)  : V C nL L f k n pc lv (.int x :: st) := by
  obtain ⟨p, l, e, R, s, m, args, below, meth, c, G, A, H0, Q⟩ := C
  obtain ⟨hx, hb, hml, hown, hts, hK, hN, hA, rfl, rfl, rfl, hin, hexit⟩ := hC
  intro H locs d ls hd hP hD hS hl
  exact lv_if_ne hx hb hdg ht (fun h => kt h H locs d ls hd hP hD hS hl) (fun h => kf h H locs d ls hd hP hD hS hl)
theorem g_icmp_ne (hC : CxOk C cc nL own ini R0 G0 l0 ret post) {off : Int} {x y : Int32} (tgt : Nat) (hdg : decode cc pc = .ok (.if_icmp .ne off, 3)) (ht : (pc : Int) + off = (tgt : Int)) (kt : ¬ x = y → V C nL L f k n tgt lv st) (kf : x = y → V C nL L f k n (pc + 3) lv st)  : V C nL L f k n pc lv (.int y :: .int x :: st) := by
  obtain ⟨p, l, e, R, s, m, args, below, meth, c, G, A, H0, Q⟩ := C
  obtain ⟨hx, hb, hml, hown, hts, hK, hN, hA, rfl, rfl, rfl, hin, hexit⟩ := hC
  intro H locs d ls hd hP hD hS hl
  exact lv_icmp_ne hx hb hdg ht (fun h => kt h H locs d ls hd hP hD hS hl) (fun h => kf h H locs d ls hd hP hD hS hl)
theorem g_if_lt (hC : CxOk C cc nL own ini R0 G0 l0 ret post) {off : Int} {x : Int32} (tgt : Nat) (hdg : decode cc pc = .ok (.ifCond .lt off, 3)) (ht : (pc : Int) + off = (tgt : Int)) (kt : x < 0 → V C nL L f k n tgt lv st) (kf : ¬ x < 0 → V C nL L f k n (pc + 3) lv st)  : V C nL L f k n pc lv (.int x :: st) := by
  obtain ⟨p, l, e, R, s, m, args, below, meth, c, G, A, H0, Q⟩ := C
  obtain ⟨hx, hb, hml, hown, hts, hK, hN, hA, rfl, rfl, rfl, hin, hexit⟩ := hC
  intro H locs d ls hd hP hD hS hl
  exact lv_if_lt hx hb hdg ht (fun h => kt h H locs d ls hd hP hD hS hl) (fun h => kf h H locs d ls hd hP hD hS hl)
theorem g_icmp_lt (hC : CxOk C cc nL own ini R0 G0 l0 ret post) {off : Int} {x y : Int32} (tgt : Nat) (hdg : decode cc pc = .ok (.if_icmp .lt off, 3)) (ht : (pc : Int) + off = (tgt : Int)) (kt : x < y → V C nL L f k n tgt lv st) (kf : ¬ x < y → V C nL L f k n (pc + 3) lv st)  : V C nL L f k n pc lv (.int y :: .int x :: st) := by
  obtain ⟨p, l, e, R, s, m, args, below, meth, c, G, A, H0, Q⟩ := C
  obtain ⟨hx, hb, hml, hown, hts, hK, hN, hA, rfl, rfl, rfl, hin, hexit⟩ := hC
  intro H locs d ls hd hP hD hS hl
  exact lv_icmp_lt hx hb hdg ht (fun h => kt h H locs d ls hd hP hD hS hl) (fun h => kf h H locs d ls hd hP hD hS hl)
theorem g_if_ge (hC : CxOk C cc nL own ini R0 G0 l0 ret post) {off : Int} {x : Int32} (tgt : Nat) (hdg : decode cc pc = .ok (.ifCond .ge off, 3)) (ht : (pc : Int) + off = (tgt : Int)) (kt : 0 ≤ x → V C nL L f k n tgt lv st) (kf : ¬ 0 ≤ x → V C nL L f k n (pc + 3) lv st)  : V C nL L f k n pc lv (.int x :: st) := by
  obtain ⟨p, l, e, R, s, m, args, below, meth, c, G, A, H0, Q⟩ := C
  obtain ⟨hx, hb, hml, hown, hts, hK, hN, hA, rfl, rfl, rfl, hin, hexit⟩ := hC
  intro H locs d ls hd hP hD hS hl
  exact lv_if_ge hx hb hdg ht (fun h => kt h H locs d ls hd hP hD hS hl) (fun h => kf h H locs d ls hd hP hD hS hl)
theorem g_icmp_ge (hC : CxOk C cc nL own ini R0 G0 l0 ret post) {off : Int} {x y : Int32} (tgt : Nat) (hdg : decode cc pc = .ok (.if_icmp .ge off, 3)) (ht : (pc : Int) + off = (tgt : Int)) (kt : y ≤ x → V C nL L f k n tgt lv st) (kf : ¬ y ≤ x → V C nL L f k n (pc + 3) lv st)  : V C nL L f k n pc lv (.int y :: .int x :: st) := by
  obtain ⟨p, l, e, R, s, m, args, below, meth, c, G, A, H0, Q⟩ := C
  obtain ⟨hx, hb, hml, hown, hts, hK, hN, hA, rfl, rfl, rfl, hin, hexit⟩ := hC
  intro H locs d ls hd hP hD hS hl
  exact lv_icmp_ge hx hb hdg ht (fun h => kt h H locs d ls hd hP hD hS hl) (fun h => kf h H locs d ls hd hP hD hS hl)
theorem g_if_gt (hC : CxOk C cc nL own ini R0 G0 l0 ret post) {off : Int} {x : Int32} (tgt : Nat) (hdg : decode cc pc = .ok (.ifCond .gt off, 3)) (ht : (pc : Int) + off = (tgt : Int)) (kt : 0 < x → V C nL L f k n tgt lv st) (kf : ¬ 0 < x → V C nL L f k n (pc + 3) lv st)  : V C nL L f k n pc lv (.int x :: st) := by
  obtain ⟨p, l, e, R, s, m, args, below, meth, c, G, A, H0, Q⟩ := C
  obtain ⟨hx, hb, hml, hown, hts, hK, hN, hA, rfl, rfl, rfl, hin, hexit⟩ := hC
  intro H locs d ls hd hP hD hS hl
  exact lv_if_gt hx hb hdg ht (fun h => kt h H locs d ls hd hP hD hS hl) (fun h => kf h H locs d ls hd hP hD hS hl)
theorem g_icmp_gt (hC : CxOk C cc nL own ini R0 G0 l0 ret post) {off : Int} {x y : Int32} (tgt : Nat) (hdg : decode cc pc = .ok (.if_icmp .gt off, 3)) (ht : (pc : Int) + off = (tgt : Int)) (kt : y < x → V C nL L f k n tgt lv st) (kf : ¬ y < x → V C nL L f k n (pc + 3) lv st)  : V C nL L f k n pc lv (.int y :: .int x :: st) := by
  obtain ⟨p, l, e, R, s, m, args, below, meth, c, G, A, H0, Q⟩ := C
  obtain ⟨hx, hb, hml, hown, hts, hK, hN, hA, rfl, rfl, rfl, hin, hexit⟩ := hC
  intro H locs d ls hd hP hD hS hl
  exact lv_icmp_gt hx hb hdg ht (fun h => kt h H locs d ls hd hP hD hS hl) (fun h => kf h H locs d ls hd hP hD hS hl)
theorem g_if_le (hC : CxOk C cc nL own ini R0 G0 l0 ret post) {off : Int} {x : Int32} (tgt : Nat) (hdg : decode cc pc = .ok (.ifCond .le off, 3)) (ht : (pc : Int) + off = (tgt : Int)) (kt : x ≤ 0 → V C nL L f k n tgt lv st) (kf : ¬ x ≤ 0 → V C nL L f k n (pc + 3) lv st)  : V C nL L f k n pc lv (.int x :: st) := by
  obtain ⟨p, l, e, R, s, m, args, below, meth, c, G, A, H0, Q⟩ := C
  obtain ⟨hx, hb, hml, hown, hts, hK, hN, hA, rfl, rfl, rfl, hin, hexit⟩ := hC
  intro H locs d ls hd hP hD hS hl
  exact lv_if_le hx hb hdg ht (fun h => kt h H locs d ls hd hP hD hS hl) (fun h => kf h H locs d ls hd hP hD hS hl)
theorem g_icmp_le (hC : CxOk C cc nL own ini R0 G0 l0 ret post) {off : Int} {x y : Int32} (tgt : Nat) (hdg : decode cc pc = .ok (.if_icmp .le off, 3)) (ht : (pc : Int) + off = (tgt : Int)) (kt : x ≤ y → V C nL L f k n tgt lv st) (kf : ¬ x ≤ y → V C nL L f k n (pc + 3) lv st)  : V C nL L f k n pc lv (.int y :: .int x :: st) := by
  obtain ⟨p, l, e, R, s, m, args, below, meth, c, G, A, H0, Q⟩ := C
  obtain ⟨hx, hb, hml, hown, hts, hK, hN, hA, rfl, rfl, rfl, hin, hexit⟩ := hC
  intro H locs d ls hd hP hD hS hl
  exact lv_icmp_le hx hb hdg ht (fun h => kt h H locs d ls hd hP hD hS hl) (fun h => kf h H locs d ls hd hP hD hS hl)
theorem g_acmp_ne (hC : CxOk C cc nL own ini R0 G0 l0 ret post) {off : Int} {x y : Nat} (tgt : Nat) (hdg : decode cc pc = .ok (.if_acmp .ne off, 3)) (ht : (pc : Int) + off = (tgt : Int)) (kt : ¬ x = y → V C nL L f k n tgt lv st) (kf : x = y → V C nL L f k n (pc + 3) lv st)  : V C nL L f k n pc lv (.ref y :: .ref x :: st) := by
  obtain ⟨p, l, e, R, s, m, args, below, meth, c, G, A, H0, Q⟩ := C
  obtain ⟨hx, hb, hml, hown, hts, hK, hN, hA, rfl, rfl, rfl, hin, hexit⟩ := hC
  intro H locs d ls hd hP hD hS hl
  exact lv_acmp_ne (rx := some x) (ry := some y) hx hb hdg ht (fun h => kt (fun z => h (congrArg some z)) H locs d ls hd hP hD hS hl) (fun h => kf (Option.some.inj h) H locs d ls hd hP hD hS hl)
theorem g_ifnull (hC : CxOk C cc nL own ini R0 G0 l0 ret post) {off : Int} {x : Nat} (hdg : decode cc pc = .ok (.ifnull off, 3)) (kk : V C nL L f k n (pc + 3) lv st) : V C nL L f k n pc lv (.ref x :: st) := by
  obtain ⟨p, l, e, R, s, m, args, below, meth, c, G, A, H0, Q⟩ := C
  obtain ⟨hx, hb, hml, hown, hts, hK, hN, hA, rfl, rfl, rfl, hin, hexit⟩ := hC
  intro H locs d ls hd hP hD hS hl
  exact lv_ifnull hx hb hdg (kk H locs d ls hd hP hD hS hl)
theorem g_ifnullN (hC : CxOk C cc nL own ini R0 G0 l0 ret post) {off : Int} (tgt : Nat) (hdg : decode cc pc = .ok (.ifnull off, 3)) (ht : (pc : Int) + off = (tgt : Int)) (kk : V C nL L f k n tgt lv st) : V C nL L f k n pc lv (.null :: st) := by
  obtain ⟨p, l, e, R, s, m, args, below, meth, c, G, A, H0, Q⟩ := C
  obtain ⟨hx, hb, hml, hown, hts, hK, hN, hA, rfl, rfl, rfl, hin, hexit⟩ := hC
  intro H locs d ls hd hP hD hS hl
  exact lv_ifnullN hx hb hdg ht (kk H locs d ls hd hP hD hS hl)
theorem g_ifnonnull (hC : CxOk C cc nL own ini R0 G0 l0 ret post) {off : Int} {x : Nat} (tgt : Nat) (hdg : decode cc pc = .ok (.ifnonnull off, 3)) (ht : (pc : Int) + off = (tgt : Int)) (kk : V C nL L f k n tgt lv st) : V C nL L f k n pc lv (.ref x :: st) := by
  obtain ⟨p, l, e, R, s, m, args, below, meth, c, G, A, H0, Q⟩ := C
  obtain ⟨hx, hb, hml, hown, hts, hK, hN, hA, rfl, rfl, rfl, hin, hexit⟩ := hC
  intro H locs d ls hd hP hD hS hl
  exact lv_ifnonnull hx hb hdg ht (kk H locs d ls hd hP hD hS hl)
theorem g_ifnonnullN (hC : CxOk C cc nL own ini R0 G0 l0 ret post) {off : Int} (hdg : decode cc pc = .ok (.ifnonnull off, 3)) (kk : V C nL L f k n (pc + 3) lv st) : V C nL L f k n pc lv (.null :: st) := by
  obtain ⟨p, l, e, R, s, m, args, below, meth, c, G, A, H0, Q⟩ := C
  obtain ⟨hx, hb, hml, hown, hts, hK, hN, hA, rfl, rfl, rfl, hin, hexit⟩ := hC
  intro H locs d ls hd hP hD hS hl
  exact lv_ifnonnullN hx hb hdg (kk H locs d ls hd hP hD hS hl)
theorem g_dcmpl_le (hC : CxOk C cc nL own ini R0 G0 l0 ret post) {off : Int} {x y : UInt64} (tgt : Nat) (hdg : decode cc pc = .ok (.dcmp .l, 1)) (hdg2 : decode cc (pc + 1) = .ok (.ifCond .le off, 3)) (ht : ((pc + 1 : Nat) : Int) + off = (tgt : Int)) (kt : qgt (dv x) (dv y) = false → V C nL L f k n tgt lv st) (kf : qgt (dv x) (dv y) = true → V C nL L f k n (pc + 4) lv st)  : V C nL L f k n pc lv (.double y :: .double x :: st) := by
  obtain ⟨p, l, e, R, s, m, args, below, meth, c, G, A, H0, Q⟩ := C
  obtain ⟨hx, hb, hml, hown, hts, hK, hN, hA, rfl, rfl, rfl, hin, hexit⟩ := hC
  intro H locs d ls hd hP hD hS hl
  refine lv_dcmp hx hb hdg ?_
  exact lv_if_le hx hb hdg2 ht (fun h => kt ((br_l_le x y).mp h) H locs d ls hd hP hD hS hl) (fun h => kf (by cases hb2 : qgt (dv x) (dv y) with | true => rfl | false => exact absurd ((br_l_le x y).mpr hb2) h) H locs d ls hd hP hD hS hl)
theorem g_dcmpl_gt (hC : CxOk C cc nL own ini R0 G0 l0 ret post) {off : Int} {x y : UInt64} (tgt : Nat) (hdg : decode cc pc = .ok (.dcmp .l, 1)) (hdg2 : decode cc (pc + 1) = .ok (.ifCond .gt off, 3)) (ht : ((pc + 1 : Nat) : Int) + off = (tgt : Int)) (kt : qgt (dv x) (dv y) = true → V C nL L f k n tgt lv st) (kf : qgt (dv x) (dv y) = false → V C nL L f k n (pc + 4) lv st)  : V C nL L f k n pc lv (.double y :: .double x :: st) := by
  obtain ⟨p, l, e, R, s, m, args, below, meth, c, G, A, H0, Q⟩ := C
  obtain ⟨hx, hb, hml, hown, hts, hK, hN, hA, rfl, rfl, rfl, hin, hexit⟩ := hC
  intro H locs d ls hd hP hD hS hl
  refine lv_dcmp hx hb hdg ?_
  exact lv_if_gt hx hb hdg2 ht (fun h => kt ((br_l_gt x y).mp h) H locs d ls hd hP hD hS hl) (fun h => kf (by cases hb2 : qgt (dv x) (dv y) with | false => rfl | true => exact absurd ((br_l_gt x y).mpr hb2) h) H locs d ls hd hP hD hS hl)
theorem g_dcmpl_lt (hC : CxOk C cc nL own ini R0 G0 l0 ret post) {off : Int} {x y : UInt64} (tgt : Nat) (hdg : decode cc pc = .ok (.dcmp .l, 1)) (hdg2 : decode cc (pc + 1) = .ok (.ifCond .lt off, 3)) (ht : ((pc + 1 : Nat) : Int) + off = (tgt : Int)) (kt : qge (dv x) (dv y) = false → V C nL L f k n tgt lv st) (kf : qge (dv x) (dv y) = true → V C nL L f k n (pc + 4) lv st)  : V C nL L f k n pc lv (.double y :: .double x :: st) := by
  obtain ⟨p, l, e, R, s, m, args, below, meth, c, G, A, H0, Q⟩ := C
  obtain ⟨hx, hb, hml, hown, hts, hK, hN, hA, rfl, rfl, rfl, hin, hexit⟩ := hC
  intro H locs d ls hd hP hD hS hl
  refine lv_dcmp hx hb hdg ?_
  exact lv_if_lt hx hb hdg2 ht (fun h => kt ((br_l_lt x y).mp h) H locs d ls hd hP hD hS hl) (fun h => kf (by cases hb2 : qge (dv x) (dv y) with | true => rfl | false => exact absurd ((br_l_lt x y).mpr hb2) h) H locs d ls hd hP hD hS hl)
theorem g_dcmpl_eq (hC : CxOk C cc nL own ini R0 G0 l0 ret post) {off : Int} {x y : UInt64} (tgt : Nat) (hdg : decode cc pc = .ok (.dcmp .l, 1)) (hdg2 : decode cc (pc + 1) = .ok (.ifCond .eq off, 3)) (ht : ((pc + 1 : Nat) : Int) + off = (tgt : Int)) (kt : qeq (dv x) (dv y) = true → V C nL L f k n tgt lv st) (kf : qeq (dv x) (dv y) = false → V C nL L f k n (pc + 4) lv st)  : V C nL L f k n pc lv (.double y :: .double x :: st) := by
  obtain ⟨p, l, e, R, s, m, args, below, meth, c, G, A, H0, Q⟩ := C
  obtain ⟨hx, hb, hml, hown, hts, hK, hN, hA, rfl, rfl, rfl, hin, hexit⟩ := hC
  intro H locs d ls hd hP hD hS hl
  refine lv_dcmp hx hb hdg ?_
  exact lv_if_eq hx hb hdg2 ht (fun h => kt ((br_l_eq x y).mp h) H locs d ls hd hP hD hS hl) (fun h => kf (by cases hb2 : qeq (dv x) (dv y) with | false => rfl | true => exact absurd ((br_l_eq x y).mpr hb2) h) H locs d ls hd hP hD hS hl)
theorem g_dcmpl_ne (hC : CxOk C cc nL own ini R0 G0 l0 ret post) {off : Int} {x y : UInt64} (tgt : Nat) (hdg : decode cc pc = .ok (.dcmp .l, 1)) (hdg2 : decode cc (pc + 1) = .ok (.ifCond .ne off, 3)) (ht : ((pc + 1 : Nat) : Int) + off = (tgt : Int)) (kt : qeq (dv x) (dv y) = false → V C nL L f k n tgt lv st) (kf : qeq (dv x) (dv y) = true → V C nL L f k n (pc + 4) lv st)  : V C nL L f k n pc lv (.double y :: .double x :: st) := by
  obtain ⟨p, l, e, R, s, m, args, below, meth, c, G, A, H0, Q⟩ := C
  obtain ⟨hx, hb, hml, hown, hts, hK, hN, hA, rfl, rfl, rfl, hin, hexit⟩ := hC
  intro H locs d ls hd hP hD hS hl
  refine lv_dcmp hx hb hdg ?_
  exact lv_if_ne hx hb hdg2 ht (fun h => kt (Bool.eq_false_iff.mpr (fun z => h ((br_l_eq x y).mpr z))) H locs d ls hd hP hD hS hl) (fun h => kf ((br_l_eq x y).mp h) H locs d ls hd hP hD hS hl)
theorem g_dcmpg_ge (hC : CxOk C cc nL own ini R0 G0 l0 ret post) {off : Int} {x y : UInt64} (tgt : Nat) (hdg : decode cc pc = .ok (.dcmp .g, 1)) (hdg2 : decode cc (pc + 1) = .ok (.ifCond .ge off, 3)) (ht : ((pc + 1 : Nat) : Int) + off = (tgt : Int)) (kt : qlt (dv x) (dv y) = false → V C nL L f k n tgt lv st) (kf : qlt (dv x) (dv y) = true → V C nL L f k n (pc + 4) lv st)  : V C nL L f k n pc lv (.double y :: .double x :: st) := by
  obtain ⟨p, l, e, R, s, m, args, below, meth, c, G, A, H0, Q⟩ := C
  obtain ⟨hx, hb, hml, hown, hts, hK, hN, hA, rfl, rfl, rfl, hin, hexit⟩ := hC
  intro H locs d ls hd hP hD hS hl
  refine lv_dcmp hx hb hdg ?_
  exact lv_if_ge hx hb hdg2 ht (fun h => kt ((br_g_ge x y).mp h) H locs d ls hd hP hD hS hl) (fun h => kf (by cases hb2 : qlt (dv x) (dv y) with | true => rfl | false => exact absurd ((br_g_ge x y).mpr hb2) h) H locs d ls hd hP hD hS hl)
theorem g_dcmpg_lt (hC : CxOk C cc nL own ini R0 G0 l0 ret post) {off : Int} {x y : UInt64} (tgt : Nat) (hdg : decode cc pc = .ok (.dcmp .g, 1)) (hdg2 : decode cc (pc + 1) = .ok (.ifCond .lt off, 3)) (ht : ((pc + 1 : Nat) : Int) + off = (tgt : Int)) (kt : qlt (dv x) (dv y) = true → V C nL L f k n tgt lv st) (kf : qlt (dv x) (dv y) = false → V C nL L f k n (pc + 4) lv st)  : V C nL L f k n pc lv (.double y :: .double x :: st) := by
  obtain ⟨p, l, e, R, s, m, args, below, meth, c, G, A, H0, Q⟩ := C
  obtain ⟨hx, hb, hml, hown, hts, hK, hN, hA, rfl, rfl, rfl, hin, hexit⟩ := hC
  intro H locs d ls hd hP hD hS hl
  refine lv_dcmp hx hb hdg ?_
  exact lv_if_lt hx hb hdg2 ht (fun h => kt ((br_g_lt x y).mp h) H locs d ls hd hP hD hS hl) (fun h => kf (by cases hb2 : qlt (dv x) (dv y) with | false => rfl | true => exact absurd ((br_g_lt x y).mpr hb2) h) H locs d ls hd hP hD hS hl)
theorem g_dcmpg_gt (hC : CxOk C cc nL own ini R0 G0 l0 ret post) {off : Int} {x y : UInt64} (tgt : Nat) (hdg : decode cc pc = .ok (.dcmp .g, 1)) (hdg2 : decode cc (pc + 1) = .ok (.ifCond .gt off, 3)) (ht : ((pc + 1 : Nat) : Int) + off = (tgt : Int)) (kt : qle (dv x) (dv y) = false → V C nL L f k n tgt lv st) (kf : qle (dv x) (dv y) = true → V C nL L f k n (pc + 4) lv st)  : V C nL L f k n pc lv (.double y :: .double x :: st) := by
  obtain ⟨p, l, e, R, s, m, args, below, meth, c, G, A, H0, Q⟩ := C
  obtain ⟨hx, hb, hml, hown, hts, hK, hN, hA, rfl, rfl, rfl, hin, hexit⟩ := hC
  intro H locs d ls hd hP hD hS hl
  refine lv_dcmp hx hb hdg ?_
  exact lv_if_gt hx hb hdg2 ht (fun h => kt ((br_g_gt x y).mp h) H locs d ls hd hP hD hS hl) (fun h => kf (by cases hb2 : qle (dv x) (dv y) with | true => rfl | false => exact absurd ((br_g_gt x y).mpr hb2) h) H locs d ls hd hP hD hS hl)
theorem g_dcmpg_le (hC : CxOk C cc nL own ini R0 G0 l0 ret post) {off : Int} {x y : UInt64} (tgt : Nat) (hdg : decode cc pc = .ok (.dcmp .g, 1)) (hdg2 : decode cc (pc + 1) = .ok (.ifCond .le off, 3)) (ht : ((pc + 1 : Nat) : Int) + off = (tgt : Int)) (kt : qle (dv x) (dv y) = true → V C nL L f k n tgt lv st) (kf : qle (dv x) (dv y) = false → V C nL L f k n (pc + 4) lv st)  : V C nL L f k n pc lv (.double y :: .double x :: st) := by
  obtain ⟨p, l, e, R, s, m, args, below, meth, c, G, A, H0, Q⟩ := C
  obtain ⟨hx, hb, hml, hown, hts, hK, hN, hA, rfl, rfl, rfl, hin, hexit⟩ := hC
  intro H locs d ls hd hP hD hS hl
  refine lv_dcmp hx hb hdg ?_
  exact lv_if_le hx hb hdg2 ht (fun h => kt ((br_g_le x y).mp h) H locs d ls hd hP hD hS hl) (fun h => kf (by cases hb2 : qle (dv x) (dv y) with | false => rfl | true => exact absurd ((br_g_le x y).mpr hb2) h) H locs d ls hd hP hD hS hl)
theorem g_table (hC : CxOk C cc nL own ini R0 G0 l0 ret post) {dflt lo hi off : Int} {offs : Array Int} {len : Nat} {x : Int32} (tgt : Nat) (hdg : decode cc pc = .ok (.tableswitch dflt lo hi offs, len)) (h1 : ¬ x.toInt < lo) (h2 : ¬ hi < x.toInt) (ho : offs[(x.toInt - lo).toNat]? = some off) (ht : (pc : Int) + off = (tgt : Int)) (kk : V C nL L f k n tgt lv st) : V C nL L f k n pc lv (.int x :: st) := by
  obtain ⟨p, l, e, R, s, m, args, below, meth, c, G, A, H0, Q⟩ := C
  obtain ⟨hx, hb, hml, hown, hts, hK, hN, hA, rfl, rfl, rfl, hin, hexit⟩ := hC
  intro H locs d ls hd hP hD hS hl
  exact lv_tableIn hx hb hdg h1 h2 ho ht (kk H locs d ls hd hP hD hS hl)
theorem g_tableOut (hC : CxOk C cc nL own ini R0 G0 l0 ret post) {dflt lo hi : Int} {offs : Array Int} {len : Nat} {x : Int32} (tgt : Nat) (hdg : decode cc pc = .ok (.tableswitch dflt lo hi offs, len)) (h : x.toInt < lo ∨ hi < x.toInt) (ht : (pc : Int) + dflt = (tgt : Int)) (kk : V C nL L f k n tgt lv st) : V C nL L f k n pc lv (.int x :: st) := by
  obtain ⟨p, l, e, R, s, m, args, below, meth, c, G, A, H0, Q⟩ := C
  obtain ⟨hx, hb, hml, hown, hts, hK, hN, hA, rfl, rfl, rfl, hin, hexit⟩ := hC
  intro H locs d ls hd hP hD hS hl
  exact lv_tableOut hx hb hdg h ht (kk H locs d ls hd hP hD hS hl)
theorem g_get (hC : CxOk C cc nL own ini R0 G0 l0 ret post) {ix ci N kf : Nat} {Cn ref : String} {TT : u_T} {a : Nat} {fs : List Value} {v : Value} (hdg : decode cc pc = .ok (.getfield ix, 3)) (hL : a ∈ L) (he : f a = .inr (ci, fs)) (hc : vwCl[ci]? = some (Cn, TT, N)) (hu : ∀ w ∈ u_ws Cn TT N, w ∈ lw_all) (hk : kf < N) (hw : Cond.fieldLink own ix ref (TT kf).2.1 (TT kf).2.2.1 ∈ lw_all) (hr : (TT kf).1 = ref) (hv : fs[kf]? = some v) (kk : V C nL L f k n (pc + 3) lv (v :: st)) : V C nL L f k n pc lv (.ref a :: st) := by
  obtain ⟨p, l, e, R, s, m, args, below, meth, c, G, A, H0, Q⟩ := C
  obtain ⟨hx, hb, hml, hown, hts, hK, hN, hA, rfl, rfl, rfl, hin, hexit⟩ := hC
  intro H locs d ls hd hP hD hS hl
  obtain ⟨q0, hq⟩ := pl_at hL he
  exact va_get (s := s.setDrawn d) hx hb (dr_words hts d) hu hown hK hP q0 hq hc kf hk (dr_words hts d _ hw) (fun x9 h9 => by rw [← hr]; exact h9) hv hdg (kk H locs d ls hd hP hD hS hl)
theorem g_getN (hC : CxOk C cc nL own ini R0 G0 l0 ret post) {ix ci N kf : Nat} {Cn ref host : String} {TT : u_T} {a : Nat} {fs : List Value} {v : Value} (hdg : decode cc pc = .ok (.getfield ix, 3)) (hL : a ∈ L) (he : f a = .inr (ci, fs)) (hc : vwCl[ci]? = some (Cn, TT, N)) (hu : ∀ w ∈ u_ws Cn TT N, w ∈ lw_all) (hk : kf < N) (hw : Cond.fieldLinkNest own ix ref (TT kf).2.1 (TT kf).2.2.1 host ∈ lw_nest) (hr : (TT kf).1 = ref) (hv : fs[kf]? = some v) (kk : V C nL L f k n (pc + 3) lv (v :: st)) : V C nL L f k n pc lv (.ref a :: st) := by
  obtain ⟨p, l, e, R, s, m, args, below, meth, c, G, A, H0, Q⟩ := C
  obtain ⟨hx, hb, hml, hown, hts, hK, hN, hA, rfl, rfl, rfl, hin, hexit⟩ := hC
  intro H locs d ls hd hP hD hS hl
  obtain ⟨q0, hq⟩ := pl_at hL he
  exact va_getN (s := s.setDrawn d) hx hb (dr_words hts d) hu hown hK hP q0 hq hc kf hk ((va_Nw.same (U := s.setDrawn d) rfl rfl (hN.1 _ hw)).use rfl) (fun x9 h9 => by rw [← hr]; exact h9) hv hdg (kk H locs d ls hd hP hD hS hl)
theorem g_put (hC : CxOk C cc nL own ini R0 G0 l0 ret post) {ix ci N kf : Nat} {Cn ref : String} {TT : u_T} {a : Nat} {fs : List Value} {ty0 : Nat → FieldType} {fs1 : List Value} {v : Value} {ty : FieldType} (hdg : decode cc pc = .ok (.putfield ix, 3)) (hL : a ∈ L) (he : f a = .inr (ci, fs)) (hc : vwCl[ci]? = some (Cn, TT, N)) (hu : ∀ w ∈ u_ws Cn TT N, w ∈ lw_all) (hk : kf < N) (hty : ∀ j, j < N → parseFieldDescriptor (TT j).2.2.1 = some (ty0 j)) (hnm : ∀ a, a < N → ∀ b, b < N → a ≠ b → (TT a).2.1 ≠ (TT b).2.1) (hw : Cond.fieldLink own ix ref (TT kf).2.1 (TT kf).2.2.1 ∈ lw_all) (hr : (TT kf).1 = ref) (hfin : (TT kf).2.2.2 = false) (htk : ty0 kf = ty) (hnr : narrow ty v = v) (hft : fits ty v = true) (hfs : kf < fs.length) (h1 : fs.set kf v = fs1) (kk : V C nL L (va_up f a (.inr (ci, fs1))) k n (pc + 3) lv st) : V C nL L f k n pc lv (v :: .ref a :: st) := by
  obtain ⟨p, l, e, R, s, m, args, below, meth, c, G, A, H0, Q⟩ := C
  obtain ⟨hx, hb, hml, hown, hts, hK, hN, hA, rfl, rfl, rfl, hin, hexit⟩ := hC
  intro H locs d ls hd hP hD hS hl
  obtain ⟨q0, hq⟩ := pl_at hL he
  subst h1
  exact va_put (s := s.setDrawn d) hx hb (dr_words hts d) hu ty0 hty hnm hown hK hP hD hS q0 hq hc kf hk (dr_words hts d _ hw) (fun x9 h9 => by rw [← hr]; exact h9) hfin (htk ▸ hty kf hk) hnr hft hfs hdg (fun H1 locs1 hP1 hD1 hS1 => kk H1 locs1 d ls hd (pl_set hD hL he hq ▸ hP1) (pl_set hD hL he hq ▸ hD1) hS1 hl)
theorem g_putN (hC : CxOk C cc nL own ini R0 G0 l0 ret post) {ix ci N kf : Nat} {Cn ref host : String} {TT : u_T} {a : Nat} {fs : List Value} {ty0 : Nat → FieldType} {fs1 : List Value} {v : Value} {ty : FieldType} (hdg : decode cc pc = .ok (.putfield ix, 3)) (hL : a ∈ L) (he : f a = .inr (ci, fs)) (hc : vwCl[ci]? = some (Cn, TT, N)) (hu : ∀ w ∈ u_ws Cn TT N, w ∈ lw_all) (hk : kf < N) (hty : ∀ j, j < N → parseFieldDescriptor (TT j).2.2.1 = some (ty0 j)) (hnm : ∀ a, a < N → ∀ b, b < N → a ≠ b → (TT a).2.1 ≠ (TT b).2.1) (hw : Cond.fieldLinkNest own ix ref (TT kf).2.1 (TT kf).2.2.1 host ∈ lw_nest) (hr : (TT kf).1 = ref) (hfin : (TT kf).2.2.2 = false) (htk : ty0 kf = ty) (hnr : narrow ty v = v) (hft : fits ty v = true) (hfs : kf < fs.length) (h1 : fs.set kf v = fs1) (kk : V C nL L (va_up f a (.inr (ci, fs1))) k n (pc + 3) lv st) : V C nL L f k n pc lv (v :: .ref a :: st) := by
  obtain ⟨p, l, e, R, s, m, args, below, meth, c, G, A, H0, Q⟩ := C
  obtain ⟨hx, hb, hml, hown, hts, hK, hN, hA, rfl, rfl, rfl, hin, hexit⟩ := hC
  intro H locs d ls hd hP hD hS hl
  obtain ⟨q0, hq⟩ := pl_at hL he
  subst h1
  exact va_putN (s := s.setDrawn d) hx hb (dr_words hts d) hu ty0 hty hnm hown hK hP hD hS q0 hq hc kf hk ((va_Nw.same (U := s.setDrawn d) rfl rfl (hN.1 _ hw)).use rfl) (fun x9 h9 => by rw [← hr]; exact h9) hfin (htk ▸ hty kf hk) hnr hft hfs hdg (fun H1 locs1 hP1 hD1 hS1 => kk H1 locs1 d ls hd (pl_set hD hL he hq ▸ hP1) (pl_set hD hL he hq ▸ hD1) hS1 hl)
theorem g_putF (hC : CxOk C cc nL own ini R0 G0 l0 ret post) {ix ci N kf : Nat} {Cn ref : String} {TT : u_T} {a : Nat} {fs : List Value} {ty0 : Nat → FieldType} {fs1 : List Value} {v : Value} {ty : FieldType} (hdg : decode cc pc = .ok (.putfield ix, 3)) (hL : a ∈ L) (he : f a = .inr (ci, fs)) (hc : vwCl[ci]? = some (Cn, TT, N)) (hu : ∀ w ∈ u_ws Cn TT N, w ∈ lw_all) (hk : kf < N) (hty : ∀ j, j < N → parseFieldDescriptor (TT j).2.2.1 = some (ty0 j)) (hnm : ∀ a, a < N → ∀ b, b < N → a ≠ b → (TT a).2.1 ≠ (TT b).2.1) (hw : Cond.fieldLink own ix ref (TT kf).2.1 (TT kf).2.2.1 ∈ lw_all) (hr : (TT kf).1 = ref) (hfin : (TT kf).2.2.2 = true) (hin2 : ini = true) (hdecl : (TT kf).1 = own) (htk : ty0 kf = ty) (hnr : narrow ty v = v) (hft : fits ty v = true) (hfs : kf < fs.length) (h1 : fs.set kf v = fs1) (kk : V C nL L (va_up f a (.inr (ci, fs1))) k n (pc + 3) lv st) : V C nL L f k n pc lv (v :: .ref a :: st) := by
  obtain ⟨p, l, e, R, s, m, args, below, meth, c, G, A, H0, Q⟩ := C
  obtain ⟨hx, hb, hml, hown, hts, hK, hN, hA, rfl, rfl, rfl, hin, hexit⟩ := hC
  intro H locs d ls hd hP hD hS hl
  obtain ⟨q0, hq⟩ := pl_at hL he
  subst h1
  exact va_putF (s := s.setDrawn d) hx hb (dr_words hts d) hu ty0 hty hnm hown hK hP hD hS q0 hq hc kf hk (dr_words hts d _ hw) (fun x9 h9 => by rw [← hr]; exact h9) hfin (hin hin2) hdecl (htk ▸ hty kf hk) hnr hft hfs hdg (fun H1 locs1 hP1 hD1 hS1 => kk H1 locs1 d ls hd (pl_set hD hL he hq ▸ hP1) (pl_set hD hL he hq ▸ hD1) hS1 hl)
end G
end
section
/-! arrays, new cells, calls, ends -/
section G
variable {C : CX} {cc : ByteArray} {nL : Nat} {own : String} {ini : Bool} {R0 : Room} {G0 : GD} {l0 : Launch} {ret : Option FieldType} {post : PO} {L : List Nat} {f : Nat → va_E} {k n pc : Nat} {lv : List (Nat × Value)} {st : List Value}
theorem g_daload (hC : CxOk C cc nL own ini R0 G0 l0 ret post) {a N : Nat} {r : Nat → UInt64} {i : Int32} (hdg : decode cc pc = .ok (.daload, 1)) (hL : a ∈ L) (he : f a = .inl (G0.2.1, N, .inr (.inr (.inr (.inl r))))) (hi : vp_in i N) (kk : V C nL L f k n (pc + 1) lv (.double (r i.toNatClampNeg) :: st)) : V C nL L f k n pc lv (.int i :: .ref a :: st) := by
  obtain ⟨p, l, e, R, s, m, args, below, meth, c, G, A, H0, Q⟩ := C
  obtain ⟨hx, hb, hml, hown, hts, hK, hN, hA, rfl, rfl, rfl, hin, hexit⟩ := hC
  intro H locs d ls hd hP hD hS hl
  obtain ⟨q0, hq⟩ := pl_at hL he
  exact va_dald (s := s.setDrawn d) hx hb hK hP q0 0 hq rfl hi hdg (kk H locs d ls hd hP hD hS hl)
theorem g_iaload (hC : CxOk C cc nL own ini R0 G0 l0 ret post) {a N : Nat} {r : Nat → Int32} {i : Int32} (hdg : decode cc pc = .ok (.iaload, 1)) (hL : a ∈ L) (he : f a = .inl (G0.2.2.1, N, .inl r)) (hi : vp_in i N) (kk : V C nL L f k n (pc + 1) lv (.int (r i.toNatClampNeg) :: st)) : V C nL L f k n pc lv (.int i :: .ref a :: st) := by
  obtain ⟨p, l, e, R, s, m, args, below, meth, c, G, A, H0, Q⟩ := C
  obtain ⟨hx, hb, hml, hown, hts, hK, hN, hA, rfl, rfl, rfl, hin, hexit⟩ := hC
  intro H locs d ls hd hP hD hS hl
  obtain ⟨q0, hq⟩ := pl_at hL he
  exact va_iald (s := s.setDrawn d) hx hb hK hP q0 1 hq rfl hi hdg (kk H locs d ls hd hP hD hS hl)
theorem g_zaload (hC : CxOk C cc nL own ini R0 G0 l0 ret post) {a N : Nat} {r : Nat → Int32} {i : Int32} (hdg : decode cc pc = .ok (.baload, 1)) (hL : a ∈ L) (he : f a = .inl (G0.2.2.2.1, N, .inl r)) (hi : vp_in i N) (kk : V C nL L f k n (pc + 1) lv (.int (r i.toNatClampNeg) :: st)) : V C nL L f k n pc lv (.int i :: .ref a :: st) := by
  obtain ⟨p, l, e, R, s, m, args, below, meth, c, G, A, H0, Q⟩ := C
  obtain ⟨hx, hb, hml, hown, hts, hK, hN, hA, rfl, rfl, rfl, hin, hexit⟩ := hC
  intro H locs d ls hd hP hD hS hl
  obtain ⟨q0, hq⟩ := pl_at hL he
  exact va_zald (s := s.setDrawn d) hx hb hK hP q0 2 hq rfl hi hdg (kk H locs d ls hd hP hD hS hl)
theorem g_laload (hC : CxOk C cc nL own ini R0 G0 l0 ret post) {a N : Nat} {r : Nat → Option Nat} {i : Int32} (hdg : decode cc pc = .ok (.aaload, 1)) (hL : a ∈ L) (he : f a = .inl (G0.2.2.2.2.1, N, .inr (.inr (.inr (.inr r))))) (hi : vp_in i N) (kk : V C nL L f k n (pc + 1) lv (va_rf (r i.toNatClampNeg) :: st)) : V C nL L f k n pc lv (.int i :: .ref a :: st) := by
  obtain ⟨p, l, e, R, s, m, args, below, meth, c, G, A, H0, Q⟩ := C
  obtain ⟨hx, hb, hml, hown, hts, hK, hN, hA, rfl, rfl, rfl, hin, hexit⟩ := hC
  intro H locs d ls hd hP hD hS hl
  obtain ⟨q0, hq⟩ := pl_at hL he
  exact va_aldq (C := "LoopLaws$Loop") (s := s.setDrawn d) hx hb hK hP q0 3 hq rfl hi hdg (kk H locs d ls hd hP hD hS hl)
theorem g_paload (hC : CxOk C cc nL own ini R0 G0 l0 ret post) {a N : Nat} {r : Nat → Option Nat} {i : Int32} (hdg : decode cc pc = .ok (.aaload, 1)) (hL : a ∈ L) (he : f a = .inl (G0.2.2.2.2.2, N, .inr (.inr (.inr (.inr r))))) (hi : vp_in i N) (kk : V C nL L f k n (pc + 1) lv (va_rf (r i.toNatClampNeg) :: st)) : V C nL L f k n pc lv (.int i :: .ref a :: st) := by
  obtain ⟨p, l, e, R, s, m, args, below, meth, c, G, A, H0, Q⟩ := C
  obtain ⟨hx, hb, hml, hown, hts, hK, hN, hA, rfl, rfl, rfl, hin, hexit⟩ := hC
  intro H locs d ls hd hP hD hS hl
  obtain ⟨q0, hq⟩ := pl_at hL he
  exact va_aldq (C := "LoopLaws$Split") (s := s.setDrawn d) hx hb hK hP q0 4 hq rfl hi hdg (kk H locs d ls hd hP hD hS hl)
theorem g_dastore (hC : CxOk C cc nL own ini R0 G0 l0 ret post) {a N : Nat} {r : Nat → UInt64} {i : Int32} {x : UInt64} (hdg : decode cc pc = .ok (.dastore, 1)) (hL : a ∈ L) (he : f a = .inl (G0.2.1, N, .inr (.inr (.inr (.inl r))))) (hi : vp_in i N) (kk : V C nL L (va_up f a (.inl (G0.2.1, N, .inr (.inr (.inr (.inl (va_up r i.toNatClampNeg x))))))) k n (pc + 1) lv st) : V C nL L f k n pc lv (.double x :: .int i :: .ref a :: st) := by
  obtain ⟨p, l, e, R, s, m, args, below, meth, c, G, A, H0, Q⟩ := C
  obtain ⟨hx, hb, hml, hown, hts, hK, hN, hA, rfl, rfl, rfl, hin, hexit⟩ := hC
  intro H locs d ls hd hP hD hS hl
  obtain ⟨q0, hq⟩ := pl_at hL he
  exact va_dast (s := s.setDrawn d) hx hb hK hP hD hS q0 0 hq rfl hi hdg (fun H1 locs1 hP1 hD1 hS1 => kk H1 locs1 d ls hd (pl_set hD hL he hq ▸ hP1) (pl_set hD hL he hq ▸ hD1) hS1 hl)
theorem g_iastore (hC : CxOk C cc nL own ini R0 G0 l0 ret post) {a N : Nat} {r : Nat → Int32} {i : Int32} {x : Int32} (hdg : decode cc pc = .ok (.iastore, 1)) (hL : a ∈ L) (he : f a = .inl (G0.2.2.1, N, .inl r)) (hi : vp_in i N) (kk : V C nL L (va_up f a (.inl (G0.2.2.1, N, .inl (va_up r i.toNatClampNeg x)))) k n (pc + 1) lv st) : V C nL L f k n pc lv (.int x :: .int i :: .ref a :: st) := by
  obtain ⟨p, l, e, R, s, m, args, below, meth, c, G, A, H0, Q⟩ := C
  obtain ⟨hx, hb, hml, hown, hts, hK, hN, hA, rfl, rfl, rfl, hin, hexit⟩ := hC
  intro H locs d ls hd hP hD hS hl
  obtain ⟨q0, hq⟩ := pl_at hL he
  exact va_iast (s := s.setDrawn d) hx hb hK hP hD hS q0 1 hq rfl hi hdg (fun H1 locs1 hP1 hD1 hS1 => kk H1 locs1 d ls hd (pl_set hD hL he hq ▸ hP1) (pl_set hD hL he hq ▸ hD1) hS1 hl)
theorem g_zastore (hC : CxOk C cc nL own ini R0 G0 l0 ret post) {a N : Nat} {r : Nat → Int32} {i : Int32} {x : Int32} (hdg : decode cc pc = .ok (.bastore, 1)) (hL : a ∈ L) (he : f a = .inl (G0.2.2.2.1, N, .inl r)) (hi : vp_in i N) (kk : V C nL L (va_up f a (.inl (G0.2.2.2.1, N, .inl (va_up r i.toNatClampNeg (vp_nar .boolean x))))) k n (pc + 1) lv st) : V C nL L f k n pc lv (.int x :: .int i :: .ref a :: st) := by
  obtain ⟨p, l, e, R, s, m, args, below, meth, c, G, A, H0, Q⟩ := C
  obtain ⟨hx, hb, hml, hown, hts, hK, hN, hA, rfl, rfl, rfl, hin, hexit⟩ := hC
  intro H locs d ls hd hP hD hS hl
  obtain ⟨q0, hq⟩ := pl_at hL he
  exact va_zast (s := s.setDrawn d) hx hb hK hP hD hS q0 2 hq rfl hi hdg (fun H1 locs1 hP1 hD1 hS1 => kk H1 locs1 d ls hd (pl_set hD hL he hq ▸ hP1) (pl_set hD hL he hq ▸ hD1) hS1 hl)
theorem g_lastore (hC : CxOk C cc nL own ini R0 G0 l0 ret post) {a b N : Nat} {r : Nat → Option Nat} {vs : List Value} {i : Int32} (hdg : decode cc pc = .ok (.aastore, 1)) (hL : a ∈ L) (he : f a = .inl (G0.2.2.2.2.1, N, .inr (.inr (.inr (.inr r))))) (hLb : b ∈ L) (hb0 : f b = .inr (0, vs)) (hi : vp_in i N) (kk : V C nL L (va_up f a (.inl (G0.2.2.2.2.1, N, .inr (.inr (.inr (.inr (va_up r i.toNatClampNeg (some b)))))))) k n (pc + 1) lv st) : V C nL L f k n pc lv (.ref b :: .int i :: .ref a :: st) := by
  obtain ⟨p, l, e, R, s, m, args, below, meth, c, G, A, H0, Q⟩ := C
  obtain ⟨hx, hb, hml, hown, hts, hK, hN, hA, rfl, rfl, rfl, hin, hexit⟩ := hC
  intro H locs d ls hd hP hD hS hl
  obtain ⟨q0, hq⟩ := pl_at hL he
  obtain ⟨qb, hqb⟩ := pl_at hLb hb0
  exact va_astq (s := s.setDrawn d) hx hb hK hP hD hS q0 3 qb 0 (r := (RX0, TX0, 16)) hq rfl hqb rfl hi hdg (fun H1 locs1 hP1 hD1 hS1 => kk H1 locs1 d ls hd (pl_set hD hL he hq ▸ hP1) (pl_set hD hL he hq ▸ hD1) hS1 hl)
theorem g_pastore (hC : CxOk C cc nL own ini R0 G0 l0 ret post) {a b N : Nat} {r : Nat → Option Nat} {vs : List Value} {i : Int32} (hdg : decode cc pc = .ok (.aastore, 1)) (hL : a ∈ L) (he : f a = .inl (G0.2.2.2.2.2, N, .inr (.inr (.inr (.inr r))))) (hLb : b ∈ L) (hb0 : f b = .inr (2, vs)) (hi : vp_in i N) (kk : V C nL L (va_up f a (.inl (G0.2.2.2.2.2, N, .inr (.inr (.inr (.inr (va_up r i.toNatClampNeg (some b)))))))) k n (pc + 1) lv st) : V C nL L f k n pc lv (.ref b :: .int i :: .ref a :: st) := by
  obtain ⟨p, l, e, R, s, m, args, below, meth, c, G, A, H0, Q⟩ := C
  obtain ⟨hx, hb, hml, hown, hts, hK, hN, hA, rfl, rfl, rfl, hin, hexit⟩ := hC
  intro H locs d ls hd hP hD hS hl
  obtain ⟨q0, hq⟩ := pl_at hL he
  obtain ⟨qb, hqb⟩ := pl_at hLb hb0
  exact va_astq (s := s.setDrawn d) hx hb hK hP hD hS q0 4 qb 2 (r := (RX2, TX2, 2)) hq rfl hqb rfl hi hdg (fun H1 locs1 hP1 hD1 hS1 => kk H1 locs1 d ls hd (pl_set hD hL he hq ▸ hP1) (pl_set hD hL he hq ▸ hD1) hS1 hl)
theorem g_alen (hC : CxOk C cc nL own ini R0 G0 l0 ret post) {a : Nat} {N : Nat} {cA : ClassId} {r : (Nat → Int32) ⊕ (Nat → Int64) ⊕ (Nat → UInt32) ⊕ (Nat → UInt64) ⊕ (Nat → Option Nat)} (t0 : Nat) {ty : FieldType} (v : Int32) (hdg : decode cc pc = .ok (.arraylength, 1)) (hL : a ∈ L) (he : f a = .inl (cA, N, r)) (ht : (tysG G0)[t0]? = some (cA, ty)) (hv : Int32.ofNat N = v) (kk : V C nL L f k n (pc + 1) lv (.int v :: st)) : V C nL L f k n pc lv (.ref a :: st) := by
  obtain ⟨p, l, e, R, s, m, args, below, meth, c, G, A, H0, Q⟩ := C
  obtain ⟨hx, hb, hml, hown, hts, hK, hN, hA, rfl, rfl, rfl, hin, hexit⟩ := hC
  intro H locs d ls hd hP hD hS hl
  obtain ⟨q0, hq⟩ := pl_at hL he
  exact va_alen (s := s.setDrawn d) hx hb hK hP q0 t0 hq ht hv hdg (kk H locs d ls hd hP hD hS hl)
theorem g_new (hC : CxOk C cc nL own ini R0 G0 l0 ret post) {ix ci N : Nat} {Cn : String} {TT : u_T} {ty0 : Nat → FieldType} (fs : List Value) (hdg : decode cc pc = .ok (.new ix, 3)) (hc : vwCl[ci]? = some (Cn, TT, N)) (hu : ∀ w ∈ u_ws Cn TT N, w ∈ lw_all) (hty : ∀ j, j < N → parseFieldDescriptor (TT j).2.2.1 = some (ty0 j)) (hcl : Cond.classLink own ix Cn ∈ lw_all) (hin0 : Cond.instantiable Cn N ∈ lw_all) (hini : Cond.initialized Cn ∈ lw_all) (hfs : ∀ j, j < N → defaultValue (ty0 j) = vp_V fs j) (hk1 : k + 1 ≤ R0.cells) (hn1 : n + N ≤ R0.slots) (kk : ∀ q : Nat, q ∉ L → V C nL (L ++ [q]) (va_up f q (.inr (ci, fs))) (k + 1) (n + N) (pc + 3) lv (.ref q :: st)) : V C nL L f k n pc lv st := by
  obtain ⟨p, l, e, R, s, m, args, below, meth, c, G, A, H0, Q⟩ := C
  obtain ⟨hx, hb, hml, hown, hts, hK, hN, hA, rfl, rfl, rfl, hin, hexit⟩ := hC
  intro H locs d ls hd hP hD hS hl
  refine va_new (s := s.setDrawn d) hx hb (dr_words hts d) hu ty0 hty hown (dr_words hts d _ hcl) (dr_words hts d _ hin0) (dr_words hts d _ hini) hK hP hD hS hA hc hfs hk1 hn1 hdg (fun q H1 hP1 hD1 hS1 => ?_)
  obtain ⟨hq, he⟩ := pl_push hD1
  exact kk q hq H1 locs d ls hd (he ▸ hP1) (he ▸ hD1) hS1 hl
theorem g_newD (hC : CxOk C cc nL own ini R0 G0 l0 ret post) (hdg : decode cc pc = .ok (.newarray .double, 2)) (hw : Cond.arrayClass .double ∈ lw_all) (hk1 : k + 1 ≤ R0.cells) (hn1 : n + 16 ≤ R0.slots) (kk : ∀ q : Nat, q ∉ L → V C nL (L ++ [q]) (va_up f q (.inl (G0.2.1, 16, .inr (.inr (.inr (.inl (fun _ => 0))))))) (k + 1) (n + 16) (pc + 2) lv (.ref q :: st)) : V C nL L f k n pc lv (.int 16 :: st) := by
  obtain ⟨p, l, e, R, s, m, args, below, meth, c, G, A, H0, Q⟩ := C
  obtain ⟨hx, hb, hml, hown, hts, hK, hN, hA, rfl, rfl, rfl, hin, hexit⟩ := hC
  intro H locs d ls hd hP hD hS hl
  refine va_newa (s := s.setDrawn d) (atype := .double) hx hb (dr_words hts d _ hw) (ty := .double) rfl hK hP hD hS hA (N' := 16) (a0 := (16, .inr (.inr (.inr (.inl (fun _ => 0)))))) (fun cA => vp_cell_d _ _ _) (by decide) (by decide) (by decide) hk1 hn1 hdg (fun q cA H1 hK1 hP1 hD1 hS1 => ?_)
  have e1 := (hK1.2 5 (cA, .double) rfl).2
  have e2 := (hK.2 0 (G.2.1, .double) rfl).2
  have e3 : cA = G.2.1 := Option.some.inj (e1.symm.trans e2)
  subst e3
  obtain ⟨hq, he⟩ := pl_push hD1
  exact kk q hq H1 locs d ls hd (he ▸ hP1) (he ▸ hD1) hS1 hl
theorem g_newI (hC : CxOk C cc nL own ini R0 G0 l0 ret post) (hdg : decode cc pc = .ok (.newarray .int, 2)) (hw : Cond.arrayClass .int ∈ lw_all) (hk1 : k + 1 ≤ R0.cells) (hn1 : n + 16 ≤ R0.slots) (kk : ∀ q : Nat, q ∉ L → V C nL (L ++ [q]) (va_up f q (.inl (G0.2.2.1, 16, .inl (fun _ => 0)))) (k + 1) (n + 16) (pc + 2) lv (.ref q :: st)) : V C nL L f k n pc lv (.int 16 :: st) := by
  obtain ⟨p, l, e, R, s, m, args, below, meth, c, G, A, H0, Q⟩ := C
  obtain ⟨hx, hb, hml, hown, hts, hK, hN, hA, rfl, rfl, rfl, hin, hexit⟩ := hC
  intro H locs d ls hd hP hD hS hl
  refine va_newa (s := s.setDrawn d) (atype := .int) hx hb (dr_words hts d _ hw) (ty := .int) rfl hK hP hD hS hA (N' := 16) (a0 := (16, .inl (fun _ => 0))) (fun cA => rfl) (by decide) (by decide) (by decide) hk1 hn1 hdg (fun q cA H1 hK1 hP1 hD1 hS1 => ?_)
  have e1 := (hK1.2 5 (cA, .int) rfl).2
  have e2 := (hK.2 1 (G.2.2.1, .int) rfl).2
  have e3 : cA = G.2.2.1 := Option.some.inj (e1.symm.trans e2)
  subst e3
  obtain ⟨hq, he⟩ := pl_push hD1
  exact kk q hq H1 locs d ls hd (he ▸ hP1) (he ▸ hD1) hS1 hl
theorem g_newZ (hC : CxOk C cc nL own ini R0 G0 l0 ret post) (hdg : decode cc pc = .ok (.newarray .boolean, 2)) (hw : Cond.arrayClass .boolean ∈ lw_all) (hk1 : k + 1 ≤ R0.cells) (hn1 : n + 16 ≤ R0.slots) (kk : ∀ q : Nat, q ∉ L → V C nL (L ++ [q]) (va_up f q (.inl (G0.2.2.2.1, 16, .inl (fun _ => 0)))) (k + 1) (n + 16) (pc + 2) lv (.ref q :: st)) : V C nL L f k n pc lv (.int 16 :: st) := by
  obtain ⟨p, l, e, R, s, m, args, below, meth, c, G, A, H0, Q⟩ := C
  obtain ⟨hx, hb, hml, hown, hts, hK, hN, hA, rfl, rfl, rfl, hin, hexit⟩ := hC
  intro H locs d ls hd hP hD hS hl
  refine va_newa (s := s.setDrawn d) (atype := .boolean) hx hb (dr_words hts d _ hw) (ty := .boolean) rfl hK hP hD hS hA (N' := 16) (a0 := (16, .inl (fun _ => 0))) (fun cA => rfl) (by decide) (by decide) (by decide) hk1 hn1 hdg (fun q cA H1 hK1 hP1 hD1 hS1 => ?_)
  have e1 := (hK1.2 5 (cA, .boolean) rfl).2
  have e2 := (hK.2 2 (G.2.2.2.1, .boolean) rfl).2
  have e3 : cA = G.2.2.2.1 := Option.some.inj (e1.symm.trans e2)
  subst e3
  obtain ⟨hq, he⟩ := pl_push hD1
  exact kk q hq H1 locs d ls hd (he ▸ hP1) (he ▸ hD1) hS1 hl
theorem g_newL (hC : CxOk C cc nL own ini R0 G0 l0 ret post) {ix : Nat} (hdg : decode cc pc = .ok (.anewarray ix, 3)) (hcl : Cond.classLink own ix "LoopLaws$Loop" ∈ lw_all) (hk1 : k + 1 ≤ R0.cells) (hn1 : n + 16 ≤ R0.slots) (kk : ∀ q : Nat, q ∉ L → V C nL (L ++ [q]) (va_up f q (.inl (G0.2.2.2.2.1, 16, .inr (.inr (.inr (.inr (fun _ => none))))))) (k + 1) (n + 16) (pc + 3) lv (.ref q :: st)) : V C nL L f k n pc lv (.int 16 :: st) := by
  obtain ⟨p, l, e, R, s, m, args, below, meth, c, G, A, H0, Q⟩ := C
  obtain ⟨hx, hb, hml, hown, hts, hK, hN, hA, rfl, rfl, rfl, hin, hexit⟩ := hC
  intro H locs d ls hd hP hD hS hl
  refine va_newq (s := s.setDrawn d) (C := "LoopLaws$Loop") hx hb hown (dr_words hts d _ hcl) (hN.2.1.moved (Vm.Alike.refl _)) hK hP hD hS hA (N' := 16) (by decide) (by decide) (by decide) hk1 hn1 hdg (fun q cA H1 hK1 hP1 hD1 hS1 => ?_)
  obtain ⟨_, _, -, -, -, e1⟩ := (hK1.2 5 (cA, .object "LoopLaws$Loop") rfl).2
  obtain ⟨_, _, -, -, -, e2⟩ := (hK.2 3 (G.2.2.2.2.1, .object "LoopLaws$Loop") rfl).2
  have e3 : cA = G.2.2.2.2.1 := Option.some.inj (e1.symm.trans e2)
  subst e3
  obtain ⟨hq, he⟩ := pl_push hD1
  exact kk q hq H1 locs d ls hd (he ▸ hP1) (he ▸ hD1) hS1 hl
theorem g_newP (hC : CxOk C cc nL own ini R0 G0 l0 ret post) {ix : Nat} (hdg : decode cc pc = .ok (.anewarray ix, 3)) (hcl : Cond.classLink own ix "LoopLaws$Split" ∈ lw_all) (hk1 : k + 1 ≤ R0.cells) (hn1 : n + 16 ≤ R0.slots) (kk : ∀ q : Nat, q ∉ L → V C nL (L ++ [q]) (va_up f q (.inl (G0.2.2.2.2.2, 16, .inr (.inr (.inr (.inr (fun _ => none))))))) (k + 1) (n + 16) (pc + 3) lv (.ref q :: st)) : V C nL L f k n pc lv (.int 16 :: st) := by
  obtain ⟨p, l, e, R, s, m, args, below, meth, c, G, A, H0, Q⟩ := C
  obtain ⟨hx, hb, hml, hown, hts, hK, hN, hA, rfl, rfl, rfl, hin, hexit⟩ := hC
  intro H locs d ls hd hP hD hS hl
  refine va_newq (s := s.setDrawn d) (C := "LoopLaws$Split") hx hb hown (dr_words hts d _ hcl) (hN.2.2.moved (Vm.Alike.refl _)) hK hP hD hS hA (N' := 16) (by decide) (by decide) (by decide) hk1 hn1 hdg (fun q cA H1 hK1 hP1 hD1 hS1 => ?_)
  obtain ⟨_, _, -, -, -, e1⟩ := (hK1.2 5 (cA, .object "LoopLaws$Split") rfl).2
  obtain ⟨_, _, -, -, -, e2⟩ := (hK.2 4 (G.2.2.2.2.2, .object "LoopLaws$Split") rfl).2
  have e3 : cA = G.2.2.2.2.2 := Option.some.inj (e1.symm.trans e2)
  subst e3
  obtain ⟨hq, he⟩ := pl_push hD1
  exact kk q hq H1 locs d ls hd (he ▸ hP1) (he ▸ hD1) hS1 hl
theorem g_objInit (hC : CxOk C cc nL own ini R0 G0 l0 ret post) {ix a : Nat} (hdg : decode cc pc = .ok (.invokespecial ix, 3)) (hw : Cond.methodLink own ix objectInit ∈ lw_all) (h1 : 1 ≤ R0.frames) (h2 : 12 ≤ R0.locals) (kk : V C nL L f k n (pc + 3) lv []) : V C nL L f k n pc lv [.ref a] := by
  obtain ⟨p, l, e, R, s, m, args, below, meth, c, G, A, H0, Q⟩ := C
  obtain ⟨hx, hb, hml, hown, hts, hK, hN, hA, rfl, rfl, rfl, hin, hexit⟩ := hC
  intro H locs d ls hd hP hD hS hl
  exact W.objInit (s := s.setDrawn d) hx hb hown (dr_words hts d _ hw) (dr_words hts d _ q_im_obj_init) (dr_words hts d _ q_code_obj_init) (g := F0 m pc ls [.ref a]) rfl (by rw [hml]; exact hl.1) rfl hdg h1 h2 (kk H locs d ls hd hP hD hS hl)
theorem g_vret (hC : CxOk C cc nL own ini R0 G0 l0 ret post) (hdg : decode cc pc = .ok (.return_, 1)) (hr : ret = none) (hp : post none L f) (hk1 : k ≤ R0.cells) (hn1 : n ≤ R0.slots) : V C nL L f k n pc lv [] := by
  obtain ⟨p, l, e, R, s, m, args, below, meth, c, G, A, H0, Q⟩ := C
  obtain ⟨hx, hb, hml, hown, hts, hK, hN, hA, rfl, rfl, rfl, hin, hexit⟩ := hC
  intro H locs d ls hd hP hD hS hl
  exact hexit none L f k n pc H locs d ls hk1 hn1 (Or.inl ⟨hr, rfl, hdg⟩) hp hd hP hD hS
theorem g_iret (hC : CxOk C cc nL own ini R0 G0 l0 ret post) {x : Int32} {ty : FieldType} (hdg : decode cc pc = .ok (.ireturn, 1)) (hr : ret = some ty) (hnr : narrow ty (.int x) = .int x) (hp : post (some (.int x)) L f) (hk1 : k ≤ R0.cells) (hn1 : n ≤ R0.slots) : V C nL L f k n pc lv [.int x] := by
  obtain ⟨p, l, e, R, s, m, args, below, meth, c, G, A, H0, Q⟩ := C
  obtain ⟨hx, hb, hml, hown, hts, hK, hN, hA, rfl, rfl, rfl, hin, hexit⟩ := hC
  intro H locs d ls hd hP hD hS hl
  exact hexit (some (.int x)) L f k n pc H locs d ls hk1 hn1 (Or.inr (Or.inl ⟨ty, x, hr, rfl, hnr, hdg⟩)) hp hd hP hD hS
theorem g_dret (hC : CxOk C cc nL own ini R0 G0 l0 ret post) {x : UInt64} (hdg : decode cc pc = .ok (.dreturn, 1)) (hr : ret = some .double) (hp : post (some (.double x)) L f) (hk1 : k ≤ R0.cells) (hn1 : n ≤ R0.slots) : V C nL L f k n pc lv [.double x] := by
  obtain ⟨p, l, e, R, s, m, args, below, meth, c, G, A, H0, Q⟩ := C
  obtain ⟨hx, hb, hml, hown, hts, hK, hN, hA, rfl, rfl, rfl, hin, hexit⟩ := hC
  intro H locs d ls hd hP hD hS hl
  exact hexit (some (.double x)) L f k n pc H locs d ls hk1 hn1 (Or.inr (Or.inr (Or.inl ⟨x, hr, rfl, hdg⟩))) hp hd hP hD hS
theorem g_aret (hC : CxOk C cc nL own ini R0 G0 l0 ret post) {x : Option Nat} {nn : String} (hdg : decode cc pc = .ok (.areturn, 1)) (hr : ret = some (.object nn)) (hp : post (some (va_rf x)) L f) (hk1 : k ≤ R0.cells) (hn1 : n ≤ R0.slots) : V C nL L f k n pc lv [va_rf x] := by
  obtain ⟨p, l, e, R, s, m, args, below, meth, c, G, A, H0, Q⟩ := C
  obtain ⟨hx, hb, hml, hown, hts, hK, hN, hA, rfl, rfl, rfl, hin, hexit⟩ := hC
  intro H locs d ls hd hP hD hS hl
  exact hexit (some (va_rf x)) L f k n pc H locs d ls hk1 hn1 (Or.inr (Or.inr (Or.inr ⟨nn, x, hr, rfl, hdg⟩))) hp hd hP hD hS
end G
section GB
variable {p : Program} {l : Launch} {e : Env} {R : Room} {s : State} {m : MethodId} {args : Array Value} {below : List Frame} {meth : Method} {c : Code} {H : Heap} {locs : List Loc} {k n mc ms : Nat} {Q : State → Prop} {pc : Nat} {ls : Array Slot} {st st0 : List Value} {A0 : Nat → Prop} {H0 : Heap} {D : va_G} {L : List Nat} {f : Nat → va_E} {d : Drawn}
/-- back from a call of a contract -/
theorem g_back {post1 : PO} (hd : s.drawn.sameBut d lw_cs) (hD : va_D A0 (va_pl L f)) (hS : va_S A0 H0 H locs) (hA : ∀ q, H0.size ≤ q → A0 q)
    (hr : va_RunD lw_cs p l e R (s.setDrawn d) m args below meth c H locs k n mc ms (F0 m pc ls st0) st (fun st₁ oc t => (∃ (v : Option Value) (L1 : List Nat) (f1 : Nat → va_E), oc = .returned v ∧ post1 v L1 f1 ∧ va_P D vwCl (va_pl L1 f1) t.heap ∧ va_D (va_A (va_pl L f) H.size) (va_pl L1 f1)) ∧ va_F (va_A (va_pl L f) H.size) st₁ t) (va_A (va_pl L f) H.size))
    (kk : ∀ (v : Option Value) (L1 : List Nat) (f1 : Nat → va_E), post1 v L1 f1 → ∀ (H1 : Heap) (locs1 : List Loc) (d1 : Drawn), s.drawn.sameBut d1 lw_cs → va_P D vwCl (va_pl L1 f1) H1 → va_D A0 (va_pl L1 f1) → va_S A0 H0 H1 locs1 → W p l e R (s.setDrawn d1) m args below meth c H1 locs1 (k + mc) (n + ms) Q (F0 m (pc + 3) ls (v.toList ++ st))) :
    W p l e R (s.setDrawn d) m args below meth c H locs k n Q (F0 m pc ls st0) := by
  intro T hT X
  obtain ⟨v, st₁, t, T1, Lc, d1, hd1, h0, X1, hL, e1, e2, ⟨⟨v1, L1, f1, hv, hp, hP1, hD1⟩, hz, hk⟩, st⟩ := hr T hT X
  cases hv
  have hfr := pl_free hD hS hA
  rw [h0] at hz hk
  obtain ⟨t2, a1, b1⟩ := kk v L1 f1 hp T1.heap (locs ++ Lc) d1 (hd.trans hd1) (by rw [e1]; exact hP1) (hD1.weaken (fun _ q _ h => hfr q.1 h))
    ⟨Nat.le_trans hS.1 (by rw [e1]; exact hz), fun q h1 h2 => by rw [e1, hk q (Nat.lt_of_lt_of_le h1 hS.1) (fun z => h2 (hfr q z))]; exact hS.2.1 q h1 h2, fun q hq => by
      rcases List.mem_append.mp hq with h | h
      · exact hS.2.2 q h
      · exact hfr _ (hL q h)⟩ T1 rfl X1
  exact ⟨t2, st t2 a1, b1⟩
end GB
section GC
variable {C : CX} {cc : ByteArray} {nL : Nat} {own : String} {ini : Bool} {R0 : Room} {G0 : GD} {l0 : Launch} {ret : Option FieldType} {post : PO} {L : List Nat} {f : Nat → va_E} {k n pc : Nat} {lv : List (Nat × Value)} {st : List Value}
variable {y : MethodName} {bytes : ByteArray} {maxL : Nat} {ret1 : Option FieldType} {rm : Room} {As : List Value} {post1 : PO} {ix : Nat}
theorem g_callV (hC : CxOk C cc nL own ini R0 G0 l0 ret post) {b ci N : Nat} {Cn : String} {TT : u_T} {fs : List Value} (hdg : decode cc pc = .ok (.invokevirtual ix, 3)) (hM : Ctr l0 y bytes maxL ret1 rm G0 (.ref b :: As) L f post1) (hcode : Cond.code y bytes maxL ret1 ∈ lw_all) (hml0 : Cond.methodLink own ix y ∈ lw_all) (him : Cond.instanceMethod y ∈ lw_all) (hsel : Cond.selects Cn y y ∈ lw_all) (hini : Cond.initialized Cn ∈ lw_all) (hy : y.cls = Cn ∧ y.cls ≠ "java/lang/invoke/MethodHandle" ∧ y.cls ≠ "java/lang/invoke/VarHandle" ∧ (parseMethodDescriptor y.desc).map (fun d => d.parameters.length) = some As.length) (hL : b ∈ L) (he : f b = .inr (ci, fs)) (hc : vwCl[ci]? = some (Cn, TT, N)) (hrf : rm.frames + 1 ≤ R0.frames ∧ 8 + (maxL + 11) + rm.locals ≤ R0.locals) (hcs : k + rm.cells ≤ R0.cells ∧ n + rm.slots ≤ R0.slots) (hst : (st.map fun v => v.category).sum ≤ 8) (kk : ∀ (v : Option Value) (L1 : List Nat) (f1 : Nat → va_E), post1 v L1 f1 → V C nL L1 f1 (k + rm.cells) (n + rm.slots) (pc + 3) lv (v.toList ++ st)) : V C nL L f k n pc lv (As.reverse ++ .ref b :: st) := by
  obtain ⟨p, l, e, R, s, m, args, below, meth, c, G, A, H0, Q⟩ := C
  obtain ⟨hx, hb, hml, hown, hts, hK, hN, hA, rfl, rfl, rfl, hin, hexit⟩ := hC
  intro H locs d ls hd hP hD hS hl
  obtain ⟨q0, hq⟩ := pl_at hL he
  have hts1 := dr_words hts d
  have hrec : ∃ cell : Cell, H[b]? = some cell ∧ cell.vm.isStatics = false ∧ (s.setDrawn d).vm.findClass Cn = some cell.cls := va_recv (s := s.setDrawn d) hK hP hc hq
  obtain ⟨hy0, hy1, hy2, hy3⟩ := hy
  subst hy0
  have hcw : CallW R (s.setDrawn d) args own y.cls ix y bytes maxL ret1 (ws_ y bytes maxL ret1) rm rm.cells rm.slots As.length := ⟨callB_of As.length hts1 (ws_good hcode) rfl rfl rfl (hts1 _ hini) (hts1 _ hml0) ⟨hy1, hy2, hy3⟩ hrf, hts1 _ him, hts1 _ hsel⟩
  exact g_back hd hD hS hA (va_runV_D (s := s.setDrawn d) (As := As) (rest := st) ⟨hx, hb, hml, hown, hts1⟩ (hM H.size) hcw ⟨(fun a U g mk q => ⟨q.1, q.2.1, q.2.2.1, va_K.moved (u := U) (U := U.calling g mk a) (Vm.Alike.refl U.vm) q.2.2.2.1, NW.same (s := U) (U := U.calling g mk a) rfl q.2.2.2.2.1, q.2.2.2.2.2⟩), hrec, (fun U hU hW => ⟨rfl, by rw [hU], by rw [hU]; exact hP, va_K.moved hW.alike hK, NW.warm hW (NW.same (s := s) (U := s.setDrawn d) rfl hN), pl_mem hD⟩)⟩ rfl rfl hl.1 rfl (lv_room hst) hdg hcs) (fun v L1 f1 hp H1 locs1 d1 hd1 hP1 hD1 hS1 => kk v L1 f1 hp H1 locs1 d1 ls hd1 hP1 hD1 hS1 hl)
theorem g_callS (hC : CxOk C cc nL own ini R0 G0 l0 ret post) (hdg : decode cc pc = .ok (.invokestatic ix, 3)) (hM : Ctr l0 y bytes maxL ret1 rm G0 As L f post1) (hcode : Cond.code y bytes maxL ret1 ∈ lw_all) (hml0 : Cond.methodLink own ix y ∈ lw_all) (hst0 : Cond.static y ∈ lw_all) (hini : Cond.initialized y.cls ∈ lw_all) (hy : y.cls ≠ "java/lang/invoke/MethodHandle" ∧ y.cls ≠ "java/lang/invoke/VarHandle" ∧ (parseMethodDescriptor y.desc).map (fun d => d.parameters.length) = some As.length) (hrf : rm.frames + 1 ≤ R0.frames ∧ 8 + (maxL + 11) + rm.locals ≤ R0.locals) (hcs : k + rm.cells ≤ R0.cells ∧ n + rm.slots ≤ R0.slots) (hst : (st.map fun v => v.category).sum ≤ 8) (kk : ∀ (v : Option Value) (L1 : List Nat) (f1 : Nat → va_E), post1 v L1 f1 → V C nL L1 f1 (k + rm.cells) (n + rm.slots) (pc + 3) lv (v.toList ++ st)) : V C nL L f k n pc lv (As.reverse ++ st) := by
  obtain ⟨p, l, e, R, s, m, args, below, meth, c, G, A, H0, Q⟩ := C
  obtain ⟨hx, hb, hml, hown, hts, hK, hN, hA, rfl, rfl, rfl, hin, hexit⟩ := hC
  intro H locs d ls hd hP hD hS hl
  have hts1 := dr_words hts d
  refine g_back hd hD hS hA (va_runS_D (s := s.setDrawn d) (As := As) (rest := st) ⟨hx, hb, hml, hown, hts1⟩ (hM H.size) ⟨callB_of As.length hts1 (ws_good hcode) rfl rfl rfl (hts1 _ hini) (hts1 _ hml0) hy hrf, hts1 _ hst0⟩ ⟨(fun a U g mk q => ⟨q.1, q.2.1, q.2.2.1, va_K.moved (u := U) (U := U.calling g mk a) (Vm.Alike.refl U.vm) q.2.2.2.1, NW.same (s := U) (U := U.calling g mk a) rfl q.2.2.2.2.1, q.2.2.2.2.2⟩), (fun U hU hW => ⟨rfl, by rw [hU], by rw [hU]; exact hP, va_K.moved hW.alike hK, NW.warm hW (NW.same (s := s) (U := s.setDrawn d) rfl hN), pl_mem hD⟩)⟩ rfl rfl hl.1 rfl (lv_room hst) hdg hcs) (fun v L1 f1 hp H1 locs1 d1 hd1 hP1 hD1 hS1 => kk v L1 f1 hp H1 locs1 d1 ls hd1 hP1 hD1 hS1 hl)
theorem g_callI (hC : CxOk C cc nL own ini R0 G0 l0 ret post) {b : Nat} (hdg : decode cc pc = .ok (.invokespecial ix, 3)) (hM : Ctr l0 y bytes maxL none rm G0 (.ref b :: As) L f post1) (hcode : Cond.code y bytes maxL none ∈ lw_all) (hml0 : Cond.methodLink own ix y ∈ lw_all) (him : Cond.instanceMethod y ∈ lw_all) (hini : Cond.initialized y.cls ∈ lw_all) (hy : y.name = "<init>" ∧ y.cls ≠ "java/lang/invoke/MethodHandle" ∧ y.cls ≠ "java/lang/invoke/VarHandle" ∧ (parseMethodDescriptor y.desc).map (fun d => d.parameters.length) = some As.length) (hrf : rm.frames + 1 ≤ R0.frames ∧ 8 + (maxL + 11) + rm.locals ≤ R0.locals) (hcs : k + rm.cells ≤ R0.cells ∧ n + rm.slots ≤ R0.slots) (hst : (st.map fun v => v.category).sum ≤ 8) (kk : ∀ (v : Option Value) (L1 : List Nat) (f1 : Nat → va_E), post1 v L1 f1 → V C nL L1 f1 (k + rm.cells) (n + rm.slots) (pc + 3) lv (v.toList ++ st)) : V C nL L f k n pc lv (As.reverse ++ .ref b :: st) := by
  obtain ⟨p, l, e, R, s, m, args, below, meth, c, G, A, H0, Q⟩ := C
  obtain ⟨hx, hb, hml, hown, hts, hK, hN, hA, rfl, rfl, rfl, hin, hexit⟩ := hC
  intro H locs d ls hd hP hD hS hl
  have hts1 := dr_words hts d
  refine g_back hd hD hS hA (va_runI_D (s := s.setDrawn d) (As := As) (rest := st) ⟨hx, hb, hml, hown, hts1⟩ (hM H.size) ⟨callB_of As.length hts1 (ws_good hcode) rfl rfl rfl (hts1 _ hini) (hts1 _ hml0) hy.2 hrf, hy.1, hts1 _ him⟩ ⟨(fun a U g mk q => ⟨q.1, q.2.1, q.2.2.1, va_K.moved (u := U) (U := U.calling g mk a) (Vm.Alike.refl U.vm) q.2.2.2.1, NW.same (s := U) (U := U.calling g mk a) rfl q.2.2.2.2.1, q.2.2.2.2.2⟩), (fun U hU hW => ⟨rfl, by rw [hU], by rw [hU]; exact hP, va_K.moved hW.alike hK, NW.warm hW (NW.same (s := s) (U := s.setDrawn d) rfl hN), pl_mem hD⟩)⟩ rfl rfl hl.1 rfl (lv_room hst) hdg hcs) (fun v L1 f1 hp H1 locs1 d1 hd1 hP1 hD1 hS1 => kk v L1 f1 hp H1 locs1 d1 ls hd1 hP1 hD1 hS1 hl)
theorem g_callIN (hC : CxOk C cc nL own ini R0 G0 l0 ret post) {b : Nat} {host : String} (hdg : decode cc pc = .ok (.invokespecial ix, 3)) (hM : Ctr l0 y bytes maxL none rm G0 (.ref b :: As) L f post1) (hcode : Cond.code y bytes maxL none ∈ lw_all) (hml0 : Cond.methodLinkNest own ix y host ∈ lw_nest) (him : Cond.instanceMethod y ∈ lw_all) (hini : Cond.initialized y.cls ∈ lw_all) (hy : y.name = "<init>" ∧ y.cls ≠ "java/lang/invoke/MethodHandle" ∧ y.cls ≠ "java/lang/invoke/VarHandle" ∧ (parseMethodDescriptor y.desc).map (fun d => d.parameters.length) = some As.length) (hrf : rm.frames + 1 ≤ R0.frames ∧ 8 + (maxL + 11) + rm.locals ≤ R0.locals) (hcs : k + rm.cells ≤ R0.cells ∧ n + rm.slots ≤ R0.slots) (hst : (st.map fun v => v.category).sum ≤ 8) (kk : ∀ (v : Option Value) (L1 : List Nat) (f1 : Nat → va_E), post1 v L1 f1 → V C nL L1 f1 (k + rm.cells) (n + rm.slots) (pc + 3) lv (v.toList ++ st)) : V C nL L f k n pc lv (As.reverse ++ .ref b :: st) := by
  obtain ⟨p, l, e, R, s, m, args, below, meth, c, G, A, H0, Q⟩ := C
  obtain ⟨hx, hb, hml, hown, hts, hK, hN, hA, rfl, rfl, rfl, hin, hexit⟩ := hC
  intro H locs d ls hd hP hD hS hl
  have hts1 := dr_words hts d
  refine g_back hd hD hS hA (va_runIN_D (s := s.setDrawn d) (As := As) (rest := st) ⟨hx, hb, hml, hown, hts1⟩ (hM H.size) ⟨va_cnB As.length hts1 (ws_good hcode) rfl rfl rfl (va_Nw.same (u := s) (U := s.setDrawn d) rfl rfl (hN.1 _ hml0)) (hts1 _ hini) hy.2 hrf, hy.1, hts1 _ him⟩ ⟨(fun a U g mk q => ⟨q.1, q.2.1, q.2.2.1, va_K.moved (u := U) (U := U.calling g mk a) (Vm.Alike.refl U.vm) q.2.2.2.1, NW.same (s := U) (U := U.calling g mk a) rfl q.2.2.2.2.1, q.2.2.2.2.2⟩), (fun U hU hW => ⟨rfl, by rw [hU], by rw [hU]; exact hP, va_K.moved hW.alike hK, NW.warm hW (NW.same (s := s) (U := s.setDrawn d) rfl hN), pl_mem hD⟩)⟩ rfl rfl hl.1 rfl (lv_room hst) hdg hcs) (fun v L1 f1 hp H1 locs1 d1 hd1 hP1 hD1 hS1 => kk v L1 f1 hp H1 locs1 d1 ls hd1 hP1 hD1 hS1 hl)
end GC
end
section
/-! more rows, and the words in which the methods are said -/
def bI (b : Bool) : Int32 := if b = true then 1 else 0
theorem bI_t : bI true = 1 := rfl
theorem bI_f : bI false = 0 := rfl
theorem bI_0 {b : Bool} : bI b = 0 ↔ b = false := by cases b <;> decide
theorem bI_r : ∀ b, narrow .boolean (.int (bI b)) = .int (bI b) := by intro b; cases b <;> rfl
section G8
variable {C : CX} {cc : ByteArray} {nL : Nat} {own : String} {ini : Bool} {R0 : Room} {G0 : GD} {l0 : Launch} {ret : Option FieldType} {post : PO} {L : List Nat} {f : Nat → va_E} {k n pc : Nat} {lv : List (Nat × Value)} {st : List Value}
theorem g_nm (kk : ∀ f1 : Nat → va_E, f1 = f → V C nL L f1 k n pc lv st) : V C nL L f k n pc lv st := kk f rfl
theorem g_nmI {v : Int32} (kk : ∀ x : Int32, x = v → V C nL L f k n pc lv (.int x :: st)) : V C nL L f k n pc lv (.int v :: st) := kk v rfl
theorem g_nmD {v : UInt64} (kk : ∀ x : UInt64, x = v → V C nL L f k n pc lv (.double x :: st)) : V C nL L f k n pc lv (.double v :: st) := kk v rfl
theorem g_eqI {v w : Int32} (h : v = w) (kk : V C nL L f k n pc lv (.int w :: st)) : V C nL L f k n pc lv (.int v :: st) := h ▸ kk
theorem g_eqD {v w : UInt64} (h : v = w) (kk : V C nL L f k n pc lv (.double w :: st)) : V C nL L f k n pc lv (.double v :: st) := h ▸ kk
theorem g_ifB_eq (hC : CxOk C cc nL own ini R0 G0 l0 ret post) {off : Int} {b : Bool} (tgt : Nat) (hdg : decode cc pc = .ok (.ifCond .eq off, 3)) (ht : (pc : Int) + off = (tgt : Int)) (kt : b = false → V C nL L f k n tgt lv st) (kf : b = true → V C nL L f k n (pc + 3) lv st) : V C nL L f k n pc lv (.int (bI b) :: st) :=
  g_if_eq hC tgt hdg ht (fun h => kt (bI_0.mp h)) (fun h => kf (by cases b; exact absurd rfl h; rfl))
theorem g_ifB_ne (hC : CxOk C cc nL own ini R0 G0 l0 ret post) {off : Int} {b : Bool} (tgt : Nat) (hdg : decode cc pc = .ok (.ifCond .ne off, 3)) (ht : (pc : Int) + off = (tgt : Int)) (kt : b = true → V C nL L f k n tgt lv st) (kf : b = false → V C nL L f k n (pc + 3) lv st) : V C nL L f k n pc lv (.int (bI b) :: st) :=
  g_if_ne hC tgt hdg ht (fun h => kt (by cases b; exact absurd rfl h; rfl)) (fun h => kf (bI_0.mp h))
end G8
abbrev R00 : Room := { frames := 0, cells := 0, slots := 0, locals := 0 }
def inB (v lo hi : DT) : Bool := qge v lo && qle v hi
def inS (v lo hi : DT) : Bool := qgt v lo && qlt v hi
def nearS (v lo hi : DT) : DT := if qlt v lo = true then lo else if qgt v hi = true then hi else v
def gainS (v : DT) : Bool := inB v (dv 0) (dv 4652007308841189376)
def readS (v : DT) : Bool := inB v (dv 13920209183539462144) (dv 4696837146684686336)
def ordS (lo hi : DT) (m : Int32) : Bool := qge lo (dv (FP.i2d (-m))) && (qle lo hi && qle hi (dv (FP.i2d m)))
def MV (u r w : DT) : DT := if qgt w (qadd u r) = true then qadd u r else if qlt w (qsub u r) = true then qsub u r else w
abbrev eSp (lo hi : UInt64) : va_E := .inr (1, [.double lo, .double hi])
abbrev eLp (x : Nat → UInt64) (md fa : Int32) (lm bd rg tn : Nat) (ou : Option Nat) : va_E := .inr (0, [.double (x 0), .double (x 1), .double (x 2), .ref lm, .ref bd, .ref rg, .ref tn, .double (x 3), .double (x 4), .double (x 5), .double (x 6), .double (x 7), .double (x 8), .int md, .int fa, va_rf ou])
abbrev eTn (le : UInt64) (rl sw lr : Int32) (mn mx : UInt64) (pe : Int32) : va_E := .inr (3, [.double le, .int rl, .int sw, .int lr, .double mn, .double mx, .int pe])
abbrev eSt (lp : Nat) (at0 : UInt64) : va_E := .inr (2, [.ref lp, .double at0])
end
section
set_option maxHeartbeats 4000000 in
set_option maxRecDepth 100000 in
/-- isWithin(v, low, high) -/
theorem ct_X4_isWithin (l : Launch) (G : GD) (L : List Nat) (f : Nat → va_E) (a b c : UInt64) : Ctr l yX4_isWithin cX4_isWithin 6 (some .boolean) R00 G [.double a, .double b, .double c] L f (fun vv L1 f1 => vv = some (.int (bI (inB (dv a) (dv b) (dv c)))) ∧ L = L1 ∧ f = f1) := by
  refine g_enter RX4 false (by decide) rfl (fun h => by cases h) (Nat.le_of_ble_eq_true rfl) (fun C hC => ?_)
  refine (show V C 6 L f 0 0 0 [(0, .double a), (2, .double b), (4, .double c)] [] from ?_)
  refine g_dload_n hC dX4_isWithin_0 0 rfl ?_
  refine g_dload_n hC dX4_isWithin_1 1 rfl ?_
  refine g_dcmpl_lt hC 17 dX4_isWithin_2 dX4_isWithin_3 (by decide) (fun c1 => ?_) (fun c1 => ?_)
  · skip
    refine g_iconst hC 0 dX4_isWithin_17 (by decide) ?_
    exact g_iret hC dX4_isWithin_18 rfl rfl ⟨by simp [bI, inB, c1], rfl, rfl⟩ (Nat.zero_le _) (Nat.zero_le _)
  · skip
    refine g_dload_n hC dX4_isWithin_6 0 rfl ?_
    refine g_dload hC dX4_isWithin_7 2 rfl ?_
    refine g_dcmpg_gt hC 17 dX4_isWithin_9 dX4_isWithin_10 (by decide) (fun c2 => ?_) (fun c2 => ?_)
    · skip
      refine g_iconst hC 0 dX4_isWithin_17 (by decide) ?_
      exact g_iret hC dX4_isWithin_18 rfl rfl ⟨by simp [bI, inB, c1, c2], rfl, rfl⟩ (Nat.zero_le _) (Nat.zero_le _)
    · skip
      refine g_iconst hC 1 dX4_isWithin_13 (by decide) ?_
      refine g_goto hC 18 dX4_isWithin_14 (by decide) ?_
      exact g_iret hC dX4_isWithin_18 rfl rfl ⟨by simp [bI, inB, c1, c2], rfl, rfl⟩ (Nat.zero_le _) (Nat.zero_le _)
set_option maxHeartbeats 4000000 in
set_option maxRecDepth 100000 in
/-- isIn(v, low, high) -/
theorem ct_X5_isIn (l : Launch) (G : GD) (L : List Nat) (f : Nat → va_E) (a b c : UInt64) : Ctr l yX5_isIn cX5_isIn 6 (some .boolean) R00 G [.double a, .double b, .double c] L f (fun vv L1 f1 => vv = some (.int (bI (inB (dv a) (dv b) (dv c)))) ∧ L = L1 ∧ f = f1) := by
  refine g_enter RX5 false (by decide) rfl (fun h => by cases h) (Nat.le_of_ble_eq_true rfl) (fun C hC => ?_)
  refine (show V C 6 L f 0 0 0 [(0, .double a), (2, .double b), (4, .double c)] [] from ?_)
  refine g_dload_n hC dX5_isIn_0 0 rfl ?_
  refine g_dload_n hC dX5_isIn_1 1 rfl ?_
  refine g_dcmpl_lt hC 17 dX5_isIn_2 dX5_isIn_3 (by decide) (fun c1 => ?_) (fun c1 => ?_)
  · skip
    refine g_iconst hC 0 dX5_isIn_17 (by decide) ?_
    exact g_iret hC dX5_isIn_18 rfl rfl ⟨by simp [bI, inB, c1], rfl, rfl⟩ (Nat.zero_le _) (Nat.zero_le _)
  · skip
    refine g_dload_n hC dX5_isIn_6 0 rfl ?_
    refine g_dload hC dX5_isIn_7 2 rfl ?_
    refine g_dcmpg_gt hC 17 dX5_isIn_9 dX5_isIn_10 (by decide) (fun c2 => ?_) (fun c2 => ?_)
    · skip
      refine g_iconst hC 0 dX5_isIn_17 (by decide) ?_
      exact g_iret hC dX5_isIn_18 rfl rfl ⟨by simp [bI, inB, c1, c2], rfl, rfl⟩ (Nat.zero_le _) (Nat.zero_le _)
    · skip
      refine g_iconst hC 1 dX5_isIn_13 (by decide) ?_
      refine g_goto hC 18 dX5_isIn_14 (by decide) ?_
      exact g_iret hC dX5_isIn_18 rfl rfl ⟨by simp [bI, inB, c1, c2], rfl, rfl⟩ (Nat.zero_le _) (Nat.zero_le _)
set_option maxHeartbeats 4000000 in
set_option maxRecDepth 100000 in
/-- isGain(v) -/
theorem ct_X4_isGain (l : Launch) (G : GD) (L : List Nat) (f : Nat → va_E) (a : UInt64) : Ctr l yX4_isGain cX4_isGain 2 (some .boolean) { frames := 1, cells := 0, slots := 0, locals := 25 } G [.double a] L f (fun vv L1 f1 => vv = some (.int (bI (gainS (dv a)))) ∧ L = L1 ∧ f = f1) := by
  refine g_enter RX4 false (by decide) rfl (fun h => by cases h) (Nat.le_of_ble_eq_true rfl) (fun C hC => ?_)
  refine (show V C 2 L f 0 0 0 [(0, .double a)] [] from ?_)
  refine g_dload_n hC dX4_isGain_0 0 rfl ?_
  refine g_dconst0 hC dX4_isGain_1 ?_
  refine g_ldc2 hC dX4_isGain_2 q_cd_X4_137 ?_
  refine g_callS hC dX4_isGain_5 (ct_X4_isWithin l G L f a 0 4652007308841189376) q_code_X4_isWithin q_ml_X4_42 q_st_X4_isWithin q_init_X4 ⟨by decide, by decide, (show (parseMethodDescriptor yX4_isWithin.desc).map (fun d => d.parameters.length) = some 3 from by decide +kernel)⟩ (by decide) (by decide) (Nat.le_of_ble_eq_true rfl) (fun v2 L3 f4 hp1 => ?_)
  obtain ⟨rfl, rfl, rfl⟩ := hp1
  refine (show V C 2 L f 0 0 8 [(0, .double a)] [.int (bI (inB (dv a) (dv 0) (dv 4652007308841189376)))] from ?_)
  exact g_iret hC dX4_isGain_8 rfl (bI_r _) ⟨rfl, rfl, rfl⟩ (Nat.zero_le _) (Nat.zero_le _)
set_option maxHeartbeats 4000000 in
set_option maxRecDepth 100000 in
/-- isReading(v) -/
theorem ct_X4_isReading (l : Launch) (G : GD) (L : List Nat) (f : Nat → va_E) (a : UInt64) : Ctr l yX4_isReading cX4_isReading 2 (some .boolean) { frames := 1, cells := 0, slots := 0, locals := 25 } G [.double a] L f (fun vv L1 f1 => vv = some (.int (bI (readS (dv a)))) ∧ L = L1 ∧ f = f1) := by
  refine g_enter RX4 false (by decide) rfl (fun h => by cases h) (Nat.le_of_ble_eq_true rfl) (fun C hC => ?_)
  refine (show V C 2 L f 0 0 0 [(0, .double a)] [] from ?_)
  refine g_dload_n hC dX4_isReading_0 0 rfl ?_
  refine g_ldc2 hC dX4_isReading_1 q_cd_X4_139 ?_
  refine g_ldc2 hC dX4_isReading_4 q_cd_X4_141 ?_
  refine g_callS hC dX4_isReading_7 (ct_X4_isWithin l G L f a 13920209183539462144 4696837146684686336) q_code_X4_isWithin q_ml_X4_42 q_st_X4_isWithin q_init_X4 ⟨by decide, by decide, (show (parseMethodDescriptor yX4_isWithin.desc).map (fun d => d.parameters.length) = some 3 from by decide +kernel)⟩ (by decide) (by decide) (Nat.le_of_ble_eq_true rfl) (fun v2 L3 f4 hp1 => ?_)
  obtain ⟨rfl, rfl, rfl⟩ := hp1
  refine (show V C 2 L f 0 0 10 [(0, .double a)] [.int (bI (inB (dv a) (dv 13920209183539462144) (dv 4696837146684686336)))] from ?_)
  exact g_iret hC dX4_isReading_10 rfl (bI_r _) ⟨rfl, rfl, rfl⟩ (Nat.zero_le _) (Nat.zero_le _)
set_option maxHeartbeats 4000000 in
set_option maxRecDepth 100000 in
/-- isOrdered(low, high, most) -/
theorem ct_X4_isOrdered (l : Launch) (G : GD) (L : List Nat) (f : Nat → va_E) (a b : UInt64) (m : Int32) : Ctr l yX4_isOrdered cX4_isOrdered 5 (some .boolean) R00 G [.double a, .double b, .int m] L f (fun vv L1 f1 => vv = some (.int (bI (ordS (dv a) (dv b) m))) ∧ L = L1 ∧ f = f1) := by
  refine g_enter RX4 false (by decide) rfl (fun h => by cases h) (Nat.le_of_ble_eq_true rfl) (fun C hC => ?_)
  refine (show V C 5 L f 0 0 0 [(0, .double a), (2, .double b), (4, .int m)] [] from ?_)
  refine g_dload_n hC dX4_isOrdered_0 0 rfl ?_
  refine g_iload hC dX4_isOrdered_1 2 rfl ?_
  refine g_ineg hC dX4_isOrdered_3 ?_
  refine g_i2d hC dX4_isOrdered_4 ?_
  refine g_dcmpl_lt hC 27 dX4_isOrdered_5 dX4_isOrdered_6 (by decide) (fun c1 => ?_) (fun c1 => ?_)
  · skip
    refine g_iconst hC 0 dX4_isOrdered_27 (by decide) ?_
    exact g_iret hC dX4_isOrdered_28 rfl rfl ⟨by simp [bI, ordS, c1], rfl, rfl⟩ (Nat.zero_le _) (Nat.zero_le _)
  · skip
    refine g_dload_n hC dX4_isOrdered_9 0 rfl ?_
    refine g_dload_n hC dX4_isOrdered_10 1 rfl ?_
    refine g_dcmpg_gt hC 27 dX4_isOrdered_11 dX4_isOrdered_12 (by decide) (fun c2 => ?_) (fun c2 => ?_)
    · skip
      refine g_iconst hC 0 dX4_isOrdered_27 (by decide) ?_
      exact g_iret hC dX4_isOrdered_28 rfl rfl ⟨by simp [bI, ordS, c1, c2], rfl, rfl⟩ (Nat.zero_le _) (Nat.zero_le _)
    · skip
      refine g_dload_n hC dX4_isOrdered_15 1 rfl ?_
      refine g_iload hC dX4_isOrdered_16 2 rfl ?_
      refine g_i2d hC dX4_isOrdered_18 ?_
      refine g_dcmpg_gt hC 27 dX4_isOrdered_19 dX4_isOrdered_20 (by decide) (fun c3 => ?_) (fun c3 => ?_)
      · skip
        refine g_iconst hC 0 dX4_isOrdered_27 (by decide) ?_
        exact g_iret hC dX4_isOrdered_28 rfl rfl ⟨by simp [bI, ordS, c1, c2, c3], rfl, rfl⟩ (Nat.zero_le _) (Nat.zero_le _)
      · skip
        refine g_iconst hC 1 dX4_isOrdered_23 (by decide) ?_
        refine g_goto hC 28 dX4_isOrdered_24 (by decide) ?_
        exact g_iret hC dX4_isOrdered_28 rfl rfl ⟨by simp [bI, ordS, c1, c2, c3], rfl, rfl⟩ (Nat.zero_le _) (Nat.zero_le _)
set_option maxHeartbeats 4000000 in
set_option maxRecDepth 100000 in
/-- Span.holds(v) -/
theorem ct_X1_holds (l : Launch) (G : GD) (L : List Nat) (f : Nat → va_E) (a : Nat) (lo hi v : UInt64) (hL_a : a ∈ L) (h0 : f a = eSp lo hi) : Ctr l yX1_holds cX1_holds 3 (some .boolean) R00 G [.ref a, .double v] L f (fun vv L1 f1 => vv = some (.int (bI (inB (dv v) (dv lo) (dv hi)))) ∧ L = L1 ∧ f = f1) := by
  refine g_enter RX1 false (by decide) rfl (fun h => by cases h) (Nat.le_of_ble_eq_true rfl) (fun C hC => ?_)
  refine (show V C 3 L f 0 0 0 [(0, .ref a), (1, .double v)] [] from ?_)
  refine g_dload_n hC dX1_holds_0 1 rfl ?_
  refine g_aload_n hC dX1_holds_1 0 rfl ?_
  refine g_get hC (kf := 0) (TT := TX1) (N := 2) (Cn := RX1) dX1_holds_2 hL_a h0 rfl q_u1 (by decide) q_fl_X1_7 rfl rfl ?_
  refine g_dcmpl_lt hC 22 dX1_holds_5 dX1_holds_6 (by decide) (fun c1 => ?_) (fun c1 => ?_)
  · skip
    refine g_iconst hC 0 dX1_holds_22 (by decide) ?_
    exact g_iret hC dX1_holds_23 rfl rfl ⟨by simp [bI, inB, c1], rfl, rfl⟩ (Nat.zero_le _) (Nat.zero_le _)
  · skip
    refine g_dload_n hC dX1_holds_9 1 rfl ?_
    refine g_aload_n hC dX1_holds_10 0 rfl ?_
    refine g_get hC (kf := 1) (TT := TX1) (N := 2) (Cn := RX1) dX1_holds_11 hL_a h0 rfl q_u1 (by decide) q_fl_X1_13 rfl rfl ?_
    refine g_dcmpg_gt hC 22 dX1_holds_14 dX1_holds_15 (by decide) (fun c2 => ?_) (fun c2 => ?_)
    · skip
      refine g_iconst hC 0 dX1_holds_22 (by decide) ?_
      exact g_iret hC dX1_holds_23 rfl rfl ⟨by simp [bI, inB, c1, c2], rfl, rfl⟩ (Nat.zero_le _) (Nat.zero_le _)
    · skip
      refine g_iconst hC 1 dX1_holds_18 (by decide) ?_
      refine g_goto hC 23 dX1_holds_19 (by decide) ?_
      exact g_iret hC dX1_holds_23 rfl rfl ⟨by simp [bI, inB, c1, c2], rfl, rfl⟩ (Nat.zero_le _) (Nat.zero_le _)
set_option maxHeartbeats 4000000 in
set_option maxRecDepth 100000 in
/-- Span.holdsInside(v) -/
theorem ct_X1_holdsInside (l : Launch) (G : GD) (L : List Nat) (f : Nat → va_E) (a : Nat) (lo hi v : UInt64) (hL_a : a ∈ L) (h0 : f a = eSp lo hi) : Ctr l yX1_holdsInside cX1_holdsInside 3 (some .boolean) R00 G [.ref a, .double v] L f (fun vv L1 f1 => vv = some (.int (bI (inS (dv v) (dv lo) (dv hi)))) ∧ L = L1 ∧ f = f1) := by
  refine g_enter RX1 false (by decide) rfl (fun h => by cases h) (Nat.le_of_ble_eq_true rfl) (fun C hC => ?_)
  refine (show V C 3 L f 0 0 0 [(0, .ref a), (1, .double v)] [] from ?_)
  refine g_dload_n hC dX1_holdsInside_0 1 rfl ?_
  refine g_aload_n hC dX1_holdsInside_1 0 rfl ?_
  refine g_get hC (kf := 0) (TT := TX1) (N := 2) (Cn := RX1) dX1_holdsInside_2 hL_a h0 rfl q_u1 (by decide) q_fl_X1_7 rfl rfl ?_
  refine g_dcmpl_le hC 22 dX1_holdsInside_5 dX1_holdsInside_6 (by decide) (fun c1 => ?_) (fun c1 => ?_)
  · skip
    refine g_iconst hC 0 dX1_holdsInside_22 (by decide) ?_
    exact g_iret hC dX1_holdsInside_23 rfl rfl ⟨by simp [bI, inS, c1], rfl, rfl⟩ (Nat.zero_le _) (Nat.zero_le _)
  · skip
    refine g_dload_n hC dX1_holdsInside_9 1 rfl ?_
    refine g_aload_n hC dX1_holdsInside_10 0 rfl ?_
    refine g_get hC (kf := 1) (TT := TX1) (N := 2) (Cn := RX1) dX1_holdsInside_11 hL_a h0 rfl q_u1 (by decide) q_fl_X1_13 rfl rfl ?_
    refine g_dcmpg_ge hC 22 dX1_holdsInside_14 dX1_holdsInside_15 (by decide) (fun c2 => ?_) (fun c2 => ?_)
    · skip
      refine g_iconst hC 0 dX1_holdsInside_22 (by decide) ?_
      exact g_iret hC dX1_holdsInside_23 rfl rfl ⟨by simp [bI, inS, c1, c2], rfl, rfl⟩ (Nat.zero_le _) (Nat.zero_le _)
    · skip
      refine g_iconst hC 1 dX1_holdsInside_18 (by decide) ?_
      refine g_goto hC 23 dX1_holdsInside_19 (by decide) ?_
      exact g_iret hC dX1_holdsInside_23 rfl rfl ⟨by simp [bI, inS, c1, c2], rfl, rfl⟩ (Nat.zero_le _) (Nat.zero_le _)
set_option maxHeartbeats 4000000 in
set_option maxRecDepth 100000 in
/-- Span.nearest(v) -/
theorem ct_X1_nearest (l : Launch) (G : GD) (L : List Nat) (f : Nat → va_E) (a : Nat) (lo hi v : UInt64) (hL_a : a ∈ L) (h0 : f a = eSp lo hi) : Ctr l yX1_nearest cX1_nearest 3 (some .double) R00 G [.ref a, .double v] L f (fun vv L1 f1 => ∃ r : UInt64, vv = some (.double r) ∧ dv r = nearS (dv v) (dv lo) (dv hi) ∧ L = L1 ∧ f = f1) := by
  refine g_enter RX1 false (by decide) rfl (fun h => by cases h) (Nat.le_of_ble_eq_true rfl) (fun C hC => ?_)
  refine (show V C 3 L f 0 0 0 [(0, .ref a), (1, .double v)] [] from ?_)
  refine g_dload_n hC dX1_nearest_0 1 rfl ?_
  refine g_aload_n hC dX1_nearest_1 0 rfl ?_
  refine g_get hC (kf := 0) (TT := TX1) (N := 2) (Cn := RX1) dX1_nearest_2 hL_a h0 rfl q_u1 (by decide) q_fl_X1_7 rfl rfl ?_
  refine g_dcmpg_ge hC 16 dX1_nearest_5 dX1_nearest_6 (by decide) (fun c1 => ?_) (fun c1 => ?_)
  · skip
    refine g_dload_n hC dX1_nearest_16 1 rfl ?_
    refine g_aload_n hC dX1_nearest_17 0 rfl ?_
    refine g_get hC (kf := 1) (TT := TX1) (N := 2) (Cn := RX1) dX1_nearest_18 hL_a h0 rfl q_u1 (by decide) q_fl_X1_13 rfl rfl ?_
    refine g_dcmpl_le hC 32 dX1_nearest_21 dX1_nearest_22 (by decide) (fun c2 => ?_) (fun c2 => ?_)
    · skip
      refine g_dload_n hC dX1_nearest_32 1 rfl ?_
      exact g_dret hC dX1_nearest_33 rfl ⟨_, rfl, by simp [nearS, c1, c2], rfl, rfl⟩ (Nat.zero_le _) (Nat.zero_le _)
    · skip
      refine g_aload_n hC dX1_nearest_25 0 rfl ?_
      refine g_get hC (kf := 1) (TT := TX1) (N := 2) (Cn := RX1) dX1_nearest_26 hL_a h0 rfl q_u1 (by decide) q_fl_X1_13 rfl rfl ?_
      refine g_goto hC 33 dX1_nearest_29 (by decide) ?_
      exact g_dret hC dX1_nearest_33 rfl ⟨_, rfl, by simp [nearS, c1, c2], rfl, rfl⟩ (Nat.zero_le _) (Nat.zero_le _)
  · skip
    refine g_aload_n hC dX1_nearest_9 0 rfl ?_
    refine g_get hC (kf := 0) (TT := TX1) (N := 2) (Cn := RX1) dX1_nearest_10 hL_a h0 rfl q_u1 (by decide) q_fl_X1_7 rfl rfl ?_
    refine g_goto hC 33 dX1_nearest_13 (by decide) ?_
    exact g_dret hC dX1_nearest_33 rfl ⟨_, rfl, by simp [nearS, c1], rfl, rfl⟩ (Nat.zero_le _) (Nat.zero_le _)
set_option maxHeartbeats 4000000 in
set_option maxRecDepth 100000 in
/-- Span.set(low, high) -/
theorem ct_X1_set (l : Launch) (G : GD) (L : List Nat) (f : Nat → va_E) (a : Nat) (lo hi v w : UInt64) (hL_a : a ∈ L) (h0 : f a = eSp lo hi) : Ctr l yX1_set cX1_set 5 none R00 G [.ref a, .double v, .double w] L f (fun vv L1 f1 => vv = none ∧ L = L1 ∧ f1 = va_up f a (eSp v w)) := by
  refine g_enter RX1 false (by decide) rfl (fun h => by cases h) (Nat.le_of_ble_eq_true rfl) (fun C hC => ?_)
  refine (show V C 5 L f 0 0 0 [(0, .ref a), (1, .double v), (3, .double w)] [] from ?_)
  refine g_aload_n hC dX1_set_0 0 rfl ?_
  refine g_dload_n hC dX1_set_1 1 rfl ?_
  refine g_put hC (kf := 0) (TT := TX1) (N := 2) (Cn := RX1) (ty0 := tyX1) (fs1 := [.double v, .double hi]) dX1_set_2 hL_a h0 rfl q_u1 (by decide) tyX1_ok nmX1 q_fl_X1_7 rfl rfl rfl rfl rfl (Nat.le_of_ble_eq_true rfl) rfl ?_
  refine g_nm (fun f1 hf2 => ?_)
  have hx3 : f1 a = .inr (1, [.double v, .double hi]) := by rw [hf2]; exact va_up_self _ _ _
  have hF4 : f1 = va_up f a (.inr (1, [.double v, .double hi])) := hf2
  refine g_aload_n hC dX1_set_5 0 rfl ?_
  refine g_dload_n hC dX1_set_6 2 rfl ?_
  refine g_put hC (kf := 1) (TT := TX1) (N := 2) (Cn := RX1) (ty0 := tyX1) (fs1 := [.double v, .double w]) dX1_set_7 hL_a hx3 rfl q_u1 (by decide) tyX1_ok nmX1 q_fl_X1_13 rfl rfl rfl rfl rfl (Nat.le_of_ble_eq_true rfl) rfl ?_
  refine g_nm (fun f5 hf6 => ?_)
  have hx7 : f5 a = .inr (1, [.double v, .double w]) := by rw [hf6]; exact va_up_self _ _ _
  have hF8 : f5 = va_up f a (.inr (1, [.double v, .double w])) := by rw [hf6, hF4, va_up_up]
  exact g_vret hC dX1_set_10 rfl ⟨rfl, rfl, hF8⟩ (Nat.zero_le _) (Nat.zero_le _)
set_option maxHeartbeats 4000000 in
set_option maxRecDepth 100000 in
/-- Span(low, high) -/
theorem ct_X1_init (l : Launch) (G : GD) (L : List Nat) (f : Nat → va_E) (a : Nat) (lo hi v w : UInt64) (hL_a : a ∈ L) (h0 : f a = eSp lo hi) : Ctr l yX1_init cX1_init 5 none { frames := 1, cells := 0, slots := 0, locals := 12 } G [.ref a, .double v, .double w] L f (fun vv L1 f1 => vv = none ∧ L = L1 ∧ f1 = va_up f a (eSp v w)) := by
  refine g_enter RX1 true (by decide) rfl (fun _ => rfl) (Nat.le_of_ble_eq_true rfl) (fun C hC => ?_)
  refine (show V C 5 L f 0 0 0 [(0, .ref a), (1, .double v), (3, .double w)] [] from ?_)
  refine g_aload_n hC dX1_init_0 0 rfl ?_
  refine g_objInit hC dX1_init_1 q_ml_X1_1 (by decide) (by decide) ?_
  refine g_aload_n hC dX1_init_4 0 rfl ?_
  refine g_dload_n hC dX1_init_5 1 rfl ?_
  refine g_put hC (kf := 0) (TT := TX1) (N := 2) (Cn := RX1) (ty0 := tyX1) (fs1 := [.double v, .double hi]) dX1_init_6 hL_a h0 rfl q_u1 (by decide) tyX1_ok nmX1 q_fl_X1_7 rfl rfl rfl rfl rfl (Nat.le_of_ble_eq_true rfl) rfl ?_
  refine g_nm (fun f1 hf2 => ?_)
  have hx3 : f1 a = .inr (1, [.double v, .double hi]) := by rw [hf2]; exact va_up_self _ _ _
  have hF4 : f1 = va_up f a (.inr (1, [.double v, .double hi])) := hf2
  refine g_aload_n hC dX1_init_9 0 rfl ?_
  refine g_dload_n hC dX1_init_10 2 rfl ?_
  refine g_put hC (kf := 1) (TT := TX1) (N := 2) (Cn := RX1) (ty0 := tyX1) (fs1 := [.double v, .double w]) dX1_init_11 hL_a hx3 rfl q_u1 (by decide) tyX1_ok nmX1 q_fl_X1_13 rfl rfl rfl rfl rfl (Nat.le_of_ble_eq_true rfl) rfl ?_
  refine g_nm (fun f5 hf6 => ?_)
  have hx7 : f5 a = .inr (1, [.double v, .double w]) := by rw [hf6]; exact va_up_self _ _ _
  have hF8 : f5 = va_up f a (.inr (1, [.double v, .double w])) := by rw [hf6, hF4, va_up_up]
  exact g_vret hC dX1_init_14 rfl ⟨rfl, rfl, hF8⟩ (Nat.zero_le _) (Nat.zero_le _)
end
section
/-! the loop's own methods, over data -/
def fA (z : Nat → DT) (e : DT) : DT := qadd (z 6) (qmul (z 1) e)
def fV (z : Nat → DT) (e : DT) : DT := qadd (qadd (qmul (z 0) e) (fA z e)) (qmul (z 2) (qsub e (z 7)))
def fS (z : Nat → DT) (lo hi e : DT) : DT := if ((qgt (fV z e) hi && qgt e (dv 0)) || (qlt (fV z e) lo && qlt e (dv 0))) = true then z 6 else fA z e
def fU (z : Nat → DT) (lo hi e : DT) : DT := MV (z 5) (z 3) (nearS (fV z e) lo hi)
def oU (z : Nat → DT) (lo hi bl bh e : DT) : DT := if qgt e bh = true then MV (z 5) (z 3) hi else if qlt e bl = true then MV (z 5) (z 3) lo else z 5
def tU (z : Nat → DT) (md : Int32) (lo hi bl bh e : DT) : DT := if md = 0 then MV (z 5) (z 3) (z 8) else if md = 1 then fU z lo hi e else oU z lo hi bl bh e
def tS (z : Nat → DT) (md : Int32) (lo hi e : DT) : DT := if md = 1 then fS z lo hi e else z 6
abbrev dz (x : Nat → UInt64) : Nat → DT := fun j => dv (x j)
set_option maxHeartbeats 4000000 in
set_option maxRecDepth 100000 in
/-- moveTo(w) -/
theorem ct_X0_moveTo (l : Launch) (G : GD) (L : List Nat) (f : Nat → va_E) (a lm bd rg tn : Nat) (x : Nat → UInt64) (md fa : Int32) (ou : Option Nat) (w : UInt64) (hL_a : a ∈ L) (h0 : f a = eLp x md fa lm bd rg tn ou) : Ctr l yX0_moveTo cX0_moveTo 3 none R00 G [.ref a, .double w] L f (fun vv L1 f1 => vv = none ∧ L = L1 ∧ ∃ u : UInt64, dv u = MV (dv (x 5)) (dv (x 3)) (dv w) ∧ f1 = va_up f a (eLp (va_up x 5 u) md fa lm bd rg tn ou)) := by
  refine g_enter RX0 false (by decide) rfl (fun h => by cases h) (Nat.le_of_ble_eq_true rfl) (fun C hC => ?_)
  refine (show V C 3 L f 0 0 0 [(0, .ref a), (1, .double w)] [] from ?_)
  refine g_dload_n hC dX0_moveTo_0 1 rfl ?_
  refine g_aload_n hC dX0_moveTo_1 0 rfl ?_
  refine g_get hC (kf := 9) (TT := TX0) (N := 16) (Cn := RX0) dX0_moveTo_2 hL_a h0 rfl q_u0 (by decide) q_fl_X0_65 rfl rfl ?_
  refine g_aload_n hC dX0_moveTo_5 0 rfl ?_
  refine g_get hC (kf := 7) (TT := TX0) (N := 16) (Cn := RX0) dX0_moveTo_6 hL_a h0 rfl q_u0 (by decide) q_fl_X0_41 rfl rfl ?_
  refine g_dadd hC dX0_moveTo_9 (fun r1 er1 => ?_)
  refine g_dcmpl_le hC 30 dX0_moveTo_10 dX0_moveTo_11 (by decide) (fun c2 => ?_) (fun c2 => ?_)
  · try simp only [er1] at c2
    refine g_dload_n hC dX0_moveTo_30 1 rfl ?_
    refine g_aload_n hC dX0_moveTo_31 0 rfl ?_
    refine g_get hC (kf := 9) (TT := TX0) (N := 16) (Cn := RX0) dX0_moveTo_32 hL_a h0 rfl q_u0 (by decide) q_fl_X0_65 rfl rfl ?_
    refine g_aload_n hC dX0_moveTo_35 0 rfl ?_
    refine g_get hC (kf := 7) (TT := TX0) (N := 16) (Cn := RX0) dX0_moveTo_36 hL_a h0 rfl q_u0 (by decide) q_fl_X0_41 rfl rfl ?_
    refine g_dsub hC dX0_moveTo_39 (fun r3 er3 => ?_)
    refine g_dcmpg_ge hC 60 dX0_moveTo_40 dX0_moveTo_41 (by decide) (fun c4 => ?_) (fun c4 => ?_)
    · try simp only [er1, er3] at c4
      refine g_aload_n hC dX0_moveTo_60 0 rfl ?_
      refine g_dload_n hC dX0_moveTo_61 1 rfl ?_
      refine g_put hC (kf := 9) (TT := TX0) (N := 16) (Cn := RX0) (ty0 := tyX0) (fs1 := [.double (x 0), .double (x 1), .double (x 2), .ref lm, .ref bd, .ref rg, .ref tn, .double (x 3), .double (x 4), .double w, .double (x 6), .double (x 7), .double (x 8), .int md, .int fa, va_rf ou]) dX0_moveTo_62 hL_a h0 rfl q_u0 (by decide) tyX0_ok nmX0 q_fl_X0_65 rfl rfl rfl rfl rfl (Nat.le_of_ble_eq_true rfl) rfl ?_
      refine g_nm (fun f5 hf6 => ?_)
      have hx7 : f5 a = .inr (0, [.double (x 0), .double (x 1), .double (x 2), .ref lm, .ref bd, .ref rg, .ref tn, .double (x 3), .double (x 4), .double w, .double (x 6), .double (x 7), .double (x 8), .int md, .int fa, va_rf ou]) := by rw [hf6]; exact va_up_self _ _ _
      have hF8 : f5 = va_up f a (.inr (0, [.double (x 0), .double (x 1), .double (x 2), .ref lm, .ref bd, .ref rg, .ref tn, .double (x 3), .double (x 4), .double w, .double (x 6), .double (x 7), .double (x 8), .int md, .int fa, va_rf ou])) := hf6
      exact g_vret hC dX0_moveTo_65 rfl ⟨rfl, rfl, w, by simp [MV, c2, c4, er1, er3], hF8⟩ (Nat.zero_le _) (Nat.zero_le _)
    · try simp only [er1, er3] at c4
      refine g_aload_n hC dX0_moveTo_44 0 rfl ?_
      refine g_aload_n hC dX0_moveTo_45 0 rfl ?_
      refine g_get hC (kf := 9) (TT := TX0) (N := 16) (Cn := RX0) dX0_moveTo_46 hL_a h0 rfl q_u0 (by decide) q_fl_X0_65 rfl rfl ?_
      refine g_aload_n hC dX0_moveTo_49 0 rfl ?_
      refine g_get hC (kf := 7) (TT := TX0) (N := 16) (Cn := RX0) dX0_moveTo_50 hL_a h0 rfl q_u0 (by decide) q_fl_X0_41 rfl rfl ?_
      refine g_dsub hC dX0_moveTo_53 (fun r9 er9 => ?_)
      refine g_put hC (kf := 9) (TT := TX0) (N := 16) (Cn := RX0) (ty0 := tyX0) (fs1 := [.double (x 0), .double (x 1), .double (x 2), .ref lm, .ref bd, .ref rg, .ref tn, .double (x 3), .double (x 4), .double r9, .double (x 6), .double (x 7), .double (x 8), .int md, .int fa, va_rf ou]) dX0_moveTo_54 hL_a h0 rfl q_u0 (by decide) tyX0_ok nmX0 q_fl_X0_65 rfl rfl rfl rfl rfl (Nat.le_of_ble_eq_true rfl) rfl ?_
      refine g_nm (fun f10 hf11 => ?_)
      have hx12 : f10 a = .inr (0, [.double (x 0), .double (x 1), .double (x 2), .ref lm, .ref bd, .ref rg, .ref tn, .double (x 3), .double (x 4), .double r9, .double (x 6), .double (x 7), .double (x 8), .int md, .int fa, va_rf ou]) := by rw [hf11]; exact va_up_self _ _ _
      have hF13 : f10 = va_up f a (.inr (0, [.double (x 0), .double (x 1), .double (x 2), .ref lm, .ref bd, .ref rg, .ref tn, .double (x 3), .double (x 4), .double r9, .double (x 6), .double (x 7), .double (x 8), .int md, .int fa, va_rf ou])) := hf11
      refine g_goto hC 65 dX0_moveTo_57 (by decide) ?_
      exact g_vret hC dX0_moveTo_65 rfl ⟨rfl, rfl, r9, by simp [MV, c2, c4, er1, er3, er9], hF13⟩ (Nat.zero_le _) (Nat.zero_le _)
  · try simp only [er1] at c2
    refine g_aload_n hC dX0_moveTo_14 0 rfl ?_
    refine g_aload_n hC dX0_moveTo_15 0 rfl ?_
    refine g_get hC (kf := 9) (TT := TX0) (N := 16) (Cn := RX0) dX0_moveTo_16 hL_a h0 rfl q_u0 (by decide) q_fl_X0_65 rfl rfl ?_
    refine g_aload_n hC dX0_moveTo_19 0 rfl ?_
    refine g_get hC (kf := 7) (TT := TX0) (N := 16) (Cn := RX0) dX0_moveTo_20 hL_a h0 rfl q_u0 (by decide) q_fl_X0_41 rfl rfl ?_
    refine g_dadd hC dX0_moveTo_23 (fun r14 er14 => ?_)
    refine g_put hC (kf := 9) (TT := TX0) (N := 16) (Cn := RX0) (ty0 := tyX0) (fs1 := [.double (x 0), .double (x 1), .double (x 2), .ref lm, .ref bd, .ref rg, .ref tn, .double (x 3), .double (x 4), .double r14, .double (x 6), .double (x 7), .double (x 8), .int md, .int fa, va_rf ou]) dX0_moveTo_24 hL_a h0 rfl q_u0 (by decide) tyX0_ok nmX0 q_fl_X0_65 rfl rfl rfl rfl rfl (Nat.le_of_ble_eq_true rfl) rfl ?_
    refine g_nm (fun f15 hf16 => ?_)
    have hx17 : f15 a = .inr (0, [.double (x 0), .double (x 1), .double (x 2), .ref lm, .ref bd, .ref rg, .ref tn, .double (x 3), .double (x 4), .double r14, .double (x 6), .double (x 7), .double (x 8), .int md, .int fa, va_rf ou]) := by rw [hf16]; exact va_up_self _ _ _
    have hF18 : f15 = va_up f a (.inr (0, [.double (x 0), .double (x 1), .double (x 2), .ref lm, .ref bd, .ref rg, .ref tn, .double (x 3), .double (x 4), .double r14, .double (x 6), .double (x 7), .double (x 8), .int md, .int fa, va_rf ou])) := hf16
    refine g_goto hC 65 dX0_moveTo_27 (by decide) ?_
    exact g_vret hC dX0_moveTo_65 rfl ⟨rfl, rfl, r14, by simp [MV, c2, er1, er14], hF18⟩ (Nat.zero_le _) (Nat.zero_le _)
theorem va_up_id {α : Type} {f : Nat → α} {k : Nat} {v : α} (h : f k = v) : va_up f k v = f := by
  funext j
  unfold va_up
  split
  · rename_i h1
    rw [h1, h]
  · rfl
set_option maxHeartbeats 4000000 in
set_option maxRecDepth 100000 in
/-- switchOnOrOff(e) -/
theorem ct_X0_switchOnOrOff (l : Launch) (G : GD) (L : List Nat) (f : Nat → va_E) (a lm bd rg tn : Nat) (x : Nat → UInt64) (md fa : Int32) (ou : Option Nat) (lo hi bl bh : UInt64) (e : UInt64) (hL_a : a ∈ L) (h0 : f a = eLp x md fa lm bd rg tn ou) (hL_lm : lm ∈ L) (hL_bd : bd ∈ L) (h1 : f lm = eSp lo hi) (h2 : f bd = eSp bl bh) : Ctr l yX0_switchOnOrOff cX0_switchOnOrOff 3 none { frames := 1, cells := 0, slots := 0, locals := 22 } G [.ref a, .double e] L f (fun vv L1 f1 => vv = none ∧ L = L1 ∧ ∃ u : UInt64, dv u = oU (dz x) (dv lo) (dv hi) (dv bl) (dv bh) (dv e) ∧ f1 = va_up f a (eLp (va_up x 5 u) md fa lm bd rg tn ou)) := by
  refine g_enter RX0 false (by decide) rfl (fun h => by cases h) (Nat.le_of_ble_eq_true rfl) (fun C hC => ?_)
  refine (show V C 3 L f 0 0 0 [(0, .ref a), (1, .double e)] [] from ?_)
  refine g_dload_n hC dX0_switchOnOrOff_0 1 rfl ?_
  refine g_aload_n hC dX0_switchOnOrOff_1 0 rfl ?_
  refine g_get hC (kf := 4) (TT := TX0) (N := 16) (Cn := RX0) dX0_switchOnOrOff_2 hL_a h0 rfl q_u0 (by decide) q_fl_X0_24 rfl rfl ?_
  refine g_getN hC (kf := 1) (TT := TX1) (N := 2) (Cn := RX1) dX0_switchOnOrOff_5 hL_bd h2 rfl q_u1 (by decide) q_fn_X0_94 rfl rfl ?_
  refine g_dcmpl_le hC 26 dX0_switchOnOrOff_8 dX0_switchOnOrOff_9 (by decide) (fun c1 => ?_) (fun c1 => ?_)
  · skip
    refine g_dload_n hC dX0_switchOnOrOff_26 1 rfl ?_
    refine g_aload_n hC dX0_switchOnOrOff_27 0 rfl ?_
    refine g_get hC (kf := 4) (TT := TX0) (N := 16) (Cn := RX0) dX0_switchOnOrOff_28 hL_a h0 rfl q_u0 (by decide) q_fl_X0_24 rfl rfl ?_
    refine g_getN hC (kf := 0) (TT := TX1) (N := 2) (Cn := RX1) dX0_switchOnOrOff_31 hL_bd h2 rfl q_u1 (by decide) q_fn_X0_97 rfl rfl ?_
    refine g_dcmpg_ge hC 49 dX0_switchOnOrOff_34 dX0_switchOnOrOff_35 (by decide) (fun c2 => ?_) (fun c2 => ?_)
    · skip
      exact g_vret hC dX0_switchOnOrOff_49 rfl ⟨rfl, rfl, x 5, by simp [dz, va_up, oU, c1, c2], (va_up_id h0).symm⟩ (Nat.zero_le _) (Nat.zero_le _)
    · skip
      refine g_aload_n hC dX0_switchOnOrOff_38 0 rfl ?_
      refine g_aload_n hC dX0_switchOnOrOff_39 0 rfl ?_
      refine g_get hC (kf := 3) (TT := TX0) (N := 16) (Cn := RX0) dX0_switchOnOrOff_40 hL_a h0 rfl q_u0 (by decide) q_fl_X0_16 rfl rfl ?_
      refine g_getN hC (kf := 0) (TT := TX1) (N := 2) (Cn := RX1) dX0_switchOnOrOff_43 hL_lm h1 rfl q_u1 (by decide) q_fn_X0_97 rfl rfl ?_
      refine g_callV hC (Cn := RX0) (TT := TX0) (N := 16) dX0_switchOnOrOff_46 (ct_X0_moveTo l G L f a lm bd rg tn (x) md fa ou lo hL_a h0) q_code_X0_moveTo q_ml_X0_78 q_im_X0_moveTo q_sel_X0_moveTo q_init_X0 ⟨rfl, by decide, by decide, (show (parseMethodDescriptor yX0_moveTo.desc).map (fun d => d.parameters.length) = some 1 from by decide +kernel)⟩ hL_a h0 rfl (by decide) (by decide) (Nat.le_of_ble_eq_true rfl) (fun v4 L5 f6 hp3 => ?_)
      obtain ⟨rfl, rfl, u7, hu8, hf9⟩ := hp3
      have hf9x : f6 = va_up f a (.inr (0, [.double (x 0), .double (x 1), .double (x 2), .ref lm, .ref bd, .ref rg, .ref tn, .double (x 3), .double (x 4), .double u7, .double (x 6), .double (x 7), .double (x 8), .int md, .int fa, va_rf ou])) := hf9
      have hx10 : f6 a = .inr (0, [.double (x 0), .double (x 1), .double (x 2), .ref lm, .ref bd, .ref rg, .ref tn, .double (x 3), .double (x 4), .double u7, .double (x 6), .double (x 7), .double (x 8), .int md, .int fa, va_rf ou]) := by rw [hf9x]; exact va_up_self _ _ _
      have hx11 : f6 lm = .inr (1, [.double lo, .double hi]) := by rw [hf9x, va_up_ne _ _ (fun z => by have z1 := h1; rw [z, h0] at z1; simp at z1)]; exact h1
      have hx12 : f6 bd = .inr (1, [.double bl, .double bh]) := by rw [hf9x, va_up_ne _ _ (fun z => by have z1 := h2; rw [z, h0] at z1; simp at z1)]; exact h2
      have hF13 : f6 = va_up f a (.inr (0, [.double (x 0), .double (x 1), .double (x 2), .ref lm, .ref bd, .ref rg, .ref tn, .double (x 3), .double (x 4), .double u7, .double (x 6), .double (x 7), .double (x 8), .int md, .int fa, va_rf ou])) := hf9x
      refine (show V C 3 L f6 0 0 49 [(0, .ref a), (1, .double e)] [] from ?_)
      exact g_vret hC dX0_switchOnOrOff_49 rfl ⟨rfl, rfl, u7, by simp [dz, va_up, oU, c1, c2, hu8], hF13⟩ (Nat.zero_le _) (Nat.zero_le _)
  · skip
    refine g_aload_n hC dX0_switchOnOrOff_12 0 rfl ?_
    refine g_aload_n hC dX0_switchOnOrOff_13 0 rfl ?_
    refine g_get hC (kf := 3) (TT := TX0) (N := 16) (Cn := RX0) dX0_switchOnOrOff_14 hL_a h0 rfl q_u0 (by decide) q_fl_X0_16 rfl rfl ?_
    refine g_getN hC (kf := 1) (TT := TX1) (N := 2) (Cn := RX1) dX0_switchOnOrOff_17 hL_lm h1 rfl q_u1 (by decide) q_fn_X0_94 rfl rfl ?_
    refine g_callV hC (Cn := RX0) (TT := TX0) (N := 16) dX0_switchOnOrOff_20 (ct_X0_moveTo l G L f a lm bd rg tn (x) md fa ou hi hL_a h0) q_code_X0_moveTo q_ml_X0_78 q_im_X0_moveTo q_sel_X0_moveTo q_init_X0 ⟨rfl, by decide, by decide, (show (parseMethodDescriptor yX0_moveTo.desc).map (fun d => d.parameters.length) = some 1 from by decide +kernel)⟩ hL_a h0 rfl (by decide) (by decide) (Nat.le_of_ble_eq_true rfl) (fun v15 L16 f17 hp14 => ?_)
    obtain ⟨rfl, rfl, u18, hu19, hf20⟩ := hp14
    have hf20x : f17 = va_up f a (.inr (0, [.double (x 0), .double (x 1), .double (x 2), .ref lm, .ref bd, .ref rg, .ref tn, .double (x 3), .double (x 4), .double u18, .double (x 6), .double (x 7), .double (x 8), .int md, .int fa, va_rf ou])) := hf20
    have hx21 : f17 a = .inr (0, [.double (x 0), .double (x 1), .double (x 2), .ref lm, .ref bd, .ref rg, .ref tn, .double (x 3), .double (x 4), .double u18, .double (x 6), .double (x 7), .double (x 8), .int md, .int fa, va_rf ou]) := by rw [hf20x]; exact va_up_self _ _ _
    have hx22 : f17 lm = .inr (1, [.double lo, .double hi]) := by rw [hf20x, va_up_ne _ _ (fun z => by have z1 := h1; rw [z, h0] at z1; simp at z1)]; exact h1
    have hx23 : f17 bd = .inr (1, [.double bl, .double bh]) := by rw [hf20x, va_up_ne _ _ (fun z => by have z1 := h2; rw [z, h0] at z1; simp at z1)]; exact h2
    have hF24 : f17 = va_up f a (.inr (0, [.double (x 0), .double (x 1), .double (x 2), .ref lm, .ref bd, .ref rg, .ref tn, .double (x 3), .double (x 4), .double u18, .double (x 6), .double (x 7), .double (x 8), .int md, .int fa, va_rf ou])) := hf20x
    refine (show V C 3 L f17 0 0 23 [(0, .ref a), (1, .double e)] [] from ?_)
    refine g_goto hC 49 dX0_switchOnOrOff_23 (by decide) ?_
    exact g_vret hC dX0_switchOnOrOff_49 rfl ⟨rfl, rfl, u18, by simp [dz, va_up, oU, c1, hu19], hF24⟩ (Nat.zero_le _) (Nat.zero_le _)
set_option maxHeartbeats 4000000 in
set_option maxRecDepth 100000 in
/-- followLaw(e) -/
theorem ct_X0_followLaw (l : Launch) (G : GD) (L : List Nat) (f : Nat → va_E) (a lm bd rg tn : Nat) (x : Nat → UInt64) (md fa : Int32) (ou : Option Nat) (lo hi : UInt64) (e : UInt64) (hL_a : a ∈ L) (h0 : f a = eLp x md fa lm bd rg tn ou) (hL_lm : lm ∈ L) (h1 : f lm = eSp lo hi) : Ctr l yX0_followLaw cX0_followLaw 9 none { frames := 1, cells := 0, slots := 0, locals := 22 } G [.ref a, .double e] L f (fun vv L1 f1 => vv = none ∧ L = L1 ∧ ∃ u s : UInt64, dv u = fU (dz x) (dv lo) (dv hi) (dv e) ∧ dv s = fS (dz x) (dv lo) (dv hi) (dv e) ∧ f1 = va_up f a (eLp (va_up (va_up x 6 s) 5 u) md fa lm bd rg tn ou)) := by
  refine g_enter RX0 false (by decide) rfl (fun h => by cases h) (Nat.le_of_ble_eq_true rfl) (fun C hC => ?_)
  refine (show V C 9 L f 0 0 0 [(0, .ref a), (1, .double e)] [] from ?_)
  refine g_aload_n hC dX0_followLaw_0 0 rfl ?_
  refine g_get hC (kf := 10) (TT := TX0) (N := 16) (Cn := RX0) dX0_followLaw_1 hL_a h0 rfl q_u0 (by decide) q_fl_X0_91 rfl rfl ?_
  refine g_aload_n hC dX0_followLaw_4 0 rfl ?_
  refine g_get hC (kf := 1) (TT := TX0) (N := 16) (Cn := RX0) dX0_followLaw_5 hL_a h0 rfl q_u0 (by decide) q_fl_X0_52 rfl rfl ?_
  refine g_dload_n hC dX0_followLaw_8 1 rfl ?_
  refine g_dmul hC dX0_followLaw_9 (fun r1 er1 => ?_)
  refine g_dadd hC dX0_followLaw_10 (fun r2 er2 => ?_)
  try simp only [er1] at er2
  refine g_dstore_n hC (lv1 := [(3, .double r2), (0, .ref a), (1, .double e)]) dX0_followLaw_11 (by decide) rfl ?_
  refine g_aload_n hC dX0_followLaw_12 1 rfl ?_
  refine g_get hC (kf := 0) (TT := TX0) (N := 16) (Cn := RX0) dX0_followLaw_13 hL_a h0 rfl q_u0 (by decide) q_fl_X0_49 rfl rfl ?_
  refine g_dload_n hC dX0_followLaw_16 2 rfl ?_
  refine g_dmul hC dX0_followLaw_17 (fun r3 er3 => ?_)
  refine g_dload_n hC dX0_followLaw_18 0 rfl ?_
  refine g_dadd hC dX0_followLaw_19 (fun r4 er4 => ?_)
  try simp only [er1, er2, er3] at er4
  refine g_aload_n hC dX0_followLaw_20 1 rfl ?_
  refine g_get hC (kf := 2) (TT := TX0) (N := 16) (Cn := RX0) dX0_followLaw_21 hL_a h0 rfl q_u0 (by decide) q_fl_X0_55 rfl rfl ?_
  refine g_dload_n hC dX0_followLaw_24 2 rfl ?_
  refine g_aload_n hC dX0_followLaw_25 1 rfl ?_
  refine g_get hC (kf := 11) (TT := TX0) (N := 16) (Cn := RX0) dX0_followLaw_26 hL_a h0 rfl q_u0 (by decide) q_fl_X0_88 rfl rfl ?_
  refine g_dsub hC dX0_followLaw_29 (fun r5 er5 => ?_)
  refine g_dmul hC dX0_followLaw_30 (fun r6 er6 => ?_)
  try simp only [er1, er2, er3, er4, er5] at er6
  refine g_dadd hC dX0_followLaw_31 (fun r7 er7 => ?_)
  try simp only [er1, er2, er3, er4, er5, er6] at er7
  refine g_dstore hC (lv1 := [(5, .double r7), (3, .double r2), (0, .ref a), (1, .double e)]) dX0_followLaw_32 (by decide) rfl ?_
  refine g_dload hC dX0_followLaw_34 0 rfl ?_
  refine g_aload_n hC dX0_followLaw_36 2 rfl ?_
  refine g_get hC (kf := 3) (TT := TX0) (N := 16) (Cn := RX0) dX0_followLaw_37 hL_a h0 rfl q_u0 (by decide) q_fl_X0_16 rfl rfl ?_
  refine g_getN hC (kf := 1) (TT := TX1) (N := 2) (Cn := RX1) dX0_followLaw_40 hL_lm h1 rfl q_u1 (by decide) q_fn_X0_94 rfl rfl ?_
  refine g_dcmpl_le hC 57 dX0_followLaw_43 dX0_followLaw_44 (by decide) (fun c8 => ?_) (fun c8 => ?_)
  · try simp only [er1, er2, er3, er4, er5, er6, er7] at c8
    refine g_iconst hC 0 dX0_followLaw_57 (by decide) ?_
    refine g_istore hC (lv1 := [(7, .int 0), (5, .double r7), (3, .double r2), (0, .ref a), (1, .double e)]) dX0_followLaw_58 (by decide) rfl ?_
    refine g_dload hC dX0_followLaw_60 1 rfl ?_
    refine g_aload_n hC dX0_followLaw_62 3 rfl ?_
    refine g_get hC (kf := 3) (TT := TX0) (N := 16) (Cn := RX0) dX0_followLaw_63 hL_a h0 rfl q_u0 (by decide) q_fl_X0_16 rfl rfl ?_
    refine g_getN hC (kf := 0) (TT := TX1) (N := 2) (Cn := RX1) dX0_followLaw_66 hL_lm h1 rfl q_u1 (by decide) q_fn_X0_97 rfl rfl ?_
    refine g_dcmpg_ge hC 83 dX0_followLaw_69 dX0_followLaw_70 (by decide) (fun c9 => ?_) (fun c9 => ?_)
    · try simp only [er1, er2, er3, er4, er5, er6, er7] at c9
      refine g_iconst hC 0 dX0_followLaw_83 (by decide) ?_
      refine g_istore hC (lv1 := [(8, .int 0), (7, .int 0), (5, .double r7), (3, .double r2), (0, .ref a), (1, .double e)]) dX0_followLaw_84 (by decide) rfl ?_
      refine g_iload hC dX0_followLaw_86 1 rfl ?_
      refine g_if_ne hC 101 dX0_followLaw_88 (by decide) (fun c => absurd c (by decide)) (fun _ => ?_)
      refine g_iload hC dX0_followLaw_91 0 rfl ?_
      refine g_if_ne hC 101 dX0_followLaw_93 (by decide) (fun c => absurd c (by decide)) (fun _ => ?_)
      refine g_aload_n hC dX0_followLaw_96 4 rfl ?_
      refine g_dload_n hC dX0_followLaw_97 3 rfl ?_
      refine g_put hC (kf := 10) (TT := TX0) (N := 16) (Cn := RX0) (ty0 := tyX0) (fs1 := [.double (x 0), .double (x 1), .double (x 2), .ref lm, .ref bd, .ref rg, .ref tn, .double (x 3), .double (x 4), .double (x 5), .double r2, .double (x 7), .double (x 8), .int md, .int fa, va_rf ou]) dX0_followLaw_98 hL_a h0 rfl q_u0 (by decide) tyX0_ok nmX0 q_fl_X0_91 rfl rfl rfl rfl rfl (Nat.le_of_ble_eq_true rfl) rfl ?_
      refine g_nm (fun f10 hf11 => ?_)
      have hx12 : f10 a = .inr (0, [.double (x 0), .double (x 1), .double (x 2), .ref lm, .ref bd, .ref rg, .ref tn, .double (x 3), .double (x 4), .double (x 5), .double r2, .double (x 7), .double (x 8), .int md, .int fa, va_rf ou]) := by rw [hf11]; exact va_up_self _ _ _
      have hx13 : f10 lm = .inr (1, [.double lo, .double hi]) := by rw [hf11, va_up_ne _ _ (fun z => by have z1 := h1; rw [z, h0] at z1; simp at z1)]; exact h1
      have hF14 : f10 = va_up f a (.inr (0, [.double (x 0), .double (x 1), .double (x 2), .ref lm, .ref bd, .ref rg, .ref tn, .double (x 3), .double (x 4), .double (x 5), .double r2, .double (x 7), .double (x 8), .int md, .int fa, va_rf ou])) := hf11
      refine g_aload_n hC dX0_followLaw_101 4 rfl ?_
      refine g_aload_n hC dX0_followLaw_102 4 rfl ?_
      refine g_get hC (kf := 3) (TT := TX0) (N := 16) (Cn := RX0) dX0_followLaw_103 hL_a hx12 rfl q_u0 (by decide) q_fl_X0_16 rfl rfl ?_
      refine g_dload hC dX0_followLaw_106 2 rfl ?_
      refine g_callV hC (Cn := RX1) (TT := TX1) (N := 2) dX0_followLaw_108 (ct_X1_nearest l G L f10 lm lo hi r7 hL_lm hx13) q_code_X1_nearest q_ml_X0_100 q_im_X1_nearest q_sel_X1_nearest q_init_X1 ⟨rfl, by decide, by decide, (show (parseMethodDescriptor yX1_nearest.desc).map (fun d => d.parameters.length) = some 1 from by decide +kernel)⟩ hL_lm hx13 rfl (by decide) (by decide) (Nat.le_of_ble_eq_true rfl) (fun v16 L17 f18 hp15 => ?_)
      obtain ⟨r19, rfl, hr20, rfl, rfl⟩ := hp15
      refine (show V C 9 L f10 0 0 111 [(8, .int 0), (7, .int 0), (5, .double r7), (3, .double r2), (0, .ref a), (1, .double e)] [.double r19, .ref a] from ?_)
      refine g_callV hC (Cn := RX0) (TT := TX0) (N := 16) dX0_followLaw_111 (ct_X0_moveTo l G L f10 a lm bd rg tn (va_up x 6 r2) md fa ou r19 hL_a hx12) q_code_X0_moveTo q_ml_X0_78 q_im_X0_moveTo q_sel_X0_moveTo q_init_X0 ⟨rfl, by decide, by decide, (show (parseMethodDescriptor yX0_moveTo.desc).map (fun d => d.parameters.length) = some 1 from by decide +kernel)⟩ hL_a hx12 rfl (by decide) (by decide) (Nat.le_of_ble_eq_true rfl) (fun v22 L23 f24 hp21 => ?_)
      obtain ⟨rfl, rfl, u25, hu26, hf27⟩ := hp21
      have hf27x : f24 = va_up f10 a (.inr (0, [.double (x 0), .double (x 1), .double (x 2), .ref lm, .ref bd, .ref rg, .ref tn, .double (x 3), .double (x 4), .double u25, .double r2, .double (x 7), .double (x 8), .int md, .int fa, va_rf ou])) := hf27
      have hx28 : f24 a = .inr (0, [.double (x 0), .double (x 1), .double (x 2), .ref lm, .ref bd, .ref rg, .ref tn, .double (x 3), .double (x 4), .double u25, .double r2, .double (x 7), .double (x 8), .int md, .int fa, va_rf ou]) := by rw [hf27x]; exact va_up_self _ _ _
      have hx29 : f24 lm = .inr (1, [.double lo, .double hi]) := by rw [hf27x, va_up_ne _ _ (fun z => by have z1 := hx13; rw [z, hx12] at z1; simp at z1)]; exact hx13
      have hF30 : f24 = va_up f a (.inr (0, [.double (x 0), .double (x 1), .double (x 2), .ref lm, .ref bd, .ref rg, .ref tn, .double (x 3), .double (x 4), .double u25, .double r2, .double (x 7), .double (x 8), .int md, .int fa, va_rf ou])) := by rw [hf27x, hF14, va_up_up]
      refine (show V C 9 L f24 0 0 114 [(8, .int 0), (7, .int 0), (5, .double r7), (3, .double r2), (0, .ref a), (1, .double e)] [] from ?_)
      exact g_vret hC dX0_followLaw_114 rfl ⟨rfl, rfl, u25, r2, by simp [dz, va_up, fU, fV, fA, c8, c9, hr20, hu26, er1, er2, er3, er4, er5, er6, er7], by simp [dz, va_up, fS, fV, fA, c8, c9, hr20, hu26, er1, er2, er3, er4, er5, er6, er7], hF30⟩ (Nat.zero_le _) (Nat.zero_le _)
    · try simp only [er1, er2, er3, er4, er5, er6, er7] at c9
      refine g_dload_n hC dX0_followLaw_73 4 rfl ?_
      refine g_dconst0 hC dX0_followLaw_74 ?_
      refine g_dcmpg_ge hC 83 dX0_followLaw_75 dX0_followLaw_76 (by decide) (fun c31 => ?_) (fun c31 => ?_)
      · skip
        refine g_iconst hC 0 dX0_followLaw_83 (by decide) ?_
        refine g_istore hC (lv1 := [(8, .int 0), (7, .int 0), (5, .double r7), (3, .double r2), (0, .ref a), (1, .double e)]) dX0_followLaw_84 (by decide) rfl ?_
        refine g_iload hC dX0_followLaw_86 1 rfl ?_
        refine g_if_ne hC 101 dX0_followLaw_88 (by decide) (fun c => absurd c (by decide)) (fun _ => ?_)
        refine g_iload hC dX0_followLaw_91 0 rfl ?_
        refine g_if_ne hC 101 dX0_followLaw_93 (by decide) (fun c => absurd c (by decide)) (fun _ => ?_)
        refine g_aload_n hC dX0_followLaw_96 4 rfl ?_
        refine g_dload_n hC dX0_followLaw_97 3 rfl ?_
        refine g_put hC (kf := 10) (TT := TX0) (N := 16) (Cn := RX0) (ty0 := tyX0) (fs1 := [.double (x 0), .double (x 1), .double (x 2), .ref lm, .ref bd, .ref rg, .ref tn, .double (x 3), .double (x 4), .double (x 5), .double r2, .double (x 7), .double (x 8), .int md, .int fa, va_rf ou]) dX0_followLaw_98 hL_a h0 rfl q_u0 (by decide) tyX0_ok nmX0 q_fl_X0_91 rfl rfl rfl rfl rfl (Nat.le_of_ble_eq_true rfl) rfl ?_
        refine g_nm (fun f32 hf33 => ?_)
        have hx34 : f32 a = .inr (0, [.double (x 0), .double (x 1), .double (x 2), .ref lm, .ref bd, .ref rg, .ref tn, .double (x 3), .double (x 4), .double (x 5), .double r2, .double (x 7), .double (x 8), .int md, .int fa, va_rf ou]) := by rw [hf33]; exact va_up_self _ _ _
        have hx35 : f32 lm = .inr (1, [.double lo, .double hi]) := by rw [hf33, va_up_ne _ _ (fun z => by have z1 := h1; rw [z, h0] at z1; simp at z1)]; exact h1
        have hF36 : f32 = va_up f a (.inr (0, [.double (x 0), .double (x 1), .double (x 2), .ref lm, .ref bd, .ref rg, .ref tn, .double (x 3), .double (x 4), .double (x 5), .double r2, .double (x 7), .double (x 8), .int md, .int fa, va_rf ou])) := hf33
        refine g_aload_n hC dX0_followLaw_101 4 rfl ?_
        refine g_aload_n hC dX0_followLaw_102 4 rfl ?_
        refine g_get hC (kf := 3) (TT := TX0) (N := 16) (Cn := RX0) dX0_followLaw_103 hL_a hx34 rfl q_u0 (by decide) q_fl_X0_16 rfl rfl ?_
        refine g_dload hC dX0_followLaw_106 2 rfl ?_
        refine g_callV hC (Cn := RX1) (TT := TX1) (N := 2) dX0_followLaw_108 (ct_X1_nearest l G L f32 lm lo hi r7 hL_lm hx35) q_code_X1_nearest q_ml_X0_100 q_im_X1_nearest q_sel_X1_nearest q_init_X1 ⟨rfl, by decide, by decide, (show (parseMethodDescriptor yX1_nearest.desc).map (fun d => d.parameters.length) = some 1 from by decide +kernel)⟩ hL_lm hx35 rfl (by decide) (by decide) (Nat.le_of_ble_eq_true rfl) (fun v38 L39 f40 hp37 => ?_)
        obtain ⟨r41, rfl, hr42, rfl, rfl⟩ := hp37
        refine (show V C 9 L f32 0 0 111 [(8, .int 0), (7, .int 0), (5, .double r7), (3, .double r2), (0, .ref a), (1, .double e)] [.double r41, .ref a] from ?_)
        refine g_callV hC (Cn := RX0) (TT := TX0) (N := 16) dX0_followLaw_111 (ct_X0_moveTo l G L f32 a lm bd rg tn (va_up x 6 r2) md fa ou r41 hL_a hx34) q_code_X0_moveTo q_ml_X0_78 q_im_X0_moveTo q_sel_X0_moveTo q_init_X0 ⟨rfl, by decide, by decide, (show (parseMethodDescriptor yX0_moveTo.desc).map (fun d => d.parameters.length) = some 1 from by decide +kernel)⟩ hL_a hx34 rfl (by decide) (by decide) (Nat.le_of_ble_eq_true rfl) (fun v44 L45 f46 hp43 => ?_)
        obtain ⟨rfl, rfl, u47, hu48, hf49⟩ := hp43
        have hf49x : f46 = va_up f32 a (.inr (0, [.double (x 0), .double (x 1), .double (x 2), .ref lm, .ref bd, .ref rg, .ref tn, .double (x 3), .double (x 4), .double u47, .double r2, .double (x 7), .double (x 8), .int md, .int fa, va_rf ou])) := hf49
        have hx50 : f46 a = .inr (0, [.double (x 0), .double (x 1), .double (x 2), .ref lm, .ref bd, .ref rg, .ref tn, .double (x 3), .double (x 4), .double u47, .double r2, .double (x 7), .double (x 8), .int md, .int fa, va_rf ou]) := by rw [hf49x]; exact va_up_self _ _ _
        have hx51 : f46 lm = .inr (1, [.double lo, .double hi]) := by rw [hf49x, va_up_ne _ _ (fun z => by have z1 := hx35; rw [z, hx34] at z1; simp at z1)]; exact hx35
        have hF52 : f46 = va_up f a (.inr (0, [.double (x 0), .double (x 1), .double (x 2), .ref lm, .ref bd, .ref rg, .ref tn, .double (x 3), .double (x 4), .double u47, .double r2, .double (x 7), .double (x 8), .int md, .int fa, va_rf ou])) := by rw [hf49x, hF36, va_up_up]
        refine (show V C 9 L f46 0 0 114 [(8, .int 0), (7, .int 0), (5, .double r7), (3, .double r2), (0, .ref a), (1, .double e)] [] from ?_)
        exact g_vret hC dX0_followLaw_114 rfl ⟨rfl, rfl, u47, r2, by simp [dz, va_up, fU, fV, fA, c8, c9, c31, hr42, hu48, er1, er2, er3, er4, er5, er6, er7], by simp [dz, va_up, fS, fV, fA, c8, c9, c31, hr42, hu48, er1, er2, er3, er4, er5, er6, er7], hF52⟩ (Nat.zero_le _) (Nat.zero_le _)
      · skip
        refine g_iconst hC 1 dX0_followLaw_79 (by decide) ?_
        refine g_goto hC 84 dX0_followLaw_80 (by decide) ?_
        refine g_istore hC (lv1 := [(8, .int 1), (7, .int 0), (5, .double r7), (3, .double r2), (0, .ref a), (1, .double e)]) dX0_followLaw_84 (by decide) rfl ?_
        refine g_iload hC dX0_followLaw_86 1 rfl ?_
        refine g_if_ne hC 101 dX0_followLaw_88 (by decide) (fun c => absurd c (by decide)) (fun _ => ?_)
        refine g_iload hC dX0_followLaw_91 0 rfl ?_
        refine g_if_ne hC 101 dX0_followLaw_93 (by decide) (fun _ => ?_) (fun c => absurd c (by decide))
        refine g_aload_n hC dX0_followLaw_101 4 rfl ?_
        refine g_aload_n hC dX0_followLaw_102 4 rfl ?_
        refine g_get hC (kf := 3) (TT := TX0) (N := 16) (Cn := RX0) dX0_followLaw_103 hL_a h0 rfl q_u0 (by decide) q_fl_X0_16 rfl rfl ?_
        refine g_dload hC dX0_followLaw_106 2 rfl ?_
        refine g_callV hC (Cn := RX1) (TT := TX1) (N := 2) dX0_followLaw_108 (ct_X1_nearest l G L f lm lo hi r7 hL_lm h1) q_code_X1_nearest q_ml_X0_100 q_im_X1_nearest q_sel_X1_nearest q_init_X1 ⟨rfl, by decide, by decide, (show (parseMethodDescriptor yX1_nearest.desc).map (fun d => d.parameters.length) = some 1 from by decide +kernel)⟩ hL_lm h1 rfl (by decide) (by decide) (Nat.le_of_ble_eq_true rfl) (fun v54 L55 f56 hp53 => ?_)
        obtain ⟨r57, rfl, hr58, rfl, rfl⟩ := hp53
        refine (show V C 9 L f 0 0 111 [(8, .int 1), (7, .int 0), (5, .double r7), (3, .double r2), (0, .ref a), (1, .double e)] [.double r57, .ref a] from ?_)
        refine g_callV hC (Cn := RX0) (TT := TX0) (N := 16) dX0_followLaw_111 (ct_X0_moveTo l G L f a lm bd rg tn (x) md fa ou r57 hL_a h0) q_code_X0_moveTo q_ml_X0_78 q_im_X0_moveTo q_sel_X0_moveTo q_init_X0 ⟨rfl, by decide, by decide, (show (parseMethodDescriptor yX0_moveTo.desc).map (fun d => d.parameters.length) = some 1 from by decide +kernel)⟩ hL_a h0 rfl (by decide) (by decide) (Nat.le_of_ble_eq_true rfl) (fun v60 L61 f62 hp59 => ?_)
        obtain ⟨rfl, rfl, u63, hu64, hf65⟩ := hp59
        have hf65x : f62 = va_up f a (.inr (0, [.double (x 0), .double (x 1), .double (x 2), .ref lm, .ref bd, .ref rg, .ref tn, .double (x 3), .double (x 4), .double u63, .double (x 6), .double (x 7), .double (x 8), .int md, .int fa, va_rf ou])) := hf65
        have hx66 : f62 a = .inr (0, [.double (x 0), .double (x 1), .double (x 2), .ref lm, .ref bd, .ref rg, .ref tn, .double (x 3), .double (x 4), .double u63, .double (x 6), .double (x 7), .double (x 8), .int md, .int fa, va_rf ou]) := by rw [hf65x]; exact va_up_self _ _ _
        have hx67 : f62 lm = .inr (1, [.double lo, .double hi]) := by rw [hf65x, va_up_ne _ _ (fun z => by have z1 := h1; rw [z, h0] at z1; simp at z1)]; exact h1
        have hF68 : f62 = va_up f a (.inr (0, [.double (x 0), .double (x 1), .double (x 2), .ref lm, .ref bd, .ref rg, .ref tn, .double (x 3), .double (x 4), .double u63, .double (x 6), .double (x 7), .double (x 8), .int md, .int fa, va_rf ou])) := hf65x
        refine (show V C 9 L f62 0 0 114 [(8, .int 1), (7, .int 0), (5, .double r7), (3, .double r2), (0, .ref a), (1, .double e)] [] from ?_)
        exact g_vret hC dX0_followLaw_114 rfl ⟨rfl, rfl, u63, (x 6), by simp [dz, va_up, fU, fV, fA, c8, c9, c31, hr58, hu64, er1, er2, er3, er4, er5, er6, er7], by simp [dz, va_up, fS, fV, fA, c8, c9, c31, hr58, hu64, er1, er2, er3, er4, er5, er6, er7], hF68⟩ (Nat.zero_le _) (Nat.zero_le _)
  · try simp only [er1, er2, er3, er4, er5, er6, er7] at c8
    refine g_dload_n hC dX0_followLaw_47 3 rfl ?_
    refine g_dconst0 hC dX0_followLaw_48 ?_
    refine g_dcmpl_le hC 57 dX0_followLaw_49 dX0_followLaw_50 (by decide) (fun c69 => ?_) (fun c69 => ?_)
    · skip
      refine g_iconst hC 0 dX0_followLaw_57 (by decide) ?_
      refine g_istore hC (lv1 := [(7, .int 0), (5, .double r7), (3, .double r2), (0, .ref a), (1, .double e)]) dX0_followLaw_58 (by decide) rfl ?_
      refine g_dload hC dX0_followLaw_60 1 rfl ?_
      refine g_aload_n hC dX0_followLaw_62 3 rfl ?_
      refine g_get hC (kf := 3) (TT := TX0) (N := 16) (Cn := RX0) dX0_followLaw_63 hL_a h0 rfl q_u0 (by decide) q_fl_X0_16 rfl rfl ?_
      refine g_getN hC (kf := 0) (TT := TX1) (N := 2) (Cn := RX1) dX0_followLaw_66 hL_lm h1 rfl q_u1 (by decide) q_fn_X0_97 rfl rfl ?_
      refine g_dcmpg_ge hC 83 dX0_followLaw_69 dX0_followLaw_70 (by decide) (fun c70 => ?_) (fun c70 => ?_)
      · try simp only [er1, er2, er3, er4, er5, er6, er7] at c70
        refine g_iconst hC 0 dX0_followLaw_83 (by decide) ?_
        refine g_istore hC (lv1 := [(8, .int 0), (7, .int 0), (5, .double r7), (3, .double r2), (0, .ref a), (1, .double e)]) dX0_followLaw_84 (by decide) rfl ?_
        refine g_iload hC dX0_followLaw_86 1 rfl ?_
        refine g_if_ne hC 101 dX0_followLaw_88 (by decide) (fun c => absurd c (by decide)) (fun _ => ?_)
        refine g_iload hC dX0_followLaw_91 0 rfl ?_
        refine g_if_ne hC 101 dX0_followLaw_93 (by decide) (fun c => absurd c (by decide)) (fun _ => ?_)
        refine g_aload_n hC dX0_followLaw_96 4 rfl ?_
        refine g_dload_n hC dX0_followLaw_97 3 rfl ?_
        refine g_put hC (kf := 10) (TT := TX0) (N := 16) (Cn := RX0) (ty0 := tyX0) (fs1 := [.double (x 0), .double (x 1), .double (x 2), .ref lm, .ref bd, .ref rg, .ref tn, .double (x 3), .double (x 4), .double (x 5), .double r2, .double (x 7), .double (x 8), .int md, .int fa, va_rf ou]) dX0_followLaw_98 hL_a h0 rfl q_u0 (by decide) tyX0_ok nmX0 q_fl_X0_91 rfl rfl rfl rfl rfl (Nat.le_of_ble_eq_true rfl) rfl ?_
        refine g_nm (fun f71 hf72 => ?_)
        have hx73 : f71 a = .inr (0, [.double (x 0), .double (x 1), .double (x 2), .ref lm, .ref bd, .ref rg, .ref tn, .double (x 3), .double (x 4), .double (x 5), .double r2, .double (x 7), .double (x 8), .int md, .int fa, va_rf ou]) := by rw [hf72]; exact va_up_self _ _ _
        have hx74 : f71 lm = .inr (1, [.double lo, .double hi]) := by rw [hf72, va_up_ne _ _ (fun z => by have z1 := h1; rw [z, h0] at z1; simp at z1)]; exact h1
        have hF75 : f71 = va_up f a (.inr (0, [.double (x 0), .double (x 1), .double (x 2), .ref lm, .ref bd, .ref rg, .ref tn, .double (x 3), .double (x 4), .double (x 5), .double r2, .double (x 7), .double (x 8), .int md, .int fa, va_rf ou])) := hf72
        refine g_aload_n hC dX0_followLaw_101 4 rfl ?_
        refine g_aload_n hC dX0_followLaw_102 4 rfl ?_
        refine g_get hC (kf := 3) (TT := TX0) (N := 16) (Cn := RX0) dX0_followLaw_103 hL_a hx73 rfl q_u0 (by decide) q_fl_X0_16 rfl rfl ?_
        refine g_dload hC dX0_followLaw_106 2 rfl ?_
        refine g_callV hC (Cn := RX1) (TT := TX1) (N := 2) dX0_followLaw_108 (ct_X1_nearest l G L f71 lm lo hi r7 hL_lm hx74) q_code_X1_nearest q_ml_X0_100 q_im_X1_nearest q_sel_X1_nearest q_init_X1 ⟨rfl, by decide, by decide, (show (parseMethodDescriptor yX1_nearest.desc).map (fun d => d.parameters.length) = some 1 from by decide +kernel)⟩ hL_lm hx74 rfl (by decide) (by decide) (Nat.le_of_ble_eq_true rfl) (fun v77 L78 f79 hp76 => ?_)
        obtain ⟨r80, rfl, hr81, rfl, rfl⟩ := hp76
        refine (show V C 9 L f71 0 0 111 [(8, .int 0), (7, .int 0), (5, .double r7), (3, .double r2), (0, .ref a), (1, .double e)] [.double r80, .ref a] from ?_)
        refine g_callV hC (Cn := RX0) (TT := TX0) (N := 16) dX0_followLaw_111 (ct_X0_moveTo l G L f71 a lm bd rg tn (va_up x 6 r2) md fa ou r80 hL_a hx73) q_code_X0_moveTo q_ml_X0_78 q_im_X0_moveTo q_sel_X0_moveTo q_init_X0 ⟨rfl, by decide, by decide, (show (parseMethodDescriptor yX0_moveTo.desc).map (fun d => d.parameters.length) = some 1 from by decide +kernel)⟩ hL_a hx73 rfl (by decide) (by decide) (Nat.le_of_ble_eq_true rfl) (fun v83 L84 f85 hp82 => ?_)
        obtain ⟨rfl, rfl, u86, hu87, hf88⟩ := hp82
        have hf88x : f85 = va_up f71 a (.inr (0, [.double (x 0), .double (x 1), .double (x 2), .ref lm, .ref bd, .ref rg, .ref tn, .double (x 3), .double (x 4), .double u86, .double r2, .double (x 7), .double (x 8), .int md, .int fa, va_rf ou])) := hf88
        have hx89 : f85 a = .inr (0, [.double (x 0), .double (x 1), .double (x 2), .ref lm, .ref bd, .ref rg, .ref tn, .double (x 3), .double (x 4), .double u86, .double r2, .double (x 7), .double (x 8), .int md, .int fa, va_rf ou]) := by rw [hf88x]; exact va_up_self _ _ _
        have hx90 : f85 lm = .inr (1, [.double lo, .double hi]) := by rw [hf88x, va_up_ne _ _ (fun z => by have z1 := hx74; rw [z, hx73] at z1; simp at z1)]; exact hx74
        have hF91 : f85 = va_up f a (.inr (0, [.double (x 0), .double (x 1), .double (x 2), .ref lm, .ref bd, .ref rg, .ref tn, .double (x 3), .double (x 4), .double u86, .double r2, .double (x 7), .double (x 8), .int md, .int fa, va_rf ou])) := by rw [hf88x, hF75, va_up_up]
        refine (show V C 9 L f85 0 0 114 [(8, .int 0), (7, .int 0), (5, .double r7), (3, .double r2), (0, .ref a), (1, .double e)] [] from ?_)
        exact g_vret hC dX0_followLaw_114 rfl ⟨rfl, rfl, u86, r2, by simp [dz, va_up, fU, fV, fA, c8, c69, c70, hr81, hu87, er1, er2, er3, er4, er5, er6, er7], by simp [dz, va_up, fS, fV, fA, c8, c69, c70, hr81, hu87, er1, er2, er3, er4, er5, er6, er7], hF91⟩ (Nat.zero_le _) (Nat.zero_le _)
      · try simp only [er1, er2, er3, er4, er5, er6, er7] at c70
        refine g_dload_n hC dX0_followLaw_73 4 rfl ?_
        refine g_dconst0 hC dX0_followLaw_74 ?_
        refine g_dcmpg_ge hC 83 dX0_followLaw_75 dX0_followLaw_76 (by decide) (fun c92 => ?_) (fun c92 => ?_)
        · skip
          refine g_iconst hC 0 dX0_followLaw_83 (by decide) ?_
          refine g_istore hC (lv1 := [(8, .int 0), (7, .int 0), (5, .double r7), (3, .double r2), (0, .ref a), (1, .double e)]) dX0_followLaw_84 (by decide) rfl ?_
          refine g_iload hC dX0_followLaw_86 1 rfl ?_
          refine g_if_ne hC 101 dX0_followLaw_88 (by decide) (fun c => absurd c (by decide)) (fun _ => ?_)
          refine g_iload hC dX0_followLaw_91 0 rfl ?_
          refine g_if_ne hC 101 dX0_followLaw_93 (by decide) (fun c => absurd c (by decide)) (fun _ => ?_)
          refine g_aload_n hC dX0_followLaw_96 4 rfl ?_
          refine g_dload_n hC dX0_followLaw_97 3 rfl ?_
          refine g_put hC (kf := 10) (TT := TX0) (N := 16) (Cn := RX0) (ty0 := tyX0) (fs1 := [.double (x 0), .double (x 1), .double (x 2), .ref lm, .ref bd, .ref rg, .ref tn, .double (x 3), .double (x 4), .double (x 5), .double r2, .double (x 7), .double (x 8), .int md, .int fa, va_rf ou]) dX0_followLaw_98 hL_a h0 rfl q_u0 (by decide) tyX0_ok nmX0 q_fl_X0_91 rfl rfl rfl rfl rfl (Nat.le_of_ble_eq_true rfl) rfl ?_
          refine g_nm (fun f93 hf94 => ?_)
          have hx95 : f93 a = .inr (0, [.double (x 0), .double (x 1), .double (x 2), .ref lm, .ref bd, .ref rg, .ref tn, .double (x 3), .double (x 4), .double (x 5), .double r2, .double (x 7), .double (x 8), .int md, .int fa, va_rf ou]) := by rw [hf94]; exact va_up_self _ _ _
          have hx96 : f93 lm = .inr (1, [.double lo, .double hi]) := by rw [hf94, va_up_ne _ _ (fun z => by have z1 := h1; rw [z, h0] at z1; simp at z1)]; exact h1
          have hF97 : f93 = va_up f a (.inr (0, [.double (x 0), .double (x 1), .double (x 2), .ref lm, .ref bd, .ref rg, .ref tn, .double (x 3), .double (x 4), .double (x 5), .double r2, .double (x 7), .double (x 8), .int md, .int fa, va_rf ou])) := hf94
          refine g_aload_n hC dX0_followLaw_101 4 rfl ?_
          refine g_aload_n hC dX0_followLaw_102 4 rfl ?_
          refine g_get hC (kf := 3) (TT := TX0) (N := 16) (Cn := RX0) dX0_followLaw_103 hL_a hx95 rfl q_u0 (by decide) q_fl_X0_16 rfl rfl ?_
          refine g_dload hC dX0_followLaw_106 2 rfl ?_
          refine g_callV hC (Cn := RX1) (TT := TX1) (N := 2) dX0_followLaw_108 (ct_X1_nearest l G L f93 lm lo hi r7 hL_lm hx96) q_code_X1_nearest q_ml_X0_100 q_im_X1_nearest q_sel_X1_nearest q_init_X1 ⟨rfl, by decide, by decide, (show (parseMethodDescriptor yX1_nearest.desc).map (fun d => d.parameters.length) = some 1 from by decide +kernel)⟩ hL_lm hx96 rfl (by decide) (by decide) (Nat.le_of_ble_eq_true rfl) (fun v99 L100 f101 hp98 => ?_)
          obtain ⟨r102, rfl, hr103, rfl, rfl⟩ := hp98
          refine (show V C 9 L f93 0 0 111 [(8, .int 0), (7, .int 0), (5, .double r7), (3, .double r2), (0, .ref a), (1, .double e)] [.double r102, .ref a] from ?_)
          refine g_callV hC (Cn := RX0) (TT := TX0) (N := 16) dX0_followLaw_111 (ct_X0_moveTo l G L f93 a lm bd rg tn (va_up x 6 r2) md fa ou r102 hL_a hx95) q_code_X0_moveTo q_ml_X0_78 q_im_X0_moveTo q_sel_X0_moveTo q_init_X0 ⟨rfl, by decide, by decide, (show (parseMethodDescriptor yX0_moveTo.desc).map (fun d => d.parameters.length) = some 1 from by decide +kernel)⟩ hL_a hx95 rfl (by decide) (by decide) (Nat.le_of_ble_eq_true rfl) (fun v105 L106 f107 hp104 => ?_)
          obtain ⟨rfl, rfl, u108, hu109, hf110⟩ := hp104
          have hf110x : f107 = va_up f93 a (.inr (0, [.double (x 0), .double (x 1), .double (x 2), .ref lm, .ref bd, .ref rg, .ref tn, .double (x 3), .double (x 4), .double u108, .double r2, .double (x 7), .double (x 8), .int md, .int fa, va_rf ou])) := hf110
          have hx111 : f107 a = .inr (0, [.double (x 0), .double (x 1), .double (x 2), .ref lm, .ref bd, .ref rg, .ref tn, .double (x 3), .double (x 4), .double u108, .double r2, .double (x 7), .double (x 8), .int md, .int fa, va_rf ou]) := by rw [hf110x]; exact va_up_self _ _ _
          have hx112 : f107 lm = .inr (1, [.double lo, .double hi]) := by rw [hf110x, va_up_ne _ _ (fun z => by have z1 := hx96; rw [z, hx95] at z1; simp at z1)]; exact hx96
          have hF113 : f107 = va_up f a (.inr (0, [.double (x 0), .double (x 1), .double (x 2), .ref lm, .ref bd, .ref rg, .ref tn, .double (x 3), .double (x 4), .double u108, .double r2, .double (x 7), .double (x 8), .int md, .int fa, va_rf ou])) := by rw [hf110x, hF97, va_up_up]
          refine (show V C 9 L f107 0 0 114 [(8, .int 0), (7, .int 0), (5, .double r7), (3, .double r2), (0, .ref a), (1, .double e)] [] from ?_)
          exact g_vret hC dX0_followLaw_114 rfl ⟨rfl, rfl, u108, r2, by simp [dz, va_up, fU, fV, fA, c8, c69, c70, c92, hr103, hu109, er1, er2, er3, er4, er5, er6, er7], by simp [dz, va_up, fS, fV, fA, c8, c69, c70, c92, hr103, hu109, er1, er2, er3, er4, er5, er6, er7], hF113⟩ (Nat.zero_le _) (Nat.zero_le _)
        · skip
          refine g_iconst hC 1 dX0_followLaw_79 (by decide) ?_
          refine g_goto hC 84 dX0_followLaw_80 (by decide) ?_
          refine g_istore hC (lv1 := [(8, .int 1), (7, .int 0), (5, .double r7), (3, .double r2), (0, .ref a), (1, .double e)]) dX0_followLaw_84 (by decide) rfl ?_
          refine g_iload hC dX0_followLaw_86 1 rfl ?_
          refine g_if_ne hC 101 dX0_followLaw_88 (by decide) (fun c => absurd c (by decide)) (fun _ => ?_)
          refine g_iload hC dX0_followLaw_91 0 rfl ?_
          refine g_if_ne hC 101 dX0_followLaw_93 (by decide) (fun _ => ?_) (fun c => absurd c (by decide))
          refine g_aload_n hC dX0_followLaw_101 4 rfl ?_
          refine g_aload_n hC dX0_followLaw_102 4 rfl ?_
          refine g_get hC (kf := 3) (TT := TX0) (N := 16) (Cn := RX0) dX0_followLaw_103 hL_a h0 rfl q_u0 (by decide) q_fl_X0_16 rfl rfl ?_
          refine g_dload hC dX0_followLaw_106 2 rfl ?_
          refine g_callV hC (Cn := RX1) (TT := TX1) (N := 2) dX0_followLaw_108 (ct_X1_nearest l G L f lm lo hi r7 hL_lm h1) q_code_X1_nearest q_ml_X0_100 q_im_X1_nearest q_sel_X1_nearest q_init_X1 ⟨rfl, by decide, by decide, (show (parseMethodDescriptor yX1_nearest.desc).map (fun d => d.parameters.length) = some 1 from by decide +kernel)⟩ hL_lm h1 rfl (by decide) (by decide) (Nat.le_of_ble_eq_true rfl) (fun v115 L116 f117 hp114 => ?_)
          obtain ⟨r118, rfl, hr119, rfl, rfl⟩ := hp114
          refine (show V C 9 L f 0 0 111 [(8, .int 1), (7, .int 0), (5, .double r7), (3, .double r2), (0, .ref a), (1, .double e)] [.double r118, .ref a] from ?_)
          refine g_callV hC (Cn := RX0) (TT := TX0) (N := 16) dX0_followLaw_111 (ct_X0_moveTo l G L f a lm bd rg tn (x) md fa ou r118 hL_a h0) q_code_X0_moveTo q_ml_X0_78 q_im_X0_moveTo q_sel_X0_moveTo q_init_X0 ⟨rfl, by decide, by decide, (show (parseMethodDescriptor yX0_moveTo.desc).map (fun d => d.parameters.length) = some 1 from by decide +kernel)⟩ hL_a h0 rfl (by decide) (by decide) (Nat.le_of_ble_eq_true rfl) (fun v121 L122 f123 hp120 => ?_)
          obtain ⟨rfl, rfl, u124, hu125, hf126⟩ := hp120
          have hf126x : f123 = va_up f a (.inr (0, [.double (x 0), .double (x 1), .double (x 2), .ref lm, .ref bd, .ref rg, .ref tn, .double (x 3), .double (x 4), .double u124, .double (x 6), .double (x 7), .double (x 8), .int md, .int fa, va_rf ou])) := hf126
          have hx127 : f123 a = .inr (0, [.double (x 0), .double (x 1), .double (x 2), .ref lm, .ref bd, .ref rg, .ref tn, .double (x 3), .double (x 4), .double u124, .double (x 6), .double (x 7), .double (x 8), .int md, .int fa, va_rf ou]) := by rw [hf126x]; exact va_up_self _ _ _
          have hx128 : f123 lm = .inr (1, [.double lo, .double hi]) := by rw [hf126x, va_up_ne _ _ (fun z => by have z1 := h1; rw [z, h0] at z1; simp at z1)]; exact h1
          have hF129 : f123 = va_up f a (.inr (0, [.double (x 0), .double (x 1), .double (x 2), .ref lm, .ref bd, .ref rg, .ref tn, .double (x 3), .double (x 4), .double u124, .double (x 6), .double (x 7), .double (x 8), .int md, .int fa, va_rf ou])) := hf126x
          refine (show V C 9 L f123 0 0 114 [(8, .int 1), (7, .int 0), (5, .double r7), (3, .double r2), (0, .ref a), (1, .double e)] [] from ?_)
          exact g_vret hC dX0_followLaw_114 rfl ⟨rfl, rfl, u124, (x 6), by simp [dz, va_up, fU, fV, fA, c8, c69, c70, c92, hr119, hu125, er1, er2, er3, er4, er5, er6, er7], by simp [dz, va_up, fS, fV, fA, c8, c69, c70, c92, hr119, hu125, er1, er2, er3, er4, er5, er6, er7], hF129⟩ (Nat.zero_le _) (Nat.zero_le _)
    · skip
      refine g_iconst hC 1 dX0_followLaw_53 (by decide) ?_
      refine g_goto hC 58 dX0_followLaw_54 (by decide) ?_
      refine g_istore hC (lv1 := [(7, .int 1), (5, .double r7), (3, .double r2), (0, .ref a), (1, .double e)]) dX0_followLaw_58 (by decide) rfl ?_
      refine g_dload hC dX0_followLaw_60 1 rfl ?_
      refine g_aload_n hC dX0_followLaw_62 3 rfl ?_
      refine g_get hC (kf := 3) (TT := TX0) (N := 16) (Cn := RX0) dX0_followLaw_63 hL_a h0 rfl q_u0 (by decide) q_fl_X0_16 rfl rfl ?_
      refine g_getN hC (kf := 0) (TT := TX1) (N := 2) (Cn := RX1) dX0_followLaw_66 hL_lm h1 rfl q_u1 (by decide) q_fn_X0_97 rfl rfl ?_
      refine g_dcmpg_ge hC 83 dX0_followLaw_69 dX0_followLaw_70 (by decide) (fun c130 => ?_) (fun c130 => ?_)
      · try simp only [er1, er2, er3, er4, er5, er6, er7] at c130
        refine g_iconst hC 0 dX0_followLaw_83 (by decide) ?_
        refine g_istore hC (lv1 := [(8, .int 0), (7, .int 1), (5, .double r7), (3, .double r2), (0, .ref a), (1, .double e)]) dX0_followLaw_84 (by decide) rfl ?_
        refine g_iload hC dX0_followLaw_86 1 rfl ?_
        refine g_if_ne hC 101 dX0_followLaw_88 (by decide) (fun _ => ?_) (fun c => absurd c (by decide))
        refine g_aload_n hC dX0_followLaw_101 4 rfl ?_
        refine g_aload_n hC dX0_followLaw_102 4 rfl ?_
        refine g_get hC (kf := 3) (TT := TX0) (N := 16) (Cn := RX0) dX0_followLaw_103 hL_a h0 rfl q_u0 (by decide) q_fl_X0_16 rfl rfl ?_
        refine g_dload hC dX0_followLaw_106 2 rfl ?_
        refine g_callV hC (Cn := RX1) (TT := TX1) (N := 2) dX0_followLaw_108 (ct_X1_nearest l G L f lm lo hi r7 hL_lm h1) q_code_X1_nearest q_ml_X0_100 q_im_X1_nearest q_sel_X1_nearest q_init_X1 ⟨rfl, by decide, by decide, (show (parseMethodDescriptor yX1_nearest.desc).map (fun d => d.parameters.length) = some 1 from by decide +kernel)⟩ hL_lm h1 rfl (by decide) (by decide) (Nat.le_of_ble_eq_true rfl) (fun v132 L133 f134 hp131 => ?_)
        obtain ⟨r135, rfl, hr136, rfl, rfl⟩ := hp131
        refine (show V C 9 L f 0 0 111 [(8, .int 0), (7, .int 1), (5, .double r7), (3, .double r2), (0, .ref a), (1, .double e)] [.double r135, .ref a] from ?_)
        refine g_callV hC (Cn := RX0) (TT := TX0) (N := 16) dX0_followLaw_111 (ct_X0_moveTo l G L f a lm bd rg tn (x) md fa ou r135 hL_a h0) q_code_X0_moveTo q_ml_X0_78 q_im_X0_moveTo q_sel_X0_moveTo q_init_X0 ⟨rfl, by decide, by decide, (show (parseMethodDescriptor yX0_moveTo.desc).map (fun d => d.parameters.length) = some 1 from by decide +kernel)⟩ hL_a h0 rfl (by decide) (by decide) (Nat.le_of_ble_eq_true rfl) (fun v138 L139 f140 hp137 => ?_)
        obtain ⟨rfl, rfl, u141, hu142, hf143⟩ := hp137
        have hf143x : f140 = va_up f a (.inr (0, [.double (x 0), .double (x 1), .double (x 2), .ref lm, .ref bd, .ref rg, .ref tn, .double (x 3), .double (x 4), .double u141, .double (x 6), .double (x 7), .double (x 8), .int md, .int fa, va_rf ou])) := hf143
        have hx144 : f140 a = .inr (0, [.double (x 0), .double (x 1), .double (x 2), .ref lm, .ref bd, .ref rg, .ref tn, .double (x 3), .double (x 4), .double u141, .double (x 6), .double (x 7), .double (x 8), .int md, .int fa, va_rf ou]) := by rw [hf143x]; exact va_up_self _ _ _
        have hx145 : f140 lm = .inr (1, [.double lo, .double hi]) := by rw [hf143x, va_up_ne _ _ (fun z => by have z1 := h1; rw [z, h0] at z1; simp at z1)]; exact h1
        have hF146 : f140 = va_up f a (.inr (0, [.double (x 0), .double (x 1), .double (x 2), .ref lm, .ref bd, .ref rg, .ref tn, .double (x 3), .double (x 4), .double u141, .double (x 6), .double (x 7), .double (x 8), .int md, .int fa, va_rf ou])) := hf143x
        refine (show V C 9 L f140 0 0 114 [(8, .int 0), (7, .int 1), (5, .double r7), (3, .double r2), (0, .ref a), (1, .double e)] [] from ?_)
        exact g_vret hC dX0_followLaw_114 rfl ⟨rfl, rfl, u141, (x 6), by simp [dz, va_up, fU, fV, fA, c8, c69, c130, hr136, hu142, er1, er2, er3, er4, er5, er6, er7], by simp [dz, va_up, fS, fV, fA, c8, c69, c130, hr136, hu142, er1, er2, er3, er4, er5, er6, er7], hF146⟩ (Nat.zero_le _) (Nat.zero_le _)
      · try simp only [er1, er2, er3, er4, er5, er6, er7] at c130
        refine g_dload_n hC dX0_followLaw_73 4 rfl ?_
        refine g_dconst0 hC dX0_followLaw_74 ?_
        refine g_dcmpg_ge hC 83 dX0_followLaw_75 dX0_followLaw_76 (by decide) (fun c147 => ?_) (fun c147 => ?_)
        · skip
          refine g_iconst hC 0 dX0_followLaw_83 (by decide) ?_
          refine g_istore hC (lv1 := [(8, .int 0), (7, .int 1), (5, .double r7), (3, .double r2), (0, .ref a), (1, .double e)]) dX0_followLaw_84 (by decide) rfl ?_
          refine g_iload hC dX0_followLaw_86 1 rfl ?_
          refine g_if_ne hC 101 dX0_followLaw_88 (by decide) (fun _ => ?_) (fun c => absurd c (by decide))
          refine g_aload_n hC dX0_followLaw_101 4 rfl ?_
          refine g_aload_n hC dX0_followLaw_102 4 rfl ?_
          refine g_get hC (kf := 3) (TT := TX0) (N := 16) (Cn := RX0) dX0_followLaw_103 hL_a h0 rfl q_u0 (by decide) q_fl_X0_16 rfl rfl ?_
          refine g_dload hC dX0_followLaw_106 2 rfl ?_
          refine g_callV hC (Cn := RX1) (TT := TX1) (N := 2) dX0_followLaw_108 (ct_X1_nearest l G L f lm lo hi r7 hL_lm h1) q_code_X1_nearest q_ml_X0_100 q_im_X1_nearest q_sel_X1_nearest q_init_X1 ⟨rfl, by decide, by decide, (show (parseMethodDescriptor yX1_nearest.desc).map (fun d => d.parameters.length) = some 1 from by decide +kernel)⟩ hL_lm h1 rfl (by decide) (by decide) (Nat.le_of_ble_eq_true rfl) (fun v149 L150 f151 hp148 => ?_)
          obtain ⟨r152, rfl, hr153, rfl, rfl⟩ := hp148
          refine (show V C 9 L f 0 0 111 [(8, .int 0), (7, .int 1), (5, .double r7), (3, .double r2), (0, .ref a), (1, .double e)] [.double r152, .ref a] from ?_)
          refine g_callV hC (Cn := RX0) (TT := TX0) (N := 16) dX0_followLaw_111 (ct_X0_moveTo l G L f a lm bd rg tn (x) md fa ou r152 hL_a h0) q_code_X0_moveTo q_ml_X0_78 q_im_X0_moveTo q_sel_X0_moveTo q_init_X0 ⟨rfl, by decide, by decide, (show (parseMethodDescriptor yX0_moveTo.desc).map (fun d => d.parameters.length) = some 1 from by decide +kernel)⟩ hL_a h0 rfl (by decide) (by decide) (Nat.le_of_ble_eq_true rfl) (fun v155 L156 f157 hp154 => ?_)
          obtain ⟨rfl, rfl, u158, hu159, hf160⟩ := hp154
          have hf160x : f157 = va_up f a (.inr (0, [.double (x 0), .double (x 1), .double (x 2), .ref lm, .ref bd, .ref rg, .ref tn, .double (x 3), .double (x 4), .double u158, .double (x 6), .double (x 7), .double (x 8), .int md, .int fa, va_rf ou])) := hf160
          have hx161 : f157 a = .inr (0, [.double (x 0), .double (x 1), .double (x 2), .ref lm, .ref bd, .ref rg, .ref tn, .double (x 3), .double (x 4), .double u158, .double (x 6), .double (x 7), .double (x 8), .int md, .int fa, va_rf ou]) := by rw [hf160x]; exact va_up_self _ _ _
          have hx162 : f157 lm = .inr (1, [.double lo, .double hi]) := by rw [hf160x, va_up_ne _ _ (fun z => by have z1 := h1; rw [z, h0] at z1; simp at z1)]; exact h1
          have hF163 : f157 = va_up f a (.inr (0, [.double (x 0), .double (x 1), .double (x 2), .ref lm, .ref bd, .ref rg, .ref tn, .double (x 3), .double (x 4), .double u158, .double (x 6), .double (x 7), .double (x 8), .int md, .int fa, va_rf ou])) := hf160x
          refine (show V C 9 L f157 0 0 114 [(8, .int 0), (7, .int 1), (5, .double r7), (3, .double r2), (0, .ref a), (1, .double e)] [] from ?_)
          exact g_vret hC dX0_followLaw_114 rfl ⟨rfl, rfl, u158, (x 6), by simp [dz, va_up, fU, fV, fA, c8, c69, c130, c147, hr153, hu159, er1, er2, er3, er4, er5, er6, er7], by simp [dz, va_up, fS, fV, fA, c8, c69, c130, c147, hr153, hu159, er1, er2, er3, er4, er5, er6, er7], hF163⟩ (Nat.zero_le _) (Nat.zero_le _)
        · skip
          refine g_iconst hC 1 dX0_followLaw_79 (by decide) ?_
          refine g_goto hC 84 dX0_followLaw_80 (by decide) ?_
          refine g_istore hC (lv1 := [(8, .int 1), (7, .int 1), (5, .double r7), (3, .double r2), (0, .ref a), (1, .double e)]) dX0_followLaw_84 (by decide) rfl ?_
          refine g_iload hC dX0_followLaw_86 1 rfl ?_
          refine g_if_ne hC 101 dX0_followLaw_88 (by decide) (fun _ => ?_) (fun c => absurd c (by decide))
          refine g_aload_n hC dX0_followLaw_101 4 rfl ?_
          refine g_aload_n hC dX0_followLaw_102 4 rfl ?_
          refine g_get hC (kf := 3) (TT := TX0) (N := 16) (Cn := RX0) dX0_followLaw_103 hL_a h0 rfl q_u0 (by decide) q_fl_X0_16 rfl rfl ?_
          refine g_dload hC dX0_followLaw_106 2 rfl ?_
          refine g_callV hC (Cn := RX1) (TT := TX1) (N := 2) dX0_followLaw_108 (ct_X1_nearest l G L f lm lo hi r7 hL_lm h1) q_code_X1_nearest q_ml_X0_100 q_im_X1_nearest q_sel_X1_nearest q_init_X1 ⟨rfl, by decide, by decide, (show (parseMethodDescriptor yX1_nearest.desc).map (fun d => d.parameters.length) = some 1 from by decide +kernel)⟩ hL_lm h1 rfl (by decide) (by decide) (Nat.le_of_ble_eq_true rfl) (fun v165 L166 f167 hp164 => ?_)
          obtain ⟨r168, rfl, hr169, rfl, rfl⟩ := hp164
          refine (show V C 9 L f 0 0 111 [(8, .int 1), (7, .int 1), (5, .double r7), (3, .double r2), (0, .ref a), (1, .double e)] [.double r168, .ref a] from ?_)
          refine g_callV hC (Cn := RX0) (TT := TX0) (N := 16) dX0_followLaw_111 (ct_X0_moveTo l G L f a lm bd rg tn (x) md fa ou r168 hL_a h0) q_code_X0_moveTo q_ml_X0_78 q_im_X0_moveTo q_sel_X0_moveTo q_init_X0 ⟨rfl, by decide, by decide, (show (parseMethodDescriptor yX0_moveTo.desc).map (fun d => d.parameters.length) = some 1 from by decide +kernel)⟩ hL_a h0 rfl (by decide) (by decide) (Nat.le_of_ble_eq_true rfl) (fun v171 L172 f173 hp170 => ?_)
          obtain ⟨rfl, rfl, u174, hu175, hf176⟩ := hp170
          have hf176x : f173 = va_up f a (.inr (0, [.double (x 0), .double (x 1), .double (x 2), .ref lm, .ref bd, .ref rg, .ref tn, .double (x 3), .double (x 4), .double u174, .double (x 6), .double (x 7), .double (x 8), .int md, .int fa, va_rf ou])) := hf176
          have hx177 : f173 a = .inr (0, [.double (x 0), .double (x 1), .double (x 2), .ref lm, .ref bd, .ref rg, .ref tn, .double (x 3), .double (x 4), .double u174, .double (x 6), .double (x 7), .double (x 8), .int md, .int fa, va_rf ou]) := by rw [hf176x]; exact va_up_self _ _ _
          have hx178 : f173 lm = .inr (1, [.double lo, .double hi]) := by rw [hf176x, va_up_ne _ _ (fun z => by have z1 := h1; rw [z, h0] at z1; simp at z1)]; exact h1
          have hF179 : f173 = va_up f a (.inr (0, [.double (x 0), .double (x 1), .double (x 2), .ref lm, .ref bd, .ref rg, .ref tn, .double (x 3), .double (x 4), .double u174, .double (x 6), .double (x 7), .double (x 8), .int md, .int fa, va_rf ou])) := hf176x
          refine (show V C 9 L f173 0 0 114 [(8, .int 1), (7, .int 1), (5, .double r7), (3, .double r2), (0, .ref a), (1, .double e)] [] from ?_)
          exact g_vret hC dX0_followLaw_114 rfl ⟨rfl, rfl, u174, (x 6), by simp [dz, va_up, fU, fV, fA, c8, c69, c130, c147, hr169, hu175, er1, er2, er3, er4, er5, er6, er7], by simp [dz, va_up, fS, fV, fA, c8, c69, c130, c147, hr169, hu175, er1, er2, er3, er4, er5, er6, er7], hF179⟩ (Nat.zero_le _) (Nat.zero_le _)
end
section
set_option maxHeartbeats 4000000 in
set_option maxRecDepth 100000 in
/-- pass(measured, target), without an outer loop -/
theorem ct_X0_pass_n (l : Launch) (G : GD) (L : List Nat) (f : Nat → va_E) (a lm bd rg tn : Nat) (x : Nat → UInt64) (md fa : Int32) (lo hi bl bh rl rh : UInt64) (m tg : UInt64) (hL_a : a ∈ L) (h0 : f a = eLp x md fa lm bd rg tn none) (hL_lm : lm ∈ L) (hL_bd : bd ∈ L) (hL_rg : rg ∈ L) (h1 : f lm = eSp lo hi) (h2 : f bd = eSp bl bh) (h3 : f rg = eSp rl rh) : Ctr l yX0_pass cX0_pass 7 none { frames := 2, cells := 0, slots := 0, locals := 50 } G [.ref a, .double m, .double tg] L f (fun vv L1 f1 => vv = none ∧ L = L1 ∧ ((inB (dv m) (dv rl) (dv rh) = false ∧ f1 = va_up f a (eLp (va_up x 5 (x 4)) md (fa + 1) lm bd rg tn none)) ∨ (inB (dv m) (dv rl) (dv rh) = true ∧ ∃ u s e : UInt64, dv e = qsub (dv tg) (dv m) ∧ dv u = tU (dz x) md (dv lo) (dv hi) (dv bl) (dv bh) (dv e) ∧ dv s = tS (dz x) md (dv lo) (dv hi) (dv e) ∧ f1 = va_up f a (eLp (va_up (va_up (va_up x 6 s) 5 u) 7 e) md fa lm bd rg tn none)))) := by
  refine g_enter RX0 false (by decide) rfl (fun h => by cases h) (Nat.le_of_ble_eq_true rfl) (fun C hC => ?_)
  refine (show V C 7 L f 0 0 0 [(0, .ref a), (1, .double m), (3, .double tg)] [] from ?_)
  refine g_aload_n hC dX0_pass_0 0 rfl ?_
  refine g_get hC (kf := 5) (TT := TX0) (N := 16) (Cn := RX0) dX0_pass_1 hL_a h0 rfl q_u0 (by decide) q_fl_X0_31 rfl rfl ?_
  refine g_dload_n hC dX0_pass_4 1 rfl ?_
  refine g_callV hC (Cn := RX1) (TT := TX1) (N := 2) dX0_pass_5 (ct_X1_holds l G L f rg rl rh m hL_rg h3) q_code_X1_holds q_ml_X0_58 q_im_X1_holds q_sel_X1_holds q_init_X1 ⟨rfl, by decide, by decide, (show (parseMethodDescriptor yX1_holds.desc).map (fun d => d.parameters.length) = some 1 from by decide +kernel)⟩ hL_rg h3 rfl (by decide) (by decide) (Nat.le_of_ble_eq_true rfl) (fun v2 L3 f4 hp1 => ?_)
  obtain ⟨rfl, rfl, rfl⟩ := hp1
  refine (show V C 7 L f 0 0 8 [(0, .ref a), (1, .double m), (3, .double tg)] [.int (bI (inB (dv m) (dv rl) (dv rh)))] from ?_)
  refine g_ifB_ne hC 30 dX0_pass_8 (by decide) (fun c5 => ?_) (fun c5 => ?_)
  · skip
    refine g_aload_n hC dX0_pass_30 0 rfl ?_
    refine g_get hC (kf := 15) (TT := TX0) (N := 16) (Cn := RX0) dX0_pass_31 hL_a h0 rfl q_u0 (by decide) q_fl_X0_71 rfl rfl ?_
    refine g_ifnonnullN hC dX0_pass_34 ?_
    refine g_dload_n hC dX0_pass_37 2 rfl ?_
    refine g_goto hC 48 dX0_pass_38 (by decide) ?_
    refine g_dload_n hC dX0_pass_48 1 rfl ?_
    refine g_dsub hC dX0_pass_49 (fun r6 er6 => ?_)
    refine g_dstore hC (lv1 := [(5, .double r6), (0, .ref a), (1, .double m), (3, .double tg)]) dX0_pass_50 (by decide) rfl ?_
    refine g_aload_n hC dX0_pass_52 1 rfl ?_
    refine g_get hC (kf := 13) (TT := TX0) (N := 16) (Cn := RX0) dX0_pass_53 hL_a h0 rfl q_u0 (by decide) q_fl_X0_45 rfl rfl ?_
    refine g_if_ne hC 70 dX0_pass_56 (by decide) (fun c7 => ?_) (fun c7 => ?_)
    · skip
      refine g_aload_n hC dX0_pass_70 1 rfl ?_
      refine g_get hC (kf := 13) (TT := TX0) (N := 16) (Cn := RX0) dX0_pass_71 hL_a h0 rfl q_u0 (by decide) q_fl_X0_45 rfl rfl ?_
      refine g_iconst hC 1 dX0_pass_74 (by decide) ?_
      refine g_icmp_ne hC 87 dX0_pass_75 (by decide) (fun c8 => ?_) (fun c8 => ?_)
      · skip
        refine g_aload_n hC dX0_pass_87 1 rfl ?_
        refine g_dload hC dX0_pass_88 0 rfl ?_
        refine g_callV hC (Cn := RX0) (TT := TX0) (N := 16) dX0_pass_90 (ct_X0_switchOnOrOff l G L f a lm bd rg tn (x) md fa none lo hi bl bh r6 hL_a h0 hL_lm hL_bd h1 h2) q_code_X0_switchOnOrOff q_ml_X0_85 q_im_X0_switchOnOrOff q_sel_X0_switchOnOrOff q_init_X0 ⟨rfl, by decide, by decide, (show (parseMethodDescriptor yX0_switchOnOrOff.desc).map (fun d => d.parameters.length) = some 1 from by decide +kernel)⟩ hL_a h0 rfl (by decide) (by decide) (Nat.le_of_ble_eq_true rfl) (fun v10 L11 f12 hp9 => ?_)
        obtain ⟨rfl, rfl, u13, hu14, hf15⟩ := hp9
        have hf15x : f12 = va_up f a (.inr (0, [.double (x 0), .double (x 1), .double (x 2), .ref lm, .ref bd, .ref rg, .ref tn, .double (x 3), .double (x 4), .double u13, .double (x 6), .double (x 7), .double (x 8), .int md, .int fa, .null])) := hf15
        have hx16 : f12 a = .inr (0, [.double (x 0), .double (x 1), .double (x 2), .ref lm, .ref bd, .ref rg, .ref tn, .double (x 3), .double (x 4), .double u13, .double (x 6), .double (x 7), .double (x 8), .int md, .int fa, .null]) := by rw [hf15x]; exact va_up_self _ _ _
        have hx17 : f12 lm = .inr (1, [.double lo, .double hi]) := by rw [hf15x, va_up_ne _ _ (fun z => by have z1 := h1; rw [z, h0] at z1; simp at z1)]; exact h1
        have hx18 : f12 bd = .inr (1, [.double bl, .double bh]) := by rw [hf15x, va_up_ne _ _ (fun z => by have z1 := h2; rw [z, h0] at z1; simp at z1)]; exact h2
        have hx19 : f12 rg = .inr (1, [.double rl, .double rh]) := by rw [hf15x, va_up_ne _ _ (fun z => by have z1 := h3; rw [z, h0] at z1; simp at z1)]; exact h3
        have hF20 : f12 = va_up f a (.inr (0, [.double (x 0), .double (x 1), .double (x 2), .ref lm, .ref bd, .ref rg, .ref tn, .double (x 3), .double (x 4), .double u13, .double (x 6), .double (x 7), .double (x 8), .int md, .int fa, .null])) := hf15x
        refine (show V C 7 L f12 0 0 93 [(5, .double r6), (0, .ref a), (1, .double m), (3, .double tg)] [] from ?_)
        refine g_aload_n hC dX0_pass_93 1 rfl ?_
        refine g_dload hC dX0_pass_94 0 rfl ?_
        refine g_put hC (kf := 11) (TT := TX0) (N := 16) (Cn := RX0) (ty0 := tyX0) (fs1 := [.double (x 0), .double (x 1), .double (x 2), .ref lm, .ref bd, .ref rg, .ref tn, .double (x 3), .double (x 4), .double u13, .double (x 6), .double r6, .double (x 8), .int md, .int fa, .null]) dX0_pass_96 hL_a hx16 rfl q_u0 (by decide) tyX0_ok nmX0 q_fl_X0_88 rfl rfl rfl rfl rfl (Nat.le_of_ble_eq_true rfl) rfl ?_
        refine g_nm (fun f21 hf22 => ?_)
        have hx23 : f21 a = .inr (0, [.double (x 0), .double (x 1), .double (x 2), .ref lm, .ref bd, .ref rg, .ref tn, .double (x 3), .double (x 4), .double u13, .double (x 6), .double r6, .double (x 8), .int md, .int fa, .null]) := by rw [hf22]; exact va_up_self _ _ _
        have hx24 : f21 lm = .inr (1, [.double lo, .double hi]) := by rw [hf22, va_up_ne _ _ (fun z => by have z1 := hx17; rw [z, hx16] at z1; simp at z1)]; exact hx17
        have hx25 : f21 bd = .inr (1, [.double bl, .double bh]) := by rw [hf22, va_up_ne _ _ (fun z => by have z1 := hx18; rw [z, hx16] at z1; simp at z1)]; exact hx18
        have hx26 : f21 rg = .inr (1, [.double rl, .double rh]) := by rw [hf22, va_up_ne _ _ (fun z => by have z1 := hx19; rw [z, hx16] at z1; simp at z1)]; exact hx19
        have hF27 : f21 = va_up f a (.inr (0, [.double (x 0), .double (x 1), .double (x 2), .ref lm, .ref bd, .ref rg, .ref tn, .double (x 3), .double (x 4), .double u13, .double (x 6), .double r6, .double (x 8), .int md, .int fa, .null])) := by rw [hf22, hF20, va_up_up]
        exact g_vret hC dX0_pass_99 rfl ⟨rfl, rfl, Or.inr ⟨c5, u13, (x 6), r6, er6, by simp [dz, va_up, tU, fU, fV, fA, oU, c7, c8, hu14], by simp [dz, va_up, tS, fS, fV, fA, c7, c8, hu14], hF27⟩⟩ (Nat.zero_le _) (Nat.zero_le _)
      · skip
        refine g_aload_n hC dX0_pass_78 1 rfl ?_
        refine g_dload hC dX0_pass_79 0 rfl ?_
        refine g_callV hC (Cn := RX0) (TT := TX0) (N := 16) dX0_pass_81 (ct_X0_followLaw l G L f a lm bd rg tn (x) md fa none lo hi r6 hL_a h0 hL_lm h1) q_code_X0_followLaw q_ml_X0_82 q_im_X0_followLaw q_sel_X0_followLaw q_init_X0 ⟨rfl, by decide, by decide, (show (parseMethodDescriptor yX0_followLaw.desc).map (fun d => d.parameters.length) = some 1 from by decide +kernel)⟩ hL_a h0 rfl (by decide) (by decide) (Nat.le_of_ble_eq_true rfl) (fun v29 L30 f31 hp28 => ?_)
        obtain ⟨rfl, rfl, u32, s33, hu34, hs35, hf36⟩ := hp28
        have hf36x : f31 = va_up f a (.inr (0, [.double (x 0), .double (x 1), .double (x 2), .ref lm, .ref bd, .ref rg, .ref tn, .double (x 3), .double (x 4), .double u32, .double s33, .double (x 7), .double (x 8), .int md, .int fa, .null])) := hf36
        have hx37 : f31 a = .inr (0, [.double (x 0), .double (x 1), .double (x 2), .ref lm, .ref bd, .ref rg, .ref tn, .double (x 3), .double (x 4), .double u32, .double s33, .double (x 7), .double (x 8), .int md, .int fa, .null]) := by rw [hf36x]; exact va_up_self _ _ _
        have hx38 : f31 lm = .inr (1, [.double lo, .double hi]) := by rw [hf36x, va_up_ne _ _ (fun z => by have z1 := h1; rw [z, h0] at z1; simp at z1)]; exact h1
        have hx39 : f31 bd = .inr (1, [.double bl, .double bh]) := by rw [hf36x, va_up_ne _ _ (fun z => by have z1 := h2; rw [z, h0] at z1; simp at z1)]; exact h2
        have hx40 : f31 rg = .inr (1, [.double rl, .double rh]) := by rw [hf36x, va_up_ne _ _ (fun z => by have z1 := h3; rw [z, h0] at z1; simp at z1)]; exact h3
        have hF41 : f31 = va_up f a (.inr (0, [.double (x 0), .double (x 1), .double (x 2), .ref lm, .ref bd, .ref rg, .ref tn, .double (x 3), .double (x 4), .double u32, .double s33, .double (x 7), .double (x 8), .int md, .int fa, .null])) := hf36x
        refine (show V C 7 L f31 0 0 84 [(5, .double r6), (0, .ref a), (1, .double m), (3, .double tg)] [] from ?_)
        refine g_goto hC 93 dX0_pass_84 (by decide) ?_
        refine g_aload_n hC dX0_pass_93 1 rfl ?_
        refine g_dload hC dX0_pass_94 0 rfl ?_
        refine g_put hC (kf := 11) (TT := TX0) (N := 16) (Cn := RX0) (ty0 := tyX0) (fs1 := [.double (x 0), .double (x 1), .double (x 2), .ref lm, .ref bd, .ref rg, .ref tn, .double (x 3), .double (x 4), .double u32, .double s33, .double r6, .double (x 8), .int md, .int fa, .null]) dX0_pass_96 hL_a hx37 rfl q_u0 (by decide) tyX0_ok nmX0 q_fl_X0_88 rfl rfl rfl rfl rfl (Nat.le_of_ble_eq_true rfl) rfl ?_
        refine g_nm (fun f42 hf43 => ?_)
        have hx44 : f42 a = .inr (0, [.double (x 0), .double (x 1), .double (x 2), .ref lm, .ref bd, .ref rg, .ref tn, .double (x 3), .double (x 4), .double u32, .double s33, .double r6, .double (x 8), .int md, .int fa, .null]) := by rw [hf43]; exact va_up_self _ _ _
        have hx45 : f42 lm = .inr (1, [.double lo, .double hi]) := by rw [hf43, va_up_ne _ _ (fun z => by have z1 := hx38; rw [z, hx37] at z1; simp at z1)]; exact hx38
        have hx46 : f42 bd = .inr (1, [.double bl, .double bh]) := by rw [hf43, va_up_ne _ _ (fun z => by have z1 := hx39; rw [z, hx37] at z1; simp at z1)]; exact hx39
        have hx47 : f42 rg = .inr (1, [.double rl, .double rh]) := by rw [hf43, va_up_ne _ _ (fun z => by have z1 := hx40; rw [z, hx37] at z1; simp at z1)]; exact hx40
        have hF48 : f42 = va_up f a (.inr (0, [.double (x 0), .double (x 1), .double (x 2), .ref lm, .ref bd, .ref rg, .ref tn, .double (x 3), .double (x 4), .double u32, .double s33, .double r6, .double (x 8), .int md, .int fa, .null])) := by rw [hf43, hF41, va_up_up]
        exact g_vret hC dX0_pass_99 rfl ⟨rfl, rfl, Or.inr ⟨c5, u32, s33, r6, er6, by simp [dz, va_up, tU, fU, fV, fA, oU, c7, c8, hu34, hs35], by simp [dz, va_up, tS, fS, fV, fA, c7, c8, hu34, hs35], hF48⟩⟩ (Nat.zero_le _) (Nat.zero_le _)
    · skip
      refine g_aload_n hC dX0_pass_59 1 rfl ?_
      refine g_aload_n hC dX0_pass_60 1 rfl ?_
      refine g_get hC (kf := 12) (TT := TX0) (N := 16) (Cn := RX0) dX0_pass_61 hL_a h0 rfl q_u0 (by decide) q_fl_X0_75 rfl rfl ?_
      refine g_callV hC (Cn := RX0) (TT := TX0) (N := 16) dX0_pass_64 (ct_X0_moveTo l G L f a lm bd rg tn (x) md fa none (x 8) hL_a h0) q_code_X0_moveTo q_ml_X0_78 q_im_X0_moveTo q_sel_X0_moveTo q_init_X0 ⟨rfl, by decide, by decide, (show (parseMethodDescriptor yX0_moveTo.desc).map (fun d => d.parameters.length) = some 1 from by decide +kernel)⟩ hL_a h0 rfl (by decide) (by decide) (Nat.le_of_ble_eq_true rfl) (fun v50 L51 f52 hp49 => ?_)
      obtain ⟨rfl, rfl, u53, hu54, hf55⟩ := hp49
      have hf55x : f52 = va_up f a (.inr (0, [.double (x 0), .double (x 1), .double (x 2), .ref lm, .ref bd, .ref rg, .ref tn, .double (x 3), .double (x 4), .double u53, .double (x 6), .double (x 7), .double (x 8), .int md, .int fa, .null])) := hf55
      have hx56 : f52 a = .inr (0, [.double (x 0), .double (x 1), .double (x 2), .ref lm, .ref bd, .ref rg, .ref tn, .double (x 3), .double (x 4), .double u53, .double (x 6), .double (x 7), .double (x 8), .int md, .int fa, .null]) := by rw [hf55x]; exact va_up_self _ _ _
      have hx57 : f52 lm = .inr (1, [.double lo, .double hi]) := by rw [hf55x, va_up_ne _ _ (fun z => by have z1 := h1; rw [z, h0] at z1; simp at z1)]; exact h1
      have hx58 : f52 bd = .inr (1, [.double bl, .double bh]) := by rw [hf55x, va_up_ne _ _ (fun z => by have z1 := h2; rw [z, h0] at z1; simp at z1)]; exact h2
      have hx59 : f52 rg = .inr (1, [.double rl, .double rh]) := by rw [hf55x, va_up_ne _ _ (fun z => by have z1 := h3; rw [z, h0] at z1; simp at z1)]; exact h3
      have hF60 : f52 = va_up f a (.inr (0, [.double (x 0), .double (x 1), .double (x 2), .ref lm, .ref bd, .ref rg, .ref tn, .double (x 3), .double (x 4), .double u53, .double (x 6), .double (x 7), .double (x 8), .int md, .int fa, .null])) := hf55x
      refine (show V C 7 L f52 0 0 67 [(5, .double r6), (0, .ref a), (1, .double m), (3, .double tg)] [] from ?_)
      refine g_goto hC 93 dX0_pass_67 (by decide) ?_
      refine g_aload_n hC dX0_pass_93 1 rfl ?_
      refine g_dload hC dX0_pass_94 0 rfl ?_
      refine g_put hC (kf := 11) (TT := TX0) (N := 16) (Cn := RX0) (ty0 := tyX0) (fs1 := [.double (x 0), .double (x 1), .double (x 2), .ref lm, .ref bd, .ref rg, .ref tn, .double (x 3), .double (x 4), .double u53, .double (x 6), .double r6, .double (x 8), .int md, .int fa, .null]) dX0_pass_96 hL_a hx56 rfl q_u0 (by decide) tyX0_ok nmX0 q_fl_X0_88 rfl rfl rfl rfl rfl (Nat.le_of_ble_eq_true rfl) rfl ?_
      refine g_nm (fun f61 hf62 => ?_)
      have hx63 : f61 a = .inr (0, [.double (x 0), .double (x 1), .double (x 2), .ref lm, .ref bd, .ref rg, .ref tn, .double (x 3), .double (x 4), .double u53, .double (x 6), .double r6, .double (x 8), .int md, .int fa, .null]) := by rw [hf62]; exact va_up_self _ _ _
      have hx64 : f61 lm = .inr (1, [.double lo, .double hi]) := by rw [hf62, va_up_ne _ _ (fun z => by have z1 := hx57; rw [z, hx56] at z1; simp at z1)]; exact hx57
      have hx65 : f61 bd = .inr (1, [.double bl, .double bh]) := by rw [hf62, va_up_ne _ _ (fun z => by have z1 := hx58; rw [z, hx56] at z1; simp at z1)]; exact hx58
      have hx66 : f61 rg = .inr (1, [.double rl, .double rh]) := by rw [hf62, va_up_ne _ _ (fun z => by have z1 := hx59; rw [z, hx56] at z1; simp at z1)]; exact hx59
      have hF67 : f61 = va_up f a (.inr (0, [.double (x 0), .double (x 1), .double (x 2), .ref lm, .ref bd, .ref rg, .ref tn, .double (x 3), .double (x 4), .double u53, .double (x 6), .double r6, .double (x 8), .int md, .int fa, .null])) := by rw [hf62, hF60, va_up_up]
      exact g_vret hC dX0_pass_99 rfl ⟨rfl, rfl, Or.inr ⟨c5, u53, (x 6), r6, er6, by simp [dz, va_up, tU, fU, fV, fA, oU, c7, hu54], by simp [dz, va_up, tS, fS, fV, fA, c7, hu54], hF67⟩⟩ (Nat.zero_le _) (Nat.zero_le _)
  · skip
    refine g_aload_n hC dX0_pass_11 0 rfl ?_
    refine g_aload_n hC dX0_pass_12 0 rfl ?_
    refine g_get hC (kf := 8) (TT := TX0) (N := 16) (Cn := RX0) dX0_pass_13 hL_a h0 rfl q_u0 (by decide) q_fl_X0_62 rfl rfl ?_
    refine g_put hC (kf := 9) (TT := TX0) (N := 16) (Cn := RX0) (ty0 := tyX0) (fs1 := [.double (x 0), .double (x 1), .double (x 2), .ref lm, .ref bd, .ref rg, .ref tn, .double (x 3), .double (x 4), .double (x 4), .double (x 6), .double (x 7), .double (x 8), .int md, .int fa, .null]) dX0_pass_16 hL_a h0 rfl q_u0 (by decide) tyX0_ok nmX0 q_fl_X0_65 rfl rfl rfl rfl rfl (Nat.le_of_ble_eq_true rfl) rfl ?_
    refine g_nm (fun f68 hf69 => ?_)
    have hx70 : f68 a = .inr (0, [.double (x 0), .double (x 1), .double (x 2), .ref lm, .ref bd, .ref rg, .ref tn, .double (x 3), .double (x 4), .double (x 4), .double (x 6), .double (x 7), .double (x 8), .int md, .int fa, .null]) := by rw [hf69]; exact va_up_self _ _ _
    have hx71 : f68 lm = .inr (1, [.double lo, .double hi]) := by rw [hf69, va_up_ne _ _ (fun z => by have z1 := h1; rw [z, h0] at z1; simp at z1)]; exact h1
    have hx72 : f68 bd = .inr (1, [.double bl, .double bh]) := by rw [hf69, va_up_ne _ _ (fun z => by have z1 := h2; rw [z, h0] at z1; simp at z1)]; exact h2
    have hx73 : f68 rg = .inr (1, [.double rl, .double rh]) := by rw [hf69, va_up_ne _ _ (fun z => by have z1 := h3; rw [z, h0] at z1; simp at z1)]; exact h3
    have hF74 : f68 = va_up f a (.inr (0, [.double (x 0), .double (x 1), .double (x 2), .ref lm, .ref bd, .ref rg, .ref tn, .double (x 3), .double (x 4), .double (x 4), .double (x 6), .double (x 7), .double (x 8), .int md, .int fa, .null])) := hf69
    refine g_aload_n hC dX0_pass_19 0 rfl ?_
    refine g_dup hC dX0_pass_20 rfl ?_
    refine g_get hC (kf := 14) (TT := TX0) (N := 16) (Cn := RX0) dX0_pass_21 hL_a hx70 rfl q_u0 (by decide) q_fl_X0_68 rfl rfl ?_
    refine g_iconst hC 1 dX0_pass_24 (by decide) ?_
    refine g_iadd hC dX0_pass_25 ?_
    refine g_put hC (kf := 14) (TT := TX0) (N := 16) (Cn := RX0) (ty0 := tyX0) (fs1 := [.double (x 0), .double (x 1), .double (x 2), .ref lm, .ref bd, .ref rg, .ref tn, .double (x 3), .double (x 4), .double (x 4), .double (x 6), .double (x 7), .double (x 8), .int md, .int (fa + 1), .null]) dX0_pass_26 hL_a hx70 rfl q_u0 (by decide) tyX0_ok nmX0 q_fl_X0_68 rfl rfl rfl rfl rfl (Nat.le_of_ble_eq_true rfl) rfl ?_
    refine g_nm (fun f75 hf76 => ?_)
    have hx77 : f75 a = .inr (0, [.double (x 0), .double (x 1), .double (x 2), .ref lm, .ref bd, .ref rg, .ref tn, .double (x 3), .double (x 4), .double (x 4), .double (x 6), .double (x 7), .double (x 8), .int md, .int (fa + 1), .null]) := by rw [hf76]; exact va_up_self _ _ _
    have hx78 : f75 lm = .inr (1, [.double lo, .double hi]) := by rw [hf76, va_up_ne _ _ (fun z => by have z1 := hx71; rw [z, hx70] at z1; simp at z1)]; exact hx71
    have hx79 : f75 bd = .inr (1, [.double bl, .double bh]) := by rw [hf76, va_up_ne _ _ (fun z => by have z1 := hx72; rw [z, hx70] at z1; simp at z1)]; exact hx72
    have hx80 : f75 rg = .inr (1, [.double rl, .double rh]) := by rw [hf76, va_up_ne _ _ (fun z => by have z1 := hx73; rw [z, hx70] at z1; simp at z1)]; exact hx73
    have hF81 : f75 = va_up f a (.inr (0, [.double (x 0), .double (x 1), .double (x 2), .ref lm, .ref bd, .ref rg, .ref tn, .double (x 3), .double (x 4), .double (x 4), .double (x 6), .double (x 7), .double (x 8), .int md, .int (fa + 1), .null])) := by rw [hf76, hF74, va_up_up]
    exact g_vret hC dX0_pass_29 rfl ⟨rfl, rfl, Or.inl ⟨c5, hF81⟩⟩ (Nat.zero_le _) (Nat.zero_le _)
set_option maxHeartbeats 4000000 in
set_option maxRecDepth 100000 in
/-- pass(measured, target), with an outer loop -/
theorem ct_X0_pass_s (l : Launch) (G : GD) (L : List Nat) (f : Nat → va_E) (a lm bd rg tn : Nat) (x : Nat → UInt64) (md fa : Int32) (lo hi bl bh rl rh : UInt64) (m tg : UInt64) (b lm2 bd2 rg2 tn2 : Nat) (y : Nat → UInt64) (md2 fa2 : Int32) (ou2 : Option Nat) (hL_a : a ∈ L) (h0 : f a = eLp x md fa lm bd rg tn (some b)) (hL_lm : lm ∈ L) (hL_bd : bd ∈ L) (hL_rg : rg ∈ L) (h1 : f lm = eSp lo hi) (h2 : f bd = eSp bl bh) (h3 : f rg = eSp rl rh) (hL_b : b ∈ L) (h4 : f b = eLp y md2 fa2 lm2 bd2 rg2 tn2 ou2) : Ctr l yX0_pass cX0_pass 7 none { frames := 2, cells := 0, slots := 0, locals := 50 } G [.ref a, .double m, .double tg] L f (fun vv L1 f1 => vv = none ∧ L = L1 ∧ ((inB (dv m) (dv rl) (dv rh) = false ∧ f1 = va_up f a (eLp (va_up x 5 (x 4)) md (fa + 1) lm bd rg tn (some b))) ∨ (inB (dv m) (dv rl) (dv rh) = true ∧ ∃ u s e : UInt64, dv e = qsub (dv (y 5)) (dv m) ∧ dv u = tU (dz x) md (dv lo) (dv hi) (dv bl) (dv bh) (dv e) ∧ dv s = tS (dz x) md (dv lo) (dv hi) (dv e) ∧ f1 = va_up f a (eLp (va_up (va_up (va_up x 6 s) 5 u) 7 e) md fa lm bd rg tn (some b))))) := by
  refine g_enter RX0 false (by decide) rfl (fun h => by cases h) (Nat.le_of_ble_eq_true rfl) (fun C hC => ?_)
  refine (show V C 7 L f 0 0 0 [(0, .ref a), (1, .double m), (3, .double tg)] [] from ?_)
  refine g_aload_n hC dX0_pass_0 0 rfl ?_
  refine g_get hC (kf := 5) (TT := TX0) (N := 16) (Cn := RX0) dX0_pass_1 hL_a h0 rfl q_u0 (by decide) q_fl_X0_31 rfl rfl ?_
  refine g_dload_n hC dX0_pass_4 1 rfl ?_
  refine g_callV hC (Cn := RX1) (TT := TX1) (N := 2) dX0_pass_5 (ct_X1_holds l G L f rg rl rh m hL_rg h3) q_code_X1_holds q_ml_X0_58 q_im_X1_holds q_sel_X1_holds q_init_X1 ⟨rfl, by decide, by decide, (show (parseMethodDescriptor yX1_holds.desc).map (fun d => d.parameters.length) = some 1 from by decide +kernel)⟩ hL_rg h3 rfl (by decide) (by decide) (Nat.le_of_ble_eq_true rfl) (fun v2 L3 f4 hp1 => ?_)
  obtain ⟨rfl, rfl, rfl⟩ := hp1
  refine (show V C 7 L f 0 0 8 [(0, .ref a), (1, .double m), (3, .double tg)] [.int (bI (inB (dv m) (dv rl) (dv rh)))] from ?_)
  refine g_ifB_ne hC 30 dX0_pass_8 (by decide) (fun c5 => ?_) (fun c5 => ?_)
  · skip
    refine g_aload_n hC dX0_pass_30 0 rfl ?_
    refine g_get hC (kf := 15) (TT := TX0) (N := 16) (Cn := RX0) dX0_pass_31 hL_a h0 rfl q_u0 (by decide) q_fl_X0_71 rfl rfl ?_
    refine g_ifnonnull hC 41 dX0_pass_34 (by decide) ?_
    refine g_aload_n hC dX0_pass_41 0 rfl ?_
    refine g_get hC (kf := 15) (TT := TX0) (N := 16) (Cn := RX0) dX0_pass_42 hL_a h0 rfl q_u0 (by decide) q_fl_X0_71 rfl rfl ?_
    refine g_get hC (kf := 9) (TT := TX0) (N := 16) (Cn := RX0) dX0_pass_45 hL_b h4 rfl q_u0 (by decide) q_fl_X0_65 rfl rfl ?_
    refine g_dload_n hC dX0_pass_48 1 rfl ?_
    refine g_dsub hC dX0_pass_49 (fun r6 er6 => ?_)
    refine g_dstore hC (lv1 := [(5, .double r6), (0, .ref a), (1, .double m), (3, .double tg)]) dX0_pass_50 (by decide) rfl ?_
    refine g_aload_n hC dX0_pass_52 1 rfl ?_
    refine g_get hC (kf := 13) (TT := TX0) (N := 16) (Cn := RX0) dX0_pass_53 hL_a h0 rfl q_u0 (by decide) q_fl_X0_45 rfl rfl ?_
    refine g_if_ne hC 70 dX0_pass_56 (by decide) (fun c7 => ?_) (fun c7 => ?_)
    · skip
      refine g_aload_n hC dX0_pass_70 1 rfl ?_
      refine g_get hC (kf := 13) (TT := TX0) (N := 16) (Cn := RX0) dX0_pass_71 hL_a h0 rfl q_u0 (by decide) q_fl_X0_45 rfl rfl ?_
      refine g_iconst hC 1 dX0_pass_74 (by decide) ?_
      refine g_icmp_ne hC 87 dX0_pass_75 (by decide) (fun c8 => ?_) (fun c8 => ?_)
      · skip
        refine g_aload_n hC dX0_pass_87 1 rfl ?_
        refine g_dload hC dX0_pass_88 0 rfl ?_
        refine g_callV hC (Cn := RX0) (TT := TX0) (N := 16) dX0_pass_90 (ct_X0_switchOnOrOff l G L f a lm bd rg tn (x) md fa (some b) lo hi bl bh r6 hL_a h0 hL_lm hL_bd h1 h2) q_code_X0_switchOnOrOff q_ml_X0_85 q_im_X0_switchOnOrOff q_sel_X0_switchOnOrOff q_init_X0 ⟨rfl, by decide, by decide, (show (parseMethodDescriptor yX0_switchOnOrOff.desc).map (fun d => d.parameters.length) = some 1 from by decide +kernel)⟩ hL_a h0 rfl (by decide) (by decide) (Nat.le_of_ble_eq_true rfl) (fun v10 L11 f12 hp9 => ?_)
        obtain ⟨rfl, rfl, u13, hu14, hf15⟩ := hp9
        have hf15x : f12 = va_up f a (.inr (0, [.double (x 0), .double (x 1), .double (x 2), .ref lm, .ref bd, .ref rg, .ref tn, .double (x 3), .double (x 4), .double u13, .double (x 6), .double (x 7), .double (x 8), .int md, .int fa, .ref b])) := hf15
        have hx16 : f12 a = .inr (0, [.double (x 0), .double (x 1), .double (x 2), .ref lm, .ref bd, .ref rg, .ref tn, .double (x 3), .double (x 4), .double u13, .double (x 6), .double (x 7), .double (x 8), .int md, .int fa, .ref b]) := by rw [hf15x]; exact va_up_self _ _ _
        have hx17 : f12 lm = .inr (1, [.double lo, .double hi]) := by rw [hf15x, va_up_ne _ _ (fun z => by have z1 := h1; rw [z, h0] at z1; simp at z1)]; exact h1
        have hx18 : f12 bd = .inr (1, [.double bl, .double bh]) := by rw [hf15x, va_up_ne _ _ (fun z => by have z1 := h2; rw [z, h0] at z1; simp at z1)]; exact h2
        have hx19 : f12 rg = .inr (1, [.double rl, .double rh]) := by rw [hf15x, va_up_ne _ _ (fun z => by have z1 := h3; rw [z, h0] at z1; simp at z1)]; exact h3
        have hF21 : f12 = va_up f a (.inr (0, [.double (x 0), .double (x 1), .double (x 2), .ref lm, .ref bd, .ref rg, .ref tn, .double (x 3), .double (x 4), .double u13, .double (x 6), .double (x 7), .double (x 8), .int md, .int fa, .ref b])) := hf15x
        refine (show V C 7 L f12 0 0 93 [(5, .double r6), (0, .ref a), (1, .double m), (3, .double tg)] [] from ?_)
        refine g_aload_n hC dX0_pass_93 1 rfl ?_
        refine g_dload hC dX0_pass_94 0 rfl ?_
        refine g_put hC (kf := 11) (TT := TX0) (N := 16) (Cn := RX0) (ty0 := tyX0) (fs1 := [.double (x 0), .double (x 1), .double (x 2), .ref lm, .ref bd, .ref rg, .ref tn, .double (x 3), .double (x 4), .double u13, .double (x 6), .double r6, .double (x 8), .int md, .int fa, .ref b]) dX0_pass_96 hL_a hx16 rfl q_u0 (by decide) tyX0_ok nmX0 q_fl_X0_88 rfl rfl rfl rfl rfl (Nat.le_of_ble_eq_true rfl) rfl ?_
        refine g_nm (fun f22 hf23 => ?_)
        have hx24 : f22 a = .inr (0, [.double (x 0), .double (x 1), .double (x 2), .ref lm, .ref bd, .ref rg, .ref tn, .double (x 3), .double (x 4), .double u13, .double (x 6), .double r6, .double (x 8), .int md, .int fa, .ref b]) := by rw [hf23]; exact va_up_self _ _ _
        have hx25 : f22 lm = .inr (1, [.double lo, .double hi]) := by rw [hf23, va_up_ne _ _ (fun z => by have z1 := hx17; rw [z, hx16] at z1; simp at z1)]; exact hx17
        have hx26 : f22 bd = .inr (1, [.double bl, .double bh]) := by rw [hf23, va_up_ne _ _ (fun z => by have z1 := hx18; rw [z, hx16] at z1; simp at z1)]; exact hx18
        have hx27 : f22 rg = .inr (1, [.double rl, .double rh]) := by rw [hf23, va_up_ne _ _ (fun z => by have z1 := hx19; rw [z, hx16] at z1; simp at z1)]; exact hx19
        have hF28 : f22 = va_up f a (.inr (0, [.double (x 0), .double (x 1), .double (x 2), .ref lm, .ref bd, .ref rg, .ref tn, .double (x 3), .double (x 4), .double u13, .double (x 6), .double r6, .double (x 8), .int md, .int fa, .ref b])) := by rw [hf23, hF21, va_up_up]
        exact g_vret hC dX0_pass_99 rfl ⟨rfl, rfl, Or.inr ⟨c5, u13, (x 6), r6, er6, by simp [dz, va_up, tU, fU, fV, fA, oU, c7, c8, hu14], by simp [dz, va_up, tS, fS, fV, fA, c7, c8, hu14], hF28⟩⟩ (Nat.zero_le _) (Nat.zero_le _)
      · skip
        refine g_aload_n hC dX0_pass_78 1 rfl ?_
        refine g_dload hC dX0_pass_79 0 rfl ?_
        refine g_callV hC (Cn := RX0) (TT := TX0) (N := 16) dX0_pass_81 (ct_X0_followLaw l G L f a lm bd rg tn (x) md fa (some b) lo hi r6 hL_a h0 hL_lm h1) q_code_X0_followLaw q_ml_X0_82 q_im_X0_followLaw q_sel_X0_followLaw q_init_X0 ⟨rfl, by decide, by decide, (show (parseMethodDescriptor yX0_followLaw.desc).map (fun d => d.parameters.length) = some 1 from by decide +kernel)⟩ hL_a h0 rfl (by decide) (by decide) (Nat.le_of_ble_eq_true rfl) (fun v30 L31 f32 hp29 => ?_)
        obtain ⟨rfl, rfl, u33, s34, hu35, hs36, hf37⟩ := hp29
        have hf37x : f32 = va_up f a (.inr (0, [.double (x 0), .double (x 1), .double (x 2), .ref lm, .ref bd, .ref rg, .ref tn, .double (x 3), .double (x 4), .double u33, .double s34, .double (x 7), .double (x 8), .int md, .int fa, .ref b])) := hf37
        have hx38 : f32 a = .inr (0, [.double (x 0), .double (x 1), .double (x 2), .ref lm, .ref bd, .ref rg, .ref tn, .double (x 3), .double (x 4), .double u33, .double s34, .double (x 7), .double (x 8), .int md, .int fa, .ref b]) := by rw [hf37x]; exact va_up_self _ _ _
        have hx39 : f32 lm = .inr (1, [.double lo, .double hi]) := by rw [hf37x, va_up_ne _ _ (fun z => by have z1 := h1; rw [z, h0] at z1; simp at z1)]; exact h1
        have hx40 : f32 bd = .inr (1, [.double bl, .double bh]) := by rw [hf37x, va_up_ne _ _ (fun z => by have z1 := h2; rw [z, h0] at z1; simp at z1)]; exact h2
        have hx41 : f32 rg = .inr (1, [.double rl, .double rh]) := by rw [hf37x, va_up_ne _ _ (fun z => by have z1 := h3; rw [z, h0] at z1; simp at z1)]; exact h3
        have hF43 : f32 = va_up f a (.inr (0, [.double (x 0), .double (x 1), .double (x 2), .ref lm, .ref bd, .ref rg, .ref tn, .double (x 3), .double (x 4), .double u33, .double s34, .double (x 7), .double (x 8), .int md, .int fa, .ref b])) := hf37x
        refine (show V C 7 L f32 0 0 84 [(5, .double r6), (0, .ref a), (1, .double m), (3, .double tg)] [] from ?_)
        refine g_goto hC 93 dX0_pass_84 (by decide) ?_
        refine g_aload_n hC dX0_pass_93 1 rfl ?_
        refine g_dload hC dX0_pass_94 0 rfl ?_
        refine g_put hC (kf := 11) (TT := TX0) (N := 16) (Cn := RX0) (ty0 := tyX0) (fs1 := [.double (x 0), .double (x 1), .double (x 2), .ref lm, .ref bd, .ref rg, .ref tn, .double (x 3), .double (x 4), .double u33, .double s34, .double r6, .double (x 8), .int md, .int fa, .ref b]) dX0_pass_96 hL_a hx38 rfl q_u0 (by decide) tyX0_ok nmX0 q_fl_X0_88 rfl rfl rfl rfl rfl (Nat.le_of_ble_eq_true rfl) rfl ?_
        refine g_nm (fun f44 hf45 => ?_)
        have hx46 : f44 a = .inr (0, [.double (x 0), .double (x 1), .double (x 2), .ref lm, .ref bd, .ref rg, .ref tn, .double (x 3), .double (x 4), .double u33, .double s34, .double r6, .double (x 8), .int md, .int fa, .ref b]) := by rw [hf45]; exact va_up_self _ _ _
        have hx47 : f44 lm = .inr (1, [.double lo, .double hi]) := by rw [hf45, va_up_ne _ _ (fun z => by have z1 := hx39; rw [z, hx38] at z1; simp at z1)]; exact hx39
        have hx48 : f44 bd = .inr (1, [.double bl, .double bh]) := by rw [hf45, va_up_ne _ _ (fun z => by have z1 := hx40; rw [z, hx38] at z1; simp at z1)]; exact hx40
        have hx49 : f44 rg = .inr (1, [.double rl, .double rh]) := by rw [hf45, va_up_ne _ _ (fun z => by have z1 := hx41; rw [z, hx38] at z1; simp at z1)]; exact hx41
        have hF50 : f44 = va_up f a (.inr (0, [.double (x 0), .double (x 1), .double (x 2), .ref lm, .ref bd, .ref rg, .ref tn, .double (x 3), .double (x 4), .double u33, .double s34, .double r6, .double (x 8), .int md, .int fa, .ref b])) := by rw [hf45, hF43, va_up_up]
        exact g_vret hC dX0_pass_99 rfl ⟨rfl, rfl, Or.inr ⟨c5, u33, s34, r6, er6, by simp [dz, va_up, tU, fU, fV, fA, oU, c7, c8, hu35, hs36], by simp [dz, va_up, tS, fS, fV, fA, c7, c8, hu35, hs36], hF50⟩⟩ (Nat.zero_le _) (Nat.zero_le _)
    · skip
      refine g_aload_n hC dX0_pass_59 1 rfl ?_
      refine g_aload_n hC dX0_pass_60 1 rfl ?_
      refine g_get hC (kf := 12) (TT := TX0) (N := 16) (Cn := RX0) dX0_pass_61 hL_a h0 rfl q_u0 (by decide) q_fl_X0_75 rfl rfl ?_
      refine g_callV hC (Cn := RX0) (TT := TX0) (N := 16) dX0_pass_64 (ct_X0_moveTo l G L f a lm bd rg tn (x) md fa (some b) (x 8) hL_a h0) q_code_X0_moveTo q_ml_X0_78 q_im_X0_moveTo q_sel_X0_moveTo q_init_X0 ⟨rfl, by decide, by decide, (show (parseMethodDescriptor yX0_moveTo.desc).map (fun d => d.parameters.length) = some 1 from by decide +kernel)⟩ hL_a h0 rfl (by decide) (by decide) (Nat.le_of_ble_eq_true rfl) (fun v52 L53 f54 hp51 => ?_)
      obtain ⟨rfl, rfl, u55, hu56, hf57⟩ := hp51
      have hf57x : f54 = va_up f a (.inr (0, [.double (x 0), .double (x 1), .double (x 2), .ref lm, .ref bd, .ref rg, .ref tn, .double (x 3), .double (x 4), .double u55, .double (x 6), .double (x 7), .double (x 8), .int md, .int fa, .ref b])) := hf57
      have hx58 : f54 a = .inr (0, [.double (x 0), .double (x 1), .double (x 2), .ref lm, .ref bd, .ref rg, .ref tn, .double (x 3), .double (x 4), .double u55, .double (x 6), .double (x 7), .double (x 8), .int md, .int fa, .ref b]) := by rw [hf57x]; exact va_up_self _ _ _
      have hx59 : f54 lm = .inr (1, [.double lo, .double hi]) := by rw [hf57x, va_up_ne _ _ (fun z => by have z1 := h1; rw [z, h0] at z1; simp at z1)]; exact h1
      have hx60 : f54 bd = .inr (1, [.double bl, .double bh]) := by rw [hf57x, va_up_ne _ _ (fun z => by have z1 := h2; rw [z, h0] at z1; simp at z1)]; exact h2
      have hx61 : f54 rg = .inr (1, [.double rl, .double rh]) := by rw [hf57x, va_up_ne _ _ (fun z => by have z1 := h3; rw [z, h0] at z1; simp at z1)]; exact h3
      have hF63 : f54 = va_up f a (.inr (0, [.double (x 0), .double (x 1), .double (x 2), .ref lm, .ref bd, .ref rg, .ref tn, .double (x 3), .double (x 4), .double u55, .double (x 6), .double (x 7), .double (x 8), .int md, .int fa, .ref b])) := hf57x
      refine (show V C 7 L f54 0 0 67 [(5, .double r6), (0, .ref a), (1, .double m), (3, .double tg)] [] from ?_)
      refine g_goto hC 93 dX0_pass_67 (by decide) ?_
      refine g_aload_n hC dX0_pass_93 1 rfl ?_
      refine g_dload hC dX0_pass_94 0 rfl ?_
      refine g_put hC (kf := 11) (TT := TX0) (N := 16) (Cn := RX0) (ty0 := tyX0) (fs1 := [.double (x 0), .double (x 1), .double (x 2), .ref lm, .ref bd, .ref rg, .ref tn, .double (x 3), .double (x 4), .double u55, .double (x 6), .double r6, .double (x 8), .int md, .int fa, .ref b]) dX0_pass_96 hL_a hx58 rfl q_u0 (by decide) tyX0_ok nmX0 q_fl_X0_88 rfl rfl rfl rfl rfl (Nat.le_of_ble_eq_true rfl) rfl ?_
      refine g_nm (fun f64 hf65 => ?_)
      have hx66 : f64 a = .inr (0, [.double (x 0), .double (x 1), .double (x 2), .ref lm, .ref bd, .ref rg, .ref tn, .double (x 3), .double (x 4), .double u55, .double (x 6), .double r6, .double (x 8), .int md, .int fa, .ref b]) := by rw [hf65]; exact va_up_self _ _ _
      have hx67 : f64 lm = .inr (1, [.double lo, .double hi]) := by rw [hf65, va_up_ne _ _ (fun z => by have z1 := hx59; rw [z, hx58] at z1; simp at z1)]; exact hx59
      have hx68 : f64 bd = .inr (1, [.double bl, .double bh]) := by rw [hf65, va_up_ne _ _ (fun z => by have z1 := hx60; rw [z, hx58] at z1; simp at z1)]; exact hx60
      have hx69 : f64 rg = .inr (1, [.double rl, .double rh]) := by rw [hf65, va_up_ne _ _ (fun z => by have z1 := hx61; rw [z, hx58] at z1; simp at z1)]; exact hx61
      have hF70 : f64 = va_up f a (.inr (0, [.double (x 0), .double (x 1), .double (x 2), .ref lm, .ref bd, .ref rg, .ref tn, .double (x 3), .double (x 4), .double u55, .double (x 6), .double r6, .double (x 8), .int md, .int fa, .ref b])) := by rw [hf65, hF63, va_up_up]
      exact g_vret hC dX0_pass_99 rfl ⟨rfl, rfl, Or.inr ⟨c5, u55, (x 6), r6, er6, by simp [dz, va_up, tU, fU, fV, fA, oU, c7, hu56], by simp [dz, va_up, tS, fS, fV, fA, c7, hu56], hF70⟩⟩ (Nat.zero_le _) (Nat.zero_le _)
  · skip
    refine g_aload_n hC dX0_pass_11 0 rfl ?_
    refine g_aload_n hC dX0_pass_12 0 rfl ?_
    refine g_get hC (kf := 8) (TT := TX0) (N := 16) (Cn := RX0) dX0_pass_13 hL_a h0 rfl q_u0 (by decide) q_fl_X0_62 rfl rfl ?_
    refine g_put hC (kf := 9) (TT := TX0) (N := 16) (Cn := RX0) (ty0 := tyX0) (fs1 := [.double (x 0), .double (x 1), .double (x 2), .ref lm, .ref bd, .ref rg, .ref tn, .double (x 3), .double (x 4), .double (x 4), .double (x 6), .double (x 7), .double (x 8), .int md, .int fa, .ref b]) dX0_pass_16 hL_a h0 rfl q_u0 (by decide) tyX0_ok nmX0 q_fl_X0_65 rfl rfl rfl rfl rfl (Nat.le_of_ble_eq_true rfl) rfl ?_
    refine g_nm (fun f71 hf72 => ?_)
    have hx73 : f71 a = .inr (0, [.double (x 0), .double (x 1), .double (x 2), .ref lm, .ref bd, .ref rg, .ref tn, .double (x 3), .double (x 4), .double (x 4), .double (x 6), .double (x 7), .double (x 8), .int md, .int fa, .ref b]) := by rw [hf72]; exact va_up_self _ _ _
    have hx74 : f71 lm = .inr (1, [.double lo, .double hi]) := by rw [hf72, va_up_ne _ _ (fun z => by have z1 := h1; rw [z, h0] at z1; simp at z1)]; exact h1
    have hx75 : f71 bd = .inr (1, [.double bl, .double bh]) := by rw [hf72, va_up_ne _ _ (fun z => by have z1 := h2; rw [z, h0] at z1; simp at z1)]; exact h2
    have hx76 : f71 rg = .inr (1, [.double rl, .double rh]) := by rw [hf72, va_up_ne _ _ (fun z => by have z1 := h3; rw [z, h0] at z1; simp at z1)]; exact h3
    have hF78 : f71 = va_up f a (.inr (0, [.double (x 0), .double (x 1), .double (x 2), .ref lm, .ref bd, .ref rg, .ref tn, .double (x 3), .double (x 4), .double (x 4), .double (x 6), .double (x 7), .double (x 8), .int md, .int fa, .ref b])) := hf72
    refine g_aload_n hC dX0_pass_19 0 rfl ?_
    refine g_dup hC dX0_pass_20 rfl ?_
    refine g_get hC (kf := 14) (TT := TX0) (N := 16) (Cn := RX0) dX0_pass_21 hL_a hx73 rfl q_u0 (by decide) q_fl_X0_68 rfl rfl ?_
    refine g_iconst hC 1 dX0_pass_24 (by decide) ?_
    refine g_iadd hC dX0_pass_25 ?_
    refine g_put hC (kf := 14) (TT := TX0) (N := 16) (Cn := RX0) (ty0 := tyX0) (fs1 := [.double (x 0), .double (x 1), .double (x 2), .ref lm, .ref bd, .ref rg, .ref tn, .double (x 3), .double (x 4), .double (x 4), .double (x 6), .double (x 7), .double (x 8), .int md, .int (fa + 1), .ref b]) dX0_pass_26 hL_a hx73 rfl q_u0 (by decide) tyX0_ok nmX0 q_fl_X0_68 rfl rfl rfl rfl rfl (Nat.le_of_ble_eq_true rfl) rfl ?_
    refine g_nm (fun f79 hf80 => ?_)
    have hx81 : f79 a = .inr (0, [.double (x 0), .double (x 1), .double (x 2), .ref lm, .ref bd, .ref rg, .ref tn, .double (x 3), .double (x 4), .double (x 4), .double (x 6), .double (x 7), .double (x 8), .int md, .int (fa + 1), .ref b]) := by rw [hf80]; exact va_up_self _ _ _
    have hx82 : f79 lm = .inr (1, [.double lo, .double hi]) := by rw [hf80, va_up_ne _ _ (fun z => by have z1 := hx74; rw [z, hx73] at z1; simp at z1)]; exact hx74
    have hx83 : f79 bd = .inr (1, [.double bl, .double bh]) := by rw [hf80, va_up_ne _ _ (fun z => by have z1 := hx75; rw [z, hx73] at z1; simp at z1)]; exact hx75
    have hx84 : f79 rg = .inr (1, [.double rl, .double rh]) := by rw [hf80, va_up_ne _ _ (fun z => by have z1 := hx76; rw [z, hx73] at z1; simp at z1)]; exact hx76
    have hF85 : f79 = va_up f a (.inr (0, [.double (x 0), .double (x 1), .double (x 2), .ref lm, .ref bd, .ref rg, .ref tn, .double (x 3), .double (x 4), .double (x 4), .double (x 6), .double (x 7), .double (x 8), .int md, .int (fa + 1), .ref b])) := by rw [hf80, hF78, va_up_up]
    exact g_vret hC dX0_pass_29 rfl ⟨rfl, rfl, Or.inl ⟨c5, hF85⟩⟩ (Nat.zero_le _) (Nat.zero_le _)
set_option maxHeartbeats 4000000 in
set_option maxRecDepth 100000 in
/-- turnTo(m) -/
theorem ct_X0_turnTo (l : Launch) (G : GD) (L : List Nat) (f : Nat → va_E) (a lm bd rg tn : Nat) (x : Nat → UInt64) (md fa : Int32) (ou : Option Nat) (m : Int32) (hL_a : a ∈ L) (h0 : f a = eLp x md fa lm bd rg tn ou) : Ctr l yX0_turnTo cX0_turnTo 2 none R00 G [.ref a, .int m] L f (fun vv L1 f1 => vv = none ∧ L = L1 ∧ ((m = md ∧ f = f1) ∨ (¬ m = md ∧ ∃ h s : UInt64, dv h = (if m = 0 then dv (x 5) else dv (x 8)) ∧ dv s = (if m = 1 then qsub (dv (x 5)) (qmul (dv (x 0)) (dv (x 7))) else dv (x 6)) ∧ f1 = va_up f a (eLp (va_up (va_up x 6 s) 8 h) m fa lm bd rg tn ou)))) := by
  refine g_enter RX0 false (by decide) rfl (fun h => by cases h) (Nat.le_of_ble_eq_true rfl) (fun C hC => ?_)
  refine (show V C 2 L f 0 0 0 [(0, .ref a), (1, .int m)] [] from ?_)
  refine g_iload_n hC dX0_turnTo_0 1 rfl ?_
  refine g_aload_n hC dX0_turnTo_1 0 rfl ?_
  refine g_get hC (kf := 13) (TT := TX0) (N := 16) (Cn := RX0) dX0_turnTo_2 hL_a h0 rfl q_u0 (by decide) q_fl_X0_45 rfl rfl ?_
  refine g_icmp_ne hC 9 dX0_turnTo_5 (by decide) (fun c1 => ?_) (fun c1 => ?_)
  · skip
    refine g_aload_n hC dX0_turnTo_9 0 rfl ?_
    refine g_iload_n hC dX0_turnTo_10 1 rfl ?_
    refine g_put hC (kf := 13) (TT := TX0) (N := 16) (Cn := RX0) (ty0 := tyX0) (fs1 := [.double (x 0), .double (x 1), .double (x 2), .ref lm, .ref bd, .ref rg, .ref tn, .double (x 3), .double (x 4), .double (x 5), .double (x 6), .double (x 7), .double (x 8), .int m, .int fa, va_rf ou]) dX0_turnTo_11 hL_a h0 rfl q_u0 (by decide) tyX0_ok nmX0 q_fl_X0_45 rfl rfl rfl rfl rfl (Nat.le_of_ble_eq_true rfl) rfl ?_
    refine g_nm (fun f2 hf3 => ?_)
    have hx4 : f2 a = .inr (0, [.double (x 0), .double (x 1), .double (x 2), .ref lm, .ref bd, .ref rg, .ref tn, .double (x 3), .double (x 4), .double (x 5), .double (x 6), .double (x 7), .double (x 8), .int m, .int fa, va_rf ou]) := by rw [hf3]; exact va_up_self _ _ _
    have hF5 : f2 = va_up f a (.inr (0, [.double (x 0), .double (x 1), .double (x 2), .ref lm, .ref bd, .ref rg, .ref tn, .double (x 3), .double (x 4), .double (x 5), .double (x 6), .double (x 7), .double (x 8), .int m, .int fa, va_rf ou])) := hf3
    refine g_iload_n hC dX0_turnTo_14 1 rfl ?_
    refine g_if_ne hC 29 dX0_turnTo_15 (by decide) (fun c6 => ?_) (fun c6 => ?_)
    · skip
      refine g_iload_n hC dX0_turnTo_29 1 rfl ?_
      refine g_iconst hC 1 dX0_turnTo_30 (by decide) ?_
      refine g_icmp_ne hC 52 dX0_turnTo_31 (by decide) (fun c7 => ?_) (fun c7 => ?_)
      · skip
        exact g_vret hC dX0_turnTo_52 rfl ⟨rfl, rfl, Or.inr ⟨c1, (x 8), (x 6), by simp [c6, c7], by simp [c6, c7], hF5⟩⟩ (Nat.zero_le _) (Nat.zero_le _)
      · skip
        refine g_aload_n hC dX0_turnTo_34 0 rfl ?_
        refine g_aload_n hC dX0_turnTo_35 0 rfl ?_
        refine g_get hC (kf := 9) (TT := TX0) (N := 16) (Cn := RX0) dX0_turnTo_36 hL_a hx4 rfl q_u0 (by decide) q_fl_X0_65 rfl rfl ?_
        refine g_aload_n hC dX0_turnTo_39 0 rfl ?_
        refine g_get hC (kf := 0) (TT := TX0) (N := 16) (Cn := RX0) dX0_turnTo_40 hL_a hx4 rfl q_u0 (by decide) q_fl_X0_49 rfl rfl ?_
        refine g_aload_n hC dX0_turnTo_43 0 rfl ?_
        refine g_get hC (kf := 11) (TT := TX0) (N := 16) (Cn := RX0) dX0_turnTo_44 hL_a hx4 rfl q_u0 (by decide) q_fl_X0_88 rfl rfl ?_
        refine g_dmul hC dX0_turnTo_47 (fun r8 er8 => ?_)
        refine g_dsub hC dX0_turnTo_48 (fun r9 er9 => ?_)
        try simp only [er8] at er9
        refine g_put hC (kf := 10) (TT := TX0) (N := 16) (Cn := RX0) (ty0 := tyX0) (fs1 := [.double (x 0), .double (x 1), .double (x 2), .ref lm, .ref bd, .ref rg, .ref tn, .double (x 3), .double (x 4), .double (x 5), .double r9, .double (x 7), .double (x 8), .int m, .int fa, va_rf ou]) dX0_turnTo_49 hL_a hx4 rfl q_u0 (by decide) tyX0_ok nmX0 q_fl_X0_91 rfl rfl rfl rfl rfl (Nat.le_of_ble_eq_true rfl) rfl ?_
        refine g_nm (fun f10 hf11 => ?_)
        have hx12 : f10 a = .inr (0, [.double (x 0), .double (x 1), .double (x 2), .ref lm, .ref bd, .ref rg, .ref tn, .double (x 3), .double (x 4), .double (x 5), .double r9, .double (x 7), .double (x 8), .int m, .int fa, va_rf ou]) := by rw [hf11]; exact va_up_self _ _ _
        have hF13 : f10 = va_up f a (.inr (0, [.double (x 0), .double (x 1), .double (x 2), .ref lm, .ref bd, .ref rg, .ref tn, .double (x 3), .double (x 4), .double (x 5), .double r9, .double (x 7), .double (x 8), .int m, .int fa, va_rf ou])) := by rw [hf11, hF5, va_up_up]
        exact g_vret hC dX0_turnTo_52 rfl ⟨rfl, rfl, Or.inr ⟨c1, (x 8), r9, by simp [c6, c7, er8, er9], by simp [c6, c7, er8, er9], hF13⟩⟩ (Nat.zero_le _) (Nat.zero_le _)
    · skip
      refine g_aload_n hC dX0_turnTo_18 0 rfl ?_
      refine g_aload_n hC dX0_turnTo_19 0 rfl ?_
      refine g_get hC (kf := 9) (TT := TX0) (N := 16) (Cn := RX0) dX0_turnTo_20 hL_a hx4 rfl q_u0 (by decide) q_fl_X0_65 rfl rfl ?_
      refine g_put hC (kf := 12) (TT := TX0) (N := 16) (Cn := RX0) (ty0 := tyX0) (fs1 := [.double (x 0), .double (x 1), .double (x 2), .ref lm, .ref bd, .ref rg, .ref tn, .double (x 3), .double (x 4), .double (x 5), .double (x 6), .double (x 7), .double (x 5), .int m, .int fa, va_rf ou]) dX0_turnTo_23 hL_a hx4 rfl q_u0 (by decide) tyX0_ok nmX0 q_fl_X0_75 rfl rfl rfl rfl rfl (Nat.le_of_ble_eq_true rfl) rfl ?_
      refine g_nm (fun f14 hf15 => ?_)
      have hx16 : f14 a = .inr (0, [.double (x 0), .double (x 1), .double (x 2), .ref lm, .ref bd, .ref rg, .ref tn, .double (x 3), .double (x 4), .double (x 5), .double (x 6), .double (x 7), .double (x 5), .int m, .int fa, va_rf ou]) := by rw [hf15]; exact va_up_self _ _ _
      have hF17 : f14 = va_up f a (.inr (0, [.double (x 0), .double (x 1), .double (x 2), .ref lm, .ref bd, .ref rg, .ref tn, .double (x 3), .double (x 4), .double (x 5), .double (x 6), .double (x 7), .double (x 5), .int m, .int fa, va_rf ou])) := by rw [hf15, hF5, va_up_up]
      refine g_goto hC 52 dX0_turnTo_26 (by decide) ?_
      exact g_vret hC dX0_turnTo_52 rfl ⟨rfl, rfl, Or.inr ⟨c1, (x 5), (x 6), by simp [c6], by simp [c6], hF17⟩⟩ (Nat.zero_le _) (Nat.zero_le _)
  · skip
    exact g_vret hC dX0_turnTo_8 rfl ⟨rfl, rfl, Or.inl ⟨c1, rfl⟩⟩ (Nat.zero_le _) (Nat.zero_le _)
end
section
theorem dfX0 : ∀ j, j < 16 → defaultValue (tyX0 j) = vp_V [.double 0, .double 0, .double 0, .null, .null, .null, .null, .double 0, .double 0, .double 0, .double 0, .double 0, .double 0, .int 0, .int 0, .null] j := by decide +kernel
theorem dfX1 : ∀ j, j < 2 → defaultValue (tyX1 j) = vp_V [.double 0, .double 0] j := by decide +kernel
theorem dfX2 : ∀ j, j < 2 → defaultValue (tyX2 j) = vp_V [.null, .double 0] j := by decide +kernel
theorem dfX3 : ∀ j, j < 7 → defaultValue (tyX3 j) = vp_V [.double 0, .int 0, .int 0, .int 0, .double 0, .double 0, .int 0] j := by decide +kernel
theorem dfX4 : ∀ j, j < 4 → defaultValue (tyX4 j) = vp_V [.null, .null, .int 0, .int 0] j := by decide +kernel
theorem dfX5 : ∀ j, j < 26 → defaultValue (tyX5 j) = vp_V [.int 0, .null, .null, .null, .null, .null, .null, .null, .null, .null, .null, .null, .null, .null, .null, .null, .null, .null, .null, .null, .null, .null, .null, .int 0, .null, .null] j := by decide +kernel
def xI (p i d : UInt64) : Nat → UInt64 := fun j => if j = 0 then p else if j = 1 then i else if j = 2 then d else if j = 3 then 4636737291354636288 else 0
def clS (s : DT) : DT := if qlt s (dv 0) = true then dv 0 else if qgt s (dv 4636737291354636288) = true then dv 4636737291354636288 else s
def shS (at0 u lo hi : DT) (which : Int32) : DT := if inS at0 lo hi = true then clS (if which = 0 then qmul (qdiv (qsub u lo) (qsub at0 lo)) (dv 4636737291354636288) else qmul (qdiv (qsub u at0) (qsub hi at0)) (dv 4636737291354636288)) else dv 0
theorem ne_new {L : List Nat} {b q : Nat} (hb : b ∈ L) (hq : q ∉ L) : b ≠ q := fun z => hq (z ▸ hb)
theorem mem_r {L : List Nat} {q : Nat} : q ∈ L ++ [q] := List.mem_append_right _ (List.mem_singleton.mpr rfl)
theorem mem_l {L M : List Nat} {a : Nat} (h : a ∈ L) : a ∈ L ++ M := List.mem_append_left _ h
set_option maxHeartbeats 4000000 in
set_option maxRecDepth 100000 in
/-- Tuning() -/
theorem ct_X3_init (l : Launch) (G : GD) (L : List Nat) (f : Nat → va_E) (a : Nat) (hL_a : a ∈ L) (h0 : f a = eTn 0 0 0 0 0 0 0) : Ctr l yX3_init cX3_init 1 none { frames := 1, cells := 0, slots := 0, locals := 12 } G [.ref a] L f (fun vv L1 f1 => vv = none ∧ L = L1 ∧ f = f1) := by
  refine g_enter RX3 true (by decide) rfl (fun _ => rfl) (Nat.le_of_ble_eq_true rfl) (fun C hC => ?_)
  refine (show V C 1 L f 0 0 0 [(0, .ref a)] [] from ?_)
  refine g_aload_n hC dX3_init_0 0 rfl ?_
  refine g_objInit hC dX3_init_1 q_ml_X3_1 (by decide) (by decide) ?_
  exact g_vret hC dX3_init_4 rfl ⟨rfl, rfl, rfl⟩ (Nat.zero_le _) (Nat.zero_le _)
set_option maxHeartbeats 4000000 in
set_option maxRecDepth 100000 in
/-- Split(loop, at) -/
theorem ct_X2_init (l : Launch) (G : GD) (L : List Nat) (f : Nat → va_E) (a lp : Nat) (at0 : UInt64) (hL_a : a ∈ L) (h0 : f a = .inr (2, [.null, .double 0])) : Ctr l yX2_init cX2_init 4 none { frames := 1, cells := 0, slots := 0, locals := 12 } G [.ref a, .ref lp, .double at0] L f (fun vv L1 f1 => vv = none ∧ L = L1 ∧ f1 = va_up f a (eSt lp at0)) := by
  refine g_enter RX2 true (by decide) rfl (fun _ => rfl) (Nat.le_of_ble_eq_true rfl) (fun C hC => ?_)
  refine (show V C 4 L f 0 0 0 [(0, .ref a), (1, .ref lp), (2, .double at0)] [] from ?_)
  refine g_aload_n hC dX2_init_0 0 rfl ?_
  refine g_objInit hC dX2_init_1 q_ml_X2_1 (by decide) (by decide) ?_
  refine g_aload_n hC dX2_init_4 0 rfl ?_
  refine g_aload_n hC dX2_init_5 1 rfl ?_
  refine g_putF hC (kf := 0) (TT := TX2) (N := 2) (Cn := RX2) (ty0 := tyX2) (fs1 := [.ref lp, .double 0]) dX2_init_6 hL_a h0 rfl q_u2 (by decide) tyX2_ok nmX2 q_fl_X2_7 rfl rfl rfl rfl rfl rfl rfl (Nat.le_of_ble_eq_true rfl) rfl ?_
  refine g_nm (fun f1 hf2 => ?_)
  have hx3 : f1 a = .inr (2, [.ref lp, .double 0]) := by rw [hf2]; exact va_up_self _ _ _
  have hF4 : f1 = va_up f a (.inr (2, [.ref lp, .double 0])) := hf2
  refine g_aload_n hC dX2_init_9 0 rfl ?_
  refine g_dload_n hC dX2_init_10 2 rfl ?_
  refine g_putF hC (kf := 1) (TT := TX2) (N := 2) (Cn := RX2) (ty0 := tyX2) (fs1 := [.ref lp, .double at0]) dX2_init_11 hL_a hx3 rfl q_u2 (by decide) tyX2_ok nmX2 q_fl_X2_13 rfl rfl rfl rfl rfl rfl rfl (Nat.le_of_ble_eq_true rfl) rfl ?_
  refine g_nm (fun f5 hf6 => ?_)
  have hx7 : f5 a = .inr (2, [.ref lp, .double at0]) := by rw [hf6]; exact va_up_self _ _ _
  have hF8 : f5 = va_up f a (.inr (2, [.ref lp, .double at0])) := by rw [hf6, hF4, va_up_up]
  exact g_vret hC dX2_init_14 rfl ⟨rfl, rfl, hF8⟩ (Nat.zero_le _) (Nat.zero_le _)
set_option maxHeartbeats 4000000 in
set_option maxRecDepth 100000 in
/-- Split.share(which) -/
theorem ct_X2_share (l : Launch) (G : GD) (L : List Nat) (f : Nat → va_E) (a lp lm bd rg tn : Nat) (at0 lo hi : UInt64) (x : Nat → UInt64) (md fa : Int32) (ou : Option Nat) (wh : Int32) (hL_a : a ∈ L) (hL_lp : lp ∈ L) (hL_lm : lm ∈ L) (h0 : f a = eSt lp at0) (h1 : f lp = eLp x md fa lm bd rg tn ou) (h2 : f lm = eSp lo hi) : Ctr l yX2_share cX2_share 5 (some .double) { frames := 1, cells := 0, slots := 0, locals := 22 } G [.ref a, .int wh] L f (fun vv L1 f1 => ∃ r : UInt64, vv = some (.double r) ∧ dv r = shS (dv at0) (dv (x 5)) (dv lo) (dv hi) wh ∧ L = L1 ∧ f = f1) := by
  refine g_enter RX2 false (by decide) rfl (fun h => by cases h) (Nat.le_of_ble_eq_true rfl) (fun C hC => ?_)
  refine (show V C 5 L f 0 0 0 [(0, .ref a), (1, .int wh)] [] from ?_)
  refine g_aload_n hC dX2_share_0 0 rfl ?_
  refine g_get hC (kf := 0) (TT := TX2) (N := 2) (Cn := RX2) dX2_share_1 hL_a h0 rfl q_u2 (by decide) q_fl_X2_7 rfl rfl ?_
  refine g_getN hC (kf := 3) (TT := TX0) (N := 16) (Cn := RX0) dX2_share_4 hL_lp h1 rfl q_u0 (by decide) q_fn_X2_17 rfl rfl ?_
  refine g_astore_n hC (lv1 := [(2, .ref lm), (0, .ref a), (1, .int wh)]) dX2_share_7 (by decide) rfl ?_
  refine g_aload_n hC dX2_share_8 0 rfl ?_
  refine g_aload_n hC dX2_share_9 1 rfl ?_
  refine g_get hC (kf := 1) (TT := TX2) (N := 2) (Cn := RX2) dX2_share_10 hL_a h0 rfl q_u2 (by decide) q_fl_X2_13 rfl rfl ?_
  refine g_callV hC (Cn := RX1) (TT := TX1) (N := 2) dX2_share_13 (ct_X1_holdsInside l G L f lm lo hi at0 hL_lm h2) q_code_X1_holdsInside q_ml_X2_23 q_im_X1_holdsInside q_sel_X1_holdsInside q_init_X1 ⟨rfl, by decide, by decide, (show (parseMethodDescriptor yX1_holdsInside.desc).map (fun d => d.parameters.length) = some 1 from by decide +kernel)⟩ hL_lm h2 rfl (by decide) (by decide) (Nat.le_of_ble_eq_true rfl) (fun v2 L3 f4 hp1 => ?_)
  obtain ⟨rfl, rfl, rfl⟩ := hp1
  refine (show V C 5 L f 0 0 16 [(2, .ref lm), (0, .ref a), (1, .int wh)] [.int (bI (inS (dv at0) (dv lo) (dv hi)))] from ?_)
  refine g_ifB_ne hC 21 dX2_share_16 (by decide) (fun c5 => ?_) (fun c5 => ?_)
  · skip
    refine g_iload_n hC dX2_share_21 2 rfl ?_
    refine g_if_ne hC 54 dX2_share_22 (by decide) (fun c6 => ?_) (fun c6 => ?_)
    · skip
      refine g_aload_n hC dX2_share_54 1 rfl ?_
      refine g_get hC (kf := 0) (TT := TX2) (N := 2) (Cn := RX2) dX2_share_55 hL_a h0 rfl q_u2 (by decide) q_fl_X2_7 rfl rfl ?_
      refine g_getN hC (kf := 9) (TT := TX0) (N := 16) (Cn := RX0) dX2_share_58 hL_lp h1 rfl q_u0 (by decide) q_fn_X2_29 rfl rfl ?_
      refine g_aload_n hC dX2_share_61 1 rfl ?_
      refine g_get hC (kf := 1) (TT := TX2) (N := 2) (Cn := RX2) dX2_share_62 hL_a h0 rfl q_u2 (by decide) q_fl_X2_13 rfl rfl ?_
      refine g_dsub hC dX2_share_65 (fun r7 er7 => ?_)
      refine g_aload_n hC dX2_share_66 0 rfl ?_
      refine g_getN hC (kf := 1) (TT := TX1) (N := 2) (Cn := RX1) dX2_share_67 hL_lm h2 rfl q_u1 (by decide) q_fn_X2_37 rfl rfl ?_
      refine g_aload_n hC dX2_share_70 1 rfl ?_
      refine g_get hC (kf := 1) (TT := TX2) (N := 2) (Cn := RX2) dX2_share_71 hL_a h0 rfl q_u2 (by decide) q_fl_X2_13 rfl rfl ?_
      refine g_dsub hC dX2_share_74 (fun r8 er8 => ?_)
      refine g_ddiv hC dX2_share_75 (fun r9 er9 => ?_)
      try simp only [er7, er8] at er9
      refine g_ldc2 hC dX2_share_76 q_cd_X2_35 ?_
      refine g_dmul hC dX2_share_79 (fun r10 er10 => ?_)
      try simp only [er7, er8, er9] at er10
      refine g_dstore_n hC (lv1 := [(3, .double r10), (2, .ref lm), (0, .ref a), (1, .int wh)]) dX2_share_80 (by decide) rfl ?_
      refine g_dload_n hC dX2_share_81 0 rfl ?_
      refine g_dconst0 hC dX2_share_82 ?_
      refine g_dcmpg_ge hC 91 dX2_share_83 dX2_share_84 (by decide) (fun c11 => ?_) (fun c11 => ?_)
      · try simp only [er7, er8, er9, er10] at c11
        refine g_dload_n hC dX2_share_91 0 rfl ?_
        refine g_ldc2 hC dX2_share_92 q_cd_X2_35 ?_
        refine g_dcmpl_le hC 105 dX2_share_95 dX2_share_96 (by decide) (fun c12 => ?_) (fun c12 => ?_)
        · try simp only [er7, er8, er9, er10] at c12
          refine g_dload_n hC dX2_share_105 0 rfl ?_
          exact g_dret hC dX2_share_106 rfl ⟨r10, rfl, by simp [shS, clS, c5, c6, c11, c12, er7, er8, er9, er10], rfl, rfl⟩ (Nat.zero_le _) (Nat.zero_le _)
        · try simp only [er7, er8, er9, er10] at c12
          refine g_ldc2 hC dX2_share_99 q_cd_X2_35 ?_
          refine g_goto hC 106 dX2_share_102 (by decide) ?_
          exact g_dret hC dX2_share_106 rfl ⟨4636737291354636288, rfl, by simp [shS, clS, c5, c6, c11, c12, er7, er8, er9, er10], rfl, rfl⟩ (Nat.zero_le _) (Nat.zero_le _)
      · try simp only [er7, er8, er9, er10] at c11
        refine g_dconst0 hC dX2_share_87 ?_
        refine g_goto hC 106 dX2_share_88 (by decide) ?_
        exact g_dret hC dX2_share_106 rfl ⟨0, rfl, by simp [shS, clS, c5, c6, c11, er7, er8, er9, er10], rfl, rfl⟩ (Nat.zero_le _) (Nat.zero_le _)
    · skip
      refine g_aload_n hC dX2_share_25 1 rfl ?_
      refine g_get hC (kf := 0) (TT := TX2) (N := 2) (Cn := RX2) dX2_share_26 hL_a h0 rfl q_u2 (by decide) q_fl_X2_7 rfl rfl ?_
      refine g_getN hC (kf := 9) (TT := TX0) (N := 16) (Cn := RX0) dX2_share_29 hL_lp h1 rfl q_u0 (by decide) q_fn_X2_29 rfl rfl ?_
      refine g_aload_n hC dX2_share_32 0 rfl ?_
      refine g_getN hC (kf := 0) (TT := TX1) (N := 2) (Cn := RX1) dX2_share_33 hL_lm h2 rfl q_u1 (by decide) q_fn_X2_32 rfl rfl ?_
      refine g_dsub hC dX2_share_36 (fun r13 er13 => ?_)
      refine g_aload_n hC dX2_share_37 1 rfl ?_
      refine g_get hC (kf := 1) (TT := TX2) (N := 2) (Cn := RX2) dX2_share_38 hL_a h0 rfl q_u2 (by decide) q_fl_X2_13 rfl rfl ?_
      refine g_aload_n hC dX2_share_41 0 rfl ?_
      refine g_getN hC (kf := 0) (TT := TX1) (N := 2) (Cn := RX1) dX2_share_42 hL_lm h2 rfl q_u1 (by decide) q_fn_X2_32 rfl rfl ?_
      refine g_dsub hC dX2_share_45 (fun r14 er14 => ?_)
      refine g_ddiv hC dX2_share_46 (fun r15 er15 => ?_)
      try simp only [er13, er14] at er15
      refine g_ldc2 hC dX2_share_47 q_cd_X2_35 ?_
      refine g_dmul hC dX2_share_50 (fun r16 er16 => ?_)
      try simp only [er13, er14, er15] at er16
      refine g_goto hC 80 dX2_share_51 (by decide) ?_
      refine g_dstore_n hC (lv1 := [(3, .double r16), (2, .ref lm), (0, .ref a), (1, .int wh)]) dX2_share_80 (by decide) rfl ?_
      refine g_dload_n hC dX2_share_81 0 rfl ?_
      refine g_dconst0 hC dX2_share_82 ?_
      refine g_dcmpg_ge hC 91 dX2_share_83 dX2_share_84 (by decide) (fun c17 => ?_) (fun c17 => ?_)
      · try simp only [er13, er14, er15, er16] at c17
        refine g_dload_n hC dX2_share_91 0 rfl ?_
        refine g_ldc2 hC dX2_share_92 q_cd_X2_35 ?_
        refine g_dcmpl_le hC 105 dX2_share_95 dX2_share_96 (by decide) (fun c18 => ?_) (fun c18 => ?_)
        · try simp only [er13, er14, er15, er16] at c18
          refine g_dload_n hC dX2_share_105 0 rfl ?_
          exact g_dret hC dX2_share_106 rfl ⟨r16, rfl, by simp [shS, clS, c5, c6, c17, c18, er13, er14, er15, er16], rfl, rfl⟩ (Nat.zero_le _) (Nat.zero_le _)
        · try simp only [er13, er14, er15, er16] at c18
          refine g_ldc2 hC dX2_share_99 q_cd_X2_35 ?_
          refine g_goto hC 106 dX2_share_102 (by decide) ?_
          exact g_dret hC dX2_share_106 rfl ⟨4636737291354636288, rfl, by simp [shS, clS, c5, c6, c17, c18, er13, er14, er15, er16], rfl, rfl⟩ (Nat.zero_le _) (Nat.zero_le _)
      · try simp only [er13, er14, er15, er16] at c17
        refine g_dconst0 hC dX2_share_87 ?_
        refine g_goto hC 106 dX2_share_88 (by decide) ?_
        exact g_dret hC dX2_share_106 rfl ⟨0, rfl, by simp [shS, clS, c5, c6, c17, er13, er14, er15, er16], rfl, rfl⟩ (Nat.zero_le _) (Nat.zero_le _)
  · skip
    refine g_dconst0 hC dX2_share_19 ?_
    exact g_dret hC dX2_share_20 rfl ⟨0, rfl, by simp [shS, clS, c5], rfl, rfl⟩ (Nat.zero_le _) (Nat.zero_le _)
set_option maxHeartbeats 4000000 in
set_option maxRecDepth 100000 in
/-- Loop(p, i, d) -/
theorem ct_X0_init (l : Launch) (G : GD) (L : List Nat) (f : Nat → va_E) (a : Nat) (p i d : UInt64) (hL_a : a ∈ L) (h0 : f a = .inr (0, [.double 0, .double 0, .double 0, .null, .null, .null, .null, .double 0, .double 0, .double 0, .double 0, .double 0, .double 0, .int 0, .int 0, .null])) : Ctr l yX0_init cX0_init 7 none { frames := 2, cells := 4, slots := 13, locals := 36 } G [.ref a, .double p, .double i, .double d] L f (fun vv L1 f1 => vv = none ∧ ∃ q1 q2 q3 q4 : Nat, q1 ∉ L ∧ q2 ∉ L ++ [q1] ∧ q3 ∉ (L ++ [q1]) ++ [q2] ∧ q4 ∉ ((L ++ [q1]) ++ [q2]) ++ [q3] ∧ L1 = (((L ++ [q1]) ++ [q2]) ++ [q3]) ++ [q4] ∧ f1 a = eLp (xI p i d) 0 0 q1 q2 q3 q4 none ∧ f1 q1 = eSp 0 4636737291354636288 ∧ f1 q2 = eSp 13830554455654793216 4607182418800017408 ∧ f1 q3 = eSp 13920209183539462144 4696837146684686336 ∧ f1 q4 = eTn 0 0 0 0 0 0 0 ∧ ∀ b : Nat, b ≠ a → b ≠ q1 → b ≠ q2 → b ≠ q3 → b ≠ q4 → f1 b = f b) := by
  refine g_enter RX0 true (by decide) rfl (fun _ => rfl) (Nat.le_of_ble_eq_true rfl) (fun C hC => ?_)
  refine (show V C 7 L f 0 0 0 [(0, .ref a), (1, .double p), (3, .double i), (5, .double d)] [] from ?_)
  refine g_aload_n hC dX0_init_0 0 rfl ?_
  refine g_objInit hC dX0_init_1 q_ml_X0_3 (by decide) (by decide) ?_
  refine g_aload_n hC dX0_init_4 0 rfl ?_
  refine g_new hC (ci := 1) (N := 2) (Cn := RX1) (TT := TX1) (ty0 := tyX1) [.double 0, .double 0] dX0_init_5 rfl q_u1 tyX1_ok q_cl_X0_9 q_inst_X1 q_init_X1 dfX1 (Nat.le_of_ble_eq_true rfl) (Nat.le_of_ble_eq_true rfl) (fun q1 hq1 => ?_)
  refine g_nm (fun f2 hf3 => ?_)
  have hx4 : f2 a = .inr (0, [.double 0, .double 0, .double 0, .null, .null, .null, .null, .double 0, .double 0, .double 0, .double 0, .double 0, .double 0, .int 0, .int 0, .null]) := by rw [hf3, va_up_ne _ _ (ne_new hL_a hq1)]; exact h0
  have hx5 : f2 q1 = .inr (1, [.double 0, .double 0]) := by rw [hf3]; exact va_up_self _ _ _
  have hF6 : f2 = va_up f q1 (.inr (1, [.double 0, .double 0])) := hf3
  refine (show V C 7 (L ++ [q1]) f2 1 2 8 [(0, .ref a), (1, .double p), (3, .double i), (5, .double d)] [.ref q1, .ref a] from ?_)
  refine g_dup hC dX0_init_8 rfl ?_
  refine g_dconst0 hC dX0_init_9 ?_
  refine g_ldc2 hC dX0_init_10 q_cd_X0_11 ?_
  refine g_callI hC dX0_init_13 (ct_X1_init l G (L ++ [q1]) f2 q1 0 0 0 4636737291354636288 mem_r hx5) q_code_X1_init q_ml_X0_13 q_im_X1_init q_init_X1 ⟨rfl, by decide, by decide, (show (parseMethodDescriptor yX1_init.desc).map (fun d => d.parameters.length) = some 2 from by decide +kernel)⟩ (by decide) (by decide) (Nat.le_of_ble_eq_true rfl) (fun v8 L9 f10 hp7 => ?_)
  obtain ⟨rfl, rfl, hf11⟩ := hp7
  have hx12 : f10 a = .inr (0, [.double 0, .double 0, .double 0, .null, .null, .null, .null, .double 0, .double 0, .double 0, .double 0, .double 0, .double 0, .int 0, .int 0, .null]) := by rw [hf11, va_up_ne _ _ (ne_new hL_a hq1)]; exact hx4
  have hx13 : f10 q1 = .inr (1, [.double 0, .double 4636737291354636288]) := by rw [hf11]; exact va_up_self _ _ _
  have hF14 : f10 = va_up f q1 (.inr (1, [.double 0, .double 4636737291354636288])) := by rw [hf11, hF6, va_up_up]
  refine (show V C 7 (L ++ [q1]) f10 1 2 16 [(0, .ref a), (1, .double p), (3, .double i), (5, .double d)] [.ref q1, .ref a] from ?_)
  refine g_putF hC (kf := 3) (TT := TX0) (N := 16) (Cn := RX0) (ty0 := tyX0) (fs1 := [.double 0, .double 0, .double 0, .ref q1, .null, .null, .null, .double 0, .double 0, .double 0, .double 0, .double 0, .double 0, .int 0, .int 0, .null]) dX0_init_16 (mem_l hL_a) hx12 rfl q_u0 (by decide) tyX0_ok nmX0 q_fl_X0_16 rfl rfl rfl rfl rfl rfl rfl (Nat.le_of_ble_eq_true rfl) rfl ?_
  refine g_nm (fun f15 hf16 => ?_)
  have hx17 : f15 a = .inr (0, [.double 0, .double 0, .double 0, .ref q1, .null, .null, .null, .double 0, .double 0, .double 0, .double 0, .double 0, .double 0, .int 0, .int 0, .null]) := by rw [hf16]; exact va_up_self _ _ _
  have hx18 : f15 q1 = .inr (1, [.double 0, .double 4636737291354636288]) := by rw [hf16, va_up_ne _ _ (Ne.symm (ne_new hL_a hq1))]; exact hx13
  have hF19 : f15 = va_up (va_up f q1 (.inr (1, [.double 0, .double 4636737291354636288]))) a (.inr (0, [.double 0, .double 0, .double 0, .ref q1, .null, .null, .null, .double 0, .double 0, .double 0, .double 0, .double 0, .double 0, .int 0, .int 0, .null])) := by rw [hf16, hF14]
  refine g_aload_n hC dX0_init_19 0 rfl ?_
  refine g_new hC (ci := 1) (N := 2) (Cn := RX1) (TT := TX1) (ty0 := tyX1) [.double 0, .double 0] dX0_init_20 rfl q_u1 tyX1_ok q_cl_X0_9 q_inst_X1 q_init_X1 dfX1 (Nat.le_of_ble_eq_true rfl) (Nat.le_of_ble_eq_true rfl) (fun q20 hq20 => ?_)
  refine g_nm (fun f21 hf22 => ?_)
  have hx23 : f21 a = .inr (0, [.double 0, .double 0, .double 0, .ref q1, .null, .null, .null, .double 0, .double 0, .double 0, .double 0, .double 0, .double 0, .int 0, .int 0, .null]) := by rw [hf22, va_up_ne _ _ (ne_new (mem_l hL_a) hq20)]; exact hx17
  have hx24 : f21 q1 = .inr (1, [.double 0, .double 4636737291354636288]) := by rw [hf22, va_up_ne _ _ (ne_new mem_r hq20)]; exact hx18
  have hx25 : f21 q20 = .inr (1, [.double 0, .double 0]) := by rw [hf22]; exact va_up_self _ _ _
  have hF26 : f21 = va_up (va_up (va_up f q1 (.inr (1, [.double 0, .double 4636737291354636288]))) a (.inr (0, [.double 0, .double 0, .double 0, .ref q1, .null, .null, .null, .double 0, .double 0, .double 0, .double 0, .double 0, .double 0, .int 0, .int 0, .null]))) q20 (.inr (1, [.double 0, .double 0])) := by rw [hf22, hF19]
  refine (show V C 7 ((L ++ [q1]) ++ [q20]) f21 2 4 23 [(0, .ref a), (1, .double p), (3, .double i), (5, .double d)] [.ref q20, .ref a] from ?_)
  refine g_dup hC dX0_init_23 rfl ?_
  refine g_ldc2 hC dX0_init_24 q_cd_X0_22 ?_
  refine g_dconst1 hC dX0_init_27 ?_
  refine g_callI hC dX0_init_28 (ct_X1_init l G ((L ++ [q1]) ++ [q20]) f21 q20 0 0 13830554455654793216 4607182418800017408 mem_r hx25) q_code_X1_init q_ml_X0_13 q_im_X1_init q_init_X1 ⟨rfl, by decide, by decide, (show (parseMethodDescriptor yX1_init.desc).map (fun d => d.parameters.length) = some 2 from by decide +kernel)⟩ (by decide) (by decide) (Nat.le_of_ble_eq_true rfl) (fun v28 L29 f30 hp27 => ?_)
  obtain ⟨rfl, rfl, hf31⟩ := hp27
  have hx32 : f30 a = .inr (0, [.double 0, .double 0, .double 0, .ref q1, .null, .null, .null, .double 0, .double 0, .double 0, .double 0, .double 0, .double 0, .int 0, .int 0, .null]) := by rw [hf31, va_up_ne _ _ (ne_new (mem_l hL_a) hq20)]; exact hx23
  have hx33 : f30 q1 = .inr (1, [.double 0, .double 4636737291354636288]) := by rw [hf31, va_up_ne _ _ (ne_new mem_r hq20)]; exact hx24
  have hx34 : f30 q20 = .inr (1, [.double 13830554455654793216, .double 4607182418800017408]) := by rw [hf31]; exact va_up_self _ _ _
  have hF35 : f30 = va_up (va_up (va_up f q1 (.inr (1, [.double 0, .double 4636737291354636288]))) a (.inr (0, [.double 0, .double 0, .double 0, .ref q1, .null, .null, .null, .double 0, .double 0, .double 0, .double 0, .double 0, .double 0, .int 0, .int 0, .null]))) q20 (.inr (1, [.double 13830554455654793216, .double 4607182418800017408])) := by rw [hf31, hF26, va_up_up]
  refine (show V C 7 ((L ++ [q1]) ++ [q20]) f30 2 4 31 [(0, .ref a), (1, .double p), (3, .double i), (5, .double d)] [.ref q20, .ref a] from ?_)
  refine g_putF hC (kf := 4) (TT := TX0) (N := 16) (Cn := RX0) (ty0 := tyX0) (fs1 := [.double 0, .double 0, .double 0, .ref q1, .ref q20, .null, .null, .double 0, .double 0, .double 0, .double 0, .double 0, .double 0, .int 0, .int 0, .null]) dX0_init_31 (mem_l (mem_l hL_a)) hx32 rfl q_u0 (by decide) tyX0_ok nmX0 q_fl_X0_24 rfl rfl rfl rfl rfl rfl rfl (Nat.le_of_ble_eq_true rfl) rfl ?_
  refine g_nm (fun f36 hf37 => ?_)
  have hx38 : f36 a = .inr (0, [.double 0, .double 0, .double 0, .ref q1, .ref q20, .null, .null, .double 0, .double 0, .double 0, .double 0, .double 0, .double 0, .int 0, .int 0, .null]) := by rw [hf37]; exact va_up_self _ _ _
  have hx39 : f36 q1 = .inr (1, [.double 0, .double 4636737291354636288]) := by rw [hf37, va_up_ne _ _ (Ne.symm (ne_new hL_a hq1))]; exact hx33
  have hx40 : f36 q20 = .inr (1, [.double 13830554455654793216, .double 4607182418800017408]) := by rw [hf37, va_up_ne _ _ (Ne.symm (ne_new (mem_l hL_a) hq20))]; exact hx34
  have hF41 : f36 = va_up (va_up (va_up (va_up f q1 (.inr (1, [.double 0, .double 4636737291354636288]))) a (.inr (0, [.double 0, .double 0, .double 0, .ref q1, .null, .null, .null, .double 0, .double 0, .double 0, .double 0, .double 0, .double 0, .int 0, .int 0, .null]))) q20 (.inr (1, [.double 13830554455654793216, .double 4607182418800017408]))) a (.inr (0, [.double 0, .double 0, .double 0, .ref q1, .ref q20, .null, .null, .double 0, .double 0, .double 0, .double 0, .double 0, .double 0, .int 0, .int 0, .null])) := by rw [hf37, hF35]
  refine g_aload_n hC dX0_init_34 0 rfl ?_
  refine g_new hC (ci := 1) (N := 2) (Cn := RX1) (TT := TX1) (ty0 := tyX1) [.double 0, .double 0] dX0_init_35 rfl q_u1 tyX1_ok q_cl_X0_9 q_inst_X1 q_init_X1 dfX1 (Nat.le_of_ble_eq_true rfl) (Nat.le_of_ble_eq_true rfl) (fun q42 hq42 => ?_)
  refine g_nm (fun f43 hf44 => ?_)
  have hx45 : f43 a = .inr (0, [.double 0, .double 0, .double 0, .ref q1, .ref q20, .null, .null, .double 0, .double 0, .double 0, .double 0, .double 0, .double 0, .int 0, .int 0, .null]) := by rw [hf44, va_up_ne _ _ (ne_new (mem_l (mem_l hL_a)) hq42)]; exact hx38
  have hx46 : f43 q1 = .inr (1, [.double 0, .double 4636737291354636288]) := by rw [hf44, va_up_ne _ _ (ne_new (mem_l mem_r) hq42)]; exact hx39
  have hx47 : f43 q20 = .inr (1, [.double 13830554455654793216, .double 4607182418800017408]) := by rw [hf44, va_up_ne _ _ (ne_new mem_r hq42)]; exact hx40
  have hx48 : f43 q42 = .inr (1, [.double 0, .double 0]) := by rw [hf44]; exact va_up_self _ _ _
  have hF49 : f43 = va_up (va_up (va_up (va_up (va_up f q1 (.inr (1, [.double 0, .double 4636737291354636288]))) a (.inr (0, [.double 0, .double 0, .double 0, .ref q1, .null, .null, .null, .double 0, .double 0, .double 0, .double 0, .double 0, .double 0, .int 0, .int 0, .null]))) q20 (.inr (1, [.double 13830554455654793216, .double 4607182418800017408]))) a (.inr (0, [.double 0, .double 0, .double 0, .ref q1, .ref q20, .null, .null, .double 0, .double 0, .double 0, .double 0, .double 0, .double 0, .int 0, .int 0, .null]))) q42 (.inr (1, [.double 0, .double 0])) := by rw [hf44, hF41]
  refine (show V C 7 (((L ++ [q1]) ++ [q20]) ++ [q42]) f43 3 6 38 [(0, .ref a), (1, .double p), (3, .double i), (5, .double d)] [.ref q42, .ref a] from ?_)
  refine g_dup hC dX0_init_38 rfl ?_
  refine g_ldc2 hC dX0_init_39 q_cd_X0_27 ?_
  refine g_ldc2 hC dX0_init_42 q_cd_X0_29 ?_
  refine g_callI hC dX0_init_45 (ct_X1_init l G (((L ++ [q1]) ++ [q20]) ++ [q42]) f43 q42 0 0 13920209183539462144 4696837146684686336 mem_r hx48) q_code_X1_init q_ml_X0_13 q_im_X1_init q_init_X1 ⟨rfl, by decide, by decide, (show (parseMethodDescriptor yX1_init.desc).map (fun d => d.parameters.length) = some 2 from by decide +kernel)⟩ (by decide) (by decide) (Nat.le_of_ble_eq_true rfl) (fun v51 L52 f53 hp50 => ?_)
  obtain ⟨rfl, rfl, hf54⟩ := hp50
  have hx55 : f53 a = .inr (0, [.double 0, .double 0, .double 0, .ref q1, .ref q20, .null, .null, .double 0, .double 0, .double 0, .double 0, .double 0, .double 0, .int 0, .int 0, .null]) := by rw [hf54, va_up_ne _ _ (ne_new (mem_l (mem_l hL_a)) hq42)]; exact hx45
  have hx56 : f53 q1 = .inr (1, [.double 0, .double 4636737291354636288]) := by rw [hf54, va_up_ne _ _ (ne_new (mem_l mem_r) hq42)]; exact hx46
  have hx57 : f53 q20 = .inr (1, [.double 13830554455654793216, .double 4607182418800017408]) := by rw [hf54, va_up_ne _ _ (ne_new mem_r hq42)]; exact hx47
  have hx58 : f53 q42 = .inr (1, [.double 13920209183539462144, .double 4696837146684686336]) := by rw [hf54]; exact va_up_self _ _ _
  have hF59 : f53 = va_up (va_up (va_up (va_up (va_up f q1 (.inr (1, [.double 0, .double 4636737291354636288]))) a (.inr (0, [.double 0, .double 0, .double 0, .ref q1, .null, .null, .null, .double 0, .double 0, .double 0, .double 0, .double 0, .double 0, .int 0, .int 0, .null]))) q20 (.inr (1, [.double 13830554455654793216, .double 4607182418800017408]))) a (.inr (0, [.double 0, .double 0, .double 0, .ref q1, .ref q20, .null, .null, .double 0, .double 0, .double 0, .double 0, .double 0, .double 0, .int 0, .int 0, .null]))) q42 (.inr (1, [.double 13920209183539462144, .double 4696837146684686336])) := by rw [hf54, hF49, va_up_up]
  refine (show V C 7 (((L ++ [q1]) ++ [q20]) ++ [q42]) f53 3 6 48 [(0, .ref a), (1, .double p), (3, .double i), (5, .double d)] [.ref q42, .ref a] from ?_)
  refine g_putF hC (kf := 5) (TT := TX0) (N := 16) (Cn := RX0) (ty0 := tyX0) (fs1 := [.double 0, .double 0, .double 0, .ref q1, .ref q20, .ref q42, .null, .double 0, .double 0, .double 0, .double 0, .double 0, .double 0, .int 0, .int 0, .null]) dX0_init_48 (mem_l (mem_l (mem_l hL_a))) hx55 rfl q_u0 (by decide) tyX0_ok nmX0 q_fl_X0_31 rfl rfl rfl rfl rfl rfl rfl (Nat.le_of_ble_eq_true rfl) rfl ?_
  refine g_nm (fun f60 hf61 => ?_)
  have hx62 : f60 a = .inr (0, [.double 0, .double 0, .double 0, .ref q1, .ref q20, .ref q42, .null, .double 0, .double 0, .double 0, .double 0, .double 0, .double 0, .int 0, .int 0, .null]) := by rw [hf61]; exact va_up_self _ _ _
  have hx63 : f60 q1 = .inr (1, [.double 0, .double 4636737291354636288]) := by rw [hf61, va_up_ne _ _ (Ne.symm (ne_new hL_a hq1))]; exact hx56
  have hx64 : f60 q20 = .inr (1, [.double 13830554455654793216, .double 4607182418800017408]) := by rw [hf61, va_up_ne _ _ (Ne.symm (ne_new (mem_l hL_a) hq20))]; exact hx57
  have hx65 : f60 q42 = .inr (1, [.double 13920209183539462144, .double 4696837146684686336]) := by rw [hf61, va_up_ne _ _ (Ne.symm (ne_new (mem_l (mem_l hL_a)) hq42))]; exact hx58
  have hF66 : f60 = va_up (va_up (va_up (va_up (va_up (va_up f q1 (.inr (1, [.double 0, .double 4636737291354636288]))) a (.inr (0, [.double 0, .double 0, .double 0, .ref q1, .null, .null, .null, .double 0, .double 0, .double 0, .double 0, .double 0, .double 0, .int 0, .int 0, .null]))) q20 (.inr (1, [.double 13830554455654793216, .double 4607182418800017408]))) a (.inr (0, [.double 0, .double 0, .double 0, .ref q1, .ref q20, .null, .null, .double 0, .double 0, .double 0, .double 0, .double 0, .double 0, .int 0, .int 0, .null]))) q42 (.inr (1, [.double 13920209183539462144, .double 4696837146684686336]))) a (.inr (0, [.double 0, .double 0, .double 0, .ref q1, .ref q20, .ref q42, .null, .double 0, .double 0, .double 0, .double 0, .double 0, .double 0, .int 0, .int 0, .null])) := by rw [hf61, hF59]
  refine g_aload_n hC dX0_init_51 0 rfl ?_
  refine g_new hC (ci := 3) (N := 7) (Cn := RX3) (TT := TX3) (ty0 := tyX3) [.double 0, .int 0, .int 0, .int 0, .double 0, .double 0, .int 0] dX0_init_52 rfl q_u3 tyX3_ok q_cl_X0_34 q_inst_X3 q_init_X3 dfX3 (Nat.le_of_ble_eq_true rfl) (Nat.le_of_ble_eq_true rfl) (fun q67 hq67 => ?_)
  refine g_nm (fun f68 hf69 => ?_)
  have hx70 : f68 a = .inr (0, [.double 0, .double 0, .double 0, .ref q1, .ref q20, .ref q42, .null, .double 0, .double 0, .double 0, .double 0, .double 0, .double 0, .int 0, .int 0, .null]) := by rw [hf69, va_up_ne _ _ (ne_new (mem_l (mem_l (mem_l hL_a))) hq67)]; exact hx62
  have hx71 : f68 q1 = .inr (1, [.double 0, .double 4636737291354636288]) := by rw [hf69, va_up_ne _ _ (ne_new (mem_l (mem_l mem_r)) hq67)]; exact hx63
  have hx72 : f68 q20 = .inr (1, [.double 13830554455654793216, .double 4607182418800017408]) := by rw [hf69, va_up_ne _ _ (ne_new (mem_l mem_r) hq67)]; exact hx64
  have hx73 : f68 q42 = .inr (1, [.double 13920209183539462144, .double 4696837146684686336]) := by rw [hf69, va_up_ne _ _ (ne_new mem_r hq67)]; exact hx65
  have hx74 : f68 q67 = .inr (3, [.double 0, .int 0, .int 0, .int 0, .double 0, .double 0, .int 0]) := by rw [hf69]; exact va_up_self _ _ _
  have hF75 : f68 = va_up (va_up (va_up (va_up (va_up (va_up (va_up f q1 (.inr (1, [.double 0, .double 4636737291354636288]))) a (.inr (0, [.double 0, .double 0, .double 0, .ref q1, .null, .null, .null, .double 0, .double 0, .double 0, .double 0, .double 0, .double 0, .int 0, .int 0, .null]))) q20 (.inr (1, [.double 13830554455654793216, .double 4607182418800017408]))) a (.inr (0, [.double 0, .double 0, .double 0, .ref q1, .ref q20, .null, .null, .double 0, .double 0, .double 0, .double 0, .double 0, .double 0, .int 0, .int 0, .null]))) q42 (.inr (1, [.double 13920209183539462144, .double 4696837146684686336]))) a (.inr (0, [.double 0, .double 0, .double 0, .ref q1, .ref q20, .ref q42, .null, .double 0, .double 0, .double 0, .double 0, .double 0, .double 0, .int 0, .int 0, .null]))) q67 (.inr (3, [.double 0, .int 0, .int 0, .int 0, .double 0, .double 0, .int 0])) := by rw [hf69, hF66]
  refine (show V C 7 ((((L ++ [q1]) ++ [q20]) ++ [q42]) ++ [q67]) f68 4 13 55 [(0, .ref a), (1, .double p), (3, .double i), (5, .double d)] [.ref q67, .ref a] from ?_)
  refine g_dup hC dX0_init_55 rfl ?_
  refine g_callIN hC dX0_init_56 (ct_X3_init l G ((((L ++ [q1]) ++ [q20]) ++ [q42]) ++ [q67]) f68 q67 mem_r hx74) q_code_X3_init q_mn_X0_36 q_im_X3_init q_init_X3 ⟨rfl, by decide, by decide, (show (parseMethodDescriptor yX3_init.desc).map (fun d => d.parameters.length) = some 0 from by decide +kernel)⟩ (by decide) (by decide) (Nat.le_of_ble_eq_true rfl) (fun v77 L78 f79 hp76 => ?_)
  obtain ⟨rfl, rfl, rfl⟩ := hp76
  refine (show V C 7 ((((L ++ [q1]) ++ [q20]) ++ [q42]) ++ [q67]) f68 4 13 59 [(0, .ref a), (1, .double p), (3, .double i), (5, .double d)] [.ref q67, .ref a] from ?_)
  refine g_putF hC (kf := 6) (TT := TX0) (N := 16) (Cn := RX0) (ty0 := tyX0) (fs1 := [.double 0, .double 0, .double 0, .ref q1, .ref q20, .ref q42, .ref q67, .double 0, .double 0, .double 0, .double 0, .double 0, .double 0, .int 0, .int 0, .null]) dX0_init_59 (mem_l (mem_l (mem_l (mem_l hL_a)))) hx70 rfl q_u0 (by decide) tyX0_ok nmX0 q_fl_X0_37 rfl rfl rfl rfl rfl rfl rfl (Nat.le_of_ble_eq_true rfl) rfl ?_
  refine g_nm (fun f80 hf81 => ?_)
  have hx82 : f80 a = .inr (0, [.double 0, .double 0, .double 0, .ref q1, .ref q20, .ref q42, .ref q67, .double 0, .double 0, .double 0, .double 0, .double 0, .double 0, .int 0, .int 0, .null]) := by rw [hf81]; exact va_up_self _ _ _
  have hx83 : f80 q1 = .inr (1, [.double 0, .double 4636737291354636288]) := by rw [hf81, va_up_ne _ _ (Ne.symm (ne_new hL_a hq1))]; exact hx71
  have hx84 : f80 q20 = .inr (1, [.double 13830554455654793216, .double 4607182418800017408]) := by rw [hf81, va_up_ne _ _ (Ne.symm (ne_new (mem_l hL_a) hq20))]; exact hx72
  have hx85 : f80 q42 = .inr (1, [.double 13920209183539462144, .double 4696837146684686336]) := by rw [hf81, va_up_ne _ _ (Ne.symm (ne_new (mem_l (mem_l hL_a)) hq42))]; exact hx73
  have hx86 : f80 q67 = .inr (3, [.double 0, .int 0, .int 0, .int 0, .double 0, .double 0, .int 0]) := by rw [hf81, va_up_ne _ _ (Ne.symm (ne_new (mem_l (mem_l (mem_l hL_a))) hq67))]; exact hx74
  have hF87 : f80 = va_up (va_up (va_up (va_up (va_up (va_up (va_up (va_up f q1 (.inr (1, [.double 0, .double 4636737291354636288]))) a (.inr (0, [.double 0, .double 0, .double 0, .ref q1, .null, .null, .null, .double 0, .double 0, .double 0, .double 0, .double 0, .double 0, .int 0, .int 0, .null]))) q20 (.inr (1, [.double 13830554455654793216, .double 4607182418800017408]))) a (.inr (0, [.double 0, .double 0, .double 0, .ref q1, .ref q20, .null, .null, .double 0, .double 0, .double 0, .double 0, .double 0, .double 0, .int 0, .int 0, .null]))) q42 (.inr (1, [.double 13920209183539462144, .double 4696837146684686336]))) a (.inr (0, [.double 0, .double 0, .double 0, .ref q1, .ref q20, .ref q42, .null, .double 0, .double 0, .double 0, .double 0, .double 0, .double 0, .int 0, .int 0, .null]))) q67 (.inr (3, [.double 0, .int 0, .int 0, .int 0, .double 0, .double 0, .int 0]))) a (.inr (0, [.double 0, .double 0, .double 0, .ref q1, .ref q20, .ref q42, .ref q67, .double 0, .double 0, .double 0, .double 0, .double 0, .double 0, .int 0, .int 0, .null])) := by rw [hf81, hF75]
  refine g_aload_n hC dX0_init_62 0 rfl ?_
  refine g_ldc2 hC dX0_init_63 q_cd_X0_11 ?_
  refine g_put hC (kf := 7) (TT := TX0) (N := 16) (Cn := RX0) (ty0 := tyX0) (fs1 := [.double 0, .double 0, .double 0, .ref q1, .ref q20, .ref q42, .ref q67, .double 4636737291354636288, .double 0, .double 0, .double 0, .double 0, .double 0, .int 0, .int 0, .null]) dX0_init_66 (mem_l (mem_l (mem_l (mem_l hL_a)))) hx82 rfl q_u0 (by decide) tyX0_ok nmX0 q_fl_X0_41 rfl rfl rfl rfl rfl (Nat.le_of_ble_eq_true rfl) rfl ?_
  refine g_nm (fun f88 hf89 => ?_)
  have hx90 : f88 a = .inr (0, [.double 0, .double 0, .double 0, .ref q1, .ref q20, .ref q42, .ref q67, .double 4636737291354636288, .double 0, .double 0, .double 0, .double 0, .double 0, .int 0, .int 0, .null]) := by rw [hf89]; exact va_up_self _ _ _
  have hx91 : f88 q1 = .inr (1, [.double 0, .double 4636737291354636288]) := by rw [hf89, va_up_ne _ _ (Ne.symm (ne_new hL_a hq1))]; exact hx83
  have hx92 : f88 q20 = .inr (1, [.double 13830554455654793216, .double 4607182418800017408]) := by rw [hf89, va_up_ne _ _ (Ne.symm (ne_new (mem_l hL_a) hq20))]; exact hx84
  have hx93 : f88 q42 = .inr (1, [.double 13920209183539462144, .double 4696837146684686336]) := by rw [hf89, va_up_ne _ _ (Ne.symm (ne_new (mem_l (mem_l hL_a)) hq42))]; exact hx85
  have hx94 : f88 q67 = .inr (3, [.double 0, .int 0, .int 0, .int 0, .double 0, .double 0, .int 0]) := by rw [hf89, va_up_ne _ _ (Ne.symm (ne_new (mem_l (mem_l (mem_l hL_a))) hq67))]; exact hx86
  have hF95 : f88 = va_up (va_up (va_up (va_up (va_up (va_up (va_up (va_up f q1 (.inr (1, [.double 0, .double 4636737291354636288]))) a (.inr (0, [.double 0, .double 0, .double 0, .ref q1, .null, .null, .null, .double 0, .double 0, .double 0, .double 0, .double 0, .double 0, .int 0, .int 0, .null]))) q20 (.inr (1, [.double 13830554455654793216, .double 4607182418800017408]))) a (.inr (0, [.double 0, .double 0, .double 0, .ref q1, .ref q20, .null, .null, .double 0, .double 0, .double 0, .double 0, .double 0, .double 0, .int 0, .int 0, .null]))) q42 (.inr (1, [.double 13920209183539462144, .double 4696837146684686336]))) a (.inr (0, [.double 0, .double 0, .double 0, .ref q1, .ref q20, .ref q42, .null, .double 0, .double 0, .double 0, .double 0, .double 0, .double 0, .int 0, .int 0, .null]))) q67 (.inr (3, [.double 0, .int 0, .int 0, .int 0, .double 0, .double 0, .int 0]))) a (.inr (0, [.double 0, .double 0, .double 0, .ref q1, .ref q20, .ref q42, .ref q67, .double 4636737291354636288, .double 0, .double 0, .double 0, .double 0, .double 0, .int 0, .int 0, .null])) := by rw [hf89, hF87, va_up_up]
  refine g_aload_n hC dX0_init_69 0 rfl ?_
  refine g_iconst hC 0 dX0_init_70 (by decide) ?_
  refine g_put hC (kf := 13) (TT := TX0) (N := 16) (Cn := RX0) (ty0 := tyX0) (fs1 := [.double 0, .double 0, .double 0, .ref q1, .ref q20, .ref q42, .ref q67, .double 4636737291354636288, .double 0, .double 0, .double 0, .double 0, .double 0, .int 0, .int 0, .null]) dX0_init_71 (mem_l (mem_l (mem_l (mem_l hL_a)))) hx90 rfl q_u0 (by decide) tyX0_ok nmX0 q_fl_X0_45 rfl rfl rfl rfl rfl (Nat.le_of_ble_eq_true rfl) rfl ?_
  refine g_nm (fun f96 hf97 => ?_)
  have hx98 : f96 a = .inr (0, [.double 0, .double 0, .double 0, .ref q1, .ref q20, .ref q42, .ref q67, .double 4636737291354636288, .double 0, .double 0, .double 0, .double 0, .double 0, .int 0, .int 0, .null]) := by rw [hf97]; exact va_up_self _ _ _
  have hx99 : f96 q1 = .inr (1, [.double 0, .double 4636737291354636288]) := by rw [hf97, va_up_ne _ _ (Ne.symm (ne_new hL_a hq1))]; exact hx91
  have hx100 : f96 q20 = .inr (1, [.double 13830554455654793216, .double 4607182418800017408]) := by rw [hf97, va_up_ne _ _ (Ne.symm (ne_new (mem_l hL_a) hq20))]; exact hx92
  have hx101 : f96 q42 = .inr (1, [.double 13920209183539462144, .double 4696837146684686336]) := by rw [hf97, va_up_ne _ _ (Ne.symm (ne_new (mem_l (mem_l hL_a)) hq42))]; exact hx93
  have hx102 : f96 q67 = .inr (3, [.double 0, .int 0, .int 0, .int 0, .double 0, .double 0, .int 0]) := by rw [hf97, va_up_ne _ _ (Ne.symm (ne_new (mem_l (mem_l (mem_l hL_a))) hq67))]; exact hx94
  have hF103 : f96 = va_up (va_up (va_up (va_up (va_up (va_up (va_up (va_up f q1 (.inr (1, [.double 0, .double 4636737291354636288]))) a (.inr (0, [.double 0, .double 0, .double 0, .ref q1, .null, .null, .null, .double 0, .double 0, .double 0, .double 0, .double 0, .double 0, .int 0, .int 0, .null]))) q20 (.inr (1, [.double 13830554455654793216, .double 4607182418800017408]))) a (.inr (0, [.double 0, .double 0, .double 0, .ref q1, .ref q20, .null, .null, .double 0, .double 0, .double 0, .double 0, .double 0, .double 0, .int 0, .int 0, .null]))) q42 (.inr (1, [.double 13920209183539462144, .double 4696837146684686336]))) a (.inr (0, [.double 0, .double 0, .double 0, .ref q1, .ref q20, .ref q42, .null, .double 0, .double 0, .double 0, .double 0, .double 0, .double 0, .int 0, .int 0, .null]))) q67 (.inr (3, [.double 0, .int 0, .int 0, .int 0, .double 0, .double 0, .int 0]))) a (.inr (0, [.double 0, .double 0, .double 0, .ref q1, .ref q20, .ref q42, .ref q67, .double 4636737291354636288, .double 0, .double 0, .double 0, .double 0, .double 0, .int 0, .int 0, .null])) := by rw [hf97, hF95, va_up_up]
  refine g_aload_n hC dX0_init_74 0 rfl ?_
  refine g_dload_n hC dX0_init_75 1 rfl ?_
  refine g_putF hC (kf := 0) (TT := TX0) (N := 16) (Cn := RX0) (ty0 := tyX0) (fs1 := [.double p, .double 0, .double 0, .ref q1, .ref q20, .ref q42, .ref q67, .double 4636737291354636288, .double 0, .double 0, .double 0, .double 0, .double 0, .int 0, .int 0, .null]) dX0_init_76 (mem_l (mem_l (mem_l (mem_l hL_a)))) hx98 rfl q_u0 (by decide) tyX0_ok nmX0 q_fl_X0_49 rfl rfl rfl rfl rfl rfl rfl (Nat.le_of_ble_eq_true rfl) rfl ?_
  refine g_nm (fun f104 hf105 => ?_)
  have hx106 : f104 a = .inr (0, [.double p, .double 0, .double 0, .ref q1, .ref q20, .ref q42, .ref q67, .double 4636737291354636288, .double 0, .double 0, .double 0, .double 0, .double 0, .int 0, .int 0, .null]) := by rw [hf105]; exact va_up_self _ _ _
  have hx107 : f104 q1 = .inr (1, [.double 0, .double 4636737291354636288]) := by rw [hf105, va_up_ne _ _ (Ne.symm (ne_new hL_a hq1))]; exact hx99
  have hx108 : f104 q20 = .inr (1, [.double 13830554455654793216, .double 4607182418800017408]) := by rw [hf105, va_up_ne _ _ (Ne.symm (ne_new (mem_l hL_a) hq20))]; exact hx100
  have hx109 : f104 q42 = .inr (1, [.double 13920209183539462144, .double 4696837146684686336]) := by rw [hf105, va_up_ne _ _ (Ne.symm (ne_new (mem_l (mem_l hL_a)) hq42))]; exact hx101
  have hx110 : f104 q67 = .inr (3, [.double 0, .int 0, .int 0, .int 0, .double 0, .double 0, .int 0]) := by rw [hf105, va_up_ne _ _ (Ne.symm (ne_new (mem_l (mem_l (mem_l hL_a))) hq67))]; exact hx102
  have hF111 : f104 = va_up (va_up (va_up (va_up (va_up (va_up (va_up (va_up f q1 (.inr (1, [.double 0, .double 4636737291354636288]))) a (.inr (0, [.double 0, .double 0, .double 0, .ref q1, .null, .null, .null, .double 0, .double 0, .double 0, .double 0, .double 0, .double 0, .int 0, .int 0, .null]))) q20 (.inr (1, [.double 13830554455654793216, .double 4607182418800017408]))) a (.inr (0, [.double 0, .double 0, .double 0, .ref q1, .ref q20, .null, .null, .double 0, .double 0, .double 0, .double 0, .double 0, .double 0, .int 0, .int 0, .null]))) q42 (.inr (1, [.double 13920209183539462144, .double 4696837146684686336]))) a (.inr (0, [.double 0, .double 0, .double 0, .ref q1, .ref q20, .ref q42, .null, .double 0, .double 0, .double 0, .double 0, .double 0, .double 0, .int 0, .int 0, .null]))) q67 (.inr (3, [.double 0, .int 0, .int 0, .int 0, .double 0, .double 0, .int 0]))) a (.inr (0, [.double p, .double 0, .double 0, .ref q1, .ref q20, .ref q42, .ref q67, .double 4636737291354636288, .double 0, .double 0, .double 0, .double 0, .double 0, .int 0, .int 0, .null])) := by rw [hf105, hF103, va_up_up]
  refine g_aload_n hC dX0_init_79 0 rfl ?_
  refine g_dload_n hC dX0_init_80 2 rfl ?_
  refine g_putF hC (kf := 1) (TT := TX0) (N := 16) (Cn := RX0) (ty0 := tyX0) (fs1 := [.double p, .double i, .double 0, .ref q1, .ref q20, .ref q42, .ref q67, .double 4636737291354636288, .double 0, .double 0, .double 0, .double 0, .double 0, .int 0, .int 0, .null]) dX0_init_81 (mem_l (mem_l (mem_l (mem_l hL_a)))) hx106 rfl q_u0 (by decide) tyX0_ok nmX0 q_fl_X0_52 rfl rfl rfl rfl rfl rfl rfl (Nat.le_of_ble_eq_true rfl) rfl ?_
  refine g_nm (fun f112 hf113 => ?_)
  have hx114 : f112 a = .inr (0, [.double p, .double i, .double 0, .ref q1, .ref q20, .ref q42, .ref q67, .double 4636737291354636288, .double 0, .double 0, .double 0, .double 0, .double 0, .int 0, .int 0, .null]) := by rw [hf113]; exact va_up_self _ _ _
  have hx115 : f112 q1 = .inr (1, [.double 0, .double 4636737291354636288]) := by rw [hf113, va_up_ne _ _ (Ne.symm (ne_new hL_a hq1))]; exact hx107
  have hx116 : f112 q20 = .inr (1, [.double 13830554455654793216, .double 4607182418800017408]) := by rw [hf113, va_up_ne _ _ (Ne.symm (ne_new (mem_l hL_a) hq20))]; exact hx108
  have hx117 : f112 q42 = .inr (1, [.double 13920209183539462144, .double 4696837146684686336]) := by rw [hf113, va_up_ne _ _ (Ne.symm (ne_new (mem_l (mem_l hL_a)) hq42))]; exact hx109
  have hx118 : f112 q67 = .inr (3, [.double 0, .int 0, .int 0, .int 0, .double 0, .double 0, .int 0]) := by rw [hf113, va_up_ne _ _ (Ne.symm (ne_new (mem_l (mem_l (mem_l hL_a))) hq67))]; exact hx110
  have hF119 : f112 = va_up (va_up (va_up (va_up (va_up (va_up (va_up (va_up f q1 (.inr (1, [.double 0, .double 4636737291354636288]))) a (.inr (0, [.double 0, .double 0, .double 0, .ref q1, .null, .null, .null, .double 0, .double 0, .double 0, .double 0, .double 0, .double 0, .int 0, .int 0, .null]))) q20 (.inr (1, [.double 13830554455654793216, .double 4607182418800017408]))) a (.inr (0, [.double 0, .double 0, .double 0, .ref q1, .ref q20, .null, .null, .double 0, .double 0, .double 0, .double 0, .double 0, .double 0, .int 0, .int 0, .null]))) q42 (.inr (1, [.double 13920209183539462144, .double 4696837146684686336]))) a (.inr (0, [.double 0, .double 0, .double 0, .ref q1, .ref q20, .ref q42, .null, .double 0, .double 0, .double 0, .double 0, .double 0, .double 0, .int 0, .int 0, .null]))) q67 (.inr (3, [.double 0, .int 0, .int 0, .int 0, .double 0, .double 0, .int 0]))) a (.inr (0, [.double p, .double i, .double 0, .ref q1, .ref q20, .ref q42, .ref q67, .double 4636737291354636288, .double 0, .double 0, .double 0, .double 0, .double 0, .int 0, .int 0, .null])) := by rw [hf113, hF111, va_up_up]
  refine g_aload_n hC dX0_init_84 0 rfl ?_
  refine g_dload hC dX0_init_85 3 rfl ?_
  refine g_putF hC (kf := 2) (TT := TX0) (N := 16) (Cn := RX0) (ty0 := tyX0) (fs1 := [.double p, .double i, .double d, .ref q1, .ref q20, .ref q42, .ref q67, .double 4636737291354636288, .double 0, .double 0, .double 0, .double 0, .double 0, .int 0, .int 0, .null]) dX0_init_87 (mem_l (mem_l (mem_l (mem_l hL_a)))) hx114 rfl q_u0 (by decide) tyX0_ok nmX0 q_fl_X0_55 rfl rfl rfl rfl rfl rfl rfl (Nat.le_of_ble_eq_true rfl) rfl ?_
  refine g_nm (fun f120 hf121 => ?_)
  have hx122 : f120 a = .inr (0, [.double p, .double i, .double d, .ref q1, .ref q20, .ref q42, .ref q67, .double 4636737291354636288, .double 0, .double 0, .double 0, .double 0, .double 0, .int 0, .int 0, .null]) := by rw [hf121]; exact va_up_self _ _ _
  have hx123 : f120 q1 = .inr (1, [.double 0, .double 4636737291354636288]) := by rw [hf121, va_up_ne _ _ (Ne.symm (ne_new hL_a hq1))]; exact hx115
  have hx124 : f120 q20 = .inr (1, [.double 13830554455654793216, .double 4607182418800017408]) := by rw [hf121, va_up_ne _ _ (Ne.symm (ne_new (mem_l hL_a) hq20))]; exact hx116
  have hx125 : f120 q42 = .inr (1, [.double 13920209183539462144, .double 4696837146684686336]) := by rw [hf121, va_up_ne _ _ (Ne.symm (ne_new (mem_l (mem_l hL_a)) hq42))]; exact hx117
  have hx126 : f120 q67 = .inr (3, [.double 0, .int 0, .int 0, .int 0, .double 0, .double 0, .int 0]) := by rw [hf121, va_up_ne _ _ (Ne.symm (ne_new (mem_l (mem_l (mem_l hL_a))) hq67))]; exact hx118
  have hF127 : f120 = va_up (va_up (va_up (va_up (va_up (va_up (va_up (va_up f q1 (.inr (1, [.double 0, .double 4636737291354636288]))) a (.inr (0, [.double 0, .double 0, .double 0, .ref q1, .null, .null, .null, .double 0, .double 0, .double 0, .double 0, .double 0, .double 0, .int 0, .int 0, .null]))) q20 (.inr (1, [.double 13830554455654793216, .double 4607182418800017408]))) a (.inr (0, [.double 0, .double 0, .double 0, .ref q1, .ref q20, .null, .null, .double 0, .double 0, .double 0, .double 0, .double 0, .double 0, .int 0, .int 0, .null]))) q42 (.inr (1, [.double 13920209183539462144, .double 4696837146684686336]))) a (.inr (0, [.double 0, .double 0, .double 0, .ref q1, .ref q20, .ref q42, .null, .double 0, .double 0, .double 0, .double 0, .double 0, .double 0, .int 0, .int 0, .null]))) q67 (.inr (3, [.double 0, .int 0, .int 0, .int 0, .double 0, .double 0, .int 0]))) a (.inr (0, [.double p, .double i, .double d, .ref q1, .ref q20, .ref q42, .ref q67, .double 4636737291354636288, .double 0, .double 0, .double 0, .double 0, .double 0, .int 0, .int 0, .null])) := by rw [hf121, hF119, va_up_up]
  refine g_vret hC dX0_init_90 rfl ⟨rfl, q1, q20, q42, q67, hq1, hq20, hq42, hq67, rfl, hx122, hx123, hx124, hx125, hx126, ?_⟩ (Nat.le_of_ble_eq_true rfl) (Nat.le_of_ble_eq_true rfl)
  intro b hb h1 h2 h3 h4
  rw [hF127]
  simp only [va_up_ne _ _ hb, va_up_ne _ _ h1, va_up_ne _ _ h2, va_up_ne _ _ h3, va_up_ne _ _ h4]
end
section
/-! tuning: a second, a run, the gains, over data -/
abbrev TS : Type := DT × Int32 × Int32 × Int32 × DT × DT × Int32
def tRel (le : DT) : Int32 := if qlt le (dv 4602678819172646912) = true then 1 else 0
def tIs (t : Int32) (z : TS) : Bool := !decide (t ≤ 0) && !decide (tRel z.1 = z.2.1 &&& 1)
def tSw (t : Int32) (z : TS) : Int32 := if tIs t z = true then z.2.2.1 + 1 else z.2.2.1
def tRise (t : Int32) (z : TS) : Bool := tIs t z && decide (tRel z.1 = 1)
def tLr (t : Int32) (z : TS) : Int32 := if tRise t z = true then t else z.2.2.2.1
def tPe (t : Int32) (z : TS) : Int32 := if tRise t z = true then (if z.2.2.2.1 = 0 then 0 else t - z.2.2.2.1) else z.2.2.2.2.2.2
def tRl (z : TS) : Int32 := (z.2.1 <<< ((1 : Int32) &&& 31) ||| tRel z.1) &&& 15
def tLe (z : TS) : DT := qadd z.1 (qmul (qsub (dv (FP.i2d (z.2.1 >>> ((3 : Int32) &&& 31) &&& 1))) z.1) (dv 4589168020290535424))
def tFi (t : Int32) (z : TS) : Bool := tIs t z && decide (tSw t z = 1)
def tMn (t : Int32) (z : TS) : DT := if tSw t z ≤ 0 then z.2.2.2.2.1 else (if (tFi t z || qlt (tLe z) z.2.2.2.2.1) = true then tLe z else z.2.2.2.2.1)
def tMx (t : Int32) (z : TS) : DT := if tSw t z ≤ 0 then z.2.2.2.2.2.1 else (if (tFi t z || qgt (tLe z) z.2.2.2.2.2.1) = true then tLe z else z.2.2.2.2.2.1)
def tStep (t : Int32) (z : TS) : TS := (tLe z, tRl z, tSw t z, tLr t z, tMn t z, tMx t z, tPe t z)
def tRun (z : TS) : Nat → TS
  | 0 => z
  | j + 1 => tStep (nI j) (tRun z j)
def tgA (mn mx : DT) : DT := qmul (qsub mx mn) (dv 4602678819172646912)
def tgG (mn mx : DT) : DT := qdiv (dv 4607182418800017408) (tgA mn mx)
def tgV (mn mx : DT) (pe k : Int32) : DT := if k = 0 then qmul (dv 4602678819172646912) (tgG mn mx) else if k = 1 then qdiv (tgG mn mx) (dv (FP.i2d pe)) else if k = 2 then qmul (qmul (dv 4589168020290535424) (tgG mn mx)) (dv (FP.i2d pe)) else dv 0
def tgS (mn mx : DT) (pe k : Int32) : DT := if pe = 0 then dv 0 else if qle (tgA mn mx) (dv 0) = true then dv 0 else tgV mn mx pe k
theorem sw3 (k : Int32) : k = 0 ∨ k = 1 ∨ k = 2 ∨ (k.toInt < 0 ∨ 2 < k.toInt) := by
  have h0 : k = 0 ↔ k.toInt = 0 := by rw [← Int32.toInt_inj]; rfl
  have h1 : k = 1 ↔ k.toInt = 1 := by rw [← Int32.toInt_inj]; rfl
  have h2 : k = 2 ↔ k.toInt = 2 := by rw [← Int32.toInt_inj]; rfl
  rw [h0, h1, h2]
  omega
set_option maxHeartbeats 4000000 in
set_option maxRecDepth 100000 in
/-- countSwitch(second, relay) -/
theorem ct_X3_countSwitch (l : Launch) (G : GD) (L : List Nat) (f : Nat → va_E) (a : Nat) (le : UInt64) (rl sw lr : Int32) (mn mx : UInt64) (pe : Int32) (t r : Int32) (hL_a : a ∈ L) (h0 : f a = eTn le rl sw lr mn mx pe) : Ctr l yX3_countSwitch cX3_countSwitch 3 none R00 G [.ref a, .int t, .int r] L f (fun vv L1 f1 => vv = none ∧ L = L1 ∧ f1 = va_up f a (eTn le rl (sw + 1) (if r = 1 then t else lr) mn mx (if r = 1 then (if lr = 0 then 0 else t - lr) else pe))) := by
  refine g_enter RX3 false (by decide) rfl (fun h => by cases h) (Nat.le_of_ble_eq_true rfl) (fun C hC => ?_)
  refine (show V C 3 L f 0 0 0 [(0, .ref a), (1, .int t), (2, .int r)] [] from ?_)
  refine g_aload_n hC dX3_countSwitch_0 0 rfl ?_
  refine g_dup hC dX3_countSwitch_1 rfl ?_
  refine g_get hC (kf := 2) (TT := TX3) (N := 7) (Cn := RX3) dX3_countSwitch_2 hL_a h0 rfl q_u3 (by decide) q_fl_X3_17 rfl rfl ?_
  refine g_iconst hC 1 dX3_countSwitch_5 (by decide) ?_
  refine g_iadd hC dX3_countSwitch_6 ?_
  refine g_put hC (kf := 2) (TT := TX3) (N := 7) (Cn := RX3) (ty0 := tyX3) (fs1 := [.double le, .int rl, .int (sw + 1), .int lr, .double mn, .double mx, .int pe]) dX3_countSwitch_7 hL_a h0 rfl q_u3 (by decide) tyX3_ok nmX3 q_fl_X3_17 rfl rfl rfl rfl rfl (Nat.le_of_ble_eq_true rfl) rfl ?_
  refine g_nm (fun f1 hf2 => ?_)
  have hx3 : f1 a = .inr (3, [.double le, .int rl, .int (sw + 1), .int lr, .double mn, .double mx, .int pe]) := by rw [hf2]; exact va_up_self _ _ _
  have hF4 : f1 = va_up f a (.inr (3, [.double le, .int rl, .int (sw + 1), .int lr, .double mn, .double mx, .int pe])) := hf2
  refine g_iload_n hC dX3_countSwitch_10 2 rfl ?_
  refine g_iconst hC 1 dX3_countSwitch_11 (by decide) ?_
  refine g_icmp_ne hC 41 dX3_countSwitch_12 (by decide) (fun c5 => ?_) (fun c5 => ?_)
  · skip
    exact g_vret hC dX3_countSwitch_41 rfl ⟨rfl, rfl, by rw [hF4]; simp [c5]⟩ (Nat.zero_le _) (Nat.zero_le _)
  · skip
    refine g_aload_n hC dX3_countSwitch_15 0 rfl ?_
    refine g_aload_n hC dX3_countSwitch_16 0 rfl ?_
    refine g_get hC (kf := 3) (TT := TX3) (N := 7) (Cn := RX3) dX3_countSwitch_17 hL_a hx3 rfl q_u3 (by decide) q_fl_X3_20 rfl rfl ?_
    refine g_if_ne hC 27 dX3_countSwitch_20 (by decide) (fun c6 => ?_) (fun c6 => ?_)
    · skip
      refine g_iload_n hC dX3_countSwitch_27 1 rfl ?_
      refine g_aload_n hC dX3_countSwitch_28 0 rfl ?_
      refine g_get hC (kf := 3) (TT := TX3) (N := 7) (Cn := RX3) dX3_countSwitch_29 hL_a hx3 rfl q_u3 (by decide) q_fl_X3_20 rfl rfl ?_
      refine g_isub hC dX3_countSwitch_32 ?_
      refine g_put hC (kf := 6) (TT := TX3) (N := 7) (Cn := RX3) (ty0 := tyX3) (fs1 := [.double le, .int rl, .int (sw + 1), .int lr, .double mn, .double mx, .int (t - lr)]) dX3_countSwitch_33 hL_a hx3 rfl q_u3 (by decide) tyX3_ok nmX3 q_fl_X3_23 rfl rfl rfl rfl rfl (Nat.le_of_ble_eq_true rfl) rfl ?_
      refine g_nm (fun f7 hf8 => ?_)
      have hx9 : f7 a = .inr (3, [.double le, .int rl, .int (sw + 1), .int lr, .double mn, .double mx, .int (t - lr)]) := by rw [hf8]; exact va_up_self _ _ _
      have hF10 : f7 = va_up f a (.inr (3, [.double le, .int rl, .int (sw + 1), .int lr, .double mn, .double mx, .int (t - lr)])) := by rw [hf8, hF4, va_up_up]
      refine g_aload_n hC dX3_countSwitch_36 0 rfl ?_
      refine g_iload_n hC dX3_countSwitch_37 1 rfl ?_
      refine g_put hC (kf := 3) (TT := TX3) (N := 7) (Cn := RX3) (ty0 := tyX3) (fs1 := [.double le, .int rl, .int (sw + 1), .int t, .double mn, .double mx, .int (t - lr)]) dX3_countSwitch_38 hL_a hx9 rfl q_u3 (by decide) tyX3_ok nmX3 q_fl_X3_20 rfl rfl rfl rfl rfl (Nat.le_of_ble_eq_true rfl) rfl ?_
      refine g_nm (fun f11 hf12 => ?_)
      have hx13 : f11 a = .inr (3, [.double le, .int rl, .int (sw + 1), .int t, .double mn, .double mx, .int (t - lr)]) := by rw [hf12]; exact va_up_self _ _ _
      have hF14 : f11 = va_up f a (.inr (3, [.double le, .int rl, .int (sw + 1), .int t, .double mn, .double mx, .int (t - lr)])) := by rw [hf12, hF10, va_up_up]
      exact g_vret hC dX3_countSwitch_41 rfl ⟨rfl, rfl, by rw [hF14]; simp [c5, c6]⟩ (Nat.zero_le _) (Nat.zero_le _)
    · skip
      refine g_iconst hC 0 dX3_countSwitch_23 (by decide) ?_
      refine g_goto hC 33 dX3_countSwitch_24 (by decide) ?_
      refine g_put hC (kf := 6) (TT := TX3) (N := 7) (Cn := RX3) (ty0 := tyX3) (fs1 := [.double le, .int rl, .int (sw + 1), .int lr, .double mn, .double mx, .int 0]) dX3_countSwitch_33 hL_a hx3 rfl q_u3 (by decide) tyX3_ok nmX3 q_fl_X3_23 rfl rfl rfl rfl rfl (Nat.le_of_ble_eq_true rfl) rfl ?_
      refine g_nm (fun f15 hf16 => ?_)
      have hx17 : f15 a = .inr (3, [.double le, .int rl, .int (sw + 1), .int lr, .double mn, .double mx, .int 0]) := by rw [hf16]; exact va_up_self _ _ _
      have hF18 : f15 = va_up f a (.inr (3, [.double le, .int rl, .int (sw + 1), .int lr, .double mn, .double mx, .int 0])) := by rw [hf16, hF4, va_up_up]
      refine g_aload_n hC dX3_countSwitch_36 0 rfl ?_
      refine g_iload_n hC dX3_countSwitch_37 1 rfl ?_
      refine g_put hC (kf := 3) (TT := TX3) (N := 7) (Cn := RX3) (ty0 := tyX3) (fs1 := [.double le, .int rl, .int (sw + 1), .int t, .double mn, .double mx, .int 0]) dX3_countSwitch_38 hL_a hx17 rfl q_u3 (by decide) tyX3_ok nmX3 q_fl_X3_20 rfl rfl rfl rfl rfl (Nat.le_of_ble_eq_true rfl) rfl ?_
      refine g_nm (fun f19 hf20 => ?_)
      have hx21 : f19 a = .inr (3, [.double le, .int rl, .int (sw + 1), .int t, .double mn, .double mx, .int 0]) := by rw [hf20]; exact va_up_self _ _ _
      have hF22 : f19 = va_up f a (.inr (3, [.double le, .int rl, .int (sw + 1), .int t, .double mn, .double mx, .int 0])) := by rw [hf20, hF18, va_up_up]
      exact g_vret hC dX3_countSwitch_41 rfl ⟨rfl, rfl, by rw [hF22]; simp [c5, c6]⟩ (Nat.zero_le _) (Nat.zero_le _)
set_option maxHeartbeats 4000000 in
set_option maxRecDepth 100000 in
/-- keepLevel(isFirst) -/
theorem ct_X3_keepLevel (l : Launch) (G : GD) (L : List Nat) (f : Nat → va_E) (a : Nat) (le : UInt64) (rl sw lr : Int32) (mn mx : UInt64) (pe : Int32) (b : Bool) (hL_a : a ∈ L) (h0 : f a = eTn le rl sw lr mn mx pe) : Ctr l yX3_keepLevel cX3_keepLevel 2 none R00 G [.ref a, .int (bI b)] L f (fun vv L1 f1 => vv = none ∧ L = L1 ∧ f1 = va_up f a (eTn le rl sw lr (if (b || qlt (dv le) (dv mn)) = true then le else mn) (if (b || qgt (dv le) (dv mx)) = true then le else mx) pe)) := by
  refine g_enter RX3 false (by decide) rfl (fun h => by cases h) (Nat.le_of_ble_eq_true rfl) (fun C hC => ?_)
  refine (show V C 2 L f 0 0 0 [(0, .ref a), (1, .int (bI b))] [] from ?_)
  refine g_aload_n hC dX3_keepLevel_0 0 rfl ?_
  refine g_iload_n hC dX3_keepLevel_1 1 rfl ?_
  refine g_ifB_ne hC 17 dX3_keepLevel_2 (by decide) (fun c1 => ?_) (fun c1 => ?_)
  · skip
    refine g_aload_n hC dX3_keepLevel_17 0 rfl ?_
    refine g_get hC (kf := 0) (TT := TX3) (N := 7) (Cn := RX3) dX3_keepLevel_18 hL_a h0 rfl q_u3 (by decide) q_fl_X3_7 rfl rfl ?_
    refine g_goto hC 28 dX3_keepLevel_21 (by decide) ?_
    refine g_put hC (kf := 4) (TT := TX3) (N := 7) (Cn := RX3) (ty0 := tyX3) (fs1 := [.double le, .int rl, .int sw, .int lr, .double le, .double mx, .int pe]) dX3_keepLevel_28 hL_a h0 rfl q_u3 (by decide) tyX3_ok nmX3 q_fl_X3_42 rfl rfl rfl rfl rfl (Nat.le_of_ble_eq_true rfl) rfl ?_
    refine g_nm (fun f2 hf3 => ?_)
    have hx4 : f2 a = .inr (3, [.double le, .int rl, .int sw, .int lr, .double le, .double mx, .int pe]) := by rw [hf3]; exact va_up_self _ _ _
    have hF5 : f2 = va_up f a (.inr (3, [.double le, .int rl, .int sw, .int lr, .double le, .double mx, .int pe])) := hf3
    refine g_aload_n hC dX3_keepLevel_31 0 rfl ?_
    refine g_iload_n hC dX3_keepLevel_32 1 rfl ?_
    refine g_ifB_ne hC 48 dX3_keepLevel_33 (by decide) (fun _ => ?_) (fun c => absurd (c.symm.trans c1) (by decide))
    refine g_aload_n hC dX3_keepLevel_48 0 rfl ?_
    refine g_get hC (kf := 0) (TT := TX3) (N := 7) (Cn := RX3) dX3_keepLevel_49 hL_a hx4 rfl q_u3 (by decide) q_fl_X3_7 rfl rfl ?_
    refine g_goto hC 59 dX3_keepLevel_52 (by decide) ?_
    refine g_put hC (kf := 5) (TT := TX3) (N := 7) (Cn := RX3) (ty0 := tyX3) (fs1 := [.double le, .int rl, .int sw, .int lr, .double le, .double le, .int pe]) dX3_keepLevel_59 hL_a hx4 rfl q_u3 (by decide) tyX3_ok nmX3 q_fl_X3_45 rfl rfl rfl rfl rfl (Nat.le_of_ble_eq_true rfl) rfl ?_
    refine g_nm (fun f7 hf8 => ?_)
    have hx9 : f7 a = .inr (3, [.double le, .int rl, .int sw, .int lr, .double le, .double le, .int pe]) := by rw [hf8]; exact va_up_self _ _ _
    have hF10 : f7 = va_up f a (.inr (3, [.double le, .int rl, .int sw, .int lr, .double le, .double le, .int pe])) := by rw [hf8, hF5, va_up_up]
    exact g_vret hC dX3_keepLevel_62 rfl ⟨rfl, rfl, by rw [hF10]; simp [c1]⟩ (Nat.zero_le _) (Nat.zero_le _)
  · skip
    refine g_aload_n hC dX3_keepLevel_5 0 rfl ?_
    refine g_get hC (kf := 0) (TT := TX3) (N := 7) (Cn := RX3) dX3_keepLevel_6 hL_a h0 rfl q_u3 (by decide) q_fl_X3_7 rfl rfl ?_
    refine g_aload_n hC dX3_keepLevel_9 0 rfl ?_
    refine g_get hC (kf := 4) (TT := TX3) (N := 7) (Cn := RX3) dX3_keepLevel_10 hL_a h0 rfl q_u3 (by decide) q_fl_X3_42 rfl rfl ?_
    refine g_dcmpg_ge hC 24 dX3_keepLevel_13 dX3_keepLevel_14 (by decide) (fun c11 => ?_) (fun c11 => ?_)
    · skip
      refine g_aload_n hC dX3_keepLevel_24 0 rfl ?_
      refine g_get hC (kf := 4) (TT := TX3) (N := 7) (Cn := RX3) dX3_keepLevel_25 hL_a h0 rfl q_u3 (by decide) q_fl_X3_42 rfl rfl ?_
      refine g_put hC (kf := 4) (TT := TX3) (N := 7) (Cn := RX3) (ty0 := tyX3) (fs1 := [.double le, .int rl, .int sw, .int lr, .double mn, .double mx, .int pe]) dX3_keepLevel_28 hL_a h0 rfl q_u3 (by decide) tyX3_ok nmX3 q_fl_X3_42 rfl rfl rfl rfl rfl (Nat.le_of_ble_eq_true rfl) rfl ?_
      refine g_nm (fun f12 hf13 => ?_)
      have hx14 : f12 a = .inr (3, [.double le, .int rl, .int sw, .int lr, .double mn, .double mx, .int pe]) := by rw [hf13]; exact va_up_self _ _ _
      have hF15 : f12 = va_up f a (.inr (3, [.double le, .int rl, .int sw, .int lr, .double mn, .double mx, .int pe])) := hf13
      refine g_aload_n hC dX3_keepLevel_31 0 rfl ?_
      refine g_iload_n hC dX3_keepLevel_32 1 rfl ?_
      refine g_ifB_ne hC 48 dX3_keepLevel_33 (by decide) (fun c => absurd (c.symm.trans c1) (by decide)) (fun _ => ?_)
      refine g_aload_n hC dX3_keepLevel_36 0 rfl ?_
      refine g_get hC (kf := 0) (TT := TX3) (N := 7) (Cn := RX3) dX3_keepLevel_37 hL_a hx14 rfl q_u3 (by decide) q_fl_X3_7 rfl rfl ?_
      refine g_aload_n hC dX3_keepLevel_40 0 rfl ?_
      refine g_get hC (kf := 5) (TT := TX3) (N := 7) (Cn := RX3) dX3_keepLevel_41 hL_a hx14 rfl q_u3 (by decide) q_fl_X3_45 rfl rfl ?_
      refine g_dcmpl_le hC 55 dX3_keepLevel_44 dX3_keepLevel_45 (by decide) (fun c17 => ?_) (fun c17 => ?_)
      · skip
        refine g_aload_n hC dX3_keepLevel_55 0 rfl ?_
        refine g_get hC (kf := 5) (TT := TX3) (N := 7) (Cn := RX3) dX3_keepLevel_56 hL_a hx14 rfl q_u3 (by decide) q_fl_X3_45 rfl rfl ?_
        refine g_put hC (kf := 5) (TT := TX3) (N := 7) (Cn := RX3) (ty0 := tyX3) (fs1 := [.double le, .int rl, .int sw, .int lr, .double mn, .double mx, .int pe]) dX3_keepLevel_59 hL_a hx14 rfl q_u3 (by decide) tyX3_ok nmX3 q_fl_X3_45 rfl rfl rfl rfl rfl (Nat.le_of_ble_eq_true rfl) rfl ?_
        refine g_nm (fun f18 hf19 => ?_)
        have hx20 : f18 a = .inr (3, [.double le, .int rl, .int sw, .int lr, .double mn, .double mx, .int pe]) := by rw [hf19]; exact va_up_self _ _ _
        have hF21 : f18 = va_up f a (.inr (3, [.double le, .int rl, .int sw, .int lr, .double mn, .double mx, .int pe])) := by rw [hf19, hF15, va_up_up]
        exact g_vret hC dX3_keepLevel_62 rfl ⟨rfl, rfl, by rw [hF21]; simp [c1, c11, c17]⟩ (Nat.zero_le _) (Nat.zero_le _)
      · skip
        refine g_aload_n hC dX3_keepLevel_48 0 rfl ?_
        refine g_get hC (kf := 0) (TT := TX3) (N := 7) (Cn := RX3) dX3_keepLevel_49 hL_a hx14 rfl q_u3 (by decide) q_fl_X3_7 rfl rfl ?_
        refine g_goto hC 59 dX3_keepLevel_52 (by decide) ?_
        refine g_put hC (kf := 5) (TT := TX3) (N := 7) (Cn := RX3) (ty0 := tyX3) (fs1 := [.double le, .int rl, .int sw, .int lr, .double mn, .double le, .int pe]) dX3_keepLevel_59 hL_a hx14 rfl q_u3 (by decide) tyX3_ok nmX3 q_fl_X3_45 rfl rfl rfl rfl rfl (Nat.le_of_ble_eq_true rfl) rfl ?_
        refine g_nm (fun f22 hf23 => ?_)
        have hx24 : f22 a = .inr (3, [.double le, .int rl, .int sw, .int lr, .double mn, .double le, .int pe]) := by rw [hf23]; exact va_up_self _ _ _
        have hF25 : f22 = va_up f a (.inr (3, [.double le, .int rl, .int sw, .int lr, .double mn, .double le, .int pe])) := by rw [hf23, hF15, va_up_up]
        exact g_vret hC dX3_keepLevel_62 rfl ⟨rfl, rfl, by rw [hF25]; simp [c1, c11, c17]⟩ (Nat.zero_le _) (Nat.zero_le _)
    · skip
      refine g_aload_n hC dX3_keepLevel_17 0 rfl ?_
      refine g_get hC (kf := 0) (TT := TX3) (N := 7) (Cn := RX3) dX3_keepLevel_18 hL_a h0 rfl q_u3 (by decide) q_fl_X3_7 rfl rfl ?_
      refine g_goto hC 28 dX3_keepLevel_21 (by decide) ?_
      refine g_put hC (kf := 4) (TT := TX3) (N := 7) (Cn := RX3) (ty0 := tyX3) (fs1 := [.double le, .int rl, .int sw, .int lr, .double le, .double mx, .int pe]) dX3_keepLevel_28 hL_a h0 rfl q_u3 (by decide) tyX3_ok nmX3 q_fl_X3_42 rfl rfl rfl rfl rfl (Nat.le_of_ble_eq_true rfl) rfl ?_
      refine g_nm (fun f26 hf27 => ?_)
      have hx28 : f26 a = .inr (3, [.double le, .int rl, .int sw, .int lr, .double le, .double mx, .int pe]) := by rw [hf27]; exact va_up_self _ _ _
      have hF29 : f26 = va_up f a (.inr (3, [.double le, .int rl, .int sw, .int lr, .double le, .double mx, .int pe])) := hf27
      refine g_aload_n hC dX3_keepLevel_31 0 rfl ?_
      refine g_iload_n hC dX3_keepLevel_32 1 rfl ?_
      refine g_ifB_ne hC 48 dX3_keepLevel_33 (by decide) (fun c => absurd (c.symm.trans c1) (by decide)) (fun _ => ?_)
      refine g_aload_n hC dX3_keepLevel_36 0 rfl ?_
      refine g_get hC (kf := 0) (TT := TX3) (N := 7) (Cn := RX3) dX3_keepLevel_37 hL_a hx28 rfl q_u3 (by decide) q_fl_X3_7 rfl rfl ?_
      refine g_aload_n hC dX3_keepLevel_40 0 rfl ?_
      refine g_get hC (kf := 5) (TT := TX3) (N := 7) (Cn := RX3) dX3_keepLevel_41 hL_a hx28 rfl q_u3 (by decide) q_fl_X3_45 rfl rfl ?_
      refine g_dcmpl_le hC 55 dX3_keepLevel_44 dX3_keepLevel_45 (by decide) (fun c31 => ?_) (fun c31 => ?_)
      · skip
        refine g_aload_n hC dX3_keepLevel_55 0 rfl ?_
        refine g_get hC (kf := 5) (TT := TX3) (N := 7) (Cn := RX3) dX3_keepLevel_56 hL_a hx28 rfl q_u3 (by decide) q_fl_X3_45 rfl rfl ?_
        refine g_put hC (kf := 5) (TT := TX3) (N := 7) (Cn := RX3) (ty0 := tyX3) (fs1 := [.double le, .int rl, .int sw, .int lr, .double le, .double mx, .int pe]) dX3_keepLevel_59 hL_a hx28 rfl q_u3 (by decide) tyX3_ok nmX3 q_fl_X3_45 rfl rfl rfl rfl rfl (Nat.le_of_ble_eq_true rfl) rfl ?_
        refine g_nm (fun f32 hf33 => ?_)
        have hx34 : f32 a = .inr (3, [.double le, .int rl, .int sw, .int lr, .double le, .double mx, .int pe]) := by rw [hf33]; exact va_up_self _ _ _
        have hF35 : f32 = va_up f a (.inr (3, [.double le, .int rl, .int sw, .int lr, .double le, .double mx, .int pe])) := by rw [hf33, hF29, va_up_up]
        exact g_vret hC dX3_keepLevel_62 rfl ⟨rfl, rfl, by rw [hF35]; simp [c1, c11, c31]⟩ (Nat.zero_le _) (Nat.zero_le _)
      · skip
        refine g_aload_n hC dX3_keepLevel_48 0 rfl ?_
        refine g_get hC (kf := 0) (TT := TX3) (N := 7) (Cn := RX3) dX3_keepLevel_49 hL_a hx28 rfl q_u3 (by decide) q_fl_X3_7 rfl rfl ?_
        refine g_goto hC 59 dX3_keepLevel_52 (by decide) ?_
        refine g_put hC (kf := 5) (TT := TX3) (N := 7) (Cn := RX3) (ty0 := tyX3) (fs1 := [.double le, .int rl, .int sw, .int lr, .double le, .double le, .int pe]) dX3_keepLevel_59 hL_a hx28 rfl q_u3 (by decide) tyX3_ok nmX3 q_fl_X3_45 rfl rfl rfl rfl rfl (Nat.le_of_ble_eq_true rfl) rfl ?_
        refine g_nm (fun f36 hf37 => ?_)
        have hx38 : f36 a = .inr (3, [.double le, .int rl, .int sw, .int lr, .double le, .double le, .int pe]) := by rw [hf37]; exact va_up_self _ _ _
        have hF39 : f36 = va_up f a (.inr (3, [.double le, .int rl, .int sw, .int lr, .double le, .double le, .int pe])) := by rw [hf37, hF29, va_up_up]
        exact g_vret hC dX3_keepLevel_62 rfl ⟨rfl, rfl, by rw [hF39]; simp [c1, c11, c31]⟩ (Nat.zero_le _) (Nat.zero_le _)
theorem d01 : ((0 : Int32) = 1) = False := by decide
theorem d11 : ((1 : Int32) = 1) = True := by decide
theorem ite_dv {c : Prop} [Decidable c] {x y : UInt64} : dv (if c then x else y) = if c then dv x else dv y := by split <;> rfl
set_option maxHeartbeats 4000000 in
set_option maxRecDepth 100000 in
/-- step(second) -/
theorem ct_X3_step (l : Launch) (G : GD) (L : List Nat) (f : Nat → va_E) (a : Nat) (le : UInt64) (rl sw lr : Int32) (mn mx : UInt64) (pe : Int32) (t : Int32) (hL_a : a ∈ L) (h0 : f a = eTn le rl sw lr mn mx pe) : Ctr l yX3_step cX3_step 5 none { frames := 1, cells := 0, slots := 0, locals := 22 } G [.ref a, .int t] L f (fun vv L1 f1 => vv = none ∧ L = L1 ∧ ∃ (le1 : UInt64) (rl1 sw1 lr1 : Int32) (mn1 mx1 : UInt64) (pe1 : Int32), (dv le1, rl1, sw1, lr1, dv mn1, dv mx1, pe1) = tStep t (dv le, rl, sw, lr, dv mn, dv mx, pe) ∧ f1 = va_up f a (eTn le1 rl1 sw1 lr1 mn1 mx1 pe1)) := by
  refine g_enter RX3 false (by decide) rfl (fun h => by cases h) (Nat.le_of_ble_eq_true rfl) (fun C hC => ?_)
  refine (show V C 5 L f 0 0 0 [(0, .ref a), (1, .int t)] [] from ?_)
  refine g_aload_n hC dX3_step_0 0 rfl ?_
  refine g_get hC (kf := 0) (TT := TX3) (N := 7) (Cn := RX3) dX3_step_1 hL_a h0 rfl q_u3 (by decide) q_fl_X3_7 rfl rfl ?_
  refine g_ldc2 hC dX3_step_4 q_cd_X3_30 ?_
  refine g_dcmpg_ge hC 15 dX3_step_7 dX3_step_8 (by decide) (fun c1 => ?_) (fun c1 => ?_)
  · skip
    refine g_iconst hC 0 dX3_step_15 (by decide) ?_
    refine g_istore_n hC (lv1 := [(2, .int 0), (0, .ref a), (1, .int t)]) dX3_step_16 (by decide) rfl ?_
    refine g_iload_n hC dX3_step_17 2 rfl ?_
    refine g_if_le hC 35 dX3_step_18 (by decide) (fun c2 => ?_) (fun c2 => ?_)
    · skip
      refine g_iconst hC 0 dX3_step_35 (by decide) ?_
      refine g_istore_n hC (lv1 := [(3, .int 0), (2, .int 0), (0, .ref a), (1, .int t)]) dX3_step_36 (by decide) rfl ?_
      refine g_iload_n hC dX3_step_37 0 rfl ?_
      refine g_if_eq hC 47 dX3_step_38 (by decide) (fun _ => ?_) (fun c => absurd c (by decide))
      refine g_aload_n hC dX3_step_47 2 rfl ?_
      refine g_get hC (kf := 1) (TT := TX3) (N := 7) (Cn := RX3) dX3_step_48 hL_a h0 rfl q_u3 (by decide) q_fl_X3_13 rfl rfl ?_
      refine g_iconst hC 3 dX3_step_51 (by decide) ?_
      refine g_ishr hC dX3_step_52 ?_
      refine g_iconst hC 1 dX3_step_53 (by decide) ?_
      refine g_iand hC dX3_step_54 ?_
      refine g_istore hC (lv1 := [(4, .int ((rl >>> (3 &&& 31)) &&& 1)), (3, .int 0), (2, .int 0), (0, .ref a), (1, .int t)]) dX3_step_55 (by decide) rfl ?_
      refine g_aload_n hC dX3_step_57 3 rfl ?_
      refine g_aload_n hC dX3_step_58 3 rfl ?_
      refine g_get hC (kf := 1) (TT := TX3) (N := 7) (Cn := RX3) dX3_step_59 hL_a h0 rfl q_u3 (by decide) q_fl_X3_13 rfl rfl ?_
      refine g_iconst hC 1 dX3_step_62 (by decide) ?_
      refine g_ishl hC dX3_step_63 ?_
      refine g_iload_n hC dX3_step_64 2 rfl ?_
      refine g_ior hC dX3_step_65 ?_
      refine g_bipush hC 15 dX3_step_66 (by decide) ?_
      refine g_iand hC dX3_step_68 ?_
      refine g_put hC (kf := 1) (TT := TX3) (N := 7) (Cn := RX3) (ty0 := tyX3) (fs1 := [.double le, .int (((rl <<< (1 &&& 31)) ||| 0) &&& 15), .int sw, .int lr, .double mn, .double mx, .int pe]) dX3_step_69 hL_a h0 rfl q_u3 (by decide) tyX3_ok nmX3 q_fl_X3_13 rfl rfl rfl rfl rfl (Nat.le_of_ble_eq_true rfl) rfl ?_
      refine g_nm (fun f3 hf4 => ?_)
      have hx5 : f3 a = .inr (3, [.double le, .int (((rl <<< (1 &&& 31)) ||| 0) &&& 15), .int sw, .int lr, .double mn, .double mx, .int pe]) := by rw [hf4]; exact va_up_self _ _ _
      have hF6 : f3 = va_up f a (.inr (3, [.double le, .int (((rl <<< (1 &&& 31)) ||| 0) &&& 15), .int sw, .int lr, .double mn, .double mx, .int pe])) := hf4
      refine g_aload_n hC dX3_step_72 3 rfl ?_
      refine g_aload_n hC dX3_step_73 3 rfl ?_
      refine g_get hC (kf := 0) (TT := TX3) (N := 7) (Cn := RX3) dX3_step_74 hL_a hx5 rfl q_u3 (by decide) q_fl_X3_7 rfl rfl ?_
      refine g_iload hC dX3_step_77 0 rfl ?_
      refine g_i2d hC dX3_step_79 ?_
      refine g_aload_n hC dX3_step_80 3 rfl ?_
      refine g_get hC (kf := 0) (TT := TX3) (N := 7) (Cn := RX3) dX3_step_81 hL_a hx5 rfl q_u3 (by decide) q_fl_X3_7 rfl rfl ?_
      refine g_dsub hC dX3_step_84 (fun r7 er7 => ?_)
      refine g_ldc2 hC dX3_step_85 q_cd_X3_36 ?_
      refine g_dmul hC dX3_step_88 (fun r8 er8 => ?_)
      try simp only [er7] at er8
      refine g_dadd hC dX3_step_89 (fun r9 er9 => ?_)
      try simp only [er7, er8] at er9
      refine g_put hC (kf := 0) (TT := TX3) (N := 7) (Cn := RX3) (ty0 := tyX3) (fs1 := [.double r9, .int (((rl <<< (1 &&& 31)) ||| 0) &&& 15), .int sw, .int lr, .double mn, .double mx, .int pe]) dX3_step_90 hL_a hx5 rfl q_u3 (by decide) tyX3_ok nmX3 q_fl_X3_7 rfl rfl rfl rfl rfl (Nat.le_of_ble_eq_true rfl) rfl ?_
      refine g_nm (fun f10 hf11 => ?_)
      have hx12 : f10 a = .inr (3, [.double r9, .int (((rl <<< (1 &&& 31)) ||| 0) &&& 15), .int sw, .int lr, .double mn, .double mx, .int pe]) := by rw [hf11]; exact va_up_self _ _ _
      have hF13 : f10 = va_up f a (.inr (3, [.double r9, .int (((rl <<< (1 &&& 31)) ||| 0) &&& 15), .int sw, .int lr, .double mn, .double mx, .int pe])) := by rw [hf11, hF6, va_up_up]
      refine g_aload_n hC dX3_step_93 3 rfl ?_
      refine g_get hC (kf := 2) (TT := TX3) (N := 7) (Cn := RX3) dX3_step_94 hL_a hx12 rfl q_u3 (by decide) q_fl_X3_17 rfl rfl ?_
      refine g_if_le hC 121 dX3_step_97 (by decide) (fun c14 => ?_) (fun c14 => ?_)
      · skip
        refine g_vret hC dX3_step_121 rfl ⟨rfl, rfl, r9, (((rl <<< (1 &&& 31)) ||| 0) &&& 15), sw, lr, mn, mx, pe, ?_, hF13⟩ (Nat.zero_le _) (Nat.zero_le _)
        simp only [tStep, tLe, tRl, tSw, tLr, tMn, tMx, tPe, tRise, tFi, tIs, tRel, ite_dv, decide_true, decide_false, Bool.and_true, Bool.true_and, Bool.and_false, Bool.false_and, Bool.not_true, Bool.not_false, Bool.false_or, Bool.true_or, Bool.false_eq_true, if_true, if_false, d01, d11, c1, eq_true c2, eq_true c14, er7, er8, er9]
      · skip
        refine g_aload_n hC dX3_step_100 3 rfl ?_
        refine g_iload_n hC dX3_step_101 1 rfl ?_
        refine g_if_eq hC 117 dX3_step_102 (by decide) (fun _ => ?_) (fun c => absurd c (by decide))
        refine g_iconst hC 0 dX3_step_117 (by decide) ?_
        refine g_callV hC (Cn := RX3) (TT := TX3) (N := 7) dX3_step_118 (ct_X3_keepLevel l G L f10 a r9 (((rl <<< (1 &&& 31)) ||| 0) &&& 15) sw lr mn mx pe false hL_a hx12) q_code_X3_keepLevel q_ml_X3_38 q_im_X3_keepLevel q_sel_X3_keepLevel q_init_X3 ⟨rfl, by decide, by decide, (show (parseMethodDescriptor yX3_keepLevel.desc).map (fun d => d.parameters.length) = some 1 from by decide +kernel)⟩ hL_a hx12 rfl (by decide) (by decide) (Nat.le_of_ble_eq_true rfl) (fun v16 L17 f18 hp15 => ?_)
        obtain ⟨rfl, rfl, hf19⟩ := hp15
        have hx20 : f18 a = .inr (3, [.double r9, .int (((rl <<< (1 &&& 31)) ||| 0) &&& 15), .int sw, .int lr, .double (if (false || qlt (dv r9) (dv mn)) = true then r9 else mn), .double (if (false || qgt (dv r9) (dv mx)) = true then r9 else mx), .int pe]) := by rw [hf19]; exact va_up_self _ _ _
        have hF21 : f18 = va_up f a (.inr (3, [.double r9, .int (((rl <<< (1 &&& 31)) ||| 0) &&& 15), .int sw, .int lr, .double (if (false || qlt (dv r9) (dv mn)) = true then r9 else mn), .double (if (false || qgt (dv r9) (dv mx)) = true then r9 else mx), .int pe])) := by rw [hf19, hF13, va_up_up]
        refine (show V C 5 L f18 0 0 121 [(4, .int ((rl >>> (3 &&& 31)) &&& 1)), (3, .int 0), (2, .int 0), (0, .ref a), (1, .int t)] [] from ?_)
        refine g_vret hC dX3_step_121 rfl ⟨rfl, rfl, r9, (((rl <<< (1 &&& 31)) ||| 0) &&& 15), sw, lr, (if (false || qlt (dv r9) (dv mn)) = true then r9 else mn), (if (false || qgt (dv r9) (dv mx)) = true then r9 else mx), pe, ?_, hF21⟩ (Nat.zero_le _) (Nat.zero_le _)
        simp only [tStep, tLe, tRl, tSw, tLr, tMn, tMx, tPe, tRise, tFi, tIs, tRel, ite_dv, decide_true, decide_false, Bool.and_true, Bool.true_and, Bool.and_false, Bool.false_and, Bool.not_true, Bool.not_false, Bool.false_or, Bool.true_or, Bool.false_eq_true, if_true, if_false, d01, d11, c1, eq_true c2, eq_false c14, er7, er8, er9]
    · skip
      refine g_iload_n hC dX3_step_21 0 rfl ?_
      refine g_aload_n hC dX3_step_22 1 rfl ?_
      refine g_get hC (kf := 1) (TT := TX3) (N := 7) (Cn := RX3) dX3_step_23 hL_a h0 rfl q_u3 (by decide) q_fl_X3_13 rfl rfl ?_
      refine g_iconst hC 1 dX3_step_26 (by decide) ?_
      refine g_iand hC dX3_step_27 ?_
      refine g_icmp_eq hC 35 dX3_step_28 (by decide) (fun c22 => ?_) (fun c22 => ?_)
      · skip
        refine g_iconst hC 0 dX3_step_35 (by decide) ?_
        refine g_istore_n hC (lv1 := [(3, .int 0), (2, .int 0), (0, .ref a), (1, .int t)]) dX3_step_36 (by decide) rfl ?_
        refine g_iload_n hC dX3_step_37 0 rfl ?_
        refine g_if_eq hC 47 dX3_step_38 (by decide) (fun _ => ?_) (fun c => absurd c (by decide))
        refine g_aload_n hC dX3_step_47 2 rfl ?_
        refine g_get hC (kf := 1) (TT := TX3) (N := 7) (Cn := RX3) dX3_step_48 hL_a h0 rfl q_u3 (by decide) q_fl_X3_13 rfl rfl ?_
        refine g_iconst hC 3 dX3_step_51 (by decide) ?_
        refine g_ishr hC dX3_step_52 ?_
        refine g_iconst hC 1 dX3_step_53 (by decide) ?_
        refine g_iand hC dX3_step_54 ?_
        refine g_istore hC (lv1 := [(4, .int ((rl >>> (3 &&& 31)) &&& 1)), (3, .int 0), (2, .int 0), (0, .ref a), (1, .int t)]) dX3_step_55 (by decide) rfl ?_
        refine g_aload_n hC dX3_step_57 3 rfl ?_
        refine g_aload_n hC dX3_step_58 3 rfl ?_
        refine g_get hC (kf := 1) (TT := TX3) (N := 7) (Cn := RX3) dX3_step_59 hL_a h0 rfl q_u3 (by decide) q_fl_X3_13 rfl rfl ?_
        refine g_iconst hC 1 dX3_step_62 (by decide) ?_
        refine g_ishl hC dX3_step_63 ?_
        refine g_iload_n hC dX3_step_64 2 rfl ?_
        refine g_ior hC dX3_step_65 ?_
        refine g_bipush hC 15 dX3_step_66 (by decide) ?_
        refine g_iand hC dX3_step_68 ?_
        refine g_put hC (kf := 1) (TT := TX3) (N := 7) (Cn := RX3) (ty0 := tyX3) (fs1 := [.double le, .int (((rl <<< (1 &&& 31)) ||| 0) &&& 15), .int sw, .int lr, .double mn, .double mx, .int pe]) dX3_step_69 hL_a h0 rfl q_u3 (by decide) tyX3_ok nmX3 q_fl_X3_13 rfl rfl rfl rfl rfl (Nat.le_of_ble_eq_true rfl) rfl ?_
        refine g_nm (fun f23 hf24 => ?_)
        have hx25 : f23 a = .inr (3, [.double le, .int (((rl <<< (1 &&& 31)) ||| 0) &&& 15), .int sw, .int lr, .double mn, .double mx, .int pe]) := by rw [hf24]; exact va_up_self _ _ _
        have hF26 : f23 = va_up f a (.inr (3, [.double le, .int (((rl <<< (1 &&& 31)) ||| 0) &&& 15), .int sw, .int lr, .double mn, .double mx, .int pe])) := hf24
        refine g_aload_n hC dX3_step_72 3 rfl ?_
        refine g_aload_n hC dX3_step_73 3 rfl ?_
        refine g_get hC (kf := 0) (TT := TX3) (N := 7) (Cn := RX3) dX3_step_74 hL_a hx25 rfl q_u3 (by decide) q_fl_X3_7 rfl rfl ?_
        refine g_iload hC dX3_step_77 0 rfl ?_
        refine g_i2d hC dX3_step_79 ?_
        refine g_aload_n hC dX3_step_80 3 rfl ?_
        refine g_get hC (kf := 0) (TT := TX3) (N := 7) (Cn := RX3) dX3_step_81 hL_a hx25 rfl q_u3 (by decide) q_fl_X3_7 rfl rfl ?_
        refine g_dsub hC dX3_step_84 (fun r27 er27 => ?_)
        refine g_ldc2 hC dX3_step_85 q_cd_X3_36 ?_
        refine g_dmul hC dX3_step_88 (fun r28 er28 => ?_)
        try simp only [er27] at er28
        refine g_dadd hC dX3_step_89 (fun r29 er29 => ?_)
        try simp only [er27, er28] at er29
        refine g_put hC (kf := 0) (TT := TX3) (N := 7) (Cn := RX3) (ty0 := tyX3) (fs1 := [.double r29, .int (((rl <<< (1 &&& 31)) ||| 0) &&& 15), .int sw, .int lr, .double mn, .double mx, .int pe]) dX3_step_90 hL_a hx25 rfl q_u3 (by decide) tyX3_ok nmX3 q_fl_X3_7 rfl rfl rfl rfl rfl (Nat.le_of_ble_eq_true rfl) rfl ?_
        refine g_nm (fun f30 hf31 => ?_)
        have hx32 : f30 a = .inr (3, [.double r29, .int (((rl <<< (1 &&& 31)) ||| 0) &&& 15), .int sw, .int lr, .double mn, .double mx, .int pe]) := by rw [hf31]; exact va_up_self _ _ _
        have hF33 : f30 = va_up f a (.inr (3, [.double r29, .int (((rl <<< (1 &&& 31)) ||| 0) &&& 15), .int sw, .int lr, .double mn, .double mx, .int pe])) := by rw [hf31, hF26, va_up_up]
        refine g_aload_n hC dX3_step_93 3 rfl ?_
        refine g_get hC (kf := 2) (TT := TX3) (N := 7) (Cn := RX3) dX3_step_94 hL_a hx32 rfl q_u3 (by decide) q_fl_X3_17 rfl rfl ?_
        refine g_if_le hC 121 dX3_step_97 (by decide) (fun c34 => ?_) (fun c34 => ?_)
        · skip
          refine g_vret hC dX3_step_121 rfl ⟨rfl, rfl, r29, (((rl <<< (1 &&& 31)) ||| 0) &&& 15), sw, lr, mn, mx, pe, ?_, hF33⟩ (Nat.zero_le _) (Nat.zero_le _)
          simp only [tStep, tLe, tRl, tSw, tLr, tMn, tMx, tPe, tRise, tFi, tIs, tRel, ite_dv, decide_true, decide_false, Bool.and_true, Bool.true_and, Bool.and_false, Bool.false_and, Bool.not_true, Bool.not_false, Bool.false_or, Bool.true_or, Bool.false_eq_true, if_true, if_false, d01, d11, c1, eq_false c2, eq_true c22, eq_true c34, er27, er28, er29]
        · skip
          refine g_aload_n hC dX3_step_100 3 rfl ?_
          refine g_iload_n hC dX3_step_101 1 rfl ?_
          refine g_if_eq hC 117 dX3_step_102 (by decide) (fun _ => ?_) (fun c => absurd c (by decide))
          refine g_iconst hC 0 dX3_step_117 (by decide) ?_
          refine g_callV hC (Cn := RX3) (TT := TX3) (N := 7) dX3_step_118 (ct_X3_keepLevel l G L f30 a r29 (((rl <<< (1 &&& 31)) ||| 0) &&& 15) sw lr mn mx pe false hL_a hx32) q_code_X3_keepLevel q_ml_X3_38 q_im_X3_keepLevel q_sel_X3_keepLevel q_init_X3 ⟨rfl, by decide, by decide, (show (parseMethodDescriptor yX3_keepLevel.desc).map (fun d => d.parameters.length) = some 1 from by decide +kernel)⟩ hL_a hx32 rfl (by decide) (by decide) (Nat.le_of_ble_eq_true rfl) (fun v36 L37 f38 hp35 => ?_)
          obtain ⟨rfl, rfl, hf39⟩ := hp35
          have hx40 : f38 a = .inr (3, [.double r29, .int (((rl <<< (1 &&& 31)) ||| 0) &&& 15), .int sw, .int lr, .double (if (false || qlt (dv r29) (dv mn)) = true then r29 else mn), .double (if (false || qgt (dv r29) (dv mx)) = true then r29 else mx), .int pe]) := by rw [hf39]; exact va_up_self _ _ _
          have hF41 : f38 = va_up f a (.inr (3, [.double r29, .int (((rl <<< (1 &&& 31)) ||| 0) &&& 15), .int sw, .int lr, .double (if (false || qlt (dv r29) (dv mn)) = true then r29 else mn), .double (if (false || qgt (dv r29) (dv mx)) = true then r29 else mx), .int pe])) := by rw [hf39, hF33, va_up_up]
          refine (show V C 5 L f38 0 0 121 [(4, .int ((rl >>> (3 &&& 31)) &&& 1)), (3, .int 0), (2, .int 0), (0, .ref a), (1, .int t)] [] from ?_)
          refine g_vret hC dX3_step_121 rfl ⟨rfl, rfl, r29, (((rl <<< (1 &&& 31)) ||| 0) &&& 15), sw, lr, (if (false || qlt (dv r29) (dv mn)) = true then r29 else mn), (if (false || qgt (dv r29) (dv mx)) = true then r29 else mx), pe, ?_, hF41⟩ (Nat.zero_le _) (Nat.zero_le _)
          simp only [tStep, tLe, tRl, tSw, tLr, tMn, tMx, tPe, tRise, tFi, tIs, tRel, ite_dv, decide_true, decide_false, Bool.and_true, Bool.true_and, Bool.and_false, Bool.false_and, Bool.not_true, Bool.not_false, Bool.false_or, Bool.true_or, Bool.false_eq_true, if_true, if_false, d01, d11, c1, eq_false c2, eq_true c22, eq_false c34, er27, er28, er29]
      · skip
        refine g_iconst hC 1 dX3_step_31 (by decide) ?_
        refine g_goto hC 36 dX3_step_32 (by decide) ?_
        refine g_istore_n hC (lv1 := [(3, .int 1), (2, .int 0), (0, .ref a), (1, .int t)]) dX3_step_36 (by decide) rfl ?_
        refine g_iload_n hC dX3_step_37 0 rfl ?_
        refine g_if_eq hC 47 dX3_step_38 (by decide) (fun c => absurd c (by decide)) (fun _ => ?_)
        refine g_aload_n hC dX3_step_41 2 rfl ?_
        refine g_iload_n hC dX3_step_42 3 rfl ?_
        refine g_iload_n hC dX3_step_43 1 rfl ?_
        refine g_callV hC (Cn := RX3) (TT := TX3) (N := 7) dX3_step_44 (ct_X3_countSwitch l G L f a le rl sw lr mn mx pe t 0 hL_a h0) q_code_X3_countSwitch q_ml_X3_32 q_im_X3_countSwitch q_sel_X3_countSwitch q_init_X3 ⟨rfl, by decide, by decide, (show (parseMethodDescriptor yX3_countSwitch.desc).map (fun d => d.parameters.length) = some 2 from by decide +kernel)⟩ hL_a h0 rfl (by decide) (by decide) (Nat.le_of_ble_eq_true rfl) (fun v43 L44 f45 hp42 => ?_)
        obtain ⟨rfl, rfl, hf46⟩ := hp42
        simp only [if_true, (by decide : ((1 : Int32) = 1) = True), (by decide : ((0 : Int32) = 1) = False), if_false] at hf46
        have hx47 : f45 a = .inr (3, [.double le, .int rl, .int (sw + 1), .int lr, .double mn, .double mx, .int pe]) := by rw [hf46]; exact va_up_self _ _ _
        have hF48 : f45 = va_up f a (.inr (3, [.double le, .int rl, .int (sw + 1), .int lr, .double mn, .double mx, .int pe])) := hf46
        refine (show V C 5 L f45 0 0 47 [(3, .int 1), (2, .int 0), (0, .ref a), (1, .int t)] [] from ?_)
        refine g_aload_n hC dX3_step_47 2 rfl ?_
        refine g_get hC (kf := 1) (TT := TX3) (N := 7) (Cn := RX3) dX3_step_48 hL_a hx47 rfl q_u3 (by decide) q_fl_X3_13 rfl rfl ?_
        refine g_iconst hC 3 dX3_step_51 (by decide) ?_
        refine g_ishr hC dX3_step_52 ?_
        refine g_iconst hC 1 dX3_step_53 (by decide) ?_
        refine g_iand hC dX3_step_54 ?_
        refine g_istore hC (lv1 := [(4, .int ((rl >>> (3 &&& 31)) &&& 1)), (3, .int 1), (2, .int 0), (0, .ref a), (1, .int t)]) dX3_step_55 (by decide) rfl ?_
        refine g_aload_n hC dX3_step_57 3 rfl ?_
        refine g_aload_n hC dX3_step_58 3 rfl ?_
        refine g_get hC (kf := 1) (TT := TX3) (N := 7) (Cn := RX3) dX3_step_59 hL_a hx47 rfl q_u3 (by decide) q_fl_X3_13 rfl rfl ?_
        refine g_iconst hC 1 dX3_step_62 (by decide) ?_
        refine g_ishl hC dX3_step_63 ?_
        refine g_iload_n hC dX3_step_64 2 rfl ?_
        refine g_ior hC dX3_step_65 ?_
        refine g_bipush hC 15 dX3_step_66 (by decide) ?_
        refine g_iand hC dX3_step_68 ?_
        refine g_put hC (kf := 1) (TT := TX3) (N := 7) (Cn := RX3) (ty0 := tyX3) (fs1 := [.double le, .int (((rl <<< (1 &&& 31)) ||| 0) &&& 15), .int (sw + 1), .int lr, .double mn, .double mx, .int pe]) dX3_step_69 hL_a hx47 rfl q_u3 (by decide) tyX3_ok nmX3 q_fl_X3_13 rfl rfl rfl rfl rfl (Nat.le_of_ble_eq_true rfl) rfl ?_
        refine g_nm (fun f49 hf50 => ?_)
        have hx51 : f49 a = .inr (3, [.double le, .int (((rl <<< (1 &&& 31)) ||| 0) &&& 15), .int (sw + 1), .int lr, .double mn, .double mx, .int pe]) := by rw [hf50]; exact va_up_self _ _ _
        have hF52 : f49 = va_up f a (.inr (3, [.double le, .int (((rl <<< (1 &&& 31)) ||| 0) &&& 15), .int (sw + 1), .int lr, .double mn, .double mx, .int pe])) := by rw [hf50, hF48, va_up_up]
        refine g_aload_n hC dX3_step_72 3 rfl ?_
        refine g_aload_n hC dX3_step_73 3 rfl ?_
        refine g_get hC (kf := 0) (TT := TX3) (N := 7) (Cn := RX3) dX3_step_74 hL_a hx51 rfl q_u3 (by decide) q_fl_X3_7 rfl rfl ?_
        refine g_iload hC dX3_step_77 0 rfl ?_
        refine g_i2d hC dX3_step_79 ?_
        refine g_aload_n hC dX3_step_80 3 rfl ?_
        refine g_get hC (kf := 0) (TT := TX3) (N := 7) (Cn := RX3) dX3_step_81 hL_a hx51 rfl q_u3 (by decide) q_fl_X3_7 rfl rfl ?_
        refine g_dsub hC dX3_step_84 (fun r53 er53 => ?_)
        refine g_ldc2 hC dX3_step_85 q_cd_X3_36 ?_
        refine g_dmul hC dX3_step_88 (fun r54 er54 => ?_)
        try simp only [er53] at er54
        refine g_dadd hC dX3_step_89 (fun r55 er55 => ?_)
        try simp only [er53, er54] at er55
        refine g_put hC (kf := 0) (TT := TX3) (N := 7) (Cn := RX3) (ty0 := tyX3) (fs1 := [.double r55, .int (((rl <<< (1 &&& 31)) ||| 0) &&& 15), .int (sw + 1), .int lr, .double mn, .double mx, .int pe]) dX3_step_90 hL_a hx51 rfl q_u3 (by decide) tyX3_ok nmX3 q_fl_X3_7 rfl rfl rfl rfl rfl (Nat.le_of_ble_eq_true rfl) rfl ?_
        refine g_nm (fun f56 hf57 => ?_)
        have hx58 : f56 a = .inr (3, [.double r55, .int (((rl <<< (1 &&& 31)) ||| 0) &&& 15), .int (sw + 1), .int lr, .double mn, .double mx, .int pe]) := by rw [hf57]; exact va_up_self _ _ _
        have hF59 : f56 = va_up f a (.inr (3, [.double r55, .int (((rl <<< (1 &&& 31)) ||| 0) &&& 15), .int (sw + 1), .int lr, .double mn, .double mx, .int pe])) := by rw [hf57, hF52, va_up_up]
        refine g_aload_n hC dX3_step_93 3 rfl ?_
        refine g_get hC (kf := 2) (TT := TX3) (N := 7) (Cn := RX3) dX3_step_94 hL_a hx58 rfl q_u3 (by decide) q_fl_X3_17 rfl rfl ?_
        refine g_if_le hC 121 dX3_step_97 (by decide) (fun c60 => ?_) (fun c60 => ?_)
        · skip
          refine g_vret hC dX3_step_121 rfl ⟨rfl, rfl, r55, (((rl <<< (1 &&& 31)) ||| 0) &&& 15), (sw + 1), lr, mn, mx, pe, ?_, hF59⟩ (Nat.zero_le _) (Nat.zero_le _)
          simp only [tStep, tLe, tRl, tSw, tLr, tMn, tMx, tPe, tRise, tFi, tIs, tRel, ite_dv, decide_true, decide_false, Bool.and_true, Bool.true_and, Bool.and_false, Bool.false_and, Bool.not_true, Bool.not_false, Bool.false_or, Bool.true_or, Bool.false_eq_true, if_true, if_false, d01, d11, c1, eq_false c2, eq_false c22, eq_true c60, er53, er54, er55]
        · skip
          refine g_aload_n hC dX3_step_100 3 rfl ?_
          refine g_iload_n hC dX3_step_101 1 rfl ?_
          refine g_if_eq hC 117 dX3_step_102 (by decide) (fun c => absurd c (by decide)) (fun _ => ?_)
          refine g_aload_n hC dX3_step_105 3 rfl ?_
          refine g_get hC (kf := 2) (TT := TX3) (N := 7) (Cn := RX3) dX3_step_106 hL_a hx58 rfl q_u3 (by decide) q_fl_X3_17 rfl rfl ?_
          refine g_iconst hC 1 dX3_step_109 (by decide) ?_
          refine g_icmp_ne hC 117 dX3_step_110 (by decide) (fun c61 => ?_) (fun c61 => ?_)
          · skip
            refine g_iconst hC 0 dX3_step_117 (by decide) ?_
            refine g_callV hC (Cn := RX3) (TT := TX3) (N := 7) dX3_step_118 (ct_X3_keepLevel l G L f56 a r55 (((rl <<< (1 &&& 31)) ||| 0) &&& 15) (sw + 1) lr mn mx pe false hL_a hx58) q_code_X3_keepLevel q_ml_X3_38 q_im_X3_keepLevel q_sel_X3_keepLevel q_init_X3 ⟨rfl, by decide, by decide, (show (parseMethodDescriptor yX3_keepLevel.desc).map (fun d => d.parameters.length) = some 1 from by decide +kernel)⟩ hL_a hx58 rfl (by decide) (by decide) (Nat.le_of_ble_eq_true rfl) (fun v63 L64 f65 hp62 => ?_)
            obtain ⟨rfl, rfl, hf66⟩ := hp62
            have hx67 : f65 a = .inr (3, [.double r55, .int (((rl <<< (1 &&& 31)) ||| 0) &&& 15), .int (sw + 1), .int lr, .double (if (false || qlt (dv r55) (dv mn)) = true then r55 else mn), .double (if (false || qgt (dv r55) (dv mx)) = true then r55 else mx), .int pe]) := by rw [hf66]; exact va_up_self _ _ _
            have hF68 : f65 = va_up f a (.inr (3, [.double r55, .int (((rl <<< (1 &&& 31)) ||| 0) &&& 15), .int (sw + 1), .int lr, .double (if (false || qlt (dv r55) (dv mn)) = true then r55 else mn), .double (if (false || qgt (dv r55) (dv mx)) = true then r55 else mx), .int pe])) := by rw [hf66, hF59, va_up_up]
            refine (show V C 5 L f65 0 0 121 [(4, .int ((rl >>> (3 &&& 31)) &&& 1)), (3, .int 1), (2, .int 0), (0, .ref a), (1, .int t)] [] from ?_)
            refine g_vret hC dX3_step_121 rfl ⟨rfl, rfl, r55, (((rl <<< (1 &&& 31)) ||| 0) &&& 15), (sw + 1), lr, (if (false || qlt (dv r55) (dv mn)) = true then r55 else mn), (if (false || qgt (dv r55) (dv mx)) = true then r55 else mx), pe, ?_, hF68⟩ (Nat.zero_le _) (Nat.zero_le _)
            simp only [tStep, tLe, tRl, tSw, tLr, tMn, tMx, tPe, tRise, tFi, tIs, tRel, ite_dv, decide_true, decide_false, Bool.and_true, Bool.true_and, Bool.and_false, Bool.false_and, Bool.not_true, Bool.not_false, Bool.false_or, Bool.true_or, Bool.false_eq_true, if_true, if_false, d01, d11, c1, eq_false c2, eq_false c22, eq_false c60, eq_false c61, er53, er54, er55]
          · skip
            refine g_iconst hC 1 dX3_step_113 (by decide) ?_
            refine g_goto hC 118 dX3_step_114 (by decide) ?_
            refine g_callV hC (Cn := RX3) (TT := TX3) (N := 7) dX3_step_118 (ct_X3_keepLevel l G L f56 a r55 (((rl <<< (1 &&& 31)) ||| 0) &&& 15) (sw + 1) lr mn mx pe true hL_a hx58) q_code_X3_keepLevel q_ml_X3_38 q_im_X3_keepLevel q_sel_X3_keepLevel q_init_X3 ⟨rfl, by decide, by decide, (show (parseMethodDescriptor yX3_keepLevel.desc).map (fun d => d.parameters.length) = some 1 from by decide +kernel)⟩ hL_a hx58 rfl (by decide) (by decide) (Nat.le_of_ble_eq_true rfl) (fun v70 L71 f72 hp69 => ?_)
            obtain ⟨rfl, rfl, hf73⟩ := hp69
            have hx74 : f72 a = .inr (3, [.double r55, .int (((rl <<< (1 &&& 31)) ||| 0) &&& 15), .int (sw + 1), .int lr, .double (if (true || qlt (dv r55) (dv mn)) = true then r55 else mn), .double (if (true || qgt (dv r55) (dv mx)) = true then r55 else mx), .int pe]) := by rw [hf73]; exact va_up_self _ _ _
            have hF75 : f72 = va_up f a (.inr (3, [.double r55, .int (((rl <<< (1 &&& 31)) ||| 0) &&& 15), .int (sw + 1), .int lr, .double (if (true || qlt (dv r55) (dv mn)) = true then r55 else mn), .double (if (true || qgt (dv r55) (dv mx)) = true then r55 else mx), .int pe])) := by rw [hf73, hF59, va_up_up]
            refine (show V C 5 L f72 0 0 121 [(4, .int ((rl >>> (3 &&& 31)) &&& 1)), (3, .int 1), (2, .int 0), (0, .ref a), (1, .int t)] [] from ?_)
            refine g_vret hC dX3_step_121 rfl ⟨rfl, rfl, r55, (((rl <<< (1 &&& 31)) ||| 0) &&& 15), (sw + 1), lr, (if (true || qlt (dv r55) (dv mn)) = true then r55 else mn), (if (true || qgt (dv r55) (dv mx)) = true then r55 else mx), pe, ?_, hF75⟩ (Nat.zero_le _) (Nat.zero_le _)
            simp only [tStep, tLe, tRl, tSw, tLr, tMn, tMx, tPe, tRise, tFi, tIs, tRel, ite_dv, decide_true, decide_false, Bool.and_true, Bool.true_and, Bool.and_false, Bool.false_and, Bool.not_true, Bool.not_false, Bool.false_or, Bool.true_or, Bool.false_eq_true, if_true, if_false, d01, d11, c1, eq_false c2, eq_false c22, eq_false c60, eq_true c61, er53, er54, er55]
  · skip
    refine g_iconst hC 1 dX3_step_11 (by decide) ?_
    refine g_goto hC 16 dX3_step_12 (by decide) ?_
    refine g_istore_n hC (lv1 := [(2, .int 1), (0, .ref a), (1, .int t)]) dX3_step_16 (by decide) rfl ?_
    refine g_iload_n hC dX3_step_17 2 rfl ?_
    refine g_if_le hC 35 dX3_step_18 (by decide) (fun c76 => ?_) (fun c76 => ?_)
    · skip
      refine g_iconst hC 0 dX3_step_35 (by decide) ?_
      refine g_istore_n hC (lv1 := [(3, .int 0), (2, .int 1), (0, .ref a), (1, .int t)]) dX3_step_36 (by decide) rfl ?_
      refine g_iload_n hC dX3_step_37 0 rfl ?_
      refine g_if_eq hC 47 dX3_step_38 (by decide) (fun _ => ?_) (fun c => absurd c (by decide))
      refine g_aload_n hC dX3_step_47 2 rfl ?_
      refine g_get hC (kf := 1) (TT := TX3) (N := 7) (Cn := RX3) dX3_step_48 hL_a h0 rfl q_u3 (by decide) q_fl_X3_13 rfl rfl ?_
      refine g_iconst hC 3 dX3_step_51 (by decide) ?_
      refine g_ishr hC dX3_step_52 ?_
      refine g_iconst hC 1 dX3_step_53 (by decide) ?_
      refine g_iand hC dX3_step_54 ?_
      refine g_istore hC (lv1 := [(4, .int ((rl >>> (3 &&& 31)) &&& 1)), (3, .int 0), (2, .int 1), (0, .ref a), (1, .int t)]) dX3_step_55 (by decide) rfl ?_
      refine g_aload_n hC dX3_step_57 3 rfl ?_
      refine g_aload_n hC dX3_step_58 3 rfl ?_
      refine g_get hC (kf := 1) (TT := TX3) (N := 7) (Cn := RX3) dX3_step_59 hL_a h0 rfl q_u3 (by decide) q_fl_X3_13 rfl rfl ?_
      refine g_iconst hC 1 dX3_step_62 (by decide) ?_
      refine g_ishl hC dX3_step_63 ?_
      refine g_iload_n hC dX3_step_64 2 rfl ?_
      refine g_ior hC dX3_step_65 ?_
      refine g_bipush hC 15 dX3_step_66 (by decide) ?_
      refine g_iand hC dX3_step_68 ?_
      refine g_put hC (kf := 1) (TT := TX3) (N := 7) (Cn := RX3) (ty0 := tyX3) (fs1 := [.double le, .int (((rl <<< (1 &&& 31)) ||| 1) &&& 15), .int sw, .int lr, .double mn, .double mx, .int pe]) dX3_step_69 hL_a h0 rfl q_u3 (by decide) tyX3_ok nmX3 q_fl_X3_13 rfl rfl rfl rfl rfl (Nat.le_of_ble_eq_true rfl) rfl ?_
      refine g_nm (fun f77 hf78 => ?_)
      have hx79 : f77 a = .inr (3, [.double le, .int (((rl <<< (1 &&& 31)) ||| 1) &&& 15), .int sw, .int lr, .double mn, .double mx, .int pe]) := by rw [hf78]; exact va_up_self _ _ _
      have hF80 : f77 = va_up f a (.inr (3, [.double le, .int (((rl <<< (1 &&& 31)) ||| 1) &&& 15), .int sw, .int lr, .double mn, .double mx, .int pe])) := hf78
      refine g_aload_n hC dX3_step_72 3 rfl ?_
      refine g_aload_n hC dX3_step_73 3 rfl ?_
      refine g_get hC (kf := 0) (TT := TX3) (N := 7) (Cn := RX3) dX3_step_74 hL_a hx79 rfl q_u3 (by decide) q_fl_X3_7 rfl rfl ?_
      refine g_iload hC dX3_step_77 0 rfl ?_
      refine g_i2d hC dX3_step_79 ?_
      refine g_aload_n hC dX3_step_80 3 rfl ?_
      refine g_get hC (kf := 0) (TT := TX3) (N := 7) (Cn := RX3) dX3_step_81 hL_a hx79 rfl q_u3 (by decide) q_fl_X3_7 rfl rfl ?_
      refine g_dsub hC dX3_step_84 (fun r81 er81 => ?_)
      refine g_ldc2 hC dX3_step_85 q_cd_X3_36 ?_
      refine g_dmul hC dX3_step_88 (fun r82 er82 => ?_)
      try simp only [er81] at er82
      refine g_dadd hC dX3_step_89 (fun r83 er83 => ?_)
      try simp only [er81, er82] at er83
      refine g_put hC (kf := 0) (TT := TX3) (N := 7) (Cn := RX3) (ty0 := tyX3) (fs1 := [.double r83, .int (((rl <<< (1 &&& 31)) ||| 1) &&& 15), .int sw, .int lr, .double mn, .double mx, .int pe]) dX3_step_90 hL_a hx79 rfl q_u3 (by decide) tyX3_ok nmX3 q_fl_X3_7 rfl rfl rfl rfl rfl (Nat.le_of_ble_eq_true rfl) rfl ?_
      refine g_nm (fun f84 hf85 => ?_)
      have hx86 : f84 a = .inr (3, [.double r83, .int (((rl <<< (1 &&& 31)) ||| 1) &&& 15), .int sw, .int lr, .double mn, .double mx, .int pe]) := by rw [hf85]; exact va_up_self _ _ _
      have hF87 : f84 = va_up f a (.inr (3, [.double r83, .int (((rl <<< (1 &&& 31)) ||| 1) &&& 15), .int sw, .int lr, .double mn, .double mx, .int pe])) := by rw [hf85, hF80, va_up_up]
      refine g_aload_n hC dX3_step_93 3 rfl ?_
      refine g_get hC (kf := 2) (TT := TX3) (N := 7) (Cn := RX3) dX3_step_94 hL_a hx86 rfl q_u3 (by decide) q_fl_X3_17 rfl rfl ?_
      refine g_if_le hC 121 dX3_step_97 (by decide) (fun c88 => ?_) (fun c88 => ?_)
      · skip
        refine g_vret hC dX3_step_121 rfl ⟨rfl, rfl, r83, (((rl <<< (1 &&& 31)) ||| 1) &&& 15), sw, lr, mn, mx, pe, ?_, hF87⟩ (Nat.zero_le _) (Nat.zero_le _)
        simp only [tStep, tLe, tRl, tSw, tLr, tMn, tMx, tPe, tRise, tFi, tIs, tRel, ite_dv, decide_true, decide_false, Bool.and_true, Bool.true_and, Bool.and_false, Bool.false_and, Bool.not_true, Bool.not_false, Bool.false_or, Bool.true_or, Bool.false_eq_true, if_true, if_false, d01, d11, c1, eq_true c76, eq_true c88, er81, er82, er83]
      · skip
        refine g_aload_n hC dX3_step_100 3 rfl ?_
        refine g_iload_n hC dX3_step_101 1 rfl ?_
        refine g_if_eq hC 117 dX3_step_102 (by decide) (fun _ => ?_) (fun c => absurd c (by decide))
        refine g_iconst hC 0 dX3_step_117 (by decide) ?_
        refine g_callV hC (Cn := RX3) (TT := TX3) (N := 7) dX3_step_118 (ct_X3_keepLevel l G L f84 a r83 (((rl <<< (1 &&& 31)) ||| 1) &&& 15) sw lr mn mx pe false hL_a hx86) q_code_X3_keepLevel q_ml_X3_38 q_im_X3_keepLevel q_sel_X3_keepLevel q_init_X3 ⟨rfl, by decide, by decide, (show (parseMethodDescriptor yX3_keepLevel.desc).map (fun d => d.parameters.length) = some 1 from by decide +kernel)⟩ hL_a hx86 rfl (by decide) (by decide) (Nat.le_of_ble_eq_true rfl) (fun v90 L91 f92 hp89 => ?_)
        obtain ⟨rfl, rfl, hf93⟩ := hp89
        have hx94 : f92 a = .inr (3, [.double r83, .int (((rl <<< (1 &&& 31)) ||| 1) &&& 15), .int sw, .int lr, .double (if (false || qlt (dv r83) (dv mn)) = true then r83 else mn), .double (if (false || qgt (dv r83) (dv mx)) = true then r83 else mx), .int pe]) := by rw [hf93]; exact va_up_self _ _ _
        have hF95 : f92 = va_up f a (.inr (3, [.double r83, .int (((rl <<< (1 &&& 31)) ||| 1) &&& 15), .int sw, .int lr, .double (if (false || qlt (dv r83) (dv mn)) = true then r83 else mn), .double (if (false || qgt (dv r83) (dv mx)) = true then r83 else mx), .int pe])) := by rw [hf93, hF87, va_up_up]
        refine (show V C 5 L f92 0 0 121 [(4, .int ((rl >>> (3 &&& 31)) &&& 1)), (3, .int 0), (2, .int 1), (0, .ref a), (1, .int t)] [] from ?_)
        refine g_vret hC dX3_step_121 rfl ⟨rfl, rfl, r83, (((rl <<< (1 &&& 31)) ||| 1) &&& 15), sw, lr, (if (false || qlt (dv r83) (dv mn)) = true then r83 else mn), (if (false || qgt (dv r83) (dv mx)) = true then r83 else mx), pe, ?_, hF95⟩ (Nat.zero_le _) (Nat.zero_le _)
        simp only [tStep, tLe, tRl, tSw, tLr, tMn, tMx, tPe, tRise, tFi, tIs, tRel, ite_dv, decide_true, decide_false, Bool.and_true, Bool.true_and, Bool.and_false, Bool.false_and, Bool.not_true, Bool.not_false, Bool.false_or, Bool.true_or, Bool.false_eq_true, if_true, if_false, d01, d11, c1, eq_true c76, eq_false c88, er81, er82, er83]
    · skip
      refine g_iload_n hC dX3_step_21 0 rfl ?_
      refine g_aload_n hC dX3_step_22 1 rfl ?_
      refine g_get hC (kf := 1) (TT := TX3) (N := 7) (Cn := RX3) dX3_step_23 hL_a h0 rfl q_u3 (by decide) q_fl_X3_13 rfl rfl ?_
      refine g_iconst hC 1 dX3_step_26 (by decide) ?_
      refine g_iand hC dX3_step_27 ?_
      refine g_icmp_eq hC 35 dX3_step_28 (by decide) (fun c96 => ?_) (fun c96 => ?_)
      · skip
        refine g_iconst hC 0 dX3_step_35 (by decide) ?_
        refine g_istore_n hC (lv1 := [(3, .int 0), (2, .int 1), (0, .ref a), (1, .int t)]) dX3_step_36 (by decide) rfl ?_
        refine g_iload_n hC dX3_step_37 0 rfl ?_
        refine g_if_eq hC 47 dX3_step_38 (by decide) (fun _ => ?_) (fun c => absurd c (by decide))
        refine g_aload_n hC dX3_step_47 2 rfl ?_
        refine g_get hC (kf := 1) (TT := TX3) (N := 7) (Cn := RX3) dX3_step_48 hL_a h0 rfl q_u3 (by decide) q_fl_X3_13 rfl rfl ?_
        refine g_iconst hC 3 dX3_step_51 (by decide) ?_
        refine g_ishr hC dX3_step_52 ?_
        refine g_iconst hC 1 dX3_step_53 (by decide) ?_
        refine g_iand hC dX3_step_54 ?_
        refine g_istore hC (lv1 := [(4, .int ((rl >>> (3 &&& 31)) &&& 1)), (3, .int 0), (2, .int 1), (0, .ref a), (1, .int t)]) dX3_step_55 (by decide) rfl ?_
        refine g_aload_n hC dX3_step_57 3 rfl ?_
        refine g_aload_n hC dX3_step_58 3 rfl ?_
        refine g_get hC (kf := 1) (TT := TX3) (N := 7) (Cn := RX3) dX3_step_59 hL_a h0 rfl q_u3 (by decide) q_fl_X3_13 rfl rfl ?_
        refine g_iconst hC 1 dX3_step_62 (by decide) ?_
        refine g_ishl hC dX3_step_63 ?_
        refine g_iload_n hC dX3_step_64 2 rfl ?_
        refine g_ior hC dX3_step_65 ?_
        refine g_bipush hC 15 dX3_step_66 (by decide) ?_
        refine g_iand hC dX3_step_68 ?_
        refine g_put hC (kf := 1) (TT := TX3) (N := 7) (Cn := RX3) (ty0 := tyX3) (fs1 := [.double le, .int (((rl <<< (1 &&& 31)) ||| 1) &&& 15), .int sw, .int lr, .double mn, .double mx, .int pe]) dX3_step_69 hL_a h0 rfl q_u3 (by decide) tyX3_ok nmX3 q_fl_X3_13 rfl rfl rfl rfl rfl (Nat.le_of_ble_eq_true rfl) rfl ?_
        refine g_nm (fun f97 hf98 => ?_)
        have hx99 : f97 a = .inr (3, [.double le, .int (((rl <<< (1 &&& 31)) ||| 1) &&& 15), .int sw, .int lr, .double mn, .double mx, .int pe]) := by rw [hf98]; exact va_up_self _ _ _
        have hF100 : f97 = va_up f a (.inr (3, [.double le, .int (((rl <<< (1 &&& 31)) ||| 1) &&& 15), .int sw, .int lr, .double mn, .double mx, .int pe])) := hf98
        refine g_aload_n hC dX3_step_72 3 rfl ?_
        refine g_aload_n hC dX3_step_73 3 rfl ?_
        refine g_get hC (kf := 0) (TT := TX3) (N := 7) (Cn := RX3) dX3_step_74 hL_a hx99 rfl q_u3 (by decide) q_fl_X3_7 rfl rfl ?_
        refine g_iload hC dX3_step_77 0 rfl ?_
        refine g_i2d hC dX3_step_79 ?_
        refine g_aload_n hC dX3_step_80 3 rfl ?_
        refine g_get hC (kf := 0) (TT := TX3) (N := 7) (Cn := RX3) dX3_step_81 hL_a hx99 rfl q_u3 (by decide) q_fl_X3_7 rfl rfl ?_
        refine g_dsub hC dX3_step_84 (fun r101 er101 => ?_)
        refine g_ldc2 hC dX3_step_85 q_cd_X3_36 ?_
        refine g_dmul hC dX3_step_88 (fun r102 er102 => ?_)
        try simp only [er101] at er102
        refine g_dadd hC dX3_step_89 (fun r103 er103 => ?_)
        try simp only [er101, er102] at er103
        refine g_put hC (kf := 0) (TT := TX3) (N := 7) (Cn := RX3) (ty0 := tyX3) (fs1 := [.double r103, .int (((rl <<< (1 &&& 31)) ||| 1) &&& 15), .int sw, .int lr, .double mn, .double mx, .int pe]) dX3_step_90 hL_a hx99 rfl q_u3 (by decide) tyX3_ok nmX3 q_fl_X3_7 rfl rfl rfl rfl rfl (Nat.le_of_ble_eq_true rfl) rfl ?_
        refine g_nm (fun f104 hf105 => ?_)
        have hx106 : f104 a = .inr (3, [.double r103, .int (((rl <<< (1 &&& 31)) ||| 1) &&& 15), .int sw, .int lr, .double mn, .double mx, .int pe]) := by rw [hf105]; exact va_up_self _ _ _
        have hF107 : f104 = va_up f a (.inr (3, [.double r103, .int (((rl <<< (1 &&& 31)) ||| 1) &&& 15), .int sw, .int lr, .double mn, .double mx, .int pe])) := by rw [hf105, hF100, va_up_up]
        refine g_aload_n hC dX3_step_93 3 rfl ?_
        refine g_get hC (kf := 2) (TT := TX3) (N := 7) (Cn := RX3) dX3_step_94 hL_a hx106 rfl q_u3 (by decide) q_fl_X3_17 rfl rfl ?_
        refine g_if_le hC 121 dX3_step_97 (by decide) (fun c108 => ?_) (fun c108 => ?_)
        · skip
          refine g_vret hC dX3_step_121 rfl ⟨rfl, rfl, r103, (((rl <<< (1 &&& 31)) ||| 1) &&& 15), sw, lr, mn, mx, pe, ?_, hF107⟩ (Nat.zero_le _) (Nat.zero_le _)
          simp only [tStep, tLe, tRl, tSw, tLr, tMn, tMx, tPe, tRise, tFi, tIs, tRel, ite_dv, decide_true, decide_false, Bool.and_true, Bool.true_and, Bool.and_false, Bool.false_and, Bool.not_true, Bool.not_false, Bool.false_or, Bool.true_or, Bool.false_eq_true, if_true, if_false, d01, d11, c1, eq_false c76, eq_true c96, eq_true c108, er101, er102, er103]
        · skip
          refine g_aload_n hC dX3_step_100 3 rfl ?_
          refine g_iload_n hC dX3_step_101 1 rfl ?_
          refine g_if_eq hC 117 dX3_step_102 (by decide) (fun _ => ?_) (fun c => absurd c (by decide))
          refine g_iconst hC 0 dX3_step_117 (by decide) ?_
          refine g_callV hC (Cn := RX3) (TT := TX3) (N := 7) dX3_step_118 (ct_X3_keepLevel l G L f104 a r103 (((rl <<< (1 &&& 31)) ||| 1) &&& 15) sw lr mn mx pe false hL_a hx106) q_code_X3_keepLevel q_ml_X3_38 q_im_X3_keepLevel q_sel_X3_keepLevel q_init_X3 ⟨rfl, by decide, by decide, (show (parseMethodDescriptor yX3_keepLevel.desc).map (fun d => d.parameters.length) = some 1 from by decide +kernel)⟩ hL_a hx106 rfl (by decide) (by decide) (Nat.le_of_ble_eq_true rfl) (fun v110 L111 f112 hp109 => ?_)
          obtain ⟨rfl, rfl, hf113⟩ := hp109
          have hx114 : f112 a = .inr (3, [.double r103, .int (((rl <<< (1 &&& 31)) ||| 1) &&& 15), .int sw, .int lr, .double (if (false || qlt (dv r103) (dv mn)) = true then r103 else mn), .double (if (false || qgt (dv r103) (dv mx)) = true then r103 else mx), .int pe]) := by rw [hf113]; exact va_up_self _ _ _
          have hF115 : f112 = va_up f a (.inr (3, [.double r103, .int (((rl <<< (1 &&& 31)) ||| 1) &&& 15), .int sw, .int lr, .double (if (false || qlt (dv r103) (dv mn)) = true then r103 else mn), .double (if (false || qgt (dv r103) (dv mx)) = true then r103 else mx), .int pe])) := by rw [hf113, hF107, va_up_up]
          refine (show V C 5 L f112 0 0 121 [(4, .int ((rl >>> (3 &&& 31)) &&& 1)), (3, .int 0), (2, .int 1), (0, .ref a), (1, .int t)] [] from ?_)
          refine g_vret hC dX3_step_121 rfl ⟨rfl, rfl, r103, (((rl <<< (1 &&& 31)) ||| 1) &&& 15), sw, lr, (if (false || qlt (dv r103) (dv mn)) = true then r103 else mn), (if (false || qgt (dv r103) (dv mx)) = true then r103 else mx), pe, ?_, hF115⟩ (Nat.zero_le _) (Nat.zero_le _)
          simp only [tStep, tLe, tRl, tSw, tLr, tMn, tMx, tPe, tRise, tFi, tIs, tRel, ite_dv, decide_true, decide_false, Bool.and_true, Bool.true_and, Bool.and_false, Bool.false_and, Bool.not_true, Bool.not_false, Bool.false_or, Bool.true_or, Bool.false_eq_true, if_true, if_false, d01, d11, c1, eq_false c76, eq_true c96, eq_false c108, er101, er102, er103]
      · skip
        refine g_iconst hC 1 dX3_step_31 (by decide) ?_
        refine g_goto hC 36 dX3_step_32 (by decide) ?_
        refine g_istore_n hC (lv1 := [(3, .int 1), (2, .int 1), (0, .ref a), (1, .int t)]) dX3_step_36 (by decide) rfl ?_
        refine g_iload_n hC dX3_step_37 0 rfl ?_
        refine g_if_eq hC 47 dX3_step_38 (by decide) (fun c => absurd c (by decide)) (fun _ => ?_)
        refine g_aload_n hC dX3_step_41 2 rfl ?_
        refine g_iload_n hC dX3_step_42 3 rfl ?_
        refine g_iload_n hC dX3_step_43 1 rfl ?_
        refine g_callV hC (Cn := RX3) (TT := TX3) (N := 7) dX3_step_44 (ct_X3_countSwitch l G L f a le rl sw lr mn mx pe t 1 hL_a h0) q_code_X3_countSwitch q_ml_X3_32 q_im_X3_countSwitch q_sel_X3_countSwitch q_init_X3 ⟨rfl, by decide, by decide, (show (parseMethodDescriptor yX3_countSwitch.desc).map (fun d => d.parameters.length) = some 2 from by decide +kernel)⟩ hL_a h0 rfl (by decide) (by decide) (Nat.le_of_ble_eq_true rfl) (fun v117 L118 f119 hp116 => ?_)
        obtain ⟨rfl, rfl, hf120⟩ := hp116
        simp only [if_true, (by decide : ((1 : Int32) = 1) = True), (by decide : ((0 : Int32) = 1) = False), if_false] at hf120
        have hx121 : f119 a = .inr (3, [.double le, .int rl, .int (sw + 1), .int t, .double mn, .double mx, .int (if lr = 0 then 0 else t - lr)]) := by rw [hf120]; exact va_up_self _ _ _
        have hF122 : f119 = va_up f a (.inr (3, [.double le, .int rl, .int (sw + 1), .int t, .double mn, .double mx, .int (if lr = 0 then 0 else t - lr)])) := hf120
        refine (show V C 5 L f119 0 0 47 [(3, .int 1), (2, .int 1), (0, .ref a), (1, .int t)] [] from ?_)
        refine g_aload_n hC dX3_step_47 2 rfl ?_
        refine g_get hC (kf := 1) (TT := TX3) (N := 7) (Cn := RX3) dX3_step_48 hL_a hx121 rfl q_u3 (by decide) q_fl_X3_13 rfl rfl ?_
        refine g_iconst hC 3 dX3_step_51 (by decide) ?_
        refine g_ishr hC dX3_step_52 ?_
        refine g_iconst hC 1 dX3_step_53 (by decide) ?_
        refine g_iand hC dX3_step_54 ?_
        refine g_istore hC (lv1 := [(4, .int ((rl >>> (3 &&& 31)) &&& 1)), (3, .int 1), (2, .int 1), (0, .ref a), (1, .int t)]) dX3_step_55 (by decide) rfl ?_
        refine g_aload_n hC dX3_step_57 3 rfl ?_
        refine g_aload_n hC dX3_step_58 3 rfl ?_
        refine g_get hC (kf := 1) (TT := TX3) (N := 7) (Cn := RX3) dX3_step_59 hL_a hx121 rfl q_u3 (by decide) q_fl_X3_13 rfl rfl ?_
        refine g_iconst hC 1 dX3_step_62 (by decide) ?_
        refine g_ishl hC dX3_step_63 ?_
        refine g_iload_n hC dX3_step_64 2 rfl ?_
        refine g_ior hC dX3_step_65 ?_
        refine g_bipush hC 15 dX3_step_66 (by decide) ?_
        refine g_iand hC dX3_step_68 ?_
        refine g_put hC (kf := 1) (TT := TX3) (N := 7) (Cn := RX3) (ty0 := tyX3) (fs1 := [.double le, .int (((rl <<< (1 &&& 31)) ||| 1) &&& 15), .int (sw + 1), .int t, .double mn, .double mx, .int (if lr = 0 then 0 else t - lr)]) dX3_step_69 hL_a hx121 rfl q_u3 (by decide) tyX3_ok nmX3 q_fl_X3_13 rfl rfl rfl rfl rfl (Nat.le_of_ble_eq_true rfl) rfl ?_
        refine g_nm (fun f123 hf124 => ?_)
        have hx125 : f123 a = .inr (3, [.double le, .int (((rl <<< (1 &&& 31)) ||| 1) &&& 15), .int (sw + 1), .int t, .double mn, .double mx, .int (if lr = 0 then 0 else t - lr)]) := by rw [hf124]; exact va_up_self _ _ _
        have hF126 : f123 = va_up f a (.inr (3, [.double le, .int (((rl <<< (1 &&& 31)) ||| 1) &&& 15), .int (sw + 1), .int t, .double mn, .double mx, .int (if lr = 0 then 0 else t - lr)])) := by rw [hf124, hF122, va_up_up]
        refine g_aload_n hC dX3_step_72 3 rfl ?_
        refine g_aload_n hC dX3_step_73 3 rfl ?_
        refine g_get hC (kf := 0) (TT := TX3) (N := 7) (Cn := RX3) dX3_step_74 hL_a hx125 rfl q_u3 (by decide) q_fl_X3_7 rfl rfl ?_
        refine g_iload hC dX3_step_77 0 rfl ?_
        refine g_i2d hC dX3_step_79 ?_
        refine g_aload_n hC dX3_step_80 3 rfl ?_
        refine g_get hC (kf := 0) (TT := TX3) (N := 7) (Cn := RX3) dX3_step_81 hL_a hx125 rfl q_u3 (by decide) q_fl_X3_7 rfl rfl ?_
        refine g_dsub hC dX3_step_84 (fun r127 er127 => ?_)
        refine g_ldc2 hC dX3_step_85 q_cd_X3_36 ?_
        refine g_dmul hC dX3_step_88 (fun r128 er128 => ?_)
        try simp only [er127] at er128
        refine g_dadd hC dX3_step_89 (fun r129 er129 => ?_)
        try simp only [er127, er128] at er129
        refine g_put hC (kf := 0) (TT := TX3) (N := 7) (Cn := RX3) (ty0 := tyX3) (fs1 := [.double r129, .int (((rl <<< (1 &&& 31)) ||| 1) &&& 15), .int (sw + 1), .int t, .double mn, .double mx, .int (if lr = 0 then 0 else t - lr)]) dX3_step_90 hL_a hx125 rfl q_u3 (by decide) tyX3_ok nmX3 q_fl_X3_7 rfl rfl rfl rfl rfl (Nat.le_of_ble_eq_true rfl) rfl ?_
        refine g_nm (fun f130 hf131 => ?_)
        have hx132 : f130 a = .inr (3, [.double r129, .int (((rl <<< (1 &&& 31)) ||| 1) &&& 15), .int (sw + 1), .int t, .double mn, .double mx, .int (if lr = 0 then 0 else t - lr)]) := by rw [hf131]; exact va_up_self _ _ _
        have hF133 : f130 = va_up f a (.inr (3, [.double r129, .int (((rl <<< (1 &&& 31)) ||| 1) &&& 15), .int (sw + 1), .int t, .double mn, .double mx, .int (if lr = 0 then 0 else t - lr)])) := by rw [hf131, hF126, va_up_up]
        refine g_aload_n hC dX3_step_93 3 rfl ?_
        refine g_get hC (kf := 2) (TT := TX3) (N := 7) (Cn := RX3) dX3_step_94 hL_a hx132 rfl q_u3 (by decide) q_fl_X3_17 rfl rfl ?_
        refine g_if_le hC 121 dX3_step_97 (by decide) (fun c134 => ?_) (fun c134 => ?_)
        · skip
          refine g_vret hC dX3_step_121 rfl ⟨rfl, rfl, r129, (((rl <<< (1 &&& 31)) ||| 1) &&& 15), (sw + 1), t, mn, mx, (if lr = 0 then 0 else t - lr), ?_, hF133⟩ (Nat.zero_le _) (Nat.zero_le _)
          simp only [tStep, tLe, tRl, tSw, tLr, tMn, tMx, tPe, tRise, tFi, tIs, tRel, ite_dv, decide_true, decide_false, Bool.and_true, Bool.true_and, Bool.and_false, Bool.false_and, Bool.not_true, Bool.not_false, Bool.false_or, Bool.true_or, Bool.false_eq_true, if_true, if_false, d01, d11, c1, eq_false c76, eq_false c96, eq_true c134, er127, er128, er129]
        · skip
          refine g_aload_n hC dX3_step_100 3 rfl ?_
          refine g_iload_n hC dX3_step_101 1 rfl ?_
          refine g_if_eq hC 117 dX3_step_102 (by decide) (fun c => absurd c (by decide)) (fun _ => ?_)
          refine g_aload_n hC dX3_step_105 3 rfl ?_
          refine g_get hC (kf := 2) (TT := TX3) (N := 7) (Cn := RX3) dX3_step_106 hL_a hx132 rfl q_u3 (by decide) q_fl_X3_17 rfl rfl ?_
          refine g_iconst hC 1 dX3_step_109 (by decide) ?_
          refine g_icmp_ne hC 117 dX3_step_110 (by decide) (fun c135 => ?_) (fun c135 => ?_)
          · skip
            refine g_iconst hC 0 dX3_step_117 (by decide) ?_
            refine g_callV hC (Cn := RX3) (TT := TX3) (N := 7) dX3_step_118 (ct_X3_keepLevel l G L f130 a r129 (((rl <<< (1 &&& 31)) ||| 1) &&& 15) (sw + 1) t mn mx (if lr = 0 then 0 else t - lr) false hL_a hx132) q_code_X3_keepLevel q_ml_X3_38 q_im_X3_keepLevel q_sel_X3_keepLevel q_init_X3 ⟨rfl, by decide, by decide, (show (parseMethodDescriptor yX3_keepLevel.desc).map (fun d => d.parameters.length) = some 1 from by decide +kernel)⟩ hL_a hx132 rfl (by decide) (by decide) (Nat.le_of_ble_eq_true rfl) (fun v137 L138 f139 hp136 => ?_)
            obtain ⟨rfl, rfl, hf140⟩ := hp136
            have hx141 : f139 a = .inr (3, [.double r129, .int (((rl <<< (1 &&& 31)) ||| 1) &&& 15), .int (sw + 1), .int t, .double (if (false || qlt (dv r129) (dv mn)) = true then r129 else mn), .double (if (false || qgt (dv r129) (dv mx)) = true then r129 else mx), .int (if lr = 0 then 0 else t - lr)]) := by rw [hf140]; exact va_up_self _ _ _
            have hF142 : f139 = va_up f a (.inr (3, [.double r129, .int (((rl <<< (1 &&& 31)) ||| 1) &&& 15), .int (sw + 1), .int t, .double (if (false || qlt (dv r129) (dv mn)) = true then r129 else mn), .double (if (false || qgt (dv r129) (dv mx)) = true then r129 else mx), .int (if lr = 0 then 0 else t - lr)])) := by rw [hf140, hF133, va_up_up]
            refine (show V C 5 L f139 0 0 121 [(4, .int ((rl >>> (3 &&& 31)) &&& 1)), (3, .int 1), (2, .int 1), (0, .ref a), (1, .int t)] [] from ?_)
            refine g_vret hC dX3_step_121 rfl ⟨rfl, rfl, r129, (((rl <<< (1 &&& 31)) ||| 1) &&& 15), (sw + 1), t, (if (false || qlt (dv r129) (dv mn)) = true then r129 else mn), (if (false || qgt (dv r129) (dv mx)) = true then r129 else mx), (if lr = 0 then 0 else t - lr), ?_, hF142⟩ (Nat.zero_le _) (Nat.zero_le _)
            simp only [tStep, tLe, tRl, tSw, tLr, tMn, tMx, tPe, tRise, tFi, tIs, tRel, ite_dv, decide_true, decide_false, Bool.and_true, Bool.true_and, Bool.and_false, Bool.false_and, Bool.not_true, Bool.not_false, Bool.false_or, Bool.true_or, Bool.false_eq_true, if_true, if_false, d01, d11, c1, eq_false c76, eq_false c96, eq_false c134, eq_false c135, er127, er128, er129]
          · skip
            refine g_iconst hC 1 dX3_step_113 (by decide) ?_
            refine g_goto hC 118 dX3_step_114 (by decide) ?_
            refine g_callV hC (Cn := RX3) (TT := TX3) (N := 7) dX3_step_118 (ct_X3_keepLevel l G L f130 a r129 (((rl <<< (1 &&& 31)) ||| 1) &&& 15) (sw + 1) t mn mx (if lr = 0 then 0 else t - lr) true hL_a hx132) q_code_X3_keepLevel q_ml_X3_38 q_im_X3_keepLevel q_sel_X3_keepLevel q_init_X3 ⟨rfl, by decide, by decide, (show (parseMethodDescriptor yX3_keepLevel.desc).map (fun d => d.parameters.length) = some 1 from by decide +kernel)⟩ hL_a hx132 rfl (by decide) (by decide) (Nat.le_of_ble_eq_true rfl) (fun v144 L145 f146 hp143 => ?_)
            obtain ⟨rfl, rfl, hf147⟩ := hp143
            have hx148 : f146 a = .inr (3, [.double r129, .int (((rl <<< (1 &&& 31)) ||| 1) &&& 15), .int (sw + 1), .int t, .double (if (true || qlt (dv r129) (dv mn)) = true then r129 else mn), .double (if (true || qgt (dv r129) (dv mx)) = true then r129 else mx), .int (if lr = 0 then 0 else t - lr)]) := by rw [hf147]; exact va_up_self _ _ _
            have hF149 : f146 = va_up f a (.inr (3, [.double r129, .int (((rl <<< (1 &&& 31)) ||| 1) &&& 15), .int (sw + 1), .int t, .double (if (true || qlt (dv r129) (dv mn)) = true then r129 else mn), .double (if (true || qgt (dv r129) (dv mx)) = true then r129 else mx), .int (if lr = 0 then 0 else t - lr)])) := by rw [hf147, hF133, va_up_up]
            refine (show V C 5 L f146 0 0 121 [(4, .int ((rl >>> (3 &&& 31)) &&& 1)), (3, .int 1), (2, .int 1), (0, .ref a), (1, .int t)] [] from ?_)
            refine g_vret hC dX3_step_121 rfl ⟨rfl, rfl, r129, (((rl <<< (1 &&& 31)) ||| 1) &&& 15), (sw + 1), t, (if (true || qlt (dv r129) (dv mn)) = true then r129 else mn), (if (true || qgt (dv r129) (dv mx)) = true then r129 else mx), (if lr = 0 then 0 else t - lr), ?_, hF149⟩ (Nat.zero_le _) (Nat.zero_le _)
            simp only [tStep, tLe, tRl, tSw, tLr, tMn, tMx, tPe, tRise, tFi, tIs, tRel, ite_dv, decide_true, decide_false, Bool.and_true, Bool.true_and, Bool.and_false, Bool.false_and, Bool.not_true, Bool.not_false, Bool.false_or, Bool.true_or, Bool.false_eq_true, if_true, if_false, d01, d11, c1, eq_false c76, eq_false c96, eq_false c134, eq_true c135, er127, er128, er129]
set_option maxHeartbeats 4000000 in
set_option maxRecDepth 100000 in
/-- gain(k) -/
theorem ct_X3_gain (l : Launch) (G : GD) (L : List Nat) (f : Nat → va_E) (a : Nat) (le : UInt64) (rl sw lr : Int32) (mn mx : UInt64) (pe : Int32) (k : Int32) (hL_a : a ∈ L) (h0 : f a = eTn le rl sw lr mn mx pe) : Ctr l yX3_gain cX3_gain 6 (some .double) R00 G [.ref a, .int k] L f (fun vv L1 f1 => ∃ r : UInt64, vv = some (.double r) ∧ dv r = tgS (dv mn) (dv mx) pe k ∧ L = L1 ∧ f = f1) := by
  refine g_enter RX3 false (by decide) rfl (fun h => by cases h) (Nat.le_of_ble_eq_true rfl) (fun C hC => ?_)
  refine (show V C 6 L f 0 0 0 [(0, .ref a), (1, .int k)] [] from ?_)
  refine g_aload_n hC dX3_gain_0 0 rfl ?_
  refine g_get hC (kf := 5) (TT := TX3) (N := 7) (Cn := RX3) dX3_gain_1 hL_a h0 rfl q_u3 (by decide) q_fl_X3_45 rfl rfl ?_
  refine g_aload_n hC dX3_gain_4 0 rfl ?_
  refine g_get hC (kf := 4) (TT := TX3) (N := 7) (Cn := RX3) dX3_gain_5 hL_a h0 rfl q_u3 (by decide) q_fl_X3_42 rfl rfl ?_
  refine g_dsub hC dX3_gain_8 (fun r1 er1 => ?_)
  refine g_ldc2 hC dX3_gain_9 q_cd_X3_30 ?_
  refine g_dmul hC dX3_gain_12 (fun r2 er2 => ?_)
  try simp only [er1] at er2
  refine g_dstore_n hC (lv1 := [(2, .double r2), (0, .ref a), (1, .int k)]) dX3_gain_13 (by decide) rfl ?_
  refine g_aload_n hC dX3_gain_14 1 rfl ?_
  refine g_get hC (kf := 6) (TT := TX3) (N := 7) (Cn := RX3) dX3_gain_15 hL_a h0 rfl q_u3 (by decide) q_fl_X3_23 rfl rfl ?_
  refine g_if_eq hC 27 dX3_gain_18 (by decide) (fun c3 => ?_) (fun c3 => ?_)
  · skip
    refine g_dconst0 hC dX3_gain_27 ?_
    exact g_dret hC dX3_gain_28 rfl ⟨0, rfl, by simp [tgS, tgV, tgG, tgA, c3, er1, er2], rfl, rfl⟩ (Nat.zero_le _) (Nat.zero_le _)
  · skip
    refine g_dload_n hC dX3_gain_21 0 rfl ?_
    refine g_dconst0 hC dX3_gain_22 ?_
    refine g_dcmpg_gt hC 29 dX3_gain_23 dX3_gain_24 (by decide) (fun c4 => ?_) (fun c4 => ?_)
    · try simp only [er1, er2] at c4
      refine g_dconst1 hC dX3_gain_29 ?_
      refine g_dload_n hC dX3_gain_30 0 rfl ?_
      refine g_ddiv hC dX3_gain_31 (fun r5 er5 => ?_)
      try simp only [er1, er2] at er5
      refine g_dstore hC (lv1 := [(4, .double r5), (2, .double r2), (0, .ref a), (1, .int k)]) dX3_gain_32 (by decide) rfl ?_
      refine g_iload_n hC dX3_gain_34 3 rfl ?_
      rcases sw3 k with k6 | k6 | k6 | k6
      · refine g_eqI k6 (g_table hC 60 dX3_gain_35 (by decide) (by decide) rfl (by decide) ?_)
        refine g_ldc2 hC dX3_gain_60 q_cd_X3_30 ?_
        refine g_dload hC dX3_gain_63 0 rfl ?_
        refine g_dmul hC dX3_gain_65 (fun r7 er7 => ?_)
        try simp only [er1, er2, er5] at er7
        exact g_dret hC dX3_gain_66 rfl ⟨r7, rfl, by simp [tgS, tgV, tgG, tgA, c3, c4, k6, er1, er2, er5, er7], rfl, rfl⟩ (Nat.zero_le _) (Nat.zero_le _)
      · refine g_eqI k6 (g_table hC 67 dX3_gain_35 (by decide) (by decide) rfl (by decide) ?_)
        refine g_dload hC dX3_gain_67 0 rfl ?_
        refine g_aload_n hC dX3_gain_69 2 rfl ?_
        refine g_get hC (kf := 6) (TT := TX3) (N := 7) (Cn := RX3) dX3_gain_70 hL_a h0 rfl q_u3 (by decide) q_fl_X3_23 rfl rfl ?_
        refine g_i2d hC dX3_gain_73 ?_
        refine g_ddiv hC dX3_gain_74 (fun r8 er8 => ?_)
        try simp only [er1, er2, er5] at er8
        exact g_dret hC dX3_gain_75 rfl ⟨r8, rfl, by simp [tgS, tgV, tgG, tgA, c3, c4, k6, er1, er2, er5, er8], rfl, rfl⟩ (Nat.zero_le _) (Nat.zero_le _)
      · refine g_eqI k6 (g_table hC 76 dX3_gain_35 (by decide) (by decide) rfl (by decide) ?_)
        refine g_ldc2 hC dX3_gain_76 q_cd_X3_36 ?_
        refine g_dload hC dX3_gain_79 0 rfl ?_
        refine g_dmul hC dX3_gain_81 (fun r9 er9 => ?_)
        try simp only [er1, er2, er5] at er9
        refine g_aload_n hC dX3_gain_82 2 rfl ?_
        refine g_get hC (kf := 6) (TT := TX3) (N := 7) (Cn := RX3) dX3_gain_83 hL_a h0 rfl q_u3 (by decide) q_fl_X3_23 rfl rfl ?_
        refine g_i2d hC dX3_gain_86 ?_
        refine g_dmul hC dX3_gain_87 (fun r10 er10 => ?_)
        try simp only [er1, er2, er5, er9] at er10
        exact g_dret hC dX3_gain_88 rfl ⟨r10, rfl, by simp [tgS, tgV, tgG, tgA, c3, c4, k6, er1, er2, er5, er9, er10], rfl, rfl⟩ (Nat.zero_le _) (Nat.zero_le _)
      · have k0 : ¬ k = 0 := by rintro rfl; revert k6; decide
        have k1 : ¬ k = 1 := by rintro rfl; revert k6; decide
        have k2 : ¬ k = 2 := by rintro rfl; revert k6; decide
        refine g_tableOut hC 89 dX3_gain_35 k6 (by decide) ?_
        refine g_dconst0 hC dX3_gain_89 ?_
        exact g_dret hC dX3_gain_90 rfl ⟨0, rfl, by simp [tgS, tgV, tgG, tgA, c3, c4, k0, k1, k2, er1, er2, er5], rfl, rfl⟩ (Nat.zero_le _) (Nat.zero_le _)
    · try simp only [er1, er2] at c4
      refine g_dconst0 hC dX3_gain_27 ?_
      exact g_dret hC dX3_gain_28 rfl ⟨0, rfl, by simp [tgS, tgV, tgG, tgA, c3, c4, er1, er2], rfl, rfl⟩ (Nat.zero_le _) (Nat.zero_le _)
end
section
set_option maxHeartbeats 4000000 in
set_option maxRecDepth 100000 in
/-- run(seconds) -/
theorem ct_X3_run (l : Launch) (G : GD) (L : List Nat) (f : Nat → va_E) (a : Nat) (le : UInt64) (rl sw lr : Int32) (mn mx : UInt64) (pe : Int32) (n : Nat) (hn : n < 2 ^ 31) (hL_a : a ∈ L) (h0 : f a = eTn le rl sw lr mn mx pe) : Ctr l yX3_run cX3_run 3 (some .int) { frames := 2, cells := 0, slots := 0, locals := 46 } G [.ref a, .int (nI n)] L f (fun vv L1 f1 => ∃ (le1 : UInt64) (rl1 sw1 lr1 : Int32) (mn1 mx1 : UInt64) (pe1 : Int32), vv = some (.int sw1) ∧ L = L1 ∧ (dv le1, rl1, sw1, lr1, dv mn1, dv mx1, pe1) = tRun (dv 0, 0, 0, 0, dv mn, dv mx, 0) n ∧ f1 = va_up f a (eTn le1 rl1 sw1 lr1 mn1 mx1 pe1)) := by
  refine g_enter RX3 false (by decide) rfl (fun h => by cases h) (Nat.le_of_ble_eq_true rfl) (fun C hC => ?_)
  refine (show V C 3 L f 0 0 0 [(0, .ref a), (1, .int (nI n))] [] from ?_)
  have K : ∀ (m j : Nat), j + m = n → ∀ (F : Nat → va_E) (le1 : UInt64) (rl1 sw1 lr1 : Int32) (mn1 mx1 : UInt64) (pe1 : Int32), (dv le1, rl1, sw1, lr1, dv mn1, dv mx1, pe1) = tRun (dv 0, 0, 0, 0, dv mn, dv mx, 0) j → F = va_up f a (eTn le1 rl1 sw1 lr1 mn1 mx1 pe1) → V C 3 L F 0 0 27 [(2, .int (nI j)), (0, .ref a), (1, .int (nI n))] [] := by
    intro m
    induction m with
    | zero =>
      intro j hj F le1 rl1 sw1 lr1 mn1 mx1 pe1 hr hF
      have hjn : j = n := by omega
      have hh : F a = eTn le1 rl1 sw1 lr1 mn1 mx1 pe1 := by rw [hF]; exact va_up_self _ _ _
      refine g_iload_n hC dX3_run_27 0 rfl ?_
      refine g_iload_n hC dX3_run_28 2 rfl ?_
      refine g_icmp_ge hC 43 dX3_run_29 (by decide) (fun _ => ?_) (fun c => absurd (show nI n ≤ nI j by rw [hjn]; exact nI_le (Nat.le_refl _) hn) c)
      refine g_aload_n hC dX3_run_43 1 rfl ?_
      refine g_get hC (kf := 2) (TT := TX3) (N := 7) (Cn := RX3) dX3_run_44 hL_a hh rfl q_u3 (by decide) q_fl_X3_17 rfl rfl ?_
      exact g_iret hC dX3_run_47 rfl rfl ⟨le1, rl1, sw1, lr1, mn1, mx1, pe1, rfl, rfl, by rw [hr, hjn], hF⟩ (Nat.zero_le _) (Nat.zero_le _)
    | succ m ih =>
      intro j hj F le1 rl1 sw1 lr1 mn1 mx1 pe1 hr hF
      have hh : F a = eTn le1 rl1 sw1 lr1 mn1 mx1 pe1 := by rw [hF]; exact va_up_self _ _ _
      refine g_iload_n hC dX3_run_27 0 rfl ?_
      refine g_iload_n hC dX3_run_28 2 rfl ?_
      refine g_icmp_ge hC 43 dX3_run_29 (by decide) (fun c => absurd c (nI_ge (by omega) hn)) (fun _ => ?_)
      refine g_aload_n hC dX3_run_32 1 rfl ?_
      refine g_iload_n hC dX3_run_33 0 rfl ?_
      refine g_callV hC (Cn := RX3) (TT := TX3) (N := 7) dX3_run_34 (ct_X3_step l G L F a le1 rl1 sw1 lr1 mn1 mx1 pe1 (nI j) hL_a hh) q_code_X3_step q_ml_X3_26 q_im_X3_step q_sel_X3_step q_init_X3 ⟨rfl, by decide, by decide, (show (parseMethodDescriptor yX3_step.desc).map (fun d => d.parameters.length) = some 1 from by decide +kernel)⟩ hL_a hh rfl (by decide) (by decide) (Nat.le_of_ble_eq_true rfl) (fun v2 L3 f4 hp1 => ?_)
      obtain ⟨rfl, rfl, le2, rl2, sw2, lr2, mn2, mx2, pe2, hs, hf2⟩ := hp1
      rw [hF] at hf2
      rw [va_up_up] at hf2
      refine (show V C 3 L f4 0 0 37 [(2, .int (nI j)), (0, .ref a), (1, .int (nI n))] [] from ?_)
      refine g_iinc hC (v := nI (j + 1)) (lv1 := [(2, .int (nI (j + 1))), (0, .ref a), (1, .int (nI n))]) dX3_run_37 0 rfl (by rw [nI_succ]; rfl) (by decide) rfl ?_
      refine g_goto hC 27 dX3_run_40 (by decide) ?_
      exact ih (j + 1) (by omega) f4 le2 rl2 sw2 lr2 mn2 mx2 pe2 (by rw [hs, hr]; rfl) hf2
  refine g_aload_n hC dX3_run_0 0 rfl ?_
  refine g_dconst0 hC dX3_run_1 ?_
  refine g_put hC (kf := 0) (TT := TX3) (N := 7) (Cn := RX3) (ty0 := tyX3) (fs1 := [.double 0, .int rl, .int sw, .int lr, .double mn, .double mx, .int pe]) dX3_run_2 hL_a h0 rfl q_u3 (by decide) tyX3_ok nmX3 q_fl_X3_7 rfl rfl rfl rfl rfl (Nat.le_of_ble_eq_true rfl) rfl ?_
  refine g_nm (fun f1 hf2 => ?_)
  have hx3 : f1 a = .inr (3, [.double 0, .int rl, .int sw, .int lr, .double mn, .double mx, .int pe]) := by rw [hf2]; exact va_up_self _ _ _
  have hF4 : f1 = va_up f a (.inr (3, [.double 0, .int rl, .int sw, .int lr, .double mn, .double mx, .int pe])) := hf2
  refine g_aload_n hC dX3_run_5 0 rfl ?_
  refine g_iconst hC 0 dX3_run_6 (by decide) ?_
  refine g_put hC (kf := 1) (TT := TX3) (N := 7) (Cn := RX3) (ty0 := tyX3) (fs1 := [.double 0, .int 0, .int sw, .int lr, .double mn, .double mx, .int pe]) dX3_run_7 hL_a hx3 rfl q_u3 (by decide) tyX3_ok nmX3 q_fl_X3_13 rfl rfl rfl rfl rfl (Nat.le_of_ble_eq_true rfl) rfl ?_
  refine g_nm (fun f5 hf6 => ?_)
  have hx7 : f5 a = .inr (3, [.double 0, .int 0, .int sw, .int lr, .double mn, .double mx, .int pe]) := by rw [hf6]; exact va_up_self _ _ _
  have hF8 : f5 = va_up f a (.inr (3, [.double 0, .int 0, .int sw, .int lr, .double mn, .double mx, .int pe])) := by rw [hf6, hF4, va_up_up]
  refine g_aload_n hC dX3_run_10 0 rfl ?_
  refine g_iconst hC 0 dX3_run_11 (by decide) ?_
  refine g_put hC (kf := 2) (TT := TX3) (N := 7) (Cn := RX3) (ty0 := tyX3) (fs1 := [.double 0, .int 0, .int 0, .int lr, .double mn, .double mx, .int pe]) dX3_run_12 hL_a hx7 rfl q_u3 (by decide) tyX3_ok nmX3 q_fl_X3_17 rfl rfl rfl rfl rfl (Nat.le_of_ble_eq_true rfl) rfl ?_
  refine g_nm (fun f9 hf10 => ?_)
  have hx11 : f9 a = .inr (3, [.double 0, .int 0, .int 0, .int lr, .double mn, .double mx, .int pe]) := by rw [hf10]; exact va_up_self _ _ _
  have hF12 : f9 = va_up f a (.inr (3, [.double 0, .int 0, .int 0, .int lr, .double mn, .double mx, .int pe])) := by rw [hf10, hF8, va_up_up]
  refine g_aload_n hC dX3_run_15 0 rfl ?_
  refine g_iconst hC 0 dX3_run_16 (by decide) ?_
  refine g_put hC (kf := 3) (TT := TX3) (N := 7) (Cn := RX3) (ty0 := tyX3) (fs1 := [.double 0, .int 0, .int 0, .int 0, .double mn, .double mx, .int pe]) dX3_run_17 hL_a hx11 rfl q_u3 (by decide) tyX3_ok nmX3 q_fl_X3_20 rfl rfl rfl rfl rfl (Nat.le_of_ble_eq_true rfl) rfl ?_
  refine g_nm (fun f13 hf14 => ?_)
  have hx15 : f13 a = .inr (3, [.double 0, .int 0, .int 0, .int 0, .double mn, .double mx, .int pe]) := by rw [hf14]; exact va_up_self _ _ _
  have hF16 : f13 = va_up f a (.inr (3, [.double 0, .int 0, .int 0, .int 0, .double mn, .double mx, .int pe])) := by rw [hf14, hF12, va_up_up]
  refine g_aload_n hC dX3_run_20 0 rfl ?_
  refine g_iconst hC 0 dX3_run_21 (by decide) ?_
  refine g_put hC (kf := 6) (TT := TX3) (N := 7) (Cn := RX3) (ty0 := tyX3) (fs1 := [.double 0, .int 0, .int 0, .int 0, .double mn, .double mx, .int 0]) dX3_run_22 hL_a hx15 rfl q_u3 (by decide) tyX3_ok nmX3 q_fl_X3_23 rfl rfl rfl rfl rfl (Nat.le_of_ble_eq_true rfl) rfl ?_
  refine g_nm (fun f17 hf18 => ?_)
  have hx19 : f17 a = .inr (3, [.double 0, .int 0, .int 0, .int 0, .double mn, .double mx, .int 0]) := by rw [hf18]; exact va_up_self _ _ _
  have hF20 : f17 = va_up f a (.inr (3, [.double 0, .int 0, .int 0, .int 0, .double mn, .double mx, .int 0])) := by rw [hf18, hF16, va_up_up]
  refine g_iconst hC (nI 0) dX3_run_25 (by decide) ?_
  refine g_istore_n hC (lv1 := [(2, .int (nI 0)), (0, .ref a), (1, .int (nI n))]) dX3_run_26 (by decide) rfl ?_
  exact K n 0 (Nat.zero_add n) f17 0 0 0 0 mn mx 0 rfl hF20
end
section
/-! the world of the two objects: CI (the class's cells), MI (the model's cells) -/
def isM (e : va_E) : Bool := match e with
  | .inr (5, _) => true
  | .inl (_, _, .inl _) => true
  | .inl (_, _, .inr (.inr (.inr (.inl _)))) => true
  | _ => false
def FRc (L : List Nat) (f f1 : Nat → va_E) : Prop := ∀ a : Nat, a ∈ L → isM (f a) = true → f1 a = f a
def FRm (L : List Nat) (f f1 : Nat → va_E) : Prop := ∀ a : Nat, a ∈ L → isM (f a) = false → f1 a = f a
theorem FRc.rf {L : List Nat} {f : Nat → va_E} : FRc L f f := fun _ _ _ => rfl
theorem FRm.rf {L : List Nat} {f : Nat → va_E} : FRm L f f := fun _ _ _ => rfl
theorem FRc.up {L : List Nat} {f f1 : Nat → va_E} {a : Nat} {e0 : va_E} (e : va_E) (h : FRc L f f1) (h0 : f1 a = e0) (hm : isM e0 = false) : FRc L f (va_up f1 a e) := by
  intro b hb hm1
  have h1 := h b hb hm1
  rw [va_up_ne _ _ (fun z => by subst z; rw [← h1, h0, hm] at hm1; cases hm1)]
  exact h1
theorem FRm.up {L : List Nat} {f f1 : Nat → va_E} {a : Nat} {e0 : va_E} (e : va_E) (h : FRm L f f1) (h0 : f1 a = e0) (hm : isM e0 = true) : FRm L f (va_up f1 a e) := by
  intro b hb hm1
  have h1 := h b hb hm1
  rw [va_up_ne _ _ (fun z => by subst z; rw [← h1, h0, hm] at hm1; cases hm1)]
  exact h1
theorem FRm.trans {L : List Nat} {f f1 f2 : Nat → va_E} (h : FRm L f f1) (h2 : FRm L f1 f2) : FRm L f f2 := fun a ha hm => by
  have h1 := h a ha hm
  rw [h2 a ha (by rw [h1]; exact hm), h1]
theorem FRc.trans {L : List Nat} {f f1 f2 : Nat → va_E} (h : FRc L f f1) (h2 : FRc L f1 f2) : FRc L f f2 := fun a ha hm => by
  have h1 := h a ha hm
  rw [h2 a ha (by rw [h1]; exact hm), h1]
abbrev aRf (cA : ClassId) (r : Nat → Option Nat) : va_E := .inl (cA, 16, .inr (.inr (.inr (.inr r))))
abbrev aDb (cA : ClassId) (r : Nat → UInt64) : va_E := .inl (cA, 16, .inr (.inr (.inr (.inl r))))
abbrev aIn (cA : ClassId) (r : Nat → Int32) : va_E := .inl (cA, 16, .inl r)
def rowN (n : Nat) (g : Nat → Nat) : Nat → Option Nat := fun j => if j < n then some (g j) else none
abbrev eLw (la sa n k : Nat) : va_E := .inr (4, [.ref la, .ref sa, .int (nI n), .int (nI k)])
def CIl (c : Nat → Nat → Nat) (X : Nat → Nat → UInt64) (Z : Nat → Nat → Int32) (OU : Nat → Option Nat) (L : List Nat) (f : Nat → va_E) (i : Nat) : Prop :=
  (c 0 i ∈ L ∧ f (c 0 i) = eLp (X i) (Z i 0) (Z i 1) (c 1 i) (c 2 i) (c 3 i) (c 4 i) ((OU i).map (c 0))) ∧ (c 1 i ∈ L ∧ f (c 1 i) = eSp (X i 9) (X i 10)) ∧ (c 2 i ∈ L ∧ f (c 2 i) = eSp (X i 11) (X i 12)) ∧ (c 3 i ∈ L ∧ f (c 3 i) = eSp (X i 13) (X i 14)) ∧ (c 4 i ∈ L ∧ f (c 4 i) = eTn (X i 15) (Z i 2) (Z i 3) (Z i 4) (X i 16) (X i 17) (Z i 5))
def CI (G : GD) (c : Nat → Nat → Nat) (n k : Nat) (X : Nat → Nat → UInt64) (XS : Nat → UInt64) (Z : Nat → Nat → Int32) (OU : Nat → Option Nat) (SL : Nat → Nat) (L : List Nat) (f : Nat → va_E) : Prop :=
  (n ≤ 16 ∧ k ≤ 16) ∧ (c 6 0 ∈ L ∧ f (c 6 0) = eLw (c 6 1) (c 6 2) n k) ∧ (c 6 1 ∈ L ∧ f (c 6 1) = aRf G.2.2.2.2.1 (rowN n (c 0))) ∧ (c 6 2 ∈ L ∧ f (c 6 2) = aRf G.2.2.2.2.2 (rowN k (c 5))) ∧ c 6 1 ≠ c 6 2 ∧
  (∀ i, i < n → CIl c X Z OU L f i) ∧ (∀ j, j < k → c 5 j ∈ L ∧ f (c 5 j) = eSt (c 0 (SL j)) (XS j) ∧ SL j < n) ∧ (∀ i o, i < n → OU i = some o → o < n) ∧ (∀ t t1 i i1, t < 5 → t1 < 5 → i < n → i1 < n → c t i = c t1 i1 → t = t1 ∧ i = i1)
theorem CI.hm {G : GD} {c : Nat → Nat → Nat} {n k : Nat} {X : Nat → Nat → UInt64} {XS : Nat → UInt64} {Z : Nat → Nat → Int32} {OU : Nat → Option Nat} {SL : Nat → Nat} {L : List Nat} {f : Nat → va_E} (h : CI G c n k X XS Z OU SL L f) : c 6 0 ∈ L := h.2.1.1
theorem CI.h0 {G : GD} {c : Nat → Nat → Nat} {n k : Nat} {X : Nat → Nat → UInt64} {XS : Nat → UInt64} {Z : Nat → Nat → Int32} {OU : Nat → Option Nat} {SL : Nat → Nat} {L : List Nat} {f : Nat → va_E} (h : CI G c n k X XS Z OU SL L f) : f (c 6 0) = eLw (c 6 1) (c 6 2) n k := h.2.1.2
theorem CI.lm {G : GD} {c : Nat → Nat → Nat} {n k : Nat} {X : Nat → Nat → UInt64} {XS : Nat → UInt64} {Z : Nat → Nat → Int32} {OU : Nat → Option Nat} {SL : Nat → Nat} {L : List Nat} {f : Nat → va_E} (h : CI G c n k X XS Z OU SL L f) : c 6 1 ∈ L := h.2.2.1.1
theorem CI.l0 {G : GD} {c : Nat → Nat → Nat} {n k : Nat} {X : Nat → Nat → UInt64} {XS : Nat → UInt64} {Z : Nat → Nat → Int32} {OU : Nat → Option Nat} {SL : Nat → Nat} {L : List Nat} {f : Nat → va_E} (h : CI G c n k X XS Z OU SL L f) : f (c 6 1) = aRf G.2.2.2.2.1 (rowN n (c 0)) := h.2.2.1.2
theorem CI.sm {G : GD} {c : Nat → Nat → Nat} {n k : Nat} {X : Nat → Nat → UInt64} {XS : Nat → UInt64} {Z : Nat → Nat → Int32} {OU : Nat → Option Nat} {SL : Nat → Nat} {L : List Nat} {f : Nat → va_E} (h : CI G c n k X XS Z OU SL L f) : c 6 2 ∈ L := h.2.2.2.1.1
theorem CI.s0 {G : GD} {c : Nat → Nat → Nat} {n k : Nat} {X : Nat → Nat → UInt64} {XS : Nat → UInt64} {Z : Nat → Nat → Int32} {OU : Nat → Option Nat} {SL : Nat → Nat} {L : List Nat} {f : Nat → va_E} (h : CI G c n k X XS Z OU SL L f) : f (c 6 2) = aRf G.2.2.2.2.2 (rowN k (c 5)) := h.2.2.2.1.2
theorem CI.lp {G : GD} {c : Nat → Nat → Nat} {n k : Nat} {X : Nat → Nat → UInt64} {XS : Nat → UInt64} {Z : Nat → Nat → Int32} {OU : Nat → Option Nat} {SL : Nat → Nat} {L : List Nat} {f : Nat → va_E} (h : CI G c n k X XS Z OU SL L f) {i : Nat} (hi : i < n) : CIl c X Z OU L f i := h.2.2.2.2.2.1 i hi
theorem CI.sp {G : GD} {c : Nat → Nat → Nat} {n k : Nat} {X : Nat → Nat → UInt64} {XS : Nat → UInt64} {Z : Nat → Nat → Int32} {OU : Nat → Option Nat} {SL : Nat → Nat} {L : List Nat} {f : Nat → va_E} (h : CI G c n k X XS Z OU SL L f) {j : Nat} (hj : j < k) : c 5 j ∈ L ∧ f (c 5 j) = eSt (c 0 (SL j)) (XS j) ∧ SL j < n := h.2.2.2.2.2.2.1 j hj
theorem CI.n16 {G : GD} {c : Nat → Nat → Nat} {n k : Nat} {X : Nat → Nat → UInt64} {XS : Nat → UInt64} {Z : Nat → Nat → Int32} {OU : Nat → Option Nat} {SL : Nat → Nat} {L : List Nat} {f : Nat → va_E} (h : CI G c n k X XS Z OU SL L f) : n ≤ 16 := h.1.1
theorem CI.k16 {G : GD} {c : Nat → Nat → Nat} {n k : Nat} {X : Nat → Nat → UInt64} {XS : Nat → UInt64} {Z : Nat → Nat → Int32} {OU : Nat → Option Nat} {SL : Nat → Nat} {L : List Nat} {f : Nat → va_E} (h : CI G c n k X XS Z OU SL L f) : k ≤ 16 := h.1.2
theorem CI.loop {G : GD} {c : Nat → Nat → Nat} {n k : Nat} {X : Nat → Nat → UInt64} {XS : Nat → UInt64} {Z : Nat → Nat → Int32} {OU : Nat → Option Nat} {SL : Nat → Nat} {L : List Nat} {f : Nat → va_E} (h : CI G c n k X XS Z OU SL L f) {i : Nat} (hi : i < n) (x : Nat → UInt64) (z : Nat → Int32) (ou : Option Nat) (hx : ∀ j, 9 ≤ j → x j = X i j) (hz : ∀ j, 2 ≤ j → z j = Z i j) (hou : ∀ o, ou = some o → o < n) : CI G c n k (va_up X i x) XS (va_up Z i z) (va_up OU i ou) SL L (va_up f (c 0 i) (eLp x (z 0) (z 1) (c 1 i) (c 2 i) (c 3 i) (c 4 i) (ou.map (c 0)))) := by
  obtain ⟨hn, ⟨a1, b1⟩, ⟨a2, b2⟩, ⟨a3, b3⟩, hne, hl, hs, ho, hj⟩ := h
  have e0 := (hl i hi).1.2
  refine ⟨hn, ⟨a1, ?_⟩, ⟨a2, ?_⟩, ⟨a3, ?_⟩, hne, fun j hj1 => ?_, fun j hj1 => ⟨(hs j hj1).1, ?_, (hs j hj1).2.2⟩, ?_, hj⟩
  · rw [va_up_ne _ _ (fun q => by rw [q, e0] at b1; cases b1)]; exact b1
  · rw [va_up_ne _ _ (fun q => by rw [q, e0] at b2; cases b2)]; exact b2
  · rw [va_up_ne _ _ (fun q => by rw [q, e0] at b3; cases b3)]; exact b3
  · obtain ⟨⟨m0, p0⟩, ⟨m1, p1⟩, ⟨m2, p2⟩, ⟨m3, p3⟩, ⟨m4, p4⟩⟩ := hl j hj1
    by_cases q : j = i
    · subst q
      simp only [CIl, va_up_self]
      refine ⟨⟨m0, ?_⟩, ⟨m1, ?_⟩, ⟨m2, ?_⟩, ⟨m3, ?_⟩, ⟨m4, ?_⟩⟩
      · first | trivial | rfl
      · rw [va_up_ne _ _ (fun q => by have q2 := (hj 1 0 j j (by decide) (by decide) hj1 hj1 q).1; cases q2)]
        rw [p1]; rw [hx 9 (by decide), hx 10 (by decide)]
      · rw [va_up_ne _ _ (fun q => by have q2 := (hj 2 0 j j (by decide) (by decide) hj1 hj1 q).1; cases q2)]
        rw [p2]; rw [hx 11 (by decide), hx 12 (by decide)]
      · rw [va_up_ne _ _ (fun q => by have q2 := (hj 3 0 j j (by decide) (by decide) hj1 hj1 q).1; cases q2)]
        rw [p3]; rw [hx 13 (by decide), hx 14 (by decide)]
      · rw [va_up_ne _ _ (fun q => by have q2 := (hj 4 0 j j (by decide) (by decide) hj1 hj1 q).1; cases q2)]
        rw [p4]; rw [hx 15 (by decide), hx 16 (by decide), hx 17 (by decide), hz 2 (by decide), hz 3 (by decide), hz 4 (by decide), hz 5 (by decide)]
    · simp only [CIl, va_up_ne _ _ q]
      refine ⟨⟨m0, ?_⟩, ⟨m1, ?_⟩, ⟨m2, ?_⟩, ⟨m3, ?_⟩, ⟨m4, ?_⟩⟩
      · rw [va_up_ne _ _ (fun z => q (hj 0 0 j i (by decide) (by decide) hj1 hi z).2)]; exact p0
      · rw [va_up_ne _ _ (fun z => q (hj 1 0 j i (by decide) (by decide) hj1 hi z).2)]; exact p1
      · rw [va_up_ne _ _ (fun z => q (hj 2 0 j i (by decide) (by decide) hj1 hi z).2)]; exact p2
      · rw [va_up_ne _ _ (fun z => q (hj 3 0 j i (by decide) (by decide) hj1 hi z).2)]; exact p3
      · rw [va_up_ne _ _ (fun z => q (hj 4 0 j i (by decide) (by decide) hj1 hi z).2)]; exact p4
  · rw [va_up_ne _ _ (fun q => by have e1 := (hs j hj1).2.1; rw [q, e0] at e1; cases e1)]; exact (hs j hj1).2.1
  · intro j o hj1 he
    by_cases q : j = i
    · subst q; rw [va_up_self] at he; exact hou o he
    · rw [va_up_ne _ _ q] at he; exact ho j o hj1 he
theorem CI.limits {G : GD} {c : Nat → Nat → Nat} {n k : Nat} {X : Nat → Nat → UInt64} {XS : Nat → UInt64} {Z : Nat → Nat → Int32} {OU : Nat → Option Nat} {SL : Nat → Nat} {L : List Nat} {f : Nat → va_E} (h : CI G c n k X XS Z OU SL L f) {i : Nat} (hi : i < n) (x : Nat → UInt64) (hx : ∀ j, j ≠ 9 → j ≠ 10 → x j = X i j) : CI G c n k (va_up X i x) XS Z OU SL L (va_up f (c 1 i) (eSp (x 9) (x 10))) := by
  obtain ⟨hn, ⟨a1, b1⟩, ⟨a2, b2⟩, ⟨a3, b3⟩, hne, hl, hs, ho, hj⟩ := h
  have e0 := (hl i hi).2.1.2
  refine ⟨hn, ⟨a1, ?_⟩, ⟨a2, ?_⟩, ⟨a3, ?_⟩, hne, fun j hj1 => ?_, fun j hj1 => ⟨(hs j hj1).1, ?_, (hs j hj1).2.2⟩, ?_, hj⟩
  · rw [va_up_ne _ _ (fun q => by rw [q, e0] at b1; cases b1)]; exact b1
  · rw [va_up_ne _ _ (fun q => by rw [q, e0] at b2; cases b2)]; exact b2
  · rw [va_up_ne _ _ (fun q => by rw [q, e0] at b3; cases b3)]; exact b3
  · obtain ⟨⟨m0, p0⟩, ⟨m1, p1⟩, ⟨m2, p2⟩, ⟨m3, p3⟩, ⟨m4, p4⟩⟩ := hl j hj1
    by_cases q : j = i
    · subst q
      simp only [CIl, va_up_self]
      refine ⟨⟨m0, ?_⟩, ⟨m1, ?_⟩, ⟨m2, ?_⟩, ⟨m3, ?_⟩, ⟨m4, ?_⟩⟩
      · rw [va_up_ne _ _ (fun q => by have q2 := (hj 0 1 j j (by decide) (by decide) hj1 hj1 q).1; cases q2)]
        rw [p0]; simp only [eLp, hx 0 (by decide) (by decide), hx 1 (by decide) (by decide), hx 2 (by decide) (by decide), hx 3 (by decide) (by decide), hx 4 (by decide) (by decide), hx 5 (by decide) (by decide), hx 6 (by decide) (by decide), hx 7 (by decide) (by decide), hx 8 (by decide) (by decide)]
      · first | trivial | rfl
      · rw [va_up_ne _ _ (fun q => by have q2 := (hj 2 1 j j (by decide) (by decide) hj1 hj1 q).1; cases q2)]
        rw [p2]; rw [hx 11 (by decide) (by decide), hx 12 (by decide) (by decide)]
      · rw [va_up_ne _ _ (fun q => by have q2 := (hj 3 1 j j (by decide) (by decide) hj1 hj1 q).1; cases q2)]
        rw [p3]; rw [hx 13 (by decide) (by decide), hx 14 (by decide) (by decide)]
      · rw [va_up_ne _ _ (fun q => by have q2 := (hj 4 1 j j (by decide) (by decide) hj1 hj1 q).1; cases q2)]
        rw [p4]; rw [hx 15 (by decide) (by decide), hx 16 (by decide) (by decide), hx 17 (by decide) (by decide)]
    · simp only [CIl, va_up_ne _ _ q]
      refine ⟨⟨m0, ?_⟩, ⟨m1, ?_⟩, ⟨m2, ?_⟩, ⟨m3, ?_⟩, ⟨m4, ?_⟩⟩
      · rw [va_up_ne _ _ (fun z => q (hj 0 1 j i (by decide) (by decide) hj1 hi z).2)]; exact p0
      · rw [va_up_ne _ _ (fun z => q (hj 1 1 j i (by decide) (by decide) hj1 hi z).2)]; exact p1
      · rw [va_up_ne _ _ (fun z => q (hj 2 1 j i (by decide) (by decide) hj1 hi z).2)]; exact p2
      · rw [va_up_ne _ _ (fun z => q (hj 3 1 j i (by decide) (by decide) hj1 hi z).2)]; exact p3
      · rw [va_up_ne _ _ (fun z => q (hj 4 1 j i (by decide) (by decide) hj1 hi z).2)]; exact p4
  · rw [va_up_ne _ _ (fun q => by have e1 := (hs j hj1).2.1; rw [q, e0] at e1; cases e1)]; exact (hs j hj1).2.1
  · exact ho
theorem CI.band {G : GD} {c : Nat → Nat → Nat} {n k : Nat} {X : Nat → Nat → UInt64} {XS : Nat → UInt64} {Z : Nat → Nat → Int32} {OU : Nat → Option Nat} {SL : Nat → Nat} {L : List Nat} {f : Nat → va_E} (h : CI G c n k X XS Z OU SL L f) {i : Nat} (hi : i < n) (x : Nat → UInt64) (hx : ∀ j, j ≠ 11 → j ≠ 12 → x j = X i j) : CI G c n k (va_up X i x) XS Z OU SL L (va_up f (c 2 i) (eSp (x 11) (x 12))) := by
  obtain ⟨hn, ⟨a1, b1⟩, ⟨a2, b2⟩, ⟨a3, b3⟩, hne, hl, hs, ho, hj⟩ := h
  have e0 := (hl i hi).2.2.1.2
  refine ⟨hn, ⟨a1, ?_⟩, ⟨a2, ?_⟩, ⟨a3, ?_⟩, hne, fun j hj1 => ?_, fun j hj1 => ⟨(hs j hj1).1, ?_, (hs j hj1).2.2⟩, ?_, hj⟩
  · rw [va_up_ne _ _ (fun q => by rw [q, e0] at b1; cases b1)]; exact b1
  · rw [va_up_ne _ _ (fun q => by rw [q, e0] at b2; cases b2)]; exact b2
  · rw [va_up_ne _ _ (fun q => by rw [q, e0] at b3; cases b3)]; exact b3
  · obtain ⟨⟨m0, p0⟩, ⟨m1, p1⟩, ⟨m2, p2⟩, ⟨m3, p3⟩, ⟨m4, p4⟩⟩ := hl j hj1
    by_cases q : j = i
    · subst q
      simp only [CIl, va_up_self]
      refine ⟨⟨m0, ?_⟩, ⟨m1, ?_⟩, ⟨m2, ?_⟩, ⟨m3, ?_⟩, ⟨m4, ?_⟩⟩
      · rw [va_up_ne _ _ (fun q => by have q2 := (hj 0 2 j j (by decide) (by decide) hj1 hj1 q).1; cases q2)]
        rw [p0]; simp only [eLp, hx 0 (by decide) (by decide), hx 1 (by decide) (by decide), hx 2 (by decide) (by decide), hx 3 (by decide) (by decide), hx 4 (by decide) (by decide), hx 5 (by decide) (by decide), hx 6 (by decide) (by decide), hx 7 (by decide) (by decide), hx 8 (by decide) (by decide)]
      · rw [va_up_ne _ _ (fun q => by have q2 := (hj 1 2 j j (by decide) (by decide) hj1 hj1 q).1; cases q2)]
        rw [p1]; rw [hx 9 (by decide) (by decide), hx 10 (by decide) (by decide)]
      · first | trivial | rfl
      · rw [va_up_ne _ _ (fun q => by have q2 := (hj 3 2 j j (by decide) (by decide) hj1 hj1 q).1; cases q2)]
        rw [p3]; rw [hx 13 (by decide) (by decide), hx 14 (by decide) (by decide)]
      · rw [va_up_ne _ _ (fun q => by have q2 := (hj 4 2 j j (by decide) (by decide) hj1 hj1 q).1; cases q2)]
        rw [p4]; rw [hx 15 (by decide) (by decide), hx 16 (by decide) (by decide), hx 17 (by decide) (by decide)]
    · simp only [CIl, va_up_ne _ _ q]
      refine ⟨⟨m0, ?_⟩, ⟨m1, ?_⟩, ⟨m2, ?_⟩, ⟨m3, ?_⟩, ⟨m4, ?_⟩⟩
      · rw [va_up_ne _ _ (fun z => q (hj 0 2 j i (by decide) (by decide) hj1 hi z).2)]; exact p0
      · rw [va_up_ne _ _ (fun z => q (hj 1 2 j i (by decide) (by decide) hj1 hi z).2)]; exact p1
      · rw [va_up_ne _ _ (fun z => q (hj 2 2 j i (by decide) (by decide) hj1 hi z).2)]; exact p2
      · rw [va_up_ne _ _ (fun z => q (hj 3 2 j i (by decide) (by decide) hj1 hi z).2)]; exact p3
      · rw [va_up_ne _ _ (fun z => q (hj 4 2 j i (by decide) (by decide) hj1 hi z).2)]; exact p4
  · rw [va_up_ne _ _ (fun q => by have e1 := (hs j hj1).2.1; rw [q, e0] at e1; cases e1)]; exact (hs j hj1).2.1
  · exact ho
theorem CI.range {G : GD} {c : Nat → Nat → Nat} {n k : Nat} {X : Nat → Nat → UInt64} {XS : Nat → UInt64} {Z : Nat → Nat → Int32} {OU : Nat → Option Nat} {SL : Nat → Nat} {L : List Nat} {f : Nat → va_E} (h : CI G c n k X XS Z OU SL L f) {i : Nat} (hi : i < n) (x : Nat → UInt64) (hx : ∀ j, j ≠ 13 → j ≠ 14 → x j = X i j) : CI G c n k (va_up X i x) XS Z OU SL L (va_up f (c 3 i) (eSp (x 13) (x 14))) := by
  obtain ⟨hn, ⟨a1, b1⟩, ⟨a2, b2⟩, ⟨a3, b3⟩, hne, hl, hs, ho, hj⟩ := h
  have e0 := (hl i hi).2.2.2.1.2
  refine ⟨hn, ⟨a1, ?_⟩, ⟨a2, ?_⟩, ⟨a3, ?_⟩, hne, fun j hj1 => ?_, fun j hj1 => ⟨(hs j hj1).1, ?_, (hs j hj1).2.2⟩, ?_, hj⟩
  · rw [va_up_ne _ _ (fun q => by rw [q, e0] at b1; cases b1)]; exact b1
  · rw [va_up_ne _ _ (fun q => by rw [q, e0] at b2; cases b2)]; exact b2
  · rw [va_up_ne _ _ (fun q => by rw [q, e0] at b3; cases b3)]; exact b3
  · obtain ⟨⟨m0, p0⟩, ⟨m1, p1⟩, ⟨m2, p2⟩, ⟨m3, p3⟩, ⟨m4, p4⟩⟩ := hl j hj1
    by_cases q : j = i
    · subst q
      simp only [CIl, va_up_self]
      refine ⟨⟨m0, ?_⟩, ⟨m1, ?_⟩, ⟨m2, ?_⟩, ⟨m3, ?_⟩, ⟨m4, ?_⟩⟩
      · rw [va_up_ne _ _ (fun q => by have q2 := (hj 0 3 j j (by decide) (by decide) hj1 hj1 q).1; cases q2)]
        rw [p0]; simp only [eLp, hx 0 (by decide) (by decide), hx 1 (by decide) (by decide), hx 2 (by decide) (by decide), hx 3 (by decide) (by decide), hx 4 (by decide) (by decide), hx 5 (by decide) (by decide), hx 6 (by decide) (by decide), hx 7 (by decide) (by decide), hx 8 (by decide) (by decide)]
      · rw [va_up_ne _ _ (fun q => by have q2 := (hj 1 3 j j (by decide) (by decide) hj1 hj1 q).1; cases q2)]
        rw [p1]; rw [hx 9 (by decide) (by decide), hx 10 (by decide) (by decide)]
      · rw [va_up_ne _ _ (fun q => by have q2 := (hj 2 3 j j (by decide) (by decide) hj1 hj1 q).1; cases q2)]
        rw [p2]; rw [hx 11 (by decide) (by decide), hx 12 (by decide) (by decide)]
      · first | trivial | rfl
      · rw [va_up_ne _ _ (fun q => by have q2 := (hj 4 3 j j (by decide) (by decide) hj1 hj1 q).1; cases q2)]
        rw [p4]; rw [hx 15 (by decide) (by decide), hx 16 (by decide) (by decide), hx 17 (by decide) (by decide)]
    · simp only [CIl, va_up_ne _ _ q]
      refine ⟨⟨m0, ?_⟩, ⟨m1, ?_⟩, ⟨m2, ?_⟩, ⟨m3, ?_⟩, ⟨m4, ?_⟩⟩
      · rw [va_up_ne _ _ (fun z => q (hj 0 3 j i (by decide) (by decide) hj1 hi z).2)]; exact p0
      · rw [va_up_ne _ _ (fun z => q (hj 1 3 j i (by decide) (by decide) hj1 hi z).2)]; exact p1
      · rw [va_up_ne _ _ (fun z => q (hj 2 3 j i (by decide) (by decide) hj1 hi z).2)]; exact p2
      · rw [va_up_ne _ _ (fun z => q (hj 3 3 j i (by decide) (by decide) hj1 hi z).2)]; exact p3
      · rw [va_up_ne _ _ (fun z => q (hj 4 3 j i (by decide) (by decide) hj1 hi z).2)]; exact p4
  · rw [va_up_ne _ _ (fun q => by have e1 := (hs j hj1).2.1; rw [q, e0] at e1; cases e1)]; exact (hs j hj1).2.1
  · exact ho
theorem CI.tune {G : GD} {c : Nat → Nat → Nat} {n k : Nat} {X : Nat → Nat → UInt64} {XS : Nat → UInt64} {Z : Nat → Nat → Int32} {OU : Nat → Option Nat} {SL : Nat → Nat} {L : List Nat} {f : Nat → va_E} (h : CI G c n k X XS Z OU SL L f) {i : Nat} (hi : i < n) (x : Nat → UInt64) (z : Nat → Int32) (hx : ∀ j, j < 15 → x j = X i j) (hz : ∀ j, j < 2 → z j = Z i j) : CI G c n k (va_up X i x) XS (va_up Z i z) OU SL L (va_up f (c 4 i) (eTn (x 15) (z 2) (z 3) (z 4) (x 16) (x 17) (z 5))) := by
  obtain ⟨hn, ⟨a1, b1⟩, ⟨a2, b2⟩, ⟨a3, b3⟩, hne, hl, hs, ho, hj⟩ := h
  have e0 := (hl i hi).2.2.2.2.2
  refine ⟨hn, ⟨a1, ?_⟩, ⟨a2, ?_⟩, ⟨a3, ?_⟩, hne, fun j hj1 => ?_, fun j hj1 => ⟨(hs j hj1).1, ?_, (hs j hj1).2.2⟩, ?_, hj⟩
  · rw [va_up_ne _ _ (fun q => by rw [q, e0] at b1; cases b1)]; exact b1
  · rw [va_up_ne _ _ (fun q => by rw [q, e0] at b2; cases b2)]; exact b2
  · rw [va_up_ne _ _ (fun q => by rw [q, e0] at b3; cases b3)]; exact b3
  · obtain ⟨⟨m0, p0⟩, ⟨m1, p1⟩, ⟨m2, p2⟩, ⟨m3, p3⟩, ⟨m4, p4⟩⟩ := hl j hj1
    by_cases q : j = i
    · subst q
      simp only [CIl, va_up_self]
      refine ⟨⟨m0, ?_⟩, ⟨m1, ?_⟩, ⟨m2, ?_⟩, ⟨m3, ?_⟩, ⟨m4, ?_⟩⟩
      · rw [va_up_ne _ _ (fun q => by have q2 := (hj 0 4 j j (by decide) (by decide) hj1 hj1 q).1; cases q2)]
        rw [p0]; simp only [eLp, hx 0 (by decide), hx 1 (by decide), hx 2 (by decide), hx 3 (by decide), hx 4 (by decide), hx 5 (by decide), hx 6 (by decide), hx 7 (by decide), hx 8 (by decide), hz 0 (by decide), hz 1 (by decide)]
      · rw [va_up_ne _ _ (fun q => by have q2 := (hj 1 4 j j (by decide) (by decide) hj1 hj1 q).1; cases q2)]
        rw [p1]; rw [hx 9 (by decide), hx 10 (by decide)]
      · rw [va_up_ne _ _ (fun q => by have q2 := (hj 2 4 j j (by decide) (by decide) hj1 hj1 q).1; cases q2)]
        rw [p2]; rw [hx 11 (by decide), hx 12 (by decide)]
      · rw [va_up_ne _ _ (fun q => by have q2 := (hj 3 4 j j (by decide) (by decide) hj1 hj1 q).1; cases q2)]
        rw [p3]; rw [hx 13 (by decide), hx 14 (by decide)]
      · first | trivial | rfl
    · simp only [CIl, va_up_ne _ _ q]
      refine ⟨⟨m0, ?_⟩, ⟨m1, ?_⟩, ⟨m2, ?_⟩, ⟨m3, ?_⟩, ⟨m4, ?_⟩⟩
      · rw [va_up_ne _ _ (fun z => q (hj 0 4 j i (by decide) (by decide) hj1 hi z).2)]; exact p0
      · rw [va_up_ne _ _ (fun z => q (hj 1 4 j i (by decide) (by decide) hj1 hi z).2)]; exact p1
      · rw [va_up_ne _ _ (fun z => q (hj 2 4 j i (by decide) (by decide) hj1 hi z).2)]; exact p2
      · rw [va_up_ne _ _ (fun z => q (hj 3 4 j i (by decide) (by decide) hj1 hi z).2)]; exact p3
      · rw [va_up_ne _ _ (fun z => q (hj 4 4 j i (by decide) (by decide) hj1 hi z).2)]; exact p4
  · rw [va_up_ne _ _ (fun q => by have e1 := (hs j hj1).2.1; rw [q, e0] at e1; cases e1)]; exact (hs j hj1).2.1
  · exact ho
end
section
/-! the class's own methods over its world -/
theorem in16 {kx : Int32} (h1 : ¬ kx < 0) (h2 : kx < 16) : ∃ j : Nat, j < 16 ∧ kx = nI j := by
  obtain ⟨j, hj, rfl⟩ := nI_of h1
  exact ⟨j, (nI_ltI hj (by decide)).mp h2, rfl⟩
theorem nI_injL {i j : Nat} (hi : i < 16) (hj : j < 16) (h : nI i = nI j) : i = j := (nI_eq (by omega) (by omega)).mp h
theorem CI.loopX {G : GD} {c : Nat → Nat → Nat} {n k : Nat} {X : Nat → Nat → UInt64} {XS : Nat → UInt64} {Z : Nat → Nat → Int32} {OU : Nat → Option Nat} {SL : Nat → Nat} {L : List Nat} {f : Nat → va_E} (h : CI G c n k X XS Z OU SL L f) {i : Nat} (hi : i < n) (x : Nat → UInt64) (hx : ∀ j, 9 ≤ j → x j = X i j) : CI G c n k (va_up X i x) XS Z OU SL L (va_up f (c 0 i) (eLp x (Z i 0) (Z i 1) (c 1 i) (c 2 i) (c 3 i) (c 4 i) ((OU i).map (c 0)))) := by
  have h2 := CI.loop h hi x (Z i) (OU i) hx (fun _ _ => rfl) (fun o ho => h.2.2.2.2.2.2.2.1 i o hi ho)
  rwa [va_up_id rfl, va_up_id rfl] at h2
def limC (lo hi rt : DT) : Bool := (ordS lo hi 10000 && !qeq lo hi) && (!qle rt (dv 0) && inB rt (dv 0) (dv 4666723172467343360))
def safC (v : DT) : Bool := inB v (dv 13890095209322119168) (dv 4666723172467343360)
set_option maxHeartbeats 4000000 in
set_option maxRecDepth 100000 in
/-- findLoop(number) -/
theorem ct_X4_findLoop (l : Launch) (G : GD) (L : List Nat) (f : Nat → va_E) {c : Nat → Nat → Nat} {n k : Nat} {X : Nat → Nat → UInt64} {XS : Nat → UInt64} {Z : Nat → Nat → Int32} {OU : Nat → Option Nat} {SL : Nat → Nat} (hI : CI G c n k X XS Z OU SL L f) (kx : Int32) : Ctr l yX4_findLoop cX4_findLoop 2 (some (.object "LoopLaws$Loop")) R00 G [.ref (c 6 0), .int kx] L f (fun vv L1 f1 => L = L1 ∧ f = f1 ∧ ((vv = some .null ∧ ∀ i, i < n → ¬ kx = nI i) ∨ ∃ i, i < n ∧ kx = nI i ∧ vv = some (.ref (c 0 i)))) := by
  refine g_enter RX4 false (by decide) rfl (fun h => by cases h) (Nat.le_of_ble_eq_true rfl) (fun C hC => ?_)
  refine (show V C 2 L f 0 0 0 [(0, .ref (c 6 0)), (1, .int kx)] [] from ?_)
  refine g_iload_n hC dX4_findLoop_0 1 rfl ?_
  refine g_if_lt hC 13 dX4_findLoop_1 (by decide) (fun c1 => ?_) (fun c1 => ?_)
  · skip
    refine g_null hC dX4_findLoop_13 ?_
    refine g_goto hC 23 dX4_findLoop_14 (by decide) ?_
    exact g_aret hC (x := none) dX4_findLoop_23 rfl ⟨rfl, rfl, Or.inl ⟨rfl, fun i hi q => by rw [q] at c1; exact absurd c1 (nI_pos (by have := CI.n16 hI; omega))⟩⟩ (Nat.zero_le _) (Nat.zero_le _)
  · skip
    refine g_iload_n hC dX4_findLoop_4 1 rfl ?_
    refine g_aload_n hC dX4_findLoop_5 0 rfl ?_
    refine g_get hC (kf := 0) (TT := TX4) (N := 4) (Cn := RX4) dX4_findLoop_6 (CI.hm hI) (CI.h0 hI) rfl q_u4 (by decide) q_fl_X4_11 rfl rfl ?_
    refine g_alen hC 3 16 dX4_findLoop_9 (CI.lm hI) (CI.l0 hI) rfl (by decide) ?_
    refine g_icmp_lt hC 17 dX4_findLoop_10 (by decide) (fun c2 => ?_) (fun c2 => ?_)
    · skip
      refine g_aload_n hC dX4_findLoop_17 0 rfl ?_
      refine g_get hC (kf := 0) (TT := TX4) (N := 4) (Cn := RX4) dX4_findLoop_18 (CI.hm hI) (CI.h0 hI) rfl q_u4 (by decide) q_fl_X4_11 rfl rfl ?_
      refine g_iload_n hC dX4_findLoop_21 1 rfl ?_
      obtain ⟨j, hj, rfl⟩ := in16 c1 c2
      refine g_laload hC dX4_findLoop_22 (CI.lm hI) (CI.l0 hI) (vp_in_nI hj (by decide)) ?_
      rw [nI_clamp (by omega)]
      refine g_aret hC (x := rowN n (c 0) j) dX4_findLoop_23 rfl ⟨rfl, rfl, ?_⟩ (Nat.zero_le _) (Nat.zero_le _)
      by_cases q : j < n
      · exact Or.inr ⟨j, q, rfl, by simp only [rowN, if_pos q]; rfl⟩
      · refine Or.inl ⟨by simp only [rowN, if_neg q]; rfl, fun i hi q2 => q ?_⟩
        have := CI.n16 hI
        rw [nI_injL hj (by omega) q2]; exact hi
    · skip
      refine g_null hC dX4_findLoop_13 ?_
      refine g_goto hC 23 dX4_findLoop_14 (by decide) ?_
      exact g_aret hC (x := none) dX4_findLoop_23 rfl ⟨rfl, rfl, Or.inl ⟨rfl, fun i hi q => by rw [q] at c2; exact c2 (show nI i < nI 16 from (nI_ltI (by have := CI.n16 hI; omega) (by decide)).mpr (by have := CI.n16 hI; omega))⟩⟩ (Nat.zero_le _) (Nat.zero_le _)
set_option maxHeartbeats 4000000 in
set_option maxRecDepth 100000 in
/-- findSplit(number) -/
theorem ct_X4_findSplit (l : Launch) (G : GD) (L : List Nat) (f : Nat → va_E) {c : Nat → Nat → Nat} {n k : Nat} {X : Nat → Nat → UInt64} {XS : Nat → UInt64} {Z : Nat → Nat → Int32} {OU : Nat → Option Nat} {SL : Nat → Nat} (hI : CI G c n k X XS Z OU SL L f) (kx : Int32) : Ctr l yX4_findSplit cX4_findSplit 2 (some (.object "LoopLaws$Split")) R00 G [.ref (c 6 0), .int kx] L f (fun vv L1 f1 => L = L1 ∧ f = f1 ∧ ((vv = some .null ∧ ∀ i, i < k → ¬ kx = nI i) ∨ ∃ i, i < k ∧ kx = nI i ∧ vv = some (.ref (c 5 i)))) := by
  refine g_enter RX4 false (by decide) rfl (fun h => by cases h) (Nat.le_of_ble_eq_true rfl) (fun C hC => ?_)
  refine (show V C 2 L f 0 0 0 [(0, .ref (c 6 0)), (1, .int kx)] [] from ?_)
  refine g_iload_n hC dX4_findSplit_0 1 rfl ?_
  refine g_if_lt hC 13 dX4_findSplit_1 (by decide) (fun c1 => ?_) (fun c1 => ?_)
  · skip
    refine g_null hC dX4_findSplit_13 ?_
    refine g_goto hC 23 dX4_findSplit_14 (by decide) ?_
    exact g_aret hC (x := none) dX4_findSplit_23 rfl ⟨rfl, rfl, Or.inl ⟨rfl, fun i hi q => by rw [q] at c1; exact absurd c1 (nI_pos (by have := CI.k16 hI; omega))⟩⟩ (Nat.zero_le _) (Nat.zero_le _)
  · skip
    refine g_iload_n hC dX4_findSplit_4 1 rfl ?_
    refine g_aload_n hC dX4_findSplit_5 0 rfl ?_
    refine g_get hC (kf := 1) (TT := TX4) (N := 4) (Cn := RX4) dX4_findSplit_6 (CI.hm hI) (CI.h0 hI) rfl q_u4 (by decide) q_fl_X4_17 rfl rfl ?_
    refine g_alen hC 4 16 dX4_findSplit_9 (CI.sm hI) (CI.s0 hI) rfl (by decide) ?_
    refine g_icmp_lt hC 17 dX4_findSplit_10 (by decide) (fun c2 => ?_) (fun c2 => ?_)
    · skip
      refine g_aload_n hC dX4_findSplit_17 0 rfl ?_
      refine g_get hC (kf := 1) (TT := TX4) (N := 4) (Cn := RX4) dX4_findSplit_18 (CI.hm hI) (CI.h0 hI) rfl q_u4 (by decide) q_fl_X4_17 rfl rfl ?_
      refine g_iload_n hC dX4_findSplit_21 1 rfl ?_
      obtain ⟨j, hj, rfl⟩ := in16 c1 c2
      refine g_paload hC dX4_findSplit_22 (CI.sm hI) (CI.s0 hI) (vp_in_nI hj (by decide)) ?_
      rw [nI_clamp (by omega)]
      refine g_aret hC (x := rowN k (c 5) j) dX4_findSplit_23 rfl ⟨rfl, rfl, ?_⟩ (Nat.zero_le _) (Nat.zero_le _)
      by_cases q : j < k
      · exact Or.inr ⟨j, q, rfl, by simp only [rowN, if_pos q]; rfl⟩
      · refine Or.inl ⟨by simp only [rowN, if_neg q]; rfl, fun i hi q2 => q ?_⟩
        have := CI.k16 hI
        rw [nI_injL hj (by omega) q2]; exact hi
    · skip
      refine g_null hC dX4_findSplit_13 ?_
      refine g_goto hC 23 dX4_findSplit_14 (by decide) ?_
      exact g_aret hC (x := none) dX4_findSplit_23 rfl ⟨rfl, rfl, Or.inl ⟨rfl, fun i hi q => by rw [q] at c2; exact c2 (show nI i < nI 16 from (nI_ltI (by have := CI.k16 hI; omega) (by decide)).mpr (by have := CI.k16 hI; omega))⟩⟩ (Nat.zero_le _) (Nat.zero_le _)
end
section
section G17
variable {C : CX} {cc : ByteArray} {nL : Nat} {own : String} {ini : Bool} {R0 : Room} {G0 : GD} {l0 : Launch} {ret : Option FieldType} {post : PO} {L : List Nat} {f : Nat → va_E} {k n pc : Nat} {lv : List (Nat × Value)} {st : List Value}
theorem g_aload_nN (hC : CxOk C cc nL own ini R0 G0 l0 ret post) {kx : Fin 4} (hdg : decode cc pc = .ok (.aload_n kx, 1)) (j : Nat) (hj : lv[j]? = some ((kx : Nat), .null)) (kk : V C nL L f k n (pc + 1) lv (.null :: st)) : V C nL L f k n pc lv st := by
  obtain ⟨p, l, e, R, s, m, args, below, meth, c, G, A, H0, Q⟩ := C
  obtain ⟨hx, hb, hml, hown, hts, hK, hN, hA, rfl, rfl, rfl, hin, hexit⟩ := hC
  intro H locs d ls hd hP hD hS hl
  exact lv_aload_nN hx hb hdg rfl (lv_at hl j hj) (kk H locs d ls hd hP hD hS hl)
theorem g_aloadN (hC : CxOk C cc nL own ini R0 G0 l0 ret post) {i : Nat} (hdg : decode cc pc = .ok (.aload i, 2)) (j : Nat) (hj : lv[j]? = some (i, .null)) (kk : V C nL L f k n (pc + 2) lv (.null :: st)) : V C nL L f k n pc lv st := by
  obtain ⟨p, l, e, R, s, m, args, below, meth, c, G, A, H0, Q⟩ := C
  obtain ⟨hx, hb, hml, hown, hts, hK, hN, hA, rfl, rfl, rfl, hin, hexit⟩ := hC
  intro H locs d ls hd hP hD hS hl
  exact lv_aloadN hx hb hdg (lv_at hl j hj) (kk H locs d ls hd hP hD hS hl)
theorem g_astore_nN (hC : CxOk C cc nL own ini R0 G0 l0 ret post) {kx : Fin 4} {lv1 : List (Nat × Value)} (hdg : decode cc pc = .ok (.astore_n kx, 1)) (hn : (kx : Nat) < nL) (hl1 : ((kx : Nat), Value.null) :: lv.filter (fun q => !(q.1 == (kx : Nat)) && !(q.1 + 1 == (kx : Nat) && q.2.category == 2)) = lv1) (kk : V C nL L f k n (pc + 1) lv1 st) : V C nL L f k n pc lv (.null :: st) := by
  obtain ⟨p, l, e, R, s, m, args, below, meth, c, G, A, H0, Q⟩ := C
  obtain ⟨hx, hb, hml, hown, hts, hK, hN, hA, rfl, rfl, rfl, hin, hexit⟩ := hC
  intro H locs d ls hd hP hD hS hl
  exact lv_astore_nN hx hb hdg rfl hl hn hl1 (fun ls1 hl2 => kk H locs d ls1 hd hP hD hS hl2)
theorem g_astoreN (hC : CxOk C cc nL own ini R0 G0 l0 ret post) {i : Nat} {lv1 : List (Nat × Value)} (hdg : decode cc pc = .ok (.astore i, 2)) (hn : i < nL) (hl1 : (i, Value.null) :: lv.filter (fun q => !(q.1 == i) && !(q.1 + 1 == i && q.2.category == 2)) = lv1) (kk : V C nL L f k n (pc + 2) lv1 st) : V C nL L f k n pc lv (.null :: st) := by
  obtain ⟨p, l, e, R, s, m, args, below, meth, c, G, A, H0, Q⟩ := C
  obtain ⟨hx, hb, hml, hown, hts, hK, hN, hA, rfl, rfl, rfl, hin, hexit⟩ := hC
  intro H locs d ls hd hP hD hS hl
  exact lv_astoreN hx hb hdg hl hn hl1 (fun ls1 hl2 => kk H locs d ls1 hd hP hD hS hl2)
end G17
set_option maxHeartbeats 4000000 in
set_option maxRecDepth 100000 in
/-- safe(loop, v) -/
theorem ct_X4_safe (l : Launch) (G : GD) (L : List Nat) (f : Nat → va_E) {c : Nat → Nat → Nat} {n k : Nat} {X : Nat → Nat → UInt64} {XS : Nat → UInt64} {Z : Nat → Nat → Int32} {OU : Nat → Option Nat} {SL : Nat → Nat} (hI : CI G c n k X XS Z OU SL L f) (kx : Int32) (v : UInt64) : Ctr l yX4_safe cX4_safe 5 (some .boolean) { frames := 1, cells := 0, slots := 0, locals := 30 } G [.ref (c 6 0), .int kx, .double v] L f (fun vv L1 f1 => L = L1 ∧ (((∀ i, i < n → kx = nI i → safC (dv v) = false) ∧ vv = some (.int 0) ∧ f = f1) ∨ (∃ i, i < n ∧ kx = nI i ∧ safC (dv v) = true ∧ vv = some (.int 1) ∧ FRc L f f1 ∧ CI G c n k (va_up X i (va_up (X i) 4 v)) XS Z OU SL L f1))) := by
  refine g_enter RX4 false (by decide) rfl (fun h => by cases h) (Nat.le_of_ble_eq_true rfl) (fun C hC => ?_)
  refine (show V C 5 L f 0 0 0 [(0, .ref (c 6 0)), (1, .int kx), (2, .double v)] [] from ?_)
  refine g_aload_n hC dX4_safe_0 0 rfl ?_
  refine g_iload_n hC dX4_safe_1 1 rfl ?_
  refine g_callV hC (Cn := RX4) (TT := TX4) (N := 4) dX4_safe_2 (ct_X4_findLoop l G L f hI kx) q_code_X4_findLoop q_ml_X4_32 q_im_X4_findLoop q_sel_X4_findLoop q_init_X4 ⟨rfl, by decide, by decide, (show (parseMethodDescriptor yX4_findLoop.desc).map (fun d => d.parameters.length) = some 1 from by decide +kernel)⟩ (CI.hm hI) (CI.h0 hI) rfl (by decide) (by decide) (Nat.le_of_ble_eq_true rfl) (fun v2 L3 f4 hp1 => ?_)
  obtain ⟨rfl, rfl, ⟨rfl, hno_i⟩ | ⟨i, hi, rfl, rfl⟩⟩ := hp1
  · refine (show V C 5 L f 0 0 5 [(0, .ref (c 6 0)), (1, .int kx), (2, .double v)] [.null] from ?_)
    refine g_astoreN hC (lv1 := [(4, .null), (0, .ref (c 6 0)), (1, .int kx), (2, .double v)]) dX4_safe_5 (by decide) rfl ?_
    refine g_aloadN hC dX4_safe_7 0 rfl ?_
    refine g_ifnullN hC 25 dX4_safe_9 (by decide) ?_
    refine g_iconst hC 0 dX4_safe_25 (by decide) ?_
    exact g_iret hC dX4_safe_26 rfl rfl ⟨rfl, Or.inl ⟨fun j hj q => absurd q (hno_i j hj), rfl, rfl⟩⟩ (Nat.zero_le _) (Nat.zero_le _)
  · refine (show V C 5 L f 0 0 5 [(0, .ref (c 6 0)), (1, .int (nI i)), (2, .double v)] [.ref (c 0 i)] from ?_)
    refine g_astore hC (lv1 := [(4, .ref (c 0 i)), (0, .ref (c 6 0)), (1, .int (nI i)), (2, .double v)]) dX4_safe_5 (by decide) rfl ?_
    refine g_aload hC dX4_safe_7 0 rfl ?_
    refine g_ifnull hC dX4_safe_9 ?_
    refine g_dload_n hC dX4_safe_12 3 rfl ?_
    refine g_ldc2 hC dX4_safe_13 q_cd_X4_60 ?_
    refine g_ldc2 hC dX4_safe_16 q_cd_X4_40 ?_
    refine g_callS hC dX4_safe_19 (ct_X4_isWithin l G L f v 13890095209322119168 4666723172467343360) q_code_X4_isWithin q_ml_X4_42 q_st_X4_isWithin q_init_X4 ⟨by decide, by decide, (show (parseMethodDescriptor yX4_isWithin.desc).map (fun d => d.parameters.length) = some 3 from by decide +kernel)⟩ (by decide) (by decide) (Nat.le_of_ble_eq_true rfl) (fun v6 L7 f8 hp5 => ?_)
    obtain ⟨rfl, rfl, rfl⟩ := hp5
    refine (show V C 5 L f 0 0 22 [(4, .ref (c 0 i)), (0, .ref (c 6 0)), (1, .int (nI i)), (2, .double v)] [.int (bI (inB (dv v) (dv 13890095209322119168) (dv 4666723172467343360)))] from ?_)
    refine g_ifB_ne hC 27 dX4_safe_22 (by decide) (fun c9 => ?_) (fun c9 => ?_)
    · skip
      refine g_aload hC dX4_safe_27 0 rfl ?_
      refine g_dload_n hC dX4_safe_29 3 rfl ?_
      refine g_putN hC (kf := 8) (TT := TX0) (N := 16) (Cn := RX0) (ty0 := tyX0) (fs1 := [.double ((X i) 0), .double ((X i) 1), .double ((X i) 2), .ref (c 1 i), .ref (c 2 i), .ref (c 3 i), .ref (c 4 i), .double ((X i) 3), .double v, .double ((X i) 5), .double ((X i) 6), .double ((X i) 7), .double ((X i) 8), .int (Z i 0), .int (Z i 1), va_rf ((OU i).map (c 0))]) dX4_safe_30 (CI.lp hI hi).1.1 (CI.lp hI hi).1.2 rfl q_u0 (by decide) tyX0_ok nmX0 q_fn_X4_62 rfl rfl rfl rfl rfl (Nat.le_of_ble_eq_true rfl) rfl ?_
      refine g_nm (fun f10 hf11 => ?_)
      have hx12 : f10 (c 0 i) = .inr (0, [.double ((X i) 0), .double ((X i) 1), .double ((X i) 2), .ref (c 1 i), .ref (c 2 i), .ref (c 3 i), .ref (c 4 i), .double ((X i) 3), .double v, .double ((X i) 5), .double ((X i) 6), .double ((X i) 7), .double ((X i) 8), .int (Z i 0), .int (Z i 1), va_rf ((OU i).map (c 0))]) := by rw [hf11]; exact va_up_self _ _ _
      have hF13 : f10 = va_up f (c 0 i) (.inr (0, [.double ((X i) 0), .double ((X i) 1), .double ((X i) 2), .ref (c 1 i), .ref (c 2 i), .ref (c 3 i), .ref (c 4 i), .double ((X i) 3), .double v, .double ((X i) 5), .double ((X i) 6), .double ((X i) 7), .double ((X i) 8), .int (Z i 0), .int (Z i 1), va_rf ((OU i).map (c 0))])) := hf11
      refine g_iconst hC 1 dX4_safe_33 (by decide) ?_
      refine g_iret hC dX4_safe_34 rfl rfl ⟨rfl, Or.inr ⟨i, hi, rfl, by simp only [safC, Bool.and_true, Bool.true_and, Bool.and_false, Bool.false_and, Bool.not_true, Bool.not_false, c9], rfl, ?_, ?_⟩⟩ (Nat.zero_le _) (Nat.zero_le _)
      · exact (by rw [hf11]; exact FRc.up _ FRc.rf (CI.lp hI hi).1.2 rfl)
      · rw [hF13]; exact CI.loopX hI hi (va_up (X i) 4 v) (fun j hj => va_up_ne _ _ (by omega))
    · skip
      refine g_iconst hC 0 dX4_safe_25 (by decide) ?_
      exact g_iret hC dX4_safe_26 rfl rfl ⟨rfl, Or.inl ⟨fun _ _ _ => by simp only [safC, Bool.and_true, Bool.true_and, Bool.and_false, Bool.false_and, Bool.not_true, Bool.not_false, c9], rfl, rfl⟩⟩ (Nat.zero_le _) (Nat.zero_le _)
set_option maxHeartbeats 4000000 in
set_option maxRecDepth 100000 in
/-- limits(loop, low, high, rate) -/
theorem ct_X4_limits (l : Launch) (G : GD) (L : List Nat) (f : Nat → va_E) {c : Nat → Nat → Nat} {n k : Nat} {X : Nat → Nat → UInt64} {XS : Nat → UInt64} {Z : Nat → Nat → Int32} {OU : Nat → Option Nat} {SL : Nat → Nat} (hI : CI G c n k X XS Z OU SL L f) (kx : Int32) (lo hi0 rt : UInt64) : Ctr l yX4_limits cX4_limits 9 (some .boolean) { frames := 1, cells := 0, slots := 0, locals := 30 } G [.ref (c 6 0), .int kx, .double lo, .double hi0, .double rt] L f (fun vv L1 f1 => L = L1 ∧ (((∀ i, i < n → kx = nI i → limC (dv lo) (dv hi0) (dv rt) = false) ∧ vv = some (.int 0) ∧ f = f1) ∨ (∃ i, i < n ∧ kx = nI i ∧ limC (dv lo) (dv hi0) (dv rt) = true ∧ vv = some (.int 1) ∧ FRc L f f1 ∧ CI G c n k (va_up X i (va_up (va_up (va_up (X i) 9 lo) 10 hi0) 3 rt)) XS Z OU SL L f1))) := by
  refine g_enter RX4 false (by decide) rfl (fun h => by cases h) (Nat.le_of_ble_eq_true rfl) (fun C hC => ?_)
  refine (show V C 9 L f 0 0 0 [(0, .ref (c 6 0)), (1, .int kx), (2, .double lo), (4, .double hi0), (6, .double rt)] [] from ?_)
  refine g_aload_n hC dX4_limits_0 0 rfl ?_
  refine g_iload_n hC dX4_limits_1 1 rfl ?_
  refine g_callV hC (Cn := RX4) (TT := TX4) (N := 4) dX4_limits_2 (ct_X4_findLoop l G L f hI kx) q_code_X4_findLoop q_ml_X4_32 q_im_X4_findLoop q_sel_X4_findLoop q_init_X4 ⟨rfl, by decide, by decide, (show (parseMethodDescriptor yX4_findLoop.desc).map (fun d => d.parameters.length) = some 1 from by decide +kernel)⟩ (CI.hm hI) (CI.h0 hI) rfl (by decide) (by decide) (Nat.le_of_ble_eq_true rfl) (fun v2 L3 f4 hp1 => ?_)
  obtain ⟨rfl, rfl, ⟨rfl, hno_i⟩ | ⟨i, hi, rfl, rfl⟩⟩ := hp1
  · refine (show V C 9 L f 0 0 5 [(0, .ref (c 6 0)), (1, .int kx), (2, .double lo), (4, .double hi0), (6, .double rt)] [.null] from ?_)
    refine g_astoreN hC (lv1 := [(8, .null), (0, .ref (c 6 0)), (1, .int kx), (2, .double lo), (4, .double hi0), (6, .double rt)]) dX4_limits_5 (by decide) rfl ?_
    refine g_aloadN hC dX4_limits_7 0 rfl ?_
    refine g_ifnullN hC 31 dX4_limits_9 (by decide) ?_
    refine g_iconst hC 0 dX4_limits_31 (by decide) ?_
    exact g_iret hC dX4_limits_32 rfl rfl ⟨rfl, Or.inl ⟨fun j hj q => absurd q (hno_i j hj), rfl, rfl⟩⟩ (Nat.zero_le _) (Nat.zero_le _)
  · refine (show V C 9 L f 0 0 5 [(0, .ref (c 6 0)), (1, .int (nI i)), (2, .double lo), (4, .double hi0), (6, .double rt)] [.ref (c 0 i)] from ?_)
    refine g_astore hC (lv1 := [(8, .ref (c 0 i)), (0, .ref (c 6 0)), (1, .int (nI i)), (2, .double lo), (4, .double hi0), (6, .double rt)]) dX4_limits_5 (by decide) rfl ?_
    refine g_aload hC dX4_limits_7 0 rfl ?_
    refine g_ifnull hC dX4_limits_9 ?_
    refine g_dload_n hC dX4_limits_12 3 rfl ?_
    refine g_dload hC dX4_limits_13 4 rfl ?_
    refine g_sipush hC 10000 dX4_limits_15 (by decide) ?_
    refine g_callS hC dX4_limits_18 (ct_X4_isOrdered l G L f lo hi0 10000) q_code_X4_isOrdered q_ml_X4_36 q_st_X4_isOrdered q_init_X4 ⟨by decide, by decide, (show (parseMethodDescriptor yX4_isOrdered.desc).map (fun d => d.parameters.length) = some 3 from by decide +kernel)⟩ (by decide) (by decide) (Nat.le_of_ble_eq_true rfl) (fun v6 L7 f8 hp5 => ?_)
    obtain ⟨rfl, rfl, rfl⟩ := hp5
    refine (show V C 9 L f 0 0 21 [(8, .ref (c 0 i)), (0, .ref (c 6 0)), (1, .int (nI i)), (2, .double lo), (4, .double hi0), (6, .double rt)] [.int (bI (ordS (dv lo) (dv hi0) 10000))] from ?_)
    refine g_ifB_eq hC 31 dX4_limits_21 (by decide) (fun c9 => ?_) (fun c9 => ?_)
    · skip
      refine g_iconst hC 0 dX4_limits_31 (by decide) ?_
      exact g_iret hC dX4_limits_32 rfl rfl ⟨rfl, Or.inl ⟨fun _ _ _ => by simp only [limC, Bool.and_true, Bool.true_and, Bool.and_false, Bool.false_and, Bool.not_true, Bool.not_false, c9], rfl, rfl⟩⟩ (Nat.zero_le _) (Nat.zero_le _)
    · skip
      refine g_dload_n hC dX4_limits_24 3 rfl ?_
      refine g_dload hC dX4_limits_25 4 rfl ?_
      refine g_dcmpl_ne hC 33 dX4_limits_27 dX4_limits_28 (by decide) (fun c10 => ?_) (fun c10 => ?_)
      · skip
        refine g_dload hC dX4_limits_33 5 rfl ?_
        refine g_dconst0 hC dX4_limits_35 ?_
        refine g_dcmpg_le hC 52 dX4_limits_36 dX4_limits_37 (by decide) (fun c11 => ?_) (fun c11 => ?_)
        · skip
          refine g_iconst hC 0 dX4_limits_52 (by decide) ?_
          exact g_iret hC dX4_limits_53 rfl rfl ⟨rfl, Or.inl ⟨fun _ _ _ => by simp only [limC, Bool.and_true, Bool.true_and, Bool.and_false, Bool.false_and, Bool.not_true, Bool.not_false, c9, c10, c11], rfl, rfl⟩⟩ (Nat.zero_le _) (Nat.zero_le _)
        · skip
          refine g_dload hC dX4_limits_40 5 rfl ?_
          refine g_dconst0 hC dX4_limits_42 ?_
          refine g_ldc2 hC dX4_limits_43 q_cd_X4_40 ?_
          refine g_callS hC dX4_limits_46 (ct_X4_isWithin l G L f rt 0 4666723172467343360) q_code_X4_isWithin q_ml_X4_42 q_st_X4_isWithin q_init_X4 ⟨by decide, by decide, (show (parseMethodDescriptor yX4_isWithin.desc).map (fun d => d.parameters.length) = some 3 from by decide +kernel)⟩ (by decide) (by decide) (Nat.le_of_ble_eq_true rfl) (fun v13 L14 f15 hp12 => ?_)
          obtain ⟨rfl, rfl, rfl⟩ := hp12
          refine (show V C 9 L f 0 0 49 [(8, .ref (c 0 i)), (0, .ref (c 6 0)), (1, .int (nI i)), (2, .double lo), (4, .double hi0), (6, .double rt)] [.int (bI (inB (dv rt) (dv 0) (dv 4666723172467343360)))] from ?_)
          refine g_ifB_ne hC 54 dX4_limits_49 (by decide) (fun c16 => ?_) (fun c16 => ?_)
          · skip
            refine g_aload hC dX4_limits_54 0 rfl ?_
            refine g_getN hC (kf := 3) (TT := TX0) (N := 16) (Cn := RX0) dX4_limits_56 (CI.lp hI hi).1.1 (CI.lp hI hi).1.2 rfl q_u0 (by decide) q_fn_X4_46 rfl rfl ?_
            refine g_dload_n hC dX4_limits_59 3 rfl ?_
            refine g_dload hC dX4_limits_60 4 rfl ?_
            refine g_callV hC (Cn := RX1) (TT := TX1) (N := 2) dX4_limits_62 (ct_X1_set l G L f (c 1 i) (X i 9) (X i 10) lo hi0 (CI.lp hI hi).2.1.1 (CI.lp hI hi).2.1.2) q_code_X1_set q_ml_X4_50 q_im_X1_set q_sel_X1_set q_init_X1 ⟨rfl, by decide, by decide, (show (parseMethodDescriptor yX1_set.desc).map (fun d => d.parameters.length) = some 2 from by decide +kernel)⟩ (CI.lp hI hi).2.1.1 (CI.lp hI hi).2.1.2 rfl (by decide) (by decide) (Nat.le_of_ble_eq_true rfl) (fun v18 L19 f20 hp17 => ?_)
            obtain ⟨rfl, rfl, hf21⟩ := hp17
            have hz22 : f20 (c 0 i) = .inr (0, [.double ((X i) 0), .double ((X i) 1), .double ((X i) 2), .ref (c 1 i), .ref (c 2 i), .ref (c 3 i), .ref (c 4 i), .double ((X i) 3), .double ((X i) 4), .double ((X i) 5), .double ((X i) 6), .double ((X i) 7), .double ((X i) 8), .int (Z i 0), .int (Z i 1), va_rf ((OU i).map (c 0))]) := by rw [hf21, va_up_ne _ _ (fun z => by have z1 := (CI.lp hI hi).1.2; rw [z, (CI.lp hI hi).2.1.2] at z1; cases z1)]; exact (CI.lp hI hi).1.2
            refine (show V C 9 L f20 0 0 65 [(8, .ref (c 0 i)), (0, .ref (c 6 0)), (1, .int (nI i)), (2, .double lo), (4, .double hi0), (6, .double rt)] [] from ?_)
            refine g_aload hC dX4_limits_65 0 rfl ?_
            refine g_dload hC dX4_limits_67 5 rfl ?_
            refine g_putN hC (kf := 7) (TT := TX0) (N := 16) (Cn := RX0) (ty0 := tyX0) (fs1 := [.double ((X i) 0), .double ((X i) 1), .double ((X i) 2), .ref (c 1 i), .ref (c 2 i), .ref (c 3 i), .ref (c 4 i), .double rt, .double ((X i) 4), .double ((X i) 5), .double ((X i) 6), .double ((X i) 7), .double ((X i) 8), .int (Z i 0), .int (Z i 1), va_rf ((OU i).map (c 0))]) dX4_limits_69 (CI.lp hI hi).1.1 hz22 rfl q_u0 (by decide) tyX0_ok nmX0 q_fn_X4_56 rfl rfl rfl rfl rfl (Nat.le_of_ble_eq_true rfl) rfl ?_
            refine g_nm (fun f23 hf24 => ?_)
            have hx25 : f23 (c 0 i) = .inr (0, [.double ((X i) 0), .double ((X i) 1), .double ((X i) 2), .ref (c 1 i), .ref (c 2 i), .ref (c 3 i), .ref (c 4 i), .double rt, .double ((X i) 4), .double ((X i) 5), .double ((X i) 6), .double ((X i) 7), .double ((X i) 8), .int (Z i 0), .int (Z i 1), va_rf ((OU i).map (c 0))]) := by rw [hf24]; exact va_up_self _ _ _
            have hF26 : f23 = va_up (va_up f (c 1 i) (.inr (1, [.double lo, .double hi0]))) (c 0 i) (.inr (0, [.double ((X i) 0), .double ((X i) 1), .double ((X i) 2), .ref (c 1 i), .ref (c 2 i), .ref (c 3 i), .ref (c 4 i), .double rt, .double ((X i) 4), .double ((X i) 5), .double ((X i) 6), .double ((X i) 7), .double ((X i) 8), .int (Z i 0), .int (Z i 1), va_rf ((OU i).map (c 0))])) := by rw [hf24, hf21]
            refine g_iconst hC 1 dX4_limits_72 (by decide) ?_
            refine g_iret hC dX4_limits_73 rfl rfl ⟨rfl, Or.inr ⟨i, hi, rfl, by simp only [limC, Bool.and_true, Bool.true_and, Bool.and_false, Bool.false_and, Bool.not_true, Bool.not_false, c9, c10, c11, c16], rfl, ?_, ?_⟩⟩ (Nat.zero_le _) (Nat.zero_le _)
            · exact (by rw [hf24]; exact FRc.up _ (by rw [hf21]; exact FRc.up _ FRc.rf (CI.lp hI hi).2.1.2 rfl) hz22 rfl)
            · rw [hF26]; exact (by have h2 := CI.loopX (CI.limits hI hi (va_up (va_up (X i) 9 lo) 10 hi0) (fun j h1 h2 => by rw [va_up_ne _ _ h2, va_up_ne _ _ h1])) hi (va_up (va_up (va_up (X i) 9 lo) 10 hi0) 3 rt) (fun j hj => by rw [va_up_self, va_up_ne _ _ (by omega)]); rw [va_up_up] at h2; exact h2)
          · skip
            refine g_iconst hC 0 dX4_limits_52 (by decide) ?_
            exact g_iret hC dX4_limits_53 rfl rfl ⟨rfl, Or.inl ⟨fun _ _ _ => by simp only [limC, Bool.and_true, Bool.true_and, Bool.and_false, Bool.false_and, Bool.not_true, Bool.not_false, c9, c10, c11, c16], rfl, rfl⟩⟩ (Nat.zero_le _) (Nat.zero_le _)
      · skip
        refine g_iconst hC 0 dX4_limits_31 (by decide) ?_
        exact g_iret hC dX4_limits_32 rfl rfl ⟨rfl, Or.inl ⟨fun _ _ _ => by simp only [limC, Bool.and_true, Bool.true_and, Bool.and_false, Bool.false_and, Bool.not_true, Bool.not_false, c9, c10], rfl, rfl⟩⟩ (Nat.zero_le _) (Nat.zero_le _)
set_option maxHeartbeats 4000000 in
set_option maxRecDepth 100000 in
/-- band(loop, low, high) -/
theorem ct_X4_band (l : Launch) (G : GD) (L : List Nat) (f : Nat → va_E) {c : Nat → Nat → Nat} {n k : Nat} {X : Nat → Nat → UInt64} {XS : Nat → UInt64} {Z : Nat → Nat → Int32} {OU : Nat → Option Nat} {SL : Nat → Nat} (hI : CI G c n k X XS Z OU SL L f) (kx : Int32) (lo hi0 : UInt64) : Ctr l yX4_band cX4_band 7 (some .boolean) { frames := 1, cells := 0, slots := 0, locals := 30 } G [.ref (c 6 0), .int kx, .double lo, .double hi0] L f (fun vv L1 f1 => L = L1 ∧ (((∀ i, i < n → kx = nI i → ordS (dv lo) (dv hi0) 10000 = false) ∧ vv = some (.int 0) ∧ f = f1) ∨ (∃ i, i < n ∧ kx = nI i ∧ ordS (dv lo) (dv hi0) 10000 = true ∧ vv = some (.int 1) ∧ FRc L f f1 ∧ CI G c n k (va_up X i (va_up (va_up (X i) 11 lo) 12 hi0)) XS Z OU SL L f1))) := by
  refine g_enter RX4 false (by decide) rfl (fun h => by cases h) (Nat.le_of_ble_eq_true rfl) (fun C hC => ?_)
  refine (show V C 7 L f 0 0 0 [(0, .ref (c 6 0)), (1, .int kx), (2, .double lo), (4, .double hi0)] [] from ?_)
  refine g_aload_n hC dX4_band_0 0 rfl ?_
  refine g_iload_n hC dX4_band_1 1 rfl ?_
  refine g_callV hC (Cn := RX4) (TT := TX4) (N := 4) dX4_band_2 (ct_X4_findLoop l G L f hI kx) q_code_X4_findLoop q_ml_X4_32 q_im_X4_findLoop q_sel_X4_findLoop q_init_X4 ⟨rfl, by decide, by decide, (show (parseMethodDescriptor yX4_findLoop.desc).map (fun d => d.parameters.length) = some 1 from by decide +kernel)⟩ (CI.hm hI) (CI.h0 hI) rfl (by decide) (by decide) (Nat.le_of_ble_eq_true rfl) (fun v2 L3 f4 hp1 => ?_)
  obtain ⟨rfl, rfl, ⟨rfl, hno_i⟩ | ⟨i, hi, rfl, rfl⟩⟩ := hp1
  · refine (show V C 7 L f 0 0 5 [(0, .ref (c 6 0)), (1, .int kx), (2, .double lo), (4, .double hi0)] [.null] from ?_)
    refine g_astoreN hC (lv1 := [(6, .null), (0, .ref (c 6 0)), (1, .int kx), (2, .double lo), (4, .double hi0)]) dX4_band_5 (by decide) rfl ?_
    refine g_aloadN hC dX4_band_7 0 rfl ?_
    refine g_ifnullN hC 24 dX4_band_9 (by decide) ?_
    refine g_iconst hC 0 dX4_band_24 (by decide) ?_
    exact g_iret hC dX4_band_25 rfl rfl ⟨rfl, Or.inl ⟨fun j hj q => absurd q (hno_i j hj), rfl, rfl⟩⟩ (Nat.zero_le _) (Nat.zero_le _)
  · refine (show V C 7 L f 0 0 5 [(0, .ref (c 6 0)), (1, .int (nI i)), (2, .double lo), (4, .double hi0)] [.ref (c 0 i)] from ?_)
    refine g_astore hC (lv1 := [(6, .ref (c 0 i)), (0, .ref (c 6 0)), (1, .int (nI i)), (2, .double lo), (4, .double hi0)]) dX4_band_5 (by decide) rfl ?_
    refine g_aload hC dX4_band_7 0 rfl ?_
    refine g_ifnull hC dX4_band_9 ?_
    refine g_dload_n hC dX4_band_12 3 rfl ?_
    refine g_dload hC dX4_band_13 4 rfl ?_
    refine g_sipush hC 10000 dX4_band_15 (by decide) ?_
    refine g_callS hC dX4_band_18 (ct_X4_isOrdered l G L f lo hi0 10000) q_code_X4_isOrdered q_ml_X4_36 q_st_X4_isOrdered q_init_X4 ⟨by decide, by decide, (show (parseMethodDescriptor yX4_isOrdered.desc).map (fun d => d.parameters.length) = some 3 from by decide +kernel)⟩ (by decide) (by decide) (Nat.le_of_ble_eq_true rfl) (fun v6 L7 f8 hp5 => ?_)
    obtain ⟨rfl, rfl, rfl⟩ := hp5
    refine (show V C 7 L f 0 0 21 [(6, .ref (c 0 i)), (0, .ref (c 6 0)), (1, .int (nI i)), (2, .double lo), (4, .double hi0)] [.int (bI (ordS (dv lo) (dv hi0) 10000))] from ?_)
    refine g_ifB_ne hC 26 dX4_band_21 (by decide) (fun c9 => ?_) (fun c9 => ?_)
    · skip
      refine g_aload hC dX4_band_26 0 rfl ?_
      refine g_getN hC (kf := 4) (TT := TX0) (N := 16) (Cn := RX0) dX4_band_28 (CI.lp hI hi).1.1 (CI.lp hI hi).1.2 rfl q_u0 (by decide) q_fn_X4_114 rfl rfl ?_
      refine g_dload_n hC dX4_band_31 3 rfl ?_
      refine g_dload hC dX4_band_32 4 rfl ?_
      refine g_callV hC (Cn := RX1) (TT := TX1) (N := 2) dX4_band_34 (ct_X1_set l G L f (c 2 i) (X i 11) (X i 12) lo hi0 (CI.lp hI hi).2.2.1.1 (CI.lp hI hi).2.2.1.2) q_code_X1_set q_ml_X4_50 q_im_X1_set q_sel_X1_set q_init_X1 ⟨rfl, by decide, by decide, (show (parseMethodDescriptor yX1_set.desc).map (fun d => d.parameters.length) = some 2 from by decide +kernel)⟩ (CI.lp hI hi).2.2.1.1 (CI.lp hI hi).2.2.1.2 rfl (by decide) (by decide) (Nat.le_of_ble_eq_true rfl) (fun v11 L12 f13 hp10 => ?_)
      obtain ⟨rfl, rfl, hf14⟩ := hp10
      have hz15 : f13 (c 0 i) = .inr (0, [.double ((X i) 0), .double ((X i) 1), .double ((X i) 2), .ref (c 1 i), .ref (c 2 i), .ref (c 3 i), .ref (c 4 i), .double ((X i) 3), .double ((X i) 4), .double ((X i) 5), .double ((X i) 6), .double ((X i) 7), .double ((X i) 8), .int (Z i 0), .int (Z i 1), va_rf ((OU i).map (c 0))]) := by rw [hf14, va_up_ne _ _ (fun z => by have z1 := (CI.lp hI hi).1.2; rw [z, (CI.lp hI hi).2.2.1.2] at z1; cases z1)]; exact (CI.lp hI hi).1.2
      refine (show V C 7 L f13 0 0 37 [(6, .ref (c 0 i)), (0, .ref (c 6 0)), (1, .int (nI i)), (2, .double lo), (4, .double hi0)] [] from ?_)
      refine g_iconst hC 1 dX4_band_37 (by decide) ?_
      refine g_iret hC dX4_band_38 rfl rfl ⟨rfl, Or.inr ⟨i, hi, rfl, by simp only [Bool.and_true, Bool.and_true, Bool.true_and, Bool.and_false, Bool.false_and, Bool.not_true, Bool.not_false, c9], rfl, ?_, ?_⟩⟩ (Nat.zero_le _) (Nat.zero_le _)
      · exact (by rw [hf14]; exact FRc.up _ FRc.rf (CI.lp hI hi).2.2.1.2 rfl)
      · rw [hf14]; exact CI.band hI hi (va_up (va_up (X i) 11 lo) 12 hi0) (fun j h1 h2 => by rw [va_up_ne _ _ h2, va_up_ne _ _ h1])
    · skip
      refine g_iconst hC 0 dX4_band_24 (by decide) ?_
      exact g_iret hC dX4_band_25 rfl rfl ⟨rfl, Or.inl ⟨fun _ _ _ => by simp only [Bool.and_true, Bool.and_true, Bool.true_and, Bool.and_false, Bool.false_and, Bool.not_true, Bool.not_false, c9], rfl, rfl⟩⟩ (Nat.zero_le _) (Nat.zero_le _)
set_option maxHeartbeats 4000000 in
set_option maxRecDepth 100000 in
/-- range(loop, low, high) -/
theorem ct_X4_range (l : Launch) (G : GD) (L : List Nat) (f : Nat → va_E) {c : Nat → Nat → Nat} {n k : Nat} {X : Nat → Nat → UInt64} {XS : Nat → UInt64} {Z : Nat → Nat → Int32} {OU : Nat → Option Nat} {SL : Nat → Nat} (hI : CI G c n k X XS Z OU SL L f) (kx : Int32) (lo hi0 : UInt64) : Ctr l yX4_range cX4_range 7 (some .boolean) { frames := 1, cells := 0, slots := 0, locals := 30 } G [.ref (c 6 0), .int kx, .double lo, .double hi0] L f (fun vv L1 f1 => L = L1 ∧ (((∀ i, i < n → kx = nI i → ordS (dv lo) (dv hi0) 1000000 = false) ∧ vv = some (.int 0) ∧ f = f1) ∨ (∃ i, i < n ∧ kx = nI i ∧ ordS (dv lo) (dv hi0) 1000000 = true ∧ vv = some (.int 1) ∧ FRc L f f1 ∧ CI G c n k (va_up X i (va_up (va_up (X i) 13 lo) 14 hi0)) XS Z OU SL L f1))) := by
  refine g_enter RX4 false (by decide) rfl (fun h => by cases h) (Nat.le_of_ble_eq_true rfl) (fun C hC => ?_)
  refine (show V C 7 L f 0 0 0 [(0, .ref (c 6 0)), (1, .int kx), (2, .double lo), (4, .double hi0)] [] from ?_)
  refine g_aload_n hC dX4_range_0 0 rfl ?_
  refine g_iload_n hC dX4_range_1 1 rfl ?_
  refine g_callV hC (Cn := RX4) (TT := TX4) (N := 4) dX4_range_2 (ct_X4_findLoop l G L f hI kx) q_code_X4_findLoop q_ml_X4_32 q_im_X4_findLoop q_sel_X4_findLoop q_init_X4 ⟨rfl, by decide, by decide, (show (parseMethodDescriptor yX4_findLoop.desc).map (fun d => d.parameters.length) = some 1 from by decide +kernel)⟩ (CI.hm hI) (CI.h0 hI) rfl (by decide) (by decide) (Nat.le_of_ble_eq_true rfl) (fun v2 L3 f4 hp1 => ?_)
  obtain ⟨rfl, rfl, ⟨rfl, hno_i⟩ | ⟨i, hi, rfl, rfl⟩⟩ := hp1
  · refine (show V C 7 L f 0 0 5 [(0, .ref (c 6 0)), (1, .int kx), (2, .double lo), (4, .double hi0)] [.null] from ?_)
    refine g_astoreN hC (lv1 := [(6, .null), (0, .ref (c 6 0)), (1, .int kx), (2, .double lo), (4, .double hi0)]) dX4_range_5 (by decide) rfl ?_
    refine g_aloadN hC dX4_range_7 0 rfl ?_
    refine g_ifnullN hC 23 dX4_range_9 (by decide) ?_
    refine g_iconst hC 0 dX4_range_23 (by decide) ?_
    exact g_iret hC dX4_range_24 rfl rfl ⟨rfl, Or.inl ⟨fun j hj q => absurd q (hno_i j hj), rfl, rfl⟩⟩ (Nat.zero_le _) (Nat.zero_le _)
  · refine (show V C 7 L f 0 0 5 [(0, .ref (c 6 0)), (1, .int (nI i)), (2, .double lo), (4, .double hi0)] [.ref (c 0 i)] from ?_)
    refine g_astore hC (lv1 := [(6, .ref (c 0 i)), (0, .ref (c 6 0)), (1, .int (nI i)), (2, .double lo), (4, .double hi0)]) dX4_range_5 (by decide) rfl ?_
    refine g_aload hC dX4_range_7 0 rfl ?_
    refine g_ifnull hC dX4_range_9 ?_
    refine g_dload_n hC dX4_range_12 3 rfl ?_
    refine g_dload hC dX4_range_13 4 rfl ?_
    refine g_ldc hC dX4_range_15 q_ci_X4_133 ?_
    refine g_callS hC dX4_range_17 (ct_X4_isOrdered l G L f lo hi0 1000000) q_code_X4_isOrdered q_ml_X4_36 q_st_X4_isOrdered q_init_X4 ⟨by decide, by decide, (show (parseMethodDescriptor yX4_isOrdered.desc).map (fun d => d.parameters.length) = some 3 from by decide +kernel)⟩ (by decide) (by decide) (Nat.le_of_ble_eq_true rfl) (fun v6 L7 f8 hp5 => ?_)
    obtain ⟨rfl, rfl, rfl⟩ := hp5
    refine (show V C 7 L f 0 0 20 [(6, .ref (c 0 i)), (0, .ref (c 6 0)), (1, .int (nI i)), (2, .double lo), (4, .double hi0)] [.int (bI (ordS (dv lo) (dv hi0) 1000000))] from ?_)
    refine g_ifB_ne hC 25 dX4_range_20 (by decide) (fun c9 => ?_) (fun c9 => ?_)
    · skip
      refine g_aload hC dX4_range_25 0 rfl ?_
      refine g_getN hC (kf := 5) (TT := TX0) (N := 16) (Cn := RX0) dX4_range_27 (CI.lp hI hi).1.1 (CI.lp hI hi).1.2 rfl q_u0 (by decide) q_fn_X4_134 rfl rfl ?_
      refine g_dload_n hC dX4_range_30 3 rfl ?_
      refine g_dload hC dX4_range_31 4 rfl ?_
      refine g_callV hC (Cn := RX1) (TT := TX1) (N := 2) dX4_range_33 (ct_X1_set l G L f (c 3 i) (X i 13) (X i 14) lo hi0 (CI.lp hI hi).2.2.2.1.1 (CI.lp hI hi).2.2.2.1.2) q_code_X1_set q_ml_X4_50 q_im_X1_set q_sel_X1_set q_init_X1 ⟨rfl, by decide, by decide, (show (parseMethodDescriptor yX1_set.desc).map (fun d => d.parameters.length) = some 2 from by decide +kernel)⟩ (CI.lp hI hi).2.2.2.1.1 (CI.lp hI hi).2.2.2.1.2 rfl (by decide) (by decide) (Nat.le_of_ble_eq_true rfl) (fun v11 L12 f13 hp10 => ?_)
      obtain ⟨rfl, rfl, hf14⟩ := hp10
      have hz15 : f13 (c 0 i) = .inr (0, [.double ((X i) 0), .double ((X i) 1), .double ((X i) 2), .ref (c 1 i), .ref (c 2 i), .ref (c 3 i), .ref (c 4 i), .double ((X i) 3), .double ((X i) 4), .double ((X i) 5), .double ((X i) 6), .double ((X i) 7), .double ((X i) 8), .int (Z i 0), .int (Z i 1), va_rf ((OU i).map (c 0))]) := by rw [hf14, va_up_ne _ _ (fun z => by have z1 := (CI.lp hI hi).1.2; rw [z, (CI.lp hI hi).2.2.2.1.2] at z1; cases z1)]; exact (CI.lp hI hi).1.2
      refine (show V C 7 L f13 0 0 36 [(6, .ref (c 0 i)), (0, .ref (c 6 0)), (1, .int (nI i)), (2, .double lo), (4, .double hi0)] [] from ?_)
      refine g_iconst hC 1 dX4_range_36 (by decide) ?_
      refine g_iret hC dX4_range_37 rfl rfl ⟨rfl, Or.inr ⟨i, hi, rfl, by simp only [Bool.and_true, Bool.and_true, Bool.true_and, Bool.and_false, Bool.false_and, Bool.not_true, Bool.not_false, c9], rfl, ?_, ?_⟩⟩ (Nat.zero_le _) (Nat.zero_le _)
      · exact (by rw [hf14]; exact FRc.up _ FRc.rf (CI.lp hI hi).2.2.2.1.2 rfl)
      · rw [hf14]; exact CI.range hI hi (va_up (va_up (X i) 13 lo) 14 hi0) (fun j h1 h2 => by rw [va_up_ne _ _ h2, va_up_ne _ _ h1])
    · skip
      refine g_iconst hC 0 dX4_range_23 (by decide) ?_
      exact g_iret hC dX4_range_24 rfl rfl ⟨rfl, Or.inl ⟨fun _ _ _ => by simp only [Bool.and_true, Bool.and_true, Bool.true_and, Bool.and_false, Bool.false_and, Bool.not_true, Bool.not_false, c9], rfl, rfl⟩⟩ (Nat.zero_le _) (Nat.zero_le _)
def hanC (md : Int32) (v lo hi : DT) : Bool := decide (md = 0) && inB v lo hi
set_option maxHeartbeats 4000000 in
set_option maxRecDepth 100000 in
/-- hand(loop, v) -/
theorem ct_X4_hand (l : Launch) (G : GD) (L : List Nat) (f : Nat → va_E) {c : Nat → Nat → Nat} {n k : Nat} {X : Nat → Nat → UInt64} {XS : Nat → UInt64} {Z : Nat → Nat → Int32} {OU : Nat → Option Nat} {SL : Nat → Nat} (hI : CI G c n k X XS Z OU SL L f) (kx : Int32) (v : UInt64) : Ctr l yX4_hand cX4_hand 5 (some .boolean) { frames := 1, cells := 0, slots := 0, locals := 30 } G [.ref (c 6 0), .int kx, .double v] L f (fun vv L1 f1 => L = L1 ∧ (((∀ i, i < n → kx = nI i → hanC (Z i 0) (dv v) (dv (X i 9)) (dv (X i 10)) = false) ∧ vv = some (.int 0) ∧ f = f1) ∨ (∃ i, i < n ∧ kx = nI i ∧ hanC (Z i 0) (dv v) (dv (X i 9)) (dv (X i 10)) = true ∧ vv = some (.int 1) ∧ FRc L f f1 ∧ CI G c n k (va_up X i (va_up (X i) 8 v)) XS Z OU SL L f1))) := by
  refine g_enter RX4 false (by decide) rfl (fun h => by cases h) (Nat.le_of_ble_eq_true rfl) (fun C hC => ?_)
  refine (show V C 5 L f 0 0 0 [(0, .ref (c 6 0)), (1, .int kx), (2, .double v)] [] from ?_)
  refine g_aload_n hC dX4_hand_0 0 rfl ?_
  refine g_iload_n hC dX4_hand_1 1 rfl ?_
  refine g_callV hC (Cn := RX4) (TT := TX4) (N := 4) dX4_hand_2 (ct_X4_findLoop l G L f hI kx) q_code_X4_findLoop q_ml_X4_32 q_im_X4_findLoop q_sel_X4_findLoop q_init_X4 ⟨rfl, by decide, by decide, (show (parseMethodDescriptor yX4_findLoop.desc).map (fun d => d.parameters.length) = some 1 from by decide +kernel)⟩ (CI.hm hI) (CI.h0 hI) rfl (by decide) (by decide) (Nat.le_of_ble_eq_true rfl) (fun v2 L3 f4 hp1 => ?_)
  obtain ⟨rfl, rfl, ⟨rfl, hno_i⟩ | ⟨i, hi, rfl, rfl⟩⟩ := hp1
  · refine (show V C 5 L f 0 0 5 [(0, .ref (c 6 0)), (1, .int kx), (2, .double v)] [.null] from ?_)
    refine g_astoreN hC (lv1 := [(4, .null), (0, .ref (c 6 0)), (1, .int kx), (2, .double v)]) dX4_hand_5 (by decide) rfl ?_
    refine g_aloadN hC dX4_hand_7 0 rfl ?_
    refine g_ifnullN hC 32 dX4_hand_9 (by decide) ?_
    refine g_iconst hC 0 dX4_hand_32 (by decide) ?_
    exact g_iret hC dX4_hand_33 rfl rfl ⟨rfl, Or.inl ⟨fun j hj q => absurd q (hno_i j hj), rfl, rfl⟩⟩ (Nat.zero_le _) (Nat.zero_le _)
  · refine (show V C 5 L f 0 0 5 [(0, .ref (c 6 0)), (1, .int (nI i)), (2, .double v)] [.ref (c 0 i)] from ?_)
    refine g_astore hC (lv1 := [(4, .ref (c 0 i)), (0, .ref (c 6 0)), (1, .int (nI i)), (2, .double v)]) dX4_hand_5 (by decide) rfl ?_
    refine g_aload hC dX4_hand_7 0 rfl ?_
    refine g_ifnull hC dX4_hand_9 ?_
    refine g_aload hC dX4_hand_12 0 rfl ?_
    refine g_getN hC (kf := 13) (TT := TX0) (N := 16) (Cn := RX0) dX4_hand_14 (CI.lp hI hi).1.1 (CI.lp hI hi).1.2 rfl q_u0 (by decide) q_fn_X4_78 rfl rfl ?_
    refine g_if_ne hC 32 dX4_hand_17 (by decide) (fun c5 => ?_) (fun c5 => ?_)
    · skip
      refine g_iconst hC 0 dX4_hand_32 (by decide) ?_
      exact g_iret hC dX4_hand_33 rfl rfl ⟨rfl, Or.inl ⟨fun j hj q => by have q1 := nI_injL (by have := CI.n16 hI; omega) (by have := CI.n16 hI; omega) q; subst q1; simp only [hanC, Bool.and_true, Bool.true_and, Bool.and_false, Bool.false_and, Bool.not_true, Bool.not_false, decide_true, decide_false, eq_false c5], rfl, rfl⟩⟩ (Nat.zero_le _) (Nat.zero_le _)
    · skip
      refine g_aload hC dX4_hand_20 0 rfl ?_
      refine g_getN hC (kf := 3) (TT := TX0) (N := 16) (Cn := RX0) dX4_hand_22 (CI.lp hI hi).1.1 (CI.lp hI hi).1.2 rfl q_u0 (by decide) q_fn_X4_46 rfl rfl ?_
      refine g_dload_n hC dX4_hand_25 3 rfl ?_
      refine g_callV hC (Cn := RX1) (TT := TX1) (N := 2) dX4_hand_26 (ct_X1_holds l G L f (c 1 i) (X i 9) (X i 10) v (CI.lp hI hi).2.1.1 (CI.lp hI hi).2.1.2) q_code_X1_holds q_ml_X4_81 q_im_X1_holds q_sel_X1_holds q_init_X1 ⟨rfl, by decide, by decide, (show (parseMethodDescriptor yX1_holds.desc).map (fun d => d.parameters.length) = some 1 from by decide +kernel)⟩ (CI.lp hI hi).2.1.1 (CI.lp hI hi).2.1.2 rfl (by decide) (by decide) (Nat.le_of_ble_eq_true rfl) (fun v7 L8 f9 hp6 => ?_)
      obtain ⟨rfl, rfl, rfl⟩ := hp6
      refine (show V C 5 L f 0 0 29 [(4, .ref (c 0 i)), (0, .ref (c 6 0)), (1, .int (nI i)), (2, .double v)] [.int (bI (inB (dv v) (dv (X i 9)) (dv (X i 10))))] from ?_)
      refine g_ifB_ne hC 34 dX4_hand_29 (by decide) (fun c10 => ?_) (fun c10 => ?_)
      · skip
        refine g_aload hC dX4_hand_34 0 rfl ?_
        refine g_dload_n hC dX4_hand_36 3 rfl ?_
        refine g_putN hC (kf := 12) (TT := TX0) (N := 16) (Cn := RX0) (ty0 := tyX0) (fs1 := [.double ((X i) 0), .double ((X i) 1), .double ((X i) 2), .ref (c 1 i), .ref (c 2 i), .ref (c 3 i), .ref (c 4 i), .double ((X i) 3), .double ((X i) 4), .double ((X i) 5), .double ((X i) 6), .double ((X i) 7), .double v, .int (Z i 0), .int (Z i 1), va_rf ((OU i).map (c 0))]) dX4_hand_37 (CI.lp hI hi).1.1 (CI.lp hI hi).1.2 rfl q_u0 (by decide) tyX0_ok nmX0 q_fn_X4_84 rfl rfl rfl rfl rfl (Nat.le_of_ble_eq_true rfl) rfl ?_
        refine g_nm (fun f11 hf12 => ?_)
        have hx13 : f11 (c 0 i) = .inr (0, [.double ((X i) 0), .double ((X i) 1), .double ((X i) 2), .ref (c 1 i), .ref (c 2 i), .ref (c 3 i), .ref (c 4 i), .double ((X i) 3), .double ((X i) 4), .double ((X i) 5), .double ((X i) 6), .double ((X i) 7), .double v, .int (Z i 0), .int (Z i 1), va_rf ((OU i).map (c 0))]) := by rw [hf12]; exact va_up_self _ _ _
        have hF14 : f11 = va_up f (c 0 i) (.inr (0, [.double ((X i) 0), .double ((X i) 1), .double ((X i) 2), .ref (c 1 i), .ref (c 2 i), .ref (c 3 i), .ref (c 4 i), .double ((X i) 3), .double ((X i) 4), .double ((X i) 5), .double ((X i) 6), .double ((X i) 7), .double v, .int (Z i 0), .int (Z i 1), va_rf ((OU i).map (c 0))])) := hf12
        refine g_iconst hC 1 dX4_hand_40 (by decide) ?_
        refine g_iret hC dX4_hand_41 rfl rfl ⟨rfl, Or.inr ⟨i, hi, rfl, by simp only [hanC, decide_true, Bool.and_true, Bool.true_and, Bool.and_false, Bool.false_and, Bool.not_true, Bool.not_false, eq_true c5, c10], rfl, ?_, ?_⟩⟩ (Nat.zero_le _) (Nat.zero_le _)
        · exact (by rw [hf12]; exact FRc.up _ FRc.rf (CI.lp hI hi).1.2 rfl)
        · rw [hF14]; exact CI.loopX hI hi (va_up (X i) 8 v) (fun j hj => va_up_ne _ _ (by omega))
      · skip
        refine g_iconst hC 0 dX4_hand_32 (by decide) ?_
        exact g_iret hC dX4_hand_33 rfl rfl ⟨rfl, Or.inl ⟨fun j hj q => by have q1 := nI_injL (by have := CI.n16 hI; omega) (by have := CI.n16 hI; omega) q; subst q1; simp only [hanC, Bool.and_true, Bool.true_and, Bool.and_false, Bool.false_and, Bool.not_true, Bool.not_false, decide_true, decide_false, eq_true c5, c10], rfl, rfl⟩⟩ (Nat.zero_le _) (Nat.zero_le _)
set_option maxHeartbeats 4000000 in
set_option maxRecDepth 100000 in
/-- fault(loop) -/
theorem ct_X4_fault (l : Launch) (G : GD) (L : List Nat) (f : Nat → va_E) {c : Nat → Nat → Nat} {n k : Nat} {X : Nat → Nat → UInt64} {XS : Nat → UInt64} {Z : Nat → Nat → Int32} {OU : Nat → Option Nat} {SL : Nat → Nat} (hI : CI G c n k X XS Z OU SL L f) (kx : Int32) : Ctr l yX4_fault cX4_fault 3 (some .int) { frames := 1, cells := 0, slots := 0, locals := 30 } G [.ref (c 6 0), .int kx] L f (fun vv L1 f1 => L = L1 ∧ f = f1 ∧ (((∀ i, i < n → ¬ kx = nI i) ∧ vv = some (.int (-1))) ∨ ∃ i, i < n ∧ kx = nI i ∧ vv = some (.int (Z i 1)))) := by
  refine g_enter RX4 false (by decide) rfl (fun h => by cases h) (Nat.le_of_ble_eq_true rfl) (fun C hC => ?_)
  refine (show V C 3 L f 0 0 0 [(0, .ref (c 6 0)), (1, .int kx)] [] from ?_)
  refine g_aload_n hC dX4_fault_0 0 rfl ?_
  refine g_iload_n hC dX4_fault_1 1 rfl ?_
  refine g_callV hC (Cn := RX4) (TT := TX4) (N := 4) dX4_fault_2 (ct_X4_findLoop l G L f hI kx) q_code_X4_findLoop q_ml_X4_32 q_im_X4_findLoop q_sel_X4_findLoop q_init_X4 ⟨rfl, by decide, by decide, (show (parseMethodDescriptor yX4_findLoop.desc).map (fun d => d.parameters.length) = some 1 from by decide +kernel)⟩ (CI.hm hI) (CI.h0 hI) rfl (by decide) (by decide) (Nat.le_of_ble_eq_true rfl) (fun v2 L3 f4 hp1 => ?_)
  obtain ⟨rfl, rfl, ⟨rfl, hno_i⟩ | ⟨i, hi, rfl, rfl⟩⟩ := hp1
  · refine (show V C 3 L f 0 0 5 [(0, .ref (c 6 0)), (1, .int kx)] [.null] from ?_)
    refine g_astore_nN hC (lv1 := [(2, .null), (0, .ref (c 6 0)), (1, .int kx)]) dX4_fault_5 (by decide) rfl ?_
    refine g_aload_nN hC dX4_fault_6 0 rfl ?_
    refine g_ifnonnullN hC dX4_fault_7 ?_
    refine g_iconst hC (-1) dX4_fault_10 (by decide) ?_
    refine g_goto hC 18 dX4_fault_11 (by decide) ?_
    exact g_iret hC dX4_fault_18 rfl rfl ⟨rfl, rfl, Or.inl ⟨hno_i, rfl⟩⟩ (Nat.zero_le _) (Nat.zero_le _)
  · refine (show V C 3 L f 0 0 5 [(0, .ref (c 6 0)), (1, .int (nI i))] [.ref (c 0 i)] from ?_)
    refine g_astore_n hC (lv1 := [(2, .ref (c 0 i)), (0, .ref (c 6 0)), (1, .int (nI i))]) dX4_fault_5 (by decide) rfl ?_
    refine g_aload_n hC dX4_fault_6 0 rfl ?_
    refine g_ifnonnull hC 14 dX4_fault_7 (by decide) ?_
    refine g_aload_n hC dX4_fault_14 0 rfl ?_
    refine g_getN hC (kf := 14) (TT := TX0) (N := 16) (Cn := RX0) dX4_fault_15 (CI.lp hI hi).1.1 (CI.lp hI hi).1.2 rfl q_u0 (by decide) q_fn_X4_130 rfl rfl ?_
    exact g_iret hC dX4_fault_18 rfl rfl ⟨rfl, rfl, Or.inr ⟨i, hi, rfl, rfl⟩⟩ (Nat.zero_le _) (Nat.zero_le _)
end
section
def modC (m : Int32) : Bool := !decide (m < 0) && decide (m ≤ 2)
def mdH (z : Nat → DT) (md m : Int32) : DT := if m = md then z 8 else if m = 0 then z 5 else z 8
def mdS (z : Nat → DT) (md m : Int32) : DT := if m = md then z 6 else if m = 1 then qsub (z 5) (qmul (z 0) (z 7)) else z 6
set_option maxHeartbeats 4000000 in
set_option maxRecDepth 100000 in
/-- mode(loop, m) -/
theorem ct_X4_mode (l : Launch) (G : GD) (L : List Nat) (f : Nat → va_E) {c : Nat → Nat → Nat} {n k : Nat} {X : Nat → Nat → UInt64} {XS : Nat → UInt64} {Z : Nat → Nat → Int32} {OU : Nat → Option Nat} {SL : Nat → Nat} (hI : CI G c n k X XS Z OU SL L f) (kx m : Int32) : Ctr l yX4_mode cX4_mode 4 (some .boolean) { frames := 1, cells := 0, slots := 0, locals := 30 } G [.ref (c 6 0), .int kx, .int m] L f (fun vv L1 f1 => L = L1 ∧ (((∀ i, i < n → kx = nI i → modC m = false) ∧ vv = some (.int 0) ∧ f = f1) ∨ (∃ i, i < n ∧ kx = nI i ∧ modC m = true ∧ vv = some (.int 1) ∧ FRc L f f1 ∧ ∃ h s : UInt64, dv h = mdH (dz (X i)) (Z i 0) m ∧ dv s = mdS (dz (X i)) (Z i 0) m ∧ CI G c n k (va_up X i (va_up (va_up (X i) 6 s) 8 h)) XS (va_up Z i (va_up (Z i) 0 m)) OU SL L f1))) := by
  refine g_enter RX4 false (by decide) rfl (fun h => by cases h) (Nat.le_of_ble_eq_true rfl) (fun C hC => ?_)
  refine (show V C 4 L f 0 0 0 [(0, .ref (c 6 0)), (1, .int kx), (2, .int m)] [] from ?_)
  refine g_aload_n hC dX4_mode_0 0 rfl ?_
  refine g_iload_n hC dX4_mode_1 1 rfl ?_
  refine g_callV hC (Cn := RX4) (TT := TX4) (N := 4) dX4_mode_2 (ct_X4_findLoop l G L f hI kx) q_code_X4_findLoop q_ml_X4_32 q_im_X4_findLoop q_sel_X4_findLoop q_init_X4 ⟨rfl, by decide, by decide, (show (parseMethodDescriptor yX4_findLoop.desc).map (fun d => d.parameters.length) = some 1 from by decide +kernel)⟩ (CI.hm hI) (CI.h0 hI) rfl (by decide) (by decide) (Nat.le_of_ble_eq_true rfl) (fun v2 L3 f4 hp1 => ?_)
  obtain ⟨rfl, rfl, ⟨rfl, hno_i⟩ | ⟨i, hi, rfl, rfl⟩⟩ := hp1
  · refine (show V C 4 L f 0 0 5 [(0, .ref (c 6 0)), (1, .int kx), (2, .int m)] [.null] from ?_)
    refine g_astore_nN hC (lv1 := [(3, .null), (0, .ref (c 6 0)), (1, .int kx), (2, .int m)]) dX4_mode_5 (by decide) rfl ?_
    refine g_aload_nN hC dX4_mode_6 0 rfl ?_
    refine g_ifnullN hC 19 dX4_mode_7 (by decide) ?_
    refine g_iconst hC 0 dX4_mode_19 (by decide) ?_
    exact g_iret hC dX4_mode_20 rfl rfl ⟨rfl, Or.inl ⟨fun j hj q => absurd q (hno_i j hj), rfl, rfl⟩⟩ (Nat.zero_le _) (Nat.zero_le _)
  · refine (show V C 4 L f 0 0 5 [(0, .ref (c 6 0)), (1, .int (nI i)), (2, .int m)] [.ref (c 0 i)] from ?_)
    refine g_astore_n hC (lv1 := [(3, .ref (c 0 i)), (0, .ref (c 6 0)), (1, .int (nI i)), (2, .int m)]) dX4_mode_5 (by decide) rfl ?_
    refine g_aload_n hC dX4_mode_6 0 rfl ?_
    refine g_ifnull hC dX4_mode_7 ?_
    refine g_iload_n hC dX4_mode_10 3 rfl ?_
    refine g_if_lt hC 19 dX4_mode_11 (by decide) (fun c5 => ?_) (fun c5 => ?_)
    · skip
      refine g_iconst hC 0 dX4_mode_19 (by decide) ?_
      exact g_iret hC dX4_mode_20 rfl rfl ⟨rfl, Or.inl ⟨fun _ _ _ => by simp only [modC, decide_true, decide_false, Bool.and_true, Bool.true_and, Bool.and_false, Bool.false_and, Bool.not_true, Bool.not_false, eq_true c5], rfl, rfl⟩⟩ (Nat.zero_le _) (Nat.zero_le _)
    · skip
      refine g_iload_n hC dX4_mode_14 3 rfl ?_
      refine g_iconst hC 2 dX4_mode_15 (by decide) ?_
      refine g_icmp_le hC 21 dX4_mode_16 (by decide) (fun c6 => ?_) (fun c6 => ?_)
      · skip
        refine g_aload_n hC dX4_mode_21 0 rfl ?_
        refine g_iload_n hC dX4_mode_22 3 rfl ?_
        refine g_callV hC (Cn := RX0) (TT := TX0) (N := 16) dX4_mode_23 (ct_X0_turnTo l G L f (c 0 i) (c 1 i) (c 2 i) (c 3 i) (c 4 i) (X i) (Z i 0) (Z i 1) ((OU i).map (c 0)) m (CI.lp hI hi).1.1 (CI.lp hI hi).1.2) q_code_X0_turnTo q_ml_X4_74 q_im_X0_turnTo q_sel_X0_turnTo q_init_X0 ⟨rfl, by decide, by decide, (show (parseMethodDescriptor yX0_turnTo.desc).map (fun d => d.parameters.length) = some 1 from by decide +kernel)⟩ (CI.lp hI hi).1.1 (CI.lp hI hi).1.2 rfl (by decide) (by decide) (Nat.le_of_ble_eq_true rfl) (fun v8 L9 f10 hp7 => ?_)
        obtain ⟨rfl, rfl, hq⟩ := hp7
        refine (show V C 4 L f10 0 0 26 [(3, .ref (c 0 i)), (0, .ref (c 6 0)), (1, .int (nI i)), (2, .int m)] [] from ?_)
        refine g_iconst hC 1 dX4_mode_26 (by decide) ?_
        refine g_iret hC dX4_mode_27 rfl rfl ⟨rfl, Or.inr ⟨i, hi, rfl, by simp only [modC, decide_true, decide_false, Bool.and_true, Bool.true_and, Bool.and_false, Bool.false_and, Bool.not_true, Bool.not_false, eq_false c5, eq_true c6], rfl, ?_, ?_⟩⟩ (Nat.zero_le _) (Nat.zero_le _)
        · rcases hq with ⟨-, hq⟩ | ⟨-, h, s, -, -, hq⟩
          · rw [← hq]; exact FRc.rf
          · rw [hq]; exact FRc.up _ FRc.rf (CI.lp hI hi).1.2 rfl
        · rcases hq with ⟨hm, hq⟩ | ⟨hm, h, s, hh, hs, hq⟩
          · refine ⟨X i 8, X i 6, by simp only [mdH, if_pos hm], by simp only [mdS, if_pos hm], ?_⟩
            rw [← hq, va_up_id (f := X i) rfl, va_up_id (f := X i) rfl, va_up_id (f := X) rfl, va_up_id (f := Z i) hm.symm, va_up_id (f := Z) rfl]; exact hI
          · refine ⟨h, s, by simp only [mdH, if_neg hm]; exact hh, by simp only [mdS, if_neg hm]; exact hs, ?_⟩
            have h2 := CI.loop hI hi (va_up (va_up (X i) 6 s) 8 h) (va_up (Z i) 0 m) (OU i) (fun j hj => by rw [va_up_ne _ _ (by omega), va_up_ne _ _ (by omega)]) (fun j hj => va_up_ne _ _ (by omega)) (fun o ho => hI.2.2.2.2.2.2.2.1 i o hi ho)
            rw [va_up_id (f := OU) rfl] at h2; rw [hq]; exact h2
      · skip
        refine g_iconst hC 0 dX4_mode_19 (by decide) ?_
        exact g_iret hC dX4_mode_20 rfl rfl ⟨rfl, Or.inl ⟨fun _ _ _ => by simp only [modC, decide_true, decide_false, Bool.and_true, Bool.true_and, Bool.and_false, Bool.false_and, Bool.not_true, Bool.not_false, eq_false c5, eq_false c6], rfl, rfl⟩⟩ (Nat.zero_le _) (Nat.zero_le _)
set_option maxHeartbeats 4000000 in
set_option maxRecDepth 100000 in
/-- tuned(loop, k) -/
theorem ct_X4_tuned (l : Launch) (G : GD) (L : List Nat) (f : Nat → va_E) {c : Nat → Nat → Nat} {n k : Nat} {X : Nat → Nat → UInt64} {XS : Nat → UInt64} {Z : Nat → Nat → Int32} {OU : Nat → Option Nat} {SL : Nat → Nat} (hI : CI G c n k X XS Z OU SL L f) (kx k0 : Int32) : Ctr l yX4_tuned cX4_tuned 4 (some .double) { frames := 1, cells := 0, slots := 0, locals := 30 } G [.ref (c 6 0), .int kx, .int k0] L f (fun vv L1 f1 => L = L1 ∧ f = f1 ∧ (((∀ i, i < n → ¬ kx = nI i) ∧ vv = some (.double 0)) ∨ ∃ i, i < n ∧ kx = nI i ∧ ∃ r : UInt64, vv = some (.double r) ∧ dv r = tgS (dv (X i 16)) (dv (X i 17)) (Z i 5) k0)) := by
  refine g_enter RX4 false (by decide) rfl (fun h => by cases h) (Nat.le_of_ble_eq_true rfl) (fun C hC => ?_)
  refine (show V C 4 L f 0 0 0 [(0, .ref (c 6 0)), (1, .int kx), (2, .int k0)] [] from ?_)
  refine g_aload_n hC dX4_tuned_0 0 rfl ?_
  refine g_iload_n hC dX4_tuned_1 1 rfl ?_
  refine g_callV hC (Cn := RX4) (TT := TX4) (N := 4) dX4_tuned_2 (ct_X4_findLoop l G L f hI kx) q_code_X4_findLoop q_ml_X4_32 q_im_X4_findLoop q_sel_X4_findLoop q_init_X4 ⟨rfl, by decide, by decide, (show (parseMethodDescriptor yX4_findLoop.desc).map (fun d => d.parameters.length) = some 1 from by decide +kernel)⟩ (CI.hm hI) (CI.h0 hI) rfl (by decide) (by decide) (Nat.le_of_ble_eq_true rfl) (fun v2 L3 f4 hp1 => ?_)
  obtain ⟨rfl, rfl, ⟨rfl, hno_i⟩ | ⟨i, hi, rfl, rfl⟩⟩ := hp1
  · refine (show V C 4 L f 0 0 5 [(0, .ref (c 6 0)), (1, .int kx), (2, .int k0)] [.null] from ?_)
    refine g_astore_nN hC (lv1 := [(3, .null), (0, .ref (c 6 0)), (1, .int kx), (2, .int k0)]) dX4_tuned_5 (by decide) rfl ?_
    refine g_aload_nN hC dX4_tuned_6 0 rfl ?_
    refine g_ifnonnullN hC dX4_tuned_7 ?_
    refine g_dconst0 hC dX4_tuned_10 ?_
    refine g_goto hC 22 dX4_tuned_11 (by decide) ?_
    exact g_dret hC dX4_tuned_22 rfl ⟨rfl, rfl, Or.inl ⟨hno_i, rfl⟩⟩ (Nat.zero_le _) (Nat.zero_le _)
  · refine (show V C 4 L f 0 0 5 [(0, .ref (c 6 0)), (1, .int (nI i)), (2, .int k0)] [.ref (c 0 i)] from ?_)
    refine g_astore_n hC (lv1 := [(3, .ref (c 0 i)), (0, .ref (c 6 0)), (1, .int (nI i)), (2, .int k0)]) dX4_tuned_5 (by decide) rfl ?_
    refine g_aload_n hC dX4_tuned_6 0 rfl ?_
    refine g_ifnonnull hC 14 dX4_tuned_7 (by decide) ?_
    refine g_aload_n hC dX4_tuned_14 0 rfl ?_
    refine g_getN hC (kf := 6) (TT := TX0) (N := 16) (Cn := RX0) dX4_tuned_15 (CI.lp hI hi).1.1 (CI.lp hI hi).1.2 rfl q_u0 (by decide) q_fn_X4_117 rfl rfl ?_
    refine g_iload_n hC dX4_tuned_18 3 rfl ?_
    refine g_callV hC (Cn := RX3) (TT := TX3) (N := 7) dX4_tuned_19 (ct_X3_gain l G L f (c 4 i) (X i 15) (Z i 2) (Z i 3) (Z i 4) (X i 16) (X i 17) (Z i 5) k0 (CI.lp hI hi).2.2.2.2.1 (CI.lp hI hi).2.2.2.2.2) q_code_X3_gain q_ml_X4_127 q_im_X3_gain q_sel_X3_gain q_init_X3 ⟨rfl, by decide, by decide, (show (parseMethodDescriptor yX3_gain.desc).map (fun d => d.parameters.length) = some 1 from by decide +kernel)⟩ (CI.lp hI hi).2.2.2.2.1 (CI.lp hI hi).2.2.2.2.2 rfl (by decide) (by decide) (Nat.le_of_ble_eq_true rfl) (fun v6 L7 f8 hp5 => ?_)
    obtain ⟨r, rfl, hr, rfl, rfl⟩ := hp5
    refine (show V C 4 L f 0 0 22 [(3, .ref (c 0 i)), (0, .ref (c 6 0)), (1, .int (nI i)), (2, .int k0)] [.double r] from ?_)
    exact g_dret hC dX4_tuned_22 rfl ⟨rfl, rfl, Or.inr ⟨i, hi, rfl, r, rfl, hr⟩⟩ (Nat.zero_le _) (Nat.zero_le _)
def tunC (s : Int32) : Bool := !decide (s < 1) && decide (s ≤ 10000)
theorem tun_of {s : Int32} (h1 : ¬ s < 1) (h2 : s ≤ 10000) : ∃ m : Nat, m ≤ 10000 ∧ s = nI m := by
  have h0 : ¬ s < 0 := fun h => h1 (by rw [Int32.lt_iff_toInt_lt] at h ⊢; exact Int.lt_trans h (by decide))
  exact nI_of2 (M := 10000) (n := 10000) (by decide) h0 h2
set_option maxHeartbeats 4000000 in
set_option maxRecDepth 100000 in
/-- tune(loop, seconds) -/
theorem ct_X4_tune (l : Launch) (G : GD) (L : List Nat) (f : Nat → va_E) {c : Nat → Nat → Nat} {n k : Nat} {X : Nat → Nat → UInt64} {XS : Nat → UInt64} {Z : Nat → Nat → Int32} {OU : Nat → Option Nat} {SL : Nat → Nat} (hI : CI G c n k X XS Z OU SL L f) (kx sc : Int32) : Ctr l yX4_tune cX4_tune 4 (some .int) { frames := 3, cells := 0, slots := 0, locals := 72 } G [.ref (c 6 0), .int kx, .int sc] L f (fun vv L1 f1 => L = L1 ∧ (((∀ i, i < n → kx = nI i → tunC sc = false) ∧ vv = some (.int (-1)) ∧ f = f1) ∨ (∃ i, i < n ∧ kx = nI i ∧ ∃ m : Nat, m ≤ 10000 ∧ sc = nI m ∧ tunC sc = true ∧ FRc L f f1 ∧ ∃ (le1 : UInt64) (rl1 sw1 lr1 : Int32) (mn1 mx1 : UInt64) (pe1 : Int32), (dv le1, rl1, sw1, lr1, dv mn1, dv mx1, pe1) = tRun (dv 0, 0, 0, 0, dv (X i 16), dv (X i 17), 0) m ∧ vv = some (.int sw1) ∧ CI G c n k (va_up X i (va_up (va_up (va_up (X i) 15 le1) 16 mn1) 17 mx1)) XS (va_up Z i (va_up (va_up (va_up (va_up (Z i) 2 rl1) 3 sw1) 4 lr1) 5 pe1)) OU SL L f1))) := by
  refine g_enter RX4 false (by decide) rfl (fun h => by cases h) (Nat.le_of_ble_eq_true rfl) (fun C hC => ?_)
  refine (show V C 4 L f 0 0 0 [(0, .ref (c 6 0)), (1, .int kx), (2, .int sc)] [] from ?_)
  refine g_aload_n hC dX4_tune_0 0 rfl ?_
  refine g_iload_n hC dX4_tune_1 1 rfl ?_
  refine g_callV hC (Cn := RX4) (TT := TX4) (N := 4) dX4_tune_2 (ct_X4_findLoop l G L f hI kx) q_code_X4_findLoop q_ml_X4_32 q_im_X4_findLoop q_sel_X4_findLoop q_init_X4 ⟨rfl, by decide, by decide, (show (parseMethodDescriptor yX4_findLoop.desc).map (fun d => d.parameters.length) = some 1 from by decide +kernel)⟩ (CI.hm hI) (CI.h0 hI) rfl (by decide) (by decide) (Nat.le_of_ble_eq_true rfl) (fun v2 L3 f4 hp1 => ?_)
  obtain ⟨rfl, rfl, ⟨rfl, hno_i⟩ | ⟨i, hi, rfl, rfl⟩⟩ := hp1
  · refine (show V C 4 L f 0 0 5 [(0, .ref (c 6 0)), (1, .int kx), (2, .int sc)] [.null] from ?_)
    refine g_astore_nN hC (lv1 := [(3, .null), (0, .ref (c 6 0)), (1, .int kx), (2, .int sc)]) dX4_tune_5 (by decide) rfl ?_
    refine g_aload_nN hC dX4_tune_6 0 rfl ?_
    refine g_ifnullN hC 22 dX4_tune_7 (by decide) ?_
    refine g_iconst hC (-1) dX4_tune_22 (by decide) ?_
    exact g_iret hC dX4_tune_23 rfl rfl ⟨rfl, Or.inl ⟨fun j hj q => absurd q (hno_i j hj), rfl, rfl⟩⟩ (Nat.zero_le _) (Nat.zero_le _)
  · refine (show V C 4 L f 0 0 5 [(0, .ref (c 6 0)), (1, .int (nI i)), (2, .int sc)] [.ref (c 0 i)] from ?_)
    refine g_astore_n hC (lv1 := [(3, .ref (c 0 i)), (0, .ref (c 6 0)), (1, .int (nI i)), (2, .int sc)]) dX4_tune_5 (by decide) rfl ?_
    refine g_aload_n hC dX4_tune_6 0 rfl ?_
    refine g_ifnull hC dX4_tune_7 ?_
    refine g_iload_n hC dX4_tune_10 3 rfl ?_
    refine g_iconst hC 1 dX4_tune_11 (by decide) ?_
    refine g_icmp_lt hC 22 dX4_tune_12 (by decide) (fun c5 => ?_) (fun c5 => ?_)
    · skip
      refine g_iconst hC (-1) dX4_tune_22 (by decide) ?_
      exact g_iret hC dX4_tune_23 rfl rfl ⟨rfl, Or.inl ⟨fun _ _ _ => by simp only [tunC, decide_true, decide_false, Bool.and_true, Bool.true_and, Bool.and_false, Bool.false_and, Bool.not_true, Bool.not_false, eq_true c5], rfl, rfl⟩⟩ (Nat.zero_le _) (Nat.zero_le _)
    · skip
      refine g_iload_n hC dX4_tune_15 3 rfl ?_
      refine g_sipush hC 10000 dX4_tune_16 (by decide) ?_
      refine g_icmp_le hC 24 dX4_tune_19 (by decide) (fun c6 => ?_) (fun c6 => ?_)
      · skip
        refine g_aload_n hC dX4_tune_24 0 rfl ?_
        refine g_getN hC (kf := 6) (TT := TX0) (N := 16) (Cn := RX0) dX4_tune_25 (CI.lp hI hi).1.1 (CI.lp hI hi).1.2 rfl q_u0 (by decide) q_fn_X4_117 rfl rfl ?_
        refine g_iload_n hC dX4_tune_28 3 rfl ?_
        obtain ⟨m, hm, rfl⟩ := tun_of c5 c6
        refine g_callV hC (Cn := RX3) (TT := TX3) (N := 7) dX4_tune_29 (ct_X3_run l G L f (c 4 i) (X i 15) (Z i 2) (Z i 3) (Z i 4) (X i 16) (X i 17) (Z i 5) m (by omega) (CI.lp hI hi).2.2.2.2.1 (CI.lp hI hi).2.2.2.2.2) q_code_X3_run q_ml_X4_121 q_im_X3_run q_sel_X3_run q_init_X3 ⟨rfl, by decide, by decide, (show (parseMethodDescriptor yX3_run.desc).map (fun d => d.parameters.length) = some 1 from by decide +kernel)⟩ (CI.lp hI hi).2.2.2.2.1 (CI.lp hI hi).2.2.2.2.2 rfl (by decide) (by decide) (Nat.le_of_ble_eq_true rfl) (fun v8 L9 f10 hp7 => ?_)
        obtain ⟨le1, rl1, sw1, lr1, mn1, mx1, pe1, rfl, rfl, hr, hf⟩ := hp7
        refine (show V C 4 L f10 0 0 32 [(3, .ref (c 0 i)), (0, .ref (c 6 0)), (1, .int (nI i)), (2, .int (nI m))] [.int sw1] from ?_)
        refine g_iret hC dX4_tune_32 rfl rfl ⟨rfl, Or.inr ⟨i, hi, rfl, m, hm, rfl, by simp only [tunC, decide_true, decide_false, Bool.and_true, Bool.true_and, Bool.and_false, Bool.false_and, Bool.not_true, Bool.not_false, eq_false c5, eq_true c6], ?_, le1, rl1, sw1, lr1, mn1, mx1, pe1, hr, rfl, ?_⟩⟩ (Nat.zero_le _) (Nat.zero_le _)
        · rw [hf]; exact FRc.up _ FRc.rf (CI.lp hI hi).2.2.2.2.2 rfl
        · rw [hf]; exact CI.tune hI hi (va_up (va_up (va_up (X i) 15 le1) 16 mn1) 17 mx1) (va_up (va_up (va_up (va_up (Z i) 2 rl1) 3 sw1) 4 lr1) 5 pe1) (fun j hj => by rw [va_up_ne _ _ (by omega), va_up_ne _ _ (by omega), va_up_ne _ _ (by omega)]) (fun j hj => by rw [va_up_ne _ _ (by omega), va_up_ne _ _ (by omega), va_up_ne _ _ (by omega), va_up_ne _ _ (by omega)])
      · skip
        refine g_iconst hC (-1) dX4_tune_22 (by decide) ?_
        exact g_iret hC dX4_tune_23 rfl rfl ⟨rfl, Or.inl ⟨fun _ _ _ => by simp only [tunC, decide_true, decide_false, Bool.and_true, Bool.true_and, Bool.and_false, Bool.false_and, Bool.not_true, Bool.not_false, eq_false c5, eq_false c6], rfl, rfl⟩⟩ (Nat.zero_le _) (Nat.zero_le _)
def parC (wh : Int32) : Bool := !decide (wh < 0) && decide (wh ≤ 1)
set_option maxHeartbeats 4000000 in
set_option maxRecDepth 100000 in
/-- part(split, which) -/
theorem ct_X4_part (l : Launch) (G : GD) (L : List Nat) (f : Nat → va_E) {c : Nat → Nat → Nat} {n k : Nat} {X : Nat → Nat → UInt64} {XS : Nat → UInt64} {Z : Nat → Nat → Int32} {OU : Nat → Option Nat} {SL : Nat → Nat} (hI : CI G c n k X XS Z OU SL L f) (kx wh : Int32) : Ctr l yX4_part cX4_part 4 (some .double) { frames := 2, cells := 0, slots := 0, locals := 50 } G [.ref (c 6 0), .int kx, .int wh] L f (fun vv L1 f1 => L = L1 ∧ f = f1 ∧ (((∀ j, j < k → kx = nI j → parC wh = false) ∧ vv = some (.double 13830554455654793216)) ∨ ∃ j, j < k ∧ kx = nI j ∧ parC wh = true ∧ ∃ r : UInt64, vv = some (.double r) ∧ dv r = shS (dv (XS j)) (dv (X (SL j) 5)) (dv (X (SL j) 9)) (dv (X (SL j) 10)) wh)) := by
  refine g_enter RX4 false (by decide) rfl (fun h => by cases h) (Nat.le_of_ble_eq_true rfl) (fun C hC => ?_)
  refine (show V C 4 L f 0 0 0 [(0, .ref (c 6 0)), (1, .int kx), (2, .int wh)] [] from ?_)
  refine g_aload_n hC dX4_part_0 0 rfl ?_
  refine g_iload_n hC dX4_part_1 1 rfl ?_
  refine g_callV hC (Cn := RX4) (TT := TX4) (N := 4) dX4_part_2 (ct_X4_findSplit l G L f hI kx) q_code_X4_findSplit q_ml_X4_104 q_im_X4_findSplit q_sel_X4_findSplit q_init_X4 ⟨rfl, by decide, by decide, (show (parseMethodDescriptor yX4_findSplit.desc).map (fun d => d.parameters.length) = some 1 from by decide +kernel)⟩ (CI.hm hI) (CI.h0 hI) rfl (by decide) (by decide) (Nat.le_of_ble_eq_true rfl) (fun v2 L3 f4 hp1 => ?_)
  obtain ⟨rfl, rfl, ⟨rfl, hno_j⟩ | ⟨j, hj, rfl, rfl⟩⟩ := hp1
  · refine (show V C 4 L f 0 0 5 [(0, .ref (c 6 0)), (1, .int kx), (2, .int wh)] [.null] from ?_)
    refine g_astore_nN hC (lv1 := [(3, .null), (0, .ref (c 6 0)), (1, .int kx), (2, .int wh)]) dX4_part_5 (by decide) rfl ?_
    refine g_aload_nN hC dX4_part_6 0 rfl ?_
    refine g_ifnullN hC 19 dX4_part_7 (by decide) ?_
    refine g_ldc2 hC dX4_part_19 q_cd_X4_108 ?_
    exact g_dret hC dX4_part_22 rfl ⟨rfl, rfl, Or.inl ⟨fun j hj q => absurd q (hno_j j hj), rfl⟩⟩ (Nat.zero_le _) (Nat.zero_le _)
  · refine (show V C 4 L f 0 0 5 [(0, .ref (c 6 0)), (1, .int (nI j)), (2, .int wh)] [.ref (c 5 j)] from ?_)
    refine g_astore_n hC (lv1 := [(3, .ref (c 5 j)), (0, .ref (c 6 0)), (1, .int (nI j)), (2, .int wh)]) dX4_part_5 (by decide) rfl ?_
    refine g_aload_n hC dX4_part_6 0 rfl ?_
    refine g_ifnull hC dX4_part_7 ?_
    refine g_iload_n hC dX4_part_10 3 rfl ?_
    refine g_if_lt hC 19 dX4_part_11 (by decide) (fun c5 => ?_) (fun c5 => ?_)
    · skip
      refine g_ldc2 hC dX4_part_19 q_cd_X4_108 ?_
      exact g_dret hC dX4_part_22 rfl ⟨rfl, rfl, Or.inl ⟨fun _ _ _ => by simp only [parC, decide_true, decide_false, Bool.and_true, Bool.true_and, Bool.and_false, Bool.false_and, Bool.not_true, Bool.not_false, eq_true c5], rfl⟩⟩ (Nat.zero_le _) (Nat.zero_le _)
    · skip
      refine g_iload_n hC dX4_part_14 3 rfl ?_
      refine g_iconst hC 1 dX4_part_15 (by decide) ?_
      refine g_icmp_le hC 23 dX4_part_16 (by decide) (fun c6 => ?_) (fun c6 => ?_)
      · skip
        refine g_aload_n hC dX4_part_23 0 rfl ?_
        refine g_iload_n hC dX4_part_24 3 rfl ?_
        have hs := CI.sp hI hj
        have hp := CI.lp hI hs.2.2
        refine g_callV hC (Cn := RX2) (TT := TX2) (N := 2) dX4_part_25 (ct_X2_share l G L f (c 5 j) (c 0 (SL j)) (c 1 (SL j)) (c 2 (SL j)) (c 3 (SL j)) (c 4 (SL j)) (XS j) (X (SL j) 9) (X (SL j) 10) (X (SL j)) (Z (SL j) 0) (Z (SL j) 1) ((OU (SL j)).map (c 0)) wh hs.1 hp.1.1 hp.2.1.1 hs.2.1 hp.1.2 hp.2.1.2) q_code_X2_share q_ml_X4_110 q_im_X2_share q_sel_X2_share q_init_X2 ⟨rfl, by decide, by decide, (show (parseMethodDescriptor yX2_share.desc).map (fun d => d.parameters.length) = some 1 from by decide +kernel)⟩ hs.1 hs.2.1 rfl (by decide) (by decide) (Nat.le_of_ble_eq_true rfl) (fun v8 L9 f10 hp7 => ?_)
        obtain ⟨r, rfl, hr, rfl, rfl⟩ := hp7
        refine (show V C 4 L f 0 0 28 [(3, .ref (c 5 j)), (0, .ref (c 6 0)), (1, .int (nI j)), (2, .int wh)] [.double r] from ?_)
        exact g_dret hC dX4_part_28 rfl ⟨rfl, rfl, Or.inr ⟨j, hj, rfl, by simp only [parC, decide_true, decide_false, Bool.and_true, Bool.true_and, Bool.and_false, Bool.false_and, Bool.not_true, Bool.not_false, eq_false c5, eq_true c6], r, rfl, hr⟩⟩ (Nat.zero_le _) (Nat.zero_le _)
      · skip
        refine g_ldc2 hC dX4_part_19 q_cd_X4_108 ?_
        exact g_dret hC dX4_part_22 rfl ⟨rfl, rfl, Or.inl ⟨fun _ _ _ => by simp only [parC, decide_true, decide_false, Bool.and_true, Bool.true_and, Bool.and_false, Bool.false_and, Bool.not_true, Bool.not_false, eq_false c5, eq_false c6], rfl⟩⟩ (Nat.zero_le _) (Nat.zero_le _)
end
section
def tkC (m tg : DT) : Bool := readS m && readS tg
def tkE (uo : Option DT) (tg m : DT) : DT := qsub (match uo with | none => tg | some w => w) m
set_option maxHeartbeats 4000000 in
set_option maxRecDepth 100000 in
/-- tick(loop, measured, target) -/
theorem ct_X4_tick (l : Launch) (G : GD) (L : List Nat) (f : Nat → va_E) {c : Nat → Nat → Nat} {n k : Nat} {X : Nat → Nat → UInt64} {XS : Nat → UInt64} {Z : Nat → Nat → Int32} {OU : Nat → Option Nat} {SL : Nat → Nat} (hI : CI G c n k X XS Z OU SL L f) (kx : Int32) (m tg : UInt64) : Ctr l yX4_tick cX4_tick 7 (some .double) { frames := 3, cells := 0, slots := 0, locals := 76 } G [.ref (c 6 0), .int kx, .double m, .double tg] L f (fun vv L1 f1 => L = L1 ∧ (((∀ i, i < n → kx = nI i → tkC (dv m) (dv tg) = false) ∧ vv = some (.double 0) ∧ f = f1) ∨ (∃ i, i < n ∧ kx = nI i ∧ tkC (dv m) (dv tg) = true ∧ FRc L f f1 ∧ ((inB (dv m) (dv (X i 13)) (dv (X i 14)) = false ∧ vv = some (.double (X i 4)) ∧ CI G c n k (va_up X i (va_up (X i) 5 (X i 4))) XS (va_up Z i (va_up (Z i) 1 (Z i 1 + 1))) OU SL L f1) ∨ (inB (dv m) (dv (X i 13)) (dv (X i 14)) = true ∧ ∃ u s e : UInt64, dv e = tkE ((OU i).map (fun o => dv (X o 5))) (dv tg) (dv m) ∧ dv u = tU (dz (X i)) (Z i 0) (dv (X i 9)) (dv (X i 10)) (dv (X i 11)) (dv (X i 12)) (dv e) ∧ dv s = tS (dz (X i)) (Z i 0) (dv (X i 9)) (dv (X i 10)) (dv e) ∧ vv = some (.double u) ∧ CI G c n k (va_up X i (va_up (va_up (va_up (X i) 6 s) 5 u) 7 e)) XS Z OU SL L f1))))) := by
  refine g_enter RX4 false (by decide) rfl (fun h => by cases h) (Nat.le_of_ble_eq_true rfl) (fun C hC => ?_)
  refine (show V C 7 L f 0 0 0 [(0, .ref (c 6 0)), (1, .int kx), (2, .double m), (4, .double tg)] [] from ?_)
  refine g_aload_n hC dX4_tick_0 0 rfl ?_
  refine g_iload_n hC dX4_tick_1 1 rfl ?_
  refine g_callV hC (Cn := RX4) (TT := TX4) (N := 4) dX4_tick_2 (ct_X4_findLoop l G L f hI kx) q_code_X4_findLoop q_ml_X4_32 q_im_X4_findLoop q_sel_X4_findLoop q_init_X4 ⟨rfl, by decide, by decide, (show (parseMethodDescriptor yX4_findLoop.desc).map (fun d => d.parameters.length) = some 1 from by decide +kernel)⟩ (CI.hm hI) (CI.h0 hI) rfl (by decide) (by decide) (Nat.le_of_ble_eq_true rfl) (fun v2 L3 f4 hp1 => ?_)
  obtain ⟨rfl, rfl, ⟨rfl, hno_i⟩ | ⟨i, hi, rfl, rfl⟩⟩ := hp1
  · refine (show V C 7 L f 0 0 5 [(0, .ref (c 6 0)), (1, .int kx), (2, .double m), (4, .double tg)] [.null] from ?_)
    refine g_astoreN hC (lv1 := [(6, .null), (0, .ref (c 6 0)), (1, .int kx), (2, .double m), (4, .double tg)]) dX4_tick_5 (by decide) rfl ?_
    refine g_aloadN hC dX4_tick_7 0 rfl ?_
    refine g_ifnullN hC 27 dX4_tick_9 (by decide) ?_
    refine g_dconst0 hC dX4_tick_27 ?_
    exact g_dret hC dX4_tick_28 rfl ⟨rfl, Or.inl ⟨fun j hj q => absurd q (hno_i j hj), rfl, rfl⟩⟩ (Nat.zero_le _) (Nat.zero_le _)
  · refine (show V C 7 L f 0 0 5 [(0, .ref (c 6 0)), (1, .int (nI i)), (2, .double m), (4, .double tg)] [.ref (c 0 i)] from ?_)
    refine g_astore hC (lv1 := [(6, .ref (c 0 i)), (0, .ref (c 6 0)), (1, .int (nI i)), (2, .double m), (4, .double tg)]) dX4_tick_5 (by decide) rfl ?_
    refine g_aload hC dX4_tick_7 0 rfl ?_
    refine g_ifnull hC dX4_tick_9 ?_
    refine g_dload_n hC dX4_tick_12 3 rfl ?_
    refine g_callS hC dX4_tick_13 (ct_X4_isReading l G L f m) q_code_X4_isReading q_ml_X4_65 q_st_X4_isReading q_init_X4 ⟨by decide, by decide, (show (parseMethodDescriptor yX4_isReading.desc).map (fun d => d.parameters.length) = some 1 from by decide +kernel)⟩ (by decide) (by decide) (Nat.le_of_ble_eq_true rfl) (fun v6 L7 f8 hp5 => ?_)
    obtain ⟨rfl, rfl, rfl⟩ := hp5
    refine (show V C 7 L f 0 0 16 [(6, .ref (c 0 i)), (0, .ref (c 6 0)), (1, .int (nI i)), (2, .double m), (4, .double tg)] [.int (bI (readS (dv m)))] from ?_)
    refine g_ifB_eq hC 27 dX4_tick_16 (by decide) (fun c9 => ?_) (fun c9 => ?_)
    · skip
      refine g_dconst0 hC dX4_tick_27 ?_
      exact g_dret hC dX4_tick_28 rfl ⟨rfl, Or.inl ⟨fun _ _ _ => by simp only [tkC, Bool.and_true, Bool.true_and, Bool.and_false, Bool.false_and, Bool.not_true, Bool.not_false, c9], rfl, rfl⟩⟩ (Nat.zero_le _) (Nat.zero_le _)
    · skip
      refine g_dload hC dX4_tick_19 4 rfl ?_
      refine g_callS hC dX4_tick_21 (ct_X4_isReading l G L f tg) q_code_X4_isReading q_ml_X4_65 q_st_X4_isReading q_init_X4 ⟨by decide, by decide, (show (parseMethodDescriptor yX4_isReading.desc).map (fun d => d.parameters.length) = some 1 from by decide +kernel)⟩ (by decide) (by decide) (Nat.le_of_ble_eq_true rfl) (fun v11 L12 f13 hp10 => ?_)
      obtain ⟨rfl, rfl, rfl⟩ := hp10
      refine (show V C 7 L f 0 0 24 [(6, .ref (c 0 i)), (0, .ref (c 6 0)), (1, .int (nI i)), (2, .double m), (4, .double tg)] [.int (bI (readS (dv tg)))] from ?_)
      refine g_ifB_ne hC 29 dX4_tick_24 (by decide) (fun c14 => ?_) (fun c14 => ?_)
      · skip
        refine g_aload hC dX4_tick_29 0 rfl ?_
        refine g_dload_n hC dX4_tick_31 3 rfl ?_
        refine g_dload hC dX4_tick_32 4 rfl ?_
        rcases ho : OU i with _ | o
        · have hq0 := (CI.lp hI hi).1.2
          rw [ho] at hq0
          refine g_callV hC (Cn := RX0) (TT := TX0) (N := 16) dX4_tick_34 (ct_X0_pass_n l G L f (c 0 i) (c 1 i) (c 2 i) (c 3 i) (c 4 i) (X i) (Z i 0) (Z i 1) (X i 9) (X i 10) (X i 11) (X i 12) (X i 13) (X i 14) m tg (CI.lp hI hi).1.1 hq0 (CI.lp hI hi).2.1.1 (CI.lp hI hi).2.2.1.1 (CI.lp hI hi).2.2.2.1.1 (CI.lp hI hi).2.1.2 (CI.lp hI hi).2.2.1.2 (CI.lp hI hi).2.2.2.1.2) q_code_X0_pass q_ml_X4_68 q_im_X0_pass q_sel_X0_pass q_init_X0 ⟨rfl, by decide, by decide, (show (parseMethodDescriptor yX0_pass.desc).map (fun d => d.parameters.length) = some 2 from by decide +kernel)⟩ (CI.lp hI hi).1.1 (CI.lp hI hi).1.2 rfl (by decide) (by decide) (Nat.le_of_ble_eq_true rfl) (fun v16 L17 f18 hp15 => ?_)
          obtain ⟨rfl, rfl, ⟨hin, hf⟩ | ⟨hin, u, sm, er, he, hu, hs, hf⟩⟩ := hp15
          · have hz : f18 (c 0 i) = .inr (0, [.double ((X i) 0), .double ((X i) 1), .double ((X i) 2), .ref (c 1 i), .ref (c 2 i), .ref (c 3 i), .ref (c 4 i), .double ((X i) 3), .double ((X i) 4), .double (X i 4), .double ((X i) 6), .double ((X i) 7), .double ((X i) 8), .int (Z i 0), .int (Z i 1 + 1), .null]) := by rw [hf]; exact va_up_self _ _ _
            refine (show V C 7 L f18 0 0 37 [(6, .ref (c 0 i)), (0, .ref (c 6 0)), (1, .int (nI i)), (2, .double m), (4, .double tg)] [] from ?_)
            refine g_aload hC dX4_tick_37 0 rfl ?_
            refine g_getN hC (kf := 9) (TT := TX0) (N := 16) (Cn := RX0) dX4_tick_39 (CI.lp hI hi).1.1 hz rfl q_u0 (by decide) q_fn_X4_71 rfl rfl ?_
            refine g_dret hC dX4_tick_42 rfl ⟨rfl, Or.inr ⟨i, hi, rfl, by simp only [tkC, Bool.and_true, Bool.true_and, Bool.and_false, Bool.false_and, Bool.not_true, Bool.not_false, c9, c14], by rw [hf]; exact FRc.up _ FRc.rf (CI.lp hI hi).1.2 rfl, ?_⟩⟩ (Nat.zero_le _) (Nat.zero_le _)
            refine Or.inl ⟨hin, rfl, ?_⟩
            have h2 := CI.loop hI hi (va_up (X i) 5 (X i 4)) (va_up (Z i) 1 (Z i 1 + 1)) (OU i) (fun j hj => va_up_ne _ _ (by omega)) (fun j hj => va_up_ne _ _ (by omega)) (fun o ho => hI.2.2.2.2.2.2.2.1 i o hi ho)
            rw [va_up_id (f := OU) rfl, ho] at h2; rw [hf]; exact h2
          · have hz : f18 (c 0 i) = .inr (0, [.double ((X i) 0), .double ((X i) 1), .double ((X i) 2), .ref (c 1 i), .ref (c 2 i), .ref (c 3 i), .ref (c 4 i), .double ((X i) 3), .double ((X i) 4), .double u, .double sm, .double er, .double ((X i) 8), .int (Z i 0), .int (Z i 1), .null]) := by rw [hf]; exact va_up_self _ _ _
            refine (show V C 7 L f18 0 0 37 [(6, .ref (c 0 i)), (0, .ref (c 6 0)), (1, .int (nI i)), (2, .double m), (4, .double tg)] [] from ?_)
            refine g_aload hC dX4_tick_37 0 rfl ?_
            refine g_getN hC (kf := 9) (TT := TX0) (N := 16) (Cn := RX0) dX4_tick_39 (CI.lp hI hi).1.1 hz rfl q_u0 (by decide) q_fn_X4_71 rfl rfl ?_
            refine g_dret hC dX4_tick_42 rfl ⟨rfl, Or.inr ⟨i, hi, rfl, by simp only [tkC, Bool.and_true, Bool.true_and, Bool.and_false, Bool.false_and, Bool.not_true, Bool.not_false, c9, c14], by rw [hf]; exact FRc.up _ FRc.rf (CI.lp hI hi).1.2 rfl, ?_⟩⟩ (Nat.zero_le _) (Nat.zero_le _)
            refine Or.inr ⟨hin, u, sm, er, by rw [ho]; exact he, hu, hs, rfl, ?_⟩
            have h2 := CI.loopX hI hi (va_up (va_up (va_up (X i) 6 sm) 5 u) 7 er) (fun j hj => by rw [va_up_ne _ _ (by omega), va_up_ne _ _ (by omega), va_up_ne _ _ (by omega)])
            rw [ho] at h2; rw [hf]; exact h2
        · have hq0 := (CI.lp hI hi).1.2
          rw [ho] at hq0
          have hon := hI.2.2.2.2.2.2.2.1 i o hi ho
          refine g_callV hC (Cn := RX0) (TT := TX0) (N := 16) dX4_tick_34 (ct_X0_pass_s l G L f (c 0 i) (c 1 i) (c 2 i) (c 3 i) (c 4 i) (X i) (Z i 0) (Z i 1) (X i 9) (X i 10) (X i 11) (X i 12) (X i 13) (X i 14) m tg (c 0 o) (c 1 o) (c 2 o) (c 3 o) (c 4 o) (X o) (Z o 0) (Z o 1) ((OU o).map (c 0)) (CI.lp hI hi).1.1 hq0 (CI.lp hI hi).2.1.1 (CI.lp hI hi).2.2.1.1 (CI.lp hI hi).2.2.2.1.1 (CI.lp hI hi).2.1.2 (CI.lp hI hi).2.2.1.2 (CI.lp hI hi).2.2.2.1.2 (CI.lp hI hon).1.1 (CI.lp hI hon).1.2) q_code_X0_pass q_ml_X4_68 q_im_X0_pass q_sel_X0_pass q_init_X0 ⟨rfl, by decide, by decide, (show (parseMethodDescriptor yX0_pass.desc).map (fun d => d.parameters.length) = some 2 from by decide +kernel)⟩ (CI.lp hI hi).1.1 (CI.lp hI hi).1.2 rfl (by decide) (by decide) (Nat.le_of_ble_eq_true rfl) (fun v20 L21 f22 hp19 => ?_)
          obtain ⟨rfl, rfl, ⟨hin, hf⟩ | ⟨hin, u, sm, er, he, hu, hs, hf⟩⟩ := hp19
          · have hz : f22 (c 0 i) = .inr (0, [.double ((X i) 0), .double ((X i) 1), .double ((X i) 2), .ref (c 1 i), .ref (c 2 i), .ref (c 3 i), .ref (c 4 i), .double ((X i) 3), .double ((X i) 4), .double (X i 4), .double ((X i) 6), .double ((X i) 7), .double ((X i) 8), .int (Z i 0), .int (Z i 1 + 1), .ref (c 0 o)]) := by rw [hf]; exact va_up_self _ _ _
            refine (show V C 7 L f22 0 0 37 [(6, .ref (c 0 i)), (0, .ref (c 6 0)), (1, .int (nI i)), (2, .double m), (4, .double tg)] [] from ?_)
            refine g_aload hC dX4_tick_37 0 rfl ?_
            refine g_getN hC (kf := 9) (TT := TX0) (N := 16) (Cn := RX0) dX4_tick_39 (CI.lp hI hi).1.1 hz rfl q_u0 (by decide) q_fn_X4_71 rfl rfl ?_
            refine g_dret hC dX4_tick_42 rfl ⟨rfl, Or.inr ⟨i, hi, rfl, by simp only [tkC, Bool.and_true, Bool.true_and, Bool.and_false, Bool.false_and, Bool.not_true, Bool.not_false, c9, c14], by rw [hf]; exact FRc.up _ FRc.rf (CI.lp hI hi).1.2 rfl, ?_⟩⟩ (Nat.zero_le _) (Nat.zero_le _)
            refine Or.inl ⟨hin, rfl, ?_⟩
            have h2 := CI.loop hI hi (va_up (X i) 5 (X i 4)) (va_up (Z i) 1 (Z i 1 + 1)) (OU i) (fun j hj => va_up_ne _ _ (by omega)) (fun j hj => va_up_ne _ _ (by omega)) (fun o ho => hI.2.2.2.2.2.2.2.1 i o hi ho)
            rw [va_up_id (f := OU) rfl, ho] at h2; rw [hf]; exact h2
          · have hz : f22 (c 0 i) = .inr (0, [.double ((X i) 0), .double ((X i) 1), .double ((X i) 2), .ref (c 1 i), .ref (c 2 i), .ref (c 3 i), .ref (c 4 i), .double ((X i) 3), .double ((X i) 4), .double u, .double sm, .double er, .double ((X i) 8), .int (Z i 0), .int (Z i 1), .ref (c 0 o)]) := by rw [hf]; exact va_up_self _ _ _
            refine (show V C 7 L f22 0 0 37 [(6, .ref (c 0 i)), (0, .ref (c 6 0)), (1, .int (nI i)), (2, .double m), (4, .double tg)] [] from ?_)
            refine g_aload hC dX4_tick_37 0 rfl ?_
            refine g_getN hC (kf := 9) (TT := TX0) (N := 16) (Cn := RX0) dX4_tick_39 (CI.lp hI hi).1.1 hz rfl q_u0 (by decide) q_fn_X4_71 rfl rfl ?_
            refine g_dret hC dX4_tick_42 rfl ⟨rfl, Or.inr ⟨i, hi, rfl, by simp only [tkC, Bool.and_true, Bool.true_and, Bool.and_false, Bool.false_and, Bool.not_true, Bool.not_false, c9, c14], by rw [hf]; exact FRc.up _ FRc.rf (CI.lp hI hi).1.2 rfl, ?_⟩⟩ (Nat.zero_le _) (Nat.zero_le _)
            refine Or.inr ⟨hin, u, sm, er, by rw [ho]; exact he, hu, hs, rfl, ?_⟩
            have h2 := CI.loopX hI hi (va_up (va_up (va_up (X i) 6 sm) 5 u) 7 er) (fun j hj => by rw [va_up_ne _ _ (by omega), va_up_ne _ _ (by omega), va_up_ne _ _ (by omega)])
            rw [ho] at h2; rw [hf]; exact h2
      · skip
        refine g_dconst0 hC dX4_tick_27 ?_
        exact g_dret hC dX4_tick_28 rfl ⟨rfl, Or.inl ⟨fun _ _ _ => by simp only [tkC, Bool.and_true, Bool.true_and, Bool.and_false, Bool.false_and, Bool.not_true, Bool.not_false, c9, c14], rfl, rfl⟩⟩ (Nat.zero_le _) (Nat.zero_le _)
def ledN (OU : Nat → Option Nat) : Nat → Option Nat → Nat → Bool
  | 0, _, _ => false
  | _ + 1, none, _ => false
  | s + 1, some a, w => if a = w then true else ledN OU s (OU a) w
section G20
variable {C : CX} {cc : ByteArray} {nL : Nat} {own : String} {ini : Bool} {R0 : Room} {G0 : GD} {l0 : Launch} {ret : Option FieldType} {post : PO} {L : List Nat} {f : Nat → va_E} {k n pc : Nat} {lv : List (Nat × Value)} {st : List Value}
theorem g_lv {lv' : List (Nat × Value)} (h : lv = lv') (kk : V C nL L f k n pc lv' st) : V C nL L f k n pc lv st := h ▸ kk
end G20
set_option maxHeartbeats 4000000 in
set_option maxRecDepth 100000 in
/-- isLed(loop, wanted) -/
theorem ct_X4_isLed (l : Launch) (G : GD) (L : List Nat) (f : Nat → va_E) {c : Nat → Nat → Nat} {n k : Nat} {X : Nat → Nat → UInt64} {XS : Nat → UInt64} {Z : Nat → Nat → Int32} {OU : Nat → Option Nat} {SL : Nat → Nat} (hI : CI G c n k X XS Z OU SL L f) {a b : Nat} (ha : a < n) (hb : b < n) : Ctr l yX4_isLed cX4_isLed 4 (some .boolean) R00 G [.ref (c 0 a), .ref (c 0 b)] L f (fun vv L1 f1 => vv = some (.int (bI (ledN OU 16 (some a) b))) ∧ L = L1 ∧ f = f1) := by
  refine g_enter RX4 false (by decide) rfl (fun h => by cases h) (Nat.le_of_ble_eq_true rfl) (fun C hC => ?_)
  refine (show V C 4 L f 0 0 0 [(0, .ref (c 0 a)), (1, .ref (c 0 b))] [] from ?_)
  have K : ∀ (m s : Nat) (x : Option Nat), s + m = 16 → (∀ o, x = some o → o < n) → ledN OU m x b = ledN OU 16 (some a) b → V C 4 L f 0 0 4 [(3, .int (nI s)), (2, va_rf (x.map (c 0))), (0, .ref (c 0 a)), (1, .ref (c 0 b))] [] := by
    intro m
    induction m with
    | zero =>
      intro s x hs hx hr
      have hs1 : s = 16 := by omega
      subst hs1
      refine g_iload_n hC dX4_isLed_4 0 rfl ?_
      refine g_bipush hC 16 dX4_isLed_5 (by decide) ?_
      refine g_icmp_ge hC 32 dX4_isLed_7 (by decide) (fun _ => ?_) (fun c => absurd (by decide) c)
      refine g_iconst hC 0 dX4_isLed_32 (by decide) ?_
      exact g_iret hC dX4_isLed_33 rfl rfl ⟨by rw [← hr]; rfl, rfl, rfl⟩ (Nat.zero_le _) (Nat.zero_le _)
    | succ m ih =>
      intro s x hs hx hr
      refine g_iload_n hC dX4_isLed_4 0 rfl ?_
      refine g_bipush hC 16 dX4_isLed_5 (by decide) ?_
      refine g_icmp_ge hC 32 dX4_isLed_7 (by decide) (fun c => absurd (show nI 16 ≤ nI s from c) (nI_ge (by omega) (by decide))) (fun _ => ?_)
      rcases x with _ | o
      · refine g_aload_nN hC dX4_isLed_10 1 rfl ?_
        refine g_ifnullN hC 32 dX4_isLed_11 (by decide) ?_
        refine g_iconst hC 0 dX4_isLed_32 (by decide) ?_
        exact g_iret hC dX4_isLed_33 rfl rfl ⟨by rw [← hr]; rfl, rfl, rfl⟩ (Nat.zero_le _) (Nat.zero_le _)
      · have ho := hx o rfl
        refine (show V C 4 L f 0 0 10 [(3, .int (nI s)), (2, .ref (c 0 o)), (0, .ref (c 0 a)), (1, .ref (c 0 b))] [] from ?_)
        refine g_aload_n hC dX4_isLed_10 1 rfl ?_
        refine g_ifnull hC dX4_isLed_11 ?_
        refine g_aload_n hC dX4_isLed_14 1 rfl ?_
        refine g_aload_n hC dX4_isLed_15 3 rfl ?_
        refine g_acmp_ne hC 21 dX4_isLed_16 (by decide) (fun q => ?_) (fun q => ?_)
        · have hob : ¬ o = b := fun z => q (by rw [z])
          have hr1 : ledN OU m (OU o) b = ledN OU 16 (some a) b := by rw [← hr]; simp only [ledN, if_neg hob]
          refine g_aload_n hC dX4_isLed_21 1 rfl ?_
          refine g_getN hC (kf := 15) (TT := TX0) (N := 16) (Cn := RX0) dX4_isLed_22 (CI.lp hI ho).1.1 (CI.lp hI ho).1.2 rfl q_u0 (by decide) q_fn_X4_91 rfl rfl ?_
          rcases hoo : OU o with _ | o2
          · refine (show V C 4 L f 0 0 25 [(3, .int (nI s)), (2, .ref (c 0 o)), (0, .ref (c 0 a)), (1, .ref (c 0 b))] [.null] from ?_)
            refine g_astore_nN hC (lv1 := [(2, .null), (3, .int (nI s)), (0, .ref (c 0 a)), (1, .ref (c 0 b))]) dX4_isLed_25 (by decide) rfl ?_
            refine g_iinc hC (v := nI (s + 1)) (lv1 := [(3, .int (nI (s + 1))), (2, .null), (0, .ref (c 0 a)), (1, .ref (c 0 b))]) dX4_isLed_26 1 rfl (by rw [nI_succ]; rfl) (by decide) rfl ?_
            refine g_goto hC 4 dX4_isLed_29 (by decide) ?_
            exact ih (s + 1) none (by omega) (fun o h => by cases h) (by rw [← hoo]; exact hr1)
          · refine (show V C 4 L f 0 0 25 [(3, .int (nI s)), (2, .ref (c 0 o)), (0, .ref (c 0 a)), (1, .ref (c 0 b))] [.ref (c 0 o2)] from ?_)
            refine g_astore_n hC (lv1 := [(2, .ref (c 0 o2)), (3, .int (nI s)), (0, .ref (c 0 a)), (1, .ref (c 0 b))]) dX4_isLed_25 (by decide) rfl ?_
            refine g_iinc hC (v := nI (s + 1)) (lv1 := [(3, .int (nI (s + 1))), (2, .ref (c 0 o2)), (0, .ref (c 0 a)), (1, .ref (c 0 b))]) dX4_isLed_26 1 rfl (by rw [nI_succ]; rfl) (by decide) rfl ?_
            refine g_goto hC 4 dX4_isLed_29 (by decide) ?_
            exact ih (s + 1) (some o2) (by omega) (fun o3 h => by cases h; exact hI.2.2.2.2.2.2.2.1 o o2 ho hoo) (by rw [← hoo]; exact hr1)
        · have hob : o = b := (hI.2.2.2.2.2.2.2.2 0 0 o b (by decide) (by decide) ho hb q).2
          have hr1 : ledN OU 16 (some a) b = true := by rw [← hr]; simp only [ledN, if_pos hob]
          refine g_iconst hC 1 dX4_isLed_19 (by decide) ?_
          exact g_iret hC dX4_isLed_20 rfl rfl ⟨by rw [hr1]; rfl, rfl, rfl⟩ (Nat.zero_le _) (Nat.zero_le _)
  refine g_aload_n hC dX4_isLed_0 0 rfl ?_
  refine g_astore_n hC (lv1 := [(2, .ref (c 0 a)), (0, .ref (c 0 a)), (1, .ref (c 0 b))]) dX4_isLed_1 (by decide) rfl ?_
  refine g_iconst hC (nI 0) dX4_isLed_2 (by decide) ?_
  refine g_istore_n hC (lv1 := [(3, .int (nI 0)), (2, .ref (c 0 a)), (0, .ref (c 0 a)), (1, .ref (c 0 b))]) dX4_isLed_3 (by decide) rfl ?_
  exact K 16 0 (some a) rfl (fun o h => by cases h; exact ha) rfl
set_option maxHeartbeats 4000000 in
set_option maxRecDepth 100000 in
/-- cascade(outer, inner) -/
theorem ct_X4_cascade (l : Launch) (G : GD) (L : List Nat) (f : Nat → va_E) {c : Nat → Nat → Nat} {n k : Nat} {X : Nat → Nat → UInt64} {XS : Nat → UInt64} {Z : Nat → Nat → Int32} {OU : Nat → Option Nat} {SL : Nat → Nat} (hI : CI G c n k X XS Z OU SL L f) (kx ky : Int32) : Ctr l yX4_cascade cX4_cascade 5 (some .boolean) { frames := 1, cells := 0, slots := 0, locals := 30 } G [.ref (c 6 0), .int kx, .int ky] L f (fun vv L1 f1 => L = L1 ∧ (((∀ a b, a < n → b < n → kx = nI a → ky = nI b → ledN OU 16 (some a) b = true) ∧ vv = some (.int 0) ∧ f = f1) ∨ (∃ a b, a < n ∧ b < n ∧ kx = nI a ∧ ky = nI b ∧ ledN OU 16 (some a) b = false ∧ vv = some (.int 1) ∧ FRc L f f1 ∧ CI G c n k X XS Z (va_up OU b (some a)) SL L f1))) := by
  refine g_enter RX4 false (by decide) rfl (fun h => by cases h) (Nat.le_of_ble_eq_true rfl) (fun C hC => ?_)
  refine (show V C 5 L f 0 0 0 [(0, .ref (c 6 0)), (1, .int kx), (2, .int ky)] [] from ?_)
  refine g_aload_n hC dX4_cascade_0 0 rfl ?_
  refine g_iload_n hC dX4_cascade_1 1 rfl ?_
  refine g_callV hC (Cn := RX4) (TT := TX4) (N := 4) dX4_cascade_2 (ct_X4_findLoop l G L f hI kx) q_code_X4_findLoop q_ml_X4_32 q_im_X4_findLoop q_sel_X4_findLoop q_init_X4 ⟨rfl, by decide, by decide, (show (parseMethodDescriptor yX4_findLoop.desc).map (fun d => d.parameters.length) = some 1 from by decide +kernel)⟩ (CI.hm hI) (CI.h0 hI) rfl (by decide) (by decide) (Nat.le_of_ble_eq_true rfl) (fun v2 L3 f4 hp1 => ?_)
  obtain ⟨rfl, rfl, ⟨rfl, hno_i⟩ | ⟨i, hi, rfl, rfl⟩⟩ := hp1
  · refine (show V C 5 L f 0 0 5 [(0, .ref (c 6 0)), (1, .int kx), (2, .int ky)] [.null] from ?_)
    refine g_astore_nN hC (lv1 := [(3, .null), (0, .ref (c 6 0)), (1, .int kx), (2, .int ky)]) dX4_cascade_5 (by decide) rfl ?_
    refine g_aload_n hC dX4_cascade_6 1 rfl ?_
    refine g_iload_n hC dX4_cascade_7 3 rfl ?_
    refine g_callV hC (Cn := RX4) (TT := TX4) (N := 4) dX4_cascade_8 (ct_X4_findLoop l G L f hI ky) q_code_X4_findLoop q_ml_X4_32 q_im_X4_findLoop q_sel_X4_findLoop q_init_X4 ⟨rfl, by decide, by decide, (show (parseMethodDescriptor yX4_findLoop.desc).map (fun d => d.parameters.length) = some 1 from by decide +kernel)⟩ (CI.hm hI) (CI.h0 hI) rfl (by decide) (by decide) (Nat.le_of_ble_eq_true rfl) (fun v6 L7 f8 hp5 => ?_)
    obtain ⟨rfl, rfl, ⟨rfl, hno_i2⟩ | ⟨i2, hi2, rfl, rfl⟩⟩ := hp5
    · refine (show V C 5 L f 0 0 11 [(3, .null), (0, .ref (c 6 0)), (1, .int kx), (2, .int ky)] [.null] from ?_)
      refine g_astoreN hC (lv1 := [(4, .null), (3, .null), (0, .ref (c 6 0)), (1, .int kx), (2, .int ky)]) dX4_cascade_11 (by decide) rfl ?_
      refine g_aload_nN hC dX4_cascade_13 1 rfl ?_
      refine g_ifnullN hC 31 dX4_cascade_14 (by decide) ?_
      refine g_iconst hC 0 dX4_cascade_31 (by decide) ?_
      exact g_iret hC dX4_cascade_32 rfl rfl ⟨rfl, Or.inl ⟨fun a b h1 _ q _ => absurd q (hno_i a h1), rfl, rfl⟩⟩ (Nat.zero_le _) (Nat.zero_le _)
    · refine (show V C 5 L f 0 0 11 [(3, .null), (0, .ref (c 6 0)), (1, .int kx), (2, .int (nI i2))] [.ref (c 0 i2)] from ?_)
      refine g_astore hC (lv1 := [(4, .ref (c 0 i2)), (3, .null), (0, .ref (c 6 0)), (1, .int kx), (2, .int (nI i2))]) dX4_cascade_11 (by decide) rfl ?_
      refine g_aload_nN hC dX4_cascade_13 1 rfl ?_
      refine g_ifnullN hC 31 dX4_cascade_14 (by decide) ?_
      refine g_iconst hC 0 dX4_cascade_31 (by decide) ?_
      exact g_iret hC dX4_cascade_32 rfl rfl ⟨rfl, Or.inl ⟨fun a b h1 _ q _ => absurd q (hno_i a h1), rfl, rfl⟩⟩ (Nat.zero_le _) (Nat.zero_le _)
  · refine (show V C 5 L f 0 0 5 [(0, .ref (c 6 0)), (1, .int (nI i)), (2, .int ky)] [.ref (c 0 i)] from ?_)
    refine g_astore_n hC (lv1 := [(3, .ref (c 0 i)), (0, .ref (c 6 0)), (1, .int (nI i)), (2, .int ky)]) dX4_cascade_5 (by decide) rfl ?_
    refine g_aload_n hC dX4_cascade_6 1 rfl ?_
    refine g_iload_n hC dX4_cascade_7 3 rfl ?_
    refine g_callV hC (Cn := RX4) (TT := TX4) (N := 4) dX4_cascade_8 (ct_X4_findLoop l G L f hI ky) q_code_X4_findLoop q_ml_X4_32 q_im_X4_findLoop q_sel_X4_findLoop q_init_X4 ⟨rfl, by decide, by decide, (show (parseMethodDescriptor yX4_findLoop.desc).map (fun d => d.parameters.length) = some 1 from by decide +kernel)⟩ (CI.hm hI) (CI.h0 hI) rfl (by decide) (by decide) (Nat.le_of_ble_eq_true rfl) (fun v10 L11 f12 hp9 => ?_)
    obtain ⟨rfl, rfl, ⟨rfl, hno_i2⟩ | ⟨i2, hi2, rfl, rfl⟩⟩ := hp9
    · refine (show V C 5 L f 0 0 11 [(3, .ref (c 0 i)), (0, .ref (c 6 0)), (1, .int (nI i)), (2, .int ky)] [.null] from ?_)
      refine g_astoreN hC (lv1 := [(4, .null), (3, .ref (c 0 i)), (0, .ref (c 6 0)), (1, .int (nI i)), (2, .int ky)]) dX4_cascade_11 (by decide) rfl ?_
      refine g_aload_n hC dX4_cascade_13 1 rfl ?_
      refine g_ifnull hC dX4_cascade_14 ?_
      refine g_aloadN hC dX4_cascade_17 0 rfl ?_
      refine g_ifnullN hC 31 dX4_cascade_19 (by decide) ?_
      refine g_iconst hC 0 dX4_cascade_31 (by decide) ?_
      exact g_iret hC dX4_cascade_32 rfl rfl ⟨rfl, Or.inl ⟨fun a b _ h2 _ q => absurd q (hno_i2 b h2), rfl, rfl⟩⟩ (Nat.zero_le _) (Nat.zero_le _)
    · refine (show V C 5 L f 0 0 11 [(3, .ref (c 0 i)), (0, .ref (c 6 0)), (1, .int (nI i)), (2, .int (nI i2))] [.ref (c 0 i2)] from ?_)
      refine g_astore hC (lv1 := [(4, .ref (c 0 i2)), (3, .ref (c 0 i)), (0, .ref (c 6 0)), (1, .int (nI i)), (2, .int (nI i2))]) dX4_cascade_11 (by decide) rfl ?_
      refine g_aload_n hC dX4_cascade_13 1 rfl ?_
      refine g_ifnull hC dX4_cascade_14 ?_
      refine g_aload hC dX4_cascade_17 0 rfl ?_
      refine g_ifnull hC dX4_cascade_19 ?_
      refine g_aload_n hC dX4_cascade_22 1 rfl ?_
      refine g_aload hC dX4_cascade_23 0 rfl ?_
      refine g_callS hC dX4_cascade_25 (ct_X4_isLed l G L f hI hi hi2) q_code_X4_isLed q_ml_X4_87 q_st_X4_isLed q_init_X4 ⟨by decide, by decide, (show (parseMethodDescriptor yX4_isLed.desc).map (fun d => d.parameters.length) = some 2 from by decide +kernel)⟩ (by decide) (by decide) (Nat.le_of_ble_eq_true rfl) (fun v14 L15 f16 hp13 => ?_)
      obtain ⟨rfl, rfl, rfl⟩ := hp13
      refine (show V C 5 L f 0 0 28 [(4, .ref (c 0 i2)), (3, .ref (c 0 i)), (0, .ref (c 6 0)), (1, .int (nI i)), (2, .int (nI i2))] [.int (bI (ledN OU 16 (some i) i2))] from ?_)
      refine g_ifB_eq hC 33 dX4_cascade_28 (by decide) (fun c17 => ?_) (fun c17 => ?_)
      · skip
        refine g_aload hC dX4_cascade_33 0 rfl ?_
        refine g_aload_n hC dX4_cascade_35 1 rfl ?_
        refine g_putN hC (kf := 15) (TT := TX0) (N := 16) (Cn := RX0) (ty0 := tyX0) (fs1 := [.double ((X i2) 0), .double ((X i2) 1), .double ((X i2) 2), .ref (c 1 i2), .ref (c 2 i2), .ref (c 3 i2), .ref (c 4 i2), .double ((X i2) 3), .double ((X i2) 4), .double ((X i2) 5), .double ((X i2) 6), .double ((X i2) 7), .double ((X i2) 8), .int (Z i2 0), .int (Z i2 1), .ref (c 0 i)]) dX4_cascade_36 (CI.lp hI hi2).1.1 (CI.lp hI hi2).1.2 rfl q_u0 (by decide) tyX0_ok nmX0 q_fn_X4_91 rfl rfl rfl rfl rfl (Nat.le_of_ble_eq_true rfl) rfl ?_
        refine g_nm (fun f18 hf19 => ?_)
        have hx20 : f18 (c 0 i2) = .inr (0, [.double ((X i2) 0), .double ((X i2) 1), .double ((X i2) 2), .ref (c 1 i2), .ref (c 2 i2), .ref (c 3 i2), .ref (c 4 i2), .double ((X i2) 3), .double ((X i2) 4), .double ((X i2) 5), .double ((X i2) 6), .double ((X i2) 7), .double ((X i2) 8), .int (Z i2 0), .int (Z i2 1), .ref (c 0 i)]) := by rw [hf19]; exact va_up_self _ _ _
        have hF21 : f18 = va_up f (c 0 i2) (.inr (0, [.double ((X i2) 0), .double ((X i2) 1), .double ((X i2) 2), .ref (c 1 i2), .ref (c 2 i2), .ref (c 3 i2), .ref (c 4 i2), .double ((X i2) 3), .double ((X i2) 4), .double ((X i2) 5), .double ((X i2) 6), .double ((X i2) 7), .double ((X i2) 8), .int (Z i2 0), .int (Z i2 1), .ref (c 0 i)])) := hf19
        refine g_iconst hC 1 dX4_cascade_39 (by decide) ?_
        refine g_iret hC dX4_cascade_40 rfl rfl ⟨rfl, Or.inr ⟨i, i2, hi, hi2, rfl, rfl, c17, rfl, (by rw [hf19]; exact FRc.up _ FRc.rf (CI.lp hI hi2).1.2 rfl), ?_⟩⟩ (Nat.zero_le _) (Nat.zero_le _)
        have h2 := CI.loop hI hi2 (X i2) (Z i2) (some i) (fun _ _ => rfl) (fun _ _ => rfl) (fun o ho => by cases ho; exact hi)
        rw [va_up_id (f := X) rfl, va_up_id (f := Z) rfl] at h2; rw [hF21]; exact h2
      · skip
        refine g_iconst hC 0 dX4_cascade_31 (by decide) ?_
        exact g_iret hC dX4_cascade_32 rfl rfl ⟨rfl, Or.inl ⟨fun a b h1 h2 q q2 => by have q3 := nI_injL (by have := CI.n16 hI; omega) (by have := CI.n16 hI; omega) q; have q4 := nI_injL (by have := CI.n16 hI; omega) (by have := CI.n16 hI; omega) q2; rw [← q3, ← q4]; exact c17, rfl, rfl⟩⟩ (Nat.zero_le _) (Nat.zero_le _)
end
section
/-! new loops and splits in the class's world -/
def xN (p i d : UInt64) : Nat → UInt64 := fun j => if j < 9 then xI p i d j else if j = 10 then 4636737291354636288 else if j = 11 then 13830554455654793216 else if j = 12 then 4607182418800017408 else if j = 13 then 13920209183539462144 else if j = 14 then 4696837146684686336 else 0
theorem CI.frame {G : GD} {c : Nat → Nat → Nat} {n k : Nat} {X : Nat → Nat → UInt64} {XS : Nat → UInt64} {Z : Nat → Nat → Int32} {OU : Nat → Option Nat} {SL : Nat → Nat} {L L1 : List Nat} {f f1 : Nat → va_E} (h : CI G c n k X XS Z OU SL L f) (hL : ∀ a, a ∈ L → a ∈ L1) (hf : FRm L f f1) : CI G c n k X XS Z OU SL L1 f1 := by
  obtain ⟨hn, ⟨a1, b1⟩, ⟨a2, b2⟩, ⟨a3, b3⟩, hne, hl, hs, ho, hj⟩ := h
  have g : ∀ {a : Nat} {e : va_E}, a ∈ L → f a = e → isM e = false → f1 a = e := fun ha he hm => (hf _ ha (by rw [he]; exact hm)).trans he
  refine ⟨hn, ⟨hL _ a1, g a1 b1 rfl⟩, ⟨hL _ a2, g a2 b2 rfl⟩, ⟨hL _ a3, g a3 b3 rfl⟩, hne, fun i hi => ?_, fun j hj1 => ⟨hL _ (hs j hj1).1, g (hs j hj1).1 (hs j hj1).2.1 rfl, (hs j hj1).2.2⟩, ho, hj⟩
  obtain ⟨⟨m0, p0⟩, ⟨m1, p1⟩, ⟨m2, p2⟩, ⟨m3, p3⟩, ⟨m4, p4⟩⟩ := hl i hi
  exact ⟨⟨hL _ m0, g m0 p0 rfl⟩, ⟨hL _ m1, g m1 p1 rfl⟩, ⟨hL _ m2, g m2 p2 rfl⟩, ⟨hL _ m3, g m3 p3 rfl⟩, ⟨hL _ m4, g m4 p4 rfl⟩⟩
def cN (c : Nat → Nat → Nat) (n : Nat) (qs : Nat → Nat) : Nat → Nat → Nat := fun t i => if t < 5 ∧ i = n then qs t else c t i
theorem cN_o {c : Nat → Nat → Nat} {n : Nat} {qs : Nat → Nat} {t i : Nat} (h : i < n) : cN c n qs t i = c t i := by
  unfold cN; rw [if_neg (fun q => by omega)]
theorem cN_5 {c : Nat → Nat → Nat} {n : Nat} {qs : Nat → Nat} {t i : Nat} (h : 5 ≤ t) : cN c n qs t i = c t i := by
  unfold cN; rw [if_neg (fun q => by omega)]
theorem cN_n {c : Nat → Nat → Nat} {n : Nat} {qs : Nat → Nat} {t : Nat} (h : t < 5) : cN c n qs t n = qs t := by
  unfold cN; rw [if_pos ⟨h, rfl⟩]
theorem rowN_N {c : Nat → Nat → Nat} {n : Nat} {qs : Nat → Nat} : va_up (rowN n (c 0)) n (some (qs 0)) = rowN (n + 1) (cN c n qs 0) := by
  funext j
  by_cases h : j = n
  · subst h
    rw [va_up_self]; unfold rowN; rw [if_pos (by omega), cN_n (by decide)]
  · rw [va_up_ne _ _ h]
    unfold rowN
    by_cases h2 : j < n
    · rw [if_pos h2, if_pos (by omega), cN_o h2]
    · rw [if_neg h2, if_neg (by omega)]
theorem CI.newloop {G : GD} {c : Nat → Nat → Nat} {n k : Nat} {X : Nat → Nat → UInt64} {XS : Nat → UInt64} {Z : Nat → Nat → Int32} {OU : Nat → Option Nat} {SL : Nat → Nat} {L L1 : List Nat} {f f1 : Nat → va_E} (h : CI G c n k X XS Z OU SL L f) (hn : n < 16) (qs : Nat → Nat) (p i d : UInt64) (hL : ∀ a, a ∈ L → a ∈ L1) (hq : ∀ t, t < 5 → qs t ∉ L ∧ qs t ∈ L1) (hqj : ∀ t t1, t < 5 → t1 < 5 → qs t = qs t1 → t = t1)
    (h0 : f1 (c 6 0) = eLw (c 6 1) (c 6 2) (n + 1) k) (h1 : f1 (c 6 1) = aRf G.2.2.2.2.1 (va_up (rowN n (c 0)) n (some (qs 0)))) (hf : ∀ b, b ∈ L → b ≠ c 6 0 → b ≠ c 6 1 → f1 b = f b)
    (e0 : f1 (qs 0) = eLp (xI p i d) 0 0 (qs 1) (qs 2) (qs 3) (qs 4) none) (e1 : f1 (qs 1) = eSp 0 4636737291354636288) (e2 : f1 (qs 2) = eSp 13830554455654793216 4607182418800017408) (e3 : f1 (qs 3) = eSp 13920209183539462144 4696837146684686336) (e4 : f1 (qs 4) = eTn 0 0 0 0 0 0 0) :
    CI G (cN c n qs) (n + 1) k (va_up X n (xN p i d)) XS (va_up Z n (fun _ => 0)) (va_up OU n none) SL L1 f1 := by
  obtain ⟨hn0, ⟨a1, b1⟩, ⟨a2, b2⟩, ⟨a3, b3⟩, hne, hl, hs, ho, hj⟩ := h
  have g : ∀ {a : Nat} {e : va_E}, a ∈ L → f a = e → (∀ la sa x y, e ≠ eLw la sa x y) → (∀ cA r, e ≠ aRf cA r) → f1 a = e := fun {a e} ha he x1 x2 => (hf a ha (fun z => x1 _ _ _ _ (he.symm.trans ((congrArg f z).trans b1))) (fun z => x2 _ _ (he.symm.trans ((congrArg f z).trans b2)))).trans he
  refine ⟨⟨by omega, hn0.2⟩, ?_, ?_, ?_, by rw [cN_5 (by decide), cN_5 (by decide)]; exact hne, fun j hj1 => ?_, fun j hj1 => ?_, ?_, ?_⟩
  · rw [cN_5 (by decide), cN_5 (by decide), cN_5 (by decide)]; exact ⟨hL _ a1, h0⟩
  · rw [cN_5 (by decide), ← rowN_N]; exact ⟨hL _ a2, h1⟩
  · rw [cN_5 (by decide)]
    refine ⟨hL _ a3, ?_⟩
    have hr : cN c n qs 5 = c 5 := funext fun j => cN_5 (by decide)
    rw [hr]
    exact (hf _ a3 (fun z => by rw [z, b1] at b3; cases b3) (fun z => hne z.symm)).trans b3
  · rcases Nat.lt_or_ge j n with q | q
    · obtain ⟨⟨m0, p0⟩, ⟨m1, p1⟩, ⟨m2, p2⟩, ⟨m3, p3⟩, ⟨m4, p4⟩⟩ := hl j q
      have q1 : j ≠ n := by omega
      simp only [CIl, cN_o q, va_up_ne _ _ q1]
      have ho2 : (OU j).map (cN c n qs 0) = (OU j).map (c 0) := by
        cases hoo : OU j with
        | none => rfl
        | some o => simp only [Option.map]; rw [cN_o (ho j o q hoo)]
      rw [ho2]
      exact ⟨⟨hL _ m0, g m0 p0 (fun _ _ _ _ z => by cases z) (fun _ _ z => by cases z)⟩, ⟨hL _ m1, g m1 p1 (fun _ _ _ _ z => by cases z) (fun _ _ z => by cases z)⟩, ⟨hL _ m2, g m2 p2 (fun _ _ _ _ z => by cases z) (fun _ _ z => by cases z)⟩, ⟨hL _ m3, g m3 p3 (fun _ _ _ _ z => by cases z) (fun _ _ z => by cases z)⟩, ⟨hL _ m4, g m4 p4 (fun _ _ _ _ z => by cases z) (fun _ _ z => by cases z)⟩⟩
    · have q1 : j = n := by omega
      subst q1
      simp only [CIl, va_up_self]
      rw [cN_n (t := 0) (by decide), cN_n (t := 1) (by decide), cN_n (t := 2) (by decide), cN_n (t := 3) (by decide), cN_n (t := 4) (by decide)]
      exact ⟨⟨(hq 0 (by decide)).2, e0⟩, ⟨(hq 1 (by decide)).2, e1⟩, ⟨(hq 2 (by decide)).2, e2⟩, ⟨(hq 3 (by decide)).2, e3⟩, ⟨(hq 4 (by decide)).2, e4⟩⟩
  · obtain ⟨m, q, r⟩ := hs j hj1
    rw [cN_5 (by decide), cN_o r]
    exact ⟨hL _ m, g m q (fun _ _ _ _ z => by cases z) (fun _ _ z => by cases z), by omega⟩
  · intro j o hj1 he
    by_cases q : j = n
    · subst q; rw [va_up_self] at he; cases he
    · rw [va_up_ne _ _ q] at he
      have := ho j o (by omega) he
      omega
  · intro t t1 j j1 ht ht1 hj1 hj2 he
    by_cases q : j = n
    · by_cases q1 : j1 = n
      · subst q; subst q1
        rw [cN_n ht, cN_n ht1] at he
        exact ⟨hqj t t1 ht ht1 he, rfl⟩
      · subst q
        rw [cN_n ht, cN_o (by omega)] at he
        exfalso
        have hm : c t1 j1 ∈ L := by
          obtain ⟨⟨m0, -⟩, ⟨m1, -⟩, ⟨m2, -⟩, ⟨m3, -⟩, ⟨m4, -⟩⟩ := hl j1 (by omega)
          rcases (by omega : t1 = 0 ∨ t1 = 1 ∨ t1 = 2 ∨ t1 = 3 ∨ t1 = 4) with rfl | rfl | rfl | rfl | rfl <;> assumption
        exact (hq t ht).1 (he ▸ hm)
    · by_cases q1 : j1 = n
      · subst q1
        rw [cN_n ht1, cN_o (by omega)] at he
        exfalso
        have hm : c t j ∈ L := by
          obtain ⟨⟨m0, -⟩, ⟨m1, -⟩, ⟨m2, -⟩, ⟨m3, -⟩, ⟨m4, -⟩⟩ := hl j (by omega)
          rcases (by omega : t = 0 ∨ t = 1 ∨ t = 2 ∨ t = 3 ∨ t = 4) with rfl | rfl | rfl | rfl | rfl <;> assumption
        exact (hq t1 ht1).1 (he ▸ hm)
      · rw [cN_o (by omega), cN_o (by omega)] at he
        exact hj t t1 j j1 ht ht1 (by omega) (by omega) he
def cS (c : Nat → Nat → Nat) (k q : Nat) : Nat → Nat → Nat := fun t i => if t = 5 ∧ i = k then q else c t i
theorem cS_n5 {c : Nat → Nat → Nat} {k q t i : Nat} (h : t ≠ 5) : cS c k q t i = c t i := by
  unfold cS; rw [if_neg (fun z => h z.1)]
theorem cS_o {c : Nat → Nat → Nat} {k q i : Nat} (h : i ≠ k) : cS c k q 5 i = c 5 i := by
  unfold cS; rw [if_neg (fun z => h z.2)]
theorem cS_k {c : Nat → Nat → Nat} {k q : Nat} : cS c k q 5 k = q := by
  unfold cS; rw [if_pos ⟨rfl, rfl⟩]
theorem rowN_S {c : Nat → Nat → Nat} {k q : Nat} : va_up (rowN k (c 5)) k (some q) = rowN (k + 1) (cS c k q 5) := by
  funext j
  by_cases h : j = k
  · subst h
    rw [va_up_self]; unfold rowN; rw [if_pos (by omega), cS_k]
  · rw [va_up_ne _ _ h]
    unfold rowN
    by_cases h2 : j < k
    · rw [if_pos h2, if_pos (by omega), cS_o h]
    · rw [if_neg h2, if_neg (by omega)]
theorem CI.newsplit {G : GD} {c : Nat → Nat → Nat} {n k : Nat} {X : Nat → Nat → UInt64} {XS : Nat → UInt64} {Z : Nat → Nat → Int32} {OU : Nat → Option Nat} {SL : Nat → Nat} {L L1 : List Nat} {f f1 : Nat → va_E} (h : CI G c n k X XS Z OU SL L f) (hk : k < 16) (q i : Nat) (hi : i < n) (at0 : UInt64) (hL : ∀ a, a ∈ L → a ∈ L1) (hq : q ∈ L1)
    (h0 : f1 (c 6 0) = eLw (c 6 1) (c 6 2) n (k + 1)) (h1 : f1 (c 6 2) = aRf G.2.2.2.2.2 (va_up (rowN k (c 5)) k (some q))) (hf : ∀ b, b ∈ L → b ≠ c 6 0 → b ≠ c 6 2 → f1 b = f b) (e0 : f1 q = eSt (c 0 i) at0) :
    CI G (cS c k q) n (k + 1) X (va_up XS k at0) Z OU (va_up SL k i) L1 f1 := by
  obtain ⟨hn0, ⟨a1, b1⟩, ⟨a2, b2⟩, ⟨a3, b3⟩, hne, hl, hs, ho, hj⟩ := h
  have g : ∀ {a : Nat} {e : va_E}, a ∈ L → f a = e → (∀ la sa x y, e ≠ eLw la sa x y) → (∀ cA r, e ≠ aRf cA r) → f1 a = e := fun {a e} ha he x1 x2 => (hf a ha (fun z => x1 _ _ _ _ (he.symm.trans ((congrArg f z).trans b1))) (fun z => x2 _ _ (he.symm.trans ((congrArg f z).trans b3)))).trans he
  have n0 : ∀ i, cS c k q 0 i = c 0 i := fun i => cS_n5 (by decide)
  have n1 : ∀ i, cS c k q 1 i = c 1 i := fun i => cS_n5 (by decide)
  have n2 : ∀ i, cS c k q 2 i = c 2 i := fun i => cS_n5 (by decide)
  have n3 : ∀ i, cS c k q 3 i = c 3 i := fun i => cS_n5 (by decide)
  have n4 : ∀ i, cS c k q 4 i = c 4 i := fun i => cS_n5 (by decide)
  have n6 : ∀ i, cS c k q 6 i = c 6 i := fun i => cS_n5 (by decide)
  have m0 : cS c k q 0 = c 0 := funext n0
  refine ⟨⟨hn0.1, by omega⟩, ?_, ?_, ?_, by rw [n6, n6]; exact hne, fun j hj1 => ?_, fun j hj1 => ?_, ho, ?_⟩
  · rw [n6, n6, n6]; exact ⟨hL _ a1, h0⟩
  · rw [n6, m0]; exact ⟨hL _ a2, (hf _ a2 (fun z => by rw [z, b1] at b2; cases b2) hne).trans b2⟩
  · rw [n6, ← rowN_S]; exact ⟨hL _ a3, h1⟩
  · obtain ⟨⟨m0, p0⟩, ⟨m1, p1⟩, ⟨m2, p2⟩, ⟨m3, p3⟩, ⟨m4, p4⟩⟩ := hl j hj1
    have mm : cS c k q 0 = c 0 := funext n0
    simp only [CIl, n0, n1, n2, n3, n4, mm]
    exact ⟨⟨hL _ m0, g m0 p0 (fun _ _ _ _ z => by cases z) (fun _ _ z => by cases z)⟩, ⟨hL _ m1, g m1 p1 (fun _ _ _ _ z => by cases z) (fun _ _ z => by cases z)⟩, ⟨hL _ m2, g m2 p2 (fun _ _ _ _ z => by cases z) (fun _ _ z => by cases z)⟩, ⟨hL _ m3, g m3 p3 (fun _ _ _ _ z => by cases z) (fun _ _ z => by cases z)⟩, ⟨hL _ m4, g m4 p4 (fun _ _ _ _ z => by cases z) (fun _ _ z => by cases z)⟩⟩
  · by_cases z : j = k
    · subst z
      rw [cS_k, va_up_self, va_up_self, n0]
      exact ⟨hq, e0, hi⟩
    · obtain ⟨m, p, r⟩ := hs j (by omega)
      rw [cS_o z, va_up_ne _ _ z, va_up_ne _ _ z, n0]
      exact ⟨hL _ m, g m p (fun _ _ _ _ z => by cases z) (fun _ _ z => by cases z), r⟩
  · intro t t1 j j1 ht ht1 hj1 hj2 he
    rw [cS_n5 (by omega), cS_n5 (by omega)] at he
    exact hj t t1 j j1 ht ht1 hj1 hj2 he
def cI (h0 la sa : Nat) : Nat → Nat → Nat := fun t i => if t = 6 then (if i = 0 then h0 else if i = 1 then la else sa) else 0
theorem CI.init {G : GD} {X : Nat → Nat → UInt64} {XS : Nat → UInt64} {Z : Nat → Nat → Int32} {OU : Nat → Option Nat} {SL : Nat → Nat} {L : List Nat} {f : Nat → va_E} {h0 la sa : Nat} (m0 : h0 ∈ L) (m1 : la ∈ L) (m2 : sa ∈ L) (hne : la ≠ sa) (e0 : f h0 = .inr (4, [.ref la, .ref sa, .int 0, .int 0])) (e1 : f la = aRf G.2.2.2.2.1 (fun _ => none)) (e2 : f sa = aRf G.2.2.2.2.2 (fun _ => none)) : CI G (cI h0 la sa) 0 0 X XS Z OU SL L f := by
  have r : ∀ g : Nat → Nat, rowN 0 g = fun _ => none := fun g => funext fun j => by simp [rowN]
  refine ⟨⟨by decide, by decide⟩, ⟨m0, ?_⟩, ⟨m1, ?_⟩, ⟨m2, ?_⟩, hne, fun i hi => absurd hi (Nat.not_lt_zero i), fun i hi => absurd hi (Nat.not_lt_zero i), fun i _ hi => absurd hi (Nat.not_lt_zero i), fun _ _ i _ _ _ hi => absurd hi (Nat.not_lt_zero i)⟩
  · exact e0
  · rw [r]; exact e1
  · rw [r]; exact e2
end
section
def q5 (q q1 q2 q3 q4 : Nat) : Nat → Nat := fun t => if t = 0 then q else if t = 1 then q1 else if t = 2 then q2 else if t = 3 then q3 else q4
theorem q5_ok {L : List Nat} {q q1 q2 q3 q4 : Nat} (h0 : q ∉ L) (h1 : q1 ∉ L ++ [q]) (h2 : q2 ∉ (L ++ [q]) ++ [q1]) (h3 : q3 ∉ ((L ++ [q]) ++ [q1]) ++ [q2]) (h4 : q4 ∉ (((L ++ [q]) ++ [q1]) ++ [q2]) ++ [q3]) :
    (∀ t, t < 5 → q5 q q1 q2 q3 q4 t ∉ L ∧ q5 q q1 q2 q3 q4 t ∈ ((((L ++ [q]) ++ [q1]) ++ [q2]) ++ [q3]) ++ [q4]) ∧ (∀ t t1, t < 5 → t1 < 5 → q5 q q1 q2 q3 q4 t = q5 q q1 q2 q3 q4 t1 → t = t1) ∧ (∀ b, b ∈ L → b ≠ q ∧ b ≠ q1 ∧ b ≠ q2 ∧ b ≠ q3 ∧ b ≠ q4) ∧ (∀ b, b ∈ L → b ∈ ((((L ++ [q]) ++ [q1]) ++ [q2]) ++ [q3]) ++ [q4]) := by
  simp only [List.mem_append, List.mem_singleton, not_or] at h0 h1 h2 h3 h4
  obtain ⟨g1, g2⟩ := h1
  obtain ⟨⟨g3, g4⟩, g5⟩ := h2
  obtain ⟨⟨⟨g6, g7⟩, g8⟩, g9⟩ := h3
  obtain ⟨⟨⟨⟨k1, k2⟩, k3⟩, k4⟩, k5⟩ := h4
  refine ⟨fun t ht => ?_, fun t t1 ht ht1 he => ?_, fun b hb => ⟨fun z => h0 (z ▸ hb), fun z => g1 (z ▸ hb), fun z => g3 (z ▸ hb), fun z => g6 (z ▸ hb), fun z => k1 (z ▸ hb)⟩, fun b hb => by simp only [List.mem_append]; exact Or.inl (Or.inl (Or.inl (Or.inl (Or.inl hb))))⟩
  · rcases (by omega : t = 0 ∨ t = 1 ∨ t = 2 ∨ t = 3 ∨ t = 4) with rfl | rfl | rfl | rfl | rfl <;> simp [q5, *]
  · rcases (by omega : t = 0 ∨ t = 1 ∨ t = 2 ∨ t = 3 ∨ t = 4) with rfl | rfl | rfl | rfl | rfl <;> rcases (by omega : t1 = 0 ∨ t1 = 1 ∨ t1 = 2 ∨ t1 = 3 ∨ t1 = 4) with rfl | rfl | rfl | rfl | rfl <;> first | rfl | (exfalso; simp only [q5] at he; simp at he; first | exact g2 he.symm | exact g2 he | exact g4 he.symm | exact g4 he | exact g5 he.symm | exact g5 he | exact g7 he.symm | exact g7 he | exact g8 he.symm | exact g8 he | exact g9 he.symm | exact g9 he | exact k2 he.symm | exact k2 he | exact k3 he.symm | exact k3 he | exact k4 he.symm | exact k4 he | exact k5 he.symm | exact k5 he)
theorem FRc.of2 {L : List Nat} {f f1 : Nat → va_E} {x y : Nat} (h : ∀ b, b ∈ L → b ≠ x → b ≠ y → f1 b = f b) (hx : isM (f x) = false) (hy : isM (f y) = false) : FRc L f f1 := fun a ha hm => h a ha (fun z => by rw [z, hx] at hm; cases hm) (fun z => by rw [z, hy] at hm; cases hm)
def gnC (p i d : DT) : Bool := gainS p && (gainS i && gainS d)
set_option maxHeartbeats 4000000 in
set_option maxRecDepth 100000 in
/-- loop(p, i, d) -/
theorem ct_X4_loop (l : Launch) (G : GD) (L : List Nat) (f : Nat → va_E) {c : Nat → Nat → Nat} {n k : Nat} {X : Nat → Nat → UInt64} {XS : Nat → UInt64} {Z : Nat → Nat → Int32} {OU : Nat → Option Nat} {SL : Nat → Nat} (hI : CI G c n k X XS Z OU SL L f) (p i d : UInt64) : Ctr l yX4_loop cX4_loop 8 (some .int) { frames := 3, cells := 5, slots := 29, locals := 62 } G [.ref (c 6 0), .double p, .double i, .double d] L f (fun vv L1 f1 => (gnC (dv p) (dv i) (dv d) = false ∧ vv = some (.int (-1)) ∧ L = L1 ∧ f = f1) ∨ (gnC (dv p) (dv i) (dv d) = true ∧ ¬ n < 16 ∧ vv = some (.int (-2)) ∧ L = L1 ∧ f = f1) ∨ (gnC (dv p) (dv i) (dv d) = true ∧ n < 16 ∧ vv = some (.int (nI n)) ∧ (∀ b, b ∈ L → b ∈ L1) ∧ FRc L f f1 ∧ ∃ c1, c1 6 0 = c 6 0 ∧ CI G c1 (n + 1) k (va_up X n (xN p i d)) XS (va_up Z n (fun _ => 0)) (va_up OU n none) SL L1 f1)) := by
  refine g_enter RX4 false (by decide) rfl (fun h => by cases h) (Nat.le_of_ble_eq_true rfl) (fun C hC => ?_)
  refine (show V C 8 L f 0 0 0 [(0, .ref (c 6 0)), (1, .double p), (3, .double i), (5, .double d)] [] from ?_)
  refine g_dload_n hC dX4_loop_0 1 rfl ?_
  refine g_callS hC dX4_loop_1 (ct_X4_isGain l G L f p) q_code_X4_isGain q_ml_X4_21 q_st_X4_isGain q_init_X4 ⟨by decide, by decide, (show (parseMethodDescriptor yX4_isGain.desc).map (fun d => d.parameters.length) = some 1 from by decide +kernel)⟩ (by decide) (by decide) (Nat.le_of_ble_eq_true rfl) (fun v2 L3 f4 hp1 => ?_)
  obtain ⟨rfl, rfl, rfl⟩ := hp1
  refine (show V C 8 L f 0 0 4 [(0, .ref (c 6 0)), (1, .double p), (3, .double i), (5, .double d)] [.int (bI (gainS (dv p)))] from ?_)
  refine g_ifB_eq hC 22 dX4_loop_4 (by decide) (fun c5 => ?_) (fun c5 => ?_)
  · skip
    refine g_iconst hC (-1) dX4_loop_22 (by decide) ?_
    exact g_iret hC dX4_loop_23 rfl rfl (Or.inl ⟨by simp only [gnC, Bool.and_true, Bool.true_and, Bool.and_false, Bool.false_and, Bool.not_true, Bool.not_false, c5], rfl, rfl, rfl⟩) (Nat.zero_le _) (Nat.zero_le _)
  · skip
    refine g_dload_n hC dX4_loop_7 2 rfl ?_
    refine g_callS hC dX4_loop_8 (ct_X4_isGain l G L f i) q_code_X4_isGain q_ml_X4_21 q_st_X4_isGain q_init_X4 ⟨by decide, by decide, (show (parseMethodDescriptor yX4_isGain.desc).map (fun d => d.parameters.length) = some 1 from by decide +kernel)⟩ (by decide) (by decide) (Nat.le_of_ble_eq_true rfl) (fun v7 L8 f9 hp6 => ?_)
    obtain ⟨rfl, rfl, rfl⟩ := hp6
    refine (show V C 8 L f 0 0 11 [(0, .ref (c 6 0)), (1, .double p), (3, .double i), (5, .double d)] [.int (bI (gainS (dv i)))] from ?_)
    refine g_ifB_eq hC 22 dX4_loop_11 (by decide) (fun c10 => ?_) (fun c10 => ?_)
    · skip
      refine g_iconst hC (-1) dX4_loop_22 (by decide) ?_
      exact g_iret hC dX4_loop_23 rfl rfl (Or.inl ⟨by simp only [gnC, Bool.and_true, Bool.true_and, Bool.and_false, Bool.false_and, Bool.not_true, Bool.not_false, c5, c10], rfl, rfl, rfl⟩) (Nat.zero_le _) (Nat.zero_le _)
    · skip
      refine g_dload hC dX4_loop_14 3 rfl ?_
      refine g_callS hC dX4_loop_16 (ct_X4_isGain l G L f d) q_code_X4_isGain q_ml_X4_21 q_st_X4_isGain q_init_X4 ⟨by decide, by decide, (show (parseMethodDescriptor yX4_isGain.desc).map (fun d => d.parameters.length) = some 1 from by decide +kernel)⟩ (by decide) (by decide) (Nat.le_of_ble_eq_true rfl) (fun v12 L13 f14 hp11 => ?_)
      obtain ⟨rfl, rfl, rfl⟩ := hp11
      refine (show V C 8 L f 0 0 19 [(0, .ref (c 6 0)), (1, .double p), (3, .double i), (5, .double d)] [.int (bI (gainS (dv d)))] from ?_)
      refine g_ifB_ne hC 24 dX4_loop_19 (by decide) (fun c15 => ?_) (fun c15 => ?_)
      · skip
        refine g_aload_n hC dX4_loop_24 0 rfl ?_
        refine g_get hC (kf := 2) (TT := TX4) (N := 4) (Cn := RX4) dX4_loop_25 (CI.hm hI) (CI.h0 hI) rfl q_u4 (by decide) q_fl_X4_25 rfl rfl ?_
        refine g_aload_n hC dX4_loop_28 0 rfl ?_
        refine g_get hC (kf := 0) (TT := TX4) (N := 4) (Cn := RX4) dX4_loop_29 (CI.hm hI) (CI.h0 hI) rfl q_u4 (by decide) q_fl_X4_11 rfl rfl ?_
        refine g_alen hC 3 16 dX4_loop_32 (CI.lm hI) (CI.l0 hI) rfl (by decide) ?_
        refine g_icmp_lt hC 39 dX4_loop_33 (by decide) (fun c16 => ?_) (fun c16 => ?_)
        · skip
          have hn : n < 16 := (nI_ltI (b := 16) (by have := CI.n16 hI; omega) (by decide)).mp c16
          have hn16 := CI.n16 hI
          refine g_aload_n hC dX4_loop_39 0 rfl ?_
          refine g_get hC (kf := 2) (TT := TX4) (N := 4) (Cn := RX4) dX4_loop_40 (CI.hm hI) (CI.h0 hI) rfl q_u4 (by decide) q_fl_X4_25 rfl rfl ?_
          refine g_istore hC (lv1 := [(7, .int (nI n)), (0, .ref (c 6 0)), (1, .double p), (3, .double i), (5, .double d)]) dX4_loop_43 (by decide) rfl ?_
          refine g_aload_n hC dX4_loop_45 1 rfl ?_
          refine g_get hC (kf := 0) (TT := TX4) (N := 4) (Cn := RX4) dX4_loop_46 (CI.hm hI) (CI.h0 hI) rfl q_u4 (by decide) q_fl_X4_11 rfl rfl ?_
          refine g_iload hC dX4_loop_49 0 rfl ?_
          refine g_new hC (ci := 0) (N := 16) (Cn := RX0) (TT := TX0) (ty0 := tyX0) [.double 0, .double 0, .double 0, .null, .null, .null, .null, .double 0, .double 0, .double 0, .double 0, .double 0, .double 0, .int 0, .int 0, .null] dX4_loop_51 rfl q_u0 tyX0_ok q_cl_X4_9 q_inst_X0 q_init_X0 dfX0 (Nat.le_of_ble_eq_true rfl) (Nat.le_of_ble_eq_true rfl) (fun q17 hq17 => ?_)
          refine g_nm (fun f18 hf19 => ?_)
          have hx20 : f18 (c 6 0) = .inr (4, [.ref (c 6 1), .ref (c 6 2), .int (nI n), .int (nI k)]) := by rw [hf19, va_up_ne _ _ (ne_new (CI.hm hI) hq17)]; exact (CI.h0 hI)
          have hx21 : f18 q17 = .inr (0, [.double 0, .double 0, .double 0, .null, .null, .null, .null, .double 0, .double 0, .double 0, .double 0, .double 0, .double 0, .int 0, .int 0, .null]) := by rw [hf19]; exact va_up_self _ _ _
          have hx22 : f18 (c 6 1) = aRf G.2.2.2.2.1 (rowN n (c 0)) := by rw [hf19, va_up_ne _ _ (ne_new (CI.lm hI) hq17)]; exact (CI.l0 hI)
          have hF23 : f18 = va_up f q17 (.inr (0, [.double 0, .double 0, .double 0, .null, .null, .null, .null, .double 0, .double 0, .double 0, .double 0, .double 0, .double 0, .int 0, .int 0, .null])) := hf19
          refine (show V C 8 (L ++ [q17]) f18 1 16 54 [(7, .int (nI n)), (0, .ref (c 6 0)), (1, .double p), (3, .double i), (5, .double d)] [.ref q17, .int (nI n), .ref (c 6 1)] from ?_)
          refine g_dup hC dX4_loop_54 rfl ?_
          refine g_dload_n hC dX4_loop_55 2 rfl ?_
          refine g_dload_n hC dX4_loop_56 3 rfl ?_
          refine g_dload hC dX4_loop_57 4 rfl ?_
          refine g_callI hC dX4_loop_59 (ct_X0_init l G (L ++ [q17]) f18 q17 p i d mem_r hx21) q_code_X0_init q_ml_X4_29 q_im_X0_init q_init_X0 ⟨rfl, by decide, by decide, (show (parseMethodDescriptor yX0_init.desc).map (fun d => d.parameters.length) = some 3 from by decide +kernel)⟩ (by decide) (by decide) (Nat.le_of_ble_eq_true rfl) (fun v25 L26 f27 hp24 => ?_)
          obtain ⟨rfl, q1, q2, q3, q4, hn1, hn2, hn3, hn4, rfl, x0, x1, x2, x3, x4, xf⟩ := hp24
          have hy0 : f27 (c 6 0) = .inr (4, [.ref (c 6 1), .ref (c 6 2), .int (nI n), .int (nI k)]) := (xf _ (ne_new (CI.hm hI) hq17) (ne_new (mem_l (CI.hm hI)) hn1) (ne_new (mem_l (mem_l (CI.hm hI))) hn2) (ne_new (mem_l (mem_l (mem_l (CI.hm hI)))) hn3) (ne_new (mem_l (mem_l (mem_l (mem_l (CI.hm hI))))) hn4)).trans hx20
          have hy1 : f27 (c 6 1) = aRf G.2.2.2.2.1 (rowN n (c 0)) := (xf _ (ne_new (CI.lm hI) hq17) (ne_new (mem_l (CI.lm hI)) hn1) (ne_new (mem_l (mem_l (CI.lm hI))) hn2) (ne_new (mem_l (mem_l (mem_l (CI.lm hI)))) hn3) (ne_new (mem_l (mem_l (mem_l (mem_l (CI.lm hI))))) hn4)).trans hx22
          refine (show V C 8 (((((L ++ [q17]) ++ [q1]) ++ [q2]) ++ [q3]) ++ [q4]) f27 5 29 62 [(7, .int (nI n)), (0, .ref (c 6 0)), (1, .double p), (3, .double i), (5, .double d)] [.ref q17, .int (nI n), .ref (c 6 1)] from ?_)
          refine g_lastore hC dX4_loop_62 (mem_l (mem_l (mem_l (mem_l (mem_l (CI.lm hI)))))) hy1 (mem_l (mem_l (mem_l (mem_l mem_r)))) x0 (vp_in_nI (by omega) (by decide)) ?_
          rw [nI_clamp (by omega)]
          refine g_nm (fun f28 hf29 => ?_)
          have hx30 : f28 (c 6 0) = .inr (4, [.ref (c 6 1), .ref (c 6 2), .int (nI n), .int (nI k)]) := by rw [hf29, va_up_ne _ _ (fun z => by have z1 := hy0; rw [z, hy1] at z1; simp at z1)]; exact hy0
          have hx31 : f28 (c 6 1) = aRf G.2.2.2.2.1 (va_up (rowN n (c 0)) n (some q17)) := by rw [hf29]; exact va_up_self _ _ _
          have hF32 : f28 = va_up f27 (c 6 1) (aRf G.2.2.2.2.1 (va_up (rowN n (c 0)) n (some q17))) := hf29
          refine g_aload_n hC dX4_loop_63 1 rfl ?_
          refine g_iload hC dX4_loop_64 0 rfl ?_
          refine g_iconst hC 1 dX4_loop_66 (by decide) ?_
          refine g_iadd hC dX4_loop_67 ?_
          refine g_eqI (nI_1 n) ?_
          refine g_put hC (kf := 2) (TT := TX4) (N := 4) (Cn := RX4) (ty0 := tyX4) (fs1 := [.ref (c 6 1), .ref (c 6 2), .int (nI (n + 1)), .int (nI k)]) dX4_loop_68 (mem_l (mem_l (mem_l (mem_l (mem_l (CI.hm hI)))))) hx30 rfl q_u4 (by decide) tyX4_ok nmX4 q_fl_X4_25 rfl rfl rfl rfl rfl (Nat.le_of_ble_eq_true rfl) rfl ?_
          refine g_nm (fun f33 hf34 => ?_)
          have hx35 : f33 (c 6 0) = .inr (4, [.ref (c 6 1), .ref (c 6 2), .int (nI (n + 1)), .int (nI k)]) := by rw [hf34]; exact va_up_self _ _ _
          have hx36 : f33 (c 6 1) = aRf G.2.2.2.2.1 (va_up (rowN n (c 0)) n (some q17)) := by rw [hf34, va_up_ne _ _ (fun z => by have z1 := hx31; rw [z, hx30] at z1; simp at z1)]; exact hx31
          have hF37 : f33 = va_up (va_up f27 (c 6 1) (aRf G.2.2.2.2.1 (va_up (rowN n (c 0)) n (some q17)))) (c 6 0) (.inr (4, [.ref (c 6 1), .ref (c 6 2), .int (nI (n + 1)), .int (nI k)])) := by rw [hf34, hF32]
          refine g_iload hC dX4_loop_71 0 rfl ?_
          have hq5 := q5_ok hq17 hn1 hn2 hn3 hn4
          have hfr : ∀ b, b ∈ L → b ≠ c 6 0 → b ≠ c 6 1 → f33 b = f b := by
            intro b hb n0 n1
            have hb5 := hq5.2.2.1 b hb
            rw [hF37, va_up_ne _ _ n0, va_up_ne _ _ n1, xf b hb5.1 hb5.2.1 hb5.2.2.1 hb5.2.2.2.1 hb5.2.2.2.2, hF23, va_up_ne _ _ hb5.1]
          have yx0 : f33 q17 = eLp (xI p i d) 0 0 q1 q2 q3 q4 none := (by rw [hF37, va_up_ne _ _ (fun z => by have z1 := x0; rw [z, hy0] at z1; cases z1), va_up_ne _ _ (fun z => by have z1 := x0; rw [z, hy1] at z1; cases z1)]; exact x0)
          have yx1 : f33 q1 = eSp 0 4636737291354636288 := (by rw [hF37, va_up_ne _ _ (fun z => by have z1 := x1; rw [z, hy0] at z1; cases z1), va_up_ne _ _ (fun z => by have z1 := x1; rw [z, hy1] at z1; cases z1)]; exact x1)
          have yx2 : f33 q2 = eSp 13830554455654793216 4607182418800017408 := (by rw [hF37, va_up_ne _ _ (fun z => by have z1 := x2; rw [z, hy0] at z1; cases z1), va_up_ne _ _ (fun z => by have z1 := x2; rw [z, hy1] at z1; cases z1)]; exact x2)
          have yx3 : f33 q3 = eSp 13920209183539462144 4696837146684686336 := (by rw [hF37, va_up_ne _ _ (fun z => by have z1 := x3; rw [z, hy0] at z1; cases z1), va_up_ne _ _ (fun z => by have z1 := x3; rw [z, hy1] at z1; cases z1)]; exact x3)
          have yx4 : f33 q4 = eTn 0 0 0 0 0 0 0 := (by rw [hF37, va_up_ne _ _ (fun z => by have z1 := x4; rw [z, hy0] at z1; cases z1), va_up_ne _ _ (fun z => by have z1 := x4; rw [z, hy1] at z1; cases z1)]; exact x4)
          refine g_iret hC dX4_loop_73 rfl rfl (Or.inr (Or.inr ⟨by simp only [gnC, Bool.and_true, Bool.true_and, Bool.and_false, Bool.false_and, Bool.not_true, Bool.not_false, c5, c10, c15, eq_true c16], hn, rfl, hq5.2.2.2, FRc.of2 hfr (by rw [CI.h0 hI]; rfl) (by rw [CI.l0 hI]; rfl), cN c n (q5 q17 q1 q2 q3 q4), cN_5 (by decide), ?_⟩)) (Nat.le_of_ble_eq_true rfl) (Nat.le_of_ble_eq_true rfl)
          exact CI.newloop hI hn (q5 q17 q1 q2 q3 q4) p i d hq5.2.2.2 hq5.1 hq5.2.1 hx35 (by rw [hF37, va_up_ne _ _ (fun z => by have z1 := hy0; rw [← z, hy1] at z1; cases z1)]; exact va_up_self _ _ _) hfr yx0 yx1 yx2 yx3 yx4
        · skip
          have hn16 := CI.n16 hI
          refine g_bipush hC (-2) dX4_loop_36 (by decide) ?_
          exact g_iret hC dX4_loop_38 rfl rfl (Or.inr (Or.inl ⟨by simp only [gnC, Bool.and_true, Bool.true_and, Bool.and_false, Bool.false_and, Bool.not_true, Bool.not_false, c5, c10, c15, eq_false c16], fun hn => c16 (show nI n < nI 16 from (nI_ltI (by omega) (by decide)).mpr hn), rfl, rfl, rfl⟩)) (Nat.zero_le _) (Nat.zero_le _)
      · skip
        refine g_iconst hC (-1) dX4_loop_22 (by decide) ?_
        exact g_iret hC dX4_loop_23 rfl rfl (Or.inl ⟨by simp only [gnC, Bool.and_true, Bool.true_and, Bool.and_false, Bool.false_and, Bool.not_true, Bool.not_false, c5, c10, c15], rfl, rfl, rfl⟩) (Nat.zero_le _) (Nat.zero_le _)
set_option maxHeartbeats 4000000 in
set_option maxRecDepth 100000 in
/-- split(loop, at) -/
theorem ct_X4_split (l : Launch) (G : GD) (L : List Nat) (f : Nat → va_E) {c : Nat → Nat → Nat} {n k : Nat} {X : Nat → Nat → UInt64} {XS : Nat → UInt64} {Z : Nat → Nat → Int32} {OU : Nat → Option Nat} {SL : Nat → Nat} (hI : CI G c n k X XS Z OU SL L f) (kx : Int32) (at0 : UInt64) : Ctr l yX4_split cX4_split 6 (some .int) { frames := 2, cells := 1, slots := 2, locals := 37 } G [.ref (c 6 0), .int kx, .double at0] L f (fun vv L1 f1 => ((∀ i, i < n → kx = nI i → inS (dv at0) (dv (X i 9)) (dv (X i 10)) = false) ∧ vv = some (.int (-1)) ∧ L = L1 ∧ f = f1) ∨ (∃ i, i < n ∧ kx = nI i ∧ inS (dv at0) (dv (X i 9)) (dv (X i 10)) = true ∧ ¬ k < 16 ∧ vv = some (.int (-2)) ∧ L = L1 ∧ f = f1) ∨ (∃ i, i < n ∧ kx = nI i ∧ inS (dv at0) (dv (X i 9)) (dv (X i 10)) = true ∧ k < 16 ∧ vv = some (.int (nI k)) ∧ (∀ b, b ∈ L → b ∈ L1) ∧ FRc L f f1 ∧ ∃ c1, c1 6 0 = c 6 0 ∧ CI G c1 n (k + 1) X (va_up XS k at0) Z OU (va_up SL k i) L1 f1)) := by
  refine g_enter RX4 false (by decide) rfl (fun h => by cases h) (Nat.le_of_ble_eq_true rfl) (fun C hC => ?_)
  refine (show V C 6 L f 0 0 0 [(0, .ref (c 6 0)), (1, .int kx), (2, .double at0)] [] from ?_)
  refine g_aload_n hC dX4_split_0 0 rfl ?_
  refine g_iload_n hC dX4_split_1 1 rfl ?_
  refine g_callV hC (Cn := RX4) (TT := TX4) (N := 4) dX4_split_2 (ct_X4_findLoop l G L f hI kx) q_code_X4_findLoop q_ml_X4_32 q_im_X4_findLoop q_sel_X4_findLoop q_init_X4 ⟨rfl, by decide, by decide, (show (parseMethodDescriptor yX4_findLoop.desc).map (fun d => d.parameters.length) = some 1 from by decide +kernel)⟩ (CI.hm hI) (CI.h0 hI) rfl (by decide) (by decide) (Nat.le_of_ble_eq_true rfl) (fun v2 L3 f4 hp1 => ?_)
  obtain ⟨rfl, rfl, ⟨rfl, hno_i⟩ | ⟨i, hi, rfl, rfl⟩⟩ := hp1
  · refine (show V C 6 L f 0 0 5 [(0, .ref (c 6 0)), (1, .int kx), (2, .double at0)] [.null] from ?_)
    refine g_astoreN hC (lv1 := [(4, .null), (0, .ref (c 6 0)), (1, .int kx), (2, .double at0)]) dX4_split_5 (by decide) rfl ?_
    refine g_aloadN hC dX4_split_7 0 rfl ?_
    refine g_ifnullN hC 24 dX4_split_9 (by decide) ?_
    refine g_iconst hC (-1) dX4_split_24 (by decide) ?_
    exact g_iret hC dX4_split_25 rfl rfl (Or.inl ⟨fun j hj q => absurd q (hno_i j hj), rfl, rfl, rfl⟩) (Nat.zero_le _) (Nat.zero_le _)
  · refine (show V C 6 L f 0 0 5 [(0, .ref (c 6 0)), (1, .int (nI i)), (2, .double at0)] [.ref (c 0 i)] from ?_)
    refine g_astore hC (lv1 := [(4, .ref (c 0 i)), (0, .ref (c 6 0)), (1, .int (nI i)), (2, .double at0)]) dX4_split_5 (by decide) rfl ?_
    refine g_aload hC dX4_split_7 0 rfl ?_
    refine g_ifnull hC dX4_split_9 ?_
    refine g_aload hC dX4_split_12 0 rfl ?_
    refine g_getN hC (kf := 3) (TT := TX0) (N := 16) (Cn := RX0) dX4_split_14 (CI.lp hI hi).1.1 (CI.lp hI hi).1.2 rfl q_u0 (by decide) q_fn_X4_46 rfl rfl ?_
    refine g_dload_n hC dX4_split_17 3 rfl ?_
    refine g_callV hC (Cn := RX1) (TT := TX1) (N := 2) dX4_split_18 (ct_X1_holdsInside l G L f (c 1 i) (X i 9) (X i 10) at0 (CI.lp hI hi).2.1.1 (CI.lp hI hi).2.1.2) q_code_X1_holdsInside q_ml_X4_95 q_im_X1_holdsInside q_sel_X1_holdsInside q_init_X1 ⟨rfl, by decide, by decide, (show (parseMethodDescriptor yX1_holdsInside.desc).map (fun d => d.parameters.length) = some 1 from by decide +kernel)⟩ (CI.lp hI hi).2.1.1 (CI.lp hI hi).2.1.2 rfl (by decide) (by decide) (Nat.le_of_ble_eq_true rfl) (fun v6 L7 f8 hp5 => ?_)
    obtain ⟨rfl, rfl, rfl⟩ := hp5
    refine (show V C 6 L f 0 0 21 [(4, .ref (c 0 i)), (0, .ref (c 6 0)), (1, .int (nI i)), (2, .double at0)] [.int (bI (inS (dv at0) (dv (X i 9)) (dv (X i 10))))] from ?_)
    refine g_ifB_ne hC 26 dX4_split_21 (by decide) (fun c9 => ?_) (fun c9 => ?_)
    · skip
      have hk16 := CI.k16 hI
      refine g_aload_n hC dX4_split_26 1 rfl ?_
      refine g_get hC (kf := 3) (TT := TX4) (N := 4) (Cn := RX4) dX4_split_27 (CI.hm hI) (CI.h0 hI) rfl q_u4 (by decide) q_fl_X4_98 rfl rfl ?_
      refine g_aload_n hC dX4_split_30 1 rfl ?_
      refine g_get hC (kf := 1) (TT := TX4) (N := 4) (Cn := RX4) dX4_split_31 (CI.hm hI) (CI.h0 hI) rfl q_u4 (by decide) q_fl_X4_17 rfl rfl ?_
      refine g_alen hC 4 16 dX4_split_34 (CI.sm hI) (CI.s0 hI) rfl (by decide) ?_
      refine g_icmp_lt hC 41 dX4_split_35 (by decide) (fun c10 => ?_) (fun c10 => ?_)
      · skip
        have hk : k < 16 := (nI_ltI (b := 16) (by omega) (by decide)).mp c10
        refine g_aload_n hC dX4_split_41 1 rfl ?_
        refine g_get hC (kf := 3) (TT := TX4) (N := 4) (Cn := RX4) dX4_split_42 (CI.hm hI) (CI.h0 hI) rfl q_u4 (by decide) q_fl_X4_98 rfl rfl ?_
        refine g_istore hC (lv1 := [(5, .int (nI k)), (4, .ref (c 0 i)), (0, .ref (c 6 0)), (1, .int (nI i)), (2, .double at0)]) dX4_split_45 (by decide) rfl ?_
        refine g_aload_n hC dX4_split_47 2 rfl ?_
        refine g_get hC (kf := 1) (TT := TX4) (N := 4) (Cn := RX4) dX4_split_48 (CI.hm hI) (CI.h0 hI) rfl q_u4 (by decide) q_fl_X4_17 rfl rfl ?_
        refine g_iload hC dX4_split_51 0 rfl ?_
        refine g_new hC (ci := 2) (N := 2) (Cn := RX2) (TT := TX2) (ty0 := tyX2) [.null, .double 0] dX4_split_53 rfl q_u2 tyX2_ok q_cl_X4_15 q_inst_X2 q_init_X2 dfX2 (Nat.le_of_ble_eq_true rfl) (Nat.le_of_ble_eq_true rfl) (fun q11 hq11 => ?_)
        refine g_nm (fun f12 hf13 => ?_)
        have hx14 : f12 (c 6 0) = .inr (4, [.ref (c 6 1), .ref (c 6 2), .int (nI n), .int (nI k)]) := by rw [hf13, va_up_ne _ _ (ne_new (CI.hm hI) hq11)]; exact (CI.h0 hI)
        have hx15 : f12 (c 0 i) = .inr (0, [.double ((X i) 0), .double ((X i) 1), .double ((X i) 2), .ref (c 1 i), .ref (c 2 i), .ref (c 3 i), .ref (c 4 i), .double ((X i) 3), .double ((X i) 4), .double ((X i) 5), .double ((X i) 6), .double ((X i) 7), .double ((X i) 8), .int (Z i 0), .int (Z i 1), va_rf ((OU i).map (c 0))]) := by rw [hf13, va_up_ne _ _ (ne_new (CI.lp hI hi).1.1 hq11)]; exact (CI.lp hI hi).1.2
        have hx16 : f12 (c 1 i) = .inr (1, [.double (X i 9), .double (X i 10)]) := by rw [hf13, va_up_ne _ _ (ne_new (CI.lp hI hi).2.1.1 hq11)]; exact (CI.lp hI hi).2.1.2
        have hx17 : f12 (c 2 i) = .inr (1, [.double (X i 11), .double (X i 12)]) := by rw [hf13, va_up_ne _ _ (ne_new (CI.lp hI hi).2.2.1.1 hq11)]; exact (CI.lp hI hi).2.2.1.2
        have hx18 : f12 (c 3 i) = .inr (1, [.double (X i 13), .double (X i 14)]) := by rw [hf13, va_up_ne _ _ (ne_new (CI.lp hI hi).2.2.2.1.1 hq11)]; exact (CI.lp hI hi).2.2.2.1.2
        have hx19 : f12 (c 4 i) = .inr (3, [.double (X i 15), .int (Z i 2), .int (Z i 3), .int (Z i 4), .double (X i 16), .double (X i 17), .int (Z i 5)]) := by rw [hf13, va_up_ne _ _ (ne_new (CI.lp hI hi).2.2.2.2.1 hq11)]; exact (CI.lp hI hi).2.2.2.2.2
        have hx20 : f12 q11 = .inr (2, [.null, .double 0]) := by rw [hf13]; exact va_up_self _ _ _
        have hx21 : f12 (c 6 2) = aRf G.2.2.2.2.2 (rowN k (c 5)) := by rw [hf13, va_up_ne _ _ (ne_new (CI.sm hI) hq11)]; exact (CI.s0 hI)
        have hF22 : f12 = va_up f q11 (.inr (2, [.null, .double 0])) := hf13
        refine (show V C 6 (L ++ [q11]) f12 1 2 56 [(5, .int (nI k)), (4, .ref (c 0 i)), (0, .ref (c 6 0)), (1, .int (nI i)), (2, .double at0)] [.ref q11, .int (nI k), .ref (c 6 2)] from ?_)
        refine g_dup hC dX4_split_56 rfl ?_
        refine g_aload hC dX4_split_57 1 rfl ?_
        refine g_dload_n hC dX4_split_59 4 rfl ?_
        refine g_callI hC dX4_split_60 (ct_X2_init l G (L ++ [q11]) f12 q11 (c 0 i) at0 mem_r hx20) q_code_X2_init q_ml_X4_101 q_im_X2_init q_init_X2 ⟨rfl, by decide, by decide, (show (parseMethodDescriptor yX2_init.desc).map (fun d => d.parameters.length) = some 2 from by decide +kernel)⟩ (by decide) (by decide) (Nat.le_of_ble_eq_true rfl) (fun v24 L25 f26 hp23 => ?_)
        obtain ⟨rfl, rfl, hf27⟩ := hp23
        have hx28 : f26 (c 6 0) = .inr (4, [.ref (c 6 1), .ref (c 6 2), .int (nI n), .int (nI k)]) := by rw [hf27, va_up_ne _ _ (ne_new (CI.hm hI) hq11)]; exact hx14
        have hx29 : f26 (c 0 i) = .inr (0, [.double ((X i) 0), .double ((X i) 1), .double ((X i) 2), .ref (c 1 i), .ref (c 2 i), .ref (c 3 i), .ref (c 4 i), .double ((X i) 3), .double ((X i) 4), .double ((X i) 5), .double ((X i) 6), .double ((X i) 7), .double ((X i) 8), .int (Z i 0), .int (Z i 1), va_rf ((OU i).map (c 0))]) := by rw [hf27, va_up_ne _ _ (ne_new (CI.lp hI hi).1.1 hq11)]; exact hx15
        have hx30 : f26 (c 1 i) = .inr (1, [.double (X i 9), .double (X i 10)]) := by rw [hf27, va_up_ne _ _ (ne_new (CI.lp hI hi).2.1.1 hq11)]; exact hx16
        have hx31 : f26 (c 2 i) = .inr (1, [.double (X i 11), .double (X i 12)]) := by rw [hf27, va_up_ne _ _ (ne_new (CI.lp hI hi).2.2.1.1 hq11)]; exact hx17
        have hx32 : f26 (c 3 i) = .inr (1, [.double (X i 13), .double (X i 14)]) := by rw [hf27, va_up_ne _ _ (ne_new (CI.lp hI hi).2.2.2.1.1 hq11)]; exact hx18
        have hx33 : f26 (c 4 i) = .inr (3, [.double (X i 15), .int (Z i 2), .int (Z i 3), .int (Z i 4), .double (X i 16), .double (X i 17), .int (Z i 5)]) := by rw [hf27, va_up_ne _ _ (ne_new (CI.lp hI hi).2.2.2.2.1 hq11)]; exact hx19
        have hx34 : f26 q11 = .inr (2, [.ref (c 0 i), .double at0]) := by rw [hf27]; exact va_up_self _ _ _
        have hx35 : f26 (c 6 2) = aRf G.2.2.2.2.2 (rowN k (c 5)) := by rw [hf27, va_up_ne _ _ (ne_new (CI.sm hI) hq11)]; exact hx21
        have hF36 : f26 = va_up f q11 (.inr (2, [.ref (c 0 i), .double at0])) := by rw [hf27, hF22, va_up_up]
        refine (show V C 6 (L ++ [q11]) f26 1 2 63 [(5, .int (nI k)), (4, .ref (c 0 i)), (0, .ref (c 6 0)), (1, .int (nI i)), (2, .double at0)] [.ref q11, .int (nI k), .ref (c 6 2)] from ?_)
        refine g_pastore hC dX4_split_63 (mem_l (CI.sm hI)) hx35 mem_r hx34 (vp_in_nI (by omega) (by decide)) ?_
        rw [nI_clamp (by omega)]
        refine g_nm (fun f37 hf38 => ?_)
        have hx39 : f37 (c 6 0) = .inr (4, [.ref (c 6 1), .ref (c 6 2), .int (nI n), .int (nI k)]) := by rw [hf38, va_up_ne _ _ (fun z => by have z1 := hx28; rw [z, hx35] at z1; simp at z1)]; exact hx28
        have hx40 : f37 (c 0 i) = .inr (0, [.double ((X i) 0), .double ((X i) 1), .double ((X i) 2), .ref (c 1 i), .ref (c 2 i), .ref (c 3 i), .ref (c 4 i), .double ((X i) 3), .double ((X i) 4), .double ((X i) 5), .double ((X i) 6), .double ((X i) 7), .double ((X i) 8), .int (Z i 0), .int (Z i 1), va_rf ((OU i).map (c 0))]) := by rw [hf38, va_up_ne _ _ (fun z => by have z1 := hx29; rw [z, hx35] at z1; simp at z1)]; exact hx29
        have hx41 : f37 (c 1 i) = .inr (1, [.double (X i 9), .double (X i 10)]) := by rw [hf38, va_up_ne _ _ (fun z => by have z1 := hx30; rw [z, hx35] at z1; simp at z1)]; exact hx30
        have hx42 : f37 (c 2 i) = .inr (1, [.double (X i 11), .double (X i 12)]) := by rw [hf38, va_up_ne _ _ (fun z => by have z1 := hx31; rw [z, hx35] at z1; simp at z1)]; exact hx31
        have hx43 : f37 (c 3 i) = .inr (1, [.double (X i 13), .double (X i 14)]) := by rw [hf38, va_up_ne _ _ (fun z => by have z1 := hx32; rw [z, hx35] at z1; simp at z1)]; exact hx32
        have hx44 : f37 (c 4 i) = .inr (3, [.double (X i 15), .int (Z i 2), .int (Z i 3), .int (Z i 4), .double (X i 16), .double (X i 17), .int (Z i 5)]) := by rw [hf38, va_up_ne _ _ (fun z => by have z1 := hx33; rw [z, hx35] at z1; simp at z1)]; exact hx33
        have hx45 : f37 q11 = .inr (2, [.ref (c 0 i), .double at0]) := by rw [hf38, va_up_ne _ _ (Ne.symm (ne_new (CI.sm hI) hq11))]; exact hx34
        have hx46 : f37 (c 6 2) = aRf G.2.2.2.2.2 (va_up (rowN k (c 5)) k (some q11)) := by rw [hf38]; exact va_up_self _ _ _
        have hF47 : f37 = va_up (va_up f q11 (.inr (2, [.ref (c 0 i), .double at0]))) (c 6 2) (aRf G.2.2.2.2.2 (va_up (rowN k (c 5)) k (some q11))) := by rw [hf38, hF36]
        refine g_aload_n hC dX4_split_64 2 rfl ?_
        refine g_iload hC dX4_split_65 0 rfl ?_
        refine g_iconst hC 1 dX4_split_67 (by decide) ?_
        refine g_iadd hC dX4_split_68 ?_
        refine g_eqI (nI_1 k) ?_
        refine g_put hC (kf := 3) (TT := TX4) (N := 4) (Cn := RX4) (ty0 := tyX4) (fs1 := [.ref (c 6 1), .ref (c 6 2), .int (nI n), .int (nI (k + 1))]) dX4_split_69 (mem_l (CI.hm hI)) hx39 rfl q_u4 (by decide) tyX4_ok nmX4 q_fl_X4_98 rfl rfl rfl rfl rfl (Nat.le_of_ble_eq_true rfl) rfl ?_
        refine g_nm (fun f48 hf49 => ?_)
        have hx50 : f48 (c 6 0) = .inr (4, [.ref (c 6 1), .ref (c 6 2), .int (nI n), .int (nI (k + 1))]) := by rw [hf49]; exact va_up_self _ _ _
        have hx51 : f48 (c 0 i) = .inr (0, [.double ((X i) 0), .double ((X i) 1), .double ((X i) 2), .ref (c 1 i), .ref (c 2 i), .ref (c 3 i), .ref (c 4 i), .double ((X i) 3), .double ((X i) 4), .double ((X i) 5), .double ((X i) 6), .double ((X i) 7), .double ((X i) 8), .int (Z i 0), .int (Z i 1), va_rf ((OU i).map (c 0))]) := by rw [hf49, va_up_ne _ _ (fun z => by have z1 := hx40; rw [z, hx39] at z1; simp at z1)]; exact hx40
        have hx52 : f48 (c 1 i) = .inr (1, [.double (X i 9), .double (X i 10)]) := by rw [hf49, va_up_ne _ _ (fun z => by have z1 := hx41; rw [z, hx39] at z1; simp at z1)]; exact hx41
        have hx53 : f48 (c 2 i) = .inr (1, [.double (X i 11), .double (X i 12)]) := by rw [hf49, va_up_ne _ _ (fun z => by have z1 := hx42; rw [z, hx39] at z1; simp at z1)]; exact hx42
        have hx54 : f48 (c 3 i) = .inr (1, [.double (X i 13), .double (X i 14)]) := by rw [hf49, va_up_ne _ _ (fun z => by have z1 := hx43; rw [z, hx39] at z1; simp at z1)]; exact hx43
        have hx55 : f48 (c 4 i) = .inr (3, [.double (X i 15), .int (Z i 2), .int (Z i 3), .int (Z i 4), .double (X i 16), .double (X i 17), .int (Z i 5)]) := by rw [hf49, va_up_ne _ _ (fun z => by have z1 := hx44; rw [z, hx39] at z1; simp at z1)]; exact hx44
        have hx56 : f48 q11 = .inr (2, [.ref (c 0 i), .double at0]) := by rw [hf49, va_up_ne _ _ (Ne.symm (ne_new (CI.hm hI) hq11))]; exact hx45
        have hx57 : f48 (c 6 2) = aRf G.2.2.2.2.2 (va_up (rowN k (c 5)) k (some q11)) := by rw [hf49, va_up_ne _ _ (fun z => by have z1 := hx46; rw [z, hx39] at z1; simp at z1)]; exact hx46
        have hF58 : f48 = va_up (va_up (va_up f q11 (.inr (2, [.ref (c 0 i), .double at0]))) (c 6 2) (aRf G.2.2.2.2.2 (va_up (rowN k (c 5)) k (some q11)))) (c 6 0) (.inr (4, [.ref (c 6 1), .ref (c 6 2), .int (nI n), .int (nI (k + 1))])) := by rw [hf49, hF47]
        refine g_iload hC dX4_split_72 0 rfl ?_
        have hfr : ∀ b, b ∈ L → b ≠ c 6 0 → b ≠ c 6 2 → f48 b = f b := by
          intro b hb n0 n1
          rw [hF58, va_up_ne _ _ n0, va_up_ne _ _ n1, va_up_ne _ _ (ne_new hb hq11)]
        refine g_iret hC dX4_split_74 rfl rfl (Or.inr (Or.inr ⟨i, hi, rfl, c9, hk, rfl, fun b hb => mem_l hb, FRc.of2 hfr (by rw [CI.h0 hI]; rfl) (by rw [CI.s0 hI]; rfl), cS c k q11, cS_n5 (by decide), ?_⟩)) (Nat.le_of_ble_eq_true rfl) (Nat.le_of_ble_eq_true rfl)
        exact CI.newsplit hI hk q11 i hi at0 (fun b hb => mem_l hb) mem_r hx50 hx57 hfr hx56
      · skip
        refine g_bipush hC (-2) dX4_split_38 (by decide) ?_
        exact g_iret hC dX4_split_40 rfl rfl (Or.inr (Or.inl ⟨i, hi, rfl, c9, fun hn => c10 (show nI k < nI 16 from (nI_ltI (by omega) (by decide)).mpr hn), rfl, rfl, rfl⟩)) (Nat.zero_le _) (Nat.zero_le _)
    · skip
      refine g_iconst hC (-1) dX4_split_24 (by decide) ?_
      exact g_iret hC dX4_split_25 rfl rfl (Or.inl ⟨fun j hj q => by have q1 := nI_injL (by have := CI.n16 hI; omega) (by have := CI.n16 hI; omega) q; subst q1; exact c9, rfl, rfl, rfl⟩) (Nat.zero_le _) (Nat.zero_le _)
set_option maxHeartbeats 4000000 in
set_option maxRecDepth 100000 in
/-- LoopLaws() -/
theorem ct_X4_init (l : Launch) (G : GD) (L : List Nat) (f : Nat → va_E) (a : Nat) (hL_a : a ∈ L) (h0 : f a = .inr (4, [.null, .null, .int 0, .int 0])) : Ctr l yX4_init cX4_init 1 none { frames := 1, cells := 2, slots := 32, locals := 12 } G [.ref a] L f (fun vv L1 f1 => vv = none ∧ (∀ b, b ∈ L → b ∈ L1) ∧ (∀ b, b ∈ L → b ≠ a → f1 b = f b) ∧ ∃ c : Nat → Nat → Nat, c 6 0 = a ∧ ∀ (X : Nat → Nat → UInt64) (XS : Nat → UInt64) (Z : Nat → Nat → Int32) (OU : Nat → Option Nat) (SL : Nat → Nat), CI G c 0 0 X XS Z OU SL L1 f1) := by
  refine g_enter RX4 true (by decide) rfl (fun _ => rfl) (Nat.le_of_ble_eq_true rfl) (fun C hC => ?_)
  refine (show V C 1 L f 0 0 0 [(0, .ref a)] [] from ?_)
  refine g_aload_n hC dX4_init_0 0 rfl ?_
  refine g_objInit hC dX4_init_1 q_ml_X4_1 (by decide) (by decide) ?_
  refine g_aload_n hC dX4_init_4 0 rfl ?_
  refine g_bipush hC 16 dX4_init_5 (by decide) ?_
  refine g_newL hC dX4_init_7 q_cl_X4_9 (Nat.le_of_ble_eq_true rfl) (Nat.le_of_ble_eq_true rfl) (fun q1 hq1 => ?_)
  refine g_nm (fun f2 hf3 => ?_)
  have hx4 : f2 a = .inr (4, [.null, .null, .int 0, .int 0]) := by rw [hf3, va_up_ne _ _ (ne_new hL_a hq1)]; exact h0
  have hx5 : f2 q1 = aRf G.2.2.2.2.1 (fun _ => none) := by rw [hf3]; exact va_up_self _ _ _
  have hF6 : f2 = va_up f q1 (aRf G.2.2.2.2.1 (fun _ => none)) := hf3
  refine (show V C 1 (L ++ [q1]) f2 1 16 10 [(0, .ref a)] [.ref q1, .ref a] from ?_)
  refine g_putF hC (kf := 0) (TT := TX4) (N := 4) (Cn := RX4) (ty0 := tyX4) (fs1 := [.ref q1, .null, .int 0, .int 0]) dX4_init_10 (mem_l hL_a) hx4 rfl q_u4 (by decide) tyX4_ok nmX4 q_fl_X4_11 rfl rfl rfl rfl rfl rfl rfl (Nat.le_of_ble_eq_true rfl) rfl ?_
  refine g_nm (fun f7 hf8 => ?_)
  have hx9 : f7 a = .inr (4, [.ref q1, .null, .int 0, .int 0]) := by rw [hf8]; exact va_up_self _ _ _
  have hx10 : f7 q1 = aRf G.2.2.2.2.1 (fun _ => none) := by rw [hf8, va_up_ne _ _ (Ne.symm (ne_new hL_a hq1))]; exact hx5
  have hF11 : f7 = va_up (va_up f q1 (aRf G.2.2.2.2.1 (fun _ => none))) a (.inr (4, [.ref q1, .null, .int 0, .int 0])) := by rw [hf8, hF6]
  refine g_aload_n hC dX4_init_13 0 rfl ?_
  refine g_bipush hC 16 dX4_init_14 (by decide) ?_
  refine g_newP hC dX4_init_16 q_cl_X4_15 (Nat.le_of_ble_eq_true rfl) (Nat.le_of_ble_eq_true rfl) (fun q12 hq12 => ?_)
  refine g_nm (fun f13 hf14 => ?_)
  have hx15 : f13 a = .inr (4, [.ref q1, .null, .int 0, .int 0]) := by rw [hf14, va_up_ne _ _ (ne_new (mem_l hL_a) hq12)]; exact hx9
  have hx16 : f13 q1 = aRf G.2.2.2.2.1 (fun _ => none) := by rw [hf14, va_up_ne _ _ (ne_new mem_r hq12)]; exact hx10
  have hx17 : f13 q12 = aRf G.2.2.2.2.2 (fun _ => none) := by rw [hf14]; exact va_up_self _ _ _
  have hF18 : f13 = va_up (va_up (va_up f q1 (aRf G.2.2.2.2.1 (fun _ => none))) a (.inr (4, [.ref q1, .null, .int 0, .int 0]))) q12 (aRf G.2.2.2.2.2 (fun _ => none)) := by rw [hf14, hF11]
  refine (show V C 1 ((L ++ [q1]) ++ [q12]) f13 2 32 19 [(0, .ref a)] [.ref q12, .ref a] from ?_)
  refine g_putF hC (kf := 1) (TT := TX4) (N := 4) (Cn := RX4) (ty0 := tyX4) (fs1 := [.ref q1, .ref q12, .int 0, .int 0]) dX4_init_19 (mem_l (mem_l hL_a)) hx15 rfl q_u4 (by decide) tyX4_ok nmX4 q_fl_X4_17 rfl rfl rfl rfl rfl rfl rfl (Nat.le_of_ble_eq_true rfl) rfl ?_
  refine g_nm (fun f19 hf20 => ?_)
  have hx21 : f19 a = .inr (4, [.ref q1, .ref q12, .int 0, .int 0]) := by rw [hf20]; exact va_up_self _ _ _
  have hx22 : f19 q1 = aRf G.2.2.2.2.1 (fun _ => none) := by rw [hf20, va_up_ne _ _ (Ne.symm (ne_new hL_a hq1))]; exact hx16
  have hx23 : f19 q12 = aRf G.2.2.2.2.2 (fun _ => none) := by rw [hf20, va_up_ne _ _ (Ne.symm (ne_new (mem_l hL_a) hq12))]; exact hx17
  have hF24 : f19 = va_up (va_up (va_up (va_up f q1 (aRf G.2.2.2.2.1 (fun _ => none))) a (.inr (4, [.ref q1, .null, .int 0, .int 0]))) q12 (aRf G.2.2.2.2.2 (fun _ => none))) a (.inr (4, [.ref q1, .ref q12, .int 0, .int 0])) := by rw [hf20, hF18]
  refine g_vret hC dX4_init_22 rfl ⟨rfl, fun b hb => mem_l (mem_l hb), fun b hb hba => ?_, cI a q1 q12, rfl, fun X XS Z OU SL => CI.init (mem_l (mem_l hL_a)) (mem_l mem_r) mem_r (ne_new mem_r hq12) hx21 hx22 hx23⟩ (Nat.le_of_ble_eq_true rfl) (Nat.le_of_ble_eq_true rfl)
  rw [hF24]; simp only [va_up_ne _ _ hba, va_up_ne _ _ (ne_new hb hq1), va_up_ne _ _ (ne_new (mem_l hb) hq12)]
end
section
/-! the model's world: its object, its arrays by field numbers -/
def up2 {α : Type} (Y : Nat → Nat → α) (i j : Nat) (x : α) : Nat → Nat → α := fun a b => if b = j then (if a = i then x else Y a b) else Y a b
theorem up2_id {α : Type} (Y : Nat → Nat → α) (i j : Nat) : up2 Y i j (Y i j) = Y := by
  funext a b
  unfold up2
  split
  · rename_i h1
    split
    · rename_i h2; rw [h1, h2]
    · rfl
  · rfl
theorem up2_s {α : Type} (Y : Nat → Nat → α) (i j : Nat) (x : α) : up2 Y i j x i j = x := by simp [up2]
theorem up2_n {α : Type} (Y : Nat → Nat → α) (i j a b : Nat) (x : α) (h : a ≠ i ∨ b ≠ j) : up2 Y i j x a b = Y a b := by
  unfold up2
  split
  · split
    · rename_i h1 h2; exact absurd h (by simp [h1, h2])
    · rfl
  · rfl
theorem up2_c {α : Type} (Y : Nat → Nat → α) (i j : Nat) (x : α) : (fun a => up2 Y i j x a j) = va_up (fun a => Y a j) i x := by
  funext a
  simp [up2, va_up]
theorem up2_d {α : Type} (Y : Nat → Nat → α) (i j b : Nat) (x : α) (h : b ≠ j) : (fun a => up2 Y i j x a b) = (fun a => Y a b) := by
  funext a
  simp [up2, h]
abbrev eMd (ma : Nat → Nat) (n k : Nat) : va_E := .inr (5, [.int (nI n), .ref (ma 0), .ref (ma 1), .ref (ma 2), .ref (ma 9), .ref (ma 10), .ref (ma 3), .ref (ma 4), .ref (ma 11), .ref (ma 12), .ref (ma 25), .ref (ma 13), .ref (ma 14), .ref (ma 5), .ref (ma 6), .ref (ma 7), .ref (ma 8), .ref (ma 20), .ref (ma 22), .ref (ma 21), .ref (ma 16), .ref (ma 17), .ref (ma 23), .int (nI k), .ref (ma 24), .ref (ma 18)])
def mv (j : Nat) : Prop := j < 26 ∧ j ≠ 15 ∧ j ≠ 19
def MI (G : GD) (q0 : Nat) (ma : Nat → Nat) (n k : Nat) (Y : Nat → Nat → UInt64) (W0 : Nat → Nat → Int32) (L : List Nat) (f : Nat → va_E) : Prop :=
  (n ≤ 16 ∧ k ≤ 16) ∧ (q0 ∈ L ∧ f q0 = eMd ma n k) ∧ (∀ j, j < 19 → j ≠ 15 → ma j ∈ L ∧ f (ma j) = aDb G.2.1 (fun i => Y i j)) ∧ (∀ j, 20 ≤ j → j < 25 → ma j ∈ L ∧ f (ma j) = aIn G.2.2.1 (fun i => W0 i j)) ∧ (ma 25 ∈ L ∧ f (ma 25) = aIn G.2.2.2.1 (fun i => W0 i 25)) ∧ (∀ j j1, mv j → mv j1 → ma j = ma j1 → j = j1)
theorem MI.m {G : GD} {q0 : Nat} {ma : Nat → Nat} {n k : Nat} {Y : Nat → Nat → UInt64} {W0 : Nat → Nat → Int32} {L : List Nat} {f : Nat → va_E} (h : MI G q0 ma n k Y W0 L f) : q0 ∈ L := h.2.1.1
theorem MI.o {G : GD} {q0 : Nat} {ma : Nat → Nat} {n k : Nat} {Y : Nat → Nat → UInt64} {W0 : Nat → Nat → Int32} {L : List Nat} {f : Nat → va_E} (h : MI G q0 ma n k Y W0 L f) : f q0 = eMd ma n k := h.2.1.2
theorem MI.n16 {G : GD} {q0 : Nat} {ma : Nat → Nat} {n k : Nat} {Y : Nat → Nat → UInt64} {W0 : Nat → Nat → Int32} {L : List Nat} {f : Nat → va_E} (h : MI G q0 ma n k Y W0 L f) : n ≤ 16 := h.1.1
theorem MI.k16 {G : GD} {q0 : Nat} {ma : Nat → Nat} {n k : Nat} {Y : Nat → Nat → UInt64} {W0 : Nat → Nat → Int32} {L : List Nat} {f : Nat → va_E} (h : MI G q0 ma n k Y W0 L f) : k ≤ 16 := h.1.2
theorem MI.frame {G : GD} {q0 : Nat} {ma : Nat → Nat} {n k : Nat} {Y : Nat → Nat → UInt64} {W0 : Nat → Nat → Int32} {L : List Nat} {f : Nat → va_E} (h : MI G q0 ma n k Y W0 L f) {L1 : List Nat} {f1 : Nat → va_E} (hL : ∀ a, a ∈ L → a ∈ L1) (hf : FRc L f f1) : MI G q0 ma n k Y W0 L1 f1 := by
  obtain ⟨hn, ⟨a1, b1⟩, hd, hi, ⟨a2, b2⟩, hj⟩ := h
  have g : ∀ {a : Nat} {e : va_E}, a ∈ L → f a = e → isM e = true → f1 a = e := fun ha he hm => (hf _ ha (by rw [he]; exact hm)).trans he
  exact ⟨hn, ⟨hL _ a1, g a1 b1 rfl⟩, fun j h1 h2 => ⟨hL _ (hd j h1 h2).1, g (hd j h1 h2).1 (hd j h1 h2).2 rfl⟩, fun j h1 h2 => ⟨hL _ (hi j h1 h2).1, g (hi j h1 h2).1 (hi j h1 h2).2 rfl⟩, ⟨hL _ a2, g a2 b2 rfl⟩, hj⟩
theorem MI.dset {G : GD} {q0 : Nat} {ma : Nat → Nat} {n k : Nat} {Y : Nat → Nat → UInt64} {W0 : Nat → Nat → Int32} {L : List Nat} {f : Nat → va_E} (h : MI G q0 ma n k Y W0 L f) {i j : Nat} (hj : j < 19) (hj2 : j ≠ 15) (x : UInt64) : MI G q0 ma n k (up2 Y i j x) W0 L (va_up f (ma j) (aDb G.2.1 (va_up (fun a => Y a j) i x))) := by
  obtain ⟨hn, ⟨a1, b1⟩, hd, hi, ⟨a2, b2⟩, hjj⟩ := h
  have e0 := (hd j hj hj2).2
  refine ⟨hn, ⟨a1, ?_⟩, fun b h1 h2 => ⟨(hd b h1 h2).1, ?_⟩, fun b h1 h2 => ⟨(hi b h1 h2).1, ?_⟩, ⟨a2, ?_⟩, hjj⟩
  · rw [va_up_ne _ _ (fun q => by rw [q, e0] at b1; cases b1)]; exact b1
  · by_cases q : b = j
    · subst q; rw [va_up_self, up2_c]
    · rw [va_up_ne _ _ (fun z => q (hjj b j ⟨by omega, h2, by omega⟩ ⟨by omega, hj2, by omega⟩ z)), up2_d _ _ _ _ _ q]; exact (hd b h1 h2).2
  · rw [va_up_ne _ _ (fun z => by have q := hjj b j ⟨by omega, by omega, by omega⟩ ⟨by omega, hj2, by omega⟩ z; omega)]; exact (hi b h1 h2).2
  · rw [va_up_ne _ _ (fun z => by have q := hjj 25 j ⟨by omega, by omega, by omega⟩ ⟨by omega, hj2, by omega⟩ z; omega)]; exact b2
theorem MI.iset {G : GD} {q0 : Nat} {ma : Nat → Nat} {n k : Nat} {Y : Nat → Nat → UInt64} {W0 : Nat → Nat → Int32} {L : List Nat} {f : Nat → va_E} (h : MI G q0 ma n k Y W0 L f) {i j : Nat} (hj : 20 ≤ j) (hj2 : j < 25) (x : Int32) : MI G q0 ma n k Y (up2 W0 i j x) L (va_up f (ma j) (aIn G.2.2.1 (va_up (fun a => W0 a j) i x))) := by
  obtain ⟨hn, ⟨a1, b1⟩, hd, hi, ⟨a2, b2⟩, hjj⟩ := h
  have e0 := (hi j hj hj2).2
  refine ⟨hn, ⟨a1, ?_⟩, fun b h1 h2 => ⟨(hd b h1 h2).1, ?_⟩, fun b h1 h2 => ⟨(hi b h1 h2).1, ?_⟩, ⟨a2, ?_⟩, hjj⟩
  · rw [va_up_ne _ _ (fun q => by rw [q, e0] at b1; cases b1)]; exact b1
  · rw [va_up_ne _ _ (fun z => by have q := hjj b j ⟨by omega, h2, by omega⟩ ⟨by omega, by omega, by omega⟩ z; omega)]; exact (hd b h1 h2).2
  · by_cases q : b = j
    · subst q; rw [va_up_self, up2_c]
    · rw [va_up_ne _ _ (fun z => q (hjj b j ⟨by omega, by omega, by omega⟩ ⟨by omega, by omega, by omega⟩ z)), up2_d _ _ _ _ _ q]; exact (hi b h1 h2).2
  · rw [va_up_ne _ _ (fun z => by have q := hjj 25 j ⟨by omega, by omega, by omega⟩ ⟨by omega, by omega, by omega⟩ z; omega), up2_d _ _ _ _ _ (by omega)]; exact b2
theorem MI.zset {G : GD} {q0 : Nat} {ma : Nat → Nat} {n k : Nat} {Y : Nat → Nat → UInt64} {W0 : Nat → Nat → Int32} {L : List Nat} {f : Nat → va_E} (h : MI G q0 ma n k Y W0 L f) {i : Nat} (x : Int32) : MI G q0 ma n k Y (up2 W0 i 25 x) L (va_up f (ma 25) (aIn G.2.2.2.1 (va_up (fun a => W0 a 25) i x))) := by
  obtain ⟨hn, ⟨a1, b1⟩, hd, hi, ⟨a2, b2⟩, hjj⟩ := h
  refine ⟨hn, ⟨a1, ?_⟩, fun b h1 h2 => ⟨(hd b h1 h2).1, ?_⟩, fun b h1 h2 => ⟨(hi b h1 h2).1, ?_⟩, ⟨a2, ?_⟩, hjj⟩
  · rw [va_up_ne _ _ (fun q => by rw [q, b2] at b1; cases b1)]; exact b1
  · rw [va_up_ne _ _ (fun z => by have q := hjj b 25 ⟨by omega, h2, by omega⟩ ⟨by omega, by omega, by omega⟩ z; omega)]; exact (hd b h1 h2).2
  · rw [va_up_ne _ _ (fun z => by have q := hjj b 25 ⟨by omega, by omega, by omega⟩ ⟨by omega, by omega, by omega⟩ z; omega), up2_d _ _ _ _ _ (by omega)]; exact (hi b h1 h2).2
  · rw [va_up_self, up2_c]
theorem MI.cnt {G : GD} {q0 : Nat} {ma : Nat → Nat} {n k : Nat} {Y : Nat → Nat → UInt64} {W0 : Nat → Nat → Int32} {L : List Nat} {f : Nat → va_E} (h : MI G q0 ma n k Y W0 L f) {n1 k1 : Nat} (hn1 : n1 ≤ 16) (hk1 : k1 ≤ 16) : MI G q0 ma n1 k1 Y W0 L (va_up f q0 (eMd ma n1 k1)) := by
  obtain ⟨hn, ⟨a1, b1⟩, hd, hi, ⟨a2, b2⟩, hjj⟩ := h
  refine ⟨⟨hn1, hk1⟩, ⟨a1, va_up_self _ _ _⟩, fun b h1 h2 => ⟨(hd b h1 h2).1, ?_⟩, fun b h1 h2 => ⟨(hi b h1 h2).1, ?_⟩, ⟨a2, ?_⟩, hjj⟩
  · rw [va_up_ne _ _ (fun z => by have e1 := (hd b h1 h2).2; rw [z, b1] at e1; cases e1)]; exact (hd b h1 h2).2
  · rw [va_up_ne _ _ (fun z => by have e1 := (hi b h1 h2).2; rw [z, b1] at e1; cases e1)]; exact (hi b h1 h2).2
  · rw [va_up_ne _ _ (fun z => by rw [z, b1] at b2; cases b2)]; exact b2
def okL (n : Nat) (kx : Int32) : Bool := !decide (kx < 0) && !decide (nI n ≤ kx)
theorem okL_cases {n : Nat} (hn : n ≤ 16) (kx : Int32) : (okL n kx = false ∧ ∀ i, i < n → ¬ kx = nI i) ∨ ∃ i, i < n ∧ kx = nI i ∧ okL n kx = true := by
  by_cases h1 : kx < 0
  · refine Or.inl ⟨by simp [okL, h1], fun i hi q => ?_⟩
    rw [q] at h1; exact absurd h1 (nI_pos (by omega))
  · obtain ⟨j, hj, rfl⟩ := nI_of h1
    by_cases h2 : j < n
    · refine Or.inr ⟨j, h2, rfl, ?_⟩
      have h3 : ¬ nI n ≤ nI j := nI_ge h2 (by omega)
      simp [okL, h1, h3]
    · refine Or.inl ⟨?_, fun i hi q => ?_⟩
      · have h3 : nI n ≤ nI j := nI_le (by omega) hj
        simp [okL, h3]
      · have := (nI_eq (by omega) (by omega)).mp q
        omega
section G22
variable {C : CX} {cc : ByteArray} {nL : Nat} {own : String} {ini : Bool} {R0 : Room} {G0 : GD} {l0 : Launch} {ret : Option FieldType} {post : PO} {L : List Nat} {f : Nat → va_E} {k n pc : Nat} {lv : List (Nat × Value)} {st : List Value}
variable {q0 : Nat} {ma : Nat → Nat} {n1 k1 : Nat} {Y : Nat → Nat → UInt64} {W0 : Nat → Nat → Int32} {i : Nat}
theorem g_mdl (hC : CxOk C cc nL own ini R0 G0 l0 ret post) (hM : MI G0 q0 ma n1 k1 Y W0 L f) (j : Nat) (hj : j < 19) (hj2 : j ≠ 15) (hi : i < 16) (v : UInt64) (hv : Y i j = v) (hdg : decode cc pc = .ok (.daload, 1)) (kk : V C nL L f k n (pc + 1) lv (.double v :: st)) : V C nL L f k n pc lv (.int (nI i) :: .ref (ma j) :: st) := by
  refine g_daload hC hdg (hM.2.2.1 j hj hj2).1 (hM.2.2.1 j hj hj2).2 (vp_in_nI hi (by decide)) ?_
  rw [nI_clamp (by omega)]
  subst hv; exact kk
theorem g_mil (hC : CxOk C cc nL own ini R0 G0 l0 ret post) (hM : MI G0 q0 ma n1 k1 Y W0 L f) (j : Nat) (hj : 20 ≤ j) (hj2 : j < 25) (hi : i < 16) (v : Int32) (hv : W0 i j = v) (hdg : decode cc pc = .ok (.iaload, 1)) (kk : V C nL L f k n (pc + 1) lv (.int v :: st)) : V C nL L f k n pc lv (.int (nI i) :: .ref (ma j) :: st) := by
  refine g_iaload hC hdg (hM.2.2.2.1 j hj hj2).1 (hM.2.2.2.1 j hj hj2).2 (vp_in_nI hi (by decide)) ?_
  rw [nI_clamp (by omega)]
  subst hv; exact kk
theorem g_mzl (hC : CxOk C cc nL own ini R0 G0 l0 ret post) (hM : MI G0 q0 ma n1 k1 Y W0 L f) (hi : i < 16) (v : Int32) (hv : W0 i 25 = v) (hdg : decode cc pc = .ok (.baload, 1)) (kk : V C nL L f k n (pc + 1) lv (.int v :: st)) : V C nL L f k n pc lv (.int (nI i) :: .ref (ma 25) :: st) := by
  refine g_zaload hC hdg hM.2.2.2.2.1.1 hM.2.2.2.2.1.2 (vp_in_nI hi (by decide)) ?_
  rw [nI_clamp (by omega)]
  subst hv; exact kk
theorem g_mds (hC : CxOk C cc nL own ini R0 G0 l0 ret post) (hM : MI G0 q0 ma n1 k1 Y W0 L f) (j : Nat) (hj : j < 19) (hj2 : j ≠ 15) (hi : i < 16) {x : UInt64} (hdg : decode cc pc = .ok (.dastore, 1)) (kk : ∀ f1 : Nat → va_E, MI G0 q0 ma n1 k1 (up2 Y i j x) W0 L f1 → FRm L f f1 → V C nL L f1 k n (pc + 1) lv st) : V C nL L f k n pc lv (.double x :: .int (nI i) :: .ref (ma j) :: st) := by
  refine g_dastore hC hdg (hM.2.2.1 j hj hj2).1 (hM.2.2.1 j hj hj2).2 (vp_in_nI hi (by decide)) ?_
  rw [nI_clamp (by omega)]
  exact kk _ (MI.dset hM hj hj2 x) (FRm.up _ FRm.rf (hM.2.2.1 j hj hj2).2 rfl)
theorem g_mis (hC : CxOk C cc nL own ini R0 G0 l0 ret post) (hM : MI G0 q0 ma n1 k1 Y W0 L f) (j : Nat) (hj : 20 ≤ j) (hj2 : j < 25) (hi : i < 16) {x : Int32} (hdg : decode cc pc = .ok (.iastore, 1)) (kk : ∀ f1 : Nat → va_E, MI G0 q0 ma n1 k1 Y (up2 W0 i j x) L f1 → FRm L f f1 → V C nL L f1 k n (pc + 1) lv st) : V C nL L f k n pc lv (.int x :: .int (nI i) :: .ref (ma j) :: st) := by
  refine g_iastore hC hdg (hM.2.2.2.1 j hj hj2).1 (hM.2.2.2.1 j hj hj2).2 (vp_in_nI hi (by decide)) ?_
  rw [nI_clamp (by omega)]
  exact kk _ (MI.iset hM hj hj2 x) (FRm.up _ FRm.rf (hM.2.2.2.1 j hj hj2).2 rfl)
theorem g_mzs (hC : CxOk C cc nL own ini R0 G0 l0 ret post) (hM : MI G0 q0 ma n1 k1 Y W0 L f) (hi : i < 16) {x : Int32} (hx : vp_nar .boolean x = x) (hdg : decode cc pc = .ok (.bastore, 1)) (kk : ∀ f1 : Nat → va_E, MI G0 q0 ma n1 k1 Y (up2 W0 i 25 x) L f1 → FRm L f f1 → V C nL L f1 k n (pc + 1) lv st) : V C nL L f k n pc lv (.int x :: .int (nI i) :: .ref (ma 25) :: st) := by
  refine g_zastore hC hdg hM.2.2.2.2.1.1 hM.2.2.2.2.1.2 (vp_in_nI hi (by decide)) ?_
  rw [nI_clamp (by omega), hx]
  exact kk _ (MI.zset hM x) (FRm.up _ FRm.rf hM.2.2.2.2.1.2 rfl)
end G22
end
section
set_option maxHeartbeats 4000000 in
set_option maxRecDepth 100000 in
/-- isLoop(k) -/
theorem ct_X5_isLoop (l : Launch) (G : GD) (L : List Nat) (f : Nat → va_E) {q0 : Nat} {ma : Nat → Nat} {n k : Nat} {Y : Nat → Nat → UInt64} {W0 : Nat → Nat → Int32} (hM : MI G q0 ma n k Y W0 L f) (kx : Int32) : Ctr l yX5_isLoop cX5_isLoop 2 (some .boolean) R00 G [.ref q0, .int kx] L f (fun vv L1 f1 => vv = some (.int (bI (okL n kx))) ∧ L = L1 ∧ f = f1) := by
  refine g_enter RX5 false (by decide) rfl (fun h => by cases h) (Nat.le_of_ble_eq_true rfl) (fun C hC => ?_)
  refine (show V C 2 L f 0 0 0 [(0, .ref q0), (1, .int kx)] [] from ?_)
  refine g_iload_n hC dX5_isLoop_0 1 rfl ?_
  refine g_if_lt hC 16 dX5_isLoop_1 (by decide) (fun c1 => ?_) (fun c1 => ?_)
  · skip
    refine g_iconst hC 0 dX5_isLoop_16 (by decide) ?_
    exact g_iret hC dX5_isLoop_17 rfl rfl ⟨by simp only [okL, Bool.and_true, Bool.true_and, Bool.and_false, Bool.false_and, Bool.not_true, Bool.not_false, decide_true, decide_false, Bool.or_true, Bool.true_or, Bool.or_false, Bool.false_or, eq_true c1]; rfl, rfl, rfl⟩ (Nat.zero_le _) (Nat.zero_le _)
  · skip
    refine g_iload_n hC dX5_isLoop_4 1 rfl ?_
    refine g_aload_n hC dX5_isLoop_5 0 rfl ?_
    refine g_get hC (kf := 0) (TT := TX5) (N := 26) (Cn := RX5) dX5_isLoop_6 (MI.m hM) (MI.o hM) rfl q_u5 (by decide) q_fl_X5_84 rfl rfl ?_
    refine g_icmp_ge hC 16 dX5_isLoop_9 (by decide) (fun c2 => ?_) (fun c2 => ?_)
    · skip
      refine g_iconst hC 0 dX5_isLoop_16 (by decide) ?_
      exact g_iret hC dX5_isLoop_17 rfl rfl ⟨by simp only [okL, Bool.and_true, Bool.true_and, Bool.and_false, Bool.false_and, Bool.not_true, Bool.not_false, decide_true, decide_false, Bool.or_true, Bool.true_or, Bool.or_false, Bool.false_or, eq_false c1, eq_true c2]; rfl, rfl, rfl⟩ (Nat.zero_le _) (Nat.zero_le _)
    · skip
      refine g_iconst hC 1 dX5_isLoop_12 (by decide) ?_
      refine g_goto hC 17 dX5_isLoop_13 (by decide) ?_
      exact g_iret hC dX5_isLoop_17 rfl rfl ⟨by simp only [okL, Bool.and_true, Bool.true_and, Bool.and_false, Bool.false_and, Bool.not_true, Bool.not_false, decide_true, decide_false, Bool.or_true, Bool.true_or, Bool.or_false, Bool.false_or, eq_false c1, eq_false c2]; rfl, rfl, rfl⟩ (Nat.zero_le _) (Nat.zero_le _)
def limM (lo hi rt : DT) : Bool := ((safC lo && safC hi) && qlt lo hi) && (qgt rt (dv 0) && !qgt rt (dv 4666723172467343360))
def bndM (lo hi : DT) : Bool := safC lo && inB hi lo (dv 4666723172467343360)
def rngM (lo hi : DT) : Bool := readS lo && inB hi lo (dv 4696837146684686336)
set_option maxHeartbeats 4000000 in
set_option maxRecDepth 100000 in
/-- safe of the model -/
theorem ct_X5_safe (l : Launch) (G : GD) (L : List Nat) (f : Nat → va_E) {q0 : Nat} {ma : Nat → Nat} {n k : Nat} {Y : Nat → Nat → UInt64} {W0 : Nat → Nat → Int32} (hM : MI G q0 ma n k Y W0 L f) (kx : Int32) (v : UInt64) : Ctr l yX5_safe cX5_safe 4 (some .boolean) { frames := 1, cells := 0, slots := 0, locals := 30 } G [.ref q0, .int kx, .double v] L f (fun vv L1 f1 => L = L1 ∧ (((∀ i, i < n → kx = nI i → safC (dv v) = false) ∧ vv = some (.int 0) ∧ f = f1) ∨ (∃ i, i < n ∧ kx = nI i ∧ safC (dv v) = true ∧ vv = some (.int 1) ∧ FRm L f f1 ∧ MI G q0 ma n k (up2 Y i 4 v) W0 L f1))) := by
  refine g_enter RX5 false (by decide) rfl (fun h => by cases h) (Nat.le_of_ble_eq_true rfl) (fun C hC => ?_)
  refine (show V C 4 L f 0 0 0 [(0, .ref q0), (1, .int kx), (2, .double v)] [] from ?_)
  refine g_aload_n hC dX5_safe_0 0 rfl ?_
  refine g_iload_n hC dX5_safe_1 1 rfl ?_
  refine g_callV hC (Cn := RX5) (TT := TX5) (N := 26) dX5_safe_2 (ct_X5_isLoop l G L f hM kx) q_code_X5_isLoop q_ml_X5_98 q_im_X5_isLoop q_sel_X5_isLoop q_init_X5 ⟨rfl, by decide, by decide, (show (parseMethodDescriptor yX5_isLoop.desc).map (fun d => d.parameters.length) = some 1 from by decide +kernel)⟩ (MI.m hM) (MI.o hM) rfl (by decide) (by decide) (Nat.le_of_ble_eq_true rfl) (fun v2 L3 f4 hp1 => ?_)
  obtain ⟨rfl, rfl, rfl⟩ := hp1
  rcases okL_cases (MI.n16 hM) kx with ⟨hb, hnoi⟩ | ⟨i, hi, rfl, hb⟩
  · refine g_eqI (show bI (okL n kx) = 0 from by rw [hb]; rfl) ?_
    refine g_if_eq hC 21 dX5_safe_5 (by decide) (fun _ => ?_) (fun c => absurd c (by decide))
    refine g_iconst hC 0 dX5_safe_21 (by decide) ?_
    exact g_iret hC dX5_safe_22 rfl rfl ⟨rfl, Or.inl ⟨fun j hj q => absurd q (hnoi j hj), rfl, rfl⟩⟩ (Nat.zero_le _) (Nat.zero_le _)
  · refine g_eqI (show bI (okL n (nI i)) = 1 from by rw [hb]; rfl) ?_
    have hi16 : i < 16 := by have := MI.n16 hM; omega
    refine g_if_eq hC 21 dX5_safe_5 (by decide) (fun c => absurd c (by decide)) (fun _ => ?_)
    refine g_dload_n hC dX5_safe_8 2 rfl ?_
    refine g_ldc2 hC dX5_safe_9 q_cd_X5_102 ?_
    refine g_ldc2 hC dX5_safe_12 q_cd_X5_104 ?_
    refine g_callS hC dX5_safe_15 (ct_X5_isIn l G L f v 13890095209322119168 4666723172467343360) q_code_X5_isIn q_ml_X5_90 q_st_X5_isIn q_init_X5 ⟨by decide, by decide, (show (parseMethodDescriptor yX5_isIn.desc).map (fun d => d.parameters.length) = some 3 from by decide +kernel)⟩ (by decide) (by decide) (Nat.le_of_ble_eq_true rfl) (fun v6 L7 f8 hp5 => ?_)
    obtain ⟨rfl, rfl, rfl⟩ := hp5
    refine (show V C 4 L f 0 0 18 [(0, .ref q0), (1, .int (nI i)), (2, .double v)] [.int (bI (inB (dv v) (dv 13890095209322119168) (dv 4666723172467343360)))] from ?_)
    refine g_ifB_ne hC 23 dX5_safe_18 (by decide) (fun c9 => ?_) (fun c9 => ?_)
    · skip
      refine g_aload_n hC dX5_safe_23 0 rfl ?_
      refine g_get hC (kf := 7) (TT := TX5) (N := 26) (Cn := RX5) dX5_safe_24 (MI.m hM) (MI.o hM) rfl q_u5 (by decide) q_fl_X5_28 rfl rfl ?_
      refine g_iload_n hC dX5_safe_27 1 rfl ?_
      refine g_dload_n hC dX5_safe_28 2 rfl ?_
      refine g_mds hC hM 4 (by decide) (by decide) hi16 dX5_safe_29 (fun f10 hM11 hR12 => ?_)
      refine g_iconst hC 1 dX5_safe_30 (by decide) ?_
      exact g_iret hC dX5_safe_31 rfl rfl ⟨rfl, Or.inr ⟨i, hi, rfl, by simp only [safC, Bool.and_true, Bool.true_and, Bool.and_false, Bool.false_and, Bool.not_true, Bool.not_false, decide_true, decide_false, Bool.or_true, Bool.true_or, Bool.or_false, Bool.false_or, c9], rfl, hR12, hM11⟩⟩ (Nat.zero_le _) (Nat.zero_le _)
    · skip
      refine g_iconst hC 0 dX5_safe_21 (by decide) ?_
      exact g_iret hC dX5_safe_22 rfl rfl ⟨rfl, Or.inl ⟨fun _ _ _ => by simp only [safC, Bool.and_true, Bool.true_and, Bool.and_false, Bool.false_and, Bool.not_true, Bool.not_false, decide_true, decide_false, Bool.or_true, Bool.true_or, Bool.or_false, Bool.false_or, c9], rfl, rfl⟩⟩ (Nat.zero_le _) (Nat.zero_le _)
set_option maxHeartbeats 4000000 in
set_option maxRecDepth 100000 in
/-- limits of the model -/
theorem ct_X5_limits (l : Launch) (G : GD) (L : List Nat) (f : Nat → va_E) {q0 : Nat} {ma : Nat → Nat} {n k : Nat} {Y : Nat → Nat → UInt64} {W0 : Nat → Nat → Int32} (hM : MI G q0 ma n k Y W0 L f) (kx : Int32) (lo hi0 rt : UInt64) : Ctr l yX5_limits cX5_limits 8 (some .boolean) { frames := 1, cells := 0, slots := 0, locals := 30 } G [.ref q0, .int kx, .double lo, .double hi0, .double rt] L f (fun vv L1 f1 => L = L1 ∧ (((∀ i, i < n → kx = nI i → limM (dv lo) (dv hi0) (dv rt) = false) ∧ vv = some (.int 0) ∧ f = f1) ∨ (∃ i, i < n ∧ kx = nI i ∧ limM (dv lo) (dv hi0) (dv rt) = true ∧ vv = some (.int 1) ∧ FRm L f f1 ∧ MI G q0 ma n k (up2 (up2 (up2 Y i 9 lo) i 10 hi0) i 3 rt) W0 L f1))) := by
  refine g_enter RX5 false (by decide) rfl (fun h => by cases h) (Nat.le_of_ble_eq_true rfl) (fun C hC => ?_)
  refine (show V C 8 L f 0 0 0 [(0, .ref q0), (1, .int kx), (2, .double lo), (4, .double hi0), (6, .double rt)] [] from ?_)
  refine g_aload_n hC dX5_limits_0 0 rfl ?_
  refine g_iload_n hC dX5_limits_1 1 rfl ?_
  refine g_callV hC (Cn := RX5) (TT := TX5) (N := 26) dX5_limits_2 (ct_X5_isLoop l G L f hM kx) q_code_X5_isLoop q_ml_X5_98 q_im_X5_isLoop q_sel_X5_isLoop q_init_X5 ⟨rfl, by decide, by decide, (show (parseMethodDescriptor yX5_isLoop.desc).map (fun d => d.parameters.length) = some 1 from by decide +kernel)⟩ (MI.m hM) (MI.o hM) rfl (by decide) (by decide) (Nat.le_of_ble_eq_true rfl) (fun v2 L3 f4 hp1 => ?_)
  obtain ⟨rfl, rfl, rfl⟩ := hp1
  rcases okL_cases (MI.n16 hM) kx with ⟨hb, hnoi⟩ | ⟨i, hi, rfl, hb⟩
  · refine g_eqI (show bI (okL n kx) = 0 from by rw [hb]; rfl) ?_
    refine g_if_eq hC 58 dX5_limits_5 (by decide) (fun _ => ?_) (fun c => absurd c (by decide))
    refine g_iconst hC 0 dX5_limits_58 (by decide) ?_
    exact g_iret hC dX5_limits_59 rfl rfl ⟨rfl, Or.inl ⟨fun j hj q => absurd q (hnoi j hj), rfl, rfl⟩⟩ (Nat.zero_le _) (Nat.zero_le _)
  · refine g_eqI (show bI (okL n (nI i)) = 1 from by rw [hb]; rfl) ?_
    have hi16 : i < 16 := by have := MI.n16 hM; omega
    refine g_if_eq hC 58 dX5_limits_5 (by decide) (fun c => absurd c (by decide)) (fun _ => ?_)
    refine g_dload_n hC dX5_limits_8 2 rfl ?_
    refine g_ldc2 hC dX5_limits_9 q_cd_X5_102 ?_
    refine g_ldc2 hC dX5_limits_12 q_cd_X5_104 ?_
    refine g_callS hC dX5_limits_15 (ct_X5_isIn l G L f lo 13890095209322119168 4666723172467343360) q_code_X5_isIn q_ml_X5_90 q_st_X5_isIn q_init_X5 ⟨by decide, by decide, (show (parseMethodDescriptor yX5_isIn.desc).map (fun d => d.parameters.length) = some 3 from by decide +kernel)⟩ (by decide) (by decide) (Nat.le_of_ble_eq_true rfl) (fun v6 L7 f8 hp5 => ?_)
    obtain ⟨rfl, rfl, rfl⟩ := hp5
    refine (show V C 8 L f 0 0 18 [(0, .ref q0), (1, .int (nI i)), (2, .double lo), (4, .double hi0), (6, .double rt)] [.int (bI (inB (dv lo) (dv 13890095209322119168) (dv 4666723172467343360)))] from ?_)
    refine g_ifB_eq hC 58 dX5_limits_18 (by decide) (fun c9 => ?_) (fun c9 => ?_)
    · skip
      refine g_iconst hC 0 dX5_limits_58 (by decide) ?_
      exact g_iret hC dX5_limits_59 rfl rfl ⟨rfl, Or.inl ⟨fun _ _ _ => by simp only [limM, safC, Bool.and_true, Bool.true_and, Bool.and_false, Bool.false_and, Bool.not_true, Bool.not_false, decide_true, decide_false, Bool.or_true, Bool.true_or, Bool.or_false, Bool.false_or, c9], rfl, rfl⟩⟩ (Nat.zero_le _) (Nat.zero_le _)
    · skip
      refine g_dload hC dX5_limits_21 3 rfl ?_
      refine g_ldc2 hC dX5_limits_23 q_cd_X5_102 ?_
      refine g_ldc2 hC dX5_limits_26 q_cd_X5_104 ?_
      refine g_callS hC dX5_limits_29 (ct_X5_isIn l G L f hi0 13890095209322119168 4666723172467343360) q_code_X5_isIn q_ml_X5_90 q_st_X5_isIn q_init_X5 ⟨by decide, by decide, (show (parseMethodDescriptor yX5_isIn.desc).map (fun d => d.parameters.length) = some 3 from by decide +kernel)⟩ (by decide) (by decide) (Nat.le_of_ble_eq_true rfl) (fun v11 L12 f13 hp10 => ?_)
      obtain ⟨rfl, rfl, rfl⟩ := hp10
      refine (show V C 8 L f 0 0 32 [(0, .ref q0), (1, .int (nI i)), (2, .double lo), (4, .double hi0), (6, .double rt)] [.int (bI (inB (dv hi0) (dv 13890095209322119168) (dv 4666723172467343360)))] from ?_)
      refine g_ifB_eq hC 58 dX5_limits_32 (by decide) (fun c14 => ?_) (fun c14 => ?_)
      · skip
        refine g_iconst hC 0 dX5_limits_58 (by decide) ?_
        exact g_iret hC dX5_limits_59 rfl rfl ⟨rfl, Or.inl ⟨fun _ _ _ => by simp only [limM, safC, Bool.and_true, Bool.true_and, Bool.and_false, Bool.false_and, Bool.not_true, Bool.not_false, decide_true, decide_false, Bool.or_true, Bool.true_or, Bool.or_false, Bool.false_or, c9, c14], rfl, rfl⟩⟩ (Nat.zero_le _) (Nat.zero_le _)
      · skip
        refine g_dload_n hC dX5_limits_35 2 rfl ?_
        refine g_dload hC dX5_limits_36 3 rfl ?_
        refine g_dcmpg_ge hC 58 dX5_limits_38 dX5_limits_39 (by decide) (fun c15 => ?_) (fun c15 => ?_)
        · skip
          refine g_iconst hC 0 dX5_limits_58 (by decide) ?_
          exact g_iret hC dX5_limits_59 rfl rfl ⟨rfl, Or.inl ⟨fun _ _ _ => by simp only [limM, safC, Bool.and_true, Bool.true_and, Bool.and_false, Bool.false_and, Bool.not_true, Bool.not_false, decide_true, decide_false, Bool.or_true, Bool.true_or, Bool.or_false, Bool.false_or, c9, c14, c15], rfl, rfl⟩⟩ (Nat.zero_le _) (Nat.zero_le _)
        · skip
          refine g_dload hC dX5_limits_42 4 rfl ?_
          refine g_dconst0 hC dX5_limits_44 ?_
          refine g_dcmpl_le hC 58 dX5_limits_45 dX5_limits_46 (by decide) (fun c16 => ?_) (fun c16 => ?_)
          · skip
            refine g_iconst hC 0 dX5_limits_58 (by decide) ?_
            exact g_iret hC dX5_limits_59 rfl rfl ⟨rfl, Or.inl ⟨fun _ _ _ => by simp only [limM, safC, Bool.and_true, Bool.true_and, Bool.and_false, Bool.false_and, Bool.not_true, Bool.not_false, decide_true, decide_false, Bool.or_true, Bool.true_or, Bool.or_false, Bool.false_or, c9, c14, c15, c16], rfl, rfl⟩⟩ (Nat.zero_le _) (Nat.zero_le _)
          · skip
            refine g_dload hC dX5_limits_49 4 rfl ?_
            refine g_ldc2 hC dX5_limits_51 q_cd_X5_104 ?_
            refine g_dcmpl_le hC 60 dX5_limits_54 dX5_limits_55 (by decide) (fun c17 => ?_) (fun c17 => ?_)
            · skip
              refine g_aload_n hC dX5_limits_60 0 rfl ?_
              refine g_get hC (kf := 4) (TT := TX5) (N := 26) (Cn := RX5) dX5_limits_61 (MI.m hM) (MI.o hM) rfl q_u5 (by decide) q_fl_X5_19 rfl rfl ?_
              refine g_iload_n hC dX5_limits_64 1 rfl ?_
              refine g_dload_n hC dX5_limits_65 2 rfl ?_
              refine g_mds hC hM 9 (by decide) (by decide) hi16 dX5_limits_66 (fun f18 hM19 hR20 => ?_)
              refine g_aload_n hC dX5_limits_67 0 rfl ?_
              refine g_get hC (kf := 5) (TT := TX5) (N := 26) (Cn := RX5) dX5_limits_68 (MI.m hM19) (MI.o hM19) rfl q_u5 (by decide) q_fl_X5_22 rfl rfl ?_
              refine g_iload_n hC dX5_limits_71 1 rfl ?_
              refine g_dload hC dX5_limits_72 3 rfl ?_
              refine g_mds hC hM19 10 (by decide) (by decide) hi16 dX5_limits_74 (fun f21 hM22 hR23 => ?_)
              refine g_aload_n hC dX5_limits_75 0 rfl ?_
              refine g_get hC (kf := 6) (TT := TX5) (N := 26) (Cn := RX5) dX5_limits_76 (MI.m hM22) (MI.o hM22) rfl q_u5 (by decide) q_fl_X5_25 rfl rfl ?_
              refine g_iload_n hC dX5_limits_79 1 rfl ?_
              refine g_dload hC dX5_limits_80 4 rfl ?_
              refine g_mds hC hM22 3 (by decide) (by decide) hi16 dX5_limits_82 (fun f24 hM25 hR26 => ?_)
              refine g_iconst hC 1 dX5_limits_83 (by decide) ?_
              exact g_iret hC dX5_limits_84 rfl rfl ⟨rfl, Or.inr ⟨i, hi, rfl, by simp only [limM, safC, Bool.and_true, Bool.true_and, Bool.and_false, Bool.false_and, Bool.not_true, Bool.not_false, decide_true, decide_false, Bool.or_true, Bool.true_or, Bool.or_false, Bool.false_or, c9, c14, c15, c16, c17], rfl, (FRm.trans (FRm.trans hR20 hR23) hR26), hM25⟩⟩ (Nat.zero_le _) (Nat.zero_le _)
            · skip
              refine g_iconst hC 0 dX5_limits_58 (by decide) ?_
              exact g_iret hC dX5_limits_59 rfl rfl ⟨rfl, Or.inl ⟨fun _ _ _ => by simp only [limM, safC, Bool.and_true, Bool.true_and, Bool.and_false, Bool.false_and, Bool.not_true, Bool.not_false, decide_true, decide_false, Bool.or_true, Bool.true_or, Bool.or_false, Bool.false_or, c9, c14, c15, c16, c17], rfl, rfl⟩⟩ (Nat.zero_le _) (Nat.zero_le _)
set_option maxHeartbeats 4000000 in
set_option maxRecDepth 100000 in
/-- band of the model -/
theorem ct_X5_band (l : Launch) (G : GD) (L : List Nat) (f : Nat → va_E) {q0 : Nat} {ma : Nat → Nat} {n k : Nat} {Y : Nat → Nat → UInt64} {W0 : Nat → Nat → Int32} (hM : MI G q0 ma n k Y W0 L f) (kx : Int32) (lo hi0 : UInt64) : Ctr l yX5_band cX5_band 6 (some .boolean) { frames := 1, cells := 0, slots := 0, locals := 30 } G [.ref q0, .int kx, .double lo, .double hi0] L f (fun vv L1 f1 => L = L1 ∧ (((∀ i, i < n → kx = nI i → bndM (dv lo) (dv hi0) = false) ∧ vv = some (.int 0) ∧ f = f1) ∨ (∃ i, i < n ∧ kx = nI i ∧ bndM (dv lo) (dv hi0) = true ∧ vv = some (.int 1) ∧ FRm L f f1 ∧ MI G q0 ma n k (up2 (up2 Y i 11 lo) i 12 hi0) W0 L f1))) := by
  refine g_enter RX5 false (by decide) rfl (fun h => by cases h) (Nat.le_of_ble_eq_true rfl) (fun C hC => ?_)
  refine (show V C 6 L f 0 0 0 [(0, .ref q0), (1, .int kx), (2, .double lo), (4, .double hi0)] [] from ?_)
  refine g_aload_n hC dX5_band_0 0 rfl ?_
  refine g_iload_n hC dX5_band_1 1 rfl ?_
  refine g_callV hC (Cn := RX5) (TT := TX5) (N := 26) dX5_band_2 (ct_X5_isLoop l G L f hM kx) q_code_X5_isLoop q_ml_X5_98 q_im_X5_isLoop q_sel_X5_isLoop q_init_X5 ⟨rfl, by decide, by decide, (show (parseMethodDescriptor yX5_isLoop.desc).map (fun d => d.parameters.length) = some 1 from by decide +kernel)⟩ (MI.m hM) (MI.o hM) rfl (by decide) (by decide) (Nat.le_of_ble_eq_true rfl) (fun v2 L3 f4 hp1 => ?_)
  obtain ⟨rfl, rfl, rfl⟩ := hp1
  rcases okL_cases (MI.n16 hM) kx with ⟨hb, hnoi⟩ | ⟨i, hi, rfl, hb⟩
  · refine g_eqI (show bI (okL n kx) = 0 from by rw [hb]; rfl) ?_
    refine g_if_eq hC 33 dX5_band_5 (by decide) (fun _ => ?_) (fun c => absurd c (by decide))
    refine g_iconst hC 0 dX5_band_33 (by decide) ?_
    exact g_iret hC dX5_band_34 rfl rfl ⟨rfl, Or.inl ⟨fun j hj q => absurd q (hnoi j hj), rfl, rfl⟩⟩ (Nat.zero_le _) (Nat.zero_le _)
  · refine g_eqI (show bI (okL n (nI i)) = 1 from by rw [hb]; rfl) ?_
    have hi16 : i < 16 := by have := MI.n16 hM; omega
    refine g_if_eq hC 33 dX5_band_5 (by decide) (fun c => absurd c (by decide)) (fun _ => ?_)
    refine g_dload_n hC dX5_band_8 2 rfl ?_
    refine g_ldc2 hC dX5_band_9 q_cd_X5_102 ?_
    refine g_ldc2 hC dX5_band_12 q_cd_X5_104 ?_
    refine g_callS hC dX5_band_15 (ct_X5_isIn l G L f lo 13890095209322119168 4666723172467343360) q_code_X5_isIn q_ml_X5_90 q_st_X5_isIn q_init_X5 ⟨by decide, by decide, (show (parseMethodDescriptor yX5_isIn.desc).map (fun d => d.parameters.length) = some 3 from by decide +kernel)⟩ (by decide) (by decide) (Nat.le_of_ble_eq_true rfl) (fun v6 L7 f8 hp5 => ?_)
    obtain ⟨rfl, rfl, rfl⟩ := hp5
    refine (show V C 6 L f 0 0 18 [(0, .ref q0), (1, .int (nI i)), (2, .double lo), (4, .double hi0)] [.int (bI (inB (dv lo) (dv 13890095209322119168) (dv 4666723172467343360)))] from ?_)
    refine g_ifB_eq hC 33 dX5_band_18 (by decide) (fun c9 => ?_) (fun c9 => ?_)
    · skip
      refine g_iconst hC 0 dX5_band_33 (by decide) ?_
      exact g_iret hC dX5_band_34 rfl rfl ⟨rfl, Or.inl ⟨fun _ _ _ => by simp only [bndM, safC, Bool.and_true, Bool.true_and, Bool.and_false, Bool.false_and, Bool.not_true, Bool.not_false, decide_true, decide_false, Bool.or_true, Bool.true_or, Bool.or_false, Bool.false_or, c9], rfl, rfl⟩⟩ (Nat.zero_le _) (Nat.zero_le _)
    · skip
      refine g_dload hC dX5_band_21 3 rfl ?_
      refine g_dload_n hC dX5_band_23 2 rfl ?_
      refine g_ldc2 hC dX5_band_24 q_cd_X5_104 ?_
      refine g_callS hC dX5_band_27 (ct_X5_isIn l G L f hi0 lo 4666723172467343360) q_code_X5_isIn q_ml_X5_90 q_st_X5_isIn q_init_X5 ⟨by decide, by decide, (show (parseMethodDescriptor yX5_isIn.desc).map (fun d => d.parameters.length) = some 3 from by decide +kernel)⟩ (by decide) (by decide) (Nat.le_of_ble_eq_true rfl) (fun v11 L12 f13 hp10 => ?_)
      obtain ⟨rfl, rfl, rfl⟩ := hp10
      refine (show V C 6 L f 0 0 30 [(0, .ref q0), (1, .int (nI i)), (2, .double lo), (4, .double hi0)] [.int (bI (inB (dv hi0) (dv lo) (dv 4666723172467343360)))] from ?_)
      refine g_ifB_ne hC 35 dX5_band_30 (by decide) (fun c14 => ?_) (fun c14 => ?_)
      · skip
        refine g_aload_n hC dX5_band_35 0 rfl ?_
        refine g_get hC (kf := 8) (TT := TX5) (N := 26) (Cn := RX5) dX5_band_36 (MI.m hM) (MI.o hM) rfl q_u5 (by decide) q_fl_X5_31 rfl rfl ?_
        refine g_iload_n hC dX5_band_39 1 rfl ?_
        refine g_dload_n hC dX5_band_40 2 rfl ?_
        refine g_mds hC hM 11 (by decide) (by decide) hi16 dX5_band_41 (fun f15 hM16 hR17 => ?_)
        refine g_aload_n hC dX5_band_42 0 rfl ?_
        refine g_get hC (kf := 9) (TT := TX5) (N := 26) (Cn := RX5) dX5_band_43 (MI.m hM16) (MI.o hM16) rfl q_u5 (by decide) q_fl_X5_34 rfl rfl ?_
        refine g_iload_n hC dX5_band_46 1 rfl ?_
        refine g_dload hC dX5_band_47 3 rfl ?_
        refine g_mds hC hM16 12 (by decide) (by decide) hi16 dX5_band_49 (fun f18 hM19 hR20 => ?_)
        refine g_iconst hC 1 dX5_band_50 (by decide) ?_
        exact g_iret hC dX5_band_51 rfl rfl ⟨rfl, Or.inr ⟨i, hi, rfl, by simp only [bndM, safC, Bool.and_true, Bool.true_and, Bool.and_false, Bool.false_and, Bool.not_true, Bool.not_false, decide_true, decide_false, Bool.or_true, Bool.true_or, Bool.or_false, Bool.false_or, c9, c14], rfl, (FRm.trans hR17 hR20), hM19⟩⟩ (Nat.zero_le _) (Nat.zero_le _)
      · skip
        refine g_iconst hC 0 dX5_band_33 (by decide) ?_
        exact g_iret hC dX5_band_34 rfl rfl ⟨rfl, Or.inl ⟨fun _ _ _ => by simp only [bndM, safC, Bool.and_true, Bool.true_and, Bool.and_false, Bool.false_and, Bool.not_true, Bool.not_false, decide_true, decide_false, Bool.or_true, Bool.true_or, Bool.or_false, Bool.false_or, c9, c14], rfl, rfl⟩⟩ (Nat.zero_le _) (Nat.zero_le _)
set_option maxHeartbeats 4000000 in
set_option maxRecDepth 100000 in
/-- range of the model -/
theorem ct_X5_range (l : Launch) (G : GD) (L : List Nat) (f : Nat → va_E) {q0 : Nat} {ma : Nat → Nat} {n k : Nat} {Y : Nat → Nat → UInt64} {W0 : Nat → Nat → Int32} (hM : MI G q0 ma n k Y W0 L f) (kx : Int32) (lo hi0 : UInt64) : Ctr l yX5_range cX5_range 6 (some .boolean) { frames := 1, cells := 0, slots := 0, locals := 30 } G [.ref q0, .int kx, .double lo, .double hi0] L f (fun vv L1 f1 => L = L1 ∧ (((∀ i, i < n → kx = nI i → rngM (dv lo) (dv hi0) = false) ∧ vv = some (.int 0) ∧ f = f1) ∨ (∃ i, i < n ∧ kx = nI i ∧ rngM (dv lo) (dv hi0) = true ∧ vv = some (.int 1) ∧ FRm L f f1 ∧ MI G q0 ma n k (up2 (up2 Y i 13 lo) i 14 hi0) (up2 W0 i 25 1) L f1))) := by
  refine g_enter RX5 false (by decide) rfl (fun h => by cases h) (Nat.le_of_ble_eq_true rfl) (fun C hC => ?_)
  refine (show V C 6 L f 0 0 0 [(0, .ref q0), (1, .int kx), (2, .double lo), (4, .double hi0)] [] from ?_)
  refine g_aload_n hC dX5_range_0 0 rfl ?_
  refine g_iload_n hC dX5_range_1 1 rfl ?_
  refine g_callV hC (Cn := RX5) (TT := TX5) (N := 26) dX5_range_2 (ct_X5_isLoop l G L f hM kx) q_code_X5_isLoop q_ml_X5_98 q_im_X5_isLoop q_sel_X5_isLoop q_init_X5 ⟨rfl, by decide, by decide, (show (parseMethodDescriptor yX5_isLoop.desc).map (fun d => d.parameters.length) = some 1 from by decide +kernel)⟩ (MI.m hM) (MI.o hM) rfl (by decide) (by decide) (Nat.le_of_ble_eq_true rfl) (fun v2 L3 f4 hp1 => ?_)
  obtain ⟨rfl, rfl, rfl⟩ := hp1
  rcases okL_cases (MI.n16 hM) kx with ⟨hb, hnoi⟩ | ⟨i, hi, rfl, hb⟩
  · refine g_eqI (show bI (okL n kx) = 0 from by rw [hb]; rfl) ?_
    refine g_if_eq hC 33 dX5_range_5 (by decide) (fun _ => ?_) (fun c => absurd c (by decide))
    refine g_iconst hC 0 dX5_range_33 (by decide) ?_
    exact g_iret hC dX5_range_34 rfl rfl ⟨rfl, Or.inl ⟨fun j hj q => absurd q (hnoi j hj), rfl, rfl⟩⟩ (Nat.zero_le _) (Nat.zero_le _)
  · refine g_eqI (show bI (okL n (nI i)) = 1 from by rw [hb]; rfl) ?_
    have hi16 : i < 16 := by have := MI.n16 hM; omega
    refine g_if_eq hC 33 dX5_range_5 (by decide) (fun c => absurd c (by decide)) (fun _ => ?_)
    refine g_dload_n hC dX5_range_8 2 rfl ?_
    refine g_ldc2 hC dX5_range_9 q_cd_X5_106 ?_
    refine g_ldc2 hC dX5_range_12 q_cd_X5_108 ?_
    refine g_callS hC dX5_range_15 (ct_X5_isIn l G L f lo 13920209183539462144 4696837146684686336) q_code_X5_isIn q_ml_X5_90 q_st_X5_isIn q_init_X5 ⟨by decide, by decide, (show (parseMethodDescriptor yX5_isIn.desc).map (fun d => d.parameters.length) = some 3 from by decide +kernel)⟩ (by decide) (by decide) (Nat.le_of_ble_eq_true rfl) (fun v6 L7 f8 hp5 => ?_)
    obtain ⟨rfl, rfl, rfl⟩ := hp5
    refine (show V C 6 L f 0 0 18 [(0, .ref q0), (1, .int (nI i)), (2, .double lo), (4, .double hi0)] [.int (bI (inB (dv lo) (dv 13920209183539462144) (dv 4696837146684686336)))] from ?_)
    refine g_ifB_eq hC 33 dX5_range_18 (by decide) (fun c9 => ?_) (fun c9 => ?_)
    · skip
      refine g_iconst hC 0 dX5_range_33 (by decide) ?_
      exact g_iret hC dX5_range_34 rfl rfl ⟨rfl, Or.inl ⟨fun _ _ _ => by simp only [rngM, readS, Bool.and_true, Bool.true_and, Bool.and_false, Bool.false_and, Bool.not_true, Bool.not_false, decide_true, decide_false, Bool.or_true, Bool.true_or, Bool.or_false, Bool.false_or, c9], rfl, rfl⟩⟩ (Nat.zero_le _) (Nat.zero_le _)
    · skip
      refine g_dload hC dX5_range_21 3 rfl ?_
      refine g_dload_n hC dX5_range_23 2 rfl ?_
      refine g_ldc2 hC dX5_range_24 q_cd_X5_108 ?_
      refine g_callS hC dX5_range_27 (ct_X5_isIn l G L f hi0 lo 4696837146684686336) q_code_X5_isIn q_ml_X5_90 q_st_X5_isIn q_init_X5 ⟨by decide, by decide, (show (parseMethodDescriptor yX5_isIn.desc).map (fun d => d.parameters.length) = some 3 from by decide +kernel)⟩ (by decide) (by decide) (Nat.le_of_ble_eq_true rfl) (fun v11 L12 f13 hp10 => ?_)
      obtain ⟨rfl, rfl, rfl⟩ := hp10
      refine (show V C 6 L f 0 0 30 [(0, .ref q0), (1, .int (nI i)), (2, .double lo), (4, .double hi0)] [.int (bI (inB (dv hi0) (dv lo) (dv 4696837146684686336)))] from ?_)
      refine g_ifB_ne hC 35 dX5_range_30 (by decide) (fun c14 => ?_) (fun c14 => ?_)
      · skip
        refine g_aload_n hC dX5_range_35 0 rfl ?_
        refine g_get hC (kf := 10) (TT := TX5) (N := 26) (Cn := RX5) dX5_range_36 (MI.m hM) (MI.o hM) rfl q_u5 (by decide) q_fl_X5_37 rfl rfl ?_
        refine g_iload_n hC dX5_range_39 1 rfl ?_
        refine g_iconst hC 1 dX5_range_40 (by decide) ?_
        refine g_mzs hC hM hi16 (by decide) dX5_range_41 (fun f15 hM16 hR17 => ?_)
        refine g_aload_n hC dX5_range_42 0 rfl ?_
        refine g_get hC (kf := 11) (TT := TX5) (N := 26) (Cn := RX5) dX5_range_43 (MI.m hM16) (MI.o hM16) rfl q_u5 (by decide) q_fl_X5_41 rfl rfl ?_
        refine g_iload_n hC dX5_range_46 1 rfl ?_
        refine g_dload_n hC dX5_range_47 2 rfl ?_
        refine g_mds hC hM16 13 (by decide) (by decide) hi16 dX5_range_48 (fun f18 hM19 hR20 => ?_)
        refine g_aload_n hC dX5_range_49 0 rfl ?_
        refine g_get hC (kf := 12) (TT := TX5) (N := 26) (Cn := RX5) dX5_range_50 (MI.m hM19) (MI.o hM19) rfl q_u5 (by decide) q_fl_X5_44 rfl rfl ?_
        refine g_iload_n hC dX5_range_53 1 rfl ?_
        refine g_dload hC dX5_range_54 3 rfl ?_
        refine g_mds hC hM19 14 (by decide) (by decide) hi16 dX5_range_56 (fun f21 hM22 hR23 => ?_)
        refine g_iconst hC 1 dX5_range_57 (by decide) ?_
        exact g_iret hC dX5_range_58 rfl rfl ⟨rfl, Or.inr ⟨i, hi, rfl, by simp only [rngM, readS, Bool.and_true, Bool.true_and, Bool.and_false, Bool.false_and, Bool.not_true, Bool.not_false, decide_true, decide_false, Bool.or_true, Bool.true_or, Bool.or_false, Bool.false_or, c9, c14], rfl, (FRm.trans (FRm.trans hR17 hR20) hR23), hM22⟩⟩ (Nat.zero_le _) (Nat.zero_le _)
      · skip
        refine g_iconst hC 0 dX5_range_33 (by decide) ?_
        exact g_iret hC dX5_range_34 rfl rfl ⟨rfl, Or.inl ⟨fun _ _ _ => by simp only [rngM, readS, Bool.and_true, Bool.true_and, Bool.and_false, Bool.false_and, Bool.not_true, Bool.not_false, decide_true, decide_false, Bool.or_true, Bool.true_or, Bool.or_false, Bool.false_or, c9, c14], rfl, rfl⟩⟩ (Nat.zero_le _) (Nat.zero_le _)
set_option maxHeartbeats 4000000 in
set_option maxRecDepth 100000 in
/-- hand of the model -/
theorem ct_X5_hand (l : Launch) (G : GD) (L : List Nat) (f : Nat → va_E) {q0 : Nat} {ma : Nat → Nat} {n k : Nat} {Y : Nat → Nat → UInt64} {W0 : Nat → Nat → Int32} (hM : MI G q0 ma n k Y W0 L f) (kx : Int32) (v : UInt64) : Ctr l yX5_hand cX5_hand 4 (some .boolean) { frames := 1, cells := 0, slots := 0, locals := 30 } G [.ref q0, .int kx, .double v] L f (fun vv L1 f1 => L = L1 ∧ (((∀ i, i < n → kx = nI i → hanC (W0 i 20) (dv v) (dv (Y i 9)) (dv (Y i 10)) = false) ∧ vv = some (.int 0) ∧ f = f1) ∨ (∃ i, i < n ∧ kx = nI i ∧ hanC (W0 i 20) (dv v) (dv (Y i 9)) (dv (Y i 10)) = true ∧ vv = some (.int 1) ∧ FRm L f f1 ∧ MI G q0 ma n k (up2 Y i 8 v) W0 L f1))) := by
  refine g_enter RX5 false (by decide) rfl (fun h => by cases h) (Nat.le_of_ble_eq_true rfl) (fun C hC => ?_)
  refine (show V C 4 L f 0 0 0 [(0, .ref q0), (1, .int kx), (2, .double v)] [] from ?_)
  refine g_aload_n hC dX5_hand_0 0 rfl ?_
  refine g_iload_n hC dX5_hand_1 1 rfl ?_
  refine g_callV hC (Cn := RX5) (TT := TX5) (N := 26) dX5_hand_2 (ct_X5_isLoop l G L f hM kx) q_code_X5_isLoop q_ml_X5_98 q_im_X5_isLoop q_sel_X5_isLoop q_init_X5 ⟨rfl, by decide, by decide, (show (parseMethodDescriptor yX5_isLoop.desc).map (fun d => d.parameters.length) = some 1 from by decide +kernel)⟩ (MI.m hM) (MI.o hM) rfl (by decide) (by decide) (Nat.le_of_ble_eq_true rfl) (fun v2 L3 f4 hp1 => ?_)
  obtain ⟨rfl, rfl, rfl⟩ := hp1
  rcases okL_cases (MI.n16 hM) kx with ⟨hb, hnoi⟩ | ⟨i, hi, rfl, hb⟩
  · refine g_eqI (show bI (okL n kx) = 0 from by rw [hb]; rfl) ?_
    refine g_if_eq hC 36 dX5_hand_5 (by decide) (fun _ => ?_) (fun c => absurd c (by decide))
    refine g_iconst hC 0 dX5_hand_36 (by decide) ?_
    exact g_iret hC dX5_hand_37 rfl rfl ⟨rfl, Or.inl ⟨fun j hj q => absurd q (hnoi j hj), rfl, rfl⟩⟩ (Nat.zero_le _) (Nat.zero_le _)
  · refine g_eqI (show bI (okL n (nI i)) = 1 from by rw [hb]; rfl) ?_
    have hi16 : i < 16 := by have := MI.n16 hM; omega
    refine g_if_eq hC 36 dX5_hand_5 (by decide) (fun c => absurd c (by decide)) (fun _ => ?_)
    refine g_aload_n hC dX5_hand_8 0 rfl ?_
    refine g_get hC (kf := 17) (TT := TX5) (N := 26) (Cn := RX5) dX5_hand_9 (MI.m hM) (MI.o hM) rfl q_u5 (by decide) q_fl_X5_59 rfl rfl ?_
    refine g_iload_n hC dX5_hand_12 1 rfl ?_
    refine g_mil hC hM 20 (by decide) (by decide) hi16 (W0 i 20) rfl dX5_hand_13 ?_
    refine g_if_ne hC 36 dX5_hand_14 (by decide) (fun c5 => ?_) (fun c5 => ?_)
    · skip
      refine g_iconst hC 0 dX5_hand_36 (by decide) ?_
      exact g_iret hC dX5_hand_37 rfl rfl ⟨rfl, Or.inl ⟨fun j hj q => by have q1 := nI_injL hi16 (by have := MI.n16 hM; omega) q; subst q1; simp only [hanC, Bool.and_true, Bool.true_and, Bool.and_false, Bool.false_and, Bool.not_true, Bool.not_false, decide_true, decide_false, Bool.or_true, Bool.true_or, Bool.or_false, Bool.false_or, eq_false c5], rfl, rfl⟩⟩ (Nat.zero_le _) (Nat.zero_le _)
    · skip
      refine g_dload_n hC dX5_hand_17 2 rfl ?_
      refine g_aload_n hC dX5_hand_18 0 rfl ?_
      refine g_get hC (kf := 4) (TT := TX5) (N := 26) (Cn := RX5) dX5_hand_19 (MI.m hM) (MI.o hM) rfl q_u5 (by decide) q_fl_X5_19 rfl rfl ?_
      refine g_iload_n hC dX5_hand_22 1 rfl ?_
      refine g_mdl hC hM 9 (by decide) (by decide) hi16 (Y i 9) rfl dX5_hand_23 ?_
      refine g_aload_n hC dX5_hand_24 0 rfl ?_
      refine g_get hC (kf := 5) (TT := TX5) (N := 26) (Cn := RX5) dX5_hand_25 (MI.m hM) (MI.o hM) rfl q_u5 (by decide) q_fl_X5_22 rfl rfl ?_
      refine g_iload_n hC dX5_hand_28 1 rfl ?_
      refine g_mdl hC hM 10 (by decide) (by decide) hi16 (Y i 10) rfl dX5_hand_29 ?_
      refine g_callS hC dX5_hand_30 (ct_X5_isIn l G L f v (Y i 9) (Y i 10)) q_code_X5_isIn q_ml_X5_90 q_st_X5_isIn q_init_X5 ⟨by decide, by decide, (show (parseMethodDescriptor yX5_isIn.desc).map (fun d => d.parameters.length) = some 3 from by decide +kernel)⟩ (by decide) (by decide) (Nat.le_of_ble_eq_true rfl) (fun v7 L8 f9 hp6 => ?_)
      obtain ⟨rfl, rfl, rfl⟩ := hp6
      refine (show V C 4 L f 0 0 33 [(0, .ref q0), (1, .int (nI i)), (2, .double v)] [.int (bI (inB (dv v) (dv (Y i 9)) (dv (Y i 10))))] from ?_)
      refine g_ifB_ne hC 38 dX5_hand_33 (by decide) (fun c10 => ?_) (fun c10 => ?_)
      · skip
        refine g_aload_n hC dX5_hand_38 0 rfl ?_
        refine g_get hC (kf := 16) (TT := TX5) (N := 26) (Cn := RX5) dX5_hand_39 (MI.m hM) (MI.o hM) rfl q_u5 (by decide) q_fl_X5_56 rfl rfl ?_
        refine g_iload_n hC dX5_hand_42 1 rfl ?_
        refine g_dload_n hC dX5_hand_43 2 rfl ?_
        refine g_mds hC hM 8 (by decide) (by decide) hi16 dX5_hand_44 (fun f11 hM12 hR13 => ?_)
        refine g_iconst hC 1 dX5_hand_45 (by decide) ?_
        exact g_iret hC dX5_hand_46 rfl rfl ⟨rfl, Or.inr ⟨i, hi, rfl, by simp only [hanC, Bool.and_true, Bool.true_and, Bool.and_false, Bool.false_and, Bool.not_true, Bool.not_false, decide_true, decide_false, Bool.or_true, Bool.true_or, Bool.or_false, Bool.false_or, eq_true c5, c10], rfl, hR13, hM12⟩⟩ (Nat.zero_le _) (Nat.zero_le _)
      · skip
        refine g_iconst hC 0 dX5_hand_36 (by decide) ?_
        exact g_iret hC dX5_hand_37 rfl rfl ⟨rfl, Or.inl ⟨fun j hj q => by have q1 := nI_injL hi16 (by have := MI.n16 hM; omega) q; subst q1; simp only [hanC, Bool.and_true, Bool.true_and, Bool.and_false, Bool.false_and, Bool.not_true, Bool.not_false, decide_true, decide_false, Bool.or_true, Bool.true_or, Bool.or_false, Bool.false_or, eq_true c5, c10], rfl, rfl⟩⟩ (Nat.zero_le _) (Nat.zero_le _)
set_option maxHeartbeats 4000000 in
set_option maxRecDepth 100000 in
/-- fault of the model -/
theorem ct_X5_fault (l : Launch) (G : GD) (L : List Nat) (f : Nat → va_E) {q0 : Nat} {ma : Nat → Nat} {n k : Nat} {Y : Nat → Nat → UInt64} {W0 : Nat → Nat → Int32} (hM : MI G q0 ma n k Y W0 L f) (kx : Int32) : Ctr l yX5_fault cX5_fault 2 (some .int) { frames := 1, cells := 0, slots := 0, locals := 30 } G [.ref q0, .int kx] L f (fun vv L1 f1 => L = L1 ∧ f = f1 ∧ (((∀ i, i < n → ¬ kx = nI i) ∧ vv = some (.int (-1))) ∨ ∃ i, i < n ∧ kx = nI i ∧ vv = some (.int (W0 i 21)))) := by
  refine g_enter RX5 false (by decide) rfl (fun h => by cases h) (Nat.le_of_ble_eq_true rfl) (fun C hC => ?_)
  refine (show V C 2 L f 0 0 0 [(0, .ref q0), (1, .int kx)] [] from ?_)
  refine g_aload_n hC dX5_fault_0 0 rfl ?_
  refine g_iload_n hC dX5_fault_1 1 rfl ?_
  refine g_callV hC (Cn := RX5) (TT := TX5) (N := 26) dX5_fault_2 (ct_X5_isLoop l G L f hM kx) q_code_X5_isLoop q_ml_X5_98 q_im_X5_isLoop q_sel_X5_isLoop q_init_X5 ⟨rfl, by decide, by decide, (show (parseMethodDescriptor yX5_isLoop.desc).map (fun d => d.parameters.length) = some 1 from by decide +kernel)⟩ (MI.m hM) (MI.o hM) rfl (by decide) (by decide) (Nat.le_of_ble_eq_true rfl) (fun v2 L3 f4 hp1 => ?_)
  obtain ⟨rfl, rfl, rfl⟩ := hp1
  rcases okL_cases (MI.n16 hM) kx with ⟨hb, hnoi⟩ | ⟨i, hi, rfl, hb⟩
  · refine g_eqI (show bI (okL n kx) = 0 from by rw [hb]; rfl) ?_
    refine g_if_eq hC 17 dX5_fault_5 (by decide) (fun _ => ?_) (fun c => absurd c (by decide))
    refine g_iconst hC (-1) dX5_fault_17 (by decide) ?_
    exact g_iret hC dX5_fault_18 rfl rfl ⟨rfl, rfl, Or.inl ⟨hnoi, rfl⟩⟩ (Nat.zero_le _) (Nat.zero_le _)
  · refine g_eqI (show bI (okL n (nI i)) = 1 from by rw [hb]; rfl) ?_
    have hi16 : i < 16 := by have := MI.n16 hM; omega
    refine g_if_eq hC 17 dX5_fault_5 (by decide) (fun c => absurd c (by decide)) (fun _ => ?_)
    refine g_aload_n hC dX5_fault_8 0 rfl ?_
    refine g_get hC (kf := 19) (TT := TX5) (N := 26) (Cn := RX5) dX5_fault_9 (MI.m hM) (MI.o hM) rfl q_u5 (by decide) q_fl_X5_66 rfl rfl ?_
    refine g_iload_n hC dX5_fault_12 1 rfl ?_
    refine g_mil hC hM 21 (by decide) (by decide) hi16 (W0 i 21) rfl dX5_fault_13 ?_
    refine g_goto hC 18 dX5_fault_14 (by decide) ?_
    exact g_iret hC dX5_fault_18 rfl rfl ⟨rfl, rfl, Or.inr ⟨i, hi, rfl, rfl⟩⟩ (Nat.zero_le _) (Nat.zero_le _)
set_option maxHeartbeats 4000000 in
set_option maxRecDepth 100000 in
/-- move of the model -/
theorem ct_X5_move (l : Launch) (G : GD) (L : List Nat) (f : Nat → va_E) {q0 : Nat} {ma : Nat → Nat} {n k : Nat} {Y : Nat → Nat → UInt64} {W0 : Nat → Nat → Int32} (hM : MI G q0 ma n k Y W0 L f) {i : Nat} (hi : i < 16) (w0 : UInt64) : Ctr l yX5_move cX5_move 8 none R00 G [.ref q0, .int (nI i), .double w0] L f (fun vv L1 f1 => vv = none ∧ L = L1 ∧ FRm L f f1 ∧ ∃ u : UInt64, dv u = MV (dv (Y i 5)) (dv (Y i 3)) (dv w0) ∧ MI G q0 ma n k (up2 Y i 5 u) W0 L f1) := by
  refine g_enter RX5 false (by decide) rfl (fun h => by cases h) (Nat.le_of_ble_eq_true rfl) (fun C hC => ?_)
  refine (show V C 8 L f 0 0 0 [(0, .ref q0), (1, .int (nI i)), (2, .double w0)] [] from ?_)
  refine g_aload_n hC dX5_move_0 0 rfl ?_
  refine g_get hC (kf := 13) (TT := TX5) (N := 26) (Cn := RX5) dX5_move_1 (MI.m hM) (MI.o hM) rfl q_u5 (by decide) q_fl_X5_47 rfl rfl ?_
  refine g_iload_n hC dX5_move_4 1 rfl ?_
  refine g_mdl hC hM 5 (by decide) (by decide) hi (Y i 5) rfl dX5_move_5 ?_
  refine g_aload_n hC dX5_move_6 0 rfl ?_
  refine g_get hC (kf := 6) (TT := TX5) (N := 26) (Cn := RX5) dX5_move_7 (MI.m hM) (MI.o hM) rfl q_u5 (by decide) q_fl_X5_25 rfl rfl ?_
  refine g_iload_n hC dX5_move_10 1 rfl ?_
  refine g_mdl hC hM 3 (by decide) (by decide) hi (Y i 3) rfl dX5_move_11 ?_
  refine g_dadd hC dX5_move_12 (fun r1 er1 => ?_)
  refine g_dstore hC (lv1 := [(4, .double r1), (0, .ref q0), (1, .int (nI i)), (2, .double w0)]) dX5_move_13 (by decide) rfl ?_
  refine g_aload_n hC dX5_move_15 1 rfl ?_
  refine g_get hC (kf := 13) (TT := TX5) (N := 26) (Cn := RX5) dX5_move_16 (MI.m hM) (MI.o hM) rfl q_u5 (by decide) q_fl_X5_47 rfl rfl ?_
  refine g_iload_n hC dX5_move_19 2 rfl ?_
  refine g_mdl hC hM 5 (by decide) (by decide) hi (Y i 5) rfl dX5_move_20 ?_
  refine g_aload_n hC dX5_move_21 1 rfl ?_
  refine g_get hC (kf := 6) (TT := TX5) (N := 26) (Cn := RX5) dX5_move_22 (MI.m hM) (MI.o hM) rfl q_u5 (by decide) q_fl_X5_25 rfl rfl ?_
  refine g_iload_n hC dX5_move_25 2 rfl ?_
  refine g_mdl hC hM 3 (by decide) (by decide) hi (Y i 3) rfl dX5_move_26 ?_
  refine g_dsub hC dX5_move_27 (fun r2 er2 => ?_)
  refine g_dstore hC (lv1 := [(6, .double r2), (4, .double r1), (0, .ref q0), (1, .int (nI i)), (2, .double w0)]) dX5_move_28 (by decide) rfl ?_
  refine g_aload_n hC dX5_move_30 2 rfl ?_
  refine g_get hC (kf := 13) (TT := TX5) (N := 26) (Cn := RX5) dX5_move_31 (MI.m hM) (MI.o hM) rfl q_u5 (by decide) q_fl_X5_47 rfl rfl ?_
  refine g_iload_n hC dX5_move_34 3 rfl ?_
  refine g_dload_n hC dX5_move_35 4 rfl ?_
  refine g_dload hC dX5_move_36 1 rfl ?_
  refine g_dcmpl_le hC 47 dX5_move_38 dX5_move_39 (by decide) (fun c3 => ?_) (fun c3 => ?_)
  · try simp only [er1, er2] at c3
    refine g_dload_n hC dX5_move_47 4 rfl ?_
    refine g_dload hC dX5_move_48 0 rfl ?_
    refine g_dcmpg_ge hC 59 dX5_move_50 dX5_move_51 (by decide) (fun c4 => ?_) (fun c4 => ?_)
    · try simp only [er1, er2] at c4
      refine g_dload_n hC dX5_move_59 4 rfl ?_
      refine g_mds hC hM 5 (by decide) (by decide) hi dX5_move_60 (fun f5 hM6 hR7 => ?_)
      exact g_vret hC dX5_move_61 rfl ⟨rfl, rfl, hR7, w0, by simp [MV, c3, c4, er1, er2], hM6⟩ (Nat.zero_le _) (Nat.zero_le _)
    · try simp only [er1, er2] at c4
      refine g_dload hC dX5_move_54 0 rfl ?_
      refine g_goto hC 60 dX5_move_56 (by decide) ?_
      refine g_mds hC hM 5 (by decide) (by decide) hi dX5_move_60 (fun f8 hM9 hR10 => ?_)
      exact g_vret hC dX5_move_61 rfl ⟨rfl, rfl, hR10, r2, by simp [MV, c3, c4, er1, er2], hM9⟩ (Nat.zero_le _) (Nat.zero_le _)
  · try simp only [er1, er2] at c3
    refine g_dload hC dX5_move_42 1 rfl ?_
    refine g_goto hC 60 dX5_move_44 (by decide) ?_
    refine g_mds hC hM 5 (by decide) (by decide) hi dX5_move_60 (fun f11 hM12 hR13 => ?_)
    exact g_vret hC dX5_move_61 rfl ⟨rfl, rfl, hR13, r1, by simp [MV, c3, er1, er2], hM12⟩ (Nat.zero_le _) (Nat.zero_le _)
set_option maxHeartbeats 4000000 in
set_option maxRecDepth 100000 in
/-- mode of the model -/
theorem ct_X5_mode (l : Launch) (G : GD) (L : List Nat) (f : Nat → va_E) {q0 : Nat} {ma : Nat → Nat} {n k : Nat} {Y : Nat → Nat → UInt64} {W0 : Nat → Nat → Int32} (hM : MI G q0 ma n k Y W0 L f) (kx m : Int32) : Ctr l yX5_mode cX5_mode 3 (some .boolean) { frames := 1, cells := 0, slots := 0, locals := 30 } G [.ref q0, .int kx, .int m] L f (fun vv L1 f1 => L = L1 ∧ (((∀ i, i < n → kx = nI i → modC m = false) ∧ vv = some (.int 0) ∧ f = f1) ∨ (∃ i, i < n ∧ kx = nI i ∧ modC m = true ∧ vv = some (.int 1) ∧ FRm L f f1 ∧ ∃ h s : UInt64, dv h = mdH (dz (Y i)) (W0 i 20) m ∧ dv s = mdS (dz (Y i)) (W0 i 20) m ∧ MI G q0 ma n k (up2 (up2 Y i 8 h) i 6 s) (up2 W0 i 20 m) L f1))) := by
  refine g_enter RX5 false (by decide) rfl (fun h => by cases h) (Nat.le_of_ble_eq_true rfl) (fun C hC => ?_)
  refine (show V C 3 L f 0 0 0 [(0, .ref q0), (1, .int kx), (2, .int m)] [] from ?_)
  refine g_aload_n hC dX5_mode_0 0 rfl ?_
  refine g_iload_n hC dX5_mode_1 1 rfl ?_
  refine g_callV hC (Cn := RX5) (TT := TX5) (N := 26) dX5_mode_2 (ct_X5_isLoop l G L f hM kx) q_code_X5_isLoop q_ml_X5_98 q_im_X5_isLoop q_sel_X5_isLoop q_init_X5 ⟨rfl, by decide, by decide, (show (parseMethodDescriptor yX5_isLoop.desc).map (fun d => d.parameters.length) = some 1 from by decide +kernel)⟩ (MI.m hM) (MI.o hM) rfl (by decide) (by decide) (Nat.le_of_ble_eq_true rfl) (fun v2 L3 f4 hp1 => ?_)
  obtain ⟨rfl, rfl, rfl⟩ := hp1
  rcases okL_cases (MI.n16 hM) kx with ⟨hb, hnoi⟩ | ⟨i, hi, rfl, hb⟩
  · refine g_eqI (show bI (okL n kx) = 0 from by rw [hb]; rfl) ?_
    refine g_if_eq hC 17 dX5_mode_5 (by decide) (fun _ => ?_) (fun c => absurd c (by decide))
    refine g_iconst hC 0 dX5_mode_17 (by decide) ?_
    exact g_iret hC dX5_mode_18 rfl rfl ⟨rfl, Or.inl ⟨fun j hj q => absurd q (hnoi j hj), rfl, rfl⟩⟩ (Nat.zero_le _) (Nat.zero_le _)
  · refine g_eqI (show bI (okL n (nI i)) = 1 from by rw [hb]; rfl) ?_
    have hi16 : i < 16 := by have := MI.n16 hM; omega
    refine g_if_eq hC 17 dX5_mode_5 (by decide) (fun c => absurd c (by decide)) (fun _ => ?_)
    refine g_iload_n hC dX5_mode_8 2 rfl ?_
    refine g_if_lt hC 17 dX5_mode_9 (by decide) (fun c5 => ?_) (fun c5 => ?_)
    · skip
      refine g_iconst hC 0 dX5_mode_17 (by decide) ?_
      exact g_iret hC dX5_mode_18 rfl rfl ⟨rfl, Or.inl ⟨fun _ _ _ => by simp only [modC, Bool.and_true, Bool.true_and, Bool.and_false, Bool.false_and, Bool.not_true, Bool.not_false, decide_true, decide_false, Bool.or_true, Bool.true_or, Bool.or_false, Bool.false_or, eq_true c5], rfl, rfl⟩⟩ (Nat.zero_le _) (Nat.zero_le _)
    · skip
      refine g_iload_n hC dX5_mode_12 2 rfl ?_
      refine g_iconst hC 2 dX5_mode_13 (by decide) ?_
      refine g_icmp_le hC 19 dX5_mode_14 (by decide) (fun c6 => ?_) (fun c6 => ?_)
      · skip
        refine g_aload_n hC dX5_mode_19 0 rfl ?_
        refine g_get hC (kf := 17) (TT := TX5) (N := 26) (Cn := RX5) dX5_mode_20 (MI.m hM) (MI.o hM) rfl q_u5 (by decide) q_fl_X5_59 rfl rfl ?_
        refine g_iload_n hC dX5_mode_23 1 rfl ?_
        refine g_mil hC hM 20 (by decide) (by decide) hi16 (W0 i 20) rfl dX5_mode_24 ?_
        refine g_iload_n hC dX5_mode_25 2 rfl ?_
        refine g_icmp_eq hC 101 dX5_mode_26 (by decide) (fun c7 => ?_) (fun c7 => ?_)
        · skip
          refine g_iconst hC 1 dX5_mode_101 (by decide) ?_
          refine g_iret hC dX5_mode_102 rfl rfl ⟨rfl, Or.inr ⟨i, hi, rfl, by simp only [modC, Bool.and_true, Bool.true_and, Bool.and_false, Bool.false_and, Bool.not_true, Bool.not_false, decide_true, decide_false, Bool.or_true, Bool.true_or, Bool.or_false, Bool.false_or, eq_false c5, eq_true c6, eq_true c7], rfl, FRm.rf, ?_⟩⟩ (Nat.zero_le _) (Nat.zero_le _)
          refine ⟨Y i 8, Y i 6, by simp only [mdH, if_pos (Eq.symm c7)], by simp only [mdS, if_pos (Eq.symm c7)], ?_⟩
          rw [up2_id, up2_id, ← c7, up2_id]; exact hM
        · skip
          refine g_aload_n hC dX5_mode_29 0 rfl ?_
          refine g_get hC (kf := 16) (TT := TX5) (N := 26) (Cn := RX5) dX5_mode_30 (MI.m hM) (MI.o hM) rfl q_u5 (by decide) q_fl_X5_56 rfl rfl ?_
          refine g_iload_n hC dX5_mode_33 1 rfl ?_
          refine g_iload_n hC dX5_mode_34 2 rfl ?_
          refine g_if_ne hC 47 dX5_mode_35 (by decide) (fun c8 => ?_) (fun c8 => ?_)
          · skip
            refine g_aload_n hC dX5_mode_47 0 rfl ?_
            refine g_get hC (kf := 16) (TT := TX5) (N := 26) (Cn := RX5) dX5_mode_48 (MI.m hM) (MI.o hM) rfl q_u5 (by decide) q_fl_X5_56 rfl rfl ?_
            refine g_iload_n hC dX5_mode_51 1 rfl ?_
            refine g_mdl hC hM 8 (by decide) (by decide) hi16 (Y i 8) rfl dX5_mode_52 ?_
            refine g_mds hC hM 8 (by decide) (by decide) hi16 dX5_mode_53 (fun f9 hM10 hR11 => ?_)
            refine g_aload_n hC dX5_mode_54 0 rfl ?_
            refine g_get hC (kf := 14) (TT := TX5) (N := 26) (Cn := RX5) dX5_mode_55 (MI.m hM10) (MI.o hM10) rfl q_u5 (by decide) q_fl_X5_50 rfl rfl ?_
            refine g_iload_n hC dX5_mode_58 1 rfl ?_
            refine g_iload_n hC dX5_mode_59 2 rfl ?_
            refine g_iconst hC 1 dX5_mode_60 (by decide) ?_
            refine g_icmp_ne hC 87 dX5_mode_61 (by decide) (fun c12 => ?_) (fun c12 => ?_)
            · skip
              refine g_aload_n hC dX5_mode_87 0 rfl ?_
              refine g_get hC (kf := 14) (TT := TX5) (N := 26) (Cn := RX5) dX5_mode_88 (MI.m hM10) (MI.o hM10) rfl q_u5 (by decide) q_fl_X5_50 rfl rfl ?_
              refine g_iload_n hC dX5_mode_91 1 rfl ?_
              refine g_mdl hC hM10 6 (by decide) (by decide) hi16 (Y i 6) (by simp [up2]) dX5_mode_92 ?_
              refine g_mds hC hM10 6 (by decide) (by decide) hi16 dX5_mode_93 (fun f13 hM14 hR15 => ?_)
              refine g_aload_n hC dX5_mode_94 0 rfl ?_
              refine g_get hC (kf := 17) (TT := TX5) (N := 26) (Cn := RX5) dX5_mode_95 (MI.m hM14) (MI.o hM14) rfl q_u5 (by decide) q_fl_X5_59 rfl rfl ?_
              refine g_iload_n hC dX5_mode_98 1 rfl ?_
              refine g_iload_n hC dX5_mode_99 2 rfl ?_
              refine g_mis hC hM14 20 (by decide) (by decide) hi16 dX5_mode_100 (fun f16 hM17 hR18 => ?_)
              refine g_iconst hC 1 dX5_mode_101 (by decide) ?_
              refine g_iret hC dX5_mode_102 rfl rfl ⟨rfl, Or.inr ⟨i, hi, rfl, by simp only [modC, Bool.and_true, Bool.true_and, Bool.and_false, Bool.false_and, Bool.not_true, Bool.not_false, decide_true, decide_false, Bool.or_true, Bool.true_or, Bool.or_false, Bool.false_or, eq_false c5, eq_true c6, eq_false c7, eq_false c8, eq_false c12], rfl, (FRm.trans (FRm.trans hR11 hR15) hR18), ?_⟩⟩ (Nat.zero_le _) (Nat.zero_le _)
              have hne : ¬ m = W0 i 20 := fun q => c7 q.symm
              exact ⟨(Y i 8), (Y i 6), by simp only [mdH, if_neg hne]; simp [c8, c12], by simp only [mdS, if_neg hne]; simp [c8, c12], by first | exact hM17 | (have h9 := hM17; simp only [up2_id] at h9 ⊢; exact h9)⟩
            · skip
              refine g_aload_n hC dX5_mode_64 0 rfl ?_
              refine g_get hC (kf := 13) (TT := TX5) (N := 26) (Cn := RX5) dX5_mode_65 (MI.m hM10) (MI.o hM10) rfl q_u5 (by decide) q_fl_X5_47 rfl rfl ?_
              refine g_iload_n hC dX5_mode_68 1 rfl ?_
              refine g_mdl hC hM10 5 (by decide) (by decide) hi16 (Y i 5) (by simp [up2]) dX5_mode_69 ?_
              refine g_aload_n hC dX5_mode_70 0 rfl ?_
              refine g_get hC (kf := 1) (TT := TX5) (N := 26) (Cn := RX5) dX5_mode_71 (MI.m hM10) (MI.o hM10) rfl q_u5 (by decide) q_fl_X5_9 rfl rfl ?_
              refine g_iload_n hC dX5_mode_74 1 rfl ?_
              refine g_mdl hC hM10 0 (by decide) (by decide) hi16 (Y i 0) (by simp [up2]) dX5_mode_75 ?_
              refine g_aload_n hC dX5_mode_76 0 rfl ?_
              refine g_get hC (kf := 15) (TT := TX5) (N := 26) (Cn := RX5) dX5_mode_77 (MI.m hM10) (MI.o hM10) rfl q_u5 (by decide) q_fl_X5_53 rfl rfl ?_
              refine g_iload_n hC dX5_mode_80 1 rfl ?_
              refine g_mdl hC hM10 7 (by decide) (by decide) hi16 (Y i 7) (by simp [up2]) dX5_mode_81 ?_
              refine g_dmul hC dX5_mode_82 (fun r19 er19 => ?_)
              refine g_dsub hC dX5_mode_83 (fun r20 er20 => ?_)
              try simp only [er19] at er20
              refine g_goto hC 93 dX5_mode_84 (by decide) ?_
              refine g_mds hC hM10 6 (by decide) (by decide) hi16 dX5_mode_93 (fun f21 hM22 hR23 => ?_)
              refine g_aload_n hC dX5_mode_94 0 rfl ?_
              refine g_get hC (kf := 17) (TT := TX5) (N := 26) (Cn := RX5) dX5_mode_95 (MI.m hM22) (MI.o hM22) rfl q_u5 (by decide) q_fl_X5_59 rfl rfl ?_
              refine g_iload_n hC dX5_mode_98 1 rfl ?_
              refine g_iload_n hC dX5_mode_99 2 rfl ?_
              refine g_mis hC hM22 20 (by decide) (by decide) hi16 dX5_mode_100 (fun f24 hM25 hR26 => ?_)
              refine g_iconst hC 1 dX5_mode_101 (by decide) ?_
              refine g_iret hC dX5_mode_102 rfl rfl ⟨rfl, Or.inr ⟨i, hi, rfl, by simp only [modC, Bool.and_true, Bool.true_and, Bool.and_false, Bool.false_and, Bool.not_true, Bool.not_false, decide_true, decide_false, Bool.or_true, Bool.true_or, Bool.or_false, Bool.false_or, eq_false c5, eq_true c6, eq_false c7, eq_false c8, eq_true c12], rfl, (FRm.trans (FRm.trans hR11 hR23) hR26), ?_⟩⟩ (Nat.zero_le _) (Nat.zero_le _)
              have hne : ¬ m = W0 i 20 := fun q => c7 q.symm
              exact ⟨(Y i 8), r20, by simp only [mdH, if_neg hne]; simp [c8, c12, er19, er20], by simp only [mdS, if_neg hne]; simp [c8, c12, er19, er20], by first | exact hM25 | (have h9 := hM25; simp only [up2_id] at h9 ⊢; exact h9)⟩
          · skip
            refine g_aload_n hC dX5_mode_38 0 rfl ?_
            refine g_get hC (kf := 13) (TT := TX5) (N := 26) (Cn := RX5) dX5_mode_39 (MI.m hM) (MI.o hM) rfl q_u5 (by decide) q_fl_X5_47 rfl rfl ?_
            refine g_iload_n hC dX5_mode_42 1 rfl ?_
            refine g_mdl hC hM 5 (by decide) (by decide) hi16 (Y i 5) rfl dX5_mode_43 ?_
            refine g_goto hC 53 dX5_mode_44 (by decide) ?_
            refine g_mds hC hM 8 (by decide) (by decide) hi16 dX5_mode_53 (fun f27 hM28 hR29 => ?_)
            refine g_aload_n hC dX5_mode_54 0 rfl ?_
            refine g_get hC (kf := 14) (TT := TX5) (N := 26) (Cn := RX5) dX5_mode_55 (MI.m hM28) (MI.o hM28) rfl q_u5 (by decide) q_fl_X5_50 rfl rfl ?_
            refine g_iload_n hC dX5_mode_58 1 rfl ?_
            refine g_iload_n hC dX5_mode_59 2 rfl ?_
            refine g_iconst hC 1 dX5_mode_60 (by decide) ?_
            refine g_icmp_ne hC 87 dX5_mode_61 (by decide) (fun c30 => ?_) (fun c30 => ?_)
            · skip
              refine g_aload_n hC dX5_mode_87 0 rfl ?_
              refine g_get hC (kf := 14) (TT := TX5) (N := 26) (Cn := RX5) dX5_mode_88 (MI.m hM28) (MI.o hM28) rfl q_u5 (by decide) q_fl_X5_50 rfl rfl ?_
              refine g_iload_n hC dX5_mode_91 1 rfl ?_
              refine g_mdl hC hM28 6 (by decide) (by decide) hi16 (Y i 6) (by simp [up2]) dX5_mode_92 ?_
              refine g_mds hC hM28 6 (by decide) (by decide) hi16 dX5_mode_93 (fun f31 hM32 hR33 => ?_)
              refine g_aload_n hC dX5_mode_94 0 rfl ?_
              refine g_get hC (kf := 17) (TT := TX5) (N := 26) (Cn := RX5) dX5_mode_95 (MI.m hM32) (MI.o hM32) rfl q_u5 (by decide) q_fl_X5_59 rfl rfl ?_
              refine g_iload_n hC dX5_mode_98 1 rfl ?_
              refine g_iload_n hC dX5_mode_99 2 rfl ?_
              refine g_mis hC hM32 20 (by decide) (by decide) hi16 dX5_mode_100 (fun f34 hM35 hR36 => ?_)
              refine g_iconst hC 1 dX5_mode_101 (by decide) ?_
              refine g_iret hC dX5_mode_102 rfl rfl ⟨rfl, Or.inr ⟨i, hi, rfl, by simp only [modC, Bool.and_true, Bool.true_and, Bool.and_false, Bool.false_and, Bool.not_true, Bool.not_false, decide_true, decide_false, Bool.or_true, Bool.true_or, Bool.or_false, Bool.false_or, eq_false c5, eq_true c6, eq_false c7, eq_true c8, eq_false c30], rfl, (FRm.trans (FRm.trans hR29 hR33) hR36), ?_⟩⟩ (Nat.zero_le _) (Nat.zero_le _)
              have hne : ¬ m = W0 i 20 := fun q => c7 q.symm
              exact ⟨(Y i 5), (Y i 6), by simp only [mdH, if_neg hne]; simp [c8, c30], by simp only [mdS, if_neg hne]; simp [c8, c30], by first | exact hM35 | (have h9 := hM35; simp only [up2_id] at h9 ⊢; exact h9)⟩
            · skip
              refine g_aload_n hC dX5_mode_64 0 rfl ?_
              refine g_get hC (kf := 13) (TT := TX5) (N := 26) (Cn := RX5) dX5_mode_65 (MI.m hM28) (MI.o hM28) rfl q_u5 (by decide) q_fl_X5_47 rfl rfl ?_
              refine g_iload_n hC dX5_mode_68 1 rfl ?_
              refine g_mdl hC hM28 5 (by decide) (by decide) hi16 (Y i 5) (by simp [up2]) dX5_mode_69 ?_
              refine g_aload_n hC dX5_mode_70 0 rfl ?_
              refine g_get hC (kf := 1) (TT := TX5) (N := 26) (Cn := RX5) dX5_mode_71 (MI.m hM28) (MI.o hM28) rfl q_u5 (by decide) q_fl_X5_9 rfl rfl ?_
              refine g_iload_n hC dX5_mode_74 1 rfl ?_
              refine g_mdl hC hM28 0 (by decide) (by decide) hi16 (Y i 0) (by simp [up2]) dX5_mode_75 ?_
              refine g_aload_n hC dX5_mode_76 0 rfl ?_
              refine g_get hC (kf := 15) (TT := TX5) (N := 26) (Cn := RX5) dX5_mode_77 (MI.m hM28) (MI.o hM28) rfl q_u5 (by decide) q_fl_X5_53 rfl rfl ?_
              refine g_iload_n hC dX5_mode_80 1 rfl ?_
              refine g_mdl hC hM28 7 (by decide) (by decide) hi16 (Y i 7) (by simp [up2]) dX5_mode_81 ?_
              refine g_dmul hC dX5_mode_82 (fun r37 er37 => ?_)
              refine g_dsub hC dX5_mode_83 (fun r38 er38 => ?_)
              try simp only [er37] at er38
              refine g_goto hC 93 dX5_mode_84 (by decide) ?_
              refine g_mds hC hM28 6 (by decide) (by decide) hi16 dX5_mode_93 (fun f39 hM40 hR41 => ?_)
              refine g_aload_n hC dX5_mode_94 0 rfl ?_
              refine g_get hC (kf := 17) (TT := TX5) (N := 26) (Cn := RX5) dX5_mode_95 (MI.m hM40) (MI.o hM40) rfl q_u5 (by decide) q_fl_X5_59 rfl rfl ?_
              refine g_iload_n hC dX5_mode_98 1 rfl ?_
              refine g_iload_n hC dX5_mode_99 2 rfl ?_
              refine g_mis hC hM40 20 (by decide) (by decide) hi16 dX5_mode_100 (fun f42 hM43 hR44 => ?_)
              refine g_iconst hC 1 dX5_mode_101 (by decide) ?_
              refine g_iret hC dX5_mode_102 rfl rfl ⟨rfl, Or.inr ⟨i, hi, rfl, by simp only [modC, Bool.and_true, Bool.true_and, Bool.and_false, Bool.false_and, Bool.not_true, Bool.not_false, decide_true, decide_false, Bool.or_true, Bool.true_or, Bool.or_false, Bool.false_or, eq_false c5, eq_true c6, eq_false c7, eq_true c8, eq_true c30], rfl, (FRm.trans (FRm.trans hR29 hR41) hR44), ?_⟩⟩ (Nat.zero_le _) (Nat.zero_le _)
              exact absurd (c8.symm.trans c30) (by decide)
      · skip
        refine g_iconst hC 0 dX5_mode_17 (by decide) ?_
        exact g_iret hC dX5_mode_18 rfl rfl ⟨rfl, Or.inl ⟨fun _ _ _ => by simp only [modC, Bool.and_true, Bool.true_and, Bool.and_false, Bool.false_and, Bool.not_true, Bool.not_false, decide_true, decide_false, Bool.or_true, Bool.true_or, Bool.or_false, Bool.false_or, eq_false c5, eq_false c6], rfl, rfl⟩⟩ (Nat.zero_le _) (Nat.zero_le _)
end
section
set_option maxHeartbeats 4000000 in
set_option maxRecDepth 100000 in
/-- part of the model -/
theorem ct_X5_part (l : Launch) (G : GD) (L : List Nat) (f : Nat → va_E) {q0 : Nat} {ma : Nat → Nat} {n k : Nat} {Y : Nat → Nat → UInt64} {W0 : Nat → Nat → Int32} (hM : MI G q0 ma n k Y W0 L f) (SL : Nat → Nat) (hS : ∀ j, j < k → SL j < n ∧ W0 j 24 = nI (SL j)) (kx wh : Int32) : Ctr l yX5_part cX5_part 8 (some .double) R00 G [.ref q0, .int kx, .int wh] L f (fun vv L1 f1 => L = L1 ∧ f = f1 ∧ (((∀ j, j < k → kx = nI j → parC wh = false) ∧ vv = some (.double 13830554455654793216)) ∨ ∃ j, j < k ∧ kx = nI j ∧ parC wh = true ∧ ∃ r : UInt64, vv = some (.double r) ∧ dv r = shS (dv (Y j 18)) (dv (Y (SL j) 5)) (dv (Y (SL j) 9)) (dv (Y (SL j) 10)) wh)) := by
  refine g_enter RX5 false (by decide) rfl (fun h => by cases h) (Nat.le_of_ble_eq_true rfl) (fun C hC => ?_)
  refine (show V C 8 L f 0 0 0 [(0, .ref q0), (1, .int kx), (2, .int wh)] [] from ?_)
  refine g_iload_n hC dX5_part_0 1 rfl ?_
  refine g_if_lt hC 21 dX5_part_1 (by decide) (fun c1 => ?_) (fun c1 => ?_)
  · skip
    refine g_ldc2 hC dX5_part_21 q_cd_X5_96 ?_
    exact g_dret hC dX5_part_24 rfl ⟨rfl, rfl, Or.inl ⟨fun j hj q => by rw [q] at c1; exact absurd c1 (nI_pos (by have := MI.k16 hM; omega)), rfl⟩⟩ (Nat.zero_le _) (Nat.zero_le _)
  · skip
    refine g_iload_n hC dX5_part_4 1 rfl ?_
    refine g_aload_n hC dX5_part_5 0 rfl ?_
    refine g_get hC (kf := 23) (TT := TX5) (N := 26) (Cn := RX5) dX5_part_6 (MI.m hM) (MI.o hM) rfl q_u5 (by decide) q_fl_X5_114 rfl rfl ?_
    refine g_icmp_ge hC 21 dX5_part_9 (by decide) (fun c2 => ?_) (fun c2 => ?_)
    · skip
      refine g_ldc2 hC dX5_part_21 q_cd_X5_96 ?_
      exact g_dret hC dX5_part_24 rfl ⟨rfl, rfl, Or.inl ⟨fun j hj q => by rw [q] at c2; exact absurd c2 (nI_ge hj (by have := MI.k16 hM; omega)), rfl⟩⟩ (Nat.zero_le _) (Nat.zero_le _)
    · skip
      refine g_iload_n hC dX5_part_12 2 rfl ?_
      refine g_if_lt hC 21 dX5_part_13 (by decide) (fun c3 => ?_) (fun c3 => ?_)
      · skip
        refine g_ldc2 hC dX5_part_21 q_cd_X5_96 ?_
        exact g_dret hC dX5_part_24 rfl ⟨rfl, rfl, Or.inl ⟨fun _ _ _ => by simp only [parC, Bool.and_true, Bool.true_and, Bool.and_false, Bool.false_and, Bool.not_true, Bool.not_false, decide_true, decide_false, Bool.or_true, Bool.true_or, Bool.or_false, Bool.false_or, eq_true c3], rfl⟩⟩ (Nat.zero_le _) (Nat.zero_le _)
      · skip
        refine g_iload_n hC dX5_part_16 2 rfl ?_
        refine g_iconst hC 1 dX5_part_17 (by decide) ?_
        refine g_icmp_le hC 25 dX5_part_18 (by decide) (fun c4 => ?_) (fun c4 => ?_)
        · skip
          obtain ⟨j, hj0, rfl⟩ := nI_of c1
          have hj : j < k := by have q := c2; rcases Nat.lt_or_ge j k with z | z; exact z; exact absurd (nI_le z hj0) q
          have hj16 : j < 16 := by have := MI.k16 hM; omega
          obtain ⟨hs1, hs2⟩ := hS j hj
          have hi16 : SL j < 16 := by have := MI.n16 hM; omega
          refine g_aload_n hC dX5_part_25 0 rfl ?_
          refine g_get hC (kf := 24) (TT := TX5) (N := 26) (Cn := RX5) dX5_part_26 (MI.m hM) (MI.o hM) rfl q_u5 (by decide) q_fl_X5_78 rfl rfl ?_
          refine g_iload_n hC dX5_part_29 1 rfl ?_
          refine g_mil hC hM 24 (by decide) (by decide) hj16 (nI (SL j)) hs2 dX5_part_30 ?_
          obtain ⟨sl, hsl⟩ : ∃ sl, sl = SL j := ⟨_, rfl⟩
          rw [← hsl] at hi16 ⊢
          refine g_istore_n hC (lv1 := [(3, .int (nI sl)), (0, .ref q0), (1, .int (nI j)), (2, .int wh)]) dX5_part_31 (by decide) rfl ?_
          refine g_aload_n hC dX5_part_32 1 rfl ?_
          refine g_get hC (kf := 25) (TT := TX5) (N := 26) (Cn := RX5) dX5_part_33 (MI.m hM) (MI.o hM) rfl q_u5 (by decide) q_fl_X5_81 rfl rfl ?_
          refine g_iload_n hC dX5_part_36 2 rfl ?_
          refine g_mdl hC hM 18 (by decide) (by decide) hj16 (Y j 18) rfl dX5_part_37 ?_
          refine g_dstore hC (lv1 := [(4, .double (Y j 18)), (3, .int (nI sl)), (0, .ref q0), (1, .int (nI j)), (2, .int wh)]) dX5_part_38 (by decide) rfl ?_
          refine g_dload hC dX5_part_40 0 rfl ?_
          refine g_aload_n hC dX5_part_42 2 rfl ?_
          refine g_get hC (kf := 4) (TT := TX5) (N := 26) (Cn := RX5) dX5_part_43 (MI.m hM) (MI.o hM) rfl q_u5 (by decide) q_fl_X5_19 rfl rfl ?_
          refine g_iload_n hC dX5_part_46 1 rfl ?_
          refine g_mdl hC hM 9 (by decide) (by decide) hi16 (Y sl 9) rfl dX5_part_47 ?_
          refine g_dcmpl_le hC 64 dX5_part_48 dX5_part_49 (by decide) (fun c5 => ?_) (fun c5 => ?_)
          · skip
            refine g_dconst0 hC dX5_part_64 ?_
            exact g_dret hC dX5_part_65 rfl ⟨rfl, rfl, Or.inr ⟨j, hj, rfl, by simp only [parC, Bool.and_true, Bool.true_and, Bool.and_false, Bool.false_and, Bool.not_true, Bool.not_false, decide_true, decide_false, Bool.or_true, Bool.true_or, Bool.or_false, Bool.false_or, eq_false c3, eq_true c4], 0, rfl, by rw [← hsl]; simp [shS, clS, inS, c5]⟩⟩ (Nat.zero_le _) (Nat.zero_le _)
          · skip
            refine g_dload hC dX5_part_52 0 rfl ?_
            refine g_aload_n hC dX5_part_54 2 rfl ?_
            refine g_get hC (kf := 5) (TT := TX5) (N := 26) (Cn := RX5) dX5_part_55 (MI.m hM) (MI.o hM) rfl q_u5 (by decide) q_fl_X5_22 rfl rfl ?_
            refine g_iload_n hC dX5_part_58 1 rfl ?_
            refine g_mdl hC hM 10 (by decide) (by decide) hi16 (Y sl 10) rfl dX5_part_59 ?_
            refine g_dcmpg_lt hC 66 dX5_part_60 dX5_part_61 (by decide) (fun c6 => ?_) (fun c6 => ?_)
            · skip
              refine g_iload_n hC dX5_part_66 4 rfl ?_
              refine g_if_ne hC 100 dX5_part_67 (by decide) (fun c7 => ?_) (fun c7 => ?_)
              · skip
                refine g_aload_n hC dX5_part_100 2 rfl ?_
                refine g_get hC (kf := 13) (TT := TX5) (N := 26) (Cn := RX5) dX5_part_101 (MI.m hM) (MI.o hM) rfl q_u5 (by decide) q_fl_X5_47 rfl rfl ?_
                refine g_iload_n hC dX5_part_104 1 rfl ?_
                refine g_mdl hC hM 5 (by decide) (by decide) hi16 (Y sl 5) rfl dX5_part_105 ?_
                refine g_dload hC dX5_part_106 0 rfl ?_
                refine g_dsub hC dX5_part_108 (fun r8 er8 => ?_)
                refine g_aload_n hC dX5_part_109 2 rfl ?_
                refine g_get hC (kf := 5) (TT := TX5) (N := 26) (Cn := RX5) dX5_part_110 (MI.m hM) (MI.o hM) rfl q_u5 (by decide) q_fl_X5_22 rfl rfl ?_
                refine g_iload_n hC dX5_part_113 1 rfl ?_
                refine g_mdl hC hM 10 (by decide) (by decide) hi16 (Y sl 10) rfl dX5_part_114 ?_
                refine g_dload hC dX5_part_115 0 rfl ?_
                refine g_dsub hC dX5_part_117 (fun r9 er9 => ?_)
                refine g_ddiv hC dX5_part_118 (fun r10 er10 => ?_)
                try simp only [er8, er9] at er10
                refine g_ldc2 hC dX5_part_119 q_cd_X5_94 ?_
                refine g_dmul hC dX5_part_122 (fun r11 er11 => ?_)
                try simp only [er8, er9, er10] at er11
                refine g_dstore hC (lv1 := [(6, .double r11), (4, .double (Y j 18)), (3, .int (nI sl)), (0, .ref q0), (1, .int (nI j)), (2, .int wh)]) dX5_part_123 (by decide) rfl ?_
                refine g_dload hC dX5_part_125 0 rfl ?_
                refine g_dconst0 hC dX5_part_127 ?_
                refine g_dcmpg_ge hC 136 dX5_part_128 dX5_part_129 (by decide) (fun c12 => ?_) (fun c12 => ?_)
                · try simp only [er8, er9, er10, er11] at c12
                  refine g_dload hC dX5_part_136 0 rfl ?_
                  refine g_ldc2 hC dX5_part_138 q_cd_X5_94 ?_
                  refine g_dcmpl_le hC 151 dX5_part_141 dX5_part_142 (by decide) (fun c13 => ?_) (fun c13 => ?_)
                  · try simp only [er8, er9, er10, er11] at c13
                    refine g_dload hC dX5_part_151 0 rfl ?_
                    exact g_dret hC dX5_part_153 rfl ⟨rfl, rfl, Or.inr ⟨j, hj, rfl, by simp only [parC, Bool.and_true, Bool.true_and, Bool.and_false, Bool.false_and, Bool.not_true, Bool.not_false, decide_true, decide_false, Bool.or_true, Bool.true_or, Bool.or_false, Bool.false_or, eq_false c3, eq_true c4], r11, rfl, by rw [← hsl]; simp [shS, clS, inS, c5, c6, c7, c12, c13, er8, er9, er10, er11]⟩⟩ (Nat.zero_le _) (Nat.zero_le _)
                  · try simp only [er8, er9, er10, er11] at c13
                    refine g_ldc2 hC dX5_part_145 q_cd_X5_94 ?_
                    refine g_goto hC 153 dX5_part_148 (by decide) ?_
                    exact g_dret hC dX5_part_153 rfl ⟨rfl, rfl, Or.inr ⟨j, hj, rfl, by simp only [parC, Bool.and_true, Bool.true_and, Bool.and_false, Bool.false_and, Bool.not_true, Bool.not_false, decide_true, decide_false, Bool.or_true, Bool.true_or, Bool.or_false, Bool.false_or, eq_false c3, eq_true c4], 4636737291354636288, rfl, by rw [← hsl]; simp [shS, clS, inS, c5, c6, c7, c12, c13, er8, er9, er10, er11]⟩⟩ (Nat.zero_le _) (Nat.zero_le _)
                · try simp only [er8, er9, er10, er11] at c12
                  refine g_dconst0 hC dX5_part_132 ?_
                  refine g_goto hC 153 dX5_part_133 (by decide) ?_
                  exact g_dret hC dX5_part_153 rfl ⟨rfl, rfl, Or.inr ⟨j, hj, rfl, by simp only [parC, Bool.and_true, Bool.true_and, Bool.and_false, Bool.false_and, Bool.not_true, Bool.not_false, decide_true, decide_false, Bool.or_true, Bool.true_or, Bool.or_false, Bool.false_or, eq_false c3, eq_true c4], 0, rfl, by rw [← hsl]; simp [shS, clS, inS, c5, c6, c7, c12, er8, er9, er10, er11]⟩⟩ (Nat.zero_le _) (Nat.zero_le _)
              · skip
                refine g_aload_n hC dX5_part_70 2 rfl ?_
                refine g_get hC (kf := 13) (TT := TX5) (N := 26) (Cn := RX5) dX5_part_71 (MI.m hM) (MI.o hM) rfl q_u5 (by decide) q_fl_X5_47 rfl rfl ?_
                refine g_iload_n hC dX5_part_74 1 rfl ?_
                refine g_mdl hC hM 5 (by decide) (by decide) hi16 (Y sl 5) rfl dX5_part_75 ?_
                refine g_aload_n hC dX5_part_76 2 rfl ?_
                refine g_get hC (kf := 4) (TT := TX5) (N := 26) (Cn := RX5) dX5_part_77 (MI.m hM) (MI.o hM) rfl q_u5 (by decide) q_fl_X5_19 rfl rfl ?_
                refine g_iload_n hC dX5_part_80 1 rfl ?_
                refine g_mdl hC hM 9 (by decide) (by decide) hi16 (Y sl 9) rfl dX5_part_81 ?_
                refine g_dsub hC dX5_part_82 (fun r14 er14 => ?_)
                refine g_dload hC dX5_part_83 0 rfl ?_
                refine g_aload_n hC dX5_part_85 2 rfl ?_
                refine g_get hC (kf := 4) (TT := TX5) (N := 26) (Cn := RX5) dX5_part_86 (MI.m hM) (MI.o hM) rfl q_u5 (by decide) q_fl_X5_19 rfl rfl ?_
                refine g_iload_n hC dX5_part_89 1 rfl ?_
                refine g_mdl hC hM 9 (by decide) (by decide) hi16 (Y sl 9) rfl dX5_part_90 ?_
                refine g_dsub hC dX5_part_91 (fun r15 er15 => ?_)
                refine g_ddiv hC dX5_part_92 (fun r16 er16 => ?_)
                try simp only [er14, er15] at er16
                refine g_ldc2 hC dX5_part_93 q_cd_X5_94 ?_
                refine g_dmul hC dX5_part_96 (fun r17 er17 => ?_)
                try simp only [er14, er15, er16] at er17
                refine g_goto hC 123 dX5_part_97 (by decide) ?_
                refine g_dstore hC (lv1 := [(6, .double r17), (4, .double (Y j 18)), (3, .int (nI sl)), (0, .ref q0), (1, .int (nI j)), (2, .int wh)]) dX5_part_123 (by decide) rfl ?_
                refine g_dload hC dX5_part_125 0 rfl ?_
                refine g_dconst0 hC dX5_part_127 ?_
                refine g_dcmpg_ge hC 136 dX5_part_128 dX5_part_129 (by decide) (fun c18 => ?_) (fun c18 => ?_)
                · try simp only [er14, er15, er16, er17] at c18
                  refine g_dload hC dX5_part_136 0 rfl ?_
                  refine g_ldc2 hC dX5_part_138 q_cd_X5_94 ?_
                  refine g_dcmpl_le hC 151 dX5_part_141 dX5_part_142 (by decide) (fun c19 => ?_) (fun c19 => ?_)
                  · try simp only [er14, er15, er16, er17] at c19
                    refine g_dload hC dX5_part_151 0 rfl ?_
                    exact g_dret hC dX5_part_153 rfl ⟨rfl, rfl, Or.inr ⟨j, hj, rfl, by simp only [parC, Bool.and_true, Bool.true_and, Bool.and_false, Bool.false_and, Bool.not_true, Bool.not_false, decide_true, decide_false, Bool.or_true, Bool.true_or, Bool.or_false, Bool.false_or, eq_false c3, eq_true c4], r17, rfl, by rw [← hsl]; simp [shS, clS, inS, c5, c6, c7, c18, c19, er14, er15, er16, er17]⟩⟩ (Nat.zero_le _) (Nat.zero_le _)
                  · try simp only [er14, er15, er16, er17] at c19
                    refine g_ldc2 hC dX5_part_145 q_cd_X5_94 ?_
                    refine g_goto hC 153 dX5_part_148 (by decide) ?_
                    exact g_dret hC dX5_part_153 rfl ⟨rfl, rfl, Or.inr ⟨j, hj, rfl, by simp only [parC, Bool.and_true, Bool.true_and, Bool.and_false, Bool.false_and, Bool.not_true, Bool.not_false, decide_true, decide_false, Bool.or_true, Bool.true_or, Bool.or_false, Bool.false_or, eq_false c3, eq_true c4], 4636737291354636288, rfl, by rw [← hsl]; simp [shS, clS, inS, c5, c6, c7, c18, c19, er14, er15, er16, er17]⟩⟩ (Nat.zero_le _) (Nat.zero_le _)
                · try simp only [er14, er15, er16, er17] at c18
                  refine g_dconst0 hC dX5_part_132 ?_
                  refine g_goto hC 153 dX5_part_133 (by decide) ?_
                  exact g_dret hC dX5_part_153 rfl ⟨rfl, rfl, Or.inr ⟨j, hj, rfl, by simp only [parC, Bool.and_true, Bool.true_and, Bool.and_false, Bool.false_and, Bool.not_true, Bool.not_false, decide_true, decide_false, Bool.or_true, Bool.true_or, Bool.or_false, Bool.false_or, eq_false c3, eq_true c4], 0, rfl, by rw [← hsl]; simp [shS, clS, inS, c5, c6, c7, c18, er14, er15, er16, er17]⟩⟩ (Nat.zero_le _) (Nat.zero_le _)
            · skip
              refine g_dconst0 hC dX5_part_64 ?_
              exact g_dret hC dX5_part_65 rfl ⟨rfl, rfl, Or.inr ⟨j, hj, rfl, by simp only [parC, Bool.and_true, Bool.true_and, Bool.and_false, Bool.false_and, Bool.not_true, Bool.not_false, decide_true, decide_false, Bool.or_true, Bool.true_or, Bool.or_false, Bool.false_or, eq_false c3, eq_true c4], 0, rfl, by rw [← hsl]; simp [shS, clS, inS, c5, c6]⟩⟩ (Nat.zero_le _) (Nat.zero_le _)
        · skip
          refine g_ldc2 hC dX5_part_21 q_cd_X5_96 ?_
          exact g_dret hC dX5_part_24 rfl ⟨rfl, rfl, Or.inl ⟨fun _ _ _ => by simp only [parC, Bool.and_true, Bool.true_and, Bool.and_false, Bool.false_and, Bool.not_true, Bool.not_false, decide_true, decide_false, Bool.or_true, Bool.true_or, Bool.or_false, Bool.false_or, eq_false c3, eq_false c4], rfl⟩⟩ (Nat.zero_le _) (Nat.zero_le _)
def tgM (mn mx : DT) (pe k : Int32) : DT := if k < 0 then dv 0 else if 2 < k then dv 0 else if pe = 0 then dv 0 else if qgt (tgA mn mx) (dv 0) = true then (if k = 0 then qmul (dv 4602678819172646912) (tgG mn mx) else if k = 1 then qdiv (tgG mn mx) (dv (FP.i2d pe)) else qmul (qmul (dv 4589168020290535424) (tgG mn mx)) (dv (FP.i2d pe))) else dv 0
set_option maxHeartbeats 4000000 in
set_option maxRecDepth 100000 in
/-- tuned of the model -/
theorem ct_X5_tuned (l : Launch) (G : GD) (L : List Nat) (f : Nat → va_E) {q0 : Nat} {ma : Nat → Nat} {n k : Nat} {Y : Nat → Nat → UInt64} {W0 : Nat → Nat → Int32} (hM : MI G q0 ma n k Y W0 L f) (kx k0 : Int32) : Ctr l yX5_tuned cX5_tuned 9 (some .double) { frames := 1, cells := 0, slots := 0, locals := 30 } G [.ref q0, .int kx, .int k0] L f (fun vv L1 f1 => L = L1 ∧ f = f1 ∧ (((∀ i, i < n → ¬ kx = nI i) ∧ vv = some (.double 0)) ∨ ∃ i, i < n ∧ kx = nI i ∧ ∃ r : UInt64, vv = some (.double r) ∧ dv r = tgM (dv (Y i 16)) (dv (Y i 17)) (W0 i 23) k0)) := by
  refine g_enter RX5 false (by decide) rfl (fun h => by cases h) (Nat.le_of_ble_eq_true rfl) (fun C hC => ?_)
  refine (show V C 9 L f 0 0 0 [(0, .ref q0), (1, .int kx), (2, .int k0)] [] from ?_)
  refine g_aload_n hC dX5_tuned_0 0 rfl ?_
  refine g_iload_n hC dX5_tuned_1 1 rfl ?_
  refine g_callV hC (Cn := RX5) (TT := TX5) (N := 26) dX5_tuned_2 (ct_X5_isLoop l G L f hM kx) q_code_X5_isLoop q_ml_X5_98 q_im_X5_isLoop q_sel_X5_isLoop q_init_X5 ⟨rfl, by decide, by decide, (show (parseMethodDescriptor yX5_isLoop.desc).map (fun d => d.parameters.length) = some 1 from by decide +kernel)⟩ (MI.m hM) (MI.o hM) rfl (by decide) (by decide) (Nat.le_of_ble_eq_true rfl) (fun v2 L3 f4 hp1 => ?_)
  obtain ⟨rfl, rfl, rfl⟩ := hp1
  rcases okL_cases (MI.n16 hM) kx with ⟨hb, hnoi⟩ | ⟨i, hi, rfl, hb⟩
  · refine g_eqI (show bI (okL n kx) = 0 from by rw [hb]; rfl) ?_
    refine g_if_eq hC 26 dX5_tuned_5 (by decide) (fun _ => ?_) (fun c => absurd c (by decide))
    refine g_dconst0 hC dX5_tuned_26 ?_
    exact g_dret hC dX5_tuned_27 rfl ⟨rfl, rfl, Or.inl ⟨hnoi, rfl⟩⟩ (Nat.zero_le _) (Nat.zero_le _)
  · refine g_eqI (show bI (okL n (nI i)) = 1 from by rw [hb]; rfl) ?_
    have hi16 : i < 16 := by have := MI.n16 hM; omega
    refine g_if_eq hC 26 dX5_tuned_5 (by decide) (fun c => absurd c (by decide)) (fun _ => ?_)
    refine g_iload_n hC dX5_tuned_8 2 rfl ?_
    refine g_if_lt hC 26 dX5_tuned_9 (by decide) (fun c5 => ?_) (fun c5 => ?_)
    · skip
      refine g_dconst0 hC dX5_tuned_26 ?_
      exact g_dret hC dX5_tuned_27 rfl ⟨rfl, rfl, Or.inr ⟨i, hi, rfl, 0, rfl, by simp only [tgM, tgA, tgG, Bool.false_eq_true, if_true, if_false, eq_true c5]⟩⟩ (Nat.zero_le _) (Nat.zero_le _)
    · skip
      refine g_iload_n hC dX5_tuned_12 2 rfl ?_
      refine g_iconst hC 2 dX5_tuned_13 (by decide) ?_
      refine g_icmp_gt hC 26 dX5_tuned_14 (by decide) (fun c6 => ?_) (fun c6 => ?_)
      · skip
        refine g_dconst0 hC dX5_tuned_26 ?_
        exact g_dret hC dX5_tuned_27 rfl ⟨rfl, rfl, Or.inr ⟨i, hi, rfl, 0, rfl, by simp only [tgM, tgA, tgG, Bool.false_eq_true, if_true, if_false, eq_false c5, eq_true c6]⟩⟩ (Nat.zero_le _) (Nat.zero_le _)
      · skip
        refine g_aload_n hC dX5_tuned_17 0 rfl ?_
        refine g_get hC (kf := 22) (TT := TX5) (N := 26) (Cn := RX5) dX5_tuned_18 (MI.m hM) (MI.o hM) rfl q_u5 (by decide) q_fl_X5_75 rfl rfl ?_
        refine g_iload_n hC dX5_tuned_21 1 rfl ?_
        refine g_mil hC hM 23 (by decide) (by decide) hi16 (W0 i 23) rfl dX5_tuned_22 ?_
        refine g_if_ne hC 28 dX5_tuned_23 (by decide) (fun c7 => ?_) (fun c7 => ?_)
        · skip
          refine g_aload_n hC dX5_tuned_28 0 rfl ?_
          refine g_get hC (kf := 21) (TT := TX5) (N := 26) (Cn := RX5) dX5_tuned_29 (MI.m hM) (MI.o hM) rfl q_u5 (by decide) q_fl_X5_72 rfl rfl ?_
          refine g_iload_n hC dX5_tuned_32 1 rfl ?_
          refine g_mdl hC hM 17 (by decide) (by decide) hi16 (Y i 17) rfl dX5_tuned_33 ?_
          refine g_aload_n hC dX5_tuned_34 0 rfl ?_
          refine g_get hC (kf := 20) (TT := TX5) (N := 26) (Cn := RX5) dX5_tuned_35 (MI.m hM) (MI.o hM) rfl q_u5 (by decide) q_fl_X5_69 rfl rfl ?_
          refine g_iload_n hC dX5_tuned_38 1 rfl ?_
          refine g_mdl hC hM 16 (by decide) (by decide) hi16 (Y i 16) rfl dX5_tuned_39 ?_
          refine g_dsub hC dX5_tuned_40 (fun r8 er8 => ?_)
          refine g_ldc2 hC dX5_tuned_41 q_cd_X5_117 ?_
          refine g_dmul hC dX5_tuned_44 (fun r9 er9 => ?_)
          try simp only [er8] at er9
          refine g_dstore_n hC (lv1 := [(3, .double r9), (0, .ref q0), (1, .int (nI i)), (2, .int k0)]) dX5_tuned_45 (by decide) rfl ?_
          refine g_dload_n hC dX5_tuned_46 0 rfl ?_
          refine g_dconst0 hC dX5_tuned_47 ?_
          refine g_dcmpl_gt hC 54 dX5_tuned_48 dX5_tuned_49 (by decide) (fun c10 => ?_) (fun c10 => ?_)
          · try simp only [er8, er9] at c10
            refine g_dconst1 hC dX5_tuned_54 ?_
            refine g_dload_n hC dX5_tuned_55 0 rfl ?_
            refine g_ddiv hC dX5_tuned_56 (fun r11 er11 => ?_)
            try simp only [er8, er9] at er11
            refine g_dstore hC (lv1 := [(5, .double r11), (3, .double r9), (0, .ref q0), (1, .int (nI i)), (2, .int k0)]) dX5_tuned_57 (by decide) rfl ?_
            refine g_aload_n hC dX5_tuned_59 2 rfl ?_
            refine g_get hC (kf := 22) (TT := TX5) (N := 26) (Cn := RX5) dX5_tuned_60 (MI.m hM) (MI.o hM) rfl q_u5 (by decide) q_fl_X5_75 rfl rfl ?_
            refine g_iload_n hC dX5_tuned_63 3 rfl ?_
            refine g_mil hC hM 23 (by decide) (by decide) hi16 (W0 i 23) rfl dX5_tuned_64 ?_
            refine g_i2d hC dX5_tuned_65 ?_
            refine g_dstore hC (lv1 := [(7, .double (FP.i2d (W0 i 23))), (5, .double r11), (3, .double r9), (0, .ref q0), (1, .int (nI i)), (2, .int k0)]) dX5_tuned_66 (by decide) rfl ?_
            refine g_iload_n hC dX5_tuned_68 5 rfl ?_
            refine g_if_ne hC 81 dX5_tuned_69 (by decide) (fun c12 => ?_) (fun c12 => ?_)
            · skip
              refine g_iload_n hC dX5_tuned_81 5 rfl ?_
              refine g_iconst hC 1 dX5_tuned_82 (by decide) ?_
              refine g_icmp_ne hC 94 dX5_tuned_83 (by decide) (fun c13 => ?_) (fun c13 => ?_)
              · skip
                refine g_ldc2 hC dX5_tuned_94 q_cd_X5_119 ?_
                refine g_dload hC dX5_tuned_97 1 rfl ?_
                refine g_dmul hC dX5_tuned_99 (fun r14 er14 => ?_)
                try simp only [er8, er9, er11] at er14
                refine g_dload hC dX5_tuned_100 0 rfl ?_
                refine g_dmul hC dX5_tuned_102 (fun r15 er15 => ?_)
                try simp only [er8, er9, er11, er14] at er15
                exact g_dret hC dX5_tuned_103 rfl ⟨rfl, rfl, Or.inr ⟨i, hi, rfl, r15, rfl, by simp only [tgM, tgA, tgG, Bool.false_eq_true, if_true, if_false, eq_false c5, eq_false c6, eq_false c7, c10, eq_false c12, eq_false c13, er8, er9, er11, er14, er15]⟩⟩ (Nat.zero_le _) (Nat.zero_le _)
              · skip
                refine g_dload hC dX5_tuned_86 1 rfl ?_
                refine g_dload hC dX5_tuned_88 0 rfl ?_
                refine g_ddiv hC dX5_tuned_90 (fun r16 er16 => ?_)
                try simp only [er8, er9, er11] at er16
                refine g_goto hC 103 dX5_tuned_91 (by decide) ?_
                exact g_dret hC dX5_tuned_103 rfl ⟨rfl, rfl, Or.inr ⟨i, hi, rfl, r16, rfl, by simp only [tgM, tgA, tgG, Bool.false_eq_true, if_true, if_false, eq_false c5, eq_false c6, eq_false c7, c10, eq_false c12, eq_true c13, er8, er9, er11, er16]⟩⟩ (Nat.zero_le _) (Nat.zero_le _)
            · skip
              refine g_ldc2 hC dX5_tuned_72 q_cd_X5_117 ?_
              refine g_dload hC dX5_tuned_75 1 rfl ?_
              refine g_dmul hC dX5_tuned_77 (fun r17 er17 => ?_)
              try simp only [er8, er9, er11] at er17
              refine g_goto hC 103 dX5_tuned_78 (by decide) ?_
              exact g_dret hC dX5_tuned_103 rfl ⟨rfl, rfl, Or.inr ⟨i, hi, rfl, r17, rfl, by simp only [tgM, tgA, tgG, Bool.false_eq_true, if_true, if_false, eq_false c5, eq_false c6, eq_false c7, c10, eq_true c12, er8, er9, er11, er17]⟩⟩ (Nat.zero_le _) (Nat.zero_le _)
          · try simp only [er8, er9] at c10
            refine g_dconst0 hC dX5_tuned_52 ?_
            exact g_dret hC dX5_tuned_53 rfl ⟨rfl, rfl, Or.inr ⟨i, hi, rfl, 0, rfl, by simp only [tgM, tgA, tgG, Bool.false_eq_true, if_true, if_false, eq_false c5, eq_false c6, eq_false c7, c10, er8, er9]⟩⟩ (Nat.zero_le _) (Nat.zero_le _)
        · skip
          refine g_dconst0 hC dX5_tuned_26 ?_
          exact g_dret hC dX5_tuned_27 rfl ⟨rfl, rfl, Or.inr ⟨i, hi, rfl, 0, rfl, by simp only [tgM, tgA, tgG, Bool.false_eq_true, if_true, if_false, eq_false c5, eq_false c6, eq_true c7]⟩⟩ (Nat.zero_le _) (Nat.zero_le _)
set_option maxHeartbeats 4000000 in
set_option maxRecDepth 100000 in
/-- split of the model -/
theorem ct_X5_split (l : Launch) (G : GD) (L : List Nat) (f : Nat → va_E) {q0 : Nat} {ma : Nat → Nat} {n k : Nat} {Y : Nat → Nat → UInt64} {W0 : Nat → Nat → Int32} (hM : MI G q0 ma n k Y W0 L f) (kx : Int32) (at0 : UInt64) : Ctr l yX5_split cX5_split 4 (some .int) { frames := 1, cells := 0, slots := 0, locals := 30 } G [.ref q0, .int kx, .double at0] L f (fun vv L1 f1 => L = L1 ∧ (((∀ i, i < n → kx = nI i → inS (dv at0) (dv (Y i 9)) (dv (Y i 10)) = false) ∧ vv = some (.int (-1)) ∧ f = f1) ∨ (∃ i, i < n ∧ kx = nI i ∧ inS (dv at0) (dv (Y i 9)) (dv (Y i 10)) = true ∧ ¬ k < 16 ∧ vv = some (.int (-2)) ∧ f = f1) ∨ (∃ i, i < n ∧ kx = nI i ∧ inS (dv at0) (dv (Y i 9)) (dv (Y i 10)) = true ∧ k < 16 ∧ vv = some (.int (nI k)) ∧ FRm L f f1 ∧ MI G q0 ma n (k + 1) (up2 Y k 18 at0) (up2 W0 k 24 (nI i)) L f1))) := by
  refine g_enter RX5 false (by decide) rfl (fun h => by cases h) (Nat.le_of_ble_eq_true rfl) (fun C hC => ?_)
  refine (show V C 4 L f 0 0 0 [(0, .ref q0), (1, .int kx), (2, .double at0)] [] from ?_)
  refine g_aload_n hC dX5_split_0 0 rfl ?_
  refine g_iload_n hC dX5_split_1 1 rfl ?_
  refine g_callV hC (Cn := RX5) (TT := TX5) (N := 26) dX5_split_2 (ct_X5_isLoop l G L f hM kx) q_code_X5_isLoop q_ml_X5_98 q_im_X5_isLoop q_sel_X5_isLoop q_init_X5 ⟨rfl, by decide, by decide, (show (parseMethodDescriptor yX5_isLoop.desc).map (fun d => d.parameters.length) = some 1 from by decide +kernel)⟩ (MI.m hM) (MI.o hM) rfl (by decide) (by decide) (Nat.le_of_ble_eq_true rfl) (fun v2 L3 f4 hp1 => ?_)
  obtain ⟨rfl, rfl, rfl⟩ := hp1
  rcases okL_cases (MI.n16 hM) kx with ⟨hb, hnoi⟩ | ⟨i, hi, rfl, hb⟩
  · refine g_eqI (show bI (okL n kx) = 0 from by rw [hb]; rfl) ?_
    refine g_if_eq hC 30 dX5_split_5 (by decide) (fun _ => ?_) (fun c => absurd c (by decide))
    refine g_iconst hC (-1) dX5_split_30 (by decide) ?_
    exact g_iret hC dX5_split_31 rfl rfl ⟨rfl, Or.inl ⟨fun j hj q => absurd q (hnoi j hj), rfl, rfl⟩⟩ (Nat.zero_le _) (Nat.zero_le _)
  · refine g_eqI (show bI (okL n (nI i)) = 1 from by rw [hb]; rfl) ?_
    have hi16 : i < 16 := by have := MI.n16 hM; omega
    refine g_if_eq hC 30 dX5_split_5 (by decide) (fun c => absurd c (by decide)) (fun _ => ?_)
    refine g_dload_n hC dX5_split_8 2 rfl ?_
    refine g_aload_n hC dX5_split_9 0 rfl ?_
    refine g_get hC (kf := 4) (TT := TX5) (N := 26) (Cn := RX5) dX5_split_10 (MI.m hM) (MI.o hM) rfl q_u5 (by decide) q_fl_X5_19 rfl rfl ?_
    refine g_iload_n hC dX5_split_13 1 rfl ?_
    refine g_mdl hC hM 9 (by decide) (by decide) hi16 (Y i 9) rfl dX5_split_14 ?_
    refine g_dcmpl_le hC 30 dX5_split_15 dX5_split_16 (by decide) (fun c5 => ?_) (fun c5 => ?_)
    · skip
      refine g_iconst hC (-1) dX5_split_30 (by decide) ?_
      exact g_iret hC dX5_split_31 rfl rfl ⟨rfl, Or.inl ⟨fun j hj q => by have q1 := nI_injL hi16 (by have := MI.n16 hM; omega) q; subst q1; simp only [inS, Bool.and_true, Bool.true_and, Bool.and_false, Bool.false_and, Bool.not_true, Bool.not_false, decide_true, decide_false, Bool.or_true, Bool.true_or, Bool.or_false, Bool.false_or, c5], rfl, rfl⟩⟩ (Nat.zero_le _) (Nat.zero_le _)
    · skip
      refine g_dload_n hC dX5_split_19 2 rfl ?_
      refine g_aload_n hC dX5_split_20 0 rfl ?_
      refine g_get hC (kf := 5) (TT := TX5) (N := 26) (Cn := RX5) dX5_split_21 (MI.m hM) (MI.o hM) rfl q_u5 (by decide) q_fl_X5_22 rfl rfl ?_
      refine g_iload_n hC dX5_split_24 1 rfl ?_
      refine g_mdl hC hM 10 (by decide) (by decide) hi16 (Y i 10) rfl dX5_split_25 ?_
      refine g_dcmpg_lt hC 32 dX5_split_26 dX5_split_27 (by decide) (fun c6 => ?_) (fun c6 => ?_)
      · skip
        refine g_aload_n hC dX5_split_32 0 rfl ?_
        refine g_get hC (kf := 23) (TT := TX5) (N := 26) (Cn := RX5) dX5_split_33 (MI.m hM) (MI.o hM) rfl q_u5 (by decide) q_fl_X5_114 rfl rfl ?_
        refine g_bipush hC 16 dX5_split_36 (by decide) ?_
        refine g_icmp_ne hC 44 dX5_split_38 (by decide) (fun c7 => ?_) (fun c7 => ?_)
        · skip
          have hk16 := MI.k16 hM
          have hk : k < 16 := by rcases Nat.lt_or_ge k 16 with z | z; exact z; exact absurd (show nI k = nI 16 by rw [show k = 16 by omega]) c7
          refine g_aload_n hC dX5_split_44 0 rfl ?_
          refine g_get hC (kf := 24) (TT := TX5) (N := 26) (Cn := RX5) dX5_split_45 (MI.m hM) (MI.o hM) rfl q_u5 (by decide) q_fl_X5_78 rfl rfl ?_
          refine g_aload_n hC dX5_split_48 0 rfl ?_
          refine g_get hC (kf := 23) (TT := TX5) (N := 26) (Cn := RX5) dX5_split_49 (MI.m hM) (MI.o hM) rfl q_u5 (by decide) q_fl_X5_114 rfl rfl ?_
          refine g_iload_n hC dX5_split_52 1 rfl ?_
          refine g_mis hC hM 24 (by decide) (by decide) hk dX5_split_53 (fun f8 hM9 hR10 => ?_)
          refine g_aload_n hC dX5_split_54 0 rfl ?_
          refine g_get hC (kf := 25) (TT := TX5) (N := 26) (Cn := RX5) dX5_split_55 (MI.m hM9) (MI.o hM9) rfl q_u5 (by decide) q_fl_X5_81 rfl rfl ?_
          refine g_aload_n hC dX5_split_58 0 rfl ?_
          refine g_get hC (kf := 23) (TT := TX5) (N := 26) (Cn := RX5) dX5_split_59 (MI.m hM9) (MI.o hM9) rfl q_u5 (by decide) q_fl_X5_114 rfl rfl ?_
          refine g_dload_n hC dX5_split_62 2 rfl ?_
          refine g_mds hC hM9 18 (by decide) (by decide) hk dX5_split_63 (fun f11 hM12 hR13 => ?_)
          refine g_aload_n hC dX5_split_64 0 rfl ?_
          refine g_dup hC dX5_split_65 rfl ?_
          refine g_get hC (kf := 23) (TT := TX5) (N := 26) (Cn := RX5) dX5_split_66 (MI.m hM12) (MI.o hM12) rfl q_u5 (by decide) q_fl_X5_114 rfl rfl ?_
          refine g_iconst hC 1 dX5_split_69 (by decide) ?_
          refine g_iadd hC dX5_split_70 ?_
          refine g_eqI (nI_1 k) ?_
          refine g_put hC (kf := 23) (TT := TX5) (N := 26) (Cn := RX5) (ty0 := tyX5) (fs1 := [.int (nI (n)), .ref (ma 0), .ref (ma 1), .ref (ma 2), .ref (ma 9), .ref (ma 10), .ref (ma 3), .ref (ma 4), .ref (ma 11), .ref (ma 12), .ref (ma 25), .ref (ma 13), .ref (ma 14), .ref (ma 5), .ref (ma 6), .ref (ma 7), .ref (ma 8), .ref (ma 20), .ref (ma 22), .ref (ma 21), .ref (ma 16), .ref (ma 17), .ref (ma 23), .int (nI (k + 1)), .ref (ma 24), .ref (ma 18)]) dX5_split_71 (MI.m hM12) (MI.o hM12) rfl q_u5 (by decide) tyX5_ok nmX5 q_fl_X5_114 rfl rfl rfl rfl rfl (Nat.le_of_ble_eq_true rfl) rfl ?_
          refine g_nm (fun f14 hf17 => ?_)
          have hR16 : FRm L f11 f14 := by rw [hf17]; exact FRm.up _ FRm.rf (MI.o hM12) rfl
          have hM15 : MI G q0 ma (n) (k + 1) (up2 Y k 18 at0) (up2 W0 k 24 (nI i)) L f14 := by rw [hf17]; exact MI.cnt hM12 (MI.n16 hM12) (by omega)
          refine g_aload_n hC dX5_split_74 0 rfl ?_
          refine g_get hC (kf := 23) (TT := TX5) (N := 26) (Cn := RX5) dX5_split_75 (MI.m hM15) (MI.o hM15) rfl q_u5 (by decide) q_fl_X5_114 rfl rfl ?_
          refine g_iconst hC 1 dX5_split_78 (by decide) ?_
          refine g_isub hC dX5_split_79 ?_
          refine g_eqI (nI_pred k) ?_
          exact g_iret hC dX5_split_80 rfl rfl ⟨rfl, Or.inr (Or.inr ⟨i, hi, rfl, by simp only [inS, Bool.and_true, Bool.true_and, Bool.and_false, Bool.false_and, Bool.not_true, Bool.not_false, decide_true, decide_false, Bool.or_true, Bool.true_or, Bool.or_false, Bool.false_or, c5, c6], hk, rfl, (FRm.trans (FRm.trans hR10 hR13) hR16), hM15⟩)⟩ (Nat.zero_le _) (Nat.zero_le _)
        · skip
          refine g_bipush hC (-2) dX5_split_41 (by decide) ?_
          exact g_iret hC dX5_split_43 rfl rfl ⟨rfl, Or.inr (Or.inl ⟨i, hi, rfl, by simp only [inS, Bool.and_true, Bool.true_and, Bool.and_false, Bool.false_and, Bool.not_true, Bool.not_false, decide_true, decide_false, Bool.or_true, Bool.true_or, Bool.or_false, Bool.false_or, c5, c6], fun hk => absurd ((nI_eq (b := 16) (by omega) (by decide)).mp c7) (by omega), rfl, rfl⟩)⟩ (Nat.zero_le _) (Nat.zero_le _)
      · skip
        refine g_iconst hC (-1) dX5_split_30 (by decide) ?_
        exact g_iret hC dX5_split_31 rfl rfl ⟨rfl, Or.inl ⟨fun j hj q => by have q1 := nI_injL hi16 (by have := MI.n16 hM; omega) q; subst q1; simp only [inS, Bool.and_true, Bool.true_and, Bool.and_false, Bool.false_and, Bool.not_true, Bool.not_false, decide_true, decide_false, Bool.or_true, Bool.true_or, Bool.or_false, Bool.false_or, c5, c6], rfl, rfl⟩⟩ (Nat.zero_le _) (Nat.zero_le _)
set_option maxHeartbeats 4000000 in
set_option maxRecDepth 100000 in
/-- loop of the model -/
theorem ct_X5_loop (l : Launch) (G : GD) (L : List Nat) (f : Nat → va_E) {q0 : Nat} {ma : Nat → Nat} {n k : Nat} {Y : Nat → Nat → UInt64} {W0 : Nat → Nat → Int32} (hM : MI G q0 ma n k Y W0 L f) (p i d : UInt64) : Ctr l yX5_loop cX5_loop 7 (some .int) { frames := 1, cells := 0, slots := 0, locals := 30 } G [.ref q0, .double p, .double i, .double d] L f (fun vv L1 f1 => L = L1 ∧ ((gnC (dv p) (dv i) (dv d) = false ∧ vv = some (.int (-1)) ∧ f = f1) ∨ (gnC (dv p) (dv i) (dv d) = true ∧ ¬ n < 16 ∧ vv = some (.int (-2)) ∧ f = f1) ∨ (gnC (dv p) (dv i) (dv d) = true ∧ n < 16 ∧ vv = some (.int (nI n)) ∧ FRm L f f1 ∧ MI G q0 ma (n + 1) k (up2 (up2 (up2 (up2 (up2 (up2 (up2 Y n 0 p) n 1 i) n 2 d) n 10 4636737291354636288) n 3 4636737291354636288) n 11 13830554455654793216) n 12 4607182418800017408) (up2 W0 n 22 (-1)) L f1))) := by
  refine g_enter RX5 false (by decide) rfl (fun h => by cases h) (Nat.le_of_ble_eq_true rfl) (fun C hC => ?_)
  refine (show V C 7 L f 0 0 0 [(0, .ref q0), (1, .double p), (3, .double i), (5, .double d)] [] from ?_)
  refine g_dload_n hC dX5_loop_0 1 rfl ?_
  refine g_dconst0 hC dX5_loop_1 ?_
  refine g_ldc2 hC dX5_loop_2 q_cd_X5_88 ?_
  refine g_callS hC dX5_loop_5 (ct_X5_isIn l G L f p 0 4652007308841189376) q_code_X5_isIn q_ml_X5_90 q_st_X5_isIn q_init_X5 ⟨by decide, by decide, (show (parseMethodDescriptor yX5_isIn.desc).map (fun d => d.parameters.length) = some 3 from by decide +kernel)⟩ (by decide) (by decide) (Nat.le_of_ble_eq_true rfl) (fun v2 L3 f4 hp1 => ?_)
  obtain ⟨rfl, rfl, rfl⟩ := hp1
  refine (show V C 7 L f 0 0 8 [(0, .ref q0), (1, .double p), (3, .double i), (5, .double d)] [.int (bI (inB (dv p) (dv 0) (dv 4652007308841189376)))] from ?_)
  refine g_ifB_eq hC 34 dX5_loop_8 (by decide) (fun c5 => ?_) (fun c5 => ?_)
  · skip
    refine g_iconst hC (-1) dX5_loop_34 (by decide) ?_
    exact g_iret hC dX5_loop_35 rfl rfl ⟨rfl, Or.inl ⟨by simp only [gnC, gainS, Bool.and_true, Bool.true_and, Bool.and_false, Bool.false_and, Bool.not_true, Bool.not_false, decide_true, decide_false, Bool.or_true, Bool.true_or, Bool.or_false, Bool.false_or, c5], rfl, rfl⟩⟩ (Nat.zero_le _) (Nat.zero_le _)
  · skip
    refine g_dload_n hC dX5_loop_11 2 rfl ?_
    refine g_dconst0 hC dX5_loop_12 ?_
    refine g_ldc2 hC dX5_loop_13 q_cd_X5_88 ?_
    refine g_callS hC dX5_loop_16 (ct_X5_isIn l G L f i 0 4652007308841189376) q_code_X5_isIn q_ml_X5_90 q_st_X5_isIn q_init_X5 ⟨by decide, by decide, (show (parseMethodDescriptor yX5_isIn.desc).map (fun d => d.parameters.length) = some 3 from by decide +kernel)⟩ (by decide) (by decide) (Nat.le_of_ble_eq_true rfl) (fun v7 L8 f9 hp6 => ?_)
    obtain ⟨rfl, rfl, rfl⟩ := hp6
    refine (show V C 7 L f 0 0 19 [(0, .ref q0), (1, .double p), (3, .double i), (5, .double d)] [.int (bI (inB (dv i) (dv 0) (dv 4652007308841189376)))] from ?_)
    refine g_ifB_eq hC 34 dX5_loop_19 (by decide) (fun c10 => ?_) (fun c10 => ?_)
    · skip
      refine g_iconst hC (-1) dX5_loop_34 (by decide) ?_
      exact g_iret hC dX5_loop_35 rfl rfl ⟨rfl, Or.inl ⟨by simp only [gnC, gainS, Bool.and_true, Bool.true_and, Bool.and_false, Bool.false_and, Bool.not_true, Bool.not_false, decide_true, decide_false, Bool.or_true, Bool.true_or, Bool.or_false, Bool.false_or, c5, c10], rfl, rfl⟩⟩ (Nat.zero_le _) (Nat.zero_le _)
    · skip
      refine g_dload hC dX5_loop_22 3 rfl ?_
      refine g_dconst0 hC dX5_loop_24 ?_
      refine g_ldc2 hC dX5_loop_25 q_cd_X5_88 ?_
      refine g_callS hC dX5_loop_28 (ct_X5_isIn l G L f d 0 4652007308841189376) q_code_X5_isIn q_ml_X5_90 q_st_X5_isIn q_init_X5 ⟨by decide, by decide, (show (parseMethodDescriptor yX5_isIn.desc).map (fun d => d.parameters.length) = some 3 from by decide +kernel)⟩ (by decide) (by decide) (Nat.le_of_ble_eq_true rfl) (fun v12 L13 f14 hp11 => ?_)
      obtain ⟨rfl, rfl, rfl⟩ := hp11
      refine (show V C 7 L f 0 0 31 [(0, .ref q0), (1, .double p), (3, .double i), (5, .double d)] [.int (bI (inB (dv d) (dv 0) (dv 4652007308841189376)))] from ?_)
      refine g_ifB_ne hC 36 dX5_loop_31 (by decide) (fun c15 => ?_) (fun c15 => ?_)
      · skip
        refine g_aload_n hC dX5_loop_36 0 rfl ?_
        refine g_get hC (kf := 0) (TT := TX5) (N := 26) (Cn := RX5) dX5_loop_37 (MI.m hM) (MI.o hM) rfl q_u5 (by decide) q_fl_X5_84 rfl rfl ?_
        refine g_bipush hC 16 dX5_loop_40 (by decide) ?_
        refine g_icmp_ne hC 48 dX5_loop_42 (by decide) (fun c16 => ?_) (fun c16 => ?_)
        · skip
          have hn16 := MI.n16 hM
          have hn : n < 16 := by rcases Nat.lt_or_ge n 16 with z | z; exact z; exact absurd (show nI n = nI 16 by rw [show n = 16 by omega]) c16
          refine g_aload_n hC dX5_loop_48 0 rfl ?_
          refine g_get hC (kf := 1) (TT := TX5) (N := 26) (Cn := RX5) dX5_loop_49 (MI.m hM) (MI.o hM) rfl q_u5 (by decide) q_fl_X5_9 rfl rfl ?_
          refine g_aload_n hC dX5_loop_52 0 rfl ?_
          refine g_get hC (kf := 0) (TT := TX5) (N := 26) (Cn := RX5) dX5_loop_53 (MI.m hM) (MI.o hM) rfl q_u5 (by decide) q_fl_X5_84 rfl rfl ?_
          refine g_dload_n hC dX5_loop_56 1 rfl ?_
          refine g_mds hC hM 0 (by decide) (by decide) hn dX5_loop_57 (fun f17 hM18 hR19 => ?_)
          refine g_aload_n hC dX5_loop_58 0 rfl ?_
          refine g_get hC (kf := 2) (TT := TX5) (N := 26) (Cn := RX5) dX5_loop_59 (MI.m hM18) (MI.o hM18) rfl q_u5 (by decide) q_fl_X5_13 rfl rfl ?_
          refine g_aload_n hC dX5_loop_62 0 rfl ?_
          refine g_get hC (kf := 0) (TT := TX5) (N := 26) (Cn := RX5) dX5_loop_63 (MI.m hM18) (MI.o hM18) rfl q_u5 (by decide) q_fl_X5_84 rfl rfl ?_
          refine g_dload_n hC dX5_loop_66 2 rfl ?_
          refine g_mds hC hM18 1 (by decide) (by decide) hn dX5_loop_67 (fun f20 hM21 hR22 => ?_)
          refine g_aload_n hC dX5_loop_68 0 rfl ?_
          refine g_get hC (kf := 3) (TT := TX5) (N := 26) (Cn := RX5) dX5_loop_69 (MI.m hM21) (MI.o hM21) rfl q_u5 (by decide) q_fl_X5_16 rfl rfl ?_
          refine g_aload_n hC dX5_loop_72 0 rfl ?_
          refine g_get hC (kf := 0) (TT := TX5) (N := 26) (Cn := RX5) dX5_loop_73 (MI.m hM21) (MI.o hM21) rfl q_u5 (by decide) q_fl_X5_84 rfl rfl ?_
          refine g_dload hC dX5_loop_76 3 rfl ?_
          refine g_mds hC hM21 2 (by decide) (by decide) hn dX5_loop_78 (fun f23 hM24 hR25 => ?_)
          refine g_aload_n hC dX5_loop_79 0 rfl ?_
          refine g_get hC (kf := 5) (TT := TX5) (N := 26) (Cn := RX5) dX5_loop_80 (MI.m hM24) (MI.o hM24) rfl q_u5 (by decide) q_fl_X5_22 rfl rfl ?_
          refine g_aload_n hC dX5_loop_83 0 rfl ?_
          refine g_get hC (kf := 0) (TT := TX5) (N := 26) (Cn := RX5) dX5_loop_84 (MI.m hM24) (MI.o hM24) rfl q_u5 (by decide) q_fl_X5_84 rfl rfl ?_
          refine g_ldc2 hC dX5_loop_87 q_cd_X5_94 ?_
          refine g_mds hC hM24 10 (by decide) (by decide) hn dX5_loop_90 (fun f26 hM27 hR28 => ?_)
          refine g_aload_n hC dX5_loop_91 0 rfl ?_
          refine g_get hC (kf := 6) (TT := TX5) (N := 26) (Cn := RX5) dX5_loop_92 (MI.m hM27) (MI.o hM27) rfl q_u5 (by decide) q_fl_X5_25 rfl rfl ?_
          refine g_aload_n hC dX5_loop_95 0 rfl ?_
          refine g_get hC (kf := 0) (TT := TX5) (N := 26) (Cn := RX5) dX5_loop_96 (MI.m hM27) (MI.o hM27) rfl q_u5 (by decide) q_fl_X5_84 rfl rfl ?_
          refine g_ldc2 hC dX5_loop_99 q_cd_X5_94 ?_
          refine g_mds hC hM27 3 (by decide) (by decide) hn dX5_loop_102 (fun f29 hM30 hR31 => ?_)
          refine g_aload_n hC dX5_loop_103 0 rfl ?_
          refine g_get hC (kf := 8) (TT := TX5) (N := 26) (Cn := RX5) dX5_loop_104 (MI.m hM30) (MI.o hM30) rfl q_u5 (by decide) q_fl_X5_31 rfl rfl ?_
          refine g_aload_n hC dX5_loop_107 0 rfl ?_
          refine g_get hC (kf := 0) (TT := TX5) (N := 26) (Cn := RX5) dX5_loop_108 (MI.m hM30) (MI.o hM30) rfl q_u5 (by decide) q_fl_X5_84 rfl rfl ?_
          refine g_ldc2 hC dX5_loop_111 q_cd_X5_96 ?_
          refine g_mds hC hM30 11 (by decide) (by decide) hn dX5_loop_114 (fun f32 hM33 hR34 => ?_)
          refine g_aload_n hC dX5_loop_115 0 rfl ?_
          refine g_get hC (kf := 9) (TT := TX5) (N := 26) (Cn := RX5) dX5_loop_116 (MI.m hM33) (MI.o hM33) rfl q_u5 (by decide) q_fl_X5_34 rfl rfl ?_
          refine g_aload_n hC dX5_loop_119 0 rfl ?_
          refine g_get hC (kf := 0) (TT := TX5) (N := 26) (Cn := RX5) dX5_loop_120 (MI.m hM33) (MI.o hM33) rfl q_u5 (by decide) q_fl_X5_84 rfl rfl ?_
          refine g_dconst1 hC dX5_loop_123 ?_
          refine g_mds hC hM33 12 (by decide) (by decide) hn dX5_loop_124 (fun f35 hM36 hR37 => ?_)
          refine g_aload_n hC dX5_loop_125 0 rfl ?_
          refine g_get hC (kf := 18) (TT := TX5) (N := 26) (Cn := RX5) dX5_loop_126 (MI.m hM36) (MI.o hM36) rfl q_u5 (by decide) q_fl_X5_63 rfl rfl ?_
          refine g_aload_n hC dX5_loop_129 0 rfl ?_
          refine g_get hC (kf := 0) (TT := TX5) (N := 26) (Cn := RX5) dX5_loop_130 (MI.m hM36) (MI.o hM36) rfl q_u5 (by decide) q_fl_X5_84 rfl rfl ?_
          refine g_iconst hC (-1) dX5_loop_133 (by decide) ?_
          refine g_mis hC hM36 22 (by decide) (by decide) hn dX5_loop_134 (fun f38 hM39 hR40 => ?_)
          refine g_aload_n hC dX5_loop_135 0 rfl ?_
          refine g_dup hC dX5_loop_136 rfl ?_
          refine g_get hC (kf := 0) (TT := TX5) (N := 26) (Cn := RX5) dX5_loop_137 (MI.m hM39) (MI.o hM39) rfl q_u5 (by decide) q_fl_X5_84 rfl rfl ?_
          refine g_iconst hC 1 dX5_loop_140 (by decide) ?_
          refine g_iadd hC dX5_loop_141 ?_
          refine g_eqI (nI_1 n) ?_
          refine g_put hC (kf := 0) (TT := TX5) (N := 26) (Cn := RX5) (ty0 := tyX5) (fs1 := [.int (nI (n + 1)), .ref (ma 0), .ref (ma 1), .ref (ma 2), .ref (ma 9), .ref (ma 10), .ref (ma 3), .ref (ma 4), .ref (ma 11), .ref (ma 12), .ref (ma 25), .ref (ma 13), .ref (ma 14), .ref (ma 5), .ref (ma 6), .ref (ma 7), .ref (ma 8), .ref (ma 20), .ref (ma 22), .ref (ma 21), .ref (ma 16), .ref (ma 17), .ref (ma 23), .int (nI (k)), .ref (ma 24), .ref (ma 18)]) dX5_loop_142 (MI.m hM39) (MI.o hM39) rfl q_u5 (by decide) tyX5_ok nmX5 q_fl_X5_84 rfl rfl rfl rfl rfl (Nat.le_of_ble_eq_true rfl) rfl ?_
          refine g_nm (fun f41 hf44 => ?_)
          have hR43 : FRm L f38 f41 := by rw [hf44]; exact FRm.up _ FRm.rf (MI.o hM39) rfl
          have hM42 : MI G q0 ma (n + 1) (k) (up2 (up2 (up2 (up2 (up2 (up2 (up2 Y n 0 p) n 1 i) n 2 d) n 10 4636737291354636288) n 3 4636737291354636288) n 11 13830554455654793216) n 12 4607182418800017408) (up2 W0 n 22 (-1)) L f41 := by rw [hf44]; exact MI.cnt hM39 (by omega) (MI.k16 hM39)
          refine g_aload_n hC dX5_loop_145 0 rfl ?_
          refine g_get hC (kf := 0) (TT := TX5) (N := 26) (Cn := RX5) dX5_loop_146 (MI.m hM42) (MI.o hM42) rfl q_u5 (by decide) q_fl_X5_84 rfl rfl ?_
          refine g_iconst hC 1 dX5_loop_149 (by decide) ?_
          refine g_isub hC dX5_loop_150 ?_
          refine g_eqI (nI_pred n) ?_
          exact g_iret hC dX5_loop_151 rfl rfl ⟨rfl, Or.inr (Or.inr ⟨by simp only [gnC, gainS, Bool.and_true, Bool.true_and, Bool.and_false, Bool.false_and, Bool.not_true, Bool.not_false, decide_true, decide_false, Bool.or_true, Bool.true_or, Bool.or_false, Bool.false_or, c5, c10, c15], hn, rfl, (FRm.trans (FRm.trans (FRm.trans (FRm.trans (FRm.trans (FRm.trans (FRm.trans (FRm.trans hR19 hR22) hR25) hR28) hR31) hR34) hR37) hR40) hR43), hM42⟩)⟩ (Nat.zero_le _) (Nat.zero_le _)
        · skip
          refine g_bipush hC (-2) dX5_loop_45 (by decide) ?_
          exact g_iret hC dX5_loop_47 rfl rfl ⟨rfl, Or.inr (Or.inl ⟨by simp only [gnC, gainS, Bool.and_true, Bool.true_and, Bool.and_false, Bool.false_and, Bool.not_true, Bool.not_false, decide_true, decide_false, Bool.or_true, Bool.true_or, Bool.or_false, Bool.false_or, c5, c10, c15], fun hn => absurd ((nI_eq (b := 16) (by omega) (by decide)).mp c16) (by omega), rfl, rfl⟩)⟩ (Nat.zero_le _) (Nat.zero_le _)
      · skip
        refine g_iconst hC (-1) dX5_loop_34 (by decide) ?_
        exact g_iret hC dX5_loop_35 rfl rfl ⟨rfl, Or.inl ⟨by simp only [gnC, gainS, Bool.and_true, Bool.true_and, Bool.and_false, Bool.false_and, Bool.not_true, Bool.not_false, decide_true, decide_false, Bool.or_true, Bool.true_or, Bool.or_false, Bool.false_or, c5, c10, c15], rfl, rfl⟩⟩ (Nat.zero_le _) (Nat.zero_le _)
end
