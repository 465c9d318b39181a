def RX0 : String := "ClimateChamber$Channel"
def TX0 : u_T := fun k => match k with
  | 0 => ("ClimateChamber$Channel", "mode", "I", false)
  | 1 => ("ClimateChamber$Channel", "gain", "I", false)
  | _ => ("ClimateChamber$Channel", "band", "I", false)
def tyX0 : Nat → FieldType := fun k => match k with
  | 0 => .int
  | 1 => .int
  | _ => .int
theorem nmX0 : ∀ a, a < 3 → ∀ b, b < 3 → a ≠ b → (TX0 a).2.1 ≠ (TX0 b).2.1 := by decide +kernel
theorem tyX0_ok : ∀ k, k < 3 → parseFieldDescriptor (TX0 k).2.2.1 = some (tyX0 k) := by decide +kernel
abbrev cX0_init : ByteArray := prog_2_method_1_code
def yX0_init : MethodName := ⟨RX0, "<init>", "()V"⟩
abbrev cX0_demand : ByteArray := prog_2_method_2_code
def yX0_demand : MethodName := ⟨RX0, "demand", "(III)I"⟩
abbrev cX0_unlimitedDemand : ByteArray := prog_2_method_3_code
def yX0_unlimitedDemand : MethodName := ⟨RX0, "unlimitedDemand", "(I)I"⟩
abbrev cX0_copy : ByteArray := prog_2_method_4_code
def yX0_copy : MethodName := ⟨RX0, "copy", "(LClimateChamber$Channel;)V"⟩
theorem iX0 : ∀ w ∈ u_ws RX0 TX0 3, w ∈ lw_all := k_incl [70, 72, 74] (by decide +kernel) (by decide +kernel)

def RX1 : String := "ClimateChamber$Climate"
def TX1 : u_T := fun k => match k with
  | 0 => ("ClimateChamber$Climate", "temperature", "I", false)
  | 1 => ("ClimateChamber$Climate", "humidity", "I", false)
  | 2 => ("ClimateChamber$Climate", "temperaturePoint", "I", false)
  | 3 => ("ClimateChamber$Climate", "humidityPoint", "I", false)
  | 4 => ("ClimateChamber$Climate", "doorOpen", "Z", false)
  | 5 => ("ClimateChamber$Climate", "wasBlocked", "Z", false)
  | 6 => ("ClimateChamber$Climate", "blockedMinutes", "I", false)
  | 7 => ("ClimateChamber$Climate", "heaterRest", "I", false)
  | 8 => ("ClimateChamber$Climate", "coolerRest", "I", false)
  | 9 => ("ClimateChamber$Climate", "heaterMinutes", "I", false)
  | 10 => ("ClimateChamber$Climate", "coolerMinutes", "I", false)
  | 11 => ("ClimateChamber$Climate", "humidifierMinutes", "I", false)
  | 12 => ("ClimateChamber$Climate", "dryerMinutes", "I", false)
  | _ => ("ClimateChamber$Climate", "energy", "I", false)
def tyX1 : Nat → FieldType := fun k => match k with
  | 0 => .int
  | 1 => .int
  | 2 => .int
  | 3 => .int
  | 4 => .boolean
  | 5 => .boolean
  | 6 => .int
  | 7 => .int
  | 8 => .int
  | 9 => .int
  | 10 => .int
  | 11 => .int
  | 12 => .int
  | _ => .int
theorem nmX1 : ∀ a, a < 14 → ∀ b, b < 14 → a ≠ b → (TX1 a).2.1 ≠ (TX1 b).2.1 := by decide +kernel
theorem tyX1_ok : ∀ k, k < 14 → parseFieldDescriptor (TX1 k).2.2.1 = some (tyX1 k) := by decide +kernel
abbrev cX1_init : ByteArray := prog_3_method_1_code
def yX1_init : MethodName := ⟨RX1, "<init>", "()V"⟩
abbrev cX1_temperatureOffset : ByteArray := prog_3_method_2_code
def yX1_temperatureOffset : MethodName := ⟨RX1, "temperatureOffset", "()I"⟩
abbrev cX1_humidityOffset : ByteArray := prog_3_method_3_code
def yX1_humidityOffset : MethodName := ⟨RX1, "humidityOffset", "()I"⟩
abbrev cX1_change : ByteArray := prog_3_method_4_code
def yX1_change : MethodName := ⟨RX1, "change", "(II)V"⟩
abbrev cX1_count : ByteArray := prog_3_method_5_code
def yX1_count : MethodName := ⟨RX1, "count", "(II)V"⟩
abbrev cX1_tally : ByteArray := prog_3_method_6_code
def yX1_tally : MethodName := ⟨RX1, "tally", "(I)I"⟩
abbrev cX1_copy : ByteArray := prog_3_method_7_code
def yX1_copy : MethodName := ⟨RX1, "copy", "(LClimateChamber$Climate;)V"⟩
theorem iX1 : ∀ w ∈ u_ws RX1 TX1 14, w ∈ lw_all := k_incl [182, 184, 186, 188, 190, 192, 194, 196, 198, 200, 202, 204, 206, 208] (by decide +kernel) (by decide +kernel)

def RX2 : String := "ClimateChamber$Results"
def TX2 : u_T := fun k => match k with
  | 0 => ("ClimateChamber$Results", "segments", "LClimateChamber$Ring;", true)
  | 1 => ("ClimateChamber$Results", "cycles", "LClimateChamber$Ring;", true)
  | 2 => ("ClimateChamber$Results", "minutes", "LClimateChamber$Ring;", true)
  | _ => ("ClimateChamber$Results", "pausedMinutes", "LClimateChamber$Ring;", true)
def tyX2 : Nat → FieldType := fun k => match k with
  | 0 => .object "ClimateChamber$Ring"
  | 1 => .object "ClimateChamber$Ring"
  | 2 => .object "ClimateChamber$Ring"
  | _ => .object "ClimateChamber$Ring"
theorem nmX2 : ∀ a, a < 4 → ∀ b, b < 4 → a ≠ b → (TX2 a).2.1 ≠ (TX2 b).2.1 := by decide +kernel
theorem tyX2_ok : ∀ k, k < 4 → parseFieldDescriptor (TX2 k).2.2.1 = some (tyX2 k) := by decide +kernel
abbrev cX2_init : ByteArray := prog_4_method_1_code
def yX2_init : MethodName := ⟨RX2, "<init>", "()V"⟩
abbrev cX2_add : ByteArray := prog_4_method_2_code
def yX2_add : MethodName := ⟨RX2, "add", "(LClimateChamber$Run;I)V"⟩
abbrev cX2_property : ByteArray := prog_4_method_3_code
def yX2_property : MethodName := ⟨RX2, "property", "(II)I"⟩
abbrev cX2_copy : ByteArray := prog_4_method_4_code
def yX2_copy : MethodName := ⟨RX2, "copy", "(LClimateChamber$Results;)V"⟩
theorem iX2 : ∀ w ∈ u_ws RX2 TX2 4, w ∈ lw_all := k_incl [241, 243, 245, 247] (by decide +kernel) (by decide +kernel)

def RX3 : String := "ClimateChamber$Ring"
def TX3 : u_T := fun k => match k with
  | 0 => ("ClimateChamber$Ring", "cells", "[I", true)
  | 1 => ("ClimateChamber$Ring", "next", "I", false)
  | _ => ("ClimateChamber$Ring", "kept", "I", false)
def tyX3 : Nat → FieldType := fun k => match k with
  | 0 => .array .int
  | 1 => .int
  | _ => .int
theorem nmX3 : ∀ a, a < 3 → ∀ b, b < 3 → a ≠ b → (TX3 a).2.1 ≠ (TX3 b).2.1 := by decide +kernel
theorem tyX3_ok : ∀ k, k < 3 → parseFieldDescriptor (TX3 k).2.2.1 = some (tyX3 k) := by decide +kernel
abbrev cX3_init : ByteArray := prog_5_method_1_code
def yX3_init : MethodName := ⟨RX3, "<init>", "(I)V"⟩
abbrev cX3_add : ByteArray := prog_5_method_2_code
def yX3_add : MethodName := ⟨RX3, "add", "(I)V"⟩
abbrev cX3_latest : ByteArray := prog_5_method_3_code
def yX3_latest : MethodName := ⟨RX3, "latest", "(I)I"⟩
abbrev cX3_copy : ByteArray := prog_5_method_4_code
def yX3_copy : MethodName := ⟨RX3, "copy", "(LClimateChamber$Ring;)V"⟩
theorem iX3 : ∀ w ∈ u_ws RX3 TX3 3, w ∈ lw_all := k_incl [230, 232, 234] (by decide +kernel) (by decide +kernel)

def RX4 : String := "ClimateChamber$Run"
def TX4 : u_T := fun k => match k with
  | 0 => ("ClimateChamber$Run", "phase", "I", false)
  | 1 => ("ClimateChamber$Run", "held", "Z", false)
  | 2 => ("ClimateChamber$Run", "segment", "I", false)
  | 3 => ("ClimateChamber$Run", "cycle", "I", false)
  | 4 => ("ClimateChamber$Run", "rampClock", "I", false)
  | 5 => ("ClimateChamber$Run", "soakClock", "I", false)
  | 6 => ("ClimateChamber$Run", "pausedMinutes", "I", false)
  | 7 => ("ClimateChamber$Run", "beginning", "I", false)
  | 8 => ("ClimateChamber$Run", "startTemperature", "I", false)
  | _ => ("ClimateChamber$Run", "startHumidity", "I", false)
def tyX4 : Nat → FieldType := fun k => match k with
  | 0 => .int
  | 1 => .boolean
  | 2 => .int
  | 3 => .int
  | 4 => .int
  | 5 => .int
  | 6 => .int
  | 7 => .int
  | 8 => .int
  | _ => .int
theorem nmX4 : ∀ a, a < 10 → ∀ b, b < 10 → a ≠ b → (TX4 a).2.1 ≠ (TX4 b).2.1 := by decide +kernel
theorem tyX4_ok : ∀ k, k < 10 → parseFieldDescriptor (TX4 k).2.2.1 = some (tyX4 k) := by decide +kernel
abbrev cX4_init : ByteArray := prog_6_method_1_code
def yX4_init : MethodName := ⟨RX4, "<init>", "()V"⟩
abbrev cX4_isRunning : ByteArray := prog_6_method_2_code
def yX4_isRunning : MethodName := ⟨RX4, "isRunning", "()Z"⟩
abbrev cX4_goesOn : ByteArray := prog_6_method_3_code
def yX4_goesOn : MethodName := ⟨RX4, "goesOn", "()Z"⟩
abbrev cX4_end : ByteArray := prog_6_method_4_code
def yX4_end : MethodName := ⟨RX4, "end", "(I)V"⟩
abbrev cX4_copy : ByteArray := prog_6_method_5_code
def yX4_copy : MethodName := ⟨RX4, "copy", "(LClimateChamber$Run;)V"⟩
theorem iX4 : ∀ w ∈ u_ws RX4 TX4 10, w ∈ lw_all := k_incl [127, 129, 131, 133, 135, 137, 139, 141, 143, 145] (by decide +kernel) (by decide +kernel)

def RX5 : String := "ClimateChamber$SavedStates"
def TX5 : u_T := fun k => match k with
  | 0 => ("ClimateChamber$SavedStates", "states", "[LClimateChamber$State;", true)
  | 1 => ("ClimateChamber$SavedStates", "next", "I", false)
  | _ => ("ClimateChamber$SavedStates", "count", "I", false)
def tyX5 : Nat → FieldType := fun k => match k with
  | 0 => .array (.object "ClimateChamber$State")
  | 1 => .int
  | _ => .int
theorem nmX5 : ∀ a, a < 3 → ∀ b, b < 3 → a ≠ b → (TX5 a).2.1 ≠ (TX5 b).2.1 := by decide +kernel
theorem tyX5_ok : ∀ k, k < 3 → parseFieldDescriptor (TX5 k).2.2.1 = some (tyX5 k) := by decide +kernel
abbrev cX5_init : ByteArray := prog_7_method_1_code
def yX5_init : MethodName := ⟨RX5, "<init>", "()V"⟩
abbrev cX5_keep : ByteArray := prog_7_method_2_code
def yX5_keep : MethodName := ⟨RX5, "keep", "(LClimateChamber$State;)V"⟩
abbrev cX5_restore : ByteArray := prog_7_method_3_code
def yX5_restore : MethodName := ⟨RX5, "restore", "(LClimateChamber$State;)V"⟩
theorem iX5 : ∀ w ∈ u_ws RX5 TX5 3, w ∈ lw_all := k_incl [332, 334, 336] (by decide +kernel) (by decide +kernel)

def RX6 : String := "ClimateChamber$Segments"
def TX6 : u_T := fun k => match k with
  | 0 => ("ClimateChamber$Segments", "cells", "[I", true)
  | _ => ("ClimateChamber$Segments", "count", "I", false)
def tyX6 : Nat → FieldType := fun k => match k with
  | 0 => .array .int
  | _ => .int
theorem nmX6 : ∀ a, a < 2 → ∀ b, b < 2 → a ≠ b → (TX6 a).2.1 ≠ (TX6 b).2.1 := by decide +kernel
theorem tyX6_ok : ∀ k, k < 2 → parseFieldDescriptor (TX6 k).2.2.1 = some (tyX6 k) := by decide +kernel
abbrev cX6_init : ByteArray := prog_8_method_1_code
def yX6_init : MethodName := ⟨RX6, "<init>", "()V"⟩
abbrev cX6_isFull : ByteArray := prog_8_method_2_code
def yX6_isFull : MethodName := ⟨RX6, "isFull", "()Z"⟩
abbrev cX6_property : ByteArray := prog_8_method_3_code
def yX6_property : MethodName := ⟨RX6, "property", "(II)I"⟩
abbrev cX6_add : ByteArray := prog_8_method_4_code
def yX6_add : MethodName := ⟨RX6, "add", "(IIII)V"⟩
abbrev cX6_remove : ByteArray := prog_8_method_5_code
def yX6_remove : MethodName := ⟨RX6, "remove", "(I)V"⟩
abbrev cX6_copy : ByteArray := prog_8_method_6_code
def yX6_copy : MethodName := ⟨RX6, "copy", "(LClimateChamber$Segments;)V"⟩
theorem iX6 : ∀ w ∈ u_ws RX6 TX6 2, w ∈ lw_all := k_incl [89, 91] (by decide +kernel) (by decide +kernel)

def RX7 : String := "ClimateChamber$State"
def TX7 : u_T := fun k => match k with
  | 0 => ("ClimateChamber$State", "time", "I", false)
  | 1 => ("ClimateChamber$State", "cycles", "I", false)
  | 2 => ("ClimateChamber$State", "settings", "[I", true)
  | 3 => ("ClimateChamber$State", "temperatureChannel", "LClimateChamber$Channel;", true)
  | 4 => ("ClimateChamber$State", "humidityChannel", "LClimateChamber$Channel;", true)
  | 5 => ("ClimateChamber$State", "segments", "LClimateChamber$Segments;", true)
  | 6 => ("ClimateChamber$State", "run", "LClimateChamber$Run;", true)
  | 7 => ("ClimateChamber$State", "climate", "LClimateChamber$Climate;", true)
  | 8 => ("ClimateChamber$State", "results", "LClimateChamber$Results;", true)
  | 9 => ("ClimateChamber$State", "trail", "LClimateChamber$Trail;", true)
  | _ => ("ClimateChamber$State", "temperatures", "LClimateChamber$Ring;", true)
def tyX7 : Nat → FieldType := fun k => match k with
  | 0 => .int
  | 1 => .int
  | 2 => .array .int
  | 3 => .object "ClimateChamber$Channel"
  | 4 => .object "ClimateChamber$Channel"
  | 5 => .object "ClimateChamber$Segments"
  | 6 => .object "ClimateChamber$Run"
  | 7 => .object "ClimateChamber$Climate"
  | 8 => .object "ClimateChamber$Results"
  | 9 => .object "ClimateChamber$Trail"
  | _ => .object "ClimateChamber$Ring"
theorem nmX7 : ∀ a, a < 11 → ∀ b, b < 11 → a ≠ b → (TX7 a).2.1 ≠ (TX7 b).2.1 := by decide +kernel
theorem tyX7_ok : ∀ k, k < 11 → parseFieldDescriptor (TX7 k).2.2.1 = some (tyX7 k) := by decide +kernel
abbrev cX7_init : ByteArray := prog_9_method_1_code
def yX7_init : MethodName := ⟨RX7, "<init>", "()V"⟩
abbrev cX7_letMinutePass : ByteArray := prog_9_method_2_code
def yX7_letMinutePass : MethodName := ⟨RX7, "letMinutePass", "()V"⟩
abbrev cX7_moveSetPoints : ByteArray := prog_9_method_3_code
def yX7_moveSetPoints : MethodName := ⟨RX7, "moveSetPoints", "()V"⟩
abbrev cX7_onRamp : ByteArray := prog_9_method_4_code
def yX7_onRamp : MethodName := ⟨RX7, "onRamp", "(II)I"⟩
abbrev cX7_allowedOutput : ByteArray := prog_9_method_5_code
def yX7_allowedOutput : MethodName := ⟨RX7, "allowedOutput", "()I"⟩
abbrev cX7_moistureDemand : ByteArray := prog_9_method_6_code
def yX7_moistureDemand : MethodName := ⟨RX7, "moistureDemand", "(I)I"⟩
abbrev cX7_lost : ByteArray := prog_9_method_7_code
def yX7_lost : MethodName := ⟨RX7, "lost", "(I)I"⟩
abbrev cX7_followProgram : ByteArray := prog_9_method_8_code
def yX7_followProgram : MethodName := ⟨RX7, "followProgram", "()V"⟩
abbrev cX7_followRamp : ByteArray := prog_9_method_9_code
def yX7_followRamp : MethodName := ⟨RX7, "followRamp", "()Z"⟩
abbrev cX7_followSoak : ByteArray := prog_9_method_10_code
def yX7_followSoak : MethodName := ⟨RX7, "followSoak", "()Z"⟩
abbrev cX7_startProgram : ByteArray := prog_9_method_11_code
def yX7_startProgram : MethodName := ⟨RX7, "startProgram", "()V"⟩
abbrev cX7_finishSegment : ByteArray := prog_9_method_12_code
def yX7_finishSegment : MethodName := ⟨RX7, "finishSegment", "()V"⟩
abbrev cX7_beginSegment : ByteArray := prog_9_method_13_code
def yX7_beginSegment : MethodName := ⟨RX7, "beginSegment", "(III)V"⟩
abbrev cX7_present : ByteArray := prog_9_method_14_code
def yX7_present : MethodName := ⟨RX7, "present", "(I)I"⟩
abbrev cX7_copy : ByteArray := prog_9_method_15_code
def yX7_copy : MethodName := ⟨RX7, "copy", "(LClimateChamber$State;)V"⟩
theorem iX7 : ∀ w ∈ u_ws RX7 TX7 11, w ∈ lw_all := k_incl [297, 299, 301, 303, 305, 307, 309, 311, 313, 315, 317] (by decide +kernel) (by decide +kernel)

def RX8 : String := "ClimateChamber$Text"
def TX8 : u_T := fun k => match k with
  | 0 => ("ClimateChamber$Text", "codes", "[I", true)
  | 1 => ("ClimateChamber$Text", "length", "I", false)
  | 2 => ("ClimateChamber$Text", "segments", "LClimateChamber$Segments;", true)
  | 3 => ("ClimateChamber$Text", "place", "I", false)
  | 4 => ("ClimateChamber$Text", "number", "I", false)
  | _ => ("ClimateChamber$Text", "firstOutOfRange", "I", false)
def tyX8 : Nat → FieldType := fun k => match k with
  | 0 => .array .int
  | 1 => .int
  | 2 => .object "ClimateChamber$Segments"
  | 3 => .int
  | 4 => .int
  | _ => .int
theorem nmX8 : ∀ a, a < 6 → ∀ b, b < 6 → a ≠ b → (TX8 a).2.1 ≠ (TX8 b).2.1 := by decide +kernel
theorem tyX8_ok : ∀ k, k < 6 → parseFieldDescriptor (TX8 k).2.2.1 = some (tyX8 k) := by decide +kernel
abbrev cX8_init : ByteArray := prog_10_method_1_code
def yX8_init : MethodName := ⟨RX8, "<init>", "()V"⟩
abbrev cX8_findError : ByteArray := prog_10_method_4_code
def yX8_findError : MethodName := ⟨RX8, "findError", "()I"⟩
abbrev cX8_readSegment : ByteArray := prog_10_method_5_code
def yX8_readSegment : MethodName := ⟨RX8, "readSegment", "()Z"⟩
abbrev cX8_readSign : ByteArray := prog_10_method_6_code
def yX8_readSign : MethodName := ⟨RX8, "readSign", "(C)Z"⟩
abbrev cX8_readNumber : ByteArray := prog_10_method_7_code
def yX8_readNumber : MethodName := ⟨RX8, "readNumber", "()Z"⟩
theorem iX8 : ∀ w ∈ u_ws RX8 TX8 6, w ∈ lw_all := k_incl [354, 356, 358, 360, 362, 364] (by decide +kernel) (by decide +kernel)

def RX9 : String := "ClimateChamber$Trail"
def TX9 : u_T := fun k => match k with
  | 0 => ("ClimateChamber$Trail", "kinds", "LClimateChamber$Ring;", true)
  | 1 => ("ClimateChamber$Trail", "numbers", "LClimateChamber$Ring;", true)
  | 2 => ("ClimateChamber$Trail", "times", "LClimateChamber$Ring;", true)
  | _ => ("ClimateChamber$Trail", "code", "J", false)
def tyX9 : Nat → FieldType := fun k => match k with
  | 0 => .object "ClimateChamber$Ring"
  | 1 => .object "ClimateChamber$Ring"
  | 2 => .object "ClimateChamber$Ring"
  | _ => .long
theorem nmX9 : ∀ a, a < 4 → ∀ b, b < 4 → a ≠ b → (TX9 a).2.1 ≠ (TX9 b).2.1 := by decide +kernel
theorem tyX9_ok : ∀ k, k < 4 → parseFieldDescriptor (TX9 k).2.2.1 = some (tyX9 k) := by decide +kernel
abbrev cX9_init : ByteArray := prog_11_method_1_code
def yX9_init : MethodName := ⟨RX9, "<init>", "()V"⟩
abbrev cX9_write : ByteArray := prog_11_method_2_code
def yX9_write : MethodName := ⟨RX9, "write", "(III)V"⟩
abbrev cX9_property : ByteArray := prog_11_method_3_code
def yX9_property : MethodName := ⟨RX9, "property", "(II)I"⟩
abbrev cX9_copy : ByteArray := prog_11_method_4_code
def yX9_copy : MethodName := ⟨RX9, "copy", "(LClimateChamber$Trail;)V"⟩
theorem iX9 : ∀ w ∈ u_ws RX9 TX9 4, w ∈ lw_all := k_incl [264, 266, 268, 270] (by decide +kernel) (by decide +kernel)

def RX10 : String := "ClimateChamber"
def TX10 : u_T := fun k => match k with
  | 0 => ("ClimateChamber", "now", "LClimateChamber$State;", true)
  | 1 => ("ClimateChamber", "trial", "LClimateChamber$State;", true)
  | 2 => ("ClimateChamber", "saved", "LClimateChamber$SavedStates;", true)
  | _ => ("ClimateChamber", "text", "LClimateChamber$Text;", true)
def tyX10 : Nat → FieldType := fun k => match k with
  | 0 => .object "ClimateChamber$State"
  | 1 => .object "ClimateChamber$State"
  | 2 => .object "ClimateChamber$SavedStates"
  | _ => .object "ClimateChamber$Text"
theorem nmX10 : ∀ a, a < 4 → ∀ b, b < 4 → a ≠ b → (TX10 a).2.1 ≠ (TX10 b).2.1 := by decide +kernel
theorem tyX10_ok : ∀ k, k < 4 → parseFieldDescriptor (TX10 k).2.2.1 = some (tyX10 k) := by decide +kernel
abbrev cX10_init : ByteArray := prog_1_method_1_code
def yX10_init : MethodName := ⟨RX10, "<init>", "()V"⟩
abbrev cX10_set : ByteArray := prog_1_method_2_code
def yX10_set : MethodName := ⟨RX10, "set", "(II)I"⟩
abbrev cX10_setMode : ByteArray := prog_1_method_3_code
def yX10_setMode : MethodName := ⟨RX10, "setMode", "(IIII)I"⟩
abbrev cX10_setPoints : ByteArray := prog_1_method_4_code
def yX10_setPoints : MethodName := ⟨RX10, "setPoints", "(II)I"⟩
abbrev cX10_door : ByteArray := prog_1_method_5_code
def yX10_door : MethodName := ⟨RX10, "door", "(Z)I"⟩
abbrev cX10_pass : ByteArray := prog_1_method_6_code
def yX10_pass : MethodName := ⟨RX10, "pass", "(I)I"⟩
abbrev cX10_addSegment : ByteArray := prog_1_method_7_code
def yX10_addSegment : MethodName := ⟨RX10, "addSegment", "(IIII)I"⟩
abbrev cX10_removeSegment : ByteArray := prog_1_method_8_code
def yX10_removeSegment : MethodName := ⟨RX10, "removeSegment", "(I)I"⟩
abbrev cX10_setCycles : ByteArray := prog_1_method_9_code
def yX10_setCycles : MethodName := ⟨RX10, "setCycles", "(I)I"⟩
abbrev cX10_start : ByteArray := prog_1_method_10_code
def yX10_start : MethodName := ⟨RX10, "start", "()I"⟩
abbrev cX10_stop : ByteArray := prog_1_method_11_code
def yX10_stop : MethodName := ⟨RX10, "stop", "()I"⟩
abbrev cX10_hold : ByteArray := prog_1_method_12_code
def yX10_hold : MethodName := ⟨RX10, "hold", "(Z)I"⟩
abbrev cX10_undo : ByteArray := prog_1_method_13_code
def yX10_undo : MethodName := ⟨RX10, "undo", "()I"⟩
abbrev cX10_value : ByteArray := prog_1_method_14_code
def yX10_value : MethodName := ⟨RX10, "value", "(I)I"⟩
abbrev cX10_setting : ByteArray := prog_1_method_15_code
def yX10_setting : MethodName := ⟨RX10, "setting", "(I)I"⟩
abbrev cX10_result : ByteArray := prog_1_method_17_code
def yX10_result : MethodName := ⟨RX10, "result", "(II)I"⟩
abbrev cX10_audit : ByteArray := prog_1_method_18_code
def yX10_audit : MethodName := ⟨RX10, "audit", "(II)I"⟩
abbrev cX10_auditCode : ByteArray := prog_1_method_19_code
def yX10_auditCode : MethodName := ⟨RX10, "auditCode", "()J"⟩
abbrev cX10_history : ByteArray := prog_1_method_20_code
def yX10_history : MethodName := ⟨RX10, "history", "(I)I"⟩
abbrev cX10_spread : ByteArray := prog_1_method_21_code
def yX10_spread : MethodName := ⟨RX10, "spread", "(I)I"⟩
abbrev cX10_valueIn : ByteArray := prog_1_method_23_code
def yX10_valueIn : MethodName := ⟨RX10, "valueIn", "(II)I"⟩
abbrev cX10_doneIn : ByteArray := prog_1_method_24_code
def yX10_doneIn : MethodName := ⟨RX10, "doneIn", "()I"⟩
abbrev cX10_reachIn : ByteArray := prog_1_method_25_code
def yX10_reachIn : MethodName := ⟨RX10, "reachIn", "(I)I"⟩
abbrev cX10_bestMode : ByteArray := prog_1_method_26_code
def yX10_bestMode : MethodName := ⟨RX10, "bestMode", "(I)I"⟩
abbrev cX10_errorPosition : ByteArray := prog_1_method_29_code
def yX10_errorPosition : MethodName := ⟨RX10, "errorPosition", "()I"⟩
abbrev cX10_requireIndex : ByteArray := prog_1_method_31_code
def yX10_requireIndex : MethodName := ⟨RX10, "requireIndex", "(II)V"⟩
abbrev cX10_requireArgument : ByteArray := prog_1_method_32_code
def yX10_requireArgument : MethodName := ⟨RX10, "requireArgument", "(Z)V"⟩
abbrev cX10_requireState : ByteArray := prog_1_method_33_code
def yX10_requireState : MethodName := ⟨RX10, "requireState", "(Z)V"⟩
abbrev cX10_isWithin : ByteArray := prog_1_method_34_code
def yX10_isWithin : MethodName := ⟨RX10, "isWithin", "(III)Z"⟩
abbrev cX10_limit : ByteArray := prog_1_method_35_code
def yX10_limit : MethodName := ⟨RX10, "limit", "(III)I"⟩
abbrev cX10_isTargetTemperature : ByteArray := prog_1_method_36_code
def yX10_isTargetTemperature : MethodName := ⟨RX10, "isTargetTemperature", "(I)Z"⟩
abbrev cX10_isTarget : ByteArray := prog_1_method_37_code
def yX10_isTarget : MethodName := ⟨RX10, "isTarget", "(II)Z"⟩
abbrev cX10_isSegment : ByteArray := prog_1_method_38_code
def yX10_isSegment : MethodName := ⟨RX10, "isSegment", "(IIII)Z"⟩
abbrev cX10_at : ByteArray := prog_1_method_39_code
def yX10_at : MethodName := ⟨RX10, "at", "([II)I"⟩
abbrev cX10_put : ByteArray := prog_1_method_40_code
def yX10_put : MethodName := ⟨RX10, "put", "([III)V"⟩
abbrev cX10_copyRow : ByteArray := prog_1_method_41_code
def yX10_copyRow : MethodName := ⟨RX10, "copyRow", "([I[I)V"⟩
theorem iX10 : ∀ w ∈ u_ws RX10 TX10 4, w ∈ lw_all := k_incl [371, 373, 375, 377] (by decide +kernel) (by decide +kernel)

def RL : String := "ClimateChamberLaw"
abbrev cL_cell : ByteArray := method_2_code
def yL_cell : MethodName := ⟨RL, "cell", "([II)I"⟩
abbrev cL_low : ByteArray := method_3_code
def yL_low : MethodName := ⟨RL, "low", "(II)I"⟩
abbrev cL_set : ByteArray := method_4_code
def yL_set : MethodName := ⟨RL, "set", "(LClimateChamber;II)I"⟩
abbrev cL_setMode : ByteArray := method_5_code
def yL_setMode : MethodName := ⟨RL, "setMode", "(LClimateChamber;IIII)I"⟩
abbrev cL_setPoints : ByteArray := method_6_code
def yL_setPoints : MethodName := ⟨RL, "setPoints", "(LClimateChamber;II)I"⟩
abbrev cL_door : ByteArray := method_7_code
def yL_door : MethodName := ⟨RL, "door", "(LClimateChamber;Z)I"⟩
abbrev cL_pass : ByteArray := method_8_code
def yL_pass : MethodName := ⟨RL, "pass", "(LClimateChamber;I)I"⟩
abbrev cL_addSegment : ByteArray := method_9_code
def yL_addSegment : MethodName := ⟨RL, "addSegment", "(LClimateChamber;IIII)I"⟩
abbrev cL_removeSegment : ByteArray := method_10_code
def yL_removeSegment : MethodName := ⟨RL, "removeSegment", "(LClimateChamber;I)I"⟩
abbrev cL_setCycles : ByteArray := method_11_code
def yL_setCycles : MethodName := ⟨RL, "setCycles", "(LClimateChamber;I)I"⟩
abbrev cL_start : ByteArray := method_12_code
def yL_start : MethodName := ⟨RL, "start", "(LClimateChamber;)I"⟩
abbrev cL_stop : ByteArray := method_13_code
def yL_stop : MethodName := ⟨RL, "stop", "(LClimateChamber;)I"⟩
abbrev cL_hold : ByteArray := method_14_code
def yL_hold : MethodName := ⟨RL, "hold", "(LClimateChamber;Z)I"⟩
abbrev cL_undo : ByteArray := method_15_code
def yL_undo : MethodName := ⟨RL, "undo", "(LClimateChamber;)I"⟩
abbrev cL_value : ByteArray := method_16_code
def yL_value : MethodName := ⟨RL, "value", "(LClimateChamber;I)I"⟩
abbrev cL_setting : ByteArray := method_17_code
def yL_setting : MethodName := ⟨RL, "setting", "(LClimateChamber;I)I"⟩
abbrev cL_result : ByteArray := method_18_code
def yL_result : MethodName := ⟨RL, "result", "(LClimateChamber;II)I"⟩
abbrev cL_audit : ByteArray := method_19_code
def yL_audit : MethodName := ⟨RL, "audit", "(LClimateChamber;II)I"⟩
abbrev cL_history : ByteArray := method_20_code
def yL_history : MethodName := ⟨RL, "history", "(LClimateChamber;I)I"⟩
abbrev cL_spread : ByteArray := method_21_code
def yL_spread : MethodName := ⟨RL, "spread", "(LClimateChamber;I)I"⟩
abbrev cL_valueIn : ByteArray := method_22_code
def yL_valueIn : MethodName := ⟨RL, "valueIn", "(LClimateChamber;II)I"⟩
abbrev cL_doneIn : ByteArray := method_23_code
def yL_doneIn : MethodName := ⟨RL, "doneIn", "(LClimateChamber;)I"⟩
abbrev cL_reachIn : ByteArray := method_24_code
def yL_reachIn : MethodName := ⟨RL, "reachIn", "(LClimateChamber;I)I"⟩
abbrev cL_bestMode : ByteArray := method_25_code
def yL_bestMode : MethodName := ⟨RL, "bestMode", "(LClimateChamber;I)I"⟩
abbrev cL_change : ByteArray := method_26_code
def yL_change : MethodName := ⟨RL, "change", "(LClimateChamber;II)I"⟩
abbrev cL_ask : ByteArray := method_27_code
def yL_ask : MethodName := ⟨RL, "ask", "(LClimateChamber;II)I"⟩
abbrev cL_isMinute : ByteArray := method_28_code
def yL_isMinute : MethodName := ⟨RL, "isMinute", "(LClimateChamber;)Z"⟩
abbrev cL_areAlike : ByteArray := method_29_code
def yL_areAlike : MethodName := ⟨RL, "areAlike", "(LClimateChamber;LClimateChamber;)Z"⟩
abbrev cL_law : ByteArray := code
def yL_law : MethodName := ⟨RL, "law", "([I)Z"⟩
abbrev vwCl : List vw_C := [(RX0, TX0, 3), (RX1, TX1, 14), (RX2, TX2, 4), (RX3, TX3, 3), (RX4, TX4, 10), (RX5, TX5, 3), (RX6, TX6, 2), (RX7, TX7, 11), (RX8, TX8, 6), (RX9, TX9, 4), (RX10, TX10, 4)]
/-- a kind of object: its place in vwCl, its words, its fields' types and names -/
def kCls (ci : Nat) (C : String) (T : u_T) (N : Nat) (ty0 : Nat → FieldType) : Prop := vwCl[ci]? = some (C, T, N) ∧ (∀ w ∈ u_ws C T N, w ∈ lw_all) ∧ (∀ k, k < N → parseFieldDescriptor (T k).2.2.1 = some (ty0 k)) ∧ ∀ a, a < N → ∀ b, b < N → a ≠ b → (T a).2.1 ≠ (T b).2.1
theorem vX0 : kCls 0 RX0 TX0 3 tyX0 := ⟨rfl, iX0, tyX0_ok, nmX0⟩
theorem vX1 : kCls 1 RX1 TX1 14 tyX1 := ⟨rfl, iX1, tyX1_ok, nmX1⟩
theorem vX2 : kCls 2 RX2 TX2 4 tyX2 := ⟨rfl, iX2, tyX2_ok, nmX2⟩
theorem vX3 : kCls 3 RX3 TX3 3 tyX3 := ⟨rfl, iX3, tyX3_ok, nmX3⟩
theorem vX4 : kCls 4 RX4 TX4 10 tyX4 := ⟨rfl, iX4, tyX4_ok, nmX4⟩
theorem vX5 : kCls 5 RX5 TX5 3 tyX5 := ⟨rfl, iX5, tyX5_ok, nmX5⟩
theorem vX6 : kCls 6 RX6 TX6 2 tyX6 := ⟨rfl, iX6, tyX6_ok, nmX6⟩
theorem vX7 : kCls 7 RX7 TX7 11 tyX7 := ⟨rfl, iX7, tyX7_ok, nmX7⟩
theorem vX8 : kCls 8 RX8 TX8 6 tyX8 := ⟨rfl, iX8, tyX8_ok, nmX8⟩
theorem vX9 : kCls 9 RX9 TX9 4 tyX9 := ⟨rfl, iX9, tyX9_ok, nmX9⟩
theorem vX10 : kCls 10 RX10 TX10 4 tyX10 := ⟨rfl, iX10, tyX10_ok, nmX10⟩
