/-! ===== BEGIN printed: names, fields, word lists, decode rows ===== -/
def RX0 : String := "AccentModems$Lesson"
def TX0 : u_T := fun k => match k with
  | 0 => ("AccentModems$Lesson", "sizes", "[I", true)
  | _ => ("AccentModems$Lesson", "beats", "I", false)
def tyX0 : Nat → FieldType := fun k => match k with
  | 0 => .array .int
  | _ => .int
theorem nmX0 : ∀ a, a < 2 → ∀ b, b < 2 → a ≠ b → (TX0 a).2.1 ≠ (TX0 b).2.1 := by decide +kernel
theorem tyX0_ok : ∀ k, k < 2 → parseFieldDescriptor (TX0 k).2.2.1 = some (tyX0 k) := by decide +kernel
abbrev cX0_init : ByteArray := prog_2_method_1_code
def yX0_init : MethodName := ⟨RX0, "<init>", "()V"⟩
abbrev cX0_begin : ByteArray := prog_2_method_2_code
def yX0_begin : MethodName := ⟨RX0, "begin", "()V"⟩
abbrev cX0_note : ByteArray := prog_2_method_3_code
def yX0_note : MethodName := ⟨RX0, "note", "(II)V"⟩
abbrev cX0_worstOf : ByteArray := prog_2_method_4_code
def yX0_worstOf : MethodName := ⟨RX0, "worstOf", "(I)I"⟩
def RX1 : String := "AccentModems$State"
def TX1 : u_T := fun k => match k with
  | 0 => ("AccentModems$State", "there", "LAccentModems$Way;", true)
  | 1 => ("AccentModems$State", "back", "LAccentModems$Way;", true)
  | 2 => ("AccentModems$State", "settings", "[I", true)
  | 3 => ("AccentModems$State", "seed", "I", false)
  | _ => ("AccentModems$State", "beats", "I", false)
def tyX1 : Nat → FieldType := fun k => match k with
  | 0 => .object "AccentModems$Way"
  | 1 => .object "AccentModems$Way"
  | 2 => .array .int
  | 3 => .int
  | _ => .int
theorem nmX1 : ∀ a, a < 5 → ∀ b, b < 5 → a ≠ b → (TX1 a).2.1 ≠ (TX1 b).2.1 := by decide +kernel
theorem tyX1_ok : ∀ k, k < 5 → parseFieldDescriptor (TX1 k).2.2.1 = some (tyX1 k) := by decide +kernel
abbrev cX1_init : ByteArray := prog_3_method_1_code
def yX1_init : MethodName := ⟨RX1, "<init>", "()V"⟩
abbrev cX1_wayAt : ByteArray := prog_3_method_2_code
def yX1_wayAt : MethodName := ⟨RX1, "wayAt", "(I)LAccentModems$Way;"⟩
abbrev cX1_copyFrom : ByteArray := prog_3_method_3_code
def yX1_copyFrom : MethodName := ⟨RX1, "copyFrom", "(LAccentModems$State;)V"⟩
abbrev cX1_copyCommonFrom : ByteArray := prog_3_method_5_code
def yX1_copyCommonFrom : MethodName := ⟨RX1, "copyCommonFrom", "(LAccentModems$State;)V"⟩
abbrev cX1_draw : ByteArray := prog_3_method_6_code
def yX1_draw : MethodName := ⟨RX1, "draw", "(I)I"⟩
abbrev cX1_drawNoise : ByteArray := prog_3_method_7_code
def yX1_drawNoise : MethodName := ⟨RX1, "drawNoise", "(LAccentModems$Tone;)I"⟩
abbrev cX1_sendBeats : ByteArray := prog_3_method_8_code
def yX1_sendBeats : MethodName := ⟨RX1, "sendBeats", "(LAccentModems$Way;I)I"⟩
abbrev cX1_sendSign : ByteArray := prog_3_method_9_code
def yX1_sendSign : MethodName := ⟨RX1, "sendSign", "(LAccentModems$Way;LAccentModems$Tone;)I"⟩
abbrev cX1_takeLesson : ByteArray := prog_3_method_10_code
def yX1_takeLesson : MethodName := ⟨RX1, "takeLesson", "(LAccentModems$Way;ILAccentModems$Lesson;)V"⟩
abbrev cX1_learnBeat : ByteArray := prog_3_method_11_code
def yX1_learnBeat : MethodName := ⟨RX1, "learnBeat", "(LAccentModems$Way;LAccentModems$Lesson;)V"⟩
def RX2 : String := "AccentModems$Text"
def TX2 : u_T := fun k => match k with
  | 0 => ("AccentModems$Text", "characters", "[C", true)
  | _ => ("AccentModems$Text", "length", "I", false)
def tyX2 : Nat → FieldType := fun k => match k with
  | 0 => .array .char
  | _ => .int
theorem nmX2 : ∀ a, a < 2 → ∀ b, b < 2 → a ≠ b → (TX2 a).2.1 ≠ (TX2 b).2.1 := by decide +kernel
theorem tyX2_ok : ∀ k, k < 2 → parseFieldDescriptor (TX2 k).2.2.1 = some (tyX2 k) := by decide +kernel
abbrev cX2_init : ByteArray := prog_4_method_1_code
def yX2_init : MethodName := ⟨RX2, "<init>", "()V"⟩
abbrev cX2_next : ByteArray := prog_4_method_2_code
def yX2_next : MethodName := ⟨RX2, "next", "(IC)I"⟩
abbrev cX2_behindDigit : ByteArray := prog_4_method_3_code
def yX2_behindDigit : MethodName := ⟨RX2, "behindDigit", "(C)I"⟩
abbrev cX2_digitOf : ByteArray := prog_4_method_4_code
def yX2_digitOf : MethodName := ⟨RX2, "digitOf", "(C)I"⟩
abbrev cX2_errorPlace : ByteArray := prog_4_method_5_code
def yX2_errorPlace : MethodName := ⟨RX2, "errorPlace", "()I"⟩
abbrev cX2_isComplete : ByteArray := prog_4_method_6_code
def yX2_isComplete : MethodName := ⟨RX2, "isComplete", "()Z"⟩
abbrev cX2_bitsFor : ByteArray := prog_4_method_7_code
def yX2_bitsFor : MethodName := ⟨RX2, "bitsFor", "(I)I"⟩
abbrev cX2_putBits : ByteArray := prog_4_method_8_code
def yX2_putBits : MethodName := ⟨RX2, "putBits", "(LAccentModems$State;)V"⟩
def RX3 : String := "AccentModems$Tone"
def TX3 : u_T := fun k => match k with
  | 0 => ("AccentModems$Tone", "gain", "I", false)
  | 1 => ("AccentModems$Tone", "echo1", "I", false)
  | 2 => ("AccentModems$Tone", "echo2", "I", false)
  | 3 => ("AccentModems$Tone", "noise", "I", false)
  | 4 => ("AccentModems$Tone", "insult", "I", false)
  | 5 => ("AccentModems$Tone", "last", "I", false)
  | 6 => ("AccentModems$Tone", "before", "I", false)
  | 7 => ("AccentModems$Tone", "accentGain", "I", false)
  | 8 => ("AccentModems$Tone", "accentEcho1", "I", false)
  | 9 => ("AccentModems$Tone", "accentEcho2", "I", false)
  | 10 => ("AccentModems$Tone", "bits", "I", false)
  | 11 => ("AccentModems$Tone", "worst", "I", false)
  | 12 => ("AccentModems$Tone", "wrongsToShy", "I", false)
  | 13 => ("AccentModems$Tone", "shies", "I", false)
  | 14 => ("AccentModems$Tone", "signs", "I", false)
  | 15 => ("AccentModems$Tone", "wrongSigns", "I", false)
  | 16 => ("AccentModems$Tone", "taken", "I", false)
  | _ => ("AccentModems$Tone", "takenBefore", "I", false)
def tyX3 : Nat → FieldType := fun k => match k with
  | 0 => .int
  | 1 => .int
  | 2 => .int
  | 3 => .int
  | 4 => .int
  | 5 => .int
  | 6 => .int
  | 7 => .int
  | 8 => .int
  | 9 => .int
  | 10 => .int
  | 11 => .int
  | 12 => .int
  | 13 => .int
  | 14 => .int
  | 15 => .int
  | 16 => .int
  | _ => .int
theorem nmX3 : ∀ a, a < 18 → ∀ b, b < 18 → a ≠ b → (TX3 a).2.1 ≠ (TX3 b).2.1 := by decide +kernel
theorem tyX3_ok : ∀ k, k < 18 → parseFieldDescriptor (TX3 k).2.2.1 = some (tyX3 k) := by decide +kernel
abbrev cX3_init : ByteArray := prog_5_method_1_code
def yX3_init : MethodName := ⟨RX3, "<init>", "()V"⟩
abbrev cX3_copyFrom : ByteArray := prog_5_method_2_code
def yX3_copyFrom : MethodName := ⟨RX3, "copyFrom", "(LAccentModems$Tone;)V"⟩
abbrev cX3_streetNumber : ByteArray := prog_5_method_3_code
def yX3_streetNumber : MethodName := ⟨RX3, "streetNumber", "(I)I"⟩
abbrev cX3_setStreetNumber : ByteArray := prog_5_method_4_code
def yX3_setStreetNumber : MethodName := ⟨RX3, "setStreetNumber", "(II)V"⟩
abbrev cX3_accentNumber : ByteArray := prog_5_method_5_code
def yX3_accentNumber : MethodName := ⟨RX3, "accentNumber", "(I)I"⟩
abbrev cX3_amplitudeOf : ByteArray := prog_5_method_6_code
def yX3_amplitudeOf : MethodName := ⟨RX3, "amplitudeOf", "(I)I"⟩
abbrev cX3_arriving : ByteArray := prog_5_method_7_code
def yX3_arriving : MethodName := ⟨RX3, "arriving", "(II)I"⟩
abbrev cX3_expected : ByteArray := prog_5_method_8_code
def yX3_expected : MethodName := ⟨RX3, "expected", "(I)I"⟩
abbrev cX3_decide : ByteArray := prog_5_method_9_code
def yX3_decide : MethodName := ⟨RX3, "decide", "(I)I"⟩
abbrev cX3_pass : ByteArray := prog_5_method_10_code
def yX3_pass : MethodName := ⟨RX3, "pass", "(II)V"⟩
abbrev cX3_knowSignBefore : ByteArray := prog_5_method_11_code
def yX3_knowSignBefore : MethodName := ⟨RX3, "knowSignBefore", "()V"⟩
abbrev cX3_countSign : ByteArray := prog_5_method_12_code
def yX3_countSign : MethodName := ⟨RX3, "countSign", "(Z)V"⟩
abbrev cX3_becomeShyAt : ByteArray := prog_5_method_13_code
def yX3_becomeShyAt : MethodName := ⟨RX3, "becomeShyAt", "(I)V"⟩
abbrev cX3_improve : ByteArray := prog_5_method_14_code
def yX3_improve : MethodName := ⟨RX3, "improve", "(III)V"⟩
abbrev cX3_step : ByteArray := prog_5_method_15_code
def yX3_step : MethodName := ⟨RX3, "step", "(II)I"⟩
abbrev cX3_held : ByteArray := prog_5_method_16_code
def yX3_held : MethodName := ⟨RX3, "held", "(III)I"⟩
abbrev cX3_endLesson : ByteArray := prog_5_method_17_code
def yX3_endLesson : MethodName := ⟨RX3, "endLesson", "(II)V"⟩
abbrev cX3_bitsFor : ByteArray := prog_5_method_18_code
def yX3_bitsFor : MethodName := ⟨RX3, "bitsFor", "(II)I"⟩
abbrev cX3_roomWith : ByteArray := prog_5_method_19_code
def yX3_roomWith : MethodName := ⟨RX3, "roomWith", "(I)I"⟩
abbrev cX3_sureBits : ByteArray := prog_5_method_20_code
def yX3_sureBits : MethodName := ⟨RX3, "sureBits", "()I"⟩
abbrev cX3_misheardWith : ByteArray := prog_5_method_21_code
def yX3_misheardWith : MethodName := ⟨RX3, "misheardWith", "(I)I"⟩
abbrev cX3_loseAccent : ByteArray := prog_5_method_22_code
def yX3_loseAccent : MethodName := ⟨RX3, "loseAccent", "()V"⟩
def RX4 : String := "AccentModems$WaitingBits"
def TX4 : u_T := fun k => match k with
  | 0 => ("AccentModems$WaitingBits", "ring", "[I", true)
  | 1 => ("AccentModems$WaitingBits", "start", "I", false)
  | _ => ("AccentModems$WaitingBits", "size", "I", false)
def tyX4 : Nat → FieldType := fun k => match k with
  | 0 => .array .int
  | 1 => .int
  | _ => .int
theorem nmX4 : ∀ a, a < 3 → ∀ b, b < 3 → a ≠ b → (TX4 a).2.1 ≠ (TX4 b).2.1 := by decide +kernel
theorem tyX4_ok : ∀ k, k < 3 → parseFieldDescriptor (TX4 k).2.2.1 = some (tyX4 k) := by decide +kernel
abbrev cX4_init : ByteArray := prog_6_method_1_code
def yX4_init : MethodName := ⟨RX4, "<init>", "()V"⟩
abbrev cX4_copyFrom : ByteArray := prog_6_method_2_code
def yX4_copyFrom : MethodName := ⟨RX4, "copyFrom", "(LAccentModems$WaitingBits;)V"⟩
abbrev cX4_bitAt : ByteArray := prog_6_method_3_code
def yX4_bitAt : MethodName := ⟨RX4, "bitAt", "(I)I"⟩
abbrev cX4_put : ByteArray := prog_6_method_4_code
def yX4_put : MethodName := ⟨RX4, "put", "(I)V"⟩
abbrev cX4_putDigit : ByteArray := prog_6_method_5_code
def yX4_putDigit : MethodName := ⟨RX4, "putDigit", "(I)V"⟩
abbrev cX4_take : ByteArray := prog_6_method_6_code
def yX4_take : MethodName := ⟨RX4, "take", "(I)I"⟩
def RX5 : String := "AccentModems$Way"
def TX5 : u_T := fun k => match k with
  | 0 => ("AccentModems$Way", "tones", "[LAccentModems$Tone;", true)
  | 1 => ("AccentModems$Way", "waiting", "LAccentModems$WaitingBits;", true)
  | 2 => ("AccentModems$Way", "latest", "J", false)
  | 3 => ("AccentModems$Way", "came", "I", false)
  | _ => ("AccentModems$Way", "wrong", "I", false)
def tyX5 : Nat → FieldType := fun k => match k with
  | 0 => .array (.object "AccentModems$Tone")
  | 1 => .object "AccentModems$WaitingBits"
  | 2 => .long
  | 3 => .int
  | _ => .int
theorem nmX5 : ∀ a, a < 5 → ∀ b, b < 5 → a ≠ b → (TX5 a).2.1 ≠ (TX5 b).2.1 := by decide +kernel
theorem tyX5_ok : ∀ k, k < 5 → parseFieldDescriptor (TX5 k).2.2.1 = some (tyX5 k) := by decide +kernel
abbrev cX5_init : ByteArray := prog_7_method_1_code
def yX5_init : MethodName := ⟨RX5, "<init>", "()V"⟩
abbrev cX5_copyFrom : ByteArray := prog_7_method_2_code
def yX5_copyFrom : MethodName := ⟨RX5, "copyFrom", "(LAccentModems$Way;)V"⟩
abbrev cX5_receive : ByteArray := prog_7_method_3_code
def yX5_receive : MethodName := ⟨RX5, "receive", "(III)V"⟩
abbrev cX5_bits : ByteArray := prog_7_method_4_code
def yX5_bits : MethodName := ⟨RX5, "bits", "()I"⟩
abbrev cX5_shies : ByteArray := prog_7_method_5_code
def yX5_shies : MethodName := ⟨RX5, "shies", "()I"⟩
abbrev cX5_insulted : ByteArray := prog_7_method_6_code
def yX5_insulted : MethodName := ⟨RX5, "insulted", "()I"⟩
def RX6 : String := "AccentModems"
def TX6 : u_T := fun k => match k with
  | 0 => ("AccentModems", "now", "LAccentModems$State;", true)
  | 1 => ("AccentModems", "trial", "LAccentModems$State;", true)
  | 2 => ("AccentModems", "saved", "[LAccentModems$State;", true)
  | 3 => ("AccentModems", "lesson", "LAccentModems$Lesson;", true)
  | 4 => ("AccentModems", "text", "LAccentModems$Text;", true)
  | _ => ("AccentModems", "savedCount", "I", false)
def tyX6 : Nat → FieldType := fun k => match k with
  | 0 => .object "AccentModems$State"
  | 1 => .object "AccentModems$State"
  | 2 => .array (.object "AccentModems$State")
  | 3 => .object "AccentModems$Lesson"
  | 4 => .object "AccentModems$Text"
  | _ => .int
theorem nmX6 : ∀ a, a < 6 → ∀ b, b < 6 → a ≠ b → (TX6 a).2.1 ≠ (TX6 b).2.1 := by decide +kernel
theorem tyX6_ok : ∀ k, k < 6 → parseFieldDescriptor (TX6 k).2.2.1 = some (tyX6 k) := by decide +kernel
abbrev cX6_init : ByteArray := prog_1_method_1_code
def yX6_init : MethodName := ⟨RX6, "<init>", "()V"⟩
abbrev cX6_build : ByteArray := prog_1_method_2_code
def yX6_build : MethodName := ⟨RX6, "build", "(IIII)I"⟩
abbrev cX6_carry : ByteArray := prog_1_method_3_code
def yX6_carry : MethodName := ⟨RX6, "carry", "(III)I"⟩
abbrev cX6_insult : ByteArray := prog_1_method_4_code
def yX6_insult : MethodName := ⟨RX6, "insult", "(III)I"⟩
abbrev cX6_set : ByteArray := prog_1_method_5_code
def yX6_set : MethodName := ⟨RX6, "set", "(II)I"⟩
abbrev cX6_learn : ByteArray := prog_1_method_6_code
def yX6_learn : MethodName := ⟨RX6, "learn", "(II)I"⟩
abbrev cX6_send : ByteArray := prog_1_method_7_code
def yX6_send : MethodName := ⟨RX6, "send", "(II)I"⟩
abbrev cX6_forget : ByteArray := prog_1_method_8_code
def yX6_forget : MethodName := ⟨RX6, "forget", "(I)I"⟩
abbrev cX6_append : ByteArray := prog_1_method_9_code
def yX6_append : MethodName := ⟨RX6, "append", "(I)I"⟩
abbrev cX6_clearBuffer : ByteArray := prog_1_method_10_code
def yX6_clearBuffer : MethodName := ⟨RX6, "clearBuffer", "()I"⟩
abbrev cX6_firstError : ByteArray := prog_1_method_11_code
def yX6_firstError : MethodName := ⟨RX6, "firstError", "()I"⟩
abbrev cX6_say : ByteArray := prog_1_method_12_code
def yX6_say : MethodName := ⟨RX6, "say", "()I"⟩
abbrev cX6_street : ByteArray := prog_1_method_14_code
def yX6_street : MethodName := ⟨RX6, "street", "(III)I"⟩
abbrev cX6_accent : ByteArray := prog_1_method_15_code
def yX6_accent : MethodName := ⟨RX6, "accent", "(III)I"⟩
abbrev cX6_waits : ByteArray := prog_1_method_16_code
def yX6_waits : MethodName := ⟨RX6, "waits", "(II)I"⟩
abbrev cX6_had : ByteArray := prog_1_method_17_code
def yX6_had : MethodName := ⟨RX6, "had", "(I)J"⟩
abbrev cX6_count : ByteArray := prog_1_method_18_code
def yX6_count : MethodName := ⟨RX6, "count", "(I)I"⟩
abbrev cX6_setting : ByteArray := prog_1_method_19_code
def yX6_setting : MethodName := ⟨RX6, "setting", "(I)I"⟩
abbrev cX6_sure : ByteArray := prog_1_method_20_code
def yX6_sure : MethodName := ⟨RX6, "sure", "(II)I"⟩
abbrev cX6_rightShare : ByteArray := prog_1_method_26_code
def yX6_rightShare : MethodName := ⟨RX6, "rightShare", "(I)D"⟩
abbrev cX6_wayOf : ByteArray := prog_1_method_31_code
def yX6_wayOf : MethodName := ⟨RX6, "wayOf", "(I)LAccentModems$Way;"⟩
abbrev cX6_toneOf : ByteArray := prog_1_method_32_code
def yX6_toneOf : MethodName := ⟨RX6, "toneOf", "(II)LAccentModems$Tone;"⟩
abbrev cX6_checkStreetNumber : ByteArray := prog_1_method_33_code
def yX6_checkStreetNumber : MethodName := ⟨RX6, "checkStreetNumber", "(II)V"⟩
abbrev cX6_checkSetting : ByteArray := prog_1_method_34_code
def yX6_checkSetting : MethodName := ⟨RX6, "checkSetting", "(I)V"⟩
abbrev cX6_checkBeats : ByteArray := prog_1_method_35_code
def yX6_checkBeats : MethodName := ⟨RX6, "checkBeats", "(I)V"⟩
abbrev cX6_checkBeatsLeft : ByteArray := prog_1_method_36_code
def yX6_checkBeatsLeft : MethodName := ⟨RX6, "checkBeatsLeft", "(I)V"⟩
abbrev cX6_save : ByteArray := prog_1_method_37_code
def yX6_save : MethodName := ⟨RX6, "save", "()V"⟩
abbrev cX6_dropOldest : ByteArray := prog_1_method_38_code
def yX6_dropOldest : MethodName := ⟨RX6, "dropOldest", "()V"⟩
def RX7 : String := "AccentModemsModel"
def TX7 : u_T := fun k => match k with
  | _ => ("", "", "", false)
def tyX7 : Nat → FieldType := fun k => match k with
  | _ => .int
theorem nmX7 : ∀ a, a < 0 → ∀ b, b < 0 → a ≠ b → (TX7 a).2.1 ≠ (TX7 b).2.1 := by decide +kernel
theorem tyX7_ok : ∀ k, k < 0 → parseFieldDescriptor (TX7 k).2.2.1 = some (tyX7 k) := by decide +kernel
def RJ6 : String := "java/lang/Integer"
def TJ6 : u_T := fun k => match k with
  | _ => ("", "", "", false)
def tyJ6 : Nat → FieldType := fun k => match k with
  | _ => .int
theorem nmJ6 : ∀ a, a < 0 → ∀ b, b < 0 → a ≠ b → (TJ6 a).2.1 ≠ (TJ6 b).2.1 := by decide +kernel
theorem tyJ6_ok : ∀ k, k < 0 → parseFieldDescriptor (TJ6 k).2.2.1 = some (tyJ6 k) := by decide +kernel
abbrev cJ6_bitCount_0f7a4 : ByteArray := prog_14_method_49_code
def yJ6_bitCount_0f7a4 : MethodName := ⟨RJ6, "bitCount", "(I)I"⟩
def RJ9 : String := "java/lang/Math"
def TJ9 : u_T := fun k => match k with
  | _ => ("", "", "", false)
def tyJ9 : Nat → FieldType := fun k => match k with
  | _ => .int
theorem nmJ9 : ∀ a, a < 0 → ∀ b, b < 0 → a ≠ b → (TJ9 a).2.1 ≠ (TJ9 b).2.1 := by decide +kernel
theorem tyJ9_ok : ∀ k, k < 0 → parseFieldDescriptor (TJ9 k).2.2.1 = some (tyJ9 k) := by decide +kernel
abbrev cJ9_floorMod_7cf53 : ByteArray := prog_15_method_50_code
def yJ9_floorMod_7cf53 : MethodName := ⟨RJ9, "floorMod", "(II)I"⟩
abbrev cJ9_abs_0f7a4 : ByteArray := prog_15_method_59_code
def yJ9_abs_0f7a4 : MethodName := ⟨RJ9, "abs", "(I)I"⟩
abbrev cJ9_max_7cf53 : ByteArray := prog_15_method_65_code
def yJ9_max_7cf53 : MethodName := ⟨RJ9, "max", "(II)I"⟩
abbrev cJ9_min_7cf53 : ByteArray := prog_15_method_69_code
def yJ9_min_7cf53 : MethodName := ⟨RJ9, "min", "(II)I"⟩
def RJ0 : String := "java/lang/String"
def TJ0 : u_T := fun k => match k with
  | _ => ("", "", "", false)
def tyJ0 : Nat → FieldType := fun k => match k with
  | _ => .int
theorem nmJ0 : ∀ a, a < 0 → ∀ b, b < 0 → a ≠ b → (TJ0 a).2.1 ≠ (TJ0 b).2.1 := by decide +kernel
theorem tyJ0_ok : ∀ k, k < 0 → parseFieldDescriptor (TJ0 k).2.2.1 = some (tyJ0 k) := by decide +kernel
def RJ10 : String := "java/lang/System"
def TJ10 : u_T := fun k => match k with
  | _ => ("", "", "", false)
def tyJ10 : Nat → FieldType := fun k => match k with
  | _ => .int
theorem nmJ10 : ∀ a, a < 0 → ∀ b, b < 0 → a ≠ b → (TJ10 a).2.1 ≠ (TJ10 b).2.1 := by decide +kernel
theorem tyJ10_ok : ∀ k, k < 0 → parseFieldDescriptor (TJ10 k).2.2.1 = some (tyJ10 k) := by decide +kernel
def RL : String := "AccentModemsLaw"
abbrev cL_cell : ByteArray := method_2_code
def yL_cell : MethodName := ⟨RL, "cell", "([II)I"⟩
abbrev cL_at : ByteArray := method_3_code
def yL_at : MethodName := ⟨RL, "at", "(II)I"⟩
abbrev cL_draw : ByteArray := method_4_code
def yL_draw : MethodName := ⟨RL, "draw", "(I[I)I"⟩
abbrev cL_amp : ByteArray := method_5_code
def yL_amp : MethodName := ⟨RL, "amp", "(II)I"⟩
abbrev cL_come : ByteArray := method_6_code
def yL_come : MethodName := ⟨RL, "come", "(II[I[I[I)I"⟩
abbrev cL_size : ByteArray := method_7_code
def yL_size : MethodName := ⟨RL, "size", "(I)I"⟩
abbrev cL_held : ByteArray := method_8_code
def yL_held : MethodName := ⟨RL, "held", "(III)I"⟩
abbrev cL_lesson : ByteArray := method_9_code
def yL_lesson : MethodName := ⟨RL, "lesson", "(II[I[I[I[I[I[I[I)V"⟩
abbrev cL_learn : ByteArray := method_10_code
def yL_learn : MethodName := ⟨RL, "learn", "(II[I[I[I[I[I[I[I[I)I"⟩
abbrev cL_next : ByteArray := method_11_code
def yL_next : MethodName := ⟨RL, "next", "(I[I[I)I"⟩
abbrev cL_taken : ByteArray := method_12_code
def yL_taken : MethodName := ⟨RL, "taken", "(II[I[I)I"⟩
abbrev cL_sign : ByteArray := method_13_code
def yL_sign : MethodName := ⟨RL, "sign", "(I[I[I[I[I[I[I[I[J)I"⟩
abbrev cL_send : ByteArray := method_14_code
def yL_send : MethodName := ⟨RL, "send", "(II[I[I[I[I[I[I[I[I[J)I"⟩
abbrev cL_sure : ByteArray := method_15_code
def yL_sure : MethodName := ⟨RL, "sure", "(I[I[I)I"⟩
abbrev cL_lines : ByteArray := method_16_code
def yL_lines : MethodName := ⟨RL, "lines", "(LAccentModems;[I[I[I[I[I)Z"⟩
abbrev cL_carried : ByteArray := method_17_code
def yL_carried : MethodName := ⟨RL, "carried", "(I[I)I"⟩
abbrev cL_told : ByteArray := method_18_code
def yL_told : MethodName := ⟨RL, "told", "(LAccentModems;[I[I[I[I[I[I[I[I[J)Z"⟩
abbrev cL_say : ByteArray := method_19_code
def yL_say : MethodName := ⟨RL, "say", "(LAccentModems;II[I[I)Z"⟩
abbrev cL_street : ByteArray := method_20_code
def yL_street : MethodName := ⟨RL, "street", "(LAccentModems;II[I)Z"⟩
abbrev cL_insult : ByteArray := method_21_code
def yL_insult : MethodName := ⟨RL, "insult", "(LAccentModems;II[I)Z"⟩
abbrev cL_forget : ByteArray := method_22_code
def yL_forget : MethodName := ⟨RL, "forget", "(LAccentModems;I[I[I[I)Z"⟩
abbrev cL_set : ByteArray := method_23_code
def yL_set : MethodName := ⟨RL, "set", "(LAccentModems;II[I)Z"⟩
abbrev cL_carry : ByteArray := method_24_code
def yL_carry : MethodName := ⟨RL, "carry", "(LAccentModems;II[I)Z"⟩
abbrev cL_act : ByteArray := method_25_code
def yL_act : MethodName := ⟨RL, "act", "(LAccentModems;III[I[I[I[I[I[I[I[I[I[J)Z"⟩
abbrev cL_law : ByteArray := code
def yL_law : MethodName := ⟨RL, "law", "([I)Z"⟩
abbrev MI : Type := MethodName × ByteArray × Nat × Option FieldType × List (Nat × Nat × Nat × Nat) × Nat
abbrev mnm (Y : MI) : MethodName := Y.1
abbrev mcd (Y : MI) : ByteArray := Y.2.1
abbrev mml (Y : MI) : Nat := Y.2.2.1
abbrev mrt (Y : MI) : Option FieldType := Y.2.2.2.1
abbrev mhh (Y : MI) : List (Nat × Nat × Nat × Nat) := Y.2.2.2.2.1
abbrev mdp (Y : MI) : Nat := Y.2.2.2.2.2
abbrev gCl : List vw_C := [(RX0, TX0, 2), (RX1, TX1, 5), (RX2, TX2, 2), (RX3, TX3, 18), (RX4, TX4, 3), (RX5, TX5, 5), (RX6, TX6, 6)]
/-- a listing of a method: program counter, instruction, length -/
abbrev LI : Type := List (Nat × Instr × Nat)
def Lst (Y : MI) (L : LI) : Prop := ∀ q ∈ L, decode (mcd Y) q.1 = .ok q.2
/-- a word of the tables that goes to every callee -/
def gw (w : Cond) : Prop := w ∈ lw_tbl ∧ goodWord w = true
-- methods
def YX0_init : MI := (yX0_init, cX0_init, 1, none, [], 1)
def YX0_begin : MI := (yX0_begin, cX0_begin, 2, none, [], 0)
def YX0_note : MI := (yX0_note, cX0_note, 4, none, [], 1)
def YX0_worstOf : MI := (yX0_worstOf, cX0_worstOf, 5, (some .int), [], 1)
def YX1_init : MI := (yX1_init, cX1_init, 1, none, [], 3)
def YX1_wayAt : MI := (yX1_wayAt, cX1_wayAt, 2, (some (.object "AccentModems$Way")), [], 0)
def YX1_copyFrom : MI := (yX1_copyFrom, cX1_copyFrom, 2, none, [], 3)
def YX1_copyCommonFrom : MI := (yX1_copyCommonFrom, cX1_copyCommonFrom, 2, none, [], 1)
def YX1_draw : MI := (yX1_draw, cX1_draw, 2, (some .int), [], 0)
def YX1_drawNoise : MI := (yX1_drawNoise, cX1_drawNoise, 2, (some .int), [], 1)
def YX1_sendBeats : MI := (yX1_sendBeats, cX1_sendBeats, 6, (some .int), [], 3)
def YX1_sendSign : MI := (yX1_sendSign, cX1_sendSign, 7, (some .int), [], 2)
def YX1_takeLesson : MI := (yX1_takeLesson, cX1_takeLesson, 5, none, [], 3)
def YX1_learnBeat : MI := (yX1_learnBeat, cX1_learnBeat, 7, none, [], 2)
def YX2_init : MI := (yX2_init, cX2_init, 1, none, [], 1)
def YX2_next : MI := (yX2_next, cX2_next, 2, (some .int), [], 2)
def YX2_behindDigit : MI := (yX2_behindDigit, cX2_behindDigit, 1, (some .int), [], 1)
def YX2_digitOf : MI := (yX2_digitOf, cX2_digitOf, 1, (some .int), [], 0)
def YX2_errorPlace : MI := (yX2_errorPlace, cX2_errorPlace, 3, (some .int), [], 3)
def YX2_isComplete : MI := (yX2_isComplete, cX2_isComplete, 3, (some .boolean), [], 3)
def YX2_bitsFor : MI := (yX2_bitsFor, cX2_bitsFor, 7, (some .int), [], 3)
def YX2_putBits : MI := (yX2_putBits, cX2_putBits, 6, none, [], 3)
def YX3_init : MI := (yX3_init, cX3_init, 1, none, [], 1)
def YX3_copyFrom : MI := (yX3_copyFrom, cX3_copyFrom, 2, none, [], 0)
def YX3_streetNumber : MI := (yX3_streetNumber, cX3_streetNumber, 2, (some .int), [], 0)
def YX3_setStreetNumber : MI := (yX3_setStreetNumber, cX3_setStreetNumber, 3, none, [], 0)
def YX3_accentNumber : MI := (yX3_accentNumber, cX3_accentNumber, 2, (some .int), [], 0)
def YX3_amplitudeOf : MI := (yX3_amplitudeOf, cX3_amplitudeOf, 2, (some .int), [], 0)
def YX3_arriving : MI := (yX3_arriving, cX3_arriving, 3, (some .int), [], 0)
def YX3_expected : MI := (yX3_expected, cX3_expected, 2, (some .int), [], 0)
def YX3_decide : MI := (yX3_decide, cX3_decide, 5, (some .int), [], 1)
def YX3_pass : MI := (yX3_pass, cX3_pass, 3, none, [], 0)
def YX3_knowSignBefore : MI := (yX3_knowSignBefore, cX3_knowSignBefore, 1, none, [], 0)
def YX3_countSign : MI := (yX3_countSign, cX3_countSign, 2, none, [], 0)
def YX3_becomeShyAt : MI := (yX3_becomeShyAt, cX3_becomeShyAt, 2, none, [], 0)
def YX3_improve : MI := (yX3_improve, cX3_improve, 4, none, [], 1)
def YX3_step : MI := (yX3_step, cX3_step, 2, (some .int), [], 0)
def YX3_held : MI := (yX3_held, cX3_held, 3, (some .int), [], 0)
def YX3_endLesson : MI := (yX3_endLesson, cX3_endLesson, 3, none, [], 2)
def YX3_bitsFor : MI := (yX3_bitsFor, cX3_bitsFor, 5, (some .int), [], 1)
def YX3_roomWith : MI := (yX3_roomWith, cX3_roomWith, 2, (some .int), [], 0)
def YX3_sureBits : MI := (yX3_sureBits, cX3_sureBits, 2, (some .int), [], 2)
def YX3_misheardWith : MI := (yX3_misheardWith, cX3_misheardWith, 4, (some .int), [], 1)
def YX3_loseAccent : MI := (yX3_loseAccent, cX3_loseAccent, 1, none, [], 0)
def YX4_init : MI := (yX4_init, cX4_init, 1, none, [], 1)
def YX4_copyFrom : MI := (yX4_copyFrom, cX4_copyFrom, 2, none, [], 1)
def YX4_bitAt : MI := (yX4_bitAt, cX4_bitAt, 2, (some .int), [], 0)
def YX4_put : MI := (yX4_put, cX4_put, 2, none, [], 0)
def YX4_putDigit : MI := (yX4_putDigit, cX4_putDigit, 3, none, [], 1)
def YX4_take : MI := (yX4_take, cX4_take, 4, (some .int), [], 1)
def YX5_init : MI := (yX5_init, cX5_init, 2, none, [], 2)
def YX5_copyFrom : MI := (yX5_copyFrom, cX5_copyFrom, 3, none, [], 2)
def YX5_receive : MI := (yX5_receive, cX5_receive, 4, none, [], 0)
def YX5_bits : MI := (yX5_bits, cX5_bits, 3, (some .int), [], 0)
def YX5_shies : MI := (yX5_shies, cX5_shies, 3, (some .int), [], 0)
def YX5_insulted : MI := (yX5_insulted, cX5_insulted, 3, (some .int), [], 0)
def YX6_init : MI := (yX6_init, cX6_init, 2, none, [], 4)
def YX6_build : MI := (yX6_build, cX6_build, 7, (some .int), [], 8)
def YX6_carry : MI := (yX6_carry, cX6_carry, 6, (some .int), [], 8)
def YX6_insult : MI := (yX6_insult, cX6_insult, 6, (some .int), [], 8)
def YX6_set : MI := (yX6_set, cX6_set, 4, (some .int), [], 7)
def YX6_learn : MI := (yX6_learn, cX6_learn, 4, (some .int), [], 7)
def YX6_send : MI := (yX6_send, cX6_send, 4, (some .int), [], 7)
def YX6_forget : MI := (yX6_forget, cX6_forget, 5, (some .int), [], 7)
def YX6_append : MI := (yX6_append, cX6_append, 2, (some .int), [], 6)
def YX6_clearBuffer : MI := (yX6_clearBuffer, cX6_clearBuffer, 2, (some .int), [], 0)
def YX6_firstError : MI := (yX6_firstError, cX6_firstError, 1, (some .int), [], 4)
def YX6_say : MI := (yX6_say, cX6_say, 3, (some .int), [], 6)
def YX6_street : MI := (yX6_street, cX6_street, 5, (some .int), [], 8)
def YX6_accent : MI := (yX6_accent, cX6_accent, 5, (some .int), [], 8)
def YX6_waits : MI := (yX6_waits, cX6_waits, 4, (some .int), [], 7)
def YX6_had : MI := (yX6_had, cX6_had, 2, (some .long), [], 7)
def YX6_count : MI := (yX6_count, cX6_count, 2, (some .int), [], 6)
def YX6_setting : MI := (yX6_setting, cX6_setting, 2, (some .int), [], 7)
def YX6_sure : MI := (yX6_sure, cX6_sure, 3, (some .int), [], 8)
def YX6_rightShare : MI := (yX6_rightShare, cX6_rightShare, 3, (some .double), [], 7)
def YX6_wayOf : MI := (yX6_wayOf, cX6_wayOf, 2, (some (.object "AccentModems$Way")), [], 6)
def YX6_toneOf : MI := (yX6_toneOf, cX6_toneOf, 4, (some (.object "AccentModems$Tone")), [], 7)
def YX6_checkStreetNumber : MI := (yX6_checkStreetNumber, cX6_checkStreetNumber, 2, none, [], 6)
def YX6_checkSetting : MI := (yX6_checkSetting, cX6_checkSetting, 1, none, [], 6)
def YX6_checkBeats : MI := (yX6_checkBeats, cX6_checkBeats, 1, none, [], 6)
def YX6_checkBeatsLeft : MI := (yX6_checkBeatsLeft, cX6_checkBeatsLeft, 2, none, [], 6)
def YX6_save : MI := (yX6_save, cX6_save, 1, none, [], 4)
def YX6_dropOldest : MI := (yX6_dropOldest, cX6_dropOldest, 3, none, [], 0)
def YJ6_bitCount_0f7a4 : MI := (yJ6_bitCount_0f7a4, cJ6_bitCount_0f7a4, 1, (some .int), [], 0)
def YJ9_floorMod_7cf53 : MI := (yJ9_floorMod_7cf53, cJ9_floorMod_7cf53, 3, (some .int), [], 0)
def YL_cell : MI := (yL_cell, cL_cell, 2, (some .int), [], 0)
def YL_at : MI := (yL_at, cL_at, 2, (some .int), [], 0)
def YL_draw : MI := (yL_draw, cL_draw, 2, (some .int), [], 0)
def YL_amp : MI := (yL_amp, cL_amp, 2, (some .int), [], 0)
def YL_come : MI := (yL_come, cL_come, 8, (some .int), [], 1)
def YL_size : MI := (yL_size, cL_size, 1, (some .int), [], 0)
def YL_held : MI := (yL_held, cL_held, 3, (some .int), [], 0)
def YL_lesson : MI := (yL_lesson, cL_lesson, 16, none, [], 2)
def YL_learn : MI := (yL_learn, cL_learn, 16, (some .int), [], 3)
def YL_next : MI := (yL_next, cL_next, 5, (some .int), [], 0)
def YL_taken : MI := (yL_taken, cL_taken, 8, (some .int), [], 1)
def YL_sign : MI := (yL_sign, cL_sign, 16, (some .int), [], 2)
def YL_send : MI := (yL_send, cL_send, 15, (some .int), [], 3)
def YL_sure : MI := (yL_sure, cL_sure, 8, (some .int), [], 1)
def YL_lines : MI := (yL_lines, cL_lines, 10, (some .boolean), [], 9)
def YL_carried : MI := (yL_carried, cL_carried, 4, (some .int), [], 0)
def YL_told : MI := (yL_told, cL_told, 14, (some .boolean), [], 10)
def YL_say : MI := (yL_say, cL_say, 11, (some .boolean), [], 7)
def YL_street : MI := (yL_street, cL_street, 8, (some .boolean), [], 9)
def YL_insult : MI := (yL_insult, cL_insult, 6, (some .boolean), [], 9)
def YL_forget : MI := (yL_forget, cL_forget, 8, (some .boolean), [], 8)
def YL_set : MI := (yL_set, cL_set, 7, (some .boolean), [], 8)
def YL_carry : MI := (yL_carry, cL_carry, 6, (some .boolean), [], 9)
def YL_act : MI := (yL_act, cL_act, 15, (some .boolean), [], 10)
def YL_law : MI := (x, code, maxLocals, ret, [], 11)
def LX0_init : LI := [(0, .aload_n 0, 1), (1, .invokespecial 3, 3), (4, .aload_n 0, 1), (5, .bipush 64, 2), (7, .newarray .int, 2), (9, .putfield 9, 3), (12, .return_, 1)]
set_option maxRecDepth 20000 in
theorem DX0_init : Lst YX0_init LX0_init := by unfold Lst; decide +kernel
def LX0_begin : LI := [(0, .aload_n 0, 1), (1, .iconst 0, 1), (2, .putfield 15, 3), (5, .iconst 0, 1), (6, .istore_n 1, 1), (7, .iload_n 1, 1), (8, .bipush 64, 2), (10, .if_icmp .ge 16, 3), (13, .aload_n 0, 1), (14, .getfield 9, 3), (17, .iload_n 1, 1), (18, .iconst 0, 1), (19, .iastore, 1), (20, .iinc 1 1, 3), (23, .goto (-16), 3), (26, .return_, 1)]
set_option maxRecDepth 20000 in
theorem DX0_begin : Lst YX0_begin LX0_begin := by unfold Lst; decide +kernel
def LX0_note : LI := [(0, .iload_n 1, 1), (1, .bipush 8, 2), (3, .imul, 1), (4, .aload_n 0, 1), (5, .getfield 15, 3), (8, .bipush 8, 2), (10, .invokestatic 19, 3), (13, .iadd, 1), (14, .istore_n 3, 1), (15, .iload_n 3, 1), (16, .ifCond .lt 19, 3), (19, .iload_n 3, 1), (20, .bipush 64, 2), (22, .if_icmp .ge 13, 3), (25, .aload_n 0, 1), (26, .getfield 9, 3), (29, .iload_n 3, 1), (30, .iload_n 2, 1), (31, .invokestatic 25, 3), (34, .iastore, 1), (35, .return_, 1)]
set_option maxRecDepth 20000 in
theorem DX0_note : Lst YX0_note LX0_note := by unfold Lst; decide +kernel
def LX0_worstOf : LI := [(0, .iconst 0, 1), (1, .istore_n 2, 1), (2, .iconst 0, 1), (3, .istore_n 3, 1), (4, .iload_n 3, 1), (5, .bipush 8, 2), (7, .if_icmp .ge 41, 3), (10, .iload_n 1, 1), (11, .bipush 8, 2), (13, .imul, 1), (14, .iload_n 3, 1), (15, .iadd, 1), (16, .istore 4, 2), (18, .iload 4, 2), (20, .ifCond .lt 22, 3), (23, .iload 4, 2), (25, .bipush 64, 2), (27, .if_icmp .ge 15, 3), (30, .iload_n 2, 1), (31, .aload_n 0, 1), (32, .getfield 9, 3), (35, .iload 4, 2), (37, .iaload, 1), (38, .invokestatic 29, 3), (41, .istore_n 2, 1), (42, .iinc 3 1, 3), (45, .goto (-41), 3), (48, .iload_n 2, 1), (49, .ireturn, 1)]
set_option maxRecDepth 20000 in
theorem DX0_worstOf : Lst YX0_worstOf LX0_worstOf := by unfold Lst; decide +kernel
def LX1_init : LI := [(0, .aload_n 0, 1), (1, .invokespecial 3, 3), (4, .aload_n 0, 1), (5, .new 9, 3), (8, .dup, 1), (9, .invokespecial 11, 3), (12, .putfield 12, 3), (15, .aload_n 0, 1), (16, .new 9, 3), (19, .dup, 1), (20, .invokespecial 11, 3), (23, .putfield 18, 3), (26, .aload_n 0, 1), (27, .iconst 3, 1), (28, .newarray .int, 2), (30, .dup, 1), (31, .iconst 0, 1), (32, .bipush 8, 2), (34, .iastore, 1), (35, .dup, 1), (36, .iconst 1, 1), (37, .bipush 8, 2), (39, .iastore, 1), (40, .dup, 1), (41, .iconst 2, 1), (42, .iconst 3, 1), (43, .iastore, 1), (44, .putfield 21, 3), (47, .aload_n 0, 1), (48, .iconst 1, 1), (49, .putfield 25, 3), (52, .return_, 1)]
set_option maxRecDepth 20000 in
theorem DX1_init : Lst YX1_init LX1_init := by unfold Lst; decide +kernel
def LX1_wayAt : LI := [(0, .iload_n 1, 1), (1, .ifCond .ne 10, 3), (4, .aload_n 0, 1), (5, .getfield 12, 3), (8, .goto 7, 3), (11, .aload_n 0, 1), (12, .getfield 18, 3), (15, .areturn, 1)]
set_option maxRecDepth 20000 in
theorem DX1_wayAt : Lst YX1_wayAt LX1_wayAt := by unfold Lst; decide +kernel
def LX1_copyFrom : LI := [(0, .aload_n 0, 1), (1, .getfield 12, 3), (4, .aload_n 1, 1), (5, .getfield 12, 3), (8, .invokevirtual 29, 3), (11, .aload_n 0, 1), (12, .getfield 18, 3), (15, .aload_n 1, 1), (16, .getfield 18, 3), (19, .invokevirtual 29, 3), (22, .aload_n 0, 1), (23, .aload_n 1, 1), (24, .invokevirtual 33, 3), (27, .return_, 1)]
set_option maxRecDepth 20000 in
theorem DX1_copyFrom : Lst YX1_copyFrom LX1_copyFrom := by unfold Lst; decide +kernel
def LX1_copyCommonFrom : LI := [(0, .aload_n 1, 1), (1, .getfield 21, 3), (4, .iconst 0, 1), (5, .aload_n 0, 1), (6, .getfield 21, 3), (9, .iconst 0, 1), (10, .iconst 3, 1), (11, .invokestatic 41, 3), (14, .aload_n 0, 1), (15, .aload_n 1, 1), (16, .getfield 25, 3), (19, .putfield 25, 3), (22, .aload_n 0, 1), (23, .aload_n 1, 1), (24, .getfield 47, 3), (27, .putfield 47, 3), (30, .return_, 1)]
set_option maxRecDepth 20000 in
theorem DX1_copyCommonFrom : Lst YX1_copyCommonFrom LX1_copyCommonFrom := by unfold Lst; decide +kernel
def LX1_draw : LI := [(0, .aload_n 0, 1), (1, .ldc2_w 50, 3), (4, .aload_n 0, 1), (5, .getfield 25, 3), (8, .i2l, 1), (9, .lmul, 1), (10, .ldc2_w 52, 3), (13, .ladd, 1), (14, .ldc2_w 54, 3), (17, .lrem, 1), (18, .l2i, 1), (19, .putfield 25, 3), (22, .iload_n 1, 1), (23, .ifCond .le 15, 3), (26, .aload_n 0, 1), (27, .getfield 25, 3), (30, .ldc 56, 2), (32, .idiv, 1), (33, .iload_n 1, 1), (34, .irem, 1), (35, .goto 4, 3), (38, .iconst 0, 1), (39, .ireturn, 1)]
set_option maxRecDepth 20000 in
theorem DX1_draw : Lst YX1_draw LX1_draw := by unfold Lst; decide +kernel
def LX1_drawNoise : LI := [(0, .aload_n 0, 1), (1, .iconst 2, 1), (2, .aload_n 1, 1), (3, .getfield 57, 3), (6, .imul, 1), (7, .iconst 1, 1), (8, .iadd, 1), (9, .invokevirtual 62, 3), (12, .aload_n 1, 1), (13, .getfield 57, 3), (16, .isub, 1), (17, .ireturn, 1)]
set_option maxRecDepth 20000 in
theorem DX1_drawNoise : Lst YX1_drawNoise LX1_drawNoise := by unfold Lst; decide +kernel
def LX1_sendBeats : LI := [(0, .iconst 0, 1), (1, .istore_n 3, 1), (2, .iconst 0, 1), (3, .istore 4, 2), (5, .iload 4, 2), (7, .iload_n 2, 1), (8, .if_icmp .ge 82, 3), (11, .iconst 0, 1), (12, .istore 5, 2), (14, .iload 5, 2), (16, .bipush 8, 2), (18, .if_icmp .ge 24, 3), (21, .iload_n 3, 1), (22, .aload_n 0, 1), (23, .aload_n 1, 1), (24, .aload_n 1, 1), (25, .getfield 66, 3), (28, .iload 5, 2), (30, .aaload, 1), (31, .invokevirtual 70, 3), (34, .iadd, 1), (35, .istore_n 3, 1), (36, .iinc 5 1, 3), (39, .goto (-25), 3), (42, .iconst 0, 1), (43, .istore 5, 2), (45, .iload 5, 2), (47, .bipush 8, 2), (49, .if_icmp .ge 25, 3), (52, .aload_n 1, 1), (53, .getfield 66, 3), (56, .iload 5, 2), (58, .aaload, 1), (59, .aload_n 0, 1), (60, .getfield 21, 3), (63, .iconst 2, 1), (64, .iaload, 1), (65, .invokevirtual 74, 3), (68, .iinc 5 1, 3), (71, .goto (-26), 3), (74, .aload_n 0, 1), (75, .dup, 1), (76, .getfield 47, 3), (79, .iconst 1, 1), (80, .iadd, 1), (81, .putfield 47, 3), (84, .iinc 4 1, 3), (87, .goto (-82), 3), (90, .iload_n 3, 1), (91, .ireturn, 1)]
set_option maxRecDepth 20000 in
theorem DX1_sendBeats : Lst YX1_sendBeats LX1_sendBeats := by unfold Lst; decide +kernel
def LX1_sendSign : LI := [(0, .aload_n 1, 1), (1, .getfield 78, 3), (4, .aload_n 2, 1), (5, .getfield 82, 3), (8, .invokevirtual 85, 3), (11, .istore_n 3, 1), (12, .aload_n 2, 1), (13, .iload_n 3, 1), (14, .invokevirtual 90, 3), (17, .istore 4, 2), (19, .aload_n 2, 1), (20, .aload_n 2, 1), (21, .iload 4, 2), (23, .aload_n 0, 1), (24, .aload_n 2, 1), (25, .invokevirtual 93, 3), (28, .invokevirtual 97, 3), (31, .invokevirtual 101, 3), (34, .istore 5, 2), (36, .iload_n 3, 1), (37, .iload 5, 2), (39, .ixor, 1), (40, .invokestatic 104, 3), (43, .istore 6, 2), (45, .aload_n 2, 1), (46, .iload 4, 2), (48, .aload_n 2, 1), (49, .iload 5, 2), (51, .invokevirtual 90, 3), (54, .invokevirtual 109, 3), (57, .aload_n 2, 1), (58, .iload 6, 2), (60, .ifCond .le 7, 3), (63, .iconst 1, 1), (64, .goto 4, 3), (67, .iconst 0, 1), (68, .invokevirtual 113, 3), (71, .aload_n 1, 1), (72, .iload 5, 2), (74, .aload_n 2, 1), (75, .getfield 82, 3), (78, .iload 6, 2), (80, .invokevirtual 117, 3), (83, .iload 6, 2), (85, .ireturn, 1)]
set_option maxRecDepth 20000 in
theorem DX1_sendSign : Lst YX1_sendSign LX1_sendSign := by unfold Lst; decide +kernel
def LX1_takeLesson : LI := [(0, .aload_n 3, 1), (1, .invokevirtual 121, 3), (4, .iconst 0, 1), (5, .istore 4, 2), (7, .iload 4, 2), (9, .iload_n 2, 1), (10, .if_icmp .ge 15, 3), (13, .aload_n 0, 1), (14, .aload_n 1, 1), (15, .aload_n 3, 1), (16, .invokevirtual 126, 3), (19, .iinc 4 1, 3), (22, .goto (-15), 3), (25, .iconst 0, 1), (26, .istore 4, 2), (28, .iload 4, 2), (30, .bipush 8, 2), (32, .if_icmp .ge 31, 3), (35, .aload_n 1, 1), (36, .getfield 66, 3), (39, .iload 4, 2), (41, .aaload, 1), (42, .aload_n 3, 1), (43, .iload 4, 2), (45, .invokevirtual 130, 3), (48, .aload_n 0, 1), (49, .getfield 21, 3), (52, .iconst 1, 1), (53, .iaload, 1), (54, .invokevirtual 133, 3), (57, .iinc 4 1, 3), (60, .goto (-32), 3), (63, .return_, 1)]
set_option maxRecDepth 20000 in
theorem DX1_takeLesson : Lst YX1_takeLesson LX1_takeLesson := by unfold Lst; decide +kernel
def LX1_learnBeat : LI := [(0, .iconst 0, 1), (1, .istore_n 3, 1), (2, .iload_n 3, 1), (3, .bipush 8, 2), (5, .if_icmp .ge 95, 3), (8, .aload_n 1, 1), (9, .getfield 66, 3), (12, .iload_n 3, 1), (13, .aaload, 1), (14, .astore 4, 2), (16, .aload_n 0, 1), (17, .iconst 2, 1), (18, .invokevirtual 62, 3), (21, .iconst 1, 1), (22, .if_icmp .ne 9, 3), (25, .sipush 128, 3), (28, .goto 5, 3), (31, .bipush (-128), 2), (33, .istore 5, 2), (35, .aload 4, 2), (37, .iload 5, 2), (39, .aload_n 0, 1), (40, .aload 4, 2), (42, .invokevirtual 93, 3), (45, .invokevirtual 97, 3), (48, .aload 4, 2), (50, .iload 5, 2), (52, .invokevirtual 136, 3), (55, .isub, 1), (56, .istore 6, 2), (58, .aload 4, 2), (60, .iload 6, 2), (62, .iload 5, 2), (64, .aload_n 0, 1), (65, .getfield 21, 3), (68, .iconst 0, 1), (69, .iaload, 1), (70, .invokevirtual 139, 3), (73, .aload 4, 2), (75, .iload 5, 2), (77, .iload 5, 2), (79, .invokevirtual 109, 3), (82, .aload 4, 2), (84, .invokevirtual 142, 3), (87, .aload_n 2, 1), (88, .iload_n 3, 1), (89, .iload 6, 2), (91, .invokevirtual 145, 3), (94, .iinc 3 1, 3), (97, .goto (-95), 3), (100, .aload_n 2, 1), (101, .dup, 1), (102, .getfield 148, 3), (105, .iconst 1, 1), (106, .iadd, 1), (107, .putfield 148, 3), (110, .aload_n 0, 1), (111, .dup, 1), (112, .getfield 47, 3), (115, .iconst 1, 1), (116, .iadd, 1), (117, .putfield 47, 3), (120, .return_, 1)]
set_option maxRecDepth 20000 in
theorem DX1_learnBeat : Lst YX1_learnBeat LX1_learnBeat := by unfold Lst; decide +kernel
def LX2_init : LI := [(0, .aload_n 0, 1), (1, .invokespecial 3, 3), (4, .aload_n 0, 1), (5, .bipush 60, 2), (7, .newarray .char, 2), (9, .putfield 9, 3), (12, .return_, 1)]
set_option maxRecDepth 20000 in
theorem DX2_init : Lst YX2_init LX2_init := by unfold Lst; decide +kernel
def LX2_next : LI := [(0, .iload_n 0, 1), (1, .tableswitch 81 0 3 #[31, 49, 61, 66], 31), (32, .iload_n 1, 1), (33, .bipush 97, 2), (35, .if_icmp .eq 9, 3), (38, .iload_n 1, 1), (39, .bipush 98, 2), (41, .if_icmp .ne 7, 3), (44, .iconst 1, 1), (45, .goto 4, 3), (48, .iconst 4, 1), (49, .ireturn, 1), (50, .iload_n 1, 1), (51, .bipush 58, 2), (53, .if_icmp .ne 7, 3), (56, .iconst 2, 1), (57, .goto 4, 3), (60, .iconst 4, 1), (61, .ireturn, 1), (62, .iload_n 1, 1), (63, .invokestatic 15, 3), (66, .ireturn, 1), (67, .iload_n 1, 1), (68, .bipush 59, 2), (70, .if_icmp .ne 7, 3), (73, .iconst 0, 1), (74, .goto 7, 3), (77, .iload_n 1, 1), (78, .invokestatic 15, 3), (81, .ireturn, 1), (82, .iconst 4, 1), (83, .ireturn, 1)]
set_option maxRecDepth 20000 in
theorem DX2_next : Lst YX2_next LX2_next := by unfold Lst; decide +kernel
def LX2_behindDigit : LI := [(0, .iload_n 0, 1), (1, .invokestatic 19, 3), (4, .iconst (-1), 1), (5, .if_icmp .ne 7, 3), (8, .iconst 4, 1), (9, .goto 4, 3), (12, .iconst 3, 1), (13, .ireturn, 1)]
set_option maxRecDepth 20000 in
theorem DX2_behindDigit : Lst YX2_behindDigit LX2_behindDigit := by unfold Lst; decide +kernel
def LX2_digitOf : LI := [(0, .iload_n 0, 1), (1, .bipush 48, 2), (3, .if_icmp .lt 14, 3), (6, .iload_n 0, 1), (7, .bipush 57, 2), (9, .if_icmp .gt 8, 3), (12, .iload_n 0, 1), (13, .bipush 48, 2), (15, .isub, 1), (16, .ireturn, 1), (17, .iload_n 0, 1), (18, .bipush 97, 2), (20, .if_icmp .lt 19, 3), (23, .iload_n 0, 1), (24, .bipush 102, 2), (26, .if_icmp .gt 13, 3), (29, .iload_n 0, 1), (30, .bipush 97, 2), (32, .isub, 1), (33, .bipush 10, 2), (35, .iadd, 1), (36, .goto 4, 3), (39, .iconst (-1), 1), (40, .ireturn, 1)]
set_option maxRecDepth 20000 in
theorem DX2_digitOf : Lst YX2_digitOf LX2_digitOf := by unfold Lst; decide +kernel
def LX2_errorPlace : LI := [(0, .iconst 0, 1), (1, .istore_n 1, 1), (2, .iconst 0, 1), (3, .istore_n 2, 1), (4, .iload_n 2, 1), (5, .aload_n 0, 1), (6, .getfield 22, 3), (9, .if_icmp .ge 33, 3), (12, .iload_n 2, 1), (13, .bipush 60, 2), (15, .if_icmp .ge 27, 3), (18, .iload_n 1, 1), (19, .aload_n 0, 1), (20, .getfield 9, 3), (23, .iload_n 2, 1), (24, .caload, 1), (25, .invokestatic 26, 3), (28, .istore_n 1, 1), (29, .iload_n 1, 1), (30, .iconst 4, 1), (31, .if_icmp .ne 5, 3), (34, .iload_n 2, 1), (35, .ireturn, 1), (36, .iinc 2 1, 3), (39, .goto (-35), 3), (42, .aload_n 0, 1), (43, .getfield 22, 3), (46, .ireturn, 1)]
set_option maxRecDepth 20000 in
theorem DX2_errorPlace : Lst YX2_errorPlace LX2_errorPlace := by unfold Lst; decide +kernel
def LX2_isComplete : LI := [(0, .iconst 0, 1), (1, .istore_n 1, 1), (2, .iconst 0, 1), (3, .istore_n 2, 1), (4, .iload_n 2, 1), (5, .aload_n 0, 1), (6, .getfield 22, 3), (9, .if_icmp .ge 26, 3), (12, .iload_n 2, 1), (13, .bipush 60, 2), (15, .if_icmp .ge 20, 3), (18, .iload_n 1, 1), (19, .aload_n 0, 1), (20, .getfield 9, 3), (23, .iload_n 2, 1), (24, .caload, 1), (25, .invokestatic 26, 3), (28, .istore_n 1, 1), (29, .iinc 2 1, 3), (32, .goto (-28), 3), (35, .iload_n 1, 1), (36, .iconst 3, 1), (37, .if_icmp .ne 7, 3), (40, .iconst 1, 1), (41, .goto 4, 3), (44, .iconst 0, 1), (45, .ireturn, 1)]
set_option maxRecDepth 20000 in
theorem DX2_isComplete : Lst YX2_isComplete LX2_isComplete := by unfold Lst; decide +kernel
def LX2_bitsFor : LI := [(0, .iconst 0, 1), (1, .istore_n 2, 1), (2, .iconst 0, 1), (3, .istore_n 3, 1), (4, .iconst 0, 1), (5, .istore 4, 2), (7, .iconst 0, 1), (8, .istore 5, 2), (10, .iload 5, 2), (12, .aload_n 0, 1), (13, .getfield 22, 3), (16, .if_icmp .ge 66, 3), (19, .iload 5, 2), (21, .bipush 60, 2), (23, .if_icmp .ge 59, 3), (26, .aload_n 0, 1), (27, .getfield 9, 3), (30, .iload 5, 2), (32, .caload, 1), (33, .istore 6, 2), (35, .iload_n 2, 1), (36, .ifCond .ne 11, 3), (39, .iload 6, 2), (41, .bipush 97, 2), (43, .isub, 1), (44, .goto 4, 3), (47, .iload_n 3, 1), (48, .istore_n 3, 1), (49, .iload_n 2, 1), (50, .iload 6, 2), (52, .invokestatic 26, 3), (55, .istore_n 2, 1), (56, .iload 4, 2), (58, .iload_n 2, 1), (59, .iconst 3, 1), (60, .if_icmp .ne 12, 3), (63, .iload_n 3, 1), (64, .iload_n 1, 1), (65, .if_icmp .ne 7, 3), (68, .iconst 4, 1), (69, .goto 4, 3), (72, .iconst 0, 1), (73, .iadd, 1), (74, .istore 4, 2), (76, .iinc 5 1, 3), (79, .goto (-69), 3), (82, .iload 4, 2), (84, .ireturn, 1)]
set_option maxRecDepth 20000 in
theorem DX2_bitsFor : Lst YX2_bitsFor LX2_bitsFor := by unfold Lst; decide +kernel
def LX2_putBits : LI := [(0, .iconst 0, 1), (1, .istore_n 2, 1), (2, .iconst 0, 1), (3, .istore_n 3, 1), (4, .iconst 0, 1), (5, .istore 4, 2), (7, .iload 4, 2), (9, .aload_n 0, 1), (10, .getfield 22, 3), (13, .if_icmp .ge 67, 3), (16, .iload 4, 2), (18, .bipush 60, 2), (20, .if_icmp .ge 60, 3), (23, .aload_n 0, 1), (24, .getfield 9, 3), (27, .iload 4, 2), (29, .caload, 1), (30, .istore 5, 2), (32, .iload_n 2, 1), (33, .ifCond .ne 11, 3), (36, .iload 5, 2), (38, .bipush 97, 2), (40, .isub, 1), (41, .goto 4, 3), (44, .iload_n 3, 1), (45, .istore_n 3, 1), (46, .iload_n 2, 1), (47, .iload 5, 2), (49, .invokestatic 26, 3), (52, .istore_n 2, 1), (53, .iload_n 2, 1), (54, .iconst 3, 1), (55, .if_icmp .ne 19, 3), (58, .aload_n 1, 1), (59, .iload_n 3, 1), (60, .invokevirtual 30, 3), (63, .getfield 36, 3), (66, .iload 5, 2), (68, .invokestatic 19, 3), (71, .invokevirtual 42, 3), (74, .iinc 4 1, 3), (77, .goto (-70), 3), (80, .return_, 1)]
set_option maxRecDepth 20000 in
theorem DX2_putBits : Lst YX2_putBits LX2_putBits := by unfold Lst; decide +kernel
def LX3_init : LI := [(0, .aload_n 0, 1), (1, .invokespecial 3, 3), (4, .aload_n 0, 1), (5, .bipush 64, 2), (7, .putfield 9, 3), (10, .aload_n 0, 1), (11, .bipush 64, 2), (13, .putfield 15, 3), (16, .aload_n 0, 1), (17, .iconst (-1), 1), (18, .putfield 18, 3), (21, .return_, 1)]
set_option maxRecDepth 20000 in
theorem DX3_init : Lst YX3_init LX3_init := by unfold Lst; decide +kernel
def LX3_copyFrom : LI := [(0, .aload_n 0, 1), (1, .aload_n 1, 1), (2, .getfield 9, 3), (5, .putfield 9, 3), (8, .aload_n 0, 1), (9, .aload_n 1, 1), (10, .getfield 21, 3), (13, .putfield 21, 3), (16, .aload_n 0, 1), (17, .aload_n 1, 1), (18, .getfield 24, 3), (21, .putfield 24, 3), (24, .aload_n 0, 1), (25, .aload_n 1, 1), (26, .getfield 27, 3), (29, .putfield 27, 3), (32, .aload_n 0, 1), (33, .aload_n 1, 1), (34, .getfield 30, 3), (37, .putfield 30, 3), (40, .aload_n 0, 1), (41, .aload_n 1, 1), (42, .getfield 33, 3), (45, .putfield 33, 3), (48, .aload_n 0, 1), (49, .aload_n 1, 1), (50, .getfield 36, 3), (53, .putfield 36, 3), (56, .aload_n 0, 1), (57, .aload_n 1, 1), (58, .getfield 15, 3), (61, .putfield 15, 3), (64, .aload_n 0, 1), (65, .aload_n 1, 1), (66, .getfield 39, 3), (69, .putfield 39, 3), (72, .aload_n 0, 1), (73, .aload_n 1, 1), (74, .getfield 42, 3), (77, .putfield 42, 3), (80, .aload_n 0, 1), (81, .aload_n 1, 1), (82, .getfield 45, 3), (85, .putfield 45, 3), (88, .aload_n 0, 1), (89, .aload_n 1, 1), (90, .getfield 18, 3), (93, .putfield 18, 3), (96, .aload_n 0, 1), (97, .aload_n 1, 1), (98, .getfield 48, 3), (101, .putfield 48, 3), (104, .aload_n 0, 1), (105, .aload_n 1, 1), (106, .getfield 51, 3), (109, .putfield 51, 3), (112, .aload_n 0, 1), (113, .aload_n 1, 1), (114, .getfield 54, 3), (117, .putfield 54, 3), (120, .aload_n 0, 1), (121, .aload_n 1, 1), (122, .getfield 57, 3), (125, .putfield 57, 3), (128, .aload_n 0, 1), (129, .aload_n 1, 1), (130, .getfield 60, 3), (133, .putfield 60, 3), (136, .aload_n 0, 1), (137, .aload_n 1, 1), (138, .getfield 63, 3), (141, .putfield 63, 3), (144, .return_, 1)]
set_option maxRecDepth 20000 in
theorem DX3_copyFrom : Lst YX3_copyFrom LX3_copyFrom := by unfold Lst; decide +kernel
def LX3_streetNumber : LI := [(0, .iload_n 1, 1), (1, .tableswitch 69 0 5 #[39, 44, 49, 54, 59, 64], 39), (40, .aload_n 0, 1), (41, .getfield 9, 3), (44, .ireturn, 1), (45, .aload_n 0, 1), (46, .getfield 21, 3), (49, .ireturn, 1), (50, .aload_n 0, 1), (51, .getfield 24, 3), (54, .ireturn, 1), (55, .aload_n 0, 1), (56, .getfield 27, 3), (59, .ireturn, 1), (60, .aload_n 0, 1), (61, .getfield 30, 3), (64, .ireturn, 1), (65, .aload_n 0, 1), (66, .getfield 33, 3), (69, .ireturn, 1), (70, .aload_n 0, 1), (71, .getfield 36, 3), (74, .ireturn, 1)]
set_option maxRecDepth 20000 in
theorem DX3_streetNumber : Lst YX3_streetNumber LX3_streetNumber := by unfold Lst; decide +kernel
def LX3_setStreetNumber : LI := [(0, .iload_n 1, 1), (1, .tableswitch 51 0 2 #[27, 35, 43], 27), (28, .aload_n 0, 1), (29, .iload_n 2, 1), (30, .putfield 9, 3), (33, .goto 24, 3), (36, .aload_n 0, 1), (37, .iload_n 2, 1), (38, .putfield 21, 3), (41, .goto 16, 3), (44, .aload_n 0, 1), (45, .iload_n 2, 1), (46, .putfield 24, 3), (49, .goto 8, 3), (52, .aload_n 0, 1), (53, .iload_n 2, 1), (54, .putfield 27, 3), (57, .return_, 1)]
set_option maxRecDepth 20000 in
theorem DX3_setStreetNumber : Lst YX3_setStreetNumber LX3_setStreetNumber := by unfold Lst; decide +kernel
def LX3_accentNumber : LI := [(0, .iload_n 1, 1), (1, .tableswitch 105 0 9 #[55, 60, 65, 70, 75, 80, 85, 90, 95, 100], 55), (56, .aload_n 0, 1), (57, .getfield 15, 3), (60, .ireturn, 1), (61, .aload_n 0, 1), (62, .getfield 39, 3), (65, .ireturn, 1), (66, .aload_n 0, 1), (67, .getfield 42, 3), (70, .ireturn, 1), (71, .aload_n 0, 1), (72, .getfield 45, 3), (75, .ireturn, 1), (76, .aload_n 0, 1), (77, .getfield 18, 3), (80, .ireturn, 1), (81, .aload_n 0, 1), (82, .getfield 48, 3), (85, .ireturn, 1), (86, .aload_n 0, 1), (87, .getfield 51, 3), (90, .ireturn, 1), (91, .aload_n 0, 1), (92, .getfield 54, 3), (95, .ireturn, 1), (96, .aload_n 0, 1), (97, .getfield 57, 3), (100, .ireturn, 1), (101, .aload_n 0, 1), (102, .getfield 60, 3), (105, .ireturn, 1), (106, .aload_n 0, 1), (107, .getfield 63, 3), (110, .ireturn, 1)]
set_option maxRecDepth 20000 in
theorem DX3_accentNumber : Lst YX3_accentNumber LX3_accentNumber := by unfold Lst; decide +kernel
def LX3_amplitudeOf : LI := [(0, .iconst 2, 1), (1, .iload_n 1, 1), (2, .imul, 1), (3, .iconst 1, 1), (4, .iadd, 1), (5, .iconst 1, 1), (6, .aload_n 0, 1), (7, .getfield 45, 3), (10, .ishl, 1), (11, .isub, 1), (12, .sipush 256, 3), (15, .aload_n 0, 1), (16, .getfield 45, 3), (19, .ishr, 1), (20, .imul, 1), (21, .ireturn, 1)]
set_option maxRecDepth 20000 in
theorem DX3_amplitudeOf : Lst YX3_amplitudeOf LX3_amplitudeOf := by unfold Lst; decide +kernel
def LX3_arriving : LI := [(0, .aload_n 0, 1), (1, .getfield 9, 3), (4, .iload_n 1, 1), (5, .imul, 1), (6, .aload_n 0, 1), (7, .getfield 21, 3), (10, .aload_n 0, 1), (11, .getfield 33, 3), (14, .imul, 1), (15, .iadd, 1), (16, .aload_n 0, 1), (17, .getfield 24, 3), (20, .aload_n 0, 1), (21, .getfield 36, 3), (24, .imul, 1), (25, .iadd, 1), (26, .bipush 64, 2), (28, .idiv, 1), (29, .iload_n 2, 1), (30, .iadd, 1), (31, .aload_n 0, 1), (32, .getfield 30, 3), (35, .iadd, 1), (36, .ireturn, 1)]
set_option maxRecDepth 20000 in
theorem DX3_arriving : Lst YX3_arriving LX3_arriving := by unfold Lst; decide +kernel
def LX3_expected : LI := [(0, .aload_n 0, 1), (1, .getfield 15, 3), (4, .iload_n 1, 1), (5, .imul, 1), (6, .aload_n 0, 1), (7, .getfield 39, 3), (10, .aload_n 0, 1), (11, .getfield 33, 3), (14, .imul, 1), (15, .iadd, 1), (16, .aload_n 0, 1), (17, .getfield 42, 3), (20, .aload_n 0, 1), (21, .getfield 36, 3), (24, .imul, 1), (25, .iadd, 1), (26, .bipush 64, 2), (28, .idiv, 1), (29, .ireturn, 1)]
set_option maxRecDepth 20000 in
theorem DX3_expected : Lst YX3_expected LX3_expected := by unfold Lst; decide +kernel
def LX3_decide : LI := [(0, .iload_n 1, 1), (1, .aload_n 0, 1), (2, .getfield 39, 3), (5, .aload_n 0, 1), (6, .getfield 60, 3), (9, .imul, 1), (10, .aload_n 0, 1), (11, .getfield 42, 3), (14, .aload_n 0, 1), (15, .getfield 63, 3), (18, .imul, 1), (19, .iadd, 1), (20, .bipush 64, 2), (22, .idiv, 1), (23, .isub, 1), (24, .istore_n 2, 1), (25, .aload_n 0, 1), (26, .getfield 15, 3), (29, .ifCond .le 15, 3), (32, .iload_n 2, 1), (33, .bipush 64, 2), (35, .imul, 1), (36, .aload_n 0, 1), (37, .getfield 15, 3), (40, .idiv, 1), (41, .goto 4, 3), (44, .iconst 0, 1), (45, .istore_n 3, 1), (46, .iload_n 3, 1), (47, .sipush 256, 3), (50, .iadd, 1), (51, .iconst 1, 1), (52, .isub, 1), (53, .bipush 9, 2), (55, .aload_n 0, 1), (56, .getfield 45, 3), (59, .isub, 1), (60, .ishr, 1), (61, .istore 4, 2), (63, .iconst 0, 1), (64, .iload 4, 2), (66, .iconst 1, 1), (67, .aload_n 0, 1), (68, .getfield 45, 3), (71, .ishl, 1), (72, .iconst 1, 1), (73, .isub, 1), (74, .invokestatic 66, 3), (77, .invokestatic 72, 3), (80, .ireturn, 1)]
set_option maxRecDepth 20000 in
theorem DX3_decide : Lst YX3_decide LX3_decide := by unfold Lst; decide +kernel
def LX3_pass : LI := [(0, .aload_n 0, 1), (1, .iconst 0, 1), (2, .putfield 30, 3), (5, .aload_n 0, 1), (6, .aload_n 0, 1), (7, .getfield 33, 3), (10, .putfield 36, 3), (13, .aload_n 0, 1), (14, .iload_n 1, 1), (15, .putfield 33, 3), (18, .aload_n 0, 1), (19, .aload_n 0, 1), (20, .getfield 60, 3), (23, .putfield 63, 3), (26, .aload_n 0, 1), (27, .iload_n 2, 1), (28, .putfield 60, 3), (31, .return_, 1)]
set_option maxRecDepth 20000 in
theorem DX3_pass : Lst YX3_pass LX3_pass := by unfold Lst; decide +kernel
def LX3_knowSignBefore : LI := [(0, .aload_n 0, 1), (1, .aload_n 0, 1), (2, .getfield 36, 3), (5, .putfield 63, 3), (8, .return_, 1)]
set_option maxRecDepth 20000 in
theorem DX3_knowSignBefore : Lst YX3_knowSignBefore LX3_knowSignBefore := by unfold Lst; decide +kernel
def LX3_countSign : LI := [(0, .aload_n 0, 1), (1, .getfield 45, 3), (4, .ifCond .le 13, 3), (7, .aload_n 0, 1), (8, .dup, 1), (9, .getfield 54, 3), (12, .iconst 1, 1), (13, .iadd, 1), (14, .putfield 54, 3), (17, .iload_n 1, 1), (18, .ifCond .eq 23, 3), (21, .aload_n 0, 1), (22, .dup, 1), (23, .getfield 57, 3), (26, .iconst 1, 1), (27, .iadd, 1), (28, .putfield 57, 3), (31, .aload_n 0, 1), (32, .dup, 1), (33, .getfield 48, 3), (36, .iconst 1, 1), (37, .iadd, 1), (38, .putfield 48, 3), (41, .return_, 1)]
set_option maxRecDepth 20000 in
theorem DX3_countSign : Lst YX3_countSign LX3_countSign := by unfold Lst; decide +kernel
def LX3_becomeShyAt : LI := [(0, .aload_n 0, 1), (1, .getfield 45, 3), (4, .ifCond .le 36, 3), (7, .aload_n 0, 1), (8, .getfield 48, 3), (11, .iload_n 1, 1), (12, .if_icmp .lt 28, 3), (15, .aload_n 0, 1), (16, .dup, 1), (17, .getfield 45, 3), (20, .iconst 1, 1), (21, .isub, 1), (22, .putfield 45, 3), (25, .aload_n 0, 1), (26, .dup, 1), (27, .getfield 51, 3), (30, .iconst 1, 1), (31, .iadd, 1), (32, .putfield 51, 3), (35, .aload_n 0, 1), (36, .iconst 0, 1), (37, .putfield 48, 3), (40, .return_, 1)]
set_option maxRecDepth 20000 in
theorem DX3_becomeShyAt : Lst YX3_becomeShyAt LX3_becomeShyAt := by unfold Lst; decide +kernel
def LX3_improve : LI := [(0, .aload_n 0, 1), (1, .aload_n 0, 1), (2, .getfield 15, 3), (5, .iload_n 1, 1), (6, .iload_n 2, 1), (7, .imul, 1), (8, .iload_n 3, 1), (9, .invokestatic 75, 3), (12, .iadd, 1), (13, .bipush 8, 2), (15, .sipush 128, 3), (18, .invokestatic 78, 3), (21, .putfield 15, 3), (24, .aload_n 0, 1), (25, .aload_n 0, 1), (26, .getfield 39, 3), (29, .iload_n 1, 1), (30, .aload_n 0, 1), (31, .getfield 33, 3), (34, .imul, 1), (35, .iload_n 3, 1), (36, .invokestatic 75, 3), (39, .iadd, 1), (40, .bipush (-48), 2), (42, .bipush 48, 2), (44, .invokestatic 78, 3), (47, .putfield 39, 3), (50, .aload_n 0, 1), (51, .aload_n 0, 1), (52, .getfield 42, 3), (55, .iload_n 1, 1), (56, .aload_n 0, 1), (57, .getfield 36, 3), (60, .imul, 1), (61, .iload_n 3, 1), (62, .invokestatic 75, 3), (65, .iadd, 1), (66, .bipush (-48), 2), (68, .bipush 48, 2), (70, .invokestatic 78, 3), (73, .putfield 42, 3), (76, .return_, 1)]
set_option maxRecDepth 20000 in
theorem DX3_improve : Lst YX3_improve LX3_improve := by unfold Lst; decide +kernel
def LX3_step : LI := [(0, .iload_n 1, 1), (1, .ifCond .le 13, 3), (4, .iload_n 0, 1), (5, .sipush 128, 3), (8, .iload_n 1, 1), (9, .imul, 1), (10, .idiv, 1), (11, .goto 4, 3), (14, .iconst 0, 1), (15, .ireturn, 1)]
set_option maxRecDepth 20000 in
theorem DX3_step : Lst YX3_step LX3_step := by unfold Lst; decide +kernel
def LX3_held : LI := [(0, .iload_n 0, 1), (1, .iload_n 1, 1), (2, .if_icmp .ge 5, 3), (5, .iload_n 1, 1), (6, .ireturn, 1), (7, .iload_n 0, 1), (8, .iload_n 2, 1), (9, .if_icmp .le 7, 3), (12, .iload_n 2, 1), (13, .goto 4, 3), (16, .iload_n 0, 1), (17, .ireturn, 1)]
set_option maxRecDepth 20000 in
theorem DX3_held : Lst YX3_held LX3_held := by unfold Lst; decide +kernel
def LX3_endLesson : LI := [(0, .aload_n 0, 1), (1, .iload_n 1, 1), (2, .putfield 18, 3), (5, .aload_n 0, 1), (6, .aload_n 0, 1), (7, .iload_n 1, 1), (8, .iload_n 2, 1), (9, .invokevirtual 82, 3), (12, .putfield 45, 3), (15, .aload_n 0, 1), (16, .iconst 0, 1), (17, .putfield 48, 3), (20, .return_, 1)]
set_option maxRecDepth 20000 in
theorem DX3_endLesson : Lst YX3_endLesson LX3_endLesson := by unfold Lst; decide +kernel
def LX3_bitsFor : LI := [(0, .iload_n 1, 1), (1, .iload_n 2, 1), (2, .imul, 1), (3, .iconst 4, 1), (4, .idiv, 1), (5, .istore_n 3, 1), (6, .iconst 4, 1), (7, .istore 4, 2), (9, .iload 4, 2), (11, .ifCond .le 22, 3), (14, .iload_n 3, 1), (15, .aload_n 0, 1), (16, .iload 4, 2), (18, .invokevirtual 85, 3), (21, .if_icmp .ge 6, 3), (24, .iload 4, 2), (26, .ireturn, 1), (27, .iinc 4 (-1), 3), (30, .goto (-21), 3), (33, .iconst 0, 1), (34, .ireturn, 1)]
set_option maxRecDepth 20000 in
theorem DX3_bitsFor : Lst YX3_bitsFor LX3_bitsFor := by unfold Lst; decide +kernel
def LX3_roomWith : LI := [(0, .sipush 256, 3), (3, .iload_n 1, 1), (4, .ishr, 1), (5, .aload_n 0, 1), (6, .getfield 15, 3), (9, .imul, 1), (10, .bipush 64, 2), (12, .idiv, 1), (13, .ireturn, 1)]
set_option maxRecDepth 20000 in
theorem DX3_roomWith : Lst YX3_roomWith LX3_roomWith := by unfold Lst; decide +kernel
def LX3_sureBits : LI := [(0, .iconst 4, 1), (1, .istore_n 1, 1), (2, .iload_n 1, 1), (3, .ifCond .le 31, 3), (6, .aload_n 0, 1), (7, .iload_n 1, 1), (8, .invokevirtual 89, 3), (11, .aload_n 0, 1), (12, .getfield 27, 3), (15, .iadd, 1), (16, .iconst 4, 1), (17, .iadd, 1), (18, .aload_n 0, 1), (19, .iload_n 1, 1), (20, .invokevirtual 85, 3), (23, .if_icmp .ge 5, 3), (26, .iload_n 1, 1), (27, .ireturn, 1), (28, .iinc 1 (-1), 3), (31, .goto (-29), 3), (34, .iconst 0, 1), (35, .ireturn, 1)]
set_option maxRecDepth 20000 in
theorem DX3_sureBits : Lst YX3_sureBits LX3_sureBits := by unfold Lst; decide +kernel
def LX3_misheardWith : LI := [(0, .sipush 256, 3), (3, .sipush 256, 3), (6, .iload_n 1, 1), (7, .ishr, 1), (8, .isub, 1), (9, .istore_n 2, 1), (10, .aload_n 0, 1), (11, .getfield 21, 3), (14, .aload_n 0, 1), (15, .getfield 39, 3), (18, .isub, 1), (19, .invokestatic 92, 3), (22, .aload_n 0, 1), (23, .getfield 24, 3), (26, .aload_n 0, 1), (27, .getfield 42, 3), (30, .isub, 1), (31, .invokestatic 92, 3), (34, .iadd, 1), (35, .istore_n 3, 1), (36, .aload_n 0, 1), (37, .getfield 9, 3), (40, .aload_n 0, 1), (41, .getfield 15, 3), (44, .isub, 1), (45, .invokestatic 92, 3), (48, .iload_n 2, 1), (49, .imul, 1), (50, .iload_n 3, 1), (51, .sipush 256, 3), (54, .imul, 1), (55, .iadd, 1), (56, .bipush 64, 2), (58, .idiv, 1), (59, .ireturn, 1)]
set_option maxRecDepth 20000 in
theorem DX3_misheardWith : Lst YX3_misheardWith LX3_misheardWith := by unfold Lst; decide +kernel
def LX3_loseAccent : LI := [(0, .aload_n 0, 1), (1, .bipush 64, 2), (3, .putfield 15, 3), (6, .aload_n 0, 1), (7, .iconst 0, 1), (8, .putfield 39, 3), (11, .aload_n 0, 1), (12, .iconst 0, 1), (13, .putfield 42, 3), (16, .aload_n 0, 1), (17, .iconst 0, 1), (18, .putfield 45, 3), (21, .aload_n 0, 1), (22, .iconst (-1), 1), (23, .putfield 18, 3), (26, .aload_n 0, 1), (27, .iconst 0, 1), (28, .putfield 48, 3), (31, .return_, 1)]
set_option maxRecDepth 20000 in
theorem DX3_loseAccent : Lst YX3_loseAccent LX3_loseAccent := by unfold Lst; decide +kernel
def LX4_init : LI := [(0, .aload_n 0, 1), (1, .invokespecial 3, 3), (4, .aload_n 0, 1), (5, .sipush 256, 3), (8, .newarray .int, 2), (10, .putfield 9, 3), (13, .return_, 1)]
set_option maxRecDepth 20000 in
theorem DX4_init : Lst YX4_init LX4_init := by unfold Lst; decide +kernel
def LX4_copyFrom : LI := [(0, .aload_n 1, 1), (1, .getfield 9, 3), (4, .iconst 0, 1), (5, .aload_n 0, 1), (6, .getfield 9, 3), (9, .iconst 0, 1), (10, .sipush 256, 3), (13, .invokestatic 15, 3), (16, .aload_n 0, 1), (17, .aload_n 1, 1), (18, .getfield 21, 3), (21, .putfield 21, 3), (24, .aload_n 0, 1), (25, .aload_n 1, 1), (26, .getfield 25, 3), (29, .putfield 25, 3), (32, .return_, 1)]
set_option maxRecDepth 20000 in
theorem DX4_copyFrom : Lst YX4_copyFrom LX4_copyFrom := by unfold Lst; decide +kernel
def LX4_bitAt : LI := [(0, .aload_n 0, 1), (1, .getfield 9, 3), (4, .aload_n 0, 1), (5, .getfield 21, 3), (8, .iload_n 1, 1), (9, .iadd, 1), (10, .sipush 255, 3), (13, .iand, 1), (14, .iaload, 1), (15, .ireturn, 1)]
set_option maxRecDepth 20000 in
theorem DX4_bitAt : Lst YX4_bitAt LX4_bitAt := by unfold Lst; decide +kernel
def LX4_put : LI := [(0, .aload_n 0, 1), (1, .getfield 25, 3), (4, .sipush 256, 3), (7, .if_icmp .ge 32, 3), (10, .aload_n 0, 1), (11, .getfield 9, 3), (14, .aload_n 0, 1), (15, .getfield 21, 3), (18, .aload_n 0, 1), (19, .getfield 25, 3), (22, .iadd, 1), (23, .sipush 255, 3), (26, .iand, 1), (27, .iload_n 1, 1), (28, .iastore, 1), (29, .aload_n 0, 1), (30, .dup, 1), (31, .getfield 25, 3), (34, .iconst 1, 1), (35, .iadd, 1), (36, .putfield 25, 3), (39, .return_, 1)]
set_option maxRecDepth 20000 in
theorem DX4_put : Lst YX4_put LX4_put := by unfold Lst; decide +kernel
def LX4_putDigit : LI := [(0, .iconst 3, 1), (1, .istore_n 2, 1), (2, .iload_n 2, 1), (3, .ifCond .lt 18, 3), (6, .aload_n 0, 1), (7, .iload_n 1, 1), (8, .iload_n 2, 1), (9, .ishr, 1), (10, .iconst 1, 1), (11, .iand, 1), (12, .invokevirtual 28, 3), (15, .iinc 2 (-1), 3), (18, .goto (-16), 3), (21, .return_, 1)]
set_option maxRecDepth 20000 in
theorem DX4_putDigit : Lst YX4_putDigit LX4_putDigit := by unfold Lst; decide +kernel
def LX4_take : LI := [(0, .iconst 0, 1), (1, .istore_n 2, 1), (2, .iconst 0, 1), (3, .istore_n 3, 1), (4, .iload_n 3, 1), (5, .iload_n 1, 1), (6, .if_icmp .ge 52, 3), (9, .iconst 2, 1), (10, .iload_n 2, 1), (11, .imul, 1), (12, .istore_n 2, 1), (13, .aload_n 0, 1), (14, .getfield 25, 3), (17, .ifCond .le 35, 3), (20, .iload_n 2, 1), (21, .aload_n 0, 1), (22, .iconst 0, 1), (23, .invokevirtual 32, 3), (26, .iadd, 1), (27, .istore_n 2, 1), (28, .aload_n 0, 1), (29, .aload_n 0, 1), (30, .getfield 21, 3), (33, .iconst 1, 1), (34, .iadd, 1), (35, .sipush 255, 3), (38, .iand, 1), (39, .putfield 21, 3), (42, .aload_n 0, 1), (43, .dup, 1), (44, .getfield 25, 3), (47, .iconst 1, 1), (48, .isub, 1), (49, .putfield 25, 3), (52, .iinc 3 1, 3), (55, .goto (-51), 3), (58, .iload_n 2, 1), (59, .ireturn, 1)]
set_option maxRecDepth 20000 in
theorem DX4_take : Lst YX4_take LX4_take := by unfold Lst; decide +kernel
def LX5_init : LI := [(0, .aload_n 0, 1), (1, .invokespecial 3, 3), (4, .aload_n 0, 1), (5, .bipush 8, 2), (7, .anewarray 9, 3), (10, .putfield 11, 3), (13, .aload_n 0, 1), (14, .new 17, 3), (17, .dup, 1), (18, .invokespecial 19, 3), (21, .putfield 20, 3), (24, .iconst 0, 1), (25, .istore_n 1, 1), (26, .iload_n 1, 1), (27, .bipush 8, 2), (29, .if_icmp .ge 22, 3), (32, .aload_n 0, 1), (33, .getfield 11, 3), (36, .iload_n 1, 1), (37, .new 9, 3), (40, .dup, 1), (41, .invokespecial 24, 3), (44, .aastore, 1), (45, .iinc 1 1, 3), (48, .goto (-22), 3), (51, .return_, 1)]
set_option maxRecDepth 20000 in
theorem DX5_init : Lst YX5_init LX5_init := by unfold Lst; decide +kernel
def LX5_copyFrom : LI := [(0, .iconst 0, 1), (1, .istore_n 2, 1), (2, .iload_n 2, 1), (3, .bipush 8, 2), (5, .if_icmp .ge 24, 3), (8, .aload_n 0, 1), (9, .getfield 11, 3), (12, .iload_n 2, 1), (13, .aaload, 1), (14, .aload_n 1, 1), (15, .getfield 11, 3), (18, .iload_n 2, 1), (19, .aaload, 1), (20, .invokevirtual 25, 3), (23, .iinc 2 1, 3), (26, .goto (-24), 3), (29, .aload_n 0, 1), (30, .getfield 20, 3), (33, .aload_n 1, 1), (34, .getfield 20, 3), (37, .invokevirtual 29, 3), (40, .aload_n 0, 1), (41, .aload_n 1, 1), (42, .getfield 32, 3), (45, .putfield 32, 3), (48, .aload_n 0, 1), (49, .aload_n 1, 1), (50, .getfield 36, 3), (53, .putfield 36, 3), (56, .aload_n 0, 1), (57, .aload_n 1, 1), (58, .getfield 40, 3), (61, .putfield 40, 3), (64, .return_, 1)]
set_option maxRecDepth 20000 in
theorem DX5_copyFrom : Lst YX5_copyFrom LX5_copyFrom := by unfold Lst; decide +kernel
def LX5_receive : LI := [(0, .aload_n 0, 1), (1, .aload_n 0, 1), (2, .getfield 32, 3), (5, .iload_n 2, 1), (6, .lshl, 1), (7, .iload_n 1, 1), (8, .i2l, 1), (9, .lor, 1), (10, .ldc2_w 43, 3), (13, .land, 1), (14, .putfield 32, 3), (17, .aload_n 0, 1), (18, .dup, 1), (19, .getfield 36, 3), (22, .iload_n 2, 1), (23, .iadd, 1), (24, .putfield 36, 3), (27, .aload_n 0, 1), (28, .dup, 1), (29, .getfield 40, 3), (32, .iload_n 3, 1), (33, .iadd, 1), (34, .putfield 40, 3), (37, .return_, 1)]
set_option maxRecDepth 20000 in
theorem DX5_receive : Lst YX5_receive LX5_receive := by unfold Lst; decide +kernel
def LX5_bits : LI := [(0, .iconst 0, 1), (1, .istore_n 1, 1), (2, .iconst 0, 1), (3, .istore_n 2, 1), (4, .iload_n 2, 1), (5, .bipush 8, 2), (7, .if_icmp .ge 21, 3), (10, .iload_n 1, 1), (11, .aload_n 0, 1), (12, .getfield 11, 3), (15, .iload_n 2, 1), (16, .aaload, 1), (17, .getfield 45, 3), (20, .iadd, 1), (21, .istore_n 1, 1), (22, .iinc 2 1, 3), (25, .goto (-21), 3), (28, .iload_n 1, 1), (29, .ireturn, 1)]
set_option maxRecDepth 20000 in
theorem DX5_bits : Lst YX5_bits LX5_bits := by unfold Lst; decide +kernel
def LX5_shies : LI := [(0, .iconst 0, 1), (1, .istore_n 1, 1), (2, .iconst 0, 1), (3, .istore_n 2, 1), (4, .iload_n 2, 1), (5, .bipush 8, 2), (7, .if_icmp .ge 21, 3), (10, .iload_n 1, 1), (11, .aload_n 0, 1), (12, .getfield 11, 3), (15, .iload_n 2, 1), (16, .aaload, 1), (17, .getfield 48, 3), (20, .iadd, 1), (21, .istore_n 1, 1), (22, .iinc 2 1, 3), (25, .goto (-21), 3), (28, .iload_n 1, 1), (29, .ireturn, 1)]
set_option maxRecDepth 20000 in
theorem DX5_shies : Lst YX5_shies LX5_shies := by unfold Lst; decide +kernel
def LX5_insulted : LI := [(0, .iconst 0, 1), (1, .istore_n 1, 1), (2, .iconst 0, 1), (3, .istore_n 2, 1), (4, .iload_n 2, 1), (5, .bipush 8, 2), (7, .if_icmp .ge 29, 3), (10, .iload_n 1, 1), (11, .aload_n 0, 1), (12, .getfield 11, 3), (15, .iload_n 2, 1), (16, .aaload, 1), (17, .getfield 51, 3), (20, .ifCond .eq 7, 3), (23, .iconst 1, 1), (24, .goto 4, 3), (27, .iconst 0, 1), (28, .iadd, 1), (29, .istore_n 1, 1), (30, .iinc 2 1, 3), (33, .goto (-29), 3), (36, .iload_n 1, 1), (37, .ireturn, 1)]
set_option maxRecDepth 20000 in
theorem DX5_insulted : Lst YX5_insulted LX5_insulted := by unfold Lst; decide +kernel
def LX6_init : LI := [(0, .aload_n 0, 1), (1, .invokespecial 3, 3), (4, .aload_n 0, 1), (5, .new 9, 3), (8, .dup, 1), (9, .invokespecial 11, 3), (12, .putfield 12, 3), (15, .aload_n 0, 1), (16, .new 9, 3), (19, .dup, 1), (20, .invokespecial 11, 3), (23, .putfield 16, 3), (26, .aload_n 0, 1), (27, .bipush 6, 2), (29, .anewarray 9, 3), (32, .putfield 19, 3), (35, .aload_n 0, 1), (36, .new 23, 3), (39, .dup, 1), (40, .invokespecial 25, 3), (43, .putfield 26, 3), (46, .aload_n 0, 1), (47, .new 30, 3), (50, .dup, 1), (51, .invokespecial 32, 3), (54, .putfield 33, 3), (57, .iconst 0, 1), (58, .istore_n 1, 1), (59, .iload_n 1, 1), (60, .bipush 6, 2), (62, .if_icmp .ge 22, 3), (65, .aload_n 0, 1), (66, .getfield 19, 3), (69, .iload_n 1, 1), (70, .new 9, 3), (73, .dup, 1), (74, .invokespecial 11, 3), (77, .aastore, 1), (78, .iinc 1 1, 3), (81, .goto (-22), 3), (84, .return_, 1)]
set_option maxRecDepth 20000 in
theorem DX6_init : Lst YX6_init LX6_init := by unfold Lst; decide +kernel
def LX6_build : LI := [(0, .aload_n 0, 1), (1, .iload_n 1, 1), (2, .iload_n 2, 1), (3, .invokevirtual 37, 3), (6, .astore 5, 2), (8, .iload_n 3, 1), (9, .iload 4, 2), (11, .invokestatic 41, 3), (14, .aload_n 0, 1), (15, .invokevirtual 45, 3), (18, .aload 5, 2), (20, .iload_n 3, 1), (21, .invokevirtual 48, 3), (24, .istore 6, 2), (26, .aload 5, 2), (28, .iload_n 3, 1), (29, .iload 4, 2), (31, .invokevirtual 54, 3), (34, .iload 6, 2), (36, .ireturn, 1)]
set_option maxRecDepth 20000 in
theorem DX6_build : Lst YX6_build LX6_build := by unfold Lst; decide +kernel
def LX6_carry : LI := [(0, .aload_n 0, 1), (1, .iload_n 1, 1), (2, .iload_n 2, 1), (3, .invokevirtual 37, 3), (6, .astore 4, 2), (8, .iload_n 3, 1), (9, .ifCond .lt 8, 3), (12, .iload_n 3, 1), (13, .iconst 4, 1), (14, .if_icmp .le 13, 3), (17, .new 57, 3), (20, .dup, 1), (21, .ldc 59, 2), (23, .invokespecial 61, 3), (26, .athrow, 1), (27, .aload_n 0, 1), (28, .invokevirtual 45, 3), (31, .aload 4, 2), (33, .getfield 64, 3), (36, .istore 5, 2), (38, .aload 4, 2), (40, .iload_n 3, 1), (41, .putfield 64, 3), (44, .iload 5, 2), (46, .ireturn, 1)]
set_option maxRecDepth 20000 in
theorem DX6_carry : Lst YX6_carry LX6_carry := by unfold Lst; decide +kernel
def LX6_insult : LI := [(0, .aload_n 0, 1), (1, .iload_n 1, 1), (2, .iload_n 2, 1), (3, .invokevirtual 37, 3), (6, .astore 4, 2), (8, .iload_n 3, 1), (9, .sipush (-300), 3), (12, .if_icmp .lt 10, 3), (15, .iload_n 3, 1), (16, .sipush 300, 3), (19, .if_icmp .le 13, 3), (22, .new 57, 3), (25, .dup, 1), (26, .ldc 68, 2), (28, .invokespecial 61, 3), (31, .athrow, 1), (32, .aload 4, 2), (34, .getfield 70, 3), (37, .iload_n 3, 1), (38, .iadd, 1), (39, .istore 5, 2), (41, .iload 5, 2), (43, .sipush (-1000), 3), (46, .if_icmp .lt 11, 3), (49, .iload 5, 2), (51, .sipush 1000, 3), (54, .if_icmp .le 13, 3), (57, .new 73, 3), (60, .dup, 1), (61, .ldc 75, 2), (63, .invokespecial 77, 3), (66, .athrow, 1), (67, .aload_n 0, 1), (68, .invokevirtual 45, 3), (71, .aload 4, 2), (73, .iload 5, 2), (75, .putfield 70, 3), (78, .iload 5, 2), (80, .ireturn, 1)]
set_option maxRecDepth 20000 in
theorem DX6_insult : Lst YX6_insult LX6_insult := by unfold Lst; decide +kernel
def LX6_set : LI := [(0, .iload_n 1, 1), (1, .invokestatic 78, 3), (4, .iload_n 2, 1), (5, .getstatic 82, 3), (8, .iload_n 1, 1), (9, .iaload, 1), (10, .if_icmp .lt 12, 3), (13, .iload_n 2, 1), (14, .getstatic 86, 3), (17, .iload_n 1, 1), (18, .iaload, 1), (19, .if_icmp .le 13, 3), (22, .new 57, 3), (25, .dup, 1), (26, .ldc 89, 2), (28, .invokespecial 61, 3), (31, .athrow, 1), (32, .aload_n 0, 1), (33, .invokevirtual 45, 3), (36, .aload_n 0, 1), (37, .getfield 12, 3), (40, .getfield 91, 3), (43, .iload_n 1, 1), (44, .iaload, 1), (45, .istore_n 3, 1), (46, .aload_n 0, 1), (47, .getfield 12, 3), (50, .getfield 91, 3), (53, .iload_n 1, 1), (54, .iload_n 2, 1), (55, .iastore, 1), (56, .iload_n 3, 1), (57, .ireturn, 1)]
set_option maxRecDepth 20000 in
theorem DX6_set : Lst YX6_set LX6_set := by unfold Lst; decide +kernel
def LX6_learn : LI := [(0, .aload_n 0, 1), (1, .iload_n 1, 1), (2, .invokevirtual 94, 3), (5, .astore_n 3, 1), (6, .iload_n 2, 1), (7, .invokestatic 98, 3), (10, .aload_n 0, 1), (11, .iload_n 2, 1), (12, .invokevirtual 101, 3), (15, .aload_n 0, 1), (16, .invokevirtual 45, 3), (19, .aload_n 0, 1), (20, .getfield 12, 3), (23, .aload_n 3, 1), (24, .iload_n 2, 1), (25, .aload_n 0, 1), (26, .getfield 26, 3), (29, .invokevirtual 104, 3), (32, .aload_n 3, 1), (33, .invokevirtual 108, 3), (36, .ireturn, 1)]
set_option maxRecDepth 20000 in
theorem DX6_learn : Lst YX6_learn LX6_learn := by unfold Lst; decide +kernel
def LX6_send : LI := [(0, .aload_n 0, 1), (1, .iload_n 1, 1), (2, .invokevirtual 94, 3), (5, .astore_n 3, 1), (6, .iload_n 2, 1), (7, .invokestatic 98, 3), (10, .aload_n 0, 1), (11, .iload_n 2, 1), (12, .invokevirtual 101, 3), (15, .aload_n 0, 1), (16, .invokevirtual 45, 3), (19, .aload_n 0, 1), (20, .getfield 12, 3), (23, .aload_n 3, 1), (24, .iload_n 2, 1), (25, .invokevirtual 113, 3), (28, .ireturn, 1)]
set_option maxRecDepth 20000 in
theorem DX6_send : Lst YX6_send LX6_send := by unfold Lst; decide +kernel
def LX6_forget : LI := [(0, .aload_n 0, 1), (1, .iload_n 1, 1), (2, .invokevirtual 94, 3), (5, .astore_n 2, 1), (6, .aload_n 0, 1), (7, .invokevirtual 45, 3), (10, .aload_n 2, 1), (11, .invokevirtual 108, 3), (14, .istore_n 3, 1), (15, .iconst 0, 1), (16, .istore 4, 2), (18, .iload 4, 2), (20, .bipush 8, 2), (22, .if_icmp .ge 19, 3), (25, .aload_n 2, 1), (26, .getfield 117, 3), (29, .iload 4, 2), (31, .aaload, 1), (32, .invokevirtual 121, 3), (35, .iinc 4 1, 3), (38, .goto (-20), 3), (41, .iload_n 3, 1), (42, .ireturn, 1)]
set_option maxRecDepth 20000 in
theorem DX6_forget : Lst YX6_forget LX6_forget := by unfold Lst; decide +kernel
def LX6_append : LI := [(0, .iload_n 1, 1), (1, .bipush 33, 2), (3, .if_icmp .lt 9, 3), (6, .iload_n 1, 1), (7, .bipush 126, 2), (9, .if_icmp .le 13, 3), (12, .new 57, 3), (15, .dup, 1), (16, .ldc 124, 2), (18, .invokespecial 61, 3), (21, .athrow, 1), (22, .aload_n 0, 1), (23, .getfield 33, 3), (26, .getfield 126, 3), (29, .bipush 60, 2), (31, .if_icmp .lt 13, 3), (34, .new 73, 3), (37, .dup, 1), (38, .ldc 129, 2), (40, .invokespecial 77, 3), (43, .athrow, 1), (44, .aload_n 0, 1), (45, .getfield 33, 3), (48, .getfield 131, 3), (51, .aload_n 0, 1), (52, .getfield 33, 3), (55, .getfield 126, 3), (58, .iload_n 1, 1), (59, .i2c, 1), (60, .castore, 1), (61, .aload_n 0, 1), (62, .getfield 33, 3), (65, .dup, 1), (66, .getfield 126, 3), (69, .iconst 1, 1), (70, .iadd, 1), (71, .putfield 126, 3), (74, .aload_n 0, 1), (75, .getfield 33, 3), (78, .getfield 126, 3), (81, .ireturn, 1)]
set_option maxRecDepth 20000 in
theorem DX6_append : Lst YX6_append LX6_append := by unfold Lst; decide +kernel
def LX6_clearBuffer : LI := [(0, .aload_n 0, 1), (1, .getfield 33, 3), (4, .getfield 126, 3), (7, .istore_n 1, 1), (8, .aload_n 0, 1), (9, .getfield 33, 3), (12, .iconst 0, 1), (13, .putfield 126, 3), (16, .iload_n 1, 1), (17, .ireturn, 1)]
set_option maxRecDepth 20000 in
theorem DX6_clearBuffer : Lst YX6_clearBuffer LX6_clearBuffer := by unfold Lst; decide +kernel
def LX6_firstError : LI := [(0, .aload_n 0, 1), (1, .getfield 33, 3), (4, .invokevirtual 135, 3), (7, .ireturn, 1)]
set_option maxRecDepth 20000 in
theorem DX6_firstError : Lst YX6_firstError LX6_firstError := by unfold Lst; decide +kernel
def LX6_say : LI := [(0, .aload_n 0, 1), (1, .getfield 33, 3), (4, .invokevirtual 138, 3), (7, .ifCond .ne 13, 3), (10, .new 57, 3), (13, .dup, 1), (14, .ldc 142, 2), (16, .invokespecial 61, 3), (19, .athrow, 1), (20, .aload_n 0, 1), (21, .getfield 33, 3), (24, .iconst 0, 1), (25, .invokevirtual 144, 3), (28, .istore_n 1, 1), (29, .aload_n 0, 1), (30, .getfield 33, 3), (33, .iconst 1, 1), (34, .invokevirtual 144, 3), (37, .istore_n 2, 1), (38, .aload_n 0, 1), (39, .getfield 12, 3), (42, .getfield 147, 3), (45, .getfield 151, 3), (48, .getfield 155, 3), (51, .iload_n 1, 1), (52, .iadd, 1), (53, .sipush 256, 3), (56, .if_icmp .gt 24, 3), (59, .aload_n 0, 1), (60, .getfield 12, 3), (63, .getfield 160, 3), (66, .getfield 151, 3), (69, .getfield 155, 3), (72, .iload_n 2, 1), (73, .iadd, 1), (74, .sipush 256, 3), (77, .if_icmp .le 13, 3), (80, .new 73, 3), (83, .dup, 1), (84, .ldc 163, 2), (86, .invokespecial 77, 3), (89, .athrow, 1), (90, .aload_n 0, 1), (91, .invokevirtual 45, 3), (94, .aload_n 0, 1), (95, .getfield 33, 3), (98, .aload_n 0, 1), (99, .getfield 12, 3), (102, .invokevirtual 165, 3), (105, .aload_n 0, 1), (106, .getfield 33, 3), (109, .iconst 0, 1), (110, .putfield 126, 3), (113, .iload_n 1, 1), (114, .iload_n 2, 1), (115, .iadd, 1), (116, .ireturn, 1)]
set_option maxRecDepth 20000 in
theorem DX6_say : Lst YX6_say LX6_say := by unfold Lst; decide +kernel
def LX6_street : LI := [(0, .aload_n 0, 1), (1, .iload_n 1, 1), (2, .iload_n 2, 1), (3, .invokevirtual 37, 3), (6, .astore 4, 2), (8, .iload_n 3, 1), (9, .ifCond .lt 9, 3), (12, .iload_n 3, 1), (13, .bipush 6, 2), (15, .if_icmp .le 13, 3), (18, .new 57, 3), (21, .dup, 1), (22, .ldc 177, 2), (24, .invokespecial 61, 3), (27, .athrow, 1), (28, .aload 4, 2), (30, .iload_n 3, 1), (31, .invokevirtual 48, 3), (34, .ireturn, 1)]
set_option maxRecDepth 20000 in
theorem DX6_street : Lst YX6_street LX6_street := by unfold Lst; decide +kernel
def LX6_accent : LI := [(0, .aload_n 0, 1), (1, .iload_n 1, 1), (2, .iload_n 2, 1), (3, .invokevirtual 37, 3), (6, .astore 4, 2), (8, .iload_n 3, 1), (9, .ifCond .lt 9, 3), (12, .iload_n 3, 1), (13, .bipush 10, 2), (15, .if_icmp .le 13, 3), (18, .new 57, 3), (21, .dup, 1), (22, .ldc 179, 2), (24, .invokespecial 61, 3), (27, .athrow, 1), (28, .aload 4, 2), (30, .iload_n 3, 1), (31, .invokevirtual 181, 3), (34, .ireturn, 1)]
set_option maxRecDepth 20000 in
theorem DX6_accent : Lst YX6_accent LX6_accent := by unfold Lst; decide +kernel
def LX6_waits : LI := [(0, .aload_n 0, 1), (1, .iload_n 1, 1), (2, .invokevirtual 94, 3), (5, .getfield 151, 3), (8, .astore_n 3, 1), (9, .iload_n 2, 1), (10, .ifCond .lt 11, 3), (13, .iload_n 2, 1), (14, .aload_n 3, 1), (15, .getfield 155, 3), (18, .if_icmp .lt 13, 3), (21, .new 184, 3), (24, .dup, 1), (25, .ldc 186, 2), (27, .invokespecial 188, 3), (30, .athrow, 1), (31, .aload_n 3, 1), (32, .iload_n 2, 1), (33, .invokevirtual 189, 3), (36, .ireturn, 1)]
set_option maxRecDepth 20000 in
theorem DX6_waits : Lst YX6_waits LX6_waits := by unfold Lst; decide +kernel
def LX6_had : LI := [(0, .aload_n 0, 1), (1, .iload_n 1, 1), (2, .invokevirtual 94, 3), (5, .getfield 192, 3), (8, .lreturn, 1)]
set_option maxRecDepth 20000 in
theorem DX6_had : Lst YX6_had LX6_had := by unfold Lst; decide +kernel
def LX6_count : LI := [(0, .iload_n 1, 1), (1, .tableswitch 226 0 12 #[67, 75, 83, 97, 111, 122, 133, 144, 155, 166, 177, 199, 221], 67), (68, .aload_n 0, 1), (69, .getfield 12, 3), (72, .getfield 196, 3), (75, .ireturn, 1), (76, .aload_n 0, 1), (77, .getfield 12, 3), (80, .getfield 199, 3), (83, .ireturn, 1), (84, .aload_n 0, 1), (85, .getfield 12, 3), (88, .getfield 147, 3), (91, .getfield 151, 3), (94, .getfield 155, 3), (97, .ireturn, 1), (98, .aload_n 0, 1), (99, .getfield 12, 3), (102, .getfield 160, 3), (105, .getfield 151, 3), (108, .getfield 155, 3), (111, .ireturn, 1), (112, .aload_n 0, 1), (113, .getfield 12, 3), (116, .getfield 147, 3), (119, .getfield 202, 3), (122, .ireturn, 1), (123, .aload_n 0, 1), (124, .getfield 12, 3), (127, .getfield 160, 3), (130, .getfield 202, 3), (133, .ireturn, 1), (134, .aload_n 0, 1), (135, .getfield 12, 3), (138, .getfield 147, 3), (141, .getfield 205, 3), (144, .ireturn, 1), (145, .aload_n 0, 1), (146, .getfield 12, 3), (149, .getfield 160, 3), (152, .getfield 205, 3), (155, .ireturn, 1), (156, .aload_n 0, 1), (157, .getfield 12, 3), (160, .getfield 147, 3), (163, .invokevirtual 108, 3), (166, .ireturn, 1), (167, .aload_n 0, 1), (168, .getfield 12, 3), (171, .getfield 160, 3), (174, .invokevirtual 108, 3), (177, .ireturn, 1), (178, .aload_n 0, 1), (179, .getfield 12, 3), (182, .getfield 147, 3), (185, .invokevirtual 208, 3), (188, .aload_n 0, 1), (189, .getfield 12, 3), (192, .getfield 160, 3), (195, .invokevirtual 208, 3), (198, .iadd, 1), (199, .ireturn, 1), (200, .aload_n 0, 1), (201, .getfield 12, 3), (204, .getfield 147, 3), (207, .invokevirtual 211, 3), (210, .aload_n 0, 1), (211, .getfield 12, 3), (214, .getfield 160, 3), (217, .invokevirtual 211, 3), (220, .iadd, 1), (221, .ireturn, 1), (222, .aload_n 0, 1), (223, .getfield 169, 3), (226, .ireturn, 1), (227, .new 57, 3), (230, .dup, 1), (231, .ldc 214, 2), (233, .invokespecial 61, 3), (236, .athrow, 1)]
set_option maxRecDepth 20000 in
theorem DX6_count : Lst YX6_count LX6_count := by unfold Lst; decide +kernel
def LX6_setting : LI := [(0, .iload_n 1, 1), (1, .invokestatic 78, 3), (4, .aload_n 0, 1), (5, .getfield 12, 3), (8, .getfield 91, 3), (11, .iload_n 1, 1), (12, .iaload, 1), (13, .ireturn, 1)]
set_option maxRecDepth 20000 in
theorem DX6_setting : Lst YX6_setting LX6_setting := by unfold Lst; decide +kernel
def LX6_sure : LI := [(0, .aload_n 0, 1), (1, .iload_n 1, 1), (2, .iload_n 2, 1), (3, .invokevirtual 37, 3), (6, .invokevirtual 216, 3), (9, .ireturn, 1)]
set_option maxRecDepth 20000 in
theorem DX6_sure : Lst YX6_sure LX6_sure := by unfold Lst; decide +kernel
def LX6_rightShare : LI := [(0, .aload_n 0, 1), (1, .iload_n 1, 1), (2, .invokevirtual 94, 3), (5, .astore_n 2, 1), (6, .aload_n 2, 1), (7, .getfield 202, 3), (10, .ifCond .le 22, 3), (13, .aload_n 2, 1), (14, .getfield 202, 3), (17, .aload_n 2, 1), (18, .getfield 205, 3), (21, .isub, 1), (22, .i2d, 1), (23, .aload_n 2, 1), (24, .getfield 202, 3), (27, .i2d, 1), (28, .ddiv, 1), (29, .goto 4, 3), (32, .dconst 1, 1), (33, .dreturn, 1)]
set_option maxRecDepth 20000 in
theorem DX6_rightShare : Lst YX6_rightShare LX6_rightShare := by unfold Lst; decide +kernel
def LX6_wayOf : LI := [(0, .iload_n 1, 1), (1, .ifCond .lt 8, 3), (4, .iload_n 1, 1), (5, .iconst 2, 1), (6, .if_icmp .lt 14, 3), (9, .new 184, 3), (12, .dup, 1), (13, .ldc_w 305, 3), (16, .invokespecial 188, 3), (19, .athrow, 1), (20, .aload_n 0, 1), (21, .getfield 12, 3), (24, .iload_n 1, 1), (25, .invokevirtual 272, 3), (28, .areturn, 1)]
set_option maxRecDepth 20000 in
theorem DX6_wayOf : Lst YX6_wayOf LX6_wayOf := by unfold Lst; decide +kernel
def LX6_toneOf : LI := [(0, .aload_n 0, 1), (1, .iload_n 1, 1), (2, .invokevirtual 94, 3), (5, .astore_n 3, 1), (6, .iload_n 2, 1), (7, .ifCond .lt 9, 3), (10, .iload_n 2, 1), (11, .bipush 8, 2), (13, .if_icmp .lt 14, 3), (16, .new 184, 3), (19, .dup, 1), (20, .ldc_w 307, 3), (23, .invokespecial 188, 3), (26, .athrow, 1), (27, .aload_n 3, 1), (28, .getfield 117, 3), (31, .iload_n 2, 1), (32, .aaload, 1), (33, .areturn, 1)]
set_option maxRecDepth 20000 in
theorem DX6_toneOf : Lst YX6_toneOf LX6_toneOf := by unfold Lst; decide +kernel
def LX6_checkStreetNumber : LI := [(0, .iload_n 0, 1), (1, .ifCond .lt 8, 3), (4, .iload_n 0, 1), (5, .iconst 4, 1), (6, .if_icmp .lt 14, 3), (9, .new 57, 3), (12, .dup, 1), (13, .ldc_w 309, 3), (16, .invokespecial 61, 3), (19, .athrow, 1), (20, .iload_n 1, 1), (21, .getstatic 311, 3), (24, .iload_n 0, 1), (25, .iaload, 1), (26, .if_icmp .lt 12, 3), (29, .iload_n 1, 1), (30, .getstatic 314, 3), (33, .iload_n 0, 1), (34, .iaload, 1), (35, .if_icmp .le 14, 3), (38, .new 57, 3), (41, .dup, 1), (42, .ldc_w 317, 3), (45, .invokespecial 61, 3), (48, .athrow, 1), (49, .return_, 1)]
set_option maxRecDepth 20000 in
theorem DX6_checkStreetNumber : Lst YX6_checkStreetNumber LX6_checkStreetNumber := by unfold Lst; decide +kernel
def LX6_checkSetting : LI := [(0, .iload_n 0, 1), (1, .ifCond .lt 8, 3), (4, .iload_n 0, 1), (5, .iconst 3, 1), (6, .if_icmp .lt 14, 3), (9, .new 184, 3), (12, .dup, 1), (13, .ldc_w 319, 3), (16, .invokespecial 188, 3), (19, .athrow, 1), (20, .return_, 1)]
set_option maxRecDepth 20000 in
theorem DX6_checkSetting : Lst YX6_checkSetting LX6_checkSetting := by unfold Lst; decide +kernel
def LX6_checkBeats : LI := [(0, .iload_n 0, 1), (1, .iconst 1, 1), (2, .if_icmp .lt 9, 3), (5, .iload_n 0, 1), (6, .bipush 100, 2), (8, .if_icmp .le 14, 3), (11, .new 57, 3), (14, .dup, 1), (15, .ldc_w 321, 3), (18, .invokespecial 61, 3), (21, .athrow, 1), (22, .return_, 1)]
set_option maxRecDepth 20000 in
theorem DX6_checkBeats : Lst YX6_checkBeats LX6_checkBeats := by unfold Lst; decide +kernel
def LX6_checkBeatsLeft : LI := [(0, .aload_n 0, 1), (1, .getfield 12, 3), (4, .getfield 196, 3), (7, .iload_n 1, 1), (8, .iadd, 1), (9, .sipush 5000, 3), (12, .if_icmp .le 14, 3), (15, .new 73, 3), (18, .dup, 1), (19, .ldc_w 323, 3), (22, .invokespecial 77, 3), (25, .athrow, 1), (26, .return_, 1)]
set_option maxRecDepth 20000 in
theorem DX6_checkBeatsLeft : Lst YX6_checkBeatsLeft LX6_checkBeatsLeft := by unfold Lst; decide +kernel
def LX6_save : LI := [(0, .aload_n 0, 1), (1, .getfield 169, 3), (4, .bipush 6, 2), (6, .if_icmp .lt 7, 3), (9, .aload_n 0, 1), (10, .invokevirtual 325, 3), (13, .aload_n 0, 1), (14, .getfield 19, 3), (17, .aload_n 0, 1), (18, .getfield 169, 3), (21, .aaload, 1), (22, .aload_n 0, 1), (23, .getfield 12, 3), (26, .invokevirtual 174, 3), (29, .aload_n 0, 1), (30, .dup, 1), (31, .getfield 169, 3), (34, .iconst 1, 1), (35, .iadd, 1), (36, .putfield 169, 3), (39, .return_, 1)]
set_option maxRecDepth 20000 in
theorem DX6_save : Lst YX6_save LX6_save := by unfold Lst; decide +kernel
def LX6_dropOldest : LI := [(0, .aload_n 0, 1), (1, .getfield 19, 3), (4, .iconst 0, 1), (5, .aaload, 1), (6, .astore_n 1, 1), (7, .iconst 1, 1), (8, .istore_n 2, 1), (9, .iload_n 2, 1), (10, .bipush 6, 2), (12, .if_icmp .ge 23, 3), (15, .aload_n 0, 1), (16, .getfield 19, 3), (19, .iload_n 2, 1), (20, .iconst 1, 1), (21, .isub, 1), (22, .aload_n 0, 1), (23, .getfield 19, 3), (26, .iload_n 2, 1), (27, .aaload, 1), (28, .aastore, 1), (29, .iinc 2 1, 3), (32, .goto (-23), 3), (35, .aload_n 0, 1), (36, .getfield 19, 3), (39, .iconst 5, 1), (40, .aload_n 1, 1), (41, .aastore, 1), (42, .aload_n 0, 1), (43, .iconst 5, 1), (44, .putfield 169, 3), (47, .return_, 1)]
set_option maxRecDepth 20000 in
theorem DX6_dropOldest : Lst YX6_dropOldest LX6_dropOldest := by unfold Lst; decide +kernel
def LJ6_bitCount_0f7a4 : LI := [(0, .iload_n 0, 1), (1, .iload_n 0, 1), (2, .iconst 1, 1), (3, .iushr, 1), (4, .ldc_w 265, 3), (7, .iand, 1), (8, .isub, 1), (9, .istore_n 0, 1), (10, .iload_n 0, 1), (11, .ldc_w 266, 3), (14, .iand, 1), (15, .iload_n 0, 1), (16, .iconst 2, 1), (17, .iushr, 1), (18, .ldc_w 266, 3), (21, .iand, 1), (22, .iadd, 1), (23, .istore_n 0, 1), (24, .iload_n 0, 1), (25, .iload_n 0, 1), (26, .iconst 4, 1), (27, .iushr, 1), (28, .iadd, 1), (29, .ldc_w 267, 3), (32, .iand, 1), (33, .istore_n 0, 1), (34, .iload_n 0, 1), (35, .iload_n 0, 1), (36, .bipush 8, 2), (38, .iushr, 1), (39, .iadd, 1), (40, .istore_n 0, 1), (41, .iload_n 0, 1), (42, .iload_n 0, 1), (43, .bipush 16, 2), (45, .iushr, 1), (46, .iadd, 1), (47, .istore_n 0, 1), (48, .iload_n 0, 1), (49, .bipush 63, 2), (51, .iand, 1), (52, .ireturn, 1)]
set_option maxRecDepth 20000 in
theorem DJ6_bitCount_0f7a4 : Lst YJ6_bitCount_0f7a4 LJ6_bitCount_0f7a4 := by unfold Lst; decide +kernel
def LJ9_floorMod_7cf53 : LI := [(0, .iload_n 0, 1), (1, .iload_n 1, 1), (2, .irem, 1), (3, .istore_n 2, 1), (4, .iload_n 0, 1), (5, .iload_n 1, 1), (6, .ixor, 1), (7, .ifCond .ge 11, 3), (10, .iload_n 2, 1), (11, .ifCond .eq 7, 3), (14, .iload_n 2, 1), (15, .iload_n 1, 1), (16, .iadd, 1), (17, .ireturn, 1), (18, .iload_n 2, 1), (19, .ireturn, 1)]
set_option maxRecDepth 20000 in
theorem DJ9_floorMod_7cf53 : Lst YJ9_floorMod_7cf53 LJ9_floorMod_7cf53 := by unfold Lst; decide +kernel
def LL_cell : LI := [(0, .iload_n 1, 1), (1, .aload_n 0, 1), (2, .arraylength, 1), (3, .if_icmp .ge 9, 3), (6, .aload_n 0, 1), (7, .iload_n 1, 1), (8, .iaload, 1), (9, .goto 9, 3), (12, .ldc 7, 2), (14, .iload_n 1, 1), (15, .iconst 1, 1), (16, .iadd, 1), (17, .imul, 1), (18, .ireturn, 1)]
set_option maxRecDepth 20000 in
theorem DL_cell : Lst YL_cell LL_cell := by unfold Lst; decide +kernel
def LL_at : LI := [(0, .iload_n 0, 1), (1, .iconst 1, 1), (2, .iushr, 1), (3, .iload_n 1, 1), (4, .irem, 1), (5, .ireturn, 1)]
set_option maxRecDepth 20000 in
theorem DL_at : Lst YL_at LL_at := by unfold Lst; decide +kernel
def LL_draw : LI := [(0, .aload_n 1, 1), (1, .iconst 1, 1), (2, .ldc2_w 8, 3), (5, .aload_n 1, 1), (6, .iconst 1, 1), (7, .iaload, 1), (8, .i2l, 1), (9, .lmul, 1), (10, .ldc2_w 10, 3), (13, .ladd, 1), (14, .ldc2_w 12, 3), (17, .lrem, 1), (18, .l2i, 1), (19, .iastore, 1), (20, .aload_n 1, 1), (21, .iconst 1, 1), (22, .iaload, 1), (23, .ldc 14, 2), (25, .idiv, 1), (26, .iload_n 0, 1), (27, .irem, 1), (28, .ireturn, 1)]
set_option maxRecDepth 20000 in
theorem DL_draw : Lst YL_draw LL_draw := by unfold Lst; decide +kernel
def LL_amp : LI := [(0, .iload_n 0, 1), (1, .ifCond .ne 7, 3), (4, .iconst 0, 1), (5, .goto 18, 3), (8, .iconst 2, 1), (9, .iload_n 1, 1), (10, .imul, 1), (11, .iconst 1, 1), (12, .iadd, 1), (13, .iconst 1, 1), (14, .iload_n 0, 1), (15, .ishl, 1), (16, .isub, 1), (17, .sipush 256, 3), (20, .iload_n 0, 1), (21, .ishr, 1), (22, .imul, 1), (23, .ireturn, 1)]
set_option maxRecDepth 20000 in
theorem DL_amp : Lst YL_amp LL_amp := by unfold Lst; decide +kernel
def LL_come : LI := [(0, .iconst 4, 1), (1, .iload_n 0, 1), (2, .imul, 1), (3, .istore 5, 2), (5, .aload_n 2, 1), (6, .iload 5, 2), (8, .iaload, 1), (9, .iload_n 1, 1), (10, .imul, 1), (11, .aload_n 2, 1), (12, .iload 5, 2), (14, .iconst 1, 1), (15, .iadd, 1), (16, .iaload, 1), (17, .aload_n 3, 1), (18, .iload 5, 2), (20, .iconst 1, 1), (21, .iadd, 1), (22, .iaload, 1), (23, .imul, 1), (24, .iadd, 1), (25, .aload_n 2, 1), (26, .iload 5, 2), (28, .iconst 2, 1), (29, .iadd, 1), (30, .iaload, 1), (31, .aload_n 3, 1), (32, .iload 5, 2), (34, .iconst 2, 1), (35, .iadd, 1), (36, .iaload, 1), (37, .imul, 1), (38, .iadd, 1), (39, .bipush 64, 2), (41, .idiv, 1), (42, .istore 6, 2), (44, .iconst 2, 1), (45, .aload_n 2, 1), (46, .iload 5, 2), (48, .iconst 3, 1), (49, .iadd, 1), (50, .iaload, 1), (51, .imul, 1), (52, .iconst 1, 1), (53, .iadd, 1), (54, .aload 4, 2), (56, .invokestatic 15, 3), (59, .aload_n 2, 1), (60, .iload 5, 2), (62, .iconst 3, 1), (63, .iadd, 1), (64, .iaload, 1), (65, .isub, 1), (66, .istore 7, 2), (68, .iload 6, 2), (70, .iload 7, 2), (72, .aload_n 3, 1), (73, .iload 5, 2), (75, .iaload, 1), (76, .iadd, 1), (77, .iadd, 1), (78, .istore 6, 2), (80, .aload_n 3, 1), (81, .iload 5, 2), (83, .iconst 0, 1), (84, .iastore, 1), (85, .aload_n 3, 1), (86, .iload 5, 2), (88, .iconst 2, 1), (89, .iadd, 1), (90, .aload_n 3, 1), (91, .iload 5, 2), (93, .iconst 1, 1), (94, .iadd, 1), (95, .iaload, 1), (96, .iastore, 1), (97, .aload_n 3, 1), (98, .iload 5, 2), (100, .iconst 1, 1), (101, .iadd, 1), (102, .iload_n 1, 1), (103, .iastore, 1), (104, .iload 6, 2), (106, .ireturn, 1)]
set_option maxRecDepth 20000 in
theorem DL_come : Lst YL_come LL_come := by unfold Lst; decide +kernel
def LL_size : LI := [(0, .iload_n 0, 1), (1, .ifCond .ge 8, 3), (4, .iload_n 0, 1), (5, .ineg, 1), (6, .goto 4, 3), (9, .iload_n 0, 1), (10, .ireturn, 1)]
set_option maxRecDepth 20000 in
theorem DL_size : Lst YL_size LL_size := by unfold Lst; decide +kernel
def LL_held : LI := [(0, .iload_n 0, 1), (1, .iload_n 1, 1), (2, .if_icmp .ge 7, 3), (5, .iload_n 1, 1), (6, .goto 13, 3), (9, .iload_n 0, 1), (10, .iload_n 2, 1), (11, .if_icmp .le 7, 3), (14, .iload_n 2, 1), (15, .goto 4, 3), (18, .iload_n 0, 1), (19, .ireturn, 1)]
set_option maxRecDepth 20000 in
theorem DL_held : Lst YL_held LL_held := by unfold Lst; decide +kernel
def LL_lesson_0 : LI := [(0, .iconst 4, 1), (1, .iload_n 0, 1), (2, .imul, 1), (3, .istore 9, 2), (5, .iconst 2, 1), (6, .aload 7, 2), (8, .invokestatic 15, 3), (11, .sipush 256, 3), (14, .imul, 1), (15, .sipush 128, 3), (18, .isub, 1), (19, .istore 10, 2), (21, .aload_n 3, 1), (22, .iload 9, 2), (24, .iconst 1, 1), (25, .iadd, 1), (26, .iaload, 1), (27, .istore 11, 2), (29, .aload_n 3, 1), (30, .iload 9, 2), (32, .iconst 2, 1), (33, .iadd, 1), (34, .iaload, 1), (35, .istore 12, 2), (37, .iload_n 0, 1), (38, .iload 10, 2), (40, .aload_n 2, 1), (41, .aload_n 3, 1), (42, .aload 7, 2), (44, .invokestatic 21, 3), (47, .istore 13, 2), (49, .iload 13, 2), (51, .aload 4, 2), (53, .iload 9, 2), (55, .iaload, 1), (56, .iload 10, 2), (58, .imul, 1), (59, .aload 4, 2), (61, .iload 9, 2), (63, .iconst 1, 1), (64, .iadd, 1), (65, .iaload, 1), (66, .iload 11, 2), (68, .imul, 1), (69, .iadd, 1), (70, .aload 4, 2), (72, .iload 9, 2), (74, .iconst 2, 1), (75, .iadd, 1), (76, .iaload, 1), (77, .iload 12, 2), (79, .imul, 1), (80, .iadd, 1), (81, .bipush 64, 2), (83, .idiv, 1), (84, .isub, 1), (85, .istore 14, 2), (87, .sipush 128, 3), (90, .aload 8, 2), (92, .iconst 0, 1), (93, .iaload, 1), (94, .imul, 1), (95, .istore 15, 2), (97, .aload 4, 2), (99, .iload 9, 2), (101, .aload 4, 2), (103, .iload 9, 2), (105, .iaload, 1), (106, .iload 14, 2), (108, .iload 10, 2), (110, .imul, 1), (111, .iload 15, 2), (113, .idiv, 1), (114, .iadd, 1), (115, .bipush 8, 2), (117, .sipush 128, 3), (120, .invokestatic 25, 3), (123, .iastore, 1), (124, .aload 4, 2), (126, .iload 9, 2), (128, .iconst 1, 1), (129, .iadd, 1), (130, .aload 4, 2), (132, .iload 9, 2), (134, .iconst 1, 1), (135, .iadd, 1), (136, .iaload, 1), (137, .iload 14, 2), (139, .iload 11, 2), (141, .imul, 1), (142, .iload 15, 2), (144, .idiv, 1), (145, .iadd, 1), (146, .bipush (-48), 2), (148, .bipush 48, 2), (150, .invokestatic 25, 3), (153, .iastore, 1), (154, .aload 4, 2), (156, .iload 9, 2), (158, .iconst 2, 1), (159, .iadd, 1), (160, .aload 4, 2), (162, .iload 9, 2), (164, .iconst 2, 1), (165, .iadd, 1), (166, .iaload, 1), (167, .iload 14, 2), (169, .iload 12, 2), (171, .imul, 1), (172, .iload 15, 2), (174, .idiv, 1), (175, .iadd, 1), (176, .bipush (-48), 2), (178, .bipush 48, 2), (180, .invokestatic 25, 3), (183, .iastore, 1), (184, .aload 5, 2), (186, .iconst 2, 1), (187, .iload_n 0, 1), (188, .imul, 1)]
set_option maxRecDepth 20000 in
theorem DL_lesson_0 : Lst YL_lesson LL_lesson_0 := by unfold Lst; decide +kernel
def LL_lesson_1 : LI := [(189, .iload 10, 2), (191, .iastore, 1), (192, .aload 5, 2), (194, .iconst 2, 1), (195, .iload_n 0, 1), (196, .imul, 1), (197, .iconst 1, 1), (198, .iadd, 1), (199, .iload 11, 2), (201, .iastore, 1), (202, .aload 6, 2), (204, .iload_n 0, 1), (205, .bipush 8, 2), (207, .irem, 1), (208, .bipush 8, 2), (210, .imul, 1), (211, .iload_n 1, 1), (212, .bipush 8, 2), (214, .irem, 1), (215, .iadd, 1), (216, .iload 14, 2), (218, .invokestatic 29, 3), (221, .iastore, 1), (222, .return_, 1)]
set_option maxRecDepth 20000 in
theorem DL_lesson_1 : Lst YL_lesson LL_lesson_1 := by unfold Lst; decide +kernel
def LL_learn_0 : LI := [(0, .iconst 0, 1), (1, .istore 10, 2), (3, .iload 10, 2), (5, .iload_n 1, 1), (6, .if_icmp .ge 49, 3), (9, .iconst 0, 1), (10, .istore 11, 2), (12, .iload 11, 2), (14, .bipush 8, 2), (16, .if_icmp .ge 33, 3), (19, .bipush 8, 2), (21, .iload_n 0, 1), (22, .imul, 1), (23, .iload 11, 2), (25, .iadd, 1), (26, .iload 10, 2), (28, .aload_n 2, 1), (29, .aload_n 3, 1), (30, .aload 4, 2), (32, .aload 6, 2), (34, .aload 7, 2), (36, .aload 8, 2), (38, .aload 9, 2), (40, .invokestatic 33, 3), (43, .iinc 11 1, 3), (46, .goto (-34), 3), (49, .iinc 10 1, 3), (52, .goto (-49), 3), (55, .iconst 0, 1), (56, .istore 10, 2), (58, .iconst 0, 1), (59, .istore 11, 2), (61, .iload 11, 2), (63, .bipush 8, 2), (65, .if_icmp .ge 163, 3), (68, .iconst 4, 1), (69, .bipush 8, 2), (71, .iload_n 0, 1), (72, .imul, 1), (73, .iload 11, 2), (75, .iadd, 1), (76, .imul, 1), (77, .istore 12, 2), (79, .iconst 0, 1), (80, .istore 13, 2), (82, .iconst 0, 1), (83, .istore 14, 2), (85, .iload 14, 2), (87, .bipush 8, 2), (89, .if_icmp .ge 49, 3), (92, .iload 14, 2), (94, .iload_n 1, 1), (95, .if_icmp .ge 43, 3), (98, .aload 7, 2), (100, .bipush 8, 2), (102, .iload 11, 2), (104, .imul, 1), (105, .iload 14, 2), (107, .iadd, 1), (108, .iaload, 1), (109, .iload 13, 2), (111, .if_icmp .le 17, 3), (114, .aload 7, 2), (116, .bipush 8, 2), (118, .iload 11, 2), (120, .imul, 1), (121, .iload 14, 2), (123, .iadd, 1), (124, .iaload, 1), (125, .goto 5, 3), (128, .iload 13, 2), (130, .istore 13, 2), (132, .iinc 14 1, 3), (135, .goto (-50), 3), (138, .aload_n 3, 1), (139, .iload 12, 2), (141, .iconst 3, 1), (142, .iadd, 1), (143, .iload 13, 2), (145, .iastore, 1), (146, .iconst 0, 1), (147, .istore 14, 2), (149, .iconst 1, 1), (150, .istore 15, 2), (152, .iload 15, 2), (154, .iconst 4, 1), (155, .if_icmp .gt 45, 3), (158, .iload 13, 2), (160, .aload 9, 2), (162, .iconst 1, 1), (163, .iaload, 1), (164, .imul, 1), (165, .iconst 4, 1), (166, .idiv, 1), (167, .sipush 256, 3), (170, .iload 15, 2), (172, .ishr, 1), (173, .aload 4, 2), (175, .iload 12, 2), (177, .iaload, 1), (178, .imul, 1), (179, .bipush 64, 2), (181, .idiv, 1), (182, .if_icmp .ge 8, 3), (185, .iload 15, 2), (187, .goto 5, 3), (190, .iload 14, 2), (192, .istore 14, 2), (194, .iinc 15 1, 3), (197, .goto (-45), 3), (200, .aload 4, 2), (202, .iload 12, 2), (204, .iconst 3, 1), (205, .iadd, 1), (206, .iload 14, 2), (208, .iastore, 1), (209, .aload 5, 2), (211, .iload 12, 2), (213, .iconst 0, 1), (214, .iastore, 1)]
set_option maxRecDepth 20000 in
theorem DL_learn_0 : Lst YL_learn LL_learn_0 := by unfold Lst; decide +kernel
def LL_learn_1 : LI := [(215, .iload 10, 2), (217, .iload 14, 2), (219, .iadd, 1), (220, .istore 10, 2), (222, .iinc 11 1, 3), (225, .goto (-164), 3), (228, .aload 8, 2), (230, .iconst 0, 1), (231, .dup2, 1), (232, .iaload, 1), (233, .iload_n 1, 1), (234, .iadd, 1), (235, .iastore, 1), (236, .iload 10, 2), (238, .ireturn, 1)]
set_option maxRecDepth 20000 in
theorem DL_learn_1 : Lst YL_learn LL_learn_1 := by unfold Lst; decide +kernel
def LL_next : LI := [(0, .aload_n 2, 1), (1, .iconst 2, 1), (2, .iload_n 0, 1), (3, .iadd, 1), (4, .iaload, 1), (5, .ifCond .ne 5, 3), (8, .iconst 0, 1), (9, .ireturn, 1), (10, .aload_n 1, 1), (11, .bipush 32, 2), (13, .iload_n 0, 1), (14, .imul, 1), (15, .iaload, 1), (16, .istore_n 3, 1), (17, .aload_n 2, 1), (18, .iconst 2, 1), (19, .iload_n 0, 1), (20, .iadd, 1), (21, .dup2, 1), (22, .iaload, 1), (23, .iconst 1, 1), (24, .isub, 1), (25, .iastore, 1), (26, .iconst 0, 1), (27, .istore 4, 2), (29, .iload 4, 2), (31, .aload_n 2, 1), (32, .iconst 2, 1), (33, .iload_n 0, 1), (34, .iadd, 1), (35, .iaload, 1), (36, .if_icmp .ge 29, 3), (39, .aload_n 1, 1), (40, .bipush 32, 2), (42, .iload_n 0, 1), (43, .imul, 1), (44, .iload 4, 2), (46, .iadd, 1), (47, .aload_n 1, 1), (48, .bipush 32, 2), (50, .iload_n 0, 1), (51, .imul, 1), (52, .iload 4, 2), (54, .iadd, 1), (55, .iconst 1, 1), (56, .iadd, 1), (57, .iaload, 1), (58, .iastore, 1), (59, .iinc 4 1, 3), (62, .goto (-33), 3), (65, .iload_n 3, 1), (66, .ireturn, 1)]
set_option maxRecDepth 20000 in
theorem DL_next : Lst YL_next LL_next := by unfold Lst; decide +kernel
def LL_taken : LI := [(0, .iconst 4, 1), (1, .iload_n 0, 1), (2, .imul, 1), (3, .istore 4, 2), (5, .iload_n 1, 1), (6, .aload_n 2, 1), (7, .iload 4, 2), (9, .iconst 1, 1), (10, .iadd, 1), (11, .iaload, 1), (12, .aload_n 3, 1), (13, .iconst 2, 1), (14, .iload_n 0, 1), (15, .imul, 1), (16, .iaload, 1), (17, .imul, 1), (18, .aload_n 2, 1), (19, .iload 4, 2), (21, .iconst 2, 1), (22, .iadd, 1), (23, .iaload, 1), (24, .aload_n 3, 1), (25, .iconst 2, 1), (26, .iload_n 0, 1), (27, .imul, 1), (28, .iconst 1, 1), (29, .iadd, 1), (30, .iaload, 1), (31, .imul, 1), (32, .iadd, 1), (33, .bipush 64, 2), (35, .idiv, 1), (36, .isub, 1), (37, .bipush 64, 2), (39, .imul, 1), (40, .aload_n 2, 1), (41, .iload 4, 2), (43, .iaload, 1), (44, .idiv, 1), (45, .istore 5, 2), (47, .iconst 0, 1), (48, .istore 6, 2), (50, .iconst 0, 1), (51, .istore 7, 2), (53, .iload 7, 2), (55, .iconst 1, 1), (56, .aload_n 2, 1), (57, .iload 4, 2), (59, .iconst 3, 1), (60, .iadd, 1), (61, .iaload, 1), (62, .ishl, 1), (63, .if_icmp .ge 50, 3), (66, .aload_n 2, 1), (67, .iload 4, 2), (69, .iconst 3, 1), (70, .iadd, 1), (71, .iaload, 1), (72, .iload 7, 2), (74, .invokestatic 37, 3), (77, .iload 5, 2), (79, .isub, 1), (80, .invokestatic 29, 3), (83, .aload_n 2, 1), (84, .iload 4, 2), (86, .iconst 3, 1), (87, .iadd, 1), (88, .iaload, 1), (89, .iload 6, 2), (91, .invokestatic 37, 3), (94, .iload 5, 2), (96, .isub, 1), (97, .invokestatic 29, 3), (100, .if_icmp .ge 7, 3), (103, .iload 7, 2), (105, .istore 6, 2), (107, .iinc 7 1, 3), (110, .goto (-57), 3), (113, .iload 6, 2), (115, .ireturn, 1)]
set_option maxRecDepth 20000 in
theorem DL_taken : Lst YL_taken LL_taken := by unfold Lst; decide +kernel
def LL_sign_0 : LI := [(0, .iconst 4, 1), (1, .iload_n 0, 1), (2, .imul, 1), (3, .istore 9, 2), (5, .iload_n 0, 1), (6, .bipush 8, 2), (8, .idiv, 1), (9, .istore 10, 2), (11, .aload_n 3, 1), (12, .iload 9, 2), (14, .iconst 3, 1), (15, .iadd, 1), (16, .iaload, 1), (17, .istore 11, 2), (19, .iconst 0, 1), (20, .istore 12, 2), (22, .iconst 0, 1), (23, .istore 13, 2), (25, .iload 13, 2), (27, .iload 11, 2), (29, .if_icmp .ge 25, 3), (32, .iload 12, 2), (34, .iconst 1, 1), (35, .ishl, 1), (36, .iload 10, 2), (38, .aload 6, 2), (40, .aload 7, 2), (42, .invokestatic 41, 3), (45, .ior, 1), (46, .istore 12, 2), (48, .iinc 13 1, 3), (51, .goto (-26), 3), (54, .iload_n 0, 1), (55, .iload_n 0, 1), (56, .iload 11, 2), (58, .iload 12, 2), (60, .invokestatic 37, 3), (63, .aload_n 1, 1), (64, .aload_n 2, 1), (65, .aload 7, 2), (67, .invokestatic 21, 3), (70, .aload_n 3, 1), (71, .aload 5, 2), (73, .invokestatic 45, 3), (76, .istore 13, 2), (78, .iconst 0, 1), (79, .istore 14, 2), (81, .iconst 0, 1), (82, .istore 15, 2), (84, .iload 15, 2), (86, .iload 11, 2), (88, .if_icmp .ge 24, 3), (91, .iload 14, 2), (93, .iload 12, 2), (95, .iload 13, 2), (97, .ixor, 1), (98, .iload 15, 2), (100, .ishr, 1), (101, .iconst 1, 1), (102, .iand, 1), (103, .iadd, 1), (104, .istore 14, 2), (106, .iinc 15 1, 3), (109, .goto (-25), 3), (112, .aload 5, 2), (114, .iconst 2, 1), (115, .iload_n 0, 1), (116, .imul, 1), (117, .iconst 1, 1), (118, .iadd, 1), (119, .aload 5, 2), (121, .iconst 2, 1), (122, .iload_n 0, 1), (123, .imul, 1), (124, .iaload, 1), (125, .iastore, 1), (126, .aload 5, 2), (128, .iconst 2, 1), (129, .iload_n 0, 1), (130, .imul, 1), (131, .iload 11, 2), (133, .iload 13, 2), (135, .invokestatic 37, 3), (138, .iastore, 1), (139, .aload 4, 2), (141, .iload 9, 2), (143, .dup2, 1), (144, .iaload, 1), (145, .iload 14, 2), (147, .ifCond .le 7, 3), (150, .iconst 1, 1), (151, .goto 4, 3), (154, .iconst 0, 1), (155, .iadd, 1), (156, .iastore, 1), (157, .aload 4, 2), (159, .iload 9, 2), (161, .iconst 2, 1), (162, .iadd, 1), (163, .dup2, 1), (164, .iaload, 1), (165, .iload 11, 2), (167, .ifCond .le 7, 3), (170, .iconst 1, 1), (171, .goto 4, 3), (174, .iconst 0, 1), (175, .iadd, 1), (176, .iastore, 1), (177, .aload 4, 2), (179, .iload 9, 2), (181, .iconst 3, 1), (182, .iadd, 1), (183, .dup2, 1), (184, .iaload, 1), (185, .iload 14, 2), (187, .ifCond .le 7, 3), (190, .iconst 1, 1), (191, .goto 4, 3), (194, .iconst 0, 1), (195, .iadd, 1)]
set_option maxRecDepth 20000 in
theorem DL_sign_0 : Lst YL_sign LL_sign_0 := by unfold Lst; decide +kernel
def LL_sign_1 : LI := [(196, .iastore, 1), (197, .aload 7, 2), (199, .iconst 4, 1), (200, .iload 10, 2), (202, .iadd, 1), (203, .dup2, 1), (204, .iaload, 1), (205, .iload 11, 2), (207, .iadd, 1), (208, .iastore, 1), (209, .aload 7, 2), (211, .bipush 6, 2), (213, .iload 10, 2), (215, .iadd, 1), (216, .dup2, 1), (217, .iaload, 1), (218, .iload 14, 2), (220, .iadd, 1), (221, .iastore, 1), (222, .aload 8, 2), (224, .iload 10, 2), (226, .aload 8, 2), (228, .iload 10, 2), (230, .laload, 1), (231, .iload 11, 2), (233, .lshl, 1), (234, .iload 13, 2), (236, .i2l, 1), (237, .lor, 1), (238, .ldc2_w 49, 3), (241, .land, 1), (242, .lastore, 1), (243, .iload 14, 2), (245, .ireturn, 1)]
set_option maxRecDepth 20000 in
theorem DL_sign_1 : Lst YL_sign LL_sign_1 := by unfold Lst; decide +kernel
def LL_send : LI := [(0, .iconst 0, 1), (1, .istore 11, 2), (3, .iconst 0, 1), (4, .istore 12, 2), (6, .iload 12, 2), (8, .iload_n 1, 1), (9, .if_icmp .ge 134, 3), (12, .iconst 0, 1), (13, .istore 13, 2), (15, .iload 13, 2), (17, .bipush 8, 2), (19, .if_icmp .ge 38, 3), (22, .iload 11, 2), (24, .bipush 8, 2), (26, .iload_n 0, 1), (27, .imul, 1), (28, .iload 13, 2), (30, .iadd, 1), (31, .aload_n 2, 1), (32, .aload_n 3, 1), (33, .aload 4, 2), (35, .aload 5, 2), (37, .aload 6, 2), (39, .aload 7, 2), (41, .aload 8, 2), (43, .aload 10, 2), (45, .invokestatic 51, 3), (48, .iadd, 1), (49, .istore 11, 2), (51, .iinc 13 1, 3), (54, .goto (-39), 3), (57, .iconst 0, 1), (58, .istore 13, 2), (60, .iload 13, 2), (62, .bipush 8, 2), (64, .if_icmp .ge 73, 3), (67, .iconst 4, 1), (68, .bipush 8, 2), (70, .iload_n 0, 1), (71, .imul, 1), (72, .iload 13, 2), (74, .iadd, 1), (75, .imul, 1), (76, .istore 14, 2), (78, .aload 4, 2), (80, .iload 14, 2), (82, .iconst 3, 1), (83, .iadd, 1), (84, .iaload, 1), (85, .ifCond .eq 46, 3), (88, .aload 5, 2), (90, .iload 14, 2), (92, .iaload, 1), (93, .aload 9, 2), (95, .iconst 2, 1), (96, .iaload, 1), (97, .if_icmp .ge 6, 3), (100, .goto 31, 3), (103, .aload 4, 2), (105, .iload 14, 2), (107, .iconst 3, 1), (108, .iadd, 1), (109, .dup2, 1), (110, .iaload, 1), (111, .iconst 1, 1), (112, .isub, 1), (113, .iastore, 1), (114, .aload 5, 2), (116, .iload 14, 2), (118, .iconst 0, 1), (119, .iastore, 1), (120, .aload 5, 2), (122, .iload 14, 2), (124, .iconst 1, 1), (125, .iadd, 1), (126, .dup2, 1), (127, .iaload, 1), (128, .iconst 1, 1), (129, .iadd, 1), (130, .iastore, 1), (131, .iinc 13 1, 3), (134, .goto (-74), 3), (137, .iinc 12 1, 3), (140, .goto (-134), 3), (143, .aload 8, 2), (145, .iconst 0, 1), (146, .dup2, 1), (147, .iaload, 1), (148, .iload_n 1, 1), (149, .iadd, 1), (150, .iastore, 1), (151, .iload 11, 2), (153, .ireturn, 1)]
set_option maxRecDepth 20000 in
theorem DL_send : Lst YL_send LL_send := by unfold Lst; decide +kernel
def LL_sure : LI := [(0, .iconst 4, 1), (1, .iload_n 0, 1), (2, .imul, 1), (3, .istore_n 3, 1), (4, .iconst 0, 1), (5, .istore 4, 2), (7, .iconst 1, 1), (8, .istore 5, 2), (10, .iload 5, 2), (12, .iconst 4, 1), (13, .if_icmp .gt 108, 3), (16, .sipush 256, 3), (19, .iload 5, 2), (21, .ishr, 1), (22, .istore 6, 2), (24, .aload_n 1, 1), (25, .iload_n 3, 1), (26, .iaload, 1), (27, .aload_n 2, 1), (28, .iload_n 3, 1), (29, .iaload, 1), (30, .isub, 1), (31, .invokestatic 29, 3), (34, .sipush 256, 3), (37, .iload 6, 2), (39, .isub, 1), (40, .imul, 1), (41, .aload_n 1, 1), (42, .iload_n 3, 1), (43, .iconst 1, 1), (44, .iadd, 1), (45, .iaload, 1), (46, .aload_n 2, 1), (47, .iload_n 3, 1), (48, .iconst 1, 1), (49, .iadd, 1), (50, .iaload, 1), (51, .isub, 1), (52, .invokestatic 29, 3), (55, .sipush 256, 3), (58, .imul, 1), (59, .iadd, 1), (60, .aload_n 1, 1), (61, .iload_n 3, 1), (62, .iconst 2, 1), (63, .iadd, 1), (64, .iaload, 1), (65, .aload_n 2, 1), (66, .iload_n 3, 1), (67, .iconst 2, 1), (68, .iadd, 1), (69, .iaload, 1), (70, .isub, 1), (71, .invokestatic 29, 3), (74, .sipush 256, 3), (77, .imul, 1), (78, .iadd, 1), (79, .bipush 64, 2), (81, .idiv, 1), (82, .aload_n 1, 1), (83, .iload_n 3, 1), (84, .iconst 3, 1), (85, .iadd, 1), (86, .iaload, 1), (87, .iadd, 1), (88, .iconst 4, 1), (89, .iadd, 1), (90, .istore 7, 2), (92, .iload 7, 2), (94, .iload 6, 2), (96, .aload_n 2, 1), (97, .iload_n 3, 1), (98, .iaload, 1), (99, .imul, 1), (100, .bipush 64, 2), (102, .idiv, 1), (103, .if_icmp .ge 8, 3), (106, .iload 5, 2), (108, .goto 5, 3), (111, .iload 4, 2), (113, .istore 4, 2), (115, .iinc 5 1, 3), (118, .goto (-108), 3), (121, .iload 4, 2), (123, .ireturn, 1)]
set_option maxRecDepth 20000 in
theorem DL_sure : Lst YL_sure LL_sure := by unfold Lst; decide +kernel
def LL_lines_0 : LI := [(0, .iconst 0, 1), (1, .istore 6, 2), (3, .iload 6, 2), (5, .bipush 16, 2), (7, .if_icmp .ge 249, 3), (10, .iload 6, 2), (12, .bipush 8, 2), (14, .idiv, 1), (15, .istore 7, 2), (17, .iload 6, 2), (19, .bipush 8, 2), (21, .irem, 1), (22, .istore 8, 2), (24, .iconst 0, 1), (25, .istore 9, 2), (27, .iload 9, 2), (29, .iconst 4, 1), (30, .if_icmp .ge 55, 3), (33, .aload_n 0, 1), (34, .iload 7, 2), (36, .iload 8, 2), (38, .iload 9, 2), (40, .invokevirtual 55, 3), (43, .aload_n 1, 1), (44, .iconst 4, 1), (45, .iload 6, 2), (47, .imul, 1), (48, .iload 9, 2), (50, .iadd, 1), (51, .iaload, 1), (52, .if_icmp .ne 25, 3), (55, .aload_n 0, 1), (56, .iload 7, 2), (58, .iload 8, 2), (60, .iload 9, 2), (62, .invokevirtual 60, 3), (65, .aload_n 3, 1), (66, .iconst 4, 1), (67, .iload 6, 2), (69, .imul, 1), (70, .iload 9, 2), (72, .iadd, 1), (73, .iaload, 1), (74, .if_icmp .eq 5, 3), (77, .iconst 0, 1), (78, .ireturn, 1), (79, .iinc 9 1, 3), (82, .goto (-55), 3), (85, .iconst 0, 1), (86, .istore 9, 2), (88, .iload 9, 2), (90, .iconst 3, 1), (91, .if_icmp .ge 35, 3), (94, .aload_n 0, 1), (95, .iload 7, 2), (97, .iload 8, 2), (99, .iload 9, 2), (101, .iconst 4, 1), (102, .iadd, 1), (103, .invokevirtual 55, 3), (106, .aload_n 2, 1), (107, .iconst 4, 1), (108, .iload 6, 2), (110, .imul, 1), (111, .iload 9, 2), (113, .iadd, 1), (114, .iaload, 1), (115, .if_icmp .eq 5, 3), (118, .iconst 0, 1), (119, .ireturn, 1), (120, .iinc 9 1, 3), (123, .goto (-35), 3), (126, .iconst 0, 1), (127, .istore 9, 2), (129, .iload 9, 2), (131, .iconst 4, 1), (132, .if_icmp .ge 36, 3), (135, .aload_n 0, 1), (136, .iload 7, 2), (138, .iload 8, 2), (140, .iload 9, 2), (142, .iconst 5, 1), (143, .iadd, 1), (144, .invokevirtual 60, 3), (147, .aload 4, 2), (149, .iconst 4, 1), (150, .iload 6, 2), (152, .imul, 1), (153, .iload 9, 2), (155, .iadd, 1), (156, .iaload, 1), (157, .if_icmp .eq 5, 3), (160, .iconst 0, 1), (161, .ireturn, 1), (162, .iinc 9 1, 3), (165, .goto (-36), 3), (168, .aload_n 0, 1), (169, .iload 7, 2), (171, .iload 8, 2), (173, .iconst 4, 1), (174, .invokevirtual 60, 3), (177, .aload_n 2, 1), (178, .iconst 4, 1), (179, .iload 6, 2), (181, .imul, 1), (182, .iconst 3, 1), (183, .iadd, 1), (184, .iaload, 1), (185, .if_icmp .ne 63, 3), (188, .aload_n 0, 1), (189, .iload 7, 2), (191, .iload 8, 2), (193, .bipush 9, 2), (195, .invokevirtual 60, 3), (198, .aload 5, 2), (200, .iconst 2, 1), (201, .iload 6, 2), (203, .imul, 1), (204, .iaload, 1), (205, .if_icmp .ne 43, 3)]
set_option maxRecDepth 20000 in
theorem DL_lines_0 : Lst YL_lines LL_lines_0 := by unfold Lst; decide +kernel
def LL_lines_1 : LI := [(208, .aload_n 0, 1), (209, .iload 7, 2), (211, .iload 8, 2), (213, .bipush 10, 2), (215, .invokevirtual 60, 3), (218, .aload 5, 2), (220, .iconst 2, 1), (221, .iload 6, 2), (223, .imul, 1), (224, .iconst 1, 1), (225, .iadd, 1), (226, .iaload, 1), (227, .if_icmp .ne 21, 3), (230, .aload_n 0, 1), (231, .iload 7, 2), (233, .iload 8, 2), (235, .invokevirtual 63, 3), (238, .iload 6, 2), (240, .aload_n 1, 1), (241, .aload_n 3, 1), (242, .invokestatic 66, 3), (245, .if_icmp .eq 5, 3), (248, .iconst 0, 1), (249, .ireturn, 1), (250, .iinc 6 1, 3), (253, .goto (-250), 3), (256, .iconst 1, 1), (257, .ireturn, 1)]
set_option maxRecDepth 20000 in
theorem DL_lines_1 : Lst YL_lines LL_lines_1 := by unfold Lst; decide +kernel
def LL_carried : LI := [(0, .iconst 0, 1), (1, .istore_n 2, 1), (2, .iconst 0, 1), (3, .istore_n 3, 1), (4, .iload_n 3, 1), (5, .bipush 8, 2), (7, .if_icmp .ge 24, 3), (10, .iload_n 2, 1), (11, .aload_n 1, 1), (12, .iconst 4, 1), (13, .bipush 8, 2), (15, .iload_n 0, 1), (16, .imul, 1), (17, .iload_n 3, 1), (18, .iadd, 1), (19, .imul, 1), (20, .iconst 3, 1), (21, .iadd, 1), (22, .iaload, 1), (23, .iadd, 1), (24, .istore_n 2, 1), (25, .iinc 3 1, 3), (28, .goto (-24), 3), (31, .iload_n 2, 1), (32, .ireturn, 1)]
set_option maxRecDepth 20000 in
theorem DL_carried : Lst YL_carried LL_carried := by unfold Lst; decide +kernel
def LL_told_0 : LI := [(0, .aload_n 0, 1), (1, .aload_n 1, 1), (2, .aload_n 2, 1), (3, .aload_n 3, 1), (4, .aload 4, 2), (6, .aload 5, 2), (8, .invokestatic 68, 3), (11, .ifCond .ne 5, 3), (14, .iconst 0, 1), (15, .ireturn, 1), (16, .iconst 0, 1), (17, .istore 10, 2), (19, .iload 10, 2), (21, .bipush 8, 2), (23, .if_icmp .ge 25, 3), (26, .aload_n 0, 1), (27, .iload 10, 2), (29, .invokevirtual 72, 3), (32, .aload 7, 2), (34, .iload 10, 2), (36, .iaload, 1), (37, .if_icmp .eq 5, 3), (40, .iconst 0, 1), (41, .ireturn, 1), (42, .iinc 10 1, 3), (45, .goto (-26), 3), (48, .iconst 0, 1), (49, .istore 10, 2), (51, .iload 10, 2), (53, .iconst 3, 1), (54, .if_icmp .ge 25, 3), (57, .aload_n 0, 1), (58, .iload 10, 2), (60, .invokevirtual 75, 3), (63, .aload 8, 2), (65, .iload 10, 2), (67, .iaload, 1), (68, .if_icmp .eq 5, 3), (71, .iconst 0, 1), (72, .ireturn, 1), (73, .iinc 10 1, 3), (76, .goto (-25), 3), (79, .iconst 0, 1), (80, .istore 10, 2), (82, .iconst 0, 1), (83, .istore 11, 2), (85, .iconst 0, 1), (86, .istore 12, 2), (88, .iload 12, 2), (90, .bipush 16, 2), (92, .if_icmp .ge 42, 3), (95, .iload 10, 2), (97, .aload 4, 2), (99, .iconst 4, 1), (100, .iload 12, 2), (102, .imul, 1), (103, .iconst 1, 1), (104, .iadd, 1), (105, .iaload, 1), (106, .iadd, 1), (107, .istore 10, 2), (109, .iload 11, 2), (111, .aload_n 2, 1), (112, .iconst 4, 1), (113, .iload 12, 2), (115, .imul, 1), (116, .iaload, 1), (117, .ifCond .eq 7, 3), (120, .iconst 1, 1), (121, .goto 4, 3), (124, .iconst 0, 1), (125, .iadd, 1), (126, .istore 11, 2), (128, .iinc 12 1, 3), (131, .goto (-43), 3), (134, .aload_n 0, 1), (135, .bipush 10, 2), (137, .invokevirtual 72, 3), (140, .iload 10, 2), (142, .if_icmp .ne 14, 3), (145, .aload_n 0, 1), (146, .bipush 11, 2), (148, .invokevirtual 72, 3), (151, .iload 11, 2), (153, .if_icmp .eq 5, 3), (156, .iconst 0, 1), (157, .ireturn, 1), (158, .iconst 0, 1), (159, .istore 12, 2), (161, .iload 12, 2), (163, .iconst 2, 1), (164, .if_icmp .ge 141, 3), (167, .iconst 0, 1), (168, .istore 13, 2), (170, .iload 13, 2), (172, .aload 7, 2), (174, .iconst 2, 1), (175, .iload 12, 2), (177, .iadd, 1), (178, .iaload, 1), (179, .if_icmp .ge 33, 3), (182, .aload_n 0, 1), (183, .iload 12, 2), (185, .iload 13, 2), (187, .invokevirtual 78, 3), (190, .aload 6, 2), (192, .bipush 32, 2), (194, .iload 12, 2), (196, .imul, 1), (197, .iload 13, 2), (199, .iadd, 1), (200, .iaload, 1), (201, .if_icmp .eq 5, 3), (204, .iconst 0, 1), (205, .ireturn, 1), (206, .iinc 13 1, 3), (209, .goto (-39), 3), (212, .aload_n 0, 1), (213, .iload 12, 2), (215, .invokevirtual 81, 3)]
set_option maxRecDepth 20000 in
theorem DL_told_0 : Lst YL_told LL_told_0 := by unfold Lst; decide +kernel
def LL_told_1 : LI := [(218, .aload 9, 2), (220, .iload 12, 2), (222, .laload, 1), (223, .lcmp, 1), (224, .ifCond .ne 73, 3), (227, .aload_n 0, 1), (228, .bipush 8, 2), (230, .iload 12, 2), (232, .iadd, 1), (233, .invokevirtual 72, 3), (236, .iload 12, 2), (238, .aload_n 3, 1), (239, .invokestatic 85, 3), (242, .if_icmp .ne 55, 3), (245, .aload_n 0, 1), (246, .iload 12, 2), (248, .invokevirtual 88, 3), (251, .aload 7, 2), (253, .iconst 4, 1), (254, .iload 12, 2), (256, .iadd, 1), (257, .iaload, 1), (258, .ifCond .ne 7, 3), (261, .dconst 1, 1), (262, .goto 31, 3), (265, .aload 7, 2), (267, .iconst 4, 1), (268, .iload 12, 2), (270, .iadd, 1), (271, .iaload, 1), (272, .aload 7, 2), (274, .bipush 6, 2), (276, .iload 12, 2), (278, .iadd, 1), (279, .iaload, 1), (280, .isub, 1), (281, .i2d, 1), (282, .dconst 1, 1), (283, .dmul, 1), (284, .aload 7, 2), (286, .iconst 4, 1), (287, .iload 12, 2), (289, .iadd, 1), (290, .iaload, 1), (291, .i2d, 1), (292, .ddiv, 1), (293, .dcmp .l, 1), (294, .ifCond .eq 5, 3), (297, .iconst 0, 1), (298, .ireturn, 1), (299, .iinc 12 1, 3), (302, .goto (-141), 3), (305, .iconst 1, 1), (306, .ireturn, 1)]
set_option maxRecDepth 20000 in
theorem DL_told_1 : Lst YL_told LL_told_1 := by unfold Lst; decide +kernel
def LL_say_0 : LI := [(0, .aload_n 0, 1), (1, .invokevirtual 92, 3), (4, .pop, 1), (5, .iload_n 1, 1), (6, .iconst 1, 1), (7, .iand, 1), (8, .istore 5, 2), (10, .iconst 1, 1), (11, .iload_n 1, 1), (12, .iconst 3, 1), (13, .ishr, 1), (14, .iconst 3, 1), (15, .invokestatic 96, 3), (18, .iadd, 1), (19, .istore 6, 2), (21, .aload 4, 2), (23, .iconst 2, 1), (24, .iload 5, 2), (26, .iadd, 1), (27, .iaload, 1), (28, .iconst 4, 1), (29, .iload 6, 2), (31, .imul, 1), (32, .iadd, 1), (33, .bipush 32, 2), (35, .if_icmp .le 5, 3), (38, .iconst 1, 1), (39, .ireturn, 1), (40, .aload_n 0, 1), (41, .bipush 97, 2), (43, .iload 5, 2), (45, .iadd, 1), (46, .invokevirtual 99, 3), (49, .iconst 1, 1), (50, .if_icmp .ne 17, 3), (53, .aload_n 0, 1), (54, .bipush 58, 2), (56, .invokevirtual 99, 3), (59, .iconst 2, 1), (60, .if_icmp .ne 7, 3), (63, .iconst 1, 1), (64, .goto 4, 3), (67, .iconst 0, 1), (68, .istore 7, 2), (70, .iconst 0, 1), (71, .istore 8, 2), (73, .iload 8, 2), (75, .iload 6, 2), (77, .if_icmp .ge 110, 3), (80, .iload 7, 2), (82, .ifCond .eq 105, 3), (85, .iload_n 2, 1), (86, .iconst 4, 1), (87, .iload 8, 2), (89, .imul, 1), (90, .ishr, 1), (91, .bipush 15, 2), (93, .iand, 1), (94, .istore 9, 2), (96, .aload_n 0, 1), (97, .iload 9, 2), (99, .bipush 10, 2), (101, .if_icmp .ge 11, 3), (104, .bipush 48, 2), (106, .iload 9, 2), (108, .iadd, 1), (109, .goto 8, 3), (112, .bipush 87, 2), (114, .iload 9, 2), (116, .iadd, 1), (117, .invokevirtual 99, 3), (120, .iload 8, 2), (122, .iconst 3, 1), (123, .iadd, 1), (124, .if_icmp .ne 7, 3), (127, .iconst 1, 1), (128, .goto 4, 3), (131, .iconst 0, 1), (132, .istore 7, 2), (134, .iconst 3, 1), (135, .istore 10, 2), (137, .iload 10, 2), (139, .ifCond .lt 42, 3), (142, .aload_n 3, 1), (143, .bipush 32, 2), (145, .iload 5, 2), (147, .imul, 1), (148, .aload 4, 2), (150, .iconst 2, 1), (151, .iload 5, 2), (153, .iadd, 1), (154, .iaload, 1), (155, .iadd, 1), (156, .iload 9, 2), (158, .iload 10, 2), (160, .ishr, 1), (161, .iconst 1, 1), (162, .iand, 1), (163, .iastore, 1), (164, .aload 4, 2), (166, .iconst 2, 1), (167, .iload 5, 2), (169, .iadd, 1), (170, .dup2, 1), (171, .iaload, 1), (172, .iconst 1, 1), (173, .iadd, 1), (174, .iastore, 1), (175, .iinc 10 (-1), 3), (178, .goto (-41), 3), (181, .iinc 8 1, 3), (184, .goto (-111), 3), (187, .iload 7, 2), (189, .ifCond .eq 36, 3), (192, .aload_n 0, 1), (193, .invokevirtual 102, 3), (196, .iload 6, 2), (198, .iconst 2, 1), (199, .iadd, 1), (200, .if_icmp .ne 25, 3)]
set_option maxRecDepth 20000 in
theorem DL_say_0 : Lst YL_say LL_say_0 := by unfold Lst; decide +kernel
def LL_say_1 : LI := [(203, .aload_n 0, 1), (204, .invokevirtual 105, 3), (207, .iconst 4, 1), (208, .iload 6, 2), (210, .imul, 1), (211, .if_icmp .ne 14, 3), (214, .aload_n 0, 1), (215, .invokevirtual 92, 3), (218, .ifCond .ne 7, 3), (221, .iconst 1, 1), (222, .goto 4, 3), (225, .iconst 0, 1), (226, .ireturn, 1)]
set_option maxRecDepth 20000 in
theorem DL_say_1 : Lst YL_say LL_say_1 := by unfold Lst; decide +kernel
def LL_street : LI := [(0, .iload_n 1, 1), (1, .iconst 2, 1), (2, .ishr, 1), (3, .bipush 16, 2), (5, .invokestatic 96, 3), (8, .istore 4, 2), (10, .iload_n 2, 1), (11, .iconst 4, 1), (12, .invokestatic 96, 3), (15, .istore 5, 2), (17, .iload 5, 2), (19, .ifCond .ne 17, 3), (22, .bipush 16, 2), (24, .iload_n 2, 1), (25, .iconst 4, 1), (26, .ishr, 1), (27, .bipush 81, 2), (29, .invokestatic 96, 3), (32, .iadd, 1), (33, .goto 43, 3), (36, .iload 5, 2), (38, .iconst 3, 1), (39, .if_icmp .ne 26, 3), (42, .iload_n 2, 1), (43, .iconst 4, 1), (44, .ishr, 1), (45, .iload_n 2, 1), (46, .bipush 9, 2), (48, .ishr, 1), (49, .iconst 2, 1), (50, .invokestatic 96, 3), (53, .bipush 52, 2), (55, .imul, 1), (56, .bipush 9, 2), (58, .iadd, 1), (59, .invokestatic 96, 3), (62, .goto 14, 3), (65, .iload_n 2, 1), (66, .iconst 4, 1), (67, .ishr, 1), (68, .bipush 65, 2), (70, .invokestatic 96, 3), (73, .bipush 32, 2), (75, .isub, 1), (76, .istore 6, 2), (78, .aload_n 3, 1), (79, .iconst 4, 1), (80, .iload 4, 2), (82, .imul, 1), (83, .iload 5, 2), (85, .iadd, 1), (86, .iaload, 1), (87, .istore 7, 2), (89, .aload_n 3, 1), (90, .iconst 4, 1), (91, .iload 4, 2), (93, .imul, 1), (94, .iload 5, 2), (96, .iadd, 1), (97, .iload 6, 2), (99, .iastore, 1), (100, .aload_n 0, 1), (101, .iload 4, 2), (103, .bipush 8, 2), (105, .idiv, 1), (106, .iload 4, 2), (108, .bipush 8, 2), (110, .irem, 1), (111, .iload 5, 2), (113, .iload 6, 2), (115, .invokevirtual 108, 3), (118, .iload 7, 2), (120, .if_icmp .ne 7, 3), (123, .iconst 1, 1), (124, .goto 4, 3), (127, .iconst 0, 1), (128, .ireturn, 1)]
set_option maxRecDepth 20000 in
theorem DL_street : Lst YL_street LL_street := by unfold Lst; decide +kernel
def LL_insult : LI := [(0, .iload_n 1, 1), (1, .iconst 2, 1), (2, .ishr, 1), (3, .bipush 16, 2), (5, .invokestatic 96, 3), (8, .istore 4, 2), (10, .iload_n 2, 1), (11, .iconst 3, 1), (12, .ishr, 1), (13, .sipush 601, 3), (16, .invokestatic 96, 3), (19, .sipush 300, 3), (22, .isub, 1), (23, .istore 5, 2), (25, .aload_n 3, 1), (26, .iconst 4, 1), (27, .iload 4, 2), (29, .imul, 1), (30, .iaload, 1), (31, .iload 5, 2), (33, .iadd, 1), (34, .invokestatic 29, 3), (37, .sipush 1000, 3), (40, .if_icmp .le 5, 3), (43, .iconst 1, 1), (44, .ireturn, 1), (45, .aload_n 3, 1), (46, .iconst 4, 1), (47, .iload 4, 2), (49, .imul, 1), (50, .dup2, 1), (51, .iaload, 1), (52, .iload 5, 2), (54, .iadd, 1), (55, .iastore, 1), (56, .aload_n 0, 1), (57, .iload 4, 2), (59, .bipush 8, 2), (61, .idiv, 1), (62, .iload 4, 2), (64, .bipush 8, 2), (66, .irem, 1), (67, .iload 5, 2), (69, .invokevirtual 112, 3), (72, .aload_n 3, 1), (73, .iconst 4, 1), (74, .iload 4, 2), (76, .imul, 1), (77, .iaload, 1), (78, .if_icmp .ne 7, 3), (81, .iconst 1, 1), (82, .goto 4, 3), (85, .iconst 0, 1), (86, .ireturn, 1)]
set_option maxRecDepth 20000 in
theorem DL_insult : Lst YL_insult LL_insult := by unfold Lst; decide +kernel
def LL_forget : LI := [(0, .iload_n 1, 1), (1, .aload_n 3, 1), (2, .invokestatic 85, 3), (5, .istore 5, 2), (7, .iconst 0, 1), (8, .istore 6, 2), (10, .iload 6, 2), (12, .bipush 8, 2), (14, .if_icmp .ge 60, 3), (17, .iconst 4, 1), (18, .bipush 8, 2), (20, .iload_n 1, 1), (21, .imul, 1), (22, .iload 6, 2), (24, .iadd, 1), (25, .imul, 1), (26, .istore 7, 2), (28, .aload_n 3, 1), (29, .iload 7, 2), (31, .bipush 64, 2), (33, .iastore, 1), (34, .aload_n 3, 1), (35, .iload 7, 2), (37, .iconst 1, 1), (38, .iadd, 1), (39, .iconst 0, 1), (40, .iastore, 1), (41, .aload_n 3, 1), (42, .iload 7, 2), (44, .iconst 2, 1), (45, .iadd, 1), (46, .iconst 0, 1), (47, .iastore, 1), (48, .aload_n 3, 1), (49, .iload 7, 2), (51, .iconst 3, 1), (52, .iadd, 1), (53, .iconst 0, 1), (54, .iastore, 1), (55, .aload_n 2, 1), (56, .iload 7, 2), (58, .iconst 3, 1), (59, .iadd, 1), (60, .iconst (-1), 1), (61, .iastore, 1), (62, .aload 4, 2), (64, .iload 7, 2), (66, .iconst 0, 1), (67, .iastore, 1), (68, .iinc 6 1, 3), (71, .goto (-61), 3), (74, .aload_n 0, 1), (75, .iload_n 1, 1), (76, .invokevirtual 115, 3), (79, .iload 5, 2), (81, .if_icmp .ne 7, 3), (84, .iconst 1, 1), (85, .goto 4, 3), (88, .iconst 0, 1), (89, .ireturn, 1)]
set_option maxRecDepth 20000 in
theorem DL_forget : Lst YL_forget LL_forget := by unfold Lst; decide +kernel
def LL_set : LI := [(0, .iload_n 1, 1), (1, .iconst 2, 1), (2, .ishr, 1), (3, .iconst 3, 1), (4, .invokestatic 96, 3), (7, .istore 4, 2), (9, .iload 4, 2), (11, .ifCond .ne 14, 3), (14, .iconst 1, 1), (15, .iload_n 2, 1), (16, .bipush 64, 2), (18, .invokestatic 96, 3), (21, .iadd, 1), (22, .goto 43, 3), (25, .iload 4, 2), (27, .iconst 1, 1), (28, .if_icmp .ne 14, 3), (31, .iconst 4, 1), (32, .iload_n 2, 1), (33, .bipush 37, 2), (35, .invokestatic 96, 3), (38, .iadd, 1), (39, .goto 26, 3), (42, .iconst 1, 1), (43, .iload_n 2, 1), (44, .iload_n 2, 1), (45, .bipush 8, 2), (47, .ishr, 1), (48, .iconst 2, 1), (49, .invokestatic 96, 3), (52, .ifCond .ne 7, 3), (55, .iconst 3, 1), (56, .goto 5, 3), (59, .bipush 50, 2), (61, .invokestatic 96, 3), (64, .iadd, 1), (65, .istore 5, 2), (67, .aload_n 3, 1), (68, .iload 4, 2), (70, .iaload, 1), (71, .istore 6, 2), (73, .aload_n 3, 1), (74, .iload 4, 2), (76, .iload 5, 2), (78, .iastore, 1), (79, .aload_n 0, 1), (80, .iload 4, 2), (82, .iload 5, 2), (84, .invokevirtual 118, 3), (87, .iload 6, 2), (89, .if_icmp .ne 7, 3), (92, .iconst 1, 1), (93, .goto 4, 3), (96, .iconst 0, 1), (97, .ireturn, 1)]
set_option maxRecDepth 20000 in
theorem DL_set : Lst YL_set LL_set := by unfold Lst; decide +kernel
def LL_carry : LI := [(0, .iload_n 1, 1), (1, .iconst 2, 1), (2, .ishr, 1), (3, .bipush 16, 2), (5, .invokestatic 96, 3), (8, .istore 4, 2), (10, .aload_n 3, 1), (11, .iconst 4, 1), (12, .iload 4, 2), (14, .imul, 1), (15, .iconst 3, 1), (16, .iadd, 1), (17, .iaload, 1), (18, .istore 5, 2), (20, .aload_n 3, 1), (21, .iconst 4, 1), (22, .iload 4, 2), (24, .imul, 1), (25, .iconst 3, 1), (26, .iadd, 1), (27, .iload_n 2, 1), (28, .iconst 5, 1), (29, .invokestatic 96, 3), (32, .iastore, 1), (33, .aload_n 0, 1), (34, .iload 4, 2), (36, .bipush 8, 2), (38, .idiv, 1), (39, .iload 4, 2), (41, .bipush 8, 2), (43, .irem, 1), (44, .aload_n 3, 1), (45, .iconst 4, 1), (46, .iload 4, 2), (48, .imul, 1), (49, .iconst 3, 1), (50, .iadd, 1), (51, .iaload, 1), (52, .invokevirtual 121, 3), (55, .iload 5, 2), (57, .if_icmp .ne 7, 3), (60, .iconst 1, 1), (61, .goto 4, 3), (64, .iconst 0, 1), (65, .ireturn, 1)]
set_option maxRecDepth 20000 in
theorem DL_carry : Lst YL_carry LL_carry := by unfold Lst; decide +kernel
def LL_act_0 : LI := [(0, .iconst 1, 1), (1, .iload_n 3, 1), (2, .iconst 5, 1), (3, .ishr, 1), (4, .iload_n 3, 1), (5, .bipush 12, 2), (7, .ishr, 1), (8, .iconst 3, 1), (9, .invokestatic 96, 3), (12, .ifCond .ne 8, 3), (15, .bipush 30, 2), (17, .goto 4, 3), (20, .iconst 5, 1), (21, .invokestatic 96, 3), (24, .iadd, 1), (25, .istore 14, 2), (27, .iload_n 1, 1), (28, .iconst 3, 1), (29, .if_icmp .ge 12, 3), (32, .aload_n 0, 1), (33, .iload_n 2, 1), (34, .iload_n 3, 1), (35, .aload 4, 2), (37, .invokestatic 124, 3), (40, .ireturn, 1), (41, .iload_n 1, 1), (42, .iconst 3, 1), (43, .if_icmp .ne 12, 3), (46, .aload_n 0, 1), (47, .iload_n 2, 1), (48, .iload_n 3, 1), (49, .aload 6, 2), (51, .invokestatic 127, 3), (54, .ireturn, 1), (55, .iload_n 1, 1), (56, .bipush 6, 2), (58, .if_icmp .ge 12, 3), (61, .aload_n 0, 1), (62, .iload_n 2, 1), (63, .iload_n 3, 1), (64, .aload 5, 2), (66, .invokestatic 129, 3), (69, .ireturn, 1), (70, .iload_n 1, 1), (71, .bipush 6, 2), (73, .if_icmp .ne 12, 3), (76, .aload_n 0, 1), (77, .iload_n 2, 1), (78, .iload_n 3, 1), (79, .aload 11, 2), (81, .invokestatic 131, 3), (84, .ireturn, 1), (85, .iload_n 1, 1), (86, .bipush 7, 2), (88, .if_icmp .ne 17, 3), (91, .aload_n 0, 1), (92, .iload_n 2, 1), (93, .iconst 1, 1), (94, .iand, 1), (95, .aload 5, 2), (97, .aload 6, 2), (99, .aload 7, 2), (101, .invokestatic 133, 3), (104, .ireturn, 1), (105, .iload_n 1, 1), (106, .bipush 11, 2), (108, .if_icmp .ge 14, 3), (111, .aload_n 0, 1), (112, .iload_n 2, 1), (113, .iload_n 3, 1), (114, .aload 9, 2), (116, .aload 10, 2), (118, .invokestatic 136, 3), (121, .ireturn, 1), (122, .iload_n 1, 1), (123, .bipush 14, 2), (125, .if_icmp .ge 45, 3), (128, .aload_n 0, 1), (129, .iload_n 2, 1), (130, .iconst 1, 1), (131, .iand, 1), (132, .iload 14, 2), (134, .invokevirtual 139, 3), (137, .iload_n 2, 1), (138, .iconst 1, 1), (139, .iand, 1), (140, .iload 14, 2), (142, .aload 4, 2), (144, .aload 5, 2), (146, .aload 6, 2), (148, .aload 7, 2), (150, .aload 8, 2), (152, .aload 12, 2), (154, .aload 10, 2), (156, .aload 11, 2), (158, .invokestatic 142, 3), (161, .if_icmp .ne 7, 3), (164, .iconst 1, 1), (165, .goto 4, 3), (168, .iconst 0, 1), (169, .ireturn, 1), (170, .aload_n 0, 1), (171, .iload_n 2, 1), (172, .iconst 1, 1), (173, .iand, 1), (174, .iload 14, 2), (176, .invokevirtual 145, 3), (179, .iload_n 2, 1), (180, .iconst 1, 1), (181, .iand, 1), (182, .iload 14, 2), (184, .aload 4, 2), (186, .aload 5, 2), (188, .aload 6, 2), (190, .aload 7, 2), (192, .aload 8, 2), (194, .aload 9, 2), (196, .aload 10, 2), (198, .aload 11, 2), (200, .aload 13, 2)]
set_option maxRecDepth 20000 in
theorem DL_act_0 : Lst YL_act LL_act_0 := by unfold Lst; decide +kernel
def LL_act_1 : LI := [(202, .invokestatic 148, 3), (205, .if_icmp .ne 7, 3), (208, .iconst 1, 1), (209, .goto 4, 3), (212, .iconst 0, 1), (213, .ireturn, 1)]
set_option maxRecDepth 20000 in
theorem DL_act_1 : Lst YL_act LL_act_1 := by unfold Lst; decide +kernel
def LL_law_0 : LI := [(0, .new 56, 3), (3, .dup, 1), (4, .invokespecial 151, 3), (7, .astore_n 1, 1), (8, .bipush 64, 2), (10, .newarray .int, 2), (12, .astore_n 2, 1), (13, .bipush 64, 2), (15, .newarray .int, 2), (17, .astore_n 3, 1), (18, .bipush 64, 2), (20, .newarray .int, 2), (22, .astore 4, 2), (24, .bipush 64, 2), (26, .newarray .int, 2), (28, .astore 5, 2), (30, .bipush 32, 2), (32, .newarray .int, 2), (34, .astore 6, 2), (36, .bipush 64, 2), (38, .newarray .int, 2), (40, .astore 7, 2), (42, .bipush 8, 2), (44, .newarray .int, 2), (46, .astore 8, 2), (48, .iconst 3, 1), (49, .newarray .int, 2), (51, .astore 9, 2), (53, .bipush 64, 2), (55, .newarray .int, 2), (57, .astore 10, 2), (59, .iconst 2, 1), (60, .newarray .long, 2), (62, .astore 11, 2), (64, .iconst 0, 1), (65, .istore 12, 2), (67, .iload 12, 2), (69, .bipush 16, 2), (71, .if_icmp .ge 35, 3), (74, .aload_n 2, 1), (75, .iconst 4, 1), (76, .iload 12, 2), (78, .imul, 1), (79, .bipush 64, 2), (81, .iastore, 1), (82, .aload 4, 2), (84, .iconst 4, 1), (85, .iload 12, 2), (87, .imul, 1), (88, .bipush 64, 2), (90, .iastore, 1), (91, .aload_n 3, 1), (92, .iconst 4, 1), (93, .iload 12, 2), (95, .imul, 1), (96, .iconst 3, 1), (97, .iadd, 1), (98, .iconst (-1), 1), (99, .iastore, 1), (100, .iinc 12 1, 3), (103, .goto (-36), 3), (106, .aload 8, 2), (108, .iconst 1, 1), (109, .iconst 1, 1), (110, .iastore, 1), (111, .aload 9, 2), (113, .iconst 0, 1), (114, .bipush 8, 2), (116, .iastore, 1), (117, .aload 9, 2), (119, .iconst 1, 1), (120, .bipush 8, 2), (122, .iastore, 1), (123, .aload 9, 2), (125, .iconst 2, 1), (126, .iconst 3, 1), (127, .iastore, 1), (128, .aload_n 1, 1), (129, .aload_n 2, 1), (130, .aload_n 3, 1), (131, .aload 4, 2), (133, .aload 5, 2), (135, .aload 6, 2), (137, .aload 7, 2), (139, .aload 8, 2), (141, .aload 9, 2), (143, .aload 11, 2), (145, .invokestatic 152, 3), (148, .ifCond .ne 5, 3), (151, .iconst 0, 1), (152, .ireturn, 1), (153, .iconst 0, 1), (154, .istore 12, 2), (156, .iload 12, 2), (158, .bipush 40, 2), (160, .if_icmp .ge 149, 3), (163, .aload_n 0, 1), (164, .iconst 2, 1), (165, .iload 12, 2), (167, .imul, 1), (168, .invokestatic 156, 3), (171, .ldc 160, 2), (173, .iand, 1), (174, .istore 13, 2), (176, .aload_n 0, 1), (177, .iconst 2, 1), (178, .iload 12, 2), (180, .imul, 1), (181, .iconst 1, 1), (182, .iadd, 1), (183, .invokestatic 156, 3), (186, .ldc 160, 2), (188, .iand, 1), (189, .istore 14, 2), (191, .iload 12, 2), (193, .ifCond .ne 7, 3), (196, .iconst 0, 1), (197, .goto 48, 3), (200, .iload 12, 2), (202, .iconst 4, 1)]
set_option maxRecDepth 20000 in
theorem DL_law_0 : Lst YL_law LL_law_0 := by unfold Lst; decide +kernel
def LL_law_1 : LI := [(203, .if_icmp .ne 8, 3), (206, .bipush 12, 2), (208, .goto 37, 3), (211, .iload 12, 2), (213, .bipush 6, 2), (215, .if_icmp .ne 8, 3), (218, .bipush 9, 2), (220, .goto 25, 3), (223, .iload 12, 2), (225, .bipush 7, 2), (227, .if_icmp .ne 8, 3), (230, .bipush 15, 2), (232, .goto 13, 3), (235, .iload 13, 2), (237, .bipush 13, 2), (239, .ishr, 1), (240, .bipush 18, 2), (242, .invokestatic 96, 3), (245, .istore 15, 2), (247, .aload_n 1, 1), (248, .iload 15, 2), (250, .iload 13, 2), (252, .iload 14, 2), (254, .aload_n 2, 1), (255, .aload_n 3, 1), (256, .aload 4, 2), (258, .aload 5, 2), (260, .aload 6, 2), (262, .aload 7, 2), (264, .aload 8, 2), (266, .aload 9, 2), (268, .aload 10, 2), (270, .aload 11, 2), (272, .invokestatic 161, 3), (275, .ifCond .eq 26, 3), (278, .aload_n 1, 1), (279, .aload_n 2, 1), (280, .aload_n 3, 1), (281, .aload 4, 2), (283, .aload 5, 2), (285, .aload 6, 2), (287, .aload 7, 2), (289, .aload 8, 2), (291, .aload 9, 2), (293, .aload 11, 2), (295, .invokestatic 152, 3), (298, .ifCond .ne 5, 3), (301, .iconst 0, 1), (302, .ireturn, 1), (303, .iinc 12 1, 3), (306, .goto (-150), 3), (309, .aload_n 1, 1), (310, .bipush 12, 2), (312, .invokevirtual 72, 3), (315, .ifCond .le 7, 3), (318, .iconst 1, 1), (319, .goto 4, 3), (322, .iconst 0, 1), (323, .ireturn, 1)]
set_option maxRecDepth 20000 in
theorem DL_law_1 : Lst YL_law LL_law_1 := by unfold Lst; decide +kernel
