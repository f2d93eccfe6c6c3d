/-! ===== BEGIN printed: names, fields, word lists, decode rows ===== -/
def RX0 : String := "AccentModems$Lesson"
def TX0 : u_T := fun k => match k with
  | 0 => ("AccentModems$Lesson", "sizes", "[I", true)
  | _ => ("AccentModems$Lesson", "beats", "I", false)
def tyX0 : Nat → FieldType := fun k => match k with
  | 0 => .array .int
  | _ => .int
theorem nmX0 : ∀ a, a < 2 → ∀ b, b < 2 → a ≠ b → (TX0 a).2.1 ≠ (TX0 b).2.1 := by decide +kernel
theorem tyX0_ok : ∀ k, k < 2 → parseFieldDescriptor (TX0 k).2.2.1 = some (tyX0 k) := by decide +kernel
abbrev cX0_init : ByteArray := prog_2_method_1_code
def yX0_init : MethodName := ⟨RX0, "<init>", "()V"⟩
abbrev cX0_begin : ByteArray := prog_2_method_2_code
def yX0_begin : MethodName := ⟨RX0, "begin", "()V"⟩
abbrev cX0_note : ByteArray := prog_2_method_3_code
def yX0_note : MethodName := ⟨RX0, "note", "(II)V"⟩
abbrev cX0_worstOf : ByteArray := prog_2_method_4_code
def yX0_worstOf : MethodName := ⟨RX0, "worstOf", "(I)I"⟩
def RX1 : String := "AccentModems$State"
def TX1 : u_T := fun k => match k with
  | 0 => ("AccentModems$State", "there", "LAccentModems$Way;", true)
  | 1 => ("AccentModems$State", "back", "LAccentModems$Way;", true)
  | 2 => ("AccentModems$State", "settings", "[I", true)
  | 3 => ("AccentModems$State", "seed", "I", false)
  | _ => ("AccentModems$State", "beats", "I", false)
def tyX1 : Nat → FieldType := fun k => match k with
  | 0 => .object "AccentModems$Way"
  | 1 => .object "AccentModems$Way"
  | 2 => .array .int
  | 3 => .int
  | _ => .int
theorem nmX1 : ∀ a, a < 5 → ∀ b, b < 5 → a ≠ b → (TX1 a).2.1 ≠ (TX1 b).2.1 := by decide +kernel
theorem tyX1_ok : ∀ k, k < 5 → parseFieldDescriptor (TX1 k).2.2.1 = some (tyX1 k) := by decide +kernel
abbrev cX1_init : ByteArray := prog_3_method_1_code
def yX1_init : MethodName := ⟨RX1, "<init>", "()V"⟩
abbrev cX1_wayAt : ByteArray := prog_3_method_2_code
def yX1_wayAt : MethodName := ⟨RX1, "wayAt", "(I)LAccentModems$Way;"⟩
abbrev cX1_copyFrom : ByteArray := prog_3_method_3_code
def yX1_copyFrom : MethodName := ⟨RX1, "copyFrom", "(LAccentModems$State;)V"⟩
abbrev cX1_copyWayFrom : ByteArray := prog_3_method_4_code
def yX1_copyWayFrom : MethodName := ⟨RX1, "copyWayFrom", "(LAccentModems$State;I)LAccentModems$Way;"⟩
abbrev cX1_copyCommonFrom : ByteArray := prog_3_method_5_code
def yX1_copyCommonFrom : MethodName := ⟨RX1, "copyCommonFrom", "(LAccentModems$State;)V"⟩
abbrev cX1_draw : ByteArray := prog_3_method_6_code
def yX1_draw : MethodName := ⟨RX1, "draw", "(I)I"⟩
abbrev cX1_drawNoise : ByteArray := prog_3_method_7_code
def yX1_drawNoise : MethodName := ⟨RX1, "drawNoise", "(LAccentModems$Tone;)I"⟩
abbrev cX1_sendBeats : ByteArray := prog_3_method_8_code
def yX1_sendBeats : MethodName := ⟨RX1, "sendBeats", "(LAccentModems$Way;I)I"⟩
abbrev cX1_sendSign : ByteArray := prog_3_method_9_code
def yX1_sendSign : MethodName := ⟨RX1, "sendSign", "(LAccentModems$Way;LAccentModems$Tone;)I"⟩
abbrev cX1_takeLesson : ByteArray := prog_3_method_10_code
def yX1_takeLesson : MethodName := ⟨RX1, "takeLesson", "(LAccentModems$Way;ILAccentModems$Lesson;)V"⟩
abbrev cX1_learnBeat : ByteArray := prog_3_method_11_code
def yX1_learnBeat : MethodName := ⟨RX1, "learnBeat", "(LAccentModems$Way;LAccentModems$Lesson;)V"⟩
abbrev cX1_bitsBehind : ByteArray := prog_3_method_12_code
def yX1_bitsBehind : MethodName := ⟨RX1, "bitsBehind", "(LAccentModems$Way;LAccentModems$Lesson;)I"⟩
abbrev cX1_leastHurt : ByteArray := prog_3_method_13_code
def yX1_leastHurt : MethodName := ⟨RX1, "leastHurt", "(LAccentModems$Way;LAccentModems$Tone;)I"⟩
def RX2 : String := "AccentModems$Text"
def TX2 : u_T := fun k => match k with
  | 0 => ("AccentModems$Text", "characters", "[C", true)
  | _ => ("AccentModems$Text", "length", "I", false)
def tyX2 : Nat → FieldType := fun k => match k with
  | 0 => .array .char
  | _ => .int
theorem nmX2 : ∀ a, a < 2 → ∀ b, b < 2 → a ≠ b → (TX2 a).2.1 ≠ (TX2 b).2.1 := by decide +kernel
theorem tyX2_ok : ∀ k, k < 2 → parseFieldDescriptor (TX2 k).2.2.1 = some (tyX2 k) := by decide +kernel
abbrev cX2_init : ByteArray := prog_4_method_1_code
def yX2_init : MethodName := ⟨RX2, "<init>", "()V"⟩
abbrev cX2_next : ByteArray := prog_4_method_2_code
def yX2_next : MethodName := ⟨RX2, "next", "(IC)I"⟩
abbrev cX2_behindDigit : ByteArray := prog_4_method_3_code
def yX2_behindDigit : MethodName := ⟨RX2, "behindDigit", "(C)I"⟩
abbrev cX2_digitOf : ByteArray := prog_4_method_4_code
def yX2_digitOf : MethodName := ⟨RX2, "digitOf", "(C)I"⟩
abbrev cX2_errorPlace : ByteArray := prog_4_method_5_code
def yX2_errorPlace : MethodName := ⟨RX2, "errorPlace", "()I"⟩
abbrev cX2_isComplete : ByteArray := prog_4_method_6_code
def yX2_isComplete : MethodName := ⟨RX2, "isComplete", "()Z"⟩
abbrev cX2_bitsFor : ByteArray := prog_4_method_7_code
def yX2_bitsFor : MethodName := ⟨RX2, "bitsFor", "(I)I"⟩
abbrev cX2_putBits : ByteArray := prog_4_method_8_code
def yX2_putBits : MethodName := ⟨RX2, "putBits", "(LAccentModems$State;)V"⟩
def RX3 : String := "AccentModems$Tone"
def TX3 : u_T := fun k => match k with
  | 0 => ("AccentModems$Tone", "gain", "I", false)
  | 1 => ("AccentModems$Tone", "echo1", "I", false)
  | 2 => ("AccentModems$Tone", "echo2", "I", false)
  | 3 => ("AccentModems$Tone", "noise", "I", false)
  | 4 => ("AccentModems$Tone", "insult", "I", false)
  | 5 => ("AccentModems$Tone", "last", "I", false)
  | 6 => ("AccentModems$Tone", "before", "I", false)
  | 7 => ("AccentModems$Tone", "accentGain", "I", false)
  | 8 => ("AccentModems$Tone", "accentEcho1", "I", false)
  | 9 => ("AccentModems$Tone", "accentEcho2", "I", false)
  | 10 => ("AccentModems$Tone", "bits", "I", false)
  | 11 => ("AccentModems$Tone", "worst", "I", false)
  | 12 => ("AccentModems$Tone", "wrongsToShy", "I", false)
  | 13 => ("AccentModems$Tone", "shies", "I", false)
  | 14 => ("AccentModems$Tone", "signs", "I", false)
  | 15 => ("AccentModems$Tone", "wrongSigns", "I", false)
  | 16 => ("AccentModems$Tone", "taken", "I", false)
  | _ => ("AccentModems$Tone", "takenBefore", "I", false)
def tyX3 : Nat → FieldType := fun k => match k with
  | 0 => .int
  | 1 => .int
  | 2 => .int
  | 3 => .int
  | 4 => .int
  | 5 => .int
  | 6 => .int
  | 7 => .int
  | 8 => .int
  | 9 => .int
  | 10 => .int
  | 11 => .int
  | 12 => .int
  | 13 => .int
  | 14 => .int
  | 15 => .int
  | 16 => .int
  | _ => .int
theorem nmX3 : ∀ a, a < 18 → ∀ b, b < 18 → a ≠ b → (TX3 a).2.1 ≠ (TX3 b).2.1 := by decide +kernel
theorem tyX3_ok : ∀ k, k < 18 → parseFieldDescriptor (TX3 k).2.2.1 = some (tyX3 k) := by decide +kernel
abbrev cX3_init : ByteArray := prog_5_method_1_code
def yX3_init : MethodName := ⟨RX3, "<init>", "()V"⟩
abbrev cX3_copyFrom : ByteArray := prog_5_method_2_code
def yX3_copyFrom : MethodName := ⟨RX3, "copyFrom", "(LAccentModems$Tone;)V"⟩
abbrev cX3_streetNumber : ByteArray := prog_5_method_3_code
def yX3_streetNumber : MethodName := ⟨RX3, "streetNumber", "(I)I"⟩
abbrev cX3_setStreetNumber : ByteArray := prog_5_method_4_code
def yX3_setStreetNumber : MethodName := ⟨RX3, "setStreetNumber", "(II)V"⟩
abbrev cX3_accentNumber : ByteArray := prog_5_method_5_code
def yX3_accentNumber : MethodName := ⟨RX3, "accentNumber", "(I)I"⟩
abbrev cX3_amplitudeOf : ByteArray := prog_5_method_6_code
def yX3_amplitudeOf : MethodName := ⟨RX3, "amplitudeOf", "(I)I"⟩
abbrev cX3_arriving : ByteArray := prog_5_method_7_code
def yX3_arriving : MethodName := ⟨RX3, "arriving", "(II)I"⟩
abbrev cX3_expected : ByteArray := prog_5_method_8_code
def yX3_expected : MethodName := ⟨RX3, "expected", "(I)I"⟩
abbrev cX3_decide : ByteArray := prog_5_method_9_code
def yX3_decide : MethodName := ⟨RX3, "decide", "(I)I"⟩
abbrev cX3_pass : ByteArray := prog_5_method_10_code
def yX3_pass : MethodName := ⟨RX3, "pass", "(II)V"⟩
abbrev cX3_knowSignBefore : ByteArray := prog_5_method_11_code
def yX3_knowSignBefore : MethodName := ⟨RX3, "knowSignBefore", "()V"⟩
abbrev cX3_countSign : ByteArray := prog_5_method_12_code
def yX3_countSign : MethodName := ⟨RX3, "countSign", "(Z)V"⟩
abbrev cX3_becomeShyAt : ByteArray := prog_5_method_13_code
def yX3_becomeShyAt : MethodName := ⟨RX3, "becomeShyAt", "(I)V"⟩
abbrev cX3_improve : ByteArray := prog_5_method_14_code
def yX3_improve : MethodName := ⟨RX3, "improve", "(III)V"⟩
abbrev cX3_step : ByteArray := prog_5_method_15_code
def yX3_step : MethodName := ⟨RX3, "step", "(II)I"⟩
abbrev cX3_held : ByteArray := prog_5_method_16_code
def yX3_held : MethodName := ⟨RX3, "held", "(III)I"⟩
abbrev cX3_endLesson : ByteArray := prog_5_method_17_code
def yX3_endLesson : MethodName := ⟨RX3, "endLesson", "(II)V"⟩
abbrev cX3_bitsFor : ByteArray := prog_5_method_18_code
def yX3_bitsFor : MethodName := ⟨RX3, "bitsFor", "(II)I"⟩
abbrev cX3_roomWith : ByteArray := prog_5_method_19_code
def yX3_roomWith : MethodName := ⟨RX3, "roomWith", "(I)I"⟩
abbrev cX3_sureBits : ByteArray := prog_5_method_20_code
def yX3_sureBits : MethodName := ⟨RX3, "sureBits", "()I"⟩
abbrev cX3_misheardWith : ByteArray := prog_5_method_21_code
def yX3_misheardWith : MethodName := ⟨RX3, "misheardWith", "(I)I"⟩
abbrev cX3_loseAccent : ByteArray := prog_5_method_22_code
def yX3_loseAccent : MethodName := ⟨RX3, "loseAccent", "()V"⟩
def RX4 : String := "AccentModems$WaitingBits"
def TX4 : u_T := fun k => match k with
  | 0 => ("AccentModems$WaitingBits", "ring", "[I", true)
  | 1 => ("AccentModems$WaitingBits", "start", "I", false)
  | _ => ("AccentModems$WaitingBits", "size", "I", false)
def tyX4 : Nat → FieldType := fun k => match k with
  | 0 => .array .int
  | 1 => .int
  | _ => .int
theorem nmX4 : ∀ a, a < 3 → ∀ b, b < 3 → a ≠ b → (TX4 a).2.1 ≠ (TX4 b).2.1 := by decide +kernel
theorem tyX4_ok : ∀ k, k < 3 → parseFieldDescriptor (TX4 k).2.2.1 = some (tyX4 k) := by decide +kernel
abbrev cX4_init : ByteArray := prog_6_method_1_code
def yX4_init : MethodName := ⟨RX4, "<init>", "()V"⟩
abbrev cX4_copyFrom : ByteArray := prog_6_method_2_code
def yX4_copyFrom : MethodName := ⟨RX4, "copyFrom", "(LAccentModems$WaitingBits;)V"⟩
abbrev cX4_bitAt : ByteArray := prog_6_method_3_code
def yX4_bitAt : MethodName := ⟨RX4, "bitAt", "(I)I"⟩
abbrev cX4_put : ByteArray := prog_6_method_4_code
def yX4_put : MethodName := ⟨RX4, "put", "(I)V"⟩
abbrev cX4_putDigit : ByteArray := prog_6_method_5_code
def yX4_putDigit : MethodName := ⟨RX4, "putDigit", "(I)V"⟩
abbrev cX4_take : ByteArray := prog_6_method_6_code
def yX4_take : MethodName := ⟨RX4, "take", "(I)I"⟩
def RX5 : String := "AccentModems$Way"
def TX5 : u_T := fun k => match k with
  | 0 => ("AccentModems$Way", "tones", "[LAccentModems$Tone;", true)
  | 1 => ("AccentModems$Way", "waiting", "LAccentModems$WaitingBits;", true)
  | 2 => ("AccentModems$Way", "latest", "J", false)
  | 3 => ("AccentModems$Way", "came", "I", false)
  | _ => ("AccentModems$Way", "wrong", "I", false)
def tyX5 : Nat → FieldType := fun k => match k with
  | 0 => .array (.object "AccentModems$Tone")
  | 1 => .object "AccentModems$WaitingBits"
  | 2 => .long
  | 3 => .int
  | _ => .int
theorem nmX5 : ∀ a, a < 5 → ∀ b, b < 5 → a ≠ b → (TX5 a).2.1 ≠ (TX5 b).2.1 := by decide +kernel
theorem tyX5_ok : ∀ k, k < 5 → parseFieldDescriptor (TX5 k).2.2.1 = some (tyX5 k) := by decide +kernel
abbrev cX5_init : ByteArray := prog_7_method_1_code
def yX5_init : MethodName := ⟨RX5, "<init>", "()V"⟩
abbrev cX5_copyFrom : ByteArray := prog_7_method_2_code
def yX5_copyFrom : MethodName := ⟨RX5, "copyFrom", "(LAccentModems$Way;)V"⟩
abbrev cX5_receive : ByteArray := prog_7_method_3_code
def yX5_receive : MethodName := ⟨RX5, "receive", "(III)V"⟩
abbrev cX5_bits : ByteArray := prog_7_method_4_code
def yX5_bits : MethodName := ⟨RX5, "bits", "()I"⟩
abbrev cX5_shies : ByteArray := prog_7_method_5_code
def yX5_shies : MethodName := ⟨RX5, "shies", "()I"⟩
abbrev cX5_insulted : ByteArray := prog_7_method_6_code
def yX5_insulted : MethodName := ⟨RX5, "insulted", "()I"⟩
def RX6 : String := "AccentModems"
def TX6 : u_T := fun k => match k with
  | 0 => ("AccentModems", "now", "LAccentModems$State;", true)
  | 1 => ("AccentModems", "trial", "LAccentModems$State;", true)
  | 2 => ("AccentModems", "saved", "[LAccentModems$State;", true)
  | 3 => ("AccentModems", "lesson", "LAccentModems$Lesson;", true)
  | 4 => ("AccentModems", "text", "LAccentModems$Text;", true)
  | _ => ("AccentModems", "savedCount", "I", false)
def tyX6 : Nat → FieldType := fun k => match k with
  | 0 => .object "AccentModems$State"
  | 1 => .object "AccentModems$State"
  | 2 => .array (.object "AccentModems$State")
  | 3 => .object "AccentModems$Lesson"
  | 4 => .object "AccentModems$Text"
  | _ => .int
theorem nmX6 : ∀ a, a < 6 → ∀ b, b < 6 → a ≠ b → (TX6 a).2.1 ≠ (TX6 b).2.1 := by decide +kernel
theorem tyX6_ok : ∀ k, k < 6 → parseFieldDescriptor (TX6 k).2.2.1 = some (tyX6 k) := by decide +kernel
abbrev cX6_init : ByteArray := prog_1_method_1_code
def yX6_init : MethodName := ⟨RX6, "<init>", "()V"⟩
abbrev cX6_build : ByteArray := prog_1_method_2_code
def yX6_build : MethodName := ⟨RX6, "build", "(IIII)I"⟩
abbrev cX6_carry : ByteArray := prog_1_method_3_code
def yX6_carry : MethodName := ⟨RX6, "carry", "(III)I"⟩
abbrev cX6_insult : ByteArray := prog_1_method_4_code
def yX6_insult : MethodName := ⟨RX6, "insult", "(III)I"⟩
abbrev cX6_set : ByteArray := prog_1_method_5_code
def yX6_set : MethodName := ⟨RX6, "set", "(II)I"⟩
abbrev cX6_learn : ByteArray := prog_1_method_6_code
def yX6_learn : MethodName := ⟨RX6, "learn", "(II)I"⟩
abbrev cX6_send : ByteArray := prog_1_method_7_code
def yX6_send : MethodName := ⟨RX6, "send", "(II)I"⟩
abbrev cX6_forget : ByteArray := prog_1_method_8_code
def yX6_forget : MethodName := ⟨RX6, "forget", "(I)I"⟩
abbrev cX6_append : ByteArray := prog_1_method_9_code
def yX6_append : MethodName := ⟨RX6, "append", "(I)I"⟩
abbrev cX6_clearBuffer : ByteArray := prog_1_method_10_code
def yX6_clearBuffer : MethodName := ⟨RX6, "clearBuffer", "()I"⟩
abbrev cX6_firstError : ByteArray := prog_1_method_11_code
def yX6_firstError : MethodName := ⟨RX6, "firstError", "()I"⟩
abbrev cX6_say : ByteArray := prog_1_method_12_code
def yX6_say : MethodName := ⟨RX6, "say", "()I"⟩
abbrev cX6_undo : ByteArray := prog_1_method_13_code
def yX6_undo : MethodName := ⟨RX6, "undo", "()I"⟩
abbrev cX6_street : ByteArray := prog_1_method_14_code
def yX6_street : MethodName := ⟨RX6, "street", "(III)I"⟩
abbrev cX6_accent : ByteArray := prog_1_method_15_code
def yX6_accent : MethodName := ⟨RX6, "accent", "(III)I"⟩
abbrev cX6_waits : ByteArray := prog_1_method_16_code
def yX6_waits : MethodName := ⟨RX6, "waits", "(II)I"⟩
abbrev cX6_had : ByteArray := prog_1_method_17_code
def yX6_had : MethodName := ⟨RX6, "had", "(I)J"⟩
abbrev cX6_count : ByteArray := prog_1_method_18_code
def yX6_count : MethodName := ⟨RX6, "count", "(I)I"⟩
abbrev cX6_setting : ByteArray := prog_1_method_19_code
def yX6_setting : MethodName := ⟨RX6, "setting", "(I)I"⟩
abbrev cX6_sure : ByteArray := prog_1_method_20_code
def yX6_sure : MethodName := ⟨RX6, "sure", "(II)I"⟩
abbrev cX6_ifSent : ByteArray := prog_1_method_21_code
def yX6_ifSent : MethodName := ⟨RX6, "ifSent", "(III)I"⟩
abbrev cX6_ifLearned : ByteArray := prog_1_method_22_code
def yX6_ifLearned : MethodName := ⟨RX6, "ifLearned", "(II)I"⟩
abbrev cX6_beatsFor : ByteArray := prog_1_method_23_code
def yX6_beatsFor : MethodName := ⟨RX6, "beatsFor", "(I)I"⟩
abbrev cX6_bestLesson : ByteArray := prog_1_method_24_code
def yX6_bestLesson : MethodName := ⟨RX6, "bestLesson", "(I)I"⟩
abbrev cX6_hurts : ByteArray := prog_1_method_25_code
def yX6_hurts : MethodName := ⟨RX6, "hurts", "(II)I"⟩
abbrev cX6_rightShare : ByteArray := prog_1_method_26_code
def yX6_rightShare : MethodName := ⟨RX6, "rightShare", "(I)D"⟩
abbrev cX6_digest : ByteArray := prog_1_method_27_code
def yX6_digest : MethodName := ⟨RX6, "digest", "()J"⟩
abbrev cX6_digestOfTone : ByteArray := prog_1_method_28_code
def yX6_digestOfTone : MethodName := ⟨RX6, "digestOfTone", "(JII)J"⟩
abbrev cX6_digestOfWay : ByteArray := prog_1_method_29_code
def yX6_digestOfWay : MethodName := ⟨RX6, "digestOfWay", "(JI)J"⟩
abbrev cX6_bitsOfShare : ByteArray := prog_1_method_30_code
def yX6_bitsOfShare : MethodName := ⟨RX6, "bitsOfShare", "(D)J"⟩
abbrev cX6_wayOf : ByteArray := prog_1_method_31_code
def yX6_wayOf : MethodName := ⟨RX6, "wayOf", "(I)LAccentModems$Way;"⟩
abbrev cX6_toneOf : ByteArray := prog_1_method_32_code
def yX6_toneOf : MethodName := ⟨RX6, "toneOf", "(II)LAccentModems$Tone;"⟩
abbrev cX6_checkStreetNumber : ByteArray := prog_1_method_33_code
def yX6_checkStreetNumber : MethodName := ⟨RX6, "checkStreetNumber", "(II)V"⟩
abbrev cX6_checkSetting : ByteArray := prog_1_method_34_code
def yX6_checkSetting : MethodName := ⟨RX6, "checkSetting", "(I)V"⟩
abbrev cX6_checkBeats : ByteArray := prog_1_method_35_code
def yX6_checkBeats : MethodName := ⟨RX6, "checkBeats", "(I)V"⟩
abbrev cX6_checkBeatsLeft : ByteArray := prog_1_method_36_code
def yX6_checkBeatsLeft : MethodName := ⟨RX6, "checkBeatsLeft", "(I)V"⟩
abbrev cX6_save : ByteArray := prog_1_method_37_code
def yX6_save : MethodName := ⟨RX6, "save", "()V"⟩
abbrev cX6_dropOldest : ByteArray := prog_1_method_38_code
def yX6_dropOldest : MethodName := ⟨RX6, "dropOldest", "()V"⟩
def RX7 : String := "AccentModemsModel"
def TX7 : u_T := fun k => match k with
  | 0 => ("AccentModemsModel", "z", "[I", true)
  | 1 => ("AccentModemsModel", "rows", "[I", true)
  | 2 => ("AccentModemsModel", "aside", "[I", true)
  | 3 => ("AccentModemsModel", "had", "[J", true)
  | 4 => ("AccentModemsModel", "hads", "[J", true)
  | 5 => ("AccentModemsModel", "hadAside", "[J", true)
  | 6 => ("AccentModemsModel", "savedMany", "I", false)
  | 7 => ("AccentModemsModel", "buffer", "[I", true)
  | 8 => ("AccentModemsModel", "bufferMany", "I", false)
  | 9 => ("AccentModemsModel", "thrown", "I", false)
  | 10 => ("AccentModemsModel", "errors", "[I", true)
  | 11 => ("AccentModemsModel", "errorAt", "I", false)
  | 12 => ("AccentModemsModel", "isWhole", "Z", false)
  | _ => ("AccentModemsModel", "h", "J", false)
def tyX7 : Nat → FieldType := fun k => match k with
  | 0 => .array .int
  | 1 => .array .int
  | 2 => .array .int
  | 3 => .array .long
  | 4 => .array .long
  | 5 => .array .long
  | 6 => .int
  | 7 => .array .int
  | 8 => .int
  | 9 => .int
  | 10 => .array .int
  | 11 => .int
  | 12 => .boolean
  | _ => .long
theorem nmX7 : ∀ a, a < 14 → ∀ b, b < 14 → a ≠ b → (TX7 a).2.1 ≠ (TX7 b).2.1 := by decide +kernel
theorem tyX7_ok : ∀ k, k < 14 → parseFieldDescriptor (TX7 k).2.2.1 = some (tyX7 k) := by decide +kernel
abbrev cX7_init : ByteArray := prog_9_method_1_code
def yX7_init : MethodName := ⟨RX7, "<init>", "()V"⟩
abbrev cX7_thrown : ByteArray := prog_9_method_2_code
def yX7_thrown : MethodName := ⟨RX7, "thrown", "()I"⟩
abbrev cX7_fails : ByteArray := prog_9_method_3_code
def yX7_fails : MethodName := ⟨RX7, "fails", "(I)I"⟩
abbrev cX7_in : ByteArray := prog_9_method_4_code
def yX7_in : MethodName := ⟨RX7, "in", "(III)Z"⟩
abbrev cX7_size : ByteArray := prog_9_method_5_code
def yX7_size : MethodName := ⟨RX7, "size", "(I)I"⟩
abbrev cX7_isWay : ByteArray := prog_9_method_6_code
def yX7_isWay : MethodName := ⟨RX7, "isWay", "(I)Z"⟩
abbrev cX7_isTone : ByteArray := prog_9_method_7_code
def yX7_isTone : MethodName := ⟨RX7, "isTone", "(I)Z"⟩
abbrev cX7_streetAt : ByteArray := prog_9_method_8_code
def yX7_streetAt : MethodName := ⟨RX7, "streetAt", "(II)I"⟩
abbrev cX7_accentAt : ByteArray := prog_9_method_9_code
def yX7_accentAt : MethodName := ⟨RX7, "accentAt", "(II)I"⟩
abbrev cX7_save : ByteArray := prog_9_method_10_code
def yX7_save : MethodName := ⟨RX7, "save", "()V"⟩
abbrev cX7_putAside : ByteArray := prog_9_method_11_code
def yX7_putAside : MethodName := ⟨RX7, "putAside", "()V"⟩
abbrev cX7_putBack : ByteArray := prog_9_method_12_code
def yX7_putBack : MethodName := ⟨RX7, "putBack", "()V"⟩
abbrev cX7_mayBuild : ByteArray := prog_9_method_13_code
def yX7_mayBuild : MethodName := ⟨RX7, "mayBuild", "(II)Z"⟩
abbrev cX7_build : ByteArray := prog_9_method_14_code
def yX7_build : MethodName := ⟨RX7, "build", "(IIII)I"⟩
abbrev cX7_carry : ByteArray := prog_9_method_15_code
def yX7_carry : MethodName := ⟨RX7, "carry", "(III)I"⟩
abbrev cX7_insult : ByteArray := prog_9_method_16_code
def yX7_insult : MethodName := ⟨RX7, "insult", "(III)I"⟩
abbrev cX7_maySet : ByteArray := prog_9_method_17_code
def yX7_maySet : MethodName := ⟨RX7, "maySet", "(II)Z"⟩
abbrev cX7_set : ByteArray := prog_9_method_18_code
def yX7_set : MethodName := ⟨RX7, "set", "(II)I"⟩
abbrev cX7_draw : ByteArray := prog_9_method_19_code
def yX7_draw : MethodName := ⟨RX7, "draw", "(I)I"⟩
abbrev cX7_amplitude : ByteArray := prog_9_method_20_code
def yX7_amplitude : MethodName := ⟨RX7, "amplitude", "(II)I"⟩
abbrev cX7_hear : ByteArray := prog_9_method_21_code
def yX7_hear : MethodName := ⟨RX7, "hear", "(III)I"⟩
abbrev cX7_held : ByteArray := prog_9_method_22_code
def yX7_held : MethodName := ⟨RX7, "held", "(III)I"⟩
abbrev cX7_learnTone : ByteArray := prog_9_method_23_code
def yX7_learnTone : MethodName := ⟨RX7, "learnTone", "(III)V"⟩
abbrev cX7_learnBeat : ByteArray := prog_9_method_24_code
def yX7_learnBeat : MethodName := ⟨RX7, "learnBeat", "(II)V"⟩
abbrev cX7_worstOf : ByteArray := prog_9_method_25_code
def yX7_worstOf : MethodName := ⟨RX7, "worstOf", "(II)I"⟩
abbrev cX7_bitsBy : ByteArray := prog_9_method_26_code
def yX7_bitsBy : MethodName := ⟨RX7, "bitsBy", "(II)I"⟩
abbrev cX7_lessonBits : ByteArray := prog_9_method_27_code
def yX7_lessonBits : MethodName := ⟨RX7, "lessonBits", "(II)I"⟩
abbrev cX7_carried : ByteArray := prog_9_method_28_code
def yX7_carried : MethodName := ⟨RX7, "carried", "(I)I"⟩
abbrev cX7_learnAll : ByteArray := prog_9_method_29_code
def yX7_learnAll : MethodName := ⟨RX7, "learnAll", "(II)I"⟩
abbrev cX7_mayBeat : ByteArray := prog_9_method_30_code
def yX7_mayBeat : MethodName := ⟨RX7, "mayBeat", "(II)Z"⟩
abbrev cX7_learn : ByteArray := prog_9_method_31_code
def yX7_learn : MethodName := ⟨RX7, "learn", "(II)I"⟩
abbrev cX7_takeBit : ByteArray := prog_9_method_32_code
def yX7_takeBit : MethodName := ⟨RX7, "takeBit", "(I)I"⟩
abbrev cX7_decide : ByteArray := prog_9_method_33_code
def yX7_decide : MethodName := ⟨RX7, "decide", "(III)I"⟩
abbrev cX7_ones : ByteArray := prog_9_method_34_code
def yX7_ones : MethodName := ⟨RX7, "ones", "(I)I"⟩
abbrev cX7_sendTone : ByteArray := prog_9_method_35_code
def yX7_sendTone : MethodName := ⟨RX7, "sendTone", "(II)I"⟩
abbrev cX7_sendBeat : ByteArray := prog_9_method_36_code
def yX7_sendBeat : MethodName := ⟨RX7, "sendBeat", "(I)I"⟩
abbrev cX7_sendAll : ByteArray := prog_9_method_37_code
def yX7_sendAll : MethodName := ⟨RX7, "sendAll", "(II)I"⟩
abbrev cX7_send : ByteArray := prog_9_method_38_code
def yX7_send : MethodName := ⟨RX7, "send", "(II)I"⟩
abbrev cX7_forget : ByteArray := prog_9_method_39_code
def yX7_forget : MethodName := ⟨RX7, "forget", "(I)I"⟩
abbrev cX7_append : ByteArray := prog_9_method_40_code
def yX7_append : MethodName := ⟨RX7, "append", "(I)I"⟩
abbrev cX7_clearBuffer : ByteArray := prog_9_method_41_code
def yX7_clearBuffer : MethodName := ⟨RX7, "clearBuffer", "()I"⟩
abbrev cX7_digit : ByteArray := prog_9_method_42_code
def yX7_digit : MethodName := ⟨RX7, "digit", "(I)I"⟩
abbrev cX7_nextState : ByteArray := prog_9_method_43_code
def yX7_nextState : MethodName := ⟨RX7, "nextState", "(II)I"⟩
abbrev cX7_read : ByteArray := prog_9_method_44_code
def yX7_read : MethodName := ⟨RX7, "read", "()V"⟩
abbrev cX7_firstError : ByteArray := prog_9_method_45_code
def yX7_firstError : MethodName := ⟨RX7, "firstError", "()I"⟩
abbrev cX7_saidOn : ByteArray := prog_9_method_46_code
def yX7_saidOn : MethodName := ⟨RX7, "saidOn", "(I)I"⟩
abbrev cX7_say : ByteArray := prog_9_method_47_code
def yX7_say : MethodName := ⟨RX7, "say", "()I"⟩
abbrev cX7_undo : ByteArray := prog_9_method_48_code
def yX7_undo : MethodName := ⟨RX7, "undo", "()I"⟩
abbrev cX7_street : ByteArray := prog_9_method_49_code
def yX7_street : MethodName := ⟨RX7, "street", "(III)I"⟩
abbrev cX7_accent : ByteArray := prog_9_method_50_code
def yX7_accent : MethodName := ⟨RX7, "accent", "(III)I"⟩
abbrev cX7_waits : ByteArray := prog_9_method_51_code
def yX7_waits : MethodName := ⟨RX7, "waits", "(II)I"⟩
abbrev cX7_had : ByteArray := prog_9_method_52_code
def yX7_had : MethodName := ⟨RX7, "had", "(I)J"⟩
abbrev cX7_shyAll : ByteArray := prog_9_method_53_code
def yX7_shyAll : MethodName := ⟨RX7, "shyAll", "()I"⟩
abbrev cX7_insults : ByteArray := prog_9_method_54_code
def yX7_insults : MethodName := ⟨RX7, "insults", "()I"⟩
abbrev cX7_counted : ByteArray := prog_9_method_55_code
def yX7_counted : MethodName := ⟨RX7, "counted", "(I)I"⟩
abbrev cX7_count : ByteArray := prog_9_method_56_code
def yX7_count : MethodName := ⟨RX7, "count", "(I)I"⟩
abbrev cX7_setting : ByteArray := prog_9_method_57_code
def yX7_setting : MethodName := ⟨RX7, "setting", "(I)I"⟩
abbrev cX7_sureOf : ByteArray := prog_9_method_58_code
def yX7_sureOf : MethodName := ⟨RX7, "sureOf", "(II)I"⟩
abbrev cX7_sure : ByteArray := prog_9_method_59_code
def yX7_sure : MethodName := ⟨RX7, "sure", "(II)I"⟩
abbrev cX7_sentOf : ByteArray := prog_9_method_60_code
def yX7_sentOf : MethodName := ⟨RX7, "sentOf", "(III)I"⟩
abbrev cX7_ifSent : ByteArray := prog_9_method_61_code
def yX7_ifSent : MethodName := ⟨RX7, "ifSent", "(III)I"⟩
abbrev cX7_learnedOf : ByteArray := prog_9_method_62_code
def yX7_learnedOf : MethodName := ⟨RX7, "learnedOf", "(II)I"⟩
abbrev cX7_ifLearned : ByteArray := prog_9_method_63_code
def yX7_ifLearned : MethodName := ⟨RX7, "ifLearned", "(II)I"⟩
abbrev cX7_beatsOf : ByteArray := prog_9_method_64_code
def yX7_beatsOf : MethodName := ⟨RX7, "beatsOf", "(I)I"⟩
abbrev cX7_beatsFor : ByteArray := prog_9_method_65_code
def yX7_beatsFor : MethodName := ⟨RX7, "beatsFor", "(I)I"⟩
abbrev cX7_lessonOf : ByteArray := prog_9_method_66_code
def yX7_lessonOf : MethodName := ⟨RX7, "lessonOf", "(I)I"⟩
abbrev cX7_bestLesson : ByteArray := prog_9_method_67_code
def yX7_bestLesson : MethodName := ⟨RX7, "bestLesson", "(I)I"⟩
abbrev cX7_hurtsOf : ByteArray := prog_9_method_68_code
def yX7_hurtsOf : MethodName := ⟨RX7, "hurtsOf", "(II)I"⟩
abbrev cX7_hurts : ByteArray := prog_9_method_69_code
def yX7_hurts : MethodName := ⟨RX7, "hurts", "(II)I"⟩
abbrev cX7_shareOf : ByteArray := prog_9_method_70_code
def yX7_shareOf : MethodName := ⟨RX7, "shareOf", "(I)D"⟩
abbrev cX7_rightShare : ByteArray := prog_9_method_71_code
def yX7_rightShare : MethodName := ⟨RX7, "rightShare", "(I)D"⟩
abbrev cX7_mix : ByteArray := prog_9_method_72_code
def yX7_mix : MethodName := ⟨RX7, "mix", "(J)V"⟩
abbrev cX7_mixWay : ByteArray := prog_9_method_73_code
def yX7_mixWay : MethodName := ⟨RX7, "mixWay", "(I)V"⟩
abbrev cX7_digest : ByteArray := prog_9_method_74_code
def yX7_digest : MethodName := ⟨RX7, "digest", "()J"⟩
def RJxe99ae : String := "java/lang/Double"
def TJxe99ae : u_T := fun k => match k with
  | _ => ("", "", "", false)
def tyJxe99ae : Nat → FieldType := fun k => match k with
  | _ => .int
theorem nmJxe99ae : ∀ a, a < 0 → ∀ b, b < 0 → a ≠ b → (TJxe99ae a).2.1 ≠ (TJxe99ae b).2.1 := by decide +kernel
theorem tyJxe99ae_ok : ∀ k, k < 0 → parseFieldDescriptor (TJxe99ae k).2.2.1 = some (tyJxe99ae k) := by decide +kernel
abbrev cJxe99ae_isNaN_b9ae7 : ByteArray := prog_10_method_6_code
def yJxe99ae_isNaN_b9ae7 : MethodName := ⟨RJxe99ae, "isNaN", "(D)Z"⟩
abbrev cJxe99ae_doubleToLongBits_ccdee : ByteArray := prog_10_method_23_code
def yJxe99ae_doubleToLongBits_ccdee : MethodName := ⟨RJxe99ae, "doubleToLongBits", "(D)J"⟩
def RJ6 : String := "java/lang/Integer"
def TJ6 : u_T := fun k => match k with
  | _ => ("", "", "", false)
def tyJ6 : Nat → FieldType := fun k => match k with
  | _ => .int
theorem nmJ6 : ∀ a, a < 0 → ∀ b, b < 0 → a ≠ b → (TJ6 a).2.1 ≠ (TJ6 b).2.1 := by decide +kernel
theorem tyJ6_ok : ∀ k, k < 0 → parseFieldDescriptor (TJ6 k).2.2.1 = some (tyJ6 k) := by decide +kernel
abbrev cJ6_bitCount_0f7a4 : ByteArray := prog_15_method_49_code
def yJ6_bitCount_0f7a4 : MethodName := ⟨RJ6, "bitCount", "(I)I"⟩
def RJ9 : String := "java/lang/Math"
def TJ9 : u_T := fun k => match k with
  | _ => ("", "", "", false)
def tyJ9 : Nat → FieldType := fun k => match k with
  | _ => .int
theorem nmJ9 : ∀ a, a < 0 → ∀ b, b < 0 → a ≠ b → (TJ9 a).2.1 ≠ (TJ9 b).2.1 := by decide +kernel
theorem tyJ9_ok : ∀ k, k < 0 → parseFieldDescriptor (TJ9 k).2.2.1 = some (tyJ9 k) := by decide +kernel
abbrev cJ9_floorMod_7cf53 : ByteArray := prog_16_method_50_code
def yJ9_floorMod_7cf53 : MethodName := ⟨RJ9, "floorMod", "(II)I"⟩
abbrev cJ9_abs_0f7a4 : ByteArray := prog_16_method_59_code
def yJ9_abs_0f7a4 : MethodName := ⟨RJ9, "abs", "(I)I"⟩
abbrev cJ9_max_7cf53 : ByteArray := prog_16_method_65_code
def yJ9_max_7cf53 : MethodName := ⟨RJ9, "max", "(II)I"⟩
abbrev cJ9_min_7cf53 : ByteArray := prog_16_method_69_code
def yJ9_min_7cf53 : MethodName := ⟨RJ9, "min", "(II)I"⟩
def RJ0 : String := "java/lang/String"
def TJ0 : u_T := fun k => match k with
  | _ => ("", "", "", false)
def tyJ0 : Nat → FieldType := fun k => match k with
  | _ => .int
theorem nmJ0 : ∀ a, a < 0 → ∀ b, b < 0 → a ≠ b → (TJ0 a).2.1 ≠ (TJ0 b).2.1 := by decide +kernel
theorem tyJ0_ok : ∀ k, k < 0 → parseFieldDescriptor (TJ0 k).2.2.1 = some (tyJ0 k) := by decide +kernel
def RJ10 : String := "java/lang/System"
def TJ10 : u_T := fun k => match k with
  | _ => ("", "", "", false)
def tyJ10 : Nat → FieldType := fun k => match k with
  | _ => .int
theorem nmJ10 : ∀ a, a < 0 → ∀ b, b < 0 → a ≠ b → (TJ10 a).2.1 ≠ (TJ10 b).2.1 := by decide +kernel
theorem tyJ10_ok : ∀ k, k < 0 → parseFieldDescriptor (TJ10 k).2.2.1 = some (tyJ10 k) := by decide +kernel
def RL : String := "AccentModemsLaw"
abbrev cL_build : ByteArray := method_3_code
def yL_build : MethodName := ⟨RL, "build", "(LAccentModems;IIII[J)I"⟩
abbrev cL_carry : ByteArray := method_4_code
def yL_carry : MethodName := ⟨RL, "carry", "(LAccentModems;III[J)I"⟩
abbrev cL_insult : ByteArray := method_5_code
def yL_insult : MethodName := ⟨RL, "insult", "(LAccentModems;III[J)I"⟩
abbrev cL_set : ByteArray := method_6_code
def yL_set : MethodName := ⟨RL, "set", "(LAccentModems;II[J)I"⟩
abbrev cL_learn : ByteArray := method_7_code
def yL_learn : MethodName := ⟨RL, "learn", "(LAccentModems;II[J)I"⟩
abbrev cL_send : ByteArray := method_8_code
def yL_send : MethodName := ⟨RL, "send", "(LAccentModems;II[J)I"⟩
abbrev cL_forget : ByteArray := method_9_code
def yL_forget : MethodName := ⟨RL, "forget", "(LAccentModems;I[J)I"⟩
abbrev cL_append : ByteArray := method_10_code
def yL_append : MethodName := ⟨RL, "append", "(LAccentModems;I[J)I"⟩
abbrev cL_say : ByteArray := method_11_code
def yL_say : MethodName := ⟨RL, "say", "(LAccentModems;[J)I"⟩
abbrev cL_undo : ByteArray := method_12_code
def yL_undo : MethodName := ⟨RL, "undo", "(LAccentModems;[J)I"⟩
abbrev cL_street : ByteArray := method_13_code
def yL_street : MethodName := ⟨RL, "street", "(LAccentModems;III[J)I"⟩
abbrev cL_accent : ByteArray := method_14_code
def yL_accent : MethodName := ⟨RL, "accent", "(LAccentModems;III[J)I"⟩
abbrev cL_waits : ByteArray := method_15_code
def yL_waits : MethodName := ⟨RL, "waits", "(LAccentModems;II[J)I"⟩
abbrev cL_had : ByteArray := method_16_code
def yL_had : MethodName := ⟨RL, "had", "(LAccentModems;I[J)I"⟩
abbrev cL_count : ByteArray := method_17_code
def yL_count : MethodName := ⟨RL, "count", "(LAccentModems;I[J)I"⟩
abbrev cL_setting : ByteArray := method_18_code
def yL_setting : MethodName := ⟨RL, "setting", "(LAccentModems;I[J)I"⟩
abbrev cL_sure : ByteArray := method_19_code
def yL_sure : MethodName := ⟨RL, "sure", "(LAccentModems;II[J)I"⟩
abbrev cL_ifSent : ByteArray := method_20_code
def yL_ifSent : MethodName := ⟨RL, "ifSent", "(LAccentModems;III[J)I"⟩
abbrev cL_ifLearned : ByteArray := method_21_code
def yL_ifLearned : MethodName := ⟨RL, "ifLearned", "(LAccentModems;II[J)I"⟩
abbrev cL_beatsFor : ByteArray := method_22_code
def yL_beatsFor : MethodName := ⟨RL, "beatsFor", "(LAccentModems;I[J)I"⟩
abbrev cL_bestLesson : ByteArray := method_23_code
def yL_bestLesson : MethodName := ⟨RL, "bestLesson", "(LAccentModems;I[J)I"⟩
abbrev cL_hurts : ByteArray := method_24_code
def yL_hurts : MethodName := ⟨RL, "hurts", "(LAccentModems;II[J)I"⟩
abbrev cL_rightShare : ByteArray := method_25_code
def yL_rightShare : MethodName := ⟨RL, "rightShare", "(LAccentModems;I[D)I"⟩
abbrev cL_law : ByteArray := code
def yL_law : MethodName := ⟨RL, "law", "([I)Z"⟩
abbrev MI : Type := MethodName × ByteArray × Nat × Option FieldType × List (Nat × Nat × Nat × Nat) × Nat
abbrev mnm (Y : MI) : MethodName := Y.1
abbrev mcd (Y : MI) : ByteArray := Y.2.1
abbrev mml (Y : MI) : Nat := Y.2.2.1
abbrev mrt (Y : MI) : Option FieldType := Y.2.2.2.1
abbrev mhh (Y : MI) : List (Nat × Nat × Nat × Nat) := Y.2.2.2.2.1
abbrev mdp (Y : MI) : Nat := Y.2.2.2.2.2
abbrev gCl : List vw_C := [(RX0, TX0, 2), (RX1, TX1, 5), (RX2, TX2, 2), (RX3, TX3, 18), (RX4, TX4, 3), (RX5, TX5, 5), (RX6, TX6, 6), (RX7, TX7, 14)]
/-- a listing of a method: program counter, instruction, length -/
abbrev LI : Type := List (Nat × Instr × Nat)
def Lst (Y : MI) (L : LI) : Prop := ∀ q ∈ L, decode (mcd Y) q.1 = .ok q.2
/-- a word of the tables that goes to every callee -/
def gw (w : Cond) : Prop := w ∈ lw_tbl ∧ goodWord w = true
-- methods
def YX0_init : MI := (yX0_init, cX0_init, 1, none, [], 1)
def YX0_begin : MI := (yX0_begin, cX0_begin, 2, none, [], 0)
def YX0_note : MI := (yX0_note, cX0_note, 4, none, [], 1)
def YX0_worstOf : MI := (yX0_worstOf, cX0_worstOf, 5, (some .int), [], 1)
def YX1_init : MI := (yX1_init, cX1_init, 1, none, [], 3)
def YX1_wayAt : MI := (yX1_wayAt, cX1_wayAt, 2, (some (.object "AccentModems$Way")), [], 0)
def YX1_copyFrom : MI := (yX1_copyFrom, cX1_copyFrom, 2, none, [], 3)
def YX1_copyWayFrom : MI := (yX1_copyWayFrom, cX1_copyWayFrom, 4, (some (.object "AccentModems$Way")), [], 3)
def YX1_copyCommonFrom : MI := (yX1_copyCommonFrom, cX1_copyCommonFrom, 2, none, [], 1)
def YX1_draw : MI := (yX1_draw, cX1_draw, 2, (some .int), [], 0)
def YX1_drawNoise : MI := (yX1_drawNoise, cX1_drawNoise, 2, (some .int), [], 1)
def YX1_sendBeats : MI := (yX1_sendBeats, cX1_sendBeats, 6, (some .int), [], 3)
def YX1_sendSign : MI := (yX1_sendSign, cX1_sendSign, 7, (some .int), [], 2)
def YX1_takeLesson : MI := (yX1_takeLesson, cX1_takeLesson, 5, none, [], 3)
def YX1_learnBeat : MI := (yX1_learnBeat, cX1_learnBeat, 7, none, [], 2)
def YX1_bitsBehind : MI := (yX1_bitsBehind, cX1_bitsBehind, 5, (some .int), [], 2)
def YX1_leastHurt : MI := (yX1_leastHurt, cX1_leastHurt, 6, (some .int), [], 2)
def YX2_init : MI := (yX2_init, cX2_init, 1, none, [], 1)
def YX2_next : MI := (yX2_next, cX2_next, 2, (some .int), [], 2)
def YX2_behindDigit : MI := (yX2_behindDigit, cX2_behindDigit, 1, (some .int), [], 1)
def YX2_digitOf : MI := (yX2_digitOf, cX2_digitOf, 1, (some .int), [], 0)
def YX2_errorPlace : MI := (yX2_errorPlace, cX2_errorPlace, 3, (some .int), [], 3)
def YX2_isComplete : MI := (yX2_isComplete, cX2_isComplete, 3, (some .boolean), [], 3)
def YX2_bitsFor : MI := (yX2_bitsFor, cX2_bitsFor, 7, (some .int), [], 3)
def YX2_putBits : MI := (yX2_putBits, cX2_putBits, 6, none, [], 3)
def YX3_init : MI := (yX3_init, cX3_init, 1, none, [], 1)
def YX3_copyFrom : MI := (yX3_copyFrom, cX3_copyFrom, 2, none, [], 0)
def YX3_streetNumber : MI := (yX3_streetNumber, cX3_streetNumber, 2, (some .int), [], 0)
def YX3_setStreetNumber : MI := (yX3_setStreetNumber, cX3_setStreetNumber, 3, none, [], 0)
def YX3_accentNumber : MI := (yX3_accentNumber, cX3_accentNumber, 2, (some .int), [], 0)
def YX3_amplitudeOf : MI := (yX3_amplitudeOf, cX3_amplitudeOf, 2, (some .int), [], 0)
def YX3_arriving : MI := (yX3_arriving, cX3_arriving, 3, (some .int), [], 0)
def YX3_expected : MI := (yX3_expected, cX3_expected, 2, (some .int), [], 0)
def YX3_decide : MI := (yX3_decide, cX3_decide, 5, (some .int), [], 1)
def YX3_pass : MI := (yX3_pass, cX3_pass, 3, none, [], 0)
def YX3_knowSignBefore : MI := (yX3_knowSignBefore, cX3_knowSignBefore, 1, none, [], 0)
def YX3_countSign : MI := (yX3_countSign, cX3_countSign, 2, none, [], 0)
def YX3_becomeShyAt : MI := (yX3_becomeShyAt, cX3_becomeShyAt, 2, none, [], 0)
def YX3_improve : MI := (yX3_improve, cX3_improve, 4, none, [], 1)
def YX3_step : MI := (yX3_step, cX3_step, 2, (some .int), [], 0)
def YX3_held : MI := (yX3_held, cX3_held, 3, (some .int), [], 0)
def YX3_endLesson : MI := (yX3_endLesson, cX3_endLesson, 3, none, [], 2)
def YX3_bitsFor : MI := (yX3_bitsFor, cX3_bitsFor, 5, (some .int), [], 1)
def YX3_roomWith : MI := (yX3_roomWith, cX3_roomWith, 2, (some .int), [], 0)
def YX3_sureBits : MI := (yX3_sureBits, cX3_sureBits, 2, (some .int), [], 2)
def YX3_misheardWith : MI := (yX3_misheardWith, cX3_misheardWith, 4, (some .int), [], 1)
def YX3_loseAccent : MI := (yX3_loseAccent, cX3_loseAccent, 1, none, [], 0)
def YX4_init : MI := (yX4_init, cX4_init, 1, none, [], 1)
def YX4_copyFrom : MI := (yX4_copyFrom, cX4_copyFrom, 2, none, [], 1)
def YX4_bitAt : MI := (yX4_bitAt, cX4_bitAt, 2, (some .int), [], 0)
def YX4_put : MI := (yX4_put, cX4_put, 2, none, [], 0)
def YX4_putDigit : MI := (yX4_putDigit, cX4_putDigit, 3, none, [], 1)
def YX4_take : MI := (yX4_take, cX4_take, 4, (some .int), [], 1)
def YX5_init : MI := (yX5_init, cX5_init, 2, none, [], 2)
def YX5_copyFrom : MI := (yX5_copyFrom, cX5_copyFrom, 3, none, [], 2)
def YX5_receive : MI := (yX5_receive, cX5_receive, 4, none, [], 0)
def YX5_bits : MI := (yX5_bits, cX5_bits, 3, (some .int), [], 0)
def YX5_shies : MI := (yX5_shies, cX5_shies, 3, (some .int), [], 0)
def YX5_insulted : MI := (yX5_insulted, cX5_insulted, 3, (some .int), [], 0)
def YX6_init : MI := (yX6_init, cX6_init, 2, none, [], 4)
def YX6_build : MI := (yX6_build, cX6_build, 7, (some .int), [], 8)
def YX6_carry : MI := (yX6_carry, cX6_carry, 6, (some .int), [], 8)
def YX6_insult : MI := (yX6_insult, cX6_insult, 6, (some .int), [], 8)
def YX6_set : MI := (yX6_set, cX6_set, 4, (some .int), [], 7)
def YX6_learn : MI := (yX6_learn, cX6_learn, 4, (some .int), [], 7)
def YX6_send : MI := (yX6_send, cX6_send, 4, (some .int), [], 7)
def YX6_forget : MI := (yX6_forget, cX6_forget, 5, (some .int), [], 7)
def YX6_append : MI := (yX6_append, cX6_append, 2, (some .int), [], 6)
def YX6_clearBuffer : MI := (yX6_clearBuffer, cX6_clearBuffer, 2, (some .int), [], 0)
def YX6_firstError : MI := (yX6_firstError, cX6_firstError, 1, (some .int), [], 4)
def YX6_say : MI := (yX6_say, cX6_say, 3, (some .int), [], 6)
def YX6_undo : MI := (yX6_undo, cX6_undo, 1, (some .int), [], 6)
def YX6_street : MI := (yX6_street, cX6_street, 5, (some .int), [], 8)
def YX6_accent : MI := (yX6_accent, cX6_accent, 5, (some .int), [], 8)
def YX6_waits : MI := (yX6_waits, cX6_waits, 4, (some .int), [], 7)
def YX6_had : MI := (yX6_had, cX6_had, 2, (some .long), [], 7)
def YX6_count : MI := (yX6_count, cX6_count, 2, (some .int), [], 6)
def YX6_setting : MI := (yX6_setting, cX6_setting, 2, (some .int), [], 7)
def YX6_sure : MI := (yX6_sure, cX6_sure, 3, (some .int), [], 8)
def YX6_ifSent : MI := (yX6_ifSent, cX6_ifSent, 7, (some .int), [], 7)
def YX6_ifLearned : MI := (yX6_ifLearned, cX6_ifLearned, 4, (some .int), [], 7)
def YX6_beatsFor : MI := (yX6_beatsFor, cX6_beatsFor, 4, (some .int), [], 7)
def YX6_bestLesson : MI := (yX6_bestLesson, cX6_bestLesson, 7, (some .int), [], 7)
def YX6_hurts : MI := (yX6_hurts, cX6_hurts, 5, (some .int), [], 8)
def YX6_rightShare : MI := (yX6_rightShare, cX6_rightShare, 3, (some .double), [], 7)
def YX6_digest : MI := (yX6_digest, cX6_digest, 5, (some .long), [], 10)
def YX6_digestOfTone : MI := (yX6_digestOfTone, cX6_digestOfTone, 8, (some .long), [], 9)
def YX6_digestOfWay : MI := (yX6_digestOfWay, cX6_digestOfWay, 8, (some .long), [], 8)
def YX6_bitsOfShare : MI := (yX6_bitsOfShare, cX6_bitsOfShare, 7, (some .long), [], 0)
def YX6_wayOf : MI := (yX6_wayOf, cX6_wayOf, 2, (some (.object "AccentModems$Way")), [], 6)
def YX6_toneOf : MI := (yX6_toneOf, cX6_toneOf, 4, (some (.object "AccentModems$Tone")), [], 7)
def YX6_checkStreetNumber : MI := (yX6_checkStreetNumber, cX6_checkStreetNumber, 2, none, [], 6)
def YX6_checkSetting : MI := (yX6_checkSetting, cX6_checkSetting, 1, none, [], 6)
def YX6_checkBeats : MI := (yX6_checkBeats, cX6_checkBeats, 1, none, [], 6)
def YX6_checkBeatsLeft : MI := (yX6_checkBeatsLeft, cX6_checkBeatsLeft, 2, none, [], 6)
def YX6_save : MI := (yX6_save, cX6_save, 1, none, [], 4)
def YX6_dropOldest : MI := (yX6_dropOldest, cX6_dropOldest, 3, none, [], 0)
def YX7_init : MI := (yX7_init, cX7_init, 2, none, [], 1)
def YX7_thrown : MI := (yX7_thrown, cX7_thrown, 1, (some .int), [], 0)
def YX7_fails : MI := (yX7_fails, cX7_fails, 2, (some .int), [], 0)
def YX7_in : MI := (yX7_in, cX7_in, 3, (some .boolean), [], 0)
def YX7_size : MI := (yX7_size, cX7_size, 1, (some .int), [], 0)
def YX7_isWay : MI := (yX7_isWay, cX7_isWay, 1, (some .boolean), [], 1)
def YX7_isTone : MI := (yX7_isTone, cX7_isTone, 1, (some .boolean), [], 1)
def YX7_streetAt : MI := (yX7_streetAt, cX7_streetAt, 3, (some .int), [], 0)
def YX7_accentAt : MI := (yX7_accentAt, cX7_accentAt, 3, (some .int), [], 0)
def YX7_save : MI := (yX7_save, cX7_save, 2, none, [], 0)
def YX7_putAside : MI := (yX7_putAside, cX7_putAside, 2, none, [], 0)
def YX7_putBack : MI := (yX7_putBack, cX7_putBack, 2, none, [], 0)
def YX7_mayBuild : MI := (yX7_mayBuild, cX7_mayBuild, 2, (some .boolean), [], 1)
def YX7_build : MI := (yX7_build, cX7_build, 7, (some .int), [], 2)
def YX7_carry : MI := (yX7_carry, cX7_carry, 6, (some .int), [], 2)
def YX7_insult : MI := (yX7_insult, cX7_insult, 5, (some .int), [], 2)
def YX7_maySet : MI := (yX7_maySet, cX7_maySet, 2, (some .boolean), [], 1)
def YX7_set : MI := (yX7_set, cX7_set, 4, (some .int), [], 2)
def YX7_draw : MI := (yX7_draw, cX7_draw, 4, (some .int), [], 0)
def YX7_amplitude : MI := (yX7_amplitude, cX7_amplitude, 2, (some .int), [], 0)
def YX7_hear : MI := (yX7_hear, cX7_hear, 6, (some .int), [], 1)
def YX7_held : MI := (yX7_held, cX7_held, 3, (some .int), [], 0)
def YX7_learnTone : MI := (yX7_learnTone, cX7_learnTone, 12, none, [], 2)
def YX7_learnBeat : MI := (yX7_learnBeat, cX7_learnBeat, 4, none, [], 3)
def YX7_worstOf : MI := (yX7_worstOf, cX7_worstOf, 5, (some .int), [], 0)
def YX7_bitsBy : MI := (yX7_bitsBy, cX7_bitsBy, 4, (some .int), [], 0)
def YX7_lessonBits : MI := (yX7_lessonBits, cX7_lessonBits, 5, (some .int), [], 1)
def YX7_carried : MI := (yX7_carried, cX7_carried, 4, (some .int), [], 1)
def YX7_learnAll : MI := (yX7_learnAll, cX7_learnAll, 5, (some .int), [], 4)
def YX7_mayBeat : MI := (yX7_mayBeat, cX7_mayBeat, 3, (some .boolean), [], 2)
def YX7_learn : MI := (yX7_learn, cX7_learn, 3, (some .int), [], 5)
def YX7_takeBit : MI := (yX7_takeBit, cX7_takeBit, 6, (some .int), [], 0)
def YX7_decide : MI := (yX7_decide, cX7_decide, 10, (some .int), [], 1)
def YX7_ones : MI := (yX7_ones, cX7_ones, 3, (some .int), [], 0)
def YX7_sendTone : MI := (yX7_sendTone, cX7_sendTone, 9, (some .int), [], 2)
def YX7_sendBeat : MI := (yX7_sendBeat, cX7_sendBeat, 5, (some .int), [], 3)
def YX7_sendAll : MI := (yX7_sendAll, cX7_sendAll, 5, (some .int), [], 4)
def YX7_send : MI := (yX7_send, cX7_send, 3, (some .int), [], 5)
def YX7_forget : MI := (yX7_forget, cX7_forget, 5, (some .int), [], 2)
def YX7_append : MI := (yX7_append, cX7_append, 2, (some .int), [], 1)
def YX7_clearBuffer : MI := (yX7_clearBuffer, cX7_clearBuffer, 2, (some .int), [], 0)
def YX7_digit : MI := (yX7_digit, cX7_digit, 1, (some .int), [], 1)
def YX7_nextState : MI := (yX7_nextState, cX7_nextState, 3, (some .int), [], 2)
def YX7_read : MI := (yX7_read, cX7_read, 5, none, [], 3)
def YX7_firstError : MI := (yX7_firstError, cX7_firstError, 1, (some .int), [], 4)
def YX7_saidOn : MI := (yX7_saidOn, cX7_saidOn, 7, (some .int), [], 2)
def YX7_say : MI := (yX7_say, cX7_say, 8, (some .int), [], 4)
def YX7_undo : MI := (yX7_undo, cX7_undo, 2, (some .int), [], 1)
def YX7_street : MI := (yX7_street, cX7_street, 4, (some .int), [], 2)
def YX7_accent : MI := (yX7_accent, cX7_accent, 4, (some .int), [], 2)
def YX7_waits : MI := (yX7_waits, cX7_waits, 3, (some .int), [], 2)
def YX7_had : MI := (yX7_had, cX7_had, 2, (some .long), [], 2)
def YX7_shyAll : MI := (yX7_shyAll, cX7_shyAll, 3, (some .int), [], 0)
def YX7_insults : MI := (yX7_insults, cX7_insults, 3, (some .int), [], 0)
def YX7_counted : MI := (yX7_counted, cX7_counted, 2, (some .int), [], 2)
def YX7_count : MI := (yX7_count, cX7_count, 2, (some .int), [], 3)
def YX7_setting : MI := (yX7_setting, cX7_setting, 2, (some .int), [], 1)
def YX7_sureOf : MI := (yX7_sureOf, cX7_sureOf, 10, (some .int), [], 1)
def YX7_sure : MI := (yX7_sure, cX7_sure, 3, (some .int), [], 2)
def YX7_sentOf : MI := (yX7_sentOf, cX7_sentOf, 7, (some .int), [], 5)
def YX7_ifSent : MI := (yX7_ifSent, cX7_ifSent, 4, (some .int), [], 6)
def YX7_learnedOf : MI := (yX7_learnedOf, cX7_learnedOf, 4, (some .int), [], 5)
def YX7_ifLearned : MI := (yX7_ifLearned, cX7_ifLearned, 3, (some .int), [], 6)
def YX7_beatsOf : MI := (yX7_beatsOf, cX7_beatsOf, 4, (some .int), [], 4)
def YX7_beatsFor : MI := (yX7_beatsFor, cX7_beatsFor, 2, (some .int), [], 5)
def YX7_lessonOf : MI := (yX7_lessonOf, cX7_lessonOf, 6, (some .int), [], 4)
def YX7_bestLesson : MI := (yX7_bestLesson, cX7_bestLesson, 2, (some .int), [], 5)
def YX7_hurtsOf : MI := (yX7_hurtsOf, cX7_hurtsOf, 9, (some .int), [], 3)
def YX7_hurts : MI := (yX7_hurts, cX7_hurts, 3, (some .int), [], 4)
def YX7_shareOf : MI := (yX7_shareOf, cX7_shareOf, 3, (some .double), [], 0)
def YX7_rightShare : MI := (yX7_rightShare, cX7_rightShare, 2, (some .double), [], 2)
def YX7_mix : MI := (yX7_mix, cX7_mix, 3, none, [], 0)
def YX7_mixWay : MI := (yX7_mixWay, cX7_mixWay, 4, none, [], 6)
def YX7_digest : MI := (yX7_digest, cX7_digest, 2, (some .long), [], 7)
def YJxe99ae_isNaN_b9ae7 : MI := (yJxe99ae_isNaN_b9ae7, cJxe99ae_isNaN_b9ae7, 2, (some .boolean), [], 0)
def YJxe99ae_doubleToLongBits_ccdee : MI := (yJxe99ae_doubleToLongBits_ccdee, cJxe99ae_doubleToLongBits_ccdee, 2, (some .long), [], 1)
def YJ6_bitCount_0f7a4 : MI := (yJ6_bitCount_0f7a4, cJ6_bitCount_0f7a4, 1, (some .int), [], 0)
def YJ9_floorMod_7cf53 : MI := (yJ9_floorMod_7cf53, cJ9_floorMod_7cf53, 3, (some .int), [], 0)
def YL_build : MI := (yL_build, cL_build, 7, (some .int), [(0, 14, 17, 13), (0, 14, 21, 15)], 9)
def YL_carry : MI := (yL_carry, cL_carry, 6, (some .int), [(0, 12, 15, 13), (0, 12, 19, 15)], 9)
def YL_insult : MI := (yL_insult, cL_insult, 6, (some .int), [(0, 12, 15, 13), (0, 12, 19, 15), (0, 12, 23, 24)], 9)
def YL_set : MI := (yL_set, cL_set, 5, (some .int), [(0, 10, 13, 13), (0, 10, 17, 15)], 8)
def YL_learn : MI := (yL_learn, cL_learn, 5, (some .int), [(0, 10, 13, 13), (0, 10, 17, 15), (0, 10, 21, 24)], 8)
def YL_send : MI := (yL_send, cL_send, 5, (some .int), [(0, 10, 13, 13), (0, 10, 17, 15), (0, 10, 21, 24)], 8)
def YL_forget : MI := (yL_forget, cL_forget, 4, (some .int), [(0, 9, 12, 13)], 8)
def YL_append : MI := (yL_append, cL_append, 4, (some .int), [(0, 9, 12, 15), (0, 9, 15, 24)], 7)
def YL_say : MI := (yL_say, cL_say, 3, (some .int), [(0, 8, 11, 15), (0, 8, 14, 24)], 7)
def YL_undo : MI := (yL_undo, cL_undo, 3, (some .int), [(0, 8, 11, 24)], 7)
def YL_street : MI := (yL_street, cL_street, 6, (some .int), [(0, 12, 15, 13), (0, 12, 19, 15)], 9)
def YL_accent : MI := (yL_accent, cL_accent, 6, (some .int), [(0, 12, 15, 13), (0, 12, 19, 15)], 9)
def YL_waits : MI := (yL_waits, cL_waits, 5, (some .int), [(0, 10, 13, 13)], 8)
def YL_had : MI := (yL_had, cL_had, 4, (some .int), [(0, 8, 11, 13)], 8)
def YL_count : MI := (yL_count, cL_count, 4, (some .int), [(0, 9, 12, 15)], 7)
def YL_setting : MI := (yL_setting, cL_setting, 4, (some .int), [(0, 9, 12, 13)], 8)
def YL_sure : MI := (yL_sure, cL_sure, 5, (some .int), [(0, 10, 13, 13)], 9)
def YL_ifSent : MI := (yL_ifSent, cL_ifSent, 6, (some .int), [(0, 12, 15, 13), (0, 12, 19, 15)], 8)
def YL_ifLearned : MI := (yL_ifLearned, cL_ifLearned, 5, (some .int), [(0, 10, 13, 13), (0, 10, 17, 15)], 8)
def YL_beatsFor : MI := (yL_beatsFor, cL_beatsFor, 4, (some .int), [(0, 9, 12, 13)], 8)
def YL_bestLesson : MI := (yL_bestLesson, cL_bestLesson, 4, (some .int), [(0, 9, 12, 13)], 8)
def YL_hurts : MI := (yL_hurts, cL_hurts, 5, (some .int), [(0, 10, 13, 13)], 9)
def YL_rightShare : MI := (yL_rightShare, cL_rightShare, 4, (some .int), [(0, 8, 11, 13)], 8)
def YL_law : MI := (x, code, maxLocals, ret, [], 11)
def LX0_init : LI := [(0, .aload_n 0, 1), (1, .invokespecial 3, 3), (4, .aload_n 0, 1), (5, .bipush 64, 2), (7, .newarray .int, 2), (9, .putfield 9, 3), (12, .return_, 1)]
set_option maxRecDepth 20000 in
theorem DX0_init : Lst YX0_init LX0_init := by unfold Lst; decide +kernel
def LX0_begin : LI := [(0, .aload_n 0, 1), (1, .iconst 0, 1), (2, .putfield 15, 3), (5, .iconst 0, 1), (6, .istore_n 1, 1), (7, .iload_n 1, 1), (8, .bipush 64, 2), (10, .if_icmp .ge 16, 3), (13, .aload_n 0, 1), (14, .getfield 9, 3), (17, .iload_n 1, 1), (18, .iconst 0, 1), (19, .iastore, 1), (20, .iinc 1 1, 3), (23, .goto (-16), 3), (26, .return_, 1)]
set_option maxRecDepth 20000 in
theorem DX0_begin : Lst YX0_begin LX0_begin := by unfold Lst; decide +kernel
def LX0_note : LI := [(0, .iload_n 1, 1), (1, .bipush 8, 2), (3, .imul, 1), (4, .aload_n 0, 1), (5, .getfield 15, 3), (8, .bipush 8, 2), (10, .invokestatic 19, 3), (13, .iadd, 1), (14, .istore_n 3, 1), (15, .iload_n 3, 1), (16, .ifCond .lt 19, 3), (19, .iload_n 3, 1), (20, .bipush 64, 2), (22, .if_icmp .ge 13, 3), (25, .aload_n 0, 1), (26, .getfield 9, 3), (29, .iload_n 3, 1), (30, .iload_n 2, 1), (31, .invokestatic 25, 3), (34, .iastore, 1), (35, .return_, 1)]
set_option maxRecDepth 20000 in
theorem DX0_note : Lst YX0_note LX0_note := by unfold Lst; decide +kernel
def LX0_worstOf : LI := [(0, .iconst 0, 1), (1, .istore_n 2, 1), (2, .iconst 0, 1), (3, .istore_n 3, 1), (4, .iload_n 3, 1), (5, .bipush 8, 2), (7, .if_icmp .ge 41, 3), (10, .iload_n 1, 1), (11, .bipush 8, 2), (13, .imul, 1), (14, .iload_n 3, 1), (15, .iadd, 1), (16, .istore 4, 2), (18, .iload 4, 2), (20, .ifCond .lt 22, 3), (23, .iload 4, 2), (25, .bipush 64, 2), (27, .if_icmp .ge 15, 3), (30, .iload_n 2, 1), (31, .aload_n 0, 1), (32, .getfield 9, 3), (35, .iload 4, 2), (37, .iaload, 1), (38, .invokestatic 29, 3), (41, .istore_n 2, 1), (42, .iinc 3 1, 3), (45, .goto (-41), 3), (48, .iload_n 2, 1), (49, .ireturn, 1)]
set_option maxRecDepth 20000 in
theorem DX0_worstOf : Lst YX0_worstOf LX0_worstOf := by unfold Lst; decide +kernel
def LX1_init : LI := [(0, .aload_n 0, 1), (1, .invokespecial 3, 3), (4, .aload_n 0, 1), (5, .new 9, 3), (8, .dup, 1), (9, .invokespecial 11, 3), (12, .putfield 12, 3), (15, .aload_n 0, 1), (16, .new 9, 3), (19, .dup, 1), (20, .invokespecial 11, 3), (23, .putfield 18, 3), (26, .aload_n 0, 1), (27, .iconst 3, 1), (28, .newarray .int, 2), (30, .dup, 1), (31, .iconst 0, 1), (32, .bipush 8, 2), (34, .iastore, 1), (35, .dup, 1), (36, .iconst 1, 1), (37, .bipush 8, 2), (39, .iastore, 1), (40, .dup, 1), (41, .iconst 2, 1), (42, .iconst 3, 1), (43, .iastore, 1), (44, .putfield 21, 3), (47, .aload_n 0, 1), (48, .iconst 1, 1), (49, .putfield 25, 3), (52, .return_, 1)]
set_option maxRecDepth 20000 in
theorem DX1_init : Lst YX1_init LX1_init := by unfold Lst; decide +kernel
def LX1_wayAt : LI := [(0, .iload_n 1, 1), (1, .ifCond .ne 10, 3), (4, .aload_n 0, 1), (5, .getfield 12, 3), (8, .goto 7, 3), (11, .aload_n 0, 1), (12, .getfield 18, 3), (15, .areturn, 1)]
set_option maxRecDepth 20000 in
theorem DX1_wayAt : Lst YX1_wayAt LX1_wayAt := by unfold Lst; decide +kernel
def LX1_copyFrom : LI := [(0, .aload_n 0, 1), (1, .getfield 12, 3), (4, .aload_n 1, 1), (5, .getfield 12, 3), (8, .invokevirtual 29, 3), (11, .aload_n 0, 1), (12, .getfield 18, 3), (15, .aload_n 1, 1), (16, .getfield 18, 3), (19, .invokevirtual 29, 3), (22, .aload_n 0, 1), (23, .aload_n 1, 1), (24, .invokevirtual 33, 3), (27, .return_, 1)]
set_option maxRecDepth 20000 in
theorem DX1_copyFrom : Lst YX1_copyFrom LX1_copyFrom := by unfold Lst; decide +kernel
def LX1_copyWayFrom : LI := [(0, .aload_n 0, 1), (1, .iload_n 2, 1), (2, .invokevirtual 37, 3), (5, .astore_n 3, 1), (6, .aload_n 3, 1), (7, .aload_n 1, 1), (8, .iload_n 2, 1), (9, .invokevirtual 37, 3), (12, .invokevirtual 29, 3), (15, .aload_n 0, 1), (16, .aload_n 1, 1), (17, .invokevirtual 33, 3), (20, .aload_n 3, 1), (21, .areturn, 1)]
set_option maxRecDepth 20000 in
theorem DX1_copyWayFrom : Lst YX1_copyWayFrom LX1_copyWayFrom := by unfold Lst; decide +kernel
def LX1_copyCommonFrom : LI := [(0, .aload_n 1, 1), (1, .getfield 21, 3), (4, .iconst 0, 1), (5, .aload_n 0, 1), (6, .getfield 21, 3), (9, .iconst 0, 1), (10, .iconst 3, 1), (11, .invokestatic 41, 3), (14, .aload_n 0, 1), (15, .aload_n 1, 1), (16, .getfield 25, 3), (19, .putfield 25, 3), (22, .aload_n 0, 1), (23, .aload_n 1, 1), (24, .getfield 47, 3), (27, .putfield 47, 3), (30, .return_, 1)]
set_option maxRecDepth 20000 in
theorem DX1_copyCommonFrom : Lst YX1_copyCommonFrom LX1_copyCommonFrom := by unfold Lst; decide +kernel
def LX1_draw : LI := [(0, .aload_n 0, 1), (1, .ldc2_w 50, 3), (4, .aload_n 0, 1), (5, .getfield 25, 3), (8, .i2l, 1), (9, .lmul, 1), (10, .ldc2_w 52, 3), (13, .ladd, 1), (14, .ldc2_w 54, 3), (17, .lrem, 1), (18, .l2i, 1), (19, .putfield 25, 3), (22, .iload_n 1, 1), (23, .ifCond .le 15, 3), (26, .aload_n 0, 1), (27, .getfield 25, 3), (30, .ldc 56, 2), (32, .idiv, 1), (33, .iload_n 1, 1), (34, .irem, 1), (35, .goto 4, 3), (38, .iconst 0, 1), (39, .ireturn, 1)]
set_option maxRecDepth 20000 in
theorem DX1_draw : Lst YX1_draw LX1_draw := by unfold Lst; decide +kernel
def LX1_drawNoise : LI := [(0, .aload_n 0, 1), (1, .iconst 2, 1), (2, .aload_n 1, 1), (3, .getfield 57, 3), (6, .imul, 1), (7, .iconst 1, 1), (8, .iadd, 1), (9, .invokevirtual 62, 3), (12, .aload_n 1, 1), (13, .getfield 57, 3), (16, .isub, 1), (17, .ireturn, 1)]
set_option maxRecDepth 20000 in
theorem DX1_drawNoise : Lst YX1_drawNoise LX1_drawNoise := by unfold Lst; decide +kernel
def LX1_sendBeats : LI := [(0, .iconst 0, 1), (1, .istore_n 3, 1), (2, .iconst 0, 1), (3, .istore 4, 2), (5, .iload 4, 2), (7, .iload_n 2, 1), (8, .if_icmp .ge 82, 3), (11, .iconst 0, 1), (12, .istore 5, 2), (14, .iload 5, 2), (16, .bipush 8, 2), (18, .if_icmp .ge 24, 3), (21, .iload_n 3, 1), (22, .aload_n 0, 1), (23, .aload_n 1, 1), (24, .aload_n 1, 1), (25, .getfield 66, 3), (28, .iload 5, 2), (30, .aaload, 1), (31, .invokevirtual 70, 3), (34, .iadd, 1), (35, .istore_n 3, 1), (36, .iinc 5 1, 3), (39, .goto (-25), 3), (42, .iconst 0, 1), (43, .istore 5, 2), (45, .iload 5, 2), (47, .bipush 8, 2), (49, .if_icmp .ge 25, 3), (52, .aload_n 1, 1), (53, .getfield 66, 3), (56, .iload 5, 2), (58, .aaload, 1), (59, .aload_n 0, 1), (60, .getfield 21, 3), (63, .iconst 2, 1), (64, .iaload, 1), (65, .invokevirtual 74, 3), (68, .iinc 5 1, 3), (71, .goto (-26), 3), (74, .aload_n 0, 1), (75, .dup, 1), (76, .getfield 47, 3), (79, .iconst 1, 1), (80, .iadd, 1), (81, .putfield 47, 3), (84, .iinc 4 1, 3), (87, .goto (-82), 3), (90, .iload_n 3, 1), (91, .ireturn, 1)]
set_option maxRecDepth 20000 in
theorem DX1_sendBeats : Lst YX1_sendBeats LX1_sendBeats := by unfold Lst; decide +kernel
def LX1_sendSign : LI := [(0, .aload_n 1, 1), (1, .getfield 78, 3), (4, .aload_n 2, 1), (5, .getfield 82, 3), (8, .invokevirtual 85, 3), (11, .istore_n 3, 1), (12, .aload_n 2, 1), (13, .iload_n 3, 1), (14, .invokevirtual 90, 3), (17, .istore 4, 2), (19, .aload_n 2, 1), (20, .aload_n 2, 1), (21, .iload 4, 2), (23, .aload_n 0, 1), (24, .aload_n 2, 1), (25, .invokevirtual 93, 3), (28, .invokevirtual 97, 3), (31, .invokevirtual 101, 3), (34, .istore 5, 2), (36, .iload_n 3, 1), (37, .iload 5, 2), (39, .ixor, 1), (40, .invokestatic 104, 3), (43, .istore 6, 2), (45, .aload_n 2, 1), (46, .iload 4, 2), (48, .aload_n 2, 1), (49, .iload 5, 2), (51, .invokevirtual 90, 3), (54, .invokevirtual 109, 3), (57, .aload_n 2, 1), (58, .iload 6, 2), (60, .ifCond .le 7, 3), (63, .iconst 1, 1), (64, .goto 4, 3), (67, .iconst 0, 1), (68, .invokevirtual 113, 3), (71, .aload_n 1, 1), (72, .iload 5, 2), (74, .aload_n 2, 1), (75, .getfield 82, 3), (78, .iload 6, 2), (80, .invokevirtual 117, 3), (83, .iload 6, 2), (85, .ireturn, 1)]
set_option maxRecDepth 20000 in
theorem DX1_sendSign : Lst YX1_sendSign LX1_sendSign := by unfold Lst; decide +kernel
def LX1_takeLesson : LI := [(0, .aload_n 3, 1), (1, .invokevirtual 121, 3), (4, .iconst 0, 1), (5, .istore 4, 2), (7, .iload 4, 2), (9, .iload_n 2, 1), (10, .if_icmp .ge 15, 3), (13, .aload_n 0, 1), (14, .aload_n 1, 1), (15, .aload_n 3, 1), (16, .invokevirtual 126, 3), (19, .iinc 4 1, 3), (22, .goto (-15), 3), (25, .iconst 0, 1), (26, .istore 4, 2), (28, .iload 4, 2), (30, .bipush 8, 2), (32, .if_icmp .ge 31, 3), (35, .aload_n 1, 1), (36, .getfield 66, 3), (39, .iload 4, 2), (41, .aaload, 1), (42, .aload_n 3, 1), (43, .iload 4, 2), (45, .invokevirtual 130, 3), (48, .aload_n 0, 1), (49, .getfield 21, 3), (52, .iconst 1, 1), (53, .iaload, 1), (54, .invokevirtual 133, 3), (57, .iinc 4 1, 3), (60, .goto (-32), 3), (63, .return_, 1)]
set_option maxRecDepth 20000 in
theorem DX1_takeLesson : Lst YX1_takeLesson LX1_takeLesson := by unfold Lst; decide +kernel
def LX1_learnBeat : LI := [(0, .iconst 0, 1), (1, .istore_n 3, 1), (2, .iload_n 3, 1), (3, .bipush 8, 2), (5, .if_icmp .ge 95, 3), (8, .aload_n 1, 1), (9, .getfield 66, 3), (12, .iload_n 3, 1), (13, .aaload, 1), (14, .astore 4, 2), (16, .aload_n 0, 1), (17, .iconst 2, 1), (18, .invokevirtual 62, 3), (21, .iconst 1, 1), (22, .if_icmp .ne 9, 3), (25, .sipush 128, 3), (28, .goto 5, 3), (31, .bipush (-128), 2), (33, .istore 5, 2), (35, .aload 4, 2), (37, .iload 5, 2), (39, .aload_n 0, 1), (40, .aload 4, 2), (42, .invokevirtual 93, 3), (45, .invokevirtual 97, 3), (48, .aload 4, 2), (50, .iload 5, 2), (52, .invokevirtual 136, 3), (55, .isub, 1), (56, .istore 6, 2), (58, .aload 4, 2), (60, .iload 6, 2), (62, .iload 5, 2), (64, .aload_n 0, 1), (65, .getfield 21, 3), (68, .iconst 0, 1), (69, .iaload, 1), (70, .invokevirtual 139, 3), (73, .aload 4, 2), (75, .iload 5, 2), (77, .iload 5, 2), (79, .invokevirtual 109, 3), (82, .aload 4, 2), (84, .invokevirtual 142, 3), (87, .aload_n 2, 1), (88, .iload_n 3, 1), (89, .iload 6, 2), (91, .invokevirtual 145, 3), (94, .iinc 3 1, 3), (97, .goto (-95), 3), (100, .aload_n 2, 1), (101, .dup, 1), (102, .getfield 148, 3), (105, .iconst 1, 1), (106, .iadd, 1), (107, .putfield 148, 3), (110, .aload_n 0, 1), (111, .dup, 1), (112, .getfield 47, 3), (115, .iconst 1, 1), (116, .iadd, 1), (117, .putfield 47, 3), (120, .return_, 1)]
set_option maxRecDepth 20000 in
theorem DX1_learnBeat : Lst YX1_learnBeat LX1_learnBeat := by unfold Lst; decide +kernel
def LX1_bitsBehind : LI := [(0, .iconst 0, 1), (1, .istore_n 3, 1), (2, .iconst 0, 1), (3, .istore 4, 2), (5, .iload 4, 2), (7, .bipush 8, 2), (9, .if_icmp .ge 34, 3), (12, .iload_n 3, 1), (13, .aload_n 1, 1), (14, .getfield 66, 3), (17, .iload 4, 2), (19, .aaload, 1), (20, .aload_n 2, 1), (21, .iload 4, 2), (23, .invokevirtual 130, 3), (26, .aload_n 0, 1), (27, .getfield 21, 3), (30, .iconst 1, 1), (31, .iaload, 1), (32, .invokevirtual 149, 3), (35, .iadd, 1), (36, .istore_n 3, 1), (37, .iinc 4 1, 3), (40, .goto (-35), 3), (43, .iload_n 3, 1), (44, .ireturn, 1)]
set_option maxRecDepth 20000 in
theorem DX1_bitsBehind : Lst YX1_bitsBehind LX1_bitsBehind := by unfold Lst; decide +kernel
def LX1_leastHurt : LI := [(0, .aload_n 1, 1), (1, .getfield 78, 3), (4, .aload_n 2, 1), (5, .getfield 82, 3), (8, .invokevirtual 85, 3), (11, .istore_n 3, 1), (12, .aload_n 2, 1), (13, .aload_n 2, 1), (14, .iload_n 3, 1), (15, .invokevirtual 90, 3), (18, .aload_n 0, 1), (19, .aload_n 2, 1), (20, .invokevirtual 93, 3), (23, .invokevirtual 97, 3), (26, .istore 4, 2), (28, .iconst 0, 1), (29, .istore 5, 2), (31, .iload 5, 2), (33, .sipush 300, 3), (36, .if_icmp .gt 38, 3), (39, .aload_n 2, 1), (40, .iload 4, 2), (42, .iload 5, 2), (44, .iadd, 1), (45, .invokevirtual 101, 3), (48, .iload_n 3, 1), (49, .if_icmp .ne 16, 3), (52, .aload_n 2, 1), (53, .iload 4, 2), (55, .iload 5, 2), (57, .isub, 1), (58, .invokevirtual 101, 3), (61, .iload_n 3, 1), (62, .if_icmp .eq 6, 3), (65, .iload 5, 2), (67, .ireturn, 1), (68, .iinc 5 1, 3), (71, .goto (-40), 3), (74, .iconst (-1), 1), (75, .ireturn, 1)]
set_option maxRecDepth 20000 in
theorem DX1_leastHurt : Lst YX1_leastHurt LX1_leastHurt := by unfold Lst; decide +kernel
def LX2_init : LI := [(0, .aload_n 0, 1), (1, .invokespecial 3, 3), (4, .aload_n 0, 1), (5, .bipush 60, 2), (7, .newarray .char, 2), (9, .putfield 9, 3), (12, .return_, 1)]
set_option maxRecDepth 20000 in
theorem DX2_init : Lst YX2_init LX2_init := by unfold Lst; decide +kernel
def LX2_next : LI := [(0, .iload_n 0, 1), (1, .tableswitch 81 0 3 #[31, 49, 61, 66], 31), (32, .iload_n 1, 1), (33, .bipush 97, 2), (35, .if_icmp .eq 9, 3), (38, .iload_n 1, 1), (39, .bipush 98, 2), (41, .if_icmp .ne 7, 3), (44, .iconst 1, 1), (45, .goto 4, 3), (48, .iconst 4, 1), (49, .ireturn, 1), (50, .iload_n 1, 1), (51, .bipush 58, 2), (53, .if_icmp .ne 7, 3), (56, .iconst 2, 1), (57, .goto 4, 3), (60, .iconst 4, 1), (61, .ireturn, 1), (62, .iload_n 1, 1), (63, .invokestatic 15, 3), (66, .ireturn, 1), (67, .iload_n 1, 1), (68, .bipush 59, 2), (70, .if_icmp .ne 7, 3), (73, .iconst 0, 1), (74, .goto 7, 3), (77, .iload_n 1, 1), (78, .invokestatic 15, 3), (81, .ireturn, 1), (82, .iconst 4, 1), (83, .ireturn, 1)]
set_option maxRecDepth 20000 in
theorem DX2_next : Lst YX2_next LX2_next := by unfold Lst; decide +kernel
def LX2_behindDigit : LI := [(0, .iload_n 0, 1), (1, .invokestatic 19, 3), (4, .iconst (-1), 1), (5, .if_icmp .ne 7, 3), (8, .iconst 4, 1), (9, .goto 4, 3), (12, .iconst 3, 1), (13, .ireturn, 1)]
set_option maxRecDepth 20000 in
theorem DX2_behindDigit : Lst YX2_behindDigit LX2_behindDigit := by unfold Lst; decide +kernel
def LX2_digitOf : LI := [(0, .iload_n 0, 1), (1, .bipush 48, 2), (3, .if_icmp .lt 14, 3), (6, .iload_n 0, 1), (7, .bipush 57, 2), (9, .if_icmp .gt 8, 3), (12, .iload_n 0, 1), (13, .bipush 48, 2), (15, .isub, 1), (16, .ireturn, 1), (17, .iload_n 0, 1), (18, .bipush 97, 2), (20, .if_icmp .lt 19, 3), (23, .iload_n 0, 1), (24, .bipush 102, 2), (26, .if_icmp .gt 13, 3), (29, .iload_n 0, 1), (30, .bipush 97, 2), (32, .isub, 1), (33, .bipush 10, 2), (35, .iadd, 1), (36, .goto 4, 3), (39, .iconst (-1), 1), (40, .ireturn, 1)]
set_option maxRecDepth 20000 in
theorem DX2_digitOf : Lst YX2_digitOf LX2_digitOf := by unfold Lst; decide +kernel
def LX2_errorPlace : LI := [(0, .iconst 0, 1), (1, .istore_n 1, 1), (2, .iconst 0, 1), (3, .istore_n 2, 1), (4, .iload_n 2, 1), (5, .aload_n 0, 1), (6, .getfield 22, 3), (9, .if_icmp .ge 33, 3), (12, .iload_n 2, 1), (13, .bipush 60, 2), (15, .if_icmp .ge 27, 3), (18, .iload_n 1, 1), (19, .aload_n 0, 1), (20, .getfield 9, 3), (23, .iload_n 2, 1), (24, .caload, 1), (25, .invokestatic 26, 3), (28, .istore_n 1, 1), (29, .iload_n 1, 1), (30, .iconst 4, 1), (31, .if_icmp .ne 5, 3), (34, .iload_n 2, 1), (35, .ireturn, 1), (36, .iinc 2 1, 3), (39, .goto (-35), 3), (42, .aload_n 0, 1), (43, .getfield 22, 3), (46, .ireturn, 1)]
set_option maxRecDepth 20000 in
theorem DX2_errorPlace : Lst YX2_errorPlace LX2_errorPlace := by unfold Lst; decide +kernel
def LX2_isComplete : LI := [(0, .iconst 0, 1), (1, .istore_n 1, 1), (2, .iconst 0, 1), (3, .istore_n 2, 1), (4, .iload_n 2, 1), (5, .aload_n 0, 1), (6, .getfield 22, 3), (9, .if_icmp .ge 26, 3), (12, .iload_n 2, 1), (13, .bipush 60, 2), (15, .if_icmp .ge 20, 3), (18, .iload_n 1, 1), (19, .aload_n 0, 1), (20, .getfield 9, 3), (23, .iload_n 2, 1), (24, .caload, 1), (25, .invokestatic 26, 3), (28, .istore_n 1, 1), (29, .iinc 2 1, 3), (32, .goto (-28), 3), (35, .iload_n 1, 1), (36, .iconst 3, 1), (37, .if_icmp .ne 7, 3), (40, .iconst 1, 1), (41, .goto 4, 3), (44, .iconst 0, 1), (45, .ireturn, 1)]
set_option maxRecDepth 20000 in
theorem DX2_isComplete : Lst YX2_isComplete LX2_isComplete := by unfold Lst; decide +kernel
def LX2_bitsFor : LI := [(0, .iconst 0, 1), (1, .istore_n 2, 1), (2, .iconst 0, 1), (3, .istore_n 3, 1), (4, .iconst 0, 1), (5, .istore 4, 2), (7, .iconst 0, 1), (8, .istore 5, 2), (10, .iload 5, 2), (12, .aload_n 0, 1), (13, .getfield 22, 3), (16, .if_icmp .ge 66, 3), (19, .iload 5, 2), (21, .bipush 60, 2), (23, .if_icmp .ge 59, 3), (26, .aload_n 0, 1), (27, .getfield 9, 3), (30, .iload 5, 2), (32, .caload, 1), (33, .istore 6, 2), (35, .iload_n 2, 1), (36, .ifCond .ne 11, 3), (39, .iload 6, 2), (41, .bipush 97, 2), (43, .isub, 1), (44, .goto 4, 3), (47, .iload_n 3, 1), (48, .istore_n 3, 1), (49, .iload_n 2, 1), (50, .iload 6, 2), (52, .invokestatic 26, 3), (55, .istore_n 2, 1), (56, .iload 4, 2), (58, .iload_n 2, 1), (59, .iconst 3, 1), (60, .if_icmp .ne 12, 3), (63, .iload_n 3, 1), (64, .iload_n 1, 1), (65, .if_icmp .ne 7, 3), (68, .iconst 4, 1), (69, .goto 4, 3), (72, .iconst 0, 1), (73, .iadd, 1), (74, .istore 4, 2), (76, .iinc 5 1, 3), (79, .goto (-69), 3), (82, .iload 4, 2), (84, .ireturn, 1)]
set_option maxRecDepth 20000 in
theorem DX2_bitsFor : Lst YX2_bitsFor LX2_bitsFor := by unfold Lst; decide +kernel
def LX2_putBits : LI := [(0, .iconst 0, 1), (1, .istore_n 2, 1), (2, .iconst 0, 1), (3, .istore_n 3, 1), (4, .iconst 0, 1), (5, .istore 4, 2), (7, .iload 4, 2), (9, .aload_n 0, 1), (10, .getfield 22, 3), (13, .if_icmp .ge 67, 3), (16, .iload 4, 2), (18, .bipush 60, 2), (20, .if_icmp .ge 60, 3), (23, .aload_n 0, 1), (24, .getfield 9, 3), (27, .iload 4, 2), (29, .caload, 1), (30, .istore 5, 2), (32, .iload_n 2, 1), (33, .ifCond .ne 11, 3), (36, .iload 5, 2), (38, .bipush 97, 2), (40, .isub, 1), (41, .goto 4, 3), (44, .iload_n 3, 1), (45, .istore_n 3, 1), (46, .iload_n 2, 1), (47, .iload 5, 2), (49, .invokestatic 26, 3), (52, .istore_n 2, 1), (53, .iload_n 2, 1), (54, .iconst 3, 1), (55, .if_icmp .ne 19, 3), (58, .aload_n 1, 1), (59, .iload_n 3, 1), (60, .invokevirtual 30, 3), (63, .getfield 36, 3), (66, .iload 5, 2), (68, .invokestatic 19, 3), (71, .invokevirtual 42, 3), (74, .iinc 4 1, 3), (77, .goto (-70), 3), (80, .return_, 1)]
set_option maxRecDepth 20000 in
theorem DX2_putBits : Lst YX2_putBits LX2_putBits := by unfold Lst; decide +kernel
def LX3_init : LI := [(0, .aload_n 0, 1), (1, .invokespecial 3, 3), (4, .aload_n 0, 1), (5, .bipush 64, 2), (7, .putfield 9, 3), (10, .aload_n 0, 1), (11, .bipush 64, 2), (13, .putfield 15, 3), (16, .aload_n 0, 1), (17, .iconst (-1), 1), (18, .putfield 18, 3), (21, .return_, 1)]
set_option maxRecDepth 20000 in
theorem DX3_init : Lst YX3_init LX3_init := by unfold Lst; decide +kernel
def LX3_copyFrom : LI := [(0, .aload_n 0, 1), (1, .aload_n 1, 1), (2, .getfield 9, 3), (5, .putfield 9, 3), (8, .aload_n 0, 1), (9, .aload_n 1, 1), (10, .getfield 21, 3), (13, .putfield 21, 3), (16, .aload_n 0, 1), (17, .aload_n 1, 1), (18, .getfield 24, 3), (21, .putfield 24, 3), (24, .aload_n 0, 1), (25, .aload_n 1, 1), (26, .getfield 27, 3), (29, .putfield 27, 3), (32, .aload_n 0, 1), (33, .aload_n 1, 1), (34, .getfield 30, 3), (37, .putfield 30, 3), (40, .aload_n 0, 1), (41, .aload_n 1, 1), (42, .getfield 33, 3), (45, .putfield 33, 3), (48, .aload_n 0, 1), (49, .aload_n 1, 1), (50, .getfield 36, 3), (53, .putfield 36, 3), (56, .aload_n 0, 1), (57, .aload_n 1, 1), (58, .getfield 15, 3), (61, .putfield 15, 3), (64, .aload_n 0, 1), (65, .aload_n 1, 1), (66, .getfield 39, 3), (69, .putfield 39, 3), (72, .aload_n 0, 1), (73, .aload_n 1, 1), (74, .getfield 42, 3), (77, .putfield 42, 3), (80, .aload_n 0, 1), (81, .aload_n 1, 1), (82, .getfield 45, 3), (85, .putfield 45, 3), (88, .aload_n 0, 1), (89, .aload_n 1, 1), (90, .getfield 18, 3), (93, .putfield 18, 3), (96, .aload_n 0, 1), (97, .aload_n 1, 1), (98, .getfield 48, 3), (101, .putfield 48, 3), (104, .aload_n 0, 1), (105, .aload_n 1, 1), (106, .getfield 51, 3), (109, .putfield 51, 3), (112, .aload_n 0, 1), (113, .aload_n 1, 1), (114, .getfield 54, 3), (117, .putfield 54, 3), (120, .aload_n 0, 1), (121, .aload_n 1, 1), (122, .getfield 57, 3), (125, .putfield 57, 3), (128, .aload_n 0, 1), (129, .aload_n 1, 1), (130, .getfield 60, 3), (133, .putfield 60, 3), (136, .aload_n 0, 1), (137, .aload_n 1, 1), (138, .getfield 63, 3), (141, .putfield 63, 3), (144, .return_, 1)]
set_option maxRecDepth 20000 in
theorem DX3_copyFrom : Lst YX3_copyFrom LX3_copyFrom := by unfold Lst; decide +kernel
def LX3_streetNumber : LI := [(0, .iload_n 1, 1), (1, .tableswitch 69 0 5 #[39, 44, 49, 54, 59, 64], 39), (40, .aload_n 0, 1), (41, .getfield 9, 3), (44, .ireturn, 1), (45, .aload_n 0, 1), (46, .getfield 21, 3), (49, .ireturn, 1), (50, .aload_n 0, 1), (51, .getfield 24, 3), (54, .ireturn, 1), (55, .aload_n 0, 1), (56, .getfield 27, 3), (59, .ireturn, 1), (60, .aload_n 0, 1), (61, .getfield 30, 3), (64, .ireturn, 1), (65, .aload_n 0, 1), (66, .getfield 33, 3), (69, .ireturn, 1), (70, .aload_n 0, 1), (71, .getfield 36, 3), (74, .ireturn, 1)]
set_option maxRecDepth 20000 in
theorem DX3_streetNumber : Lst YX3_streetNumber LX3_streetNumber := by unfold Lst; decide +kernel
def LX3_setStreetNumber : LI := [(0, .iload_n 1, 1), (1, .tableswitch 51 0 2 #[27, 35, 43], 27), (28, .aload_n 0, 1), (29, .iload_n 2, 1), (30, .putfield 9, 3), (33, .goto 24, 3), (36, .aload_n 0, 1), (37, .iload_n 2, 1), (38, .putfield 21, 3), (41, .goto 16, 3), (44, .aload_n 0, 1), (45, .iload_n 2, 1), (46, .putfield 24, 3), (49, .goto 8, 3), (52, .aload_n 0, 1), (53, .iload_n 2, 1), (54, .putfield 27, 3), (57, .return_, 1)]
set_option maxRecDepth 20000 in
theorem DX3_setStreetNumber : Lst YX3_setStreetNumber LX3_setStreetNumber := by unfold Lst; decide +kernel
def LX3_accentNumber : LI := [(0, .iload_n 1, 1), (1, .tableswitch 105 0 9 #[55, 60, 65, 70, 75, 80, 85, 90, 95, 100], 55), (56, .aload_n 0, 1), (57, .getfield 15, 3), (60, .ireturn, 1), (61, .aload_n 0, 1), (62, .getfield 39, 3), (65, .ireturn, 1), (66, .aload_n 0, 1), (67, .getfield 42, 3), (70, .ireturn, 1), (71, .aload_n 0, 1), (72, .getfield 45, 3), (75, .ireturn, 1), (76, .aload_n 0, 1), (77, .getfield 18, 3), (80, .ireturn, 1), (81, .aload_n 0, 1), (82, .getfield 48, 3), (85, .ireturn, 1), (86, .aload_n 0, 1), (87, .getfield 51, 3), (90, .ireturn, 1), (91, .aload_n 0, 1), (92, .getfield 54, 3), (95, .ireturn, 1), (96, .aload_n 0, 1), (97, .getfield 57, 3), (100, .ireturn, 1), (101, .aload_n 0, 1), (102, .getfield 60, 3), (105, .ireturn, 1), (106, .aload_n 0, 1), (107, .getfield 63, 3), (110, .ireturn, 1)]
set_option maxRecDepth 20000 in
theorem DX3_accentNumber : Lst YX3_accentNumber LX3_accentNumber := by unfold Lst; decide +kernel
def LX3_amplitudeOf : LI := [(0, .iconst 2, 1), (1, .iload_n 1, 1), (2, .imul, 1), (3, .iconst 1, 1), (4, .iadd, 1), (5, .iconst 1, 1), (6, .aload_n 0, 1), (7, .getfield 45, 3), (10, .ishl, 1), (11, .isub, 1), (12, .sipush 256, 3), (15, .aload_n 0, 1), (16, .getfield 45, 3), (19, .ishr, 1), (20, .imul, 1), (21, .ireturn, 1)]
set_option maxRecDepth 20000 in
theorem DX3_amplitudeOf : Lst YX3_amplitudeOf LX3_amplitudeOf := by unfold Lst; decide +kernel
def LX3_arriving : LI := [(0, .aload_n 0, 1), (1, .getfield 9, 3), (4, .iload_n 1, 1), (5, .imul, 1), (6, .aload_n 0, 1), (7, .getfield 21, 3), (10, .aload_n 0, 1), (11, .getfield 33, 3), (14, .imul, 1), (15, .iadd, 1), (16, .aload_n 0, 1), (17, .getfield 24, 3), (20, .aload_n 0, 1), (21, .getfield 36, 3), (24, .imul, 1), (25, .iadd, 1), (26, .bipush 64, 2), (28, .idiv, 1), (29, .iload_n 2, 1), (30, .iadd, 1), (31, .aload_n 0, 1), (32, .getfield 30, 3), (35, .iadd, 1), (36, .ireturn, 1)]
set_option maxRecDepth 20000 in
theorem DX3_arriving : Lst YX3_arriving LX3_arriving := by unfold Lst; decide +kernel
def LX3_expected : LI := [(0, .aload_n 0, 1), (1, .getfield 15, 3), (4, .iload_n 1, 1), (5, .imul, 1), (6, .aload_n 0, 1), (7, .getfield 39, 3), (10, .aload_n 0, 1), (11, .getfield 33, 3), (14, .imul, 1), (15, .iadd, 1), (16, .aload_n 0, 1), (17, .getfield 42, 3), (20, .aload_n 0, 1), (21, .getfield 36, 3), (24, .imul, 1), (25, .iadd, 1), (26, .bipush 64, 2), (28, .idiv, 1), (29, .ireturn, 1)]
set_option maxRecDepth 20000 in
theorem DX3_expected : Lst YX3_expected LX3_expected := by unfold Lst; decide +kernel
def LX3_decide : LI := [(0, .iload_n 1, 1), (1, .aload_n 0, 1), (2, .getfield 39, 3), (5, .aload_n 0, 1), (6, .getfield 60, 3), (9, .imul, 1), (10, .aload_n 0, 1), (11, .getfield 42, 3), (14, .aload_n 0, 1), (15, .getfield 63, 3), (18, .imul, 1), (19, .iadd, 1), (20, .bipush 64, 2), (22, .idiv, 1), (23, .isub, 1), (24, .istore_n 2, 1), (25, .aload_n 0, 1), (26, .getfield 15, 3), (29, .ifCond .le 15, 3), (32, .iload_n 2, 1), (33, .bipush 64, 2), (35, .imul, 1), (36, .aload_n 0, 1), (37, .getfield 15, 3), (40, .idiv, 1), (41, .goto 4, 3), (44, .iconst 0, 1), (45, .istore_n 3, 1), (46, .iload_n 3, 1), (47, .sipush 256, 3), (50, .iadd, 1), (51, .iconst 1, 1), (52, .isub, 1), (53, .bipush 9, 2), (55, .aload_n 0, 1), (56, .getfield 45, 3), (59, .isub, 1), (60, .ishr, 1), (61, .istore 4, 2), (63, .iconst 0, 1), (64, .iload 4, 2), (66, .iconst 1, 1), (67, .aload_n 0, 1), (68, .getfield 45, 3), (71, .ishl, 1), (72, .iconst 1, 1), (73, .isub, 1), (74, .invokestatic 66, 3), (77, .invokestatic 72, 3), (80, .ireturn, 1)]
set_option maxRecDepth 20000 in
theorem DX3_decide : Lst YX3_decide LX3_decide := by unfold Lst; decide +kernel
def LX3_pass : LI := [(0, .aload_n 0, 1), (1, .iconst 0, 1), (2, .putfield 30, 3), (5, .aload_n 0, 1), (6, .aload_n 0, 1), (7, .getfield 33, 3), (10, .putfield 36, 3), (13, .aload_n 0, 1), (14, .iload_n 1, 1), (15, .putfield 33, 3), (18, .aload_n 0, 1), (19, .aload_n 0, 1), (20, .getfield 60, 3), (23, .putfield 63, 3), (26, .aload_n 0, 1), (27, .iload_n 2, 1), (28, .putfield 60, 3), (31, .return_, 1)]
set_option maxRecDepth 20000 in
theorem DX3_pass : Lst YX3_pass LX3_pass := by unfold Lst; decide +kernel
def LX3_knowSignBefore : LI := [(0, .aload_n 0, 1), (1, .aload_n 0, 1), (2, .getfield 36, 3), (5, .putfield 63, 3), (8, .return_, 1)]
set_option maxRecDepth 20000 in
theorem DX3_knowSignBefore : Lst YX3_knowSignBefore LX3_knowSignBefore := by unfold Lst; decide +kernel
def LX3_countSign : LI := [(0, .aload_n 0, 1), (1, .getfield 45, 3), (4, .ifCond .le 13, 3), (7, .aload_n 0, 1), (8, .dup, 1), (9, .getfield 54, 3), (12, .iconst 1, 1), (13, .iadd, 1), (14, .putfield 54, 3), (17, .iload_n 1, 1), (18, .ifCond .eq 23, 3), (21, .aload_n 0, 1), (22, .dup, 1), (23, .getfield 57, 3), (26, .iconst 1, 1), (27, .iadd, 1), (28, .putfield 57, 3), (31, .aload_n 0, 1), (32, .dup, 1), (33, .getfield 48, 3), (36, .iconst 1, 1), (37, .iadd, 1), (38, .putfield 48, 3), (41, .return_, 1)]
set_option maxRecDepth 20000 in
theorem DX3_countSign : Lst YX3_countSign LX3_countSign := by unfold Lst; decide +kernel
def LX3_becomeShyAt : LI := [(0, .aload_n 0, 1), (1, .getfield 45, 3), (4, .ifCond .le 36, 3), (7, .aload_n 0, 1), (8, .getfield 48, 3), (11, .iload_n 1, 1), (12, .if_icmp .lt 28, 3), (15, .aload_n 0, 1), (16, .dup, 1), (17, .getfield 45, 3), (20, .iconst 1, 1), (21, .isub, 1), (22, .putfield 45, 3), (25, .aload_n 0, 1), (26, .dup, 1), (27, .getfield 51, 3), (30, .iconst 1, 1), (31, .iadd, 1), (32, .putfield 51, 3), (35, .aload_n 0, 1), (36, .iconst 0, 1), (37, .putfield 48, 3), (40, .return_, 1)]
set_option maxRecDepth 20000 in
theorem DX3_becomeShyAt : Lst YX3_becomeShyAt LX3_becomeShyAt := by unfold Lst; decide +kernel
def LX3_improve : LI := [(0, .aload_n 0, 1), (1, .aload_n 0, 1), (2, .getfield 15, 3), (5, .iload_n 1, 1), (6, .iload_n 2, 1), (7, .imul, 1), (8, .iload_n 3, 1), (9, .invokestatic 75, 3), (12, .iadd, 1), (13, .bipush 8, 2), (15, .sipush 128, 3), (18, .invokestatic 78, 3), (21, .putfield 15, 3), (24, .aload_n 0, 1), (25, .aload_n 0, 1), (26, .getfield 39, 3), (29, .iload_n 1, 1), (30, .aload_n 0, 1), (31, .getfield 33, 3), (34, .imul, 1), (35, .iload_n 3, 1), (36, .invokestatic 75, 3), (39, .iadd, 1), (40, .bipush (-48), 2), (42, .bipush 48, 2), (44, .invokestatic 78, 3), (47, .putfield 39, 3), (50, .aload_n 0, 1), (51, .aload_n 0, 1), (52, .getfield 42, 3), (55, .iload_n 1, 1), (56, .aload_n 0, 1), (57, .getfield 36, 3), (60, .imul, 1), (61, .iload_n 3, 1), (62, .invokestatic 75, 3), (65, .iadd, 1), (66, .bipush (-48), 2), (68, .bipush 48, 2), (70, .invokestatic 78, 3), (73, .putfield 42, 3), (76, .return_, 1)]
set_option maxRecDepth 20000 in
theorem DX3_improve : Lst YX3_improve LX3_improve := by unfold Lst; decide +kernel
def LX3_step : LI := [(0, .iload_n 1, 1), (1, .ifCond .le 13, 3), (4, .iload_n 0, 1), (5, .sipush 128, 3), (8, .iload_n 1, 1), (9, .imul, 1), (10, .idiv, 1), (11, .goto 4, 3), (14, .iconst 0, 1), (15, .ireturn, 1)]
set_option maxRecDepth 20000 in
theorem DX3_step : Lst YX3_step LX3_step := by unfold Lst; decide +kernel
def LX3_held : LI := [(0, .iload_n 0, 1), (1, .iload_n 1, 1), (2, .if_icmp .ge 5, 3), (5, .iload_n 1, 1), (6, .ireturn, 1), (7, .iload_n 0, 1), (8, .iload_n 2, 1), (9, .if_icmp .le 7, 3), (12, .iload_n 2, 1), (13, .goto 4, 3), (16, .iload_n 0, 1), (17, .ireturn, 1)]
set_option maxRecDepth 20000 in
theorem DX3_held : Lst YX3_held LX3_held := by unfold Lst; decide +kernel
def LX3_endLesson : LI := [(0, .aload_n 0, 1), (1, .iload_n 1, 1), (2, .putfield 18, 3), (5, .aload_n 0, 1), (6, .aload_n 0, 1), (7, .iload_n 1, 1), (8, .iload_n 2, 1), (9, .invokevirtual 82, 3), (12, .putfield 45, 3), (15, .aload_n 0, 1), (16, .iconst 0, 1), (17, .putfield 48, 3), (20, .return_, 1)]
set_option maxRecDepth 20000 in
theorem DX3_endLesson : Lst YX3_endLesson LX3_endLesson := by unfold Lst; decide +kernel
def LX3_bitsFor : LI := [(0, .iload_n 1, 1), (1, .iload_n 2, 1), (2, .imul, 1), (3, .iconst 4, 1), (4, .idiv, 1), (5, .istore_n 3, 1), (6, .iconst 4, 1), (7, .istore 4, 2), (9, .iload 4, 2), (11, .ifCond .le 22, 3), (14, .iload_n 3, 1), (15, .aload_n 0, 1), (16, .iload 4, 2), (18, .invokevirtual 85, 3), (21, .if_icmp .ge 6, 3), (24, .iload 4, 2), (26, .ireturn, 1), (27, .iinc 4 (-1), 3), (30, .goto (-21), 3), (33, .iconst 0, 1), (34, .ireturn, 1)]
set_option maxRecDepth 20000 in
theorem DX3_bitsFor : Lst YX3_bitsFor LX3_bitsFor := by unfold Lst; decide +kernel
def LX3_roomWith : LI := [(0, .sipush 256, 3), (3, .iload_n 1, 1), (4, .ishr, 1), (5, .aload_n 0, 1), (6, .getfield 15, 3), (9, .imul, 1), (10, .bipush 64, 2), (12, .idiv, 1), (13, .ireturn, 1)]
set_option maxRecDepth 20000 in
theorem DX3_roomWith : Lst YX3_roomWith LX3_roomWith := by unfold Lst; decide +kernel
def LX3_sureBits : LI := [(0, .iconst 4, 1), (1, .istore_n 1, 1), (2, .iload_n 1, 1), (3, .ifCond .le 31, 3), (6, .aload_n 0, 1), (7, .iload_n 1, 1), (8, .invokevirtual 89, 3), (11, .aload_n 0, 1), (12, .getfield 27, 3), (15, .iadd, 1), (16, .iconst 4, 1), (17, .iadd, 1), (18, .aload_n 0, 1), (19, .iload_n 1, 1), (20, .invokevirtual 85, 3), (23, .if_icmp .ge 5, 3), (26, .iload_n 1, 1), (27, .ireturn, 1), (28, .iinc 1 (-1), 3), (31, .goto (-29), 3), (34, .iconst 0, 1), (35, .ireturn, 1)]
set_option maxRecDepth 20000 in
theorem DX3_sureBits : Lst YX3_sureBits LX3_sureBits := by unfold Lst; decide +kernel
def LX3_misheardWith : LI := [(0, .sipush 256, 3), (3, .sipush 256, 3), (6, .iload_n 1, 1), (7, .ishr, 1), (8, .isub, 1), (9, .istore_n 2, 1), (10, .aload_n 0, 1), (11, .getfield 21, 3), (14, .aload_n 0, 1), (15, .getfield 39, 3), (18, .isub, 1), (19, .invokestatic 92, 3), (22, .aload_n 0, 1), (23, .getfield 24, 3), (26, .aload_n 0, 1), (27, .getfield 42, 3), (30, .isub, 1), (31, .invokestatic 92, 3), (34, .iadd, 1), (35, .istore_n 3, 1), (36, .aload_n 0, 1), (37, .getfield 9, 3), (40, .aload_n 0, 1), (41, .getfield 15, 3), (44, .isub, 1), (45, .invokestatic 92, 3), (48, .iload_n 2, 1), (49, .imul, 1), (50, .iload_n 3, 1), (51, .sipush 256, 3), (54, .imul, 1), (55, .iadd, 1), (56, .bipush 64, 2), (58, .idiv, 1), (59, .ireturn, 1)]
set_option maxRecDepth 20000 in
theorem DX3_misheardWith : Lst YX3_misheardWith LX3_misheardWith := by unfold Lst; decide +kernel
def LX3_loseAccent : LI := [(0, .aload_n 0, 1), (1, .bipush 64, 2), (3, .putfield 15, 3), (6, .aload_n 0, 1), (7, .iconst 0, 1), (8, .putfield 39, 3), (11, .aload_n 0, 1), (12, .iconst 0, 1), (13, .putfield 42, 3), (16, .aload_n 0, 1), (17, .iconst 0, 1), (18, .putfield 45, 3), (21, .aload_n 0, 1), (22, .iconst (-1), 1), (23, .putfield 18, 3), (26, .aload_n 0, 1), (27, .iconst 0, 1), (28, .putfield 48, 3), (31, .return_, 1)]
set_option maxRecDepth 20000 in
theorem DX3_loseAccent : Lst YX3_loseAccent LX3_loseAccent := by unfold Lst; decide +kernel
def LX4_init : LI := [(0, .aload_n 0, 1), (1, .invokespecial 3, 3), (4, .aload_n 0, 1), (5, .sipush 256, 3), (8, .newarray .int, 2), (10, .putfield 9, 3), (13, .return_, 1)]
set_option maxRecDepth 20000 in
theorem DX4_init : Lst YX4_init LX4_init := by unfold Lst; decide +kernel
def LX4_copyFrom : LI := [(0, .aload_n 1, 1), (1, .getfield 9, 3), (4, .iconst 0, 1), (5, .aload_n 0, 1), (6, .getfield 9, 3), (9, .iconst 0, 1), (10, .sipush 256, 3), (13, .invokestatic 15, 3), (16, .aload_n 0, 1), (17, .aload_n 1, 1), (18, .getfield 21, 3), (21, .putfield 21, 3), (24, .aload_n 0, 1), (25, .aload_n 1, 1), (26, .getfield 25, 3), (29, .putfield 25, 3), (32, .return_, 1)]
set_option maxRecDepth 20000 in
theorem DX4_copyFrom : Lst YX4_copyFrom LX4_copyFrom := by unfold Lst; decide +kernel
def LX4_bitAt : LI := [(0, .aload_n 0, 1), (1, .getfield 9, 3), (4, .aload_n 0, 1), (5, .getfield 21, 3), (8, .iload_n 1, 1), (9, .iadd, 1), (10, .sipush 255, 3), (13, .iand, 1), (14, .iaload, 1), (15, .ireturn, 1)]
set_option maxRecDepth 20000 in
theorem DX4_bitAt : Lst YX4_bitAt LX4_bitAt := by unfold Lst; decide +kernel
def LX4_put : LI := [(0, .aload_n 0, 1), (1, .getfield 25, 3), (4, .sipush 256, 3), (7, .if_icmp .ge 32, 3), (10, .aload_n 0, 1), (11, .getfield 9, 3), (14, .aload_n 0, 1), (15, .getfield 21, 3), (18, .aload_n 0, 1), (19, .getfield 25, 3), (22, .iadd, 1), (23, .sipush 255, 3), (26, .iand, 1), (27, .iload_n 1, 1), (28, .iastore, 1), (29, .aload_n 0, 1), (30, .dup, 1), (31, .getfield 25, 3), (34, .iconst 1, 1), (35, .iadd, 1), (36, .putfield 25, 3), (39, .return_, 1)]
set_option maxRecDepth 20000 in
theorem DX4_put : Lst YX4_put LX4_put := by unfold Lst; decide +kernel
def LX4_putDigit : LI := [(0, .iconst 3, 1), (1, .istore_n 2, 1), (2, .iload_n 2, 1), (3, .ifCond .lt 18, 3), (6, .aload_n 0, 1), (7, .iload_n 1, 1), (8, .iload_n 2, 1), (9, .ishr, 1), (10, .iconst 1, 1), (11, .iand, 1), (12, .invokevirtual 28, 3), (15, .iinc 2 (-1), 3), (18, .goto (-16), 3), (21, .return_, 1)]
set_option maxRecDepth 20000 in
theorem DX4_putDigit : Lst YX4_putDigit LX4_putDigit := by unfold Lst; decide +kernel
def LX4_take : LI := [(0, .iconst 0, 1), (1, .istore_n 2, 1), (2, .iconst 0, 1), (3, .istore_n 3, 1), (4, .iload_n 3, 1), (5, .iload_n 1, 1), (6, .if_icmp .ge 52, 3), (9, .iconst 2, 1), (10, .iload_n 2, 1), (11, .imul, 1), (12, .istore_n 2, 1), (13, .aload_n 0, 1), (14, .getfield 25, 3), (17, .ifCond .le 35, 3), (20, .iload_n 2, 1), (21, .aload_n 0, 1), (22, .iconst 0, 1), (23, .invokevirtual 32, 3), (26, .iadd, 1), (27, .istore_n 2, 1), (28, .aload_n 0, 1), (29, .aload_n 0, 1), (30, .getfield 21, 3), (33, .iconst 1, 1), (34, .iadd, 1), (35, .sipush 255, 3), (38, .iand, 1), (39, .putfield 21, 3), (42, .aload_n 0, 1), (43, .dup, 1), (44, .getfield 25, 3), (47, .iconst 1, 1), (48, .isub, 1), (49, .putfield 25, 3), (52, .iinc 3 1, 3), (55, .goto (-51), 3), (58, .iload_n 2, 1), (59, .ireturn, 1)]
set_option maxRecDepth 20000 in
theorem DX4_take : Lst YX4_take LX4_take := by unfold Lst; decide +kernel
def LX5_init : LI := [(0, .aload_n 0, 1), (1, .invokespecial 3, 3), (4, .aload_n 0, 1), (5, .bipush 8, 2), (7, .anewarray 9, 3), (10, .putfield 11, 3), (13, .aload_n 0, 1), (14, .new 17, 3), (17, .dup, 1), (18, .invokespecial 19, 3), (21, .putfield 20, 3), (24, .iconst 0, 1), (25, .istore_n 1, 1), (26, .iload_n 1, 1), (27, .bipush 8, 2), (29, .if_icmp .ge 22, 3), (32, .aload_n 0, 1), (33, .getfield 11, 3), (36, .iload_n 1, 1), (37, .new 9, 3), (40, .dup, 1), (41, .invokespecial 24, 3), (44, .aastore, 1), (45, .iinc 1 1, 3), (48, .goto (-22), 3), (51, .return_, 1)]
set_option maxRecDepth 20000 in
theorem DX5_init : Lst YX5_init LX5_init := by unfold Lst; decide +kernel
def LX5_copyFrom : LI := [(0, .iconst 0, 1), (1, .istore_n 2, 1), (2, .iload_n 2, 1), (3, .bipush 8, 2), (5, .if_icmp .ge 24, 3), (8, .aload_n 0, 1), (9, .getfield 11, 3), (12, .iload_n 2, 1), (13, .aaload, 1), (14, .aload_n 1, 1), (15, .getfield 11, 3), (18, .iload_n 2, 1), (19, .aaload, 1), (20, .invokevirtual 25, 3), (23, .iinc 2 1, 3), (26, .goto (-24), 3), (29, .aload_n 0, 1), (30, .getfield 20, 3), (33, .aload_n 1, 1), (34, .getfield 20, 3), (37, .invokevirtual 29, 3), (40, .aload_n 0, 1), (41, .aload_n 1, 1), (42, .getfield 32, 3), (45, .putfield 32, 3), (48, .aload_n 0, 1), (49, .aload_n 1, 1), (50, .getfield 36, 3), (53, .putfield 36, 3), (56, .aload_n 0, 1), (57, .aload_n 1, 1), (58, .getfield 40, 3), (61, .putfield 40, 3), (64, .return_, 1)]
set_option maxRecDepth 20000 in
theorem DX5_copyFrom : Lst YX5_copyFrom LX5_copyFrom := by unfold Lst; decide +kernel
def LX5_receive : LI := [(0, .aload_n 0, 1), (1, .aload_n 0, 1), (2, .getfield 32, 3), (5, .iload_n 2, 1), (6, .lshl, 1), (7, .iload_n 1, 1), (8, .i2l, 1), (9, .lor, 1), (10, .ldc2_w 43, 3), (13, .land, 1), (14, .putfield 32, 3), (17, .aload_n 0, 1), (18, .dup, 1), (19, .getfield 36, 3), (22, .iload_n 2, 1), (23, .iadd, 1), (24, .putfield 36, 3), (27, .aload_n 0, 1), (28, .dup, 1), (29, .getfield 40, 3), (32, .iload_n 3, 1), (33, .iadd, 1), (34, .putfield 40, 3), (37, .return_, 1)]
set_option maxRecDepth 20000 in
theorem DX5_receive : Lst YX5_receive LX5_receive := by unfold Lst; decide +kernel
def LX5_bits : LI := [(0, .iconst 0, 1), (1, .istore_n 1, 1), (2, .iconst 0, 1), (3, .istore_n 2, 1), (4, .iload_n 2, 1), (5, .bipush 8, 2), (7, .if_icmp .ge 21, 3), (10, .iload_n 1, 1), (11, .aload_n 0, 1), (12, .getfield 11, 3), (15, .iload_n 2, 1), (16, .aaload, 1), (17, .getfield 45, 3), (20, .iadd, 1), (21, .istore_n 1, 1), (22, .iinc 2 1, 3), (25, .goto (-21), 3), (28, .iload_n 1, 1), (29, .ireturn, 1)]
set_option maxRecDepth 20000 in
theorem DX5_bits : Lst YX5_bits LX5_bits := by unfold Lst; decide +kernel
def LX5_shies : LI := [(0, .iconst 0, 1), (1, .istore_n 1, 1), (2, .iconst 0, 1), (3, .istore_n 2, 1), (4, .iload_n 2, 1), (5, .bipush 8, 2), (7, .if_icmp .ge 21, 3), (10, .iload_n 1, 1), (11, .aload_n 0, 1), (12, .getfield 11, 3), (15, .iload_n 2, 1), (16, .aaload, 1), (17, .getfield 48, 3), (20, .iadd, 1), (21, .istore_n 1, 1), (22, .iinc 2 1, 3), (25, .goto (-21), 3), (28, .iload_n 1, 1), (29, .ireturn, 1)]
set_option maxRecDepth 20000 in
theorem DX5_shies : Lst YX5_shies LX5_shies := by unfold Lst; decide +kernel
def LX5_insulted : LI := [(0, .iconst 0, 1), (1, .istore_n 1, 1), (2, .iconst 0, 1), (3, .istore_n 2, 1), (4, .iload_n 2, 1), (5, .bipush 8, 2), (7, .if_icmp .ge 29, 3), (10, .iload_n 1, 1), (11, .aload_n 0, 1), (12, .getfield 11, 3), (15, .iload_n 2, 1), (16, .aaload, 1), (17, .getfield 51, 3), (20, .ifCond .eq 7, 3), (23, .iconst 1, 1), (24, .goto 4, 3), (27, .iconst 0, 1), (28, .iadd, 1), (29, .istore_n 1, 1), (30, .iinc 2 1, 3), (33, .goto (-29), 3), (36, .iload_n 1, 1), (37, .ireturn, 1)]
set_option maxRecDepth 20000 in
theorem DX5_insulted : Lst YX5_insulted LX5_insulted := by unfold Lst; decide +kernel
def LX6_init : LI := [(0, .aload_n 0, 1), (1, .invokespecial 3, 3), (4, .aload_n 0, 1), (5, .new 9, 3), (8, .dup, 1), (9, .invokespecial 11, 3), (12, .putfield 12, 3), (15, .aload_n 0, 1), (16, .new 9, 3), (19, .dup, 1), (20, .invokespecial 11, 3), (23, .putfield 16, 3), (26, .aload_n 0, 1), (27, .bipush 6, 2), (29, .anewarray 9, 3), (32, .putfield 19, 3), (35, .aload_n 0, 1), (36, .new 23, 3), (39, .dup, 1), (40, .invokespecial 25, 3), (43, .putfield 26, 3), (46, .aload_n 0, 1), (47, .new 30, 3), (50, .dup, 1), (51, .invokespecial 32, 3), (54, .putfield 33, 3), (57, .iconst 0, 1), (58, .istore_n 1, 1), (59, .iload_n 1, 1), (60, .bipush 6, 2), (62, .if_icmp .ge 22, 3), (65, .aload_n 0, 1), (66, .getfield 19, 3), (69, .iload_n 1, 1), (70, .new 9, 3), (73, .dup, 1), (74, .invokespecial 11, 3), (77, .aastore, 1), (78, .iinc 1 1, 3), (81, .goto (-22), 3), (84, .return_, 1)]
set_option maxRecDepth 20000 in
theorem DX6_init : Lst YX6_init LX6_init := by unfold Lst; decide +kernel
def LX6_build : LI := [(0, .aload_n 0, 1), (1, .iload_n 1, 1), (2, .iload_n 2, 1), (3, .invokevirtual 37, 3), (6, .astore 5, 2), (8, .iload_n 3, 1), (9, .iload 4, 2), (11, .invokestatic 41, 3), (14, .aload_n 0, 1), (15, .invokevirtual 45, 3), (18, .aload 5, 2), (20, .iload_n 3, 1), (21, .invokevirtual 48, 3), (24, .istore 6, 2), (26, .aload 5, 2), (28, .iload_n 3, 1), (29, .iload 4, 2), (31, .invokevirtual 54, 3), (34, .iload 6, 2), (36, .ireturn, 1)]
set_option maxRecDepth 20000 in
theorem DX6_build : Lst YX6_build LX6_build := by unfold Lst; decide +kernel
def LX6_carry : LI := [(0, .aload_n 0, 1), (1, .iload_n 1, 1), (2, .iload_n 2, 1), (3, .invokevirtual 37, 3), (6, .astore 4, 2), (8, .iload_n 3, 1), (9, .ifCond .lt 8, 3), (12, .iload_n 3, 1), (13, .iconst 4, 1), (14, .if_icmp .le 13, 3), (17, .new 57, 3), (20, .dup, 1), (21, .ldc 59, 2), (23, .invokespecial 61, 3), (26, .athrow, 1), (27, .aload_n 0, 1), (28, .invokevirtual 45, 3), (31, .aload 4, 2), (33, .getfield 64, 3), (36, .istore 5, 2), (38, .aload 4, 2), (40, .iload_n 3, 1), (41, .putfield 64, 3), (44, .iload 5, 2), (46, .ireturn, 1)]
set_option maxRecDepth 20000 in
theorem DX6_carry : Lst YX6_carry LX6_carry := by unfold Lst; decide +kernel
def LX6_insult : LI := [(0, .aload_n 0, 1), (1, .iload_n 1, 1), (2, .iload_n 2, 1), (3, .invokevirtual 37, 3), (6, .astore 4, 2), (8, .iload_n 3, 1), (9, .sipush (-300), 3), (12, .if_icmp .lt 10, 3), (15, .iload_n 3, 1), (16, .sipush 300, 3), (19, .if_icmp .le 13, 3), (22, .new 57, 3), (25, .dup, 1), (26, .ldc 68, 2), (28, .invokespecial 61, 3), (31, .athrow, 1), (32, .aload 4, 2), (34, .getfield 70, 3), (37, .iload_n 3, 1), (38, .iadd, 1), (39, .istore 5, 2), (41, .iload 5, 2), (43, .sipush (-1000), 3), (46, .if_icmp .lt 11, 3), (49, .iload 5, 2), (51, .sipush 1000, 3), (54, .if_icmp .le 13, 3), (57, .new 73, 3), (60, .dup, 1), (61, .ldc 75, 2), (63, .invokespecial 77, 3), (66, .athrow, 1), (67, .aload_n 0, 1), (68, .invokevirtual 45, 3), (71, .aload 4, 2), (73, .iload 5, 2), (75, .putfield 70, 3), (78, .iload 5, 2), (80, .ireturn, 1)]
set_option maxRecDepth 20000 in
theorem DX6_insult : Lst YX6_insult LX6_insult := by unfold Lst; decide +kernel
def LX6_set : LI := [(0, .iload_n 1, 1), (1, .invokestatic 78, 3), (4, .iload_n 2, 1), (5, .getstatic 82, 3), (8, .iload_n 1, 1), (9, .iaload, 1), (10, .if_icmp .lt 12, 3), (13, .iload_n 2, 1), (14, .getstatic 86, 3), (17, .iload_n 1, 1), (18, .iaload, 1), (19, .if_icmp .le 13, 3), (22, .new 57, 3), (25, .dup, 1), (26, .ldc 89, 2), (28, .invokespecial 61, 3), (31, .athrow, 1), (32, .aload_n 0, 1), (33, .invokevirtual 45, 3), (36, .aload_n 0, 1), (37, .getfield 12, 3), (40, .getfield 91, 3), (43, .iload_n 1, 1), (44, .iaload, 1), (45, .istore_n 3, 1), (46, .aload_n 0, 1), (47, .getfield 12, 3), (50, .getfield 91, 3), (53, .iload_n 1, 1), (54, .iload_n 2, 1), (55, .iastore, 1), (56, .iload_n 3, 1), (57, .ireturn, 1)]
set_option maxRecDepth 20000 in
theorem DX6_set : Lst YX6_set LX6_set := by unfold Lst; decide +kernel
def LX6_learn : LI := [(0, .aload_n 0, 1), (1, .iload_n 1, 1), (2, .invokevirtual 94, 3), (5, .astore_n 3, 1), (6, .iload_n 2, 1), (7, .invokestatic 98, 3), (10, .aload_n 0, 1), (11, .iload_n 2, 1), (12, .invokevirtual 101, 3), (15, .aload_n 0, 1), (16, .invokevirtual 45, 3), (19, .aload_n 0, 1), (20, .getfield 12, 3), (23, .aload_n 3, 1), (24, .iload_n 2, 1), (25, .aload_n 0, 1), (26, .getfield 26, 3), (29, .invokevirtual 104, 3), (32, .aload_n 3, 1), (33, .invokevirtual 108, 3), (36, .ireturn, 1)]
set_option maxRecDepth 20000 in
theorem DX6_learn : Lst YX6_learn LX6_learn := by unfold Lst; decide +kernel
def LX6_send : LI := [(0, .aload_n 0, 1), (1, .iload_n 1, 1), (2, .invokevirtual 94, 3), (5, .astore_n 3, 1), (6, .iload_n 2, 1), (7, .invokestatic 98, 3), (10, .aload_n 0, 1), (11, .iload_n 2, 1), (12, .invokevirtual 101, 3), (15, .aload_n 0, 1), (16, .invokevirtual 45, 3), (19, .aload_n 0, 1), (20, .getfield 12, 3), (23, .aload_n 3, 1), (24, .iload_n 2, 1), (25, .invokevirtual 113, 3), (28, .ireturn, 1)]
set_option maxRecDepth 20000 in
theorem DX6_send : Lst YX6_send LX6_send := by unfold Lst; decide +kernel
def LX6_forget : LI := [(0, .aload_n 0, 1), (1, .iload_n 1, 1), (2, .invokevirtual 94, 3), (5, .astore_n 2, 1), (6, .aload_n 0, 1), (7, .invokevirtual 45, 3), (10, .aload_n 2, 1), (11, .invokevirtual 108, 3), (14, .istore_n 3, 1), (15, .iconst 0, 1), (16, .istore 4, 2), (18, .iload 4, 2), (20, .bipush 8, 2), (22, .if_icmp .ge 19, 3), (25, .aload_n 2, 1), (26, .getfield 117, 3), (29, .iload 4, 2), (31, .aaload, 1), (32, .invokevirtual 121, 3), (35, .iinc 4 1, 3), (38, .goto (-20), 3), (41, .iload_n 3, 1), (42, .ireturn, 1)]
set_option maxRecDepth 20000 in
theorem DX6_forget : Lst YX6_forget LX6_forget := by unfold Lst; decide +kernel
def LX6_append : LI := [(0, .iload_n 1, 1), (1, .bipush 33, 2), (3, .if_icmp .lt 9, 3), (6, .iload_n 1, 1), (7, .bipush 126, 2), (9, .if_icmp .le 13, 3), (12, .new 57, 3), (15, .dup, 1), (16, .ldc 124, 2), (18, .invokespecial 61, 3), (21, .athrow, 1), (22, .aload_n 0, 1), (23, .getfield 33, 3), (26, .getfield 126, 3), (29, .bipush 60, 2), (31, .if_icmp .lt 13, 3), (34, .new 73, 3), (37, .dup, 1), (38, .ldc 129, 2), (40, .invokespecial 77, 3), (43, .athrow, 1), (44, .aload_n 0, 1), (45, .getfield 33, 3), (48, .getfield 131, 3), (51, .aload_n 0, 1), (52, .getfield 33, 3), (55, .getfield 126, 3), (58, .iload_n 1, 1), (59, .i2c, 1), (60, .castore, 1), (61, .aload_n 0, 1), (62, .getfield 33, 3), (65, .dup, 1), (66, .getfield 126, 3), (69, .iconst 1, 1), (70, .iadd, 1), (71, .putfield 126, 3), (74, .aload_n 0, 1), (75, .getfield 33, 3), (78, .getfield 126, 3), (81, .ireturn, 1)]
set_option maxRecDepth 20000 in
theorem DX6_append : Lst YX6_append LX6_append := by unfold Lst; decide +kernel
def LX6_clearBuffer : LI := [(0, .aload_n 0, 1), (1, .getfield 33, 3), (4, .getfield 126, 3), (7, .istore_n 1, 1), (8, .aload_n 0, 1), (9, .getfield 33, 3), (12, .iconst 0, 1), (13, .putfield 126, 3), (16, .iload_n 1, 1), (17, .ireturn, 1)]
set_option maxRecDepth 20000 in
theorem DX6_clearBuffer : Lst YX6_clearBuffer LX6_clearBuffer := by unfold Lst; decide +kernel
def LX6_firstError : LI := [(0, .aload_n 0, 1), (1, .getfield 33, 3), (4, .invokevirtual 135, 3), (7, .ireturn, 1)]
set_option maxRecDepth 20000 in
theorem DX6_firstError : Lst YX6_firstError LX6_firstError := by unfold Lst; decide +kernel
def LX6_say : LI := [(0, .aload_n 0, 1), (1, .getfield 33, 3), (4, .invokevirtual 138, 3), (7, .ifCond .ne 13, 3), (10, .new 57, 3), (13, .dup, 1), (14, .ldc 142, 2), (16, .invokespecial 61, 3), (19, .athrow, 1), (20, .aload_n 0, 1), (21, .getfield 33, 3), (24, .iconst 0, 1), (25, .invokevirtual 144, 3), (28, .istore_n 1, 1), (29, .aload_n 0, 1), (30, .getfield 33, 3), (33, .iconst 1, 1), (34, .invokevirtual 144, 3), (37, .istore_n 2, 1), (38, .aload_n 0, 1), (39, .getfield 12, 3), (42, .getfield 147, 3), (45, .getfield 151, 3), (48, .getfield 155, 3), (51, .iload_n 1, 1), (52, .iadd, 1), (53, .sipush 256, 3), (56, .if_icmp .gt 24, 3), (59, .aload_n 0, 1), (60, .getfield 12, 3), (63, .getfield 160, 3), (66, .getfield 151, 3), (69, .getfield 155, 3), (72, .iload_n 2, 1), (73, .iadd, 1), (74, .sipush 256, 3), (77, .if_icmp .le 13, 3), (80, .new 73, 3), (83, .dup, 1), (84, .ldc 163, 2), (86, .invokespecial 77, 3), (89, .athrow, 1), (90, .aload_n 0, 1), (91, .invokevirtual 45, 3), (94, .aload_n 0, 1), (95, .getfield 33, 3), (98, .aload_n 0, 1), (99, .getfield 12, 3), (102, .invokevirtual 165, 3), (105, .aload_n 0, 1), (106, .getfield 33, 3), (109, .iconst 0, 1), (110, .putfield 126, 3), (113, .iload_n 1, 1), (114, .iload_n 2, 1), (115, .iadd, 1), (116, .ireturn, 1)]
set_option maxRecDepth 20000 in
theorem DX6_say : Lst YX6_say LX6_say := by unfold Lst; decide +kernel
def LX6_undo : LI := [(0, .aload_n 0, 1), (1, .getfield 169, 3), (4, .iconst 1, 1), (5, .if_icmp .lt 12, 3), (8, .aload_n 0, 1), (9, .getfield 169, 3), (12, .bipush 6, 2), (14, .if_icmp .le 13, 3), (17, .new 73, 3), (20, .dup, 1), (21, .ldc 172, 2), (23, .invokespecial 77, 3), (26, .athrow, 1), (27, .aload_n 0, 1), (28, .dup, 1), (29, .getfield 169, 3), (32, .iconst 1, 1), (33, .isub, 1), (34, .putfield 169, 3), (37, .aload_n 0, 1), (38, .getfield 12, 3), (41, .aload_n 0, 1), (42, .getfield 19, 3), (45, .aload_n 0, 1), (46, .getfield 169, 3), (49, .aaload, 1), (50, .invokevirtual 174, 3), (53, .aload_n 0, 1), (54, .getfield 169, 3), (57, .ireturn, 1)]
set_option maxRecDepth 20000 in
theorem DX6_undo : Lst YX6_undo LX6_undo := by unfold Lst; decide +kernel
def LX6_street : LI := [(0, .aload_n 0, 1), (1, .iload_n 1, 1), (2, .iload_n 2, 1), (3, .invokevirtual 37, 3), (6, .astore 4, 2), (8, .iload_n 3, 1), (9, .ifCond .lt 9, 3), (12, .iload_n 3, 1), (13, .bipush 6, 2), (15, .if_icmp .le 13, 3), (18, .new 57, 3), (21, .dup, 1), (22, .ldc 177, 2), (24, .invokespecial 61, 3), (27, .athrow, 1), (28, .aload 4, 2), (30, .iload_n 3, 1), (31, .invokevirtual 48, 3), (34, .ireturn, 1)]
set_option maxRecDepth 20000 in
theorem DX6_street : Lst YX6_street LX6_street := by unfold Lst; decide +kernel
def LX6_accent : LI := [(0, .aload_n 0, 1), (1, .iload_n 1, 1), (2, .iload_n 2, 1), (3, .invokevirtual 37, 3), (6, .astore 4, 2), (8, .iload_n 3, 1), (9, .ifCond .lt 9, 3), (12, .iload_n 3, 1), (13, .bipush 10, 2), (15, .if_icmp .le 13, 3), (18, .new 57, 3), (21, .dup, 1), (22, .ldc 179, 2), (24, .invokespecial 61, 3), (27, .athrow, 1), (28, .aload 4, 2), (30, .iload_n 3, 1), (31, .invokevirtual 181, 3), (34, .ireturn, 1)]
set_option maxRecDepth 20000 in
theorem DX6_accent : Lst YX6_accent LX6_accent := by unfold Lst; decide +kernel
def LX6_waits : LI := [(0, .aload_n 0, 1), (1, .iload_n 1, 1), (2, .invokevirtual 94, 3), (5, .getfield 151, 3), (8, .astore_n 3, 1), (9, .iload_n 2, 1), (10, .ifCond .lt 11, 3), (13, .iload_n 2, 1), (14, .aload_n 3, 1), (15, .getfield 155, 3), (18, .if_icmp .lt 13, 3), (21, .new 184, 3), (24, .dup, 1), (25, .ldc 186, 2), (27, .invokespecial 188, 3), (30, .athrow, 1), (31, .aload_n 3, 1), (32, .iload_n 2, 1), (33, .invokevirtual 189, 3), (36, .ireturn, 1)]
set_option maxRecDepth 20000 in
theorem DX6_waits : Lst YX6_waits LX6_waits := by unfold Lst; decide +kernel
def LX6_had : LI := [(0, .aload_n 0, 1), (1, .iload_n 1, 1), (2, .invokevirtual 94, 3), (5, .getfield 192, 3), (8, .lreturn, 1)]
set_option maxRecDepth 20000 in
theorem DX6_had : Lst YX6_had LX6_had := by unfold Lst; decide +kernel
def LX6_count : LI := [(0, .iload_n 1, 1), (1, .tableswitch 226 0 12 #[67, 75, 83, 97, 111, 122, 133, 144, 155, 166, 177, 199, 221], 67), (68, .aload_n 0, 1), (69, .getfield 12, 3), (72, .getfield 196, 3), (75, .ireturn, 1), (76, .aload_n 0, 1), (77, .getfield 12, 3), (80, .getfield 199, 3), (83, .ireturn, 1), (84, .aload_n 0, 1), (85, .getfield 12, 3), (88, .getfield 147, 3), (91, .getfield 151, 3), (94, .getfield 155, 3), (97, .ireturn, 1), (98, .aload_n 0, 1), (99, .getfield 12, 3), (102, .getfield 160, 3), (105, .getfield 151, 3), (108, .getfield 155, 3), (111, .ireturn, 1), (112, .aload_n 0, 1), (113, .getfield 12, 3), (116, .getfield 147, 3), (119, .getfield 202, 3), (122, .ireturn, 1), (123, .aload_n 0, 1), (124, .getfield 12, 3), (127, .getfield 160, 3), (130, .getfield 202, 3), (133, .ireturn, 1), (134, .aload_n 0, 1), (135, .getfield 12, 3), (138, .getfield 147, 3), (141, .getfield 205, 3), (144, .ireturn, 1), (145, .aload_n 0, 1), (146, .getfield 12, 3), (149, .getfield 160, 3), (152, .getfield 205, 3), (155, .ireturn, 1), (156, .aload_n 0, 1), (157, .getfield 12, 3), (160, .getfield 147, 3), (163, .invokevirtual 108, 3), (166, .ireturn, 1), (167, .aload_n 0, 1), (168, .getfield 12, 3), (171, .getfield 160, 3), (174, .invokevirtual 108, 3), (177, .ireturn, 1), (178, .aload_n 0, 1), (179, .getfield 12, 3), (182, .getfield 147, 3), (185, .invokevirtual 208, 3), (188, .aload_n 0, 1), (189, .getfield 12, 3), (192, .getfield 160, 3), (195, .invokevirtual 208, 3), (198, .iadd, 1), (199, .ireturn, 1), (200, .aload_n 0, 1), (201, .getfield 12, 3), (204, .getfield 147, 3), (207, .invokevirtual 211, 3), (210, .aload_n 0, 1), (211, .getfield 12, 3), (214, .getfield 160, 3), (217, .invokevirtual 211, 3), (220, .iadd, 1), (221, .ireturn, 1), (222, .aload_n 0, 1), (223, .getfield 169, 3), (226, .ireturn, 1), (227, .new 57, 3), (230, .dup, 1), (231, .ldc 214, 2), (233, .invokespecial 61, 3), (236, .athrow, 1)]
set_option maxRecDepth 20000 in
theorem DX6_count : Lst YX6_count LX6_count := by unfold Lst; decide +kernel
def LX6_setting : LI := [(0, .iload_n 1, 1), (1, .invokestatic 78, 3), (4, .aload_n 0, 1), (5, .getfield 12, 3), (8, .getfield 91, 3), (11, .iload_n 1, 1), (12, .iaload, 1), (13, .ireturn, 1)]
set_option maxRecDepth 20000 in
theorem DX6_setting : Lst YX6_setting LX6_setting := by unfold Lst; decide +kernel
def LX6_sure : LI := [(0, .aload_n 0, 1), (1, .iload_n 1, 1), (2, .iload_n 2, 1), (3, .invokevirtual 37, 3), (6, .invokevirtual 216, 3), (9, .ireturn, 1)]
set_option maxRecDepth 20000 in
theorem DX6_sure : Lst YX6_sure LX6_sure := by unfold Lst; decide +kernel
def LX6_ifSent : LI := [(0, .aload_n 0, 1), (1, .iload_n 1, 1), (2, .invokevirtual 94, 3), (5, .pop, 1), (6, .iload_n 2, 1), (7, .invokestatic 98, 3), (10, .iload_n 3, 1), (11, .ifCond .lt 8, 3), (14, .iload_n 3, 1), (15, .iconst 2, 1), (16, .if_icmp .le 13, 3), (19, .new 57, 3), (22, .dup, 1), (23, .ldc 219, 2), (25, .invokespecial 61, 3), (28, .athrow, 1), (29, .aload_n 0, 1), (30, .getfield 16, 3), (33, .aload_n 0, 1), (34, .getfield 12, 3), (37, .iload_n 1, 1), (38, .invokevirtual 221, 3), (41, .astore 4, 2), (43, .aload 4, 2), (45, .invokevirtual 208, 3), (48, .istore 5, 2), (50, .aload_n 0, 1), (51, .getfield 16, 3), (54, .aload 4, 2), (56, .iload_n 2, 1), (57, .invokevirtual 113, 3), (60, .istore 6, 2), (62, .iload_n 3, 1), (63, .ifCond .ne 6, 3), (66, .iload 6, 2), (68, .ireturn, 1), (69, .iload_n 3, 1), (70, .iconst 1, 1), (71, .if_icmp .ne 14, 3), (74, .aload 4, 2), (76, .invokevirtual 208, 3), (79, .iload 5, 2), (81, .isub, 1), (82, .goto 11, 3), (85, .aload 4, 2), (87, .getfield 151, 3), (90, .getfield 155, 3), (93, .ireturn, 1)]
set_option maxRecDepth 20000 in
theorem DX6_ifSent : Lst YX6_ifSent LX6_ifSent := by unfold Lst; decide +kernel
def LX6_ifLearned : LI := [(0, .aload_n 0, 1), (1, .iload_n 1, 1), (2, .invokevirtual 94, 3), (5, .pop, 1), (6, .iload_n 2, 1), (7, .invokestatic 98, 3), (10, .aload_n 0, 1), (11, .getfield 16, 3), (14, .aload_n 0, 1), (15, .getfield 12, 3), (18, .iload_n 1, 1), (19, .invokevirtual 221, 3), (22, .astore_n 3, 1), (23, .aload_n 0, 1), (24, .getfield 16, 3), (27, .aload_n 3, 1), (28, .iload_n 2, 1), (29, .aload_n 0, 1), (30, .getfield 26, 3), (33, .invokevirtual 104, 3), (36, .aload_n 3, 1), (37, .invokevirtual 108, 3), (40, .ireturn, 1)]
set_option maxRecDepth 20000 in
theorem DX6_ifLearned : Lst YX6_ifLearned LX6_ifLearned := by unfold Lst; decide +kernel
def LX6_beatsFor : LI := [(0, .aload_n 0, 1), (1, .iload_n 1, 1), (2, .invokevirtual 94, 3), (5, .pop, 1), (6, .aload_n 0, 1), (7, .getfield 16, 3), (10, .aload_n 0, 1), (11, .getfield 12, 3), (14, .iload_n 1, 1), (15, .invokevirtual 221, 3), (18, .astore_n 2, 1), (19, .iconst 0, 1), (20, .istore_n 3, 1), (21, .iload_n 3, 1), (22, .sipush 300, 3), (25, .if_icmp .gt 31, 3), (28, .aload_n 2, 1), (29, .getfield 151, 3), (32, .getfield 155, 3), (35, .ifCond .ne 5, 3), (38, .iload_n 3, 1), (39, .ireturn, 1), (40, .aload_n 0, 1), (41, .getfield 16, 3), (44, .aload_n 2, 1), (45, .iconst 1, 1), (46, .invokevirtual 113, 3), (49, .pop, 1), (50, .iinc 3 1, 3), (53, .goto (-32), 3), (56, .iconst (-1), 1), (57, .ireturn, 1)]
set_option maxRecDepth 20000 in
theorem DX6_beatsFor : Lst YX6_beatsFor LX6_beatsFor := by unfold Lst; decide +kernel
def LX6_bestLesson : LI := [(0, .aload_n 0, 1), (1, .iload_n 1, 1), (2, .invokevirtual 94, 3), (5, .pop, 1), (6, .aload_n 0, 1), (7, .getfield 16, 3), (10, .aload_n 0, 1), (11, .getfield 12, 3), (14, .iload_n 1, 1), (15, .invokevirtual 221, 3), (18, .astore_n 2, 1), (19, .iconst 1, 1), (20, .istore_n 3, 1), (21, .iconst (-1), 1), (22, .istore 4, 2), (24, .aload_n 0, 1), (25, .getfield 26, 3), (28, .invokevirtual 225, 3), (31, .iconst 1, 1), (32, .istore 5, 2), (34, .iload 5, 2), (36, .bipush 40, 2), (38, .if_icmp .gt 49, 3), (41, .aload_n 0, 1), (42, .getfield 16, 3), (45, .aload_n 2, 1), (46, .aload_n 0, 1), (47, .getfield 26, 3), (50, .invokevirtual 228, 3), (53, .aload_n 0, 1), (54, .getfield 16, 3), (57, .aload_n 2, 1), (58, .aload_n 0, 1), (59, .getfield 26, 3), (62, .invokevirtual 232, 3), (65, .istore 6, 2), (67, .iload 6, 2), (69, .iload 4, 2), (71, .if_icmp .le 10, 3), (74, .iload 6, 2), (76, .istore 4, 2), (78, .iload 5, 2), (80, .istore_n 3, 1), (81, .iinc 5 1, 3), (84, .goto (-50), 3), (87, .iload_n 3, 1), (88, .ireturn, 1)]
set_option maxRecDepth 20000 in
theorem DX6_bestLesson : Lst YX6_bestLesson LX6_bestLesson := by unfold Lst; decide +kernel
def LX6_hurts : LI := [(0, .aload_n 0, 1), (1, .iload_n 1, 1), (2, .iload_n 2, 1), (3, .invokevirtual 37, 3), (6, .getfield 64, 3), (9, .ifCond .ne 5, 3), (12, .iconst (-1), 1), (13, .ireturn, 1), (14, .aload_n 0, 1), (15, .getfield 16, 3), (18, .aload_n 0, 1), (19, .getfield 12, 3), (22, .iload_n 1, 1), (23, .invokevirtual 221, 3), (26, .astore_n 3, 1), (27, .iconst 0, 1), (28, .istore 4, 2), (30, .iload 4, 2), (32, .iload_n 2, 1), (33, .if_icmp .ge 25, 3), (36, .aload_n 0, 1), (37, .getfield 16, 3), (40, .aload_n 3, 1), (41, .aload_n 3, 1), (42, .getfield 117, 3), (45, .iload 4, 2), (47, .aaload, 1), (48, .invokevirtual 236, 3), (51, .pop, 1), (52, .iinc 4 1, 3), (55, .goto (-25), 3), (58, .aload_n 0, 1), (59, .getfield 16, 3), (62, .aload_n 3, 1), (63, .aload_n 3, 1), (64, .getfield 117, 3), (67, .iload_n 2, 1), (68, .aaload, 1), (69, .invokevirtual 240, 3), (72, .ireturn, 1)]
set_option maxRecDepth 20000 in
theorem DX6_hurts : Lst YX6_hurts LX6_hurts := by unfold Lst; decide +kernel
def LX6_rightShare : LI := [(0, .aload_n 0, 1), (1, .iload_n 1, 1), (2, .invokevirtual 94, 3), (5, .astore_n 2, 1), (6, .aload_n 2, 1), (7, .getfield 202, 3), (10, .ifCond .le 22, 3), (13, .aload_n 2, 1), (14, .getfield 202, 3), (17, .aload_n 2, 1), (18, .getfield 205, 3), (21, .isub, 1), (22, .i2d, 1), (23, .aload_n 2, 1), (24, .getfield 202, 3), (27, .i2d, 1), (28, .ddiv, 1), (29, .goto 4, 3), (32, .dconst 1, 1), (33, .dreturn, 1)]
set_option maxRecDepth 20000 in
theorem DX6_rightShare : Lst YX6_rightShare LX6_rightShare := by unfold Lst; decide +kernel
def LX6_digest : LI := [(0, .ldc2_w 243, 3), (3, .lstore_n 1, 1), (4, .iconst 0, 1), (5, .istore_n 3, 1), (6, .iload_n 3, 1), (7, .bipush 12, 2), (9, .if_icmp .gt 22, 3), (12, .ldc2_w 245, 3), (15, .lload_n 1, 1), (16, .lmul, 1), (17, .aload_n 0, 1), (18, .iload_n 3, 1), (19, .invokevirtual 247, 3), (22, .i2l, 1), (23, .ladd, 1), (24, .lstore_n 1, 1), (25, .iinc 3 1, 3), (28, .goto (-22), 3), (31, .iconst 0, 1), (32, .istore_n 3, 1), (33, .iload_n 3, 1), (34, .iconst 3, 1), (35, .if_icmp .ge 26, 3), (38, .ldc2_w 245, 3), (41, .lload_n 1, 1), (42, .lmul, 1), (43, .aload_n 0, 1), (44, .getfield 12, 3), (47, .getfield 91, 3), (50, .iload_n 3, 1), (51, .iaload, 1), (52, .i2l, 1), (53, .ladd, 1), (54, .lstore_n 1, 1), (55, .iinc 3 1, 3), (58, .goto (-25), 3), (61, .iconst 0, 1), (62, .istore_n 3, 1), (63, .iload_n 3, 1), (64, .iconst 2, 1), (65, .if_icmp .ge 41, 3), (68, .iconst 0, 1), (69, .istore 4, 2), (71, .iload 4, 2), (73, .bipush 8, 2), (75, .if_icmp .ge 18, 3), (78, .aload_n 0, 1), (79, .lload_n 1, 1), (80, .iload_n 3, 1), (81, .iload 4, 2), (83, .invokevirtual 250, 3), (86, .lstore_n 1, 1), (87, .iinc 4 1, 3), (90, .goto (-19), 3), (93, .aload_n 0, 1), (94, .lload_n 1, 1), (95, .iload_n 3, 1), (96, .invokevirtual 254, 3), (99, .lstore_n 1, 1), (100, .iinc 3 1, 3), (103, .goto (-40), 3), (106, .ldc2_w 245, 3), (109, .lload_n 1, 1), (110, .lmul, 1), (111, .aload_n 0, 1), (112, .getfield 33, 3), (115, .getfield 126, 3), (118, .i2l, 1), (119, .ladd, 1), (120, .lstore_n 1, 1), (121, .iconst 0, 1), (122, .istore_n 3, 1), (123, .iload_n 3, 1), (124, .aload_n 0, 1), (125, .getfield 33, 3), (128, .getfield 126, 3), (131, .if_icmp .ge 32, 3), (134, .iload_n 3, 1), (135, .bipush 60, 2), (137, .if_icmp .ge 26, 3), (140, .ldc2_w 245, 3), (143, .lload_n 1, 1), (144, .lmul, 1), (145, .aload_n 0, 1), (146, .getfield 33, 3), (149, .getfield 131, 3), (152, .iload_n 3, 1), (153, .caload, 1), (154, .i2l, 1), (155, .ladd, 1), (156, .lstore_n 1, 1), (157, .iinc 3 1, 3), (160, .goto (-37), 3), (163, .lload_n 1, 1), (164, .lreturn, 1)]
set_option maxRecDepth 20000 in
theorem DX6_digest : Lst YX6_digest LX6_digest := by unfold Lst; decide +kernel
def LX6_digestOfTone : LI := [(0, .lload_n 1, 1), (1, .lstore 5, 2), (3, .iconst 0, 1), (4, .istore 7, 2), (6, .iload 7, 2), (8, .bipush 6, 2), (10, .if_icmp .gt 28, 3), (13, .ldc2_w 245, 3), (16, .lload 5, 2), (18, .lmul, 1), (19, .aload_n 0, 1), (20, .iload_n 3, 1), (21, .iload 4, 2), (23, .iload 7, 2), (25, .invokevirtual 258, 3), (28, .i2l, 1), (29, .ladd, 1), (30, .lstore 5, 2), (32, .iinc 7 1, 3), (35, .goto (-29), 3), (38, .iconst 0, 1), (39, .istore 7, 2), (41, .iload 7, 2), (43, .bipush 10, 2), (45, .if_icmp .gt 28, 3), (48, .ldc2_w 245, 3), (51, .lload 5, 2), (53, .lmul, 1), (54, .aload_n 0, 1), (55, .iload_n 3, 1), (56, .iload 4, 2), (58, .iload 7, 2), (60, .invokevirtual 262, 3), (63, .i2l, 1), (64, .ladd, 1), (65, .lstore 5, 2), (67, .iinc 7 1, 3), (70, .goto (-29), 3), (73, .ldc2_w 245, 3), (76, .lload 5, 2), (78, .lmul, 1), (79, .aload_n 0, 1), (80, .iload_n 3, 1), (81, .iload 4, 2), (83, .invokevirtual 265, 3), (86, .i2l, 1), (87, .ladd, 1), (88, .lstore 5, 2), (90, .ldc2_w 245, 3), (93, .lload 5, 2), (95, .lmul, 1), (96, .aload_n 0, 1), (97, .iload_n 3, 1), (98, .iload 4, 2), (100, .invokevirtual 269, 3), (103, .i2l, 1), (104, .ladd, 1), (105, .lreturn, 1)]
set_option maxRecDepth 20000 in
theorem DX6_digestOfTone : Lst YX6_digestOfTone LX6_digestOfTone := by unfold Lst; decide +kernel
def LX6_digestOfWay : LI := [(0, .lload_n 1, 1), (1, .lstore 4, 2), (3, .aload_n 0, 1), (4, .getfield 12, 3), (7, .iload_n 3, 1), (8, .invokevirtual 272, 3), (11, .getfield 151, 3), (14, .astore 6, 2), (16, .iconst 0, 1), (17, .istore 7, 2), (19, .iload 7, 2), (21, .aload 6, 2), (23, .getfield 155, 3), (26, .if_icmp .ge 26, 3), (29, .ldc2_w 245, 3), (32, .lload 4, 2), (34, .lmul, 1), (35, .aload 6, 2), (37, .iload 7, 2), (39, .invokevirtual 189, 3), (42, .i2l, 1), (43, .ladd, 1), (44, .lstore 4, 2), (46, .iinc 7 1, 3), (49, .goto (-30), 3), (52, .ldc2_w 245, 3), (55, .lload 4, 2), (57, .lmul, 1), (58, .aload_n 0, 1), (59, .iload_n 3, 1), (60, .invokevirtual 275, 3), (63, .ladd, 1), (64, .lstore 4, 2), (66, .iconst 0, 1), (67, .istore 7, 2), (69, .iload 7, 2), (71, .iconst 2, 1), (72, .if_icmp .gt 27, 3), (75, .ldc2_w 245, 3), (78, .lload 4, 2), (80, .lmul, 1), (81, .aload_n 0, 1), (82, .iload_n 3, 1), (83, .iconst 5, 1), (84, .iload 7, 2), (86, .invokevirtual 279, 3), (89, .i2l, 1), (90, .ladd, 1), (91, .lstore 4, 2), (93, .iinc 7 1, 3), (96, .goto (-27), 3), (99, .ldc2_w 245, 3), (102, .lload 4, 2), (104, .lmul, 1), (105, .aload_n 0, 1), (106, .iload_n 3, 1), (107, .bipush 12, 2), (109, .invokevirtual 282, 3), (112, .i2l, 1), (113, .ladd, 1), (114, .lstore 4, 2), (116, .ldc2_w 245, 3), (119, .lload 4, 2), (121, .lmul, 1), (122, .aload_n 0, 1), (123, .iload_n 3, 1), (124, .invokevirtual 285, 3), (127, .i2l, 1), (128, .ladd, 1), (129, .lstore 4, 2), (131, .ldc2_w 245, 3), (134, .lload 4, 2), (136, .lmul, 1), (137, .aload_n 0, 1), (138, .iload_n 3, 1), (139, .invokevirtual 288, 3), (142, .i2l, 1), (143, .ladd, 1), (144, .lstore 4, 2), (146, .ldc2_w 245, 3), (149, .lload 4, 2), (151, .lmul, 1), (152, .aload_n 0, 1), (153, .iload_n 3, 1), (154, .invokevirtual 291, 3), (157, .invokestatic 295, 3), (160, .ladd, 1), (161, .lreturn, 1)]
set_option maxRecDepth 20000 in
theorem DX6_digestOfWay : Lst YX6_digestOfWay LX6_digestOfWay := by unfold Lst; decide +kernel
def LX6_bitsOfShare : LI := [(0, .dload_n 0, 1), (1, .dconst 0, 1), (2, .dcmp .g, 1), (3, .ifCond .gt 5, 3), (6, .lconst 0, 1), (7, .lreturn, 1), (8, .dload_n 0, 1), (9, .dstore_n 2, 1), (10, .ldc2_w 299, 3), (13, .lstore 4, 2), (15, .iconst 0, 1), (16, .istore 6, 2), (18, .iload 6, 2), (20, .sipush 1022, 3), (23, .if_icmp .ge 27, 3), (26, .dload_n 2, 1), (27, .dconst 1, 1), (28, .dcmp .g, 1), (29, .ifCond .ge 21, 3), (32, .dload_n 2, 1), (33, .ldc2_w 301, 3), (36, .dmul, 1), (37, .dstore_n 2, 1), (38, .lload 4, 2), (40, .lconst 1, 1), (41, .lsub, 1), (42, .lstore 4, 2), (44, .iinc 6 1, 3), (47, .goto (-29), 3), (50, .lload 4, 2), (52, .bipush 52, 2), (54, .lshl, 1), (55, .dload_n 2, 1), (56, .dconst 1, 1), (57, .dsub, 1), (58, .ldc2_w 303, 3), (61, .dmul, 1), (62, .d2l, 1), (63, .ladd, 1), (64, .lreturn, 1)]
set_option maxRecDepth 20000 in
theorem DX6_bitsOfShare : Lst YX6_bitsOfShare LX6_bitsOfShare := by unfold Lst; decide +kernel
def LX6_wayOf : LI := [(0, .iload_n 1, 1), (1, .ifCond .lt 8, 3), (4, .iload_n 1, 1), (5, .iconst 2, 1), (6, .if_icmp .lt 14, 3), (9, .new 184, 3), (12, .dup, 1), (13, .ldc_w 305, 3), (16, .invokespecial 188, 3), (19, .athrow, 1), (20, .aload_n 0, 1), (21, .getfield 12, 3), (24, .iload_n 1, 1), (25, .invokevirtual 272, 3), (28, .areturn, 1)]
set_option maxRecDepth 20000 in
theorem DX6_wayOf : Lst YX6_wayOf LX6_wayOf := by unfold Lst; decide +kernel
def LX6_toneOf : LI := [(0, .aload_n 0, 1), (1, .iload_n 1, 1), (2, .invokevirtual 94, 3), (5, .astore_n 3, 1), (6, .iload_n 2, 1), (7, .ifCond .lt 9, 3), (10, .iload_n 2, 1), (11, .bipush 8, 2), (13, .if_icmp .lt 14, 3), (16, .new 184, 3), (19, .dup, 1), (20, .ldc_w 307, 3), (23, .invokespecial 188, 3), (26, .athrow, 1), (27, .aload_n 3, 1), (28, .getfield 117, 3), (31, .iload_n 2, 1), (32, .aaload, 1), (33, .areturn, 1)]
set_option maxRecDepth 20000 in
theorem DX6_toneOf : Lst YX6_toneOf LX6_toneOf := by unfold Lst; decide +kernel
def LX6_checkStreetNumber : LI := [(0, .iload_n 0, 1), (1, .ifCond .lt 8, 3), (4, .iload_n 0, 1), (5, .iconst 4, 1), (6, .if_icmp .lt 14, 3), (9, .new 57, 3), (12, .dup, 1), (13, .ldc_w 309, 3), (16, .invokespecial 61, 3), (19, .athrow, 1), (20, .iload_n 1, 1), (21, .getstatic 311, 3), (24, .iload_n 0, 1), (25, .iaload, 1), (26, .if_icmp .lt 12, 3), (29, .iload_n 1, 1), (30, .getstatic 314, 3), (33, .iload_n 0, 1), (34, .iaload, 1), (35, .if_icmp .le 14, 3), (38, .new 57, 3), (41, .dup, 1), (42, .ldc_w 317, 3), (45, .invokespecial 61, 3), (48, .athrow, 1), (49, .return_, 1)]
set_option maxRecDepth 20000 in
theorem DX6_checkStreetNumber : Lst YX6_checkStreetNumber LX6_checkStreetNumber := by unfold Lst; decide +kernel
def LX6_checkSetting : LI := [(0, .iload_n 0, 1), (1, .ifCond .lt 8, 3), (4, .iload_n 0, 1), (5, .iconst 3, 1), (6, .if_icmp .lt 14, 3), (9, .new 184, 3), (12, .dup, 1), (13, .ldc_w 319, 3), (16, .invokespecial 188, 3), (19, .athrow, 1), (20, .return_, 1)]
set_option maxRecDepth 20000 in
theorem DX6_checkSetting : Lst YX6_checkSetting LX6_checkSetting := by unfold Lst; decide +kernel
def LX6_checkBeats : LI := [(0, .iload_n 0, 1), (1, .iconst 1, 1), (2, .if_icmp .lt 9, 3), (5, .iload_n 0, 1), (6, .bipush 100, 2), (8, .if_icmp .le 14, 3), (11, .new 57, 3), (14, .dup, 1), (15, .ldc_w 321, 3), (18, .invokespecial 61, 3), (21, .athrow, 1), (22, .return_, 1)]
set_option maxRecDepth 20000 in
theorem DX6_checkBeats : Lst YX6_checkBeats LX6_checkBeats := by unfold Lst; decide +kernel
def LX6_checkBeatsLeft : LI := [(0, .aload_n 0, 1), (1, .getfield 12, 3), (4, .getfield 196, 3), (7, .iload_n 1, 1), (8, .iadd, 1), (9, .sipush 5000, 3), (12, .if_icmp .le 14, 3), (15, .new 73, 3), (18, .dup, 1), (19, .ldc_w 323, 3), (22, .invokespecial 77, 3), (25, .athrow, 1), (26, .return_, 1)]
set_option maxRecDepth 20000 in
theorem DX6_checkBeatsLeft : Lst YX6_checkBeatsLeft LX6_checkBeatsLeft := by unfold Lst; decide +kernel
def LX6_save : LI := [(0, .aload_n 0, 1), (1, .getfield 169, 3), (4, .bipush 6, 2), (6, .if_icmp .lt 7, 3), (9, .aload_n 0, 1), (10, .invokevirtual 325, 3), (13, .aload_n 0, 1), (14, .getfield 19, 3), (17, .aload_n 0, 1), (18, .getfield 169, 3), (21, .aaload, 1), (22, .aload_n 0, 1), (23, .getfield 12, 3), (26, .invokevirtual 174, 3), (29, .aload_n 0, 1), (30, .dup, 1), (31, .getfield 169, 3), (34, .iconst 1, 1), (35, .iadd, 1), (36, .putfield 169, 3), (39, .return_, 1)]
set_option maxRecDepth 20000 in
theorem DX6_save : Lst YX6_save LX6_save := by unfold Lst; decide +kernel
def LX6_dropOldest : LI := [(0, .aload_n 0, 1), (1, .getfield 19, 3), (4, .iconst 0, 1), (5, .aaload, 1), (6, .astore_n 1, 1), (7, .iconst 1, 1), (8, .istore_n 2, 1), (9, .iload_n 2, 1), (10, .bipush 6, 2), (12, .if_icmp .ge 23, 3), (15, .aload_n 0, 1), (16, .getfield 19, 3), (19, .iload_n 2, 1), (20, .iconst 1, 1), (21, .isub, 1), (22, .aload_n 0, 1), (23, .getfield 19, 3), (26, .iload_n 2, 1), (27, .aaload, 1), (28, .aastore, 1), (29, .iinc 2 1, 3), (32, .goto (-23), 3), (35, .aload_n 0, 1), (36, .getfield 19, 3), (39, .iconst 5, 1), (40, .aload_n 1, 1), (41, .aastore, 1), (42, .aload_n 0, 1), (43, .iconst 5, 1), (44, .putfield 169, 3), (47, .return_, 1)]
set_option maxRecDepth 20000 in
theorem DX6_dropOldest : Lst YX6_dropOldest LX6_dropOldest := by unfold Lst; decide +kernel
def LX7_init : LI := [(0, .aload_n 0, 1), (1, .invokespecial 1, 3), (4, .aload_n 0, 1), (5, .sipush 811, 3), (8, .newarray .int, 2), (10, .putfield 7, 3), (13, .aload_n 0, 1), (14, .sipush 4866, 3), (17, .newarray .int, 2), (19, .putfield 13, 3), (22, .aload_n 0, 1), (23, .sipush 811, 3), (26, .newarray .int, 2), (28, .putfield 16, 3), (31, .aload_n 0, 1), (32, .iconst 2, 1), (33, .newarray .long, 2), (35, .putfield 19, 3), (38, .aload_n 0, 1), (39, .bipush 12, 2), (41, .newarray .long, 2), (43, .putfield 23, 3), (46, .aload_n 0, 1), (47, .iconst 2, 1), (48, .newarray .long, 2), (50, .putfield 26, 3), (53, .aload_n 0, 1), (54, .bipush 60, 2), (56, .newarray .int, 2), (58, .putfield 29, 3), (61, .aload_n 0, 1), (62, .bipush 64, 2), (64, .newarray .int, 2), (66, .putfield 32, 3), (69, .iconst 0, 1), (70, .istore_n 1, 1), (71, .iload_n 1, 1), (72, .bipush 16, 2), (74, .if_icmp .ge 49, 3), (77, .aload_n 0, 1), (78, .getfield 7, 3), (81, .bipush 7, 2), (83, .iload_n 1, 1), (84, .imul, 1), (85, .bipush 64, 2), (87, .iastore, 1), (88, .aload_n 0, 1), (89, .getfield 7, 3), (92, .bipush 112, 2), (94, .bipush 11, 2), (96, .iload_n 1, 1), (97, .imul, 1), (98, .iadd, 1), (99, .bipush 64, 2), (101, .iastore, 1), (102, .aload_n 0, 1), (103, .getfield 7, 3), (106, .bipush 112, 2), (108, .bipush 11, 2), (110, .iload_n 1, 1), (111, .imul, 1), (112, .iadd, 1), (113, .iconst 4, 1), (114, .iadd, 1), (115, .iconst (-1), 1), (116, .iastore, 1), (117, .iinc 1 1, 3), (120, .goto (-49), 3), (123, .aload_n 0, 1), (124, .getfield 7, 3), (127, .sipush 807, 3), (130, .iconst 1, 1), (131, .iastore, 1), (132, .aload_n 0, 1), (133, .getfield 7, 3), (136, .sipush 808, 3), (139, .bipush 8, 2), (141, .iastore, 1), (142, .aload_n 0, 1), (143, .getfield 7, 3), (146, .sipush 809, 3), (149, .bipush 8, 2), (151, .iastore, 1), (152, .aload_n 0, 1), (153, .getfield 7, 3), (156, .sipush 810, 3), (159, .iconst 3, 1), (160, .iastore, 1), (161, .return_, 1)]
set_option maxRecDepth 20000 in
theorem DX7_init : Lst YX7_init LX7_init := by unfold Lst; decide +kernel
def LX7_thrown : LI := [(0, .aload_n 0, 1), (1, .getfield 35, 3), (4, .ireturn, 1)]
set_option maxRecDepth 20000 in
theorem DX7_thrown : Lst YX7_thrown LX7_thrown := by unfold Lst; decide +kernel
def LX7_fails : LI := [(0, .aload_n 0, 1), (1, .iload_n 1, 1), (2, .putfield 35, 3), (5, .iconst 0, 1), (6, .ireturn, 1)]
set_option maxRecDepth 20000 in
theorem DX7_fails : Lst YX7_fails LX7_fails := by unfold Lst; decide +kernel
def LX7_in : LI := [(0, .iload_n 0, 1), (1, .iload_n 1, 1), (2, .if_icmp .lt 12, 3), (5, .iload_n 0, 1), (6, .iload_n 2, 1), (7, .if_icmp .gt 7, 3), (10, .iconst 1, 1), (11, .goto 4, 3), (14, .iconst 0, 1), (15, .ireturn, 1)]
set_option maxRecDepth 20000 in
theorem DX7_in : Lst YX7_in LX7_in := by unfold Lst; decide +kernel
def LX7_size : LI := [(0, .iload_n 0, 1), (1, .ifCond .ge 8, 3), (4, .iload_n 0, 1), (5, .ineg, 1), (6, .goto 4, 3), (9, .iload_n 0, 1), (10, .ireturn, 1)]
set_option maxRecDepth 20000 in
theorem DX7_size : Lst YX7_size LX7_size := by unfold Lst; decide +kernel
def LX7_isWay : LI := [(0, .iload_n 0, 1), (1, .iconst 0, 1), (2, .iconst 1, 1), (3, .invokestatic 39, 3), (6, .ireturn, 1)]
set_option maxRecDepth 20000 in
theorem DX7_isWay : Lst YX7_isWay LX7_isWay := by unfold Lst; decide +kernel
def LX7_isTone : LI := [(0, .iload_n 0, 1), (1, .iconst 0, 1), (2, .bipush 7, 2), (4, .invokestatic 39, 3), (7, .ireturn, 1)]
set_option maxRecDepth 20000 in
theorem DX7_isTone : Lst YX7_isTone LX7_isTone := by unfold Lst; decide +kernel
def LX7_streetAt : LI := [(0, .bipush 7, 2), (2, .bipush 8, 2), (4, .iload_n 1, 1), (5, .imul, 1), (6, .iload_n 2, 1), (7, .iadd, 1), (8, .imul, 1), (9, .ireturn, 1)]
set_option maxRecDepth 20000 in
theorem DX7_streetAt : Lst YX7_streetAt LX7_streetAt := by unfold Lst; decide +kernel
def LX7_accentAt : LI := [(0, .bipush 112, 2), (2, .bipush 11, 2), (4, .bipush 8, 2), (6, .iload_n 1, 1), (7, .imul, 1), (8, .iload_n 2, 1), (9, .iadd, 1), (10, .imul, 1), (11, .iadd, 1), (12, .ireturn, 1)]
set_option maxRecDepth 20000 in
theorem DX7_accentAt : Lst YX7_accentAt LX7_accentAt := by unfold Lst; decide +kernel
def LX7_save : LI := [(0, .aload_n 0, 1), (1, .getfield 43, 3), (4, .bipush 6, 2), (6, .if_icmp .ne 72, 3), (9, .iconst 0, 1), (10, .istore_n 1, 1), (11, .iload_n 1, 1), (12, .sipush 4055, 3), (15, .if_icmp .ge 25, 3), (18, .aload_n 0, 1), (19, .getfield 13, 3), (22, .iload_n 1, 1), (23, .aload_n 0, 1), (24, .getfield 13, 3), (27, .iload_n 1, 1), (28, .sipush 811, 3), (31, .iadd, 1), (32, .iaload, 1), (33, .iastore, 1), (34, .iinc 1 1, 3), (37, .goto (-26), 3), (40, .iconst 0, 1), (41, .istore_n 1, 1), (42, .iload_n 1, 1), (43, .bipush 10, 2), (45, .if_icmp .ge 23, 3), (48, .aload_n 0, 1), (49, .getfield 23, 3), (52, .iload_n 1, 1), (53, .aload_n 0, 1), (54, .getfield 23, 3), (57, .iload_n 1, 1), (58, .iconst 2, 1), (59, .iadd, 1), (60, .laload, 1), (61, .lastore, 1), (62, .iinc 1 1, 3), (65, .goto (-23), 3), (68, .aload_n 0, 1), (69, .dup, 1), (70, .getfield 43, 3), (73, .iconst 1, 1), (74, .isub, 1), (75, .putfield 43, 3), (78, .iconst 0, 1), (79, .istore_n 1, 1), (80, .iload_n 1, 1), (81, .sipush 811, 3), (84, .if_icmp .ge 30, 3), (87, .aload_n 0, 1), (88, .getfield 13, 3), (91, .sipush 811, 3), (94, .aload_n 0, 1), (95, .getfield 43, 3), (98, .imul, 1), (99, .iload_n 1, 1), (100, .iadd, 1), (101, .aload_n 0, 1), (102, .getfield 7, 3), (105, .iload_n 1, 1), (106, .iaload, 1), (107, .iastore, 1), (108, .iinc 1 1, 3), (111, .goto (-31), 3), (114, .aload_n 0, 1), (115, .getfield 23, 3), (118, .iconst 2, 1), (119, .aload_n 0, 1), (120, .getfield 43, 3), (123, .imul, 1), (124, .aload_n 0, 1), (125, .getfield 19, 3), (128, .iconst 0, 1), (129, .laload, 1), (130, .lastore, 1), (131, .aload_n 0, 1), (132, .getfield 23, 3), (135, .iconst 2, 1), (136, .aload_n 0, 1), (137, .getfield 43, 3), (140, .imul, 1), (141, .iconst 1, 1), (142, .iadd, 1), (143, .aload_n 0, 1), (144, .getfield 19, 3), (147, .iconst 1, 1), (148, .laload, 1), (149, .lastore, 1), (150, .aload_n 0, 1), (151, .dup, 1), (152, .getfield 43, 3), (155, .iconst 1, 1), (156, .iadd, 1), (157, .putfield 43, 3), (160, .return_, 1)]
set_option maxRecDepth 20000 in
theorem DX7_save : Lst YX7_save LX7_save := by unfold Lst; decide +kernel
def LX7_putAside : LI := [(0, .iconst 0, 1), (1, .istore_n 1, 1), (2, .iload_n 1, 1), (3, .sipush 811, 3), (6, .if_icmp .ge 21, 3), (9, .aload_n 0, 1), (10, .getfield 16, 3), (13, .iload_n 1, 1), (14, .aload_n 0, 1), (15, .getfield 7, 3), (18, .iload_n 1, 1), (19, .iaload, 1), (20, .iastore, 1), (21, .iinc 1 1, 3), (24, .goto (-22), 3), (27, .aload_n 0, 1), (28, .getfield 26, 3), (31, .iconst 0, 1), (32, .aload_n 0, 1), (33, .getfield 19, 3), (36, .iconst 0, 1), (37, .laload, 1), (38, .lastore, 1), (39, .aload_n 0, 1), (40, .getfield 26, 3), (43, .iconst 1, 1), (44, .aload_n 0, 1), (45, .getfield 19, 3), (48, .iconst 1, 1), (49, .laload, 1), (50, .lastore, 1), (51, .return_, 1)]
set_option maxRecDepth 20000 in
theorem DX7_putAside : Lst YX7_putAside LX7_putAside := by unfold Lst; decide +kernel
def LX7_putBack : LI := [(0, .iconst 0, 1), (1, .istore_n 1, 1), (2, .iload_n 1, 1), (3, .sipush 811, 3), (6, .if_icmp .ge 21, 3), (9, .aload_n 0, 1), (10, .getfield 7, 3), (13, .iload_n 1, 1), (14, .aload_n 0, 1), (15, .getfield 16, 3), (18, .iload_n 1, 1), (19, .iaload, 1), (20, .iastore, 1), (21, .iinc 1 1, 3), (24, .goto (-22), 3), (27, .aload_n 0, 1), (28, .getfield 19, 3), (31, .iconst 0, 1), (32, .aload_n 0, 1), (33, .getfield 26, 3), (36, .iconst 0, 1), (37, .laload, 1), (38, .lastore, 1), (39, .aload_n 0, 1), (40, .getfield 19, 3), (43, .iconst 1, 1), (44, .aload_n 0, 1), (45, .getfield 26, 3), (48, .iconst 1, 1), (49, .laload, 1), (50, .lastore, 1), (51, .return_, 1)]
set_option maxRecDepth 20000 in
theorem DX7_putBack : Lst YX7_putBack LX7_putBack := by unfold Lst; decide +kernel
def LX7_mayBuild : LI := [(0, .iload_n 0, 1), (1, .ifCond .ne 12, 3), (4, .iload_n 1, 1), (5, .bipush 16, 2), (7, .bipush 96, 2), (9, .invokestatic 39, 3), (12, .ireturn, 1), (13, .iload_n 0, 1), (14, .iconst 3, 1), (15, .if_icmp .ne 13, 3), (18, .iload_n 1, 1), (19, .iconst 0, 1), (20, .bipush 60, 2), (22, .invokestatic 39, 3), (25, .goto 11, 3), (28, .iload_n 1, 1), (29, .bipush (-32), 2), (31, .bipush 32, 2), (33, .invokestatic 39, 3), (36, .ireturn, 1)]
set_option maxRecDepth 20000 in
theorem DX7_mayBuild : Lst YX7_mayBuild LX7_mayBuild := by unfold Lst; decide +kernel
def LX7_build : LI := [(0, .aload_n 0, 1), (1, .iconst 0, 1), (2, .putfield 35, 3), (5, .iload_n 1, 1), (6, .invokestatic 46, 3), (9, .ifCond .eq 10, 3), (12, .iload_n 2, 1), (13, .invokestatic 50, 3), (16, .ifCond .ne 9, 3), (19, .aload_n 0, 1), (20, .iconst 1, 1), (21, .invokevirtual 53, 3), (24, .ireturn, 1), (25, .iload_n 3, 1), (26, .iconst 0, 1), (27, .iconst 3, 1), (28, .invokestatic 39, 3), (31, .ifCond .eq 12, 3), (34, .iload_n 3, 1), (35, .iload 4, 2), (37, .invokestatic 57, 3), (40, .ifCond .ne 9, 3), (43, .aload_n 0, 1), (44, .iconst 2, 1), (45, .invokevirtual 53, 3), (48, .ireturn, 1), (49, .aload_n 0, 1), (50, .invokevirtual 61, 3), (53, .aload_n 0, 1), (54, .iload_n 1, 1), (55, .iload_n 2, 1), (56, .invokevirtual 64, 3), (59, .iload_n 3, 1), (60, .iadd, 1), (61, .istore 5, 2), (63, .aload_n 0, 1), (64, .getfield 7, 3), (67, .iload 5, 2), (69, .iaload, 1), (70, .istore 6, 2), (72, .aload_n 0, 1), (73, .getfield 7, 3), (76, .iload 5, 2), (78, .iload 4, 2), (80, .iastore, 1), (81, .iload 6, 2), (83, .ireturn, 1)]
set_option maxRecDepth 20000 in
theorem DX7_build : Lst YX7_build LX7_build := by unfold Lst; decide +kernel
def LX7_carry : LI := [(0, .aload_n 0, 1), (1, .iconst 0, 1), (2, .putfield 35, 3), (5, .iload_n 1, 1), (6, .invokestatic 46, 3), (9, .ifCond .eq 10, 3), (12, .iload_n 2, 1), (13, .invokestatic 50, 3), (16, .ifCond .ne 9, 3), (19, .aload_n 0, 1), (20, .iconst 1, 1), (21, .invokevirtual 53, 3), (24, .ireturn, 1), (25, .iload_n 3, 1), (26, .iconst 0, 1), (27, .iconst 4, 1), (28, .invokestatic 39, 3), (31, .ifCond .ne 9, 3), (34, .aload_n 0, 1), (35, .iconst 2, 1), (36, .invokevirtual 53, 3), (39, .ireturn, 1), (40, .aload_n 0, 1), (41, .invokevirtual 61, 3), (44, .aload_n 0, 1), (45, .iload_n 1, 1), (46, .iload_n 2, 1), (47, .invokevirtual 68, 3), (50, .iconst 3, 1), (51, .iadd, 1), (52, .istore 4, 2), (54, .aload_n 0, 1), (55, .getfield 7, 3), (58, .iload 4, 2), (60, .iaload, 1), (61, .istore 5, 2), (63, .aload_n 0, 1), (64, .getfield 7, 3), (67, .iload 4, 2), (69, .iload_n 3, 1), (70, .iastore, 1), (71, .iload 5, 2), (73, .ireturn, 1)]
set_option maxRecDepth 20000 in
theorem DX7_carry : Lst YX7_carry LX7_carry := by unfold Lst; decide +kernel
def LX7_insult : LI := [(0, .aload_n 0, 1), (1, .iconst 0, 1), (2, .putfield 35, 3), (5, .iload_n 1, 1), (6, .invokestatic 46, 3), (9, .ifCond .eq 10, 3), (12, .iload_n 2, 1), (13, .invokestatic 50, 3), (16, .ifCond .ne 9, 3), (19, .aload_n 0, 1), (20, .iconst 1, 1), (21, .invokevirtual 53, 3), (24, .ireturn, 1), (25, .iload_n 3, 1), (26, .sipush (-300), 3), (29, .sipush 300, 3), (32, .invokestatic 39, 3), (35, .ifCond .ne 9, 3), (38, .aload_n 0, 1), (39, .iconst 2, 1), (40, .invokevirtual 53, 3), (43, .ireturn, 1), (44, .aload_n 0, 1), (45, .iload_n 1, 1), (46, .iload_n 2, 1), (47, .invokevirtual 64, 3), (50, .iconst 4, 1), (51, .iadd, 1), (52, .istore 4, 2), (54, .aload_n 0, 1), (55, .getfield 7, 3), (58, .iload 4, 2), (60, .iaload, 1), (61, .iload_n 3, 1), (62, .iadd, 1), (63, .sipush (-1000), 3), (66, .sipush 1000, 3), (69, .invokestatic 39, 3), (72, .ifCond .ne 9, 3), (75, .aload_n 0, 1), (76, .iconst 3, 1), (77, .invokevirtual 53, 3), (80, .ireturn, 1), (81, .aload_n 0, 1), (82, .invokevirtual 61, 3), (85, .aload_n 0, 1), (86, .getfield 7, 3), (89, .iload 4, 2), (91, .dup2, 1), (92, .iaload, 1), (93, .iload_n 3, 1), (94, .iadd, 1), (95, .iastore, 1), (96, .aload_n 0, 1), (97, .getfield 7, 3), (100, .iload 4, 2), (102, .iaload, 1), (103, .ireturn, 1)]
set_option maxRecDepth 20000 in
theorem DX7_insult : Lst YX7_insult LX7_insult := by unfold Lst; decide +kernel
def LX7_maySet : LI := [(0, .iload_n 0, 1), (1, .ifCond .ne 13, 3), (4, .iload_n 1, 1), (5, .iconst 1, 1), (6, .bipush 64, 2), (8, .invokestatic 39, 3), (11, .goto 25, 3), (14, .iload_n 0, 1), (15, .iconst 1, 1), (16, .if_icmp .ne 13, 3), (19, .iload_n 1, 1), (20, .iconst 4, 1), (21, .bipush 40, 2), (23, .invokestatic 39, 3), (26, .goto 10, 3), (29, .iload_n 1, 1), (30, .iconst 1, 1), (31, .bipush 50, 2), (33, .invokestatic 39, 3), (36, .ireturn, 1)]
set_option maxRecDepth 20000 in
theorem DX7_maySet : Lst YX7_maySet LX7_maySet := by unfold Lst; decide +kernel
def LX7_set : LI := [(0, .aload_n 0, 1), (1, .iconst 0, 1), (2, .putfield 35, 3), (5, .iload_n 1, 1), (6, .iconst 0, 1), (7, .iconst 2, 1), (8, .invokestatic 39, 3), (11, .ifCond .ne 9, 3), (14, .aload_n 0, 1), (15, .iconst 1, 1), (16, .invokevirtual 53, 3), (19, .ireturn, 1), (20, .iload_n 1, 1), (21, .iload_n 2, 1), (22, .invokestatic 71, 3), (25, .ifCond .ne 9, 3), (28, .aload_n 0, 1), (29, .iconst 2, 1), (30, .invokevirtual 53, 3), (33, .ireturn, 1), (34, .aload_n 0, 1), (35, .invokevirtual 61, 3), (38, .aload_n 0, 1), (39, .getfield 7, 3), (42, .sipush 808, 3), (45, .iload_n 1, 1), (46, .iadd, 1), (47, .iaload, 1), (48, .istore_n 3, 1), (49, .aload_n 0, 1), (50, .getfield 7, 3), (53, .sipush 808, 3), (56, .iload_n 1, 1), (57, .iadd, 1), (58, .iload_n 2, 1), (59, .iastore, 1), (60, .iload_n 3, 1), (61, .ireturn, 1)]
set_option maxRecDepth 20000 in
theorem DX7_set : Lst YX7_set LX7_set := by unfold Lst; decide +kernel
def LX7_draw : LI := [(0, .ldc2_w 74, 3), (3, .aload_n 0, 1), (4, .getfield 7, 3), (7, .sipush 807, 3), (10, .iaload, 1), (11, .i2l, 1), (12, .lmul, 1), (13, .ldc2_w 76, 3), (16, .ladd, 1), (17, .ldc2_w 78, 3), (20, .lrem, 1), (21, .lstore_n 2, 1), (22, .aload_n 0, 1), (23, .getfield 7, 3), (26, .sipush 807, 3), (29, .lload_n 2, 1), (30, .l2i, 1), (31, .iastore, 1), (32, .aload_n 0, 1), (33, .getfield 7, 3), (36, .sipush 807, 3), (39, .iaload, 1), (40, .ldc 80, 2), (42, .idiv, 1), (43, .iload_n 1, 1), (44, .irem, 1), (45, .ireturn, 1)]
set_option maxRecDepth 20000 in
theorem DX7_draw : Lst YX7_draw LX7_draw := by unfold Lst; decide +kernel
def LX7_amplitude : LI := [(0, .iload_n 0, 1), (1, .ifCond .ne 7, 3), (4, .iconst 0, 1), (5, .goto 18, 3), (8, .iconst 2, 1), (9, .iload_n 1, 1), (10, .imul, 1), (11, .iconst 1, 1), (12, .iadd, 1), (13, .iconst 1, 1), (14, .iload_n 0, 1), (15, .ishl, 1), (16, .isub, 1), (17, .sipush 256, 3), (20, .iload_n 0, 1), (21, .ishr, 1), (22, .imul, 1), (23, .ireturn, 1)]
set_option maxRecDepth 20000 in
theorem DX7_amplitude : Lst YX7_amplitude LX7_amplitude := by unfold Lst; decide +kernel
def LX7_hear : LI := [(0, .aload_n 0, 1), (1, .iload_n 1, 1), (2, .iload_n 2, 1), (3, .invokevirtual 64, 3), (6, .istore 4, 2), (8, .aload_n 0, 1), (9, .getfield 7, 3), (12, .iload 4, 2), (14, .iconst 0, 1), (15, .iadd, 1), (16, .iaload, 1), (17, .iload_n 3, 1), (18, .imul, 1), (19, .aload_n 0, 1), (20, .getfield 7, 3), (23, .iload 4, 2), (25, .iconst 1, 1), (26, .iadd, 1), (27, .iaload, 1), (28, .aload_n 0, 1), (29, .getfield 7, 3), (32, .iload 4, 2), (34, .iconst 5, 1), (35, .iadd, 1), (36, .iaload, 1), (37, .imul, 1), (38, .iadd, 1), (39, .aload_n 0, 1), (40, .getfield 7, 3), (43, .iload 4, 2), (45, .iconst 2, 1), (46, .iadd, 1), (47, .iaload, 1), (48, .aload_n 0, 1), (49, .getfield 7, 3), (52, .iload 4, 2), (54, .bipush 6, 2), (56, .iadd, 1), (57, .iaload, 1), (58, .imul, 1), (59, .iadd, 1), (60, .bipush 64, 2), (62, .idiv, 1), (63, .istore 5, 2), (65, .iload 5, 2), (67, .aload_n 0, 1), (68, .iconst 2, 1), (69, .aload_n 0, 1), (70, .getfield 7, 3), (73, .iload 4, 2), (75, .iconst 3, 1), (76, .iadd, 1), (77, .iaload, 1), (78, .imul, 1), (79, .iconst 1, 1), (80, .iadd, 1), (81, .invokevirtual 81, 3), (84, .aload_n 0, 1), (85, .getfield 7, 3), (88, .iload 4, 2), (90, .iconst 3, 1), (91, .iadd, 1), (92, .iaload, 1), (93, .isub, 1), (94, .iadd, 1), (95, .istore 5, 2), (97, .iload 5, 2), (99, .aload_n 0, 1), (100, .getfield 7, 3), (103, .iload 4, 2), (105, .iconst 4, 1), (106, .iadd, 1), (107, .iaload, 1), (108, .iadd, 1), (109, .istore 5, 2), (111, .aload_n 0, 1), (112, .getfield 7, 3), (115, .iload 4, 2), (117, .iconst 4, 1), (118, .iadd, 1), (119, .iconst 0, 1), (120, .iastore, 1), (121, .aload_n 0, 1), (122, .getfield 7, 3), (125, .iload 4, 2), (127, .bipush 6, 2), (129, .iadd, 1), (130, .aload_n 0, 1), (131, .getfield 7, 3), (134, .iload 4, 2), (136, .iconst 5, 1), (137, .iadd, 1), (138, .iaload, 1), (139, .iastore, 1), (140, .aload_n 0, 1), (141, .getfield 7, 3), (144, .iload 4, 2), (146, .iconst 5, 1), (147, .iadd, 1), (148, .iload_n 3, 1), (149, .iastore, 1), (150, .iload 5, 2), (152, .ireturn, 1)]
set_option maxRecDepth 20000 in
theorem DX7_hear : Lst YX7_hear LX7_hear := by unfold Lst; decide +kernel
def LX7_held : LI := [(0, .iload_n 0, 1), (1, .iload_n 1, 1), (2, .if_icmp .ge 7, 3), (5, .iload_n 1, 1), (6, .goto 13, 3), (9, .iload_n 0, 1), (10, .iload_n 2, 1), (11, .if_icmp .le 7, 3), (14, .iload_n 2, 1), (15, .goto 4, 3), (18, .iload_n 0, 1), (19, .ireturn, 1)]
set_option maxRecDepth 20000 in
theorem DX7_held : Lst YX7_held LX7_held := by unfold Lst; decide +kernel
def LX7_learnTone_0 : LI := [(0, .aload_n 0, 1), (1, .iload_n 1, 1), (2, .iload_n 2, 1), (3, .invokevirtual 64, 3), (6, .istore 4, 2), (8, .aload_n 0, 1), (9, .iload_n 1, 1), (10, .iload_n 2, 1), (11, .invokevirtual 68, 3), (14, .istore 5, 2), (16, .aload_n 0, 1), (17, .iconst 2, 1), (18, .invokevirtual 81, 3), (21, .iconst 1, 1), (22, .if_icmp .ne 9, 3), (25, .sipush 128, 3), (28, .goto 5, 3), (31, .bipush (-128), 2), (33, .istore 6, 2), (35, .aload_n 0, 1), (36, .getfield 7, 3), (39, .iload 4, 2), (41, .iconst 5, 1), (42, .iadd, 1), (43, .iaload, 1), (44, .istore 7, 2), (46, .aload_n 0, 1), (47, .getfield 7, 3), (50, .iload 4, 2), (52, .bipush 6, 2), (54, .iadd, 1), (55, .iaload, 1), (56, .istore 8, 2), (58, .aload_n 0, 1), (59, .iload_n 1, 1), (60, .iload_n 2, 1), (61, .iload 6, 2), (63, .invokevirtual 84, 3), (66, .istore 9, 2), (68, .iload 9, 2), (70, .aload_n 0, 1), (71, .getfield 7, 3), (74, .iload 5, 2), (76, .iconst 0, 1), (77, .iadd, 1), (78, .iaload, 1), (79, .iload 6, 2), (81, .imul, 1), (82, .aload_n 0, 1), (83, .getfield 7, 3), (86, .iload 5, 2), (88, .iconst 1, 1), (89, .iadd, 1), (90, .iaload, 1), (91, .iload 7, 2), (93, .imul, 1), (94, .iadd, 1), (95, .aload_n 0, 1), (96, .getfield 7, 3), (99, .iload 5, 2), (101, .iconst 2, 1), (102, .iadd, 1), (103, .iaload, 1), (104, .iload 8, 2), (106, .imul, 1), (107, .iadd, 1), (108, .bipush 64, 2), (110, .idiv, 1), (111, .isub, 1), (112, .istore 10, 2), (114, .sipush 128, 3), (117, .aload_n 0, 1), (118, .getfield 7, 3), (121, .sipush 808, 3), (124, .iaload, 1), (125, .imul, 1), (126, .istore 11, 2), (128, .aload_n 0, 1), (129, .getfield 7, 3), (132, .iload 5, 2), (134, .iconst 0, 1), (135, .iadd, 1), (136, .aload_n 0, 1), (137, .getfield 7, 3), (140, .iload 5, 2), (142, .iconst 0, 1), (143, .iadd, 1), (144, .iaload, 1), (145, .iload 10, 2), (147, .iload 6, 2), (149, .imul, 1), (150, .iload 11, 2), (152, .idiv, 1), (153, .iadd, 1), (154, .bipush 8, 2), (156, .sipush 128, 3), (159, .invokestatic 88, 3), (162, .iastore, 1), (163, .aload_n 0, 1), (164, .getfield 7, 3), (167, .iload 5, 2), (169, .iconst 1, 1), (170, .iadd, 1), (171, .aload_n 0, 1), (172, .getfield 7, 3), (175, .iload 5, 2), (177, .iconst 1, 1), (178, .iadd, 1), (179, .iaload, 1), (180, .iload 10, 2), (182, .iload 7, 2), (184, .imul, 1), (185, .iload 11, 2), (187, .idiv, 1), (188, .iadd, 1), (189, .bipush (-48), 2), (191, .bipush 48, 2), (193, .invokestatic 88, 3), (196, .iastore, 1), (197, .aload_n 0, 1)]
set_option maxRecDepth 20000 in
theorem DX7_learnTone_0 : Lst YX7_learnTone LX7_learnTone_0 := by unfold Lst; decide +kernel
def LX7_learnTone_1 : LI := [(198, .getfield 7, 3), (201, .iload 5, 2), (203, .iconst 2, 1), (204, .iadd, 1), (205, .aload_n 0, 1), (206, .getfield 7, 3), (209, .iload 5, 2), (211, .iconst 2, 1), (212, .iadd, 1), (213, .iaload, 1), (214, .iload 10, 2), (216, .iload 8, 2), (218, .imul, 1), (219, .iload 11, 2), (221, .idiv, 1), (222, .iadd, 1), (223, .bipush (-48), 2), (225, .bipush 48, 2), (227, .invokestatic 88, 3), (230, .iastore, 1), (231, .aload_n 0, 1), (232, .getfield 7, 3), (235, .iload 5, 2), (237, .bipush 9, 2), (239, .iadd, 1), (240, .aload_n 0, 1), (241, .getfield 7, 3), (244, .iload 4, 2), (246, .iconst 5, 1), (247, .iadd, 1), (248, .iaload, 1), (249, .iastore, 1), (250, .aload_n 0, 1), (251, .getfield 7, 3), (254, .iload 5, 2), (256, .bipush 10, 2), (258, .iadd, 1), (259, .aload_n 0, 1), (260, .getfield 7, 3), (263, .iload 4, 2), (265, .bipush 6, 2), (267, .iadd, 1), (268, .iaload, 1), (269, .iastore, 1), (270, .aload_n 0, 1), (271, .getfield 32, 3), (274, .bipush 8, 2), (276, .iload_n 2, 1), (277, .imul, 1), (278, .iload_n 3, 1), (279, .bipush 8, 2), (281, .irem, 1), (282, .iadd, 1), (283, .iload 10, 2), (285, .invokestatic 91, 3), (288, .iastore, 1), (289, .return_, 1)]
set_option maxRecDepth 20000 in
theorem DX7_learnTone_1 : Lst YX7_learnTone LX7_learnTone_1 := by unfold Lst; decide +kernel
def LX7_learnBeat : LI := [(0, .iconst 0, 1), (1, .istore_n 3, 1), (2, .iload_n 3, 1), (3, .bipush 8, 2), (5, .if_icmp .ge 16, 3), (8, .aload_n 0, 1), (9, .iload_n 1, 1), (10, .iload_n 3, 1), (11, .iload_n 2, 1), (12, .invokevirtual 94, 3), (15, .iinc 3 1, 3), (18, .goto (-16), 3), (21, .return_, 1)]
set_option maxRecDepth 20000 in
theorem DX7_learnBeat : Lst YX7_learnBeat LX7_learnBeat := by unfold Lst; decide +kernel
def LX7_worstOf : LI := [(0, .iconst 0, 1), (1, .istore_n 3, 1), (2, .iconst 0, 1), (3, .istore 4, 2), (5, .iload 4, 2), (7, .bipush 8, 2), (9, .if_icmp .ge 48, 3), (12, .iload 4, 2), (14, .iload_n 2, 1), (15, .if_icmp .ge 42, 3), (18, .aload_n 0, 1), (19, .getfield 32, 3), (22, .bipush 8, 2), (24, .iload_n 1, 1), (25, .imul, 1), (26, .iload 4, 2), (28, .iadd, 1), (29, .iaload, 1), (30, .iload_n 3, 1), (31, .if_icmp .le 18, 3), (34, .aload_n 0, 1), (35, .getfield 32, 3), (38, .bipush 8, 2), (40, .iload_n 1, 1), (41, .imul, 1), (42, .iload 4, 2), (44, .iadd, 1), (45, .iaload, 1), (46, .goto 4, 3), (49, .iload_n 3, 1), (50, .istore_n 3, 1), (51, .iinc 4 1, 3), (54, .goto (-49), 3), (57, .iload_n 3, 1), (58, .ireturn, 1)]
set_option maxRecDepth 20000 in
theorem DX7_worstOf : Lst YX7_worstOf LX7_worstOf := by unfold Lst; decide +kernel
def LX7_bitsBy : LI := [(0, .iconst 4, 1), (1, .istore_n 3, 1), (2, .iload_n 3, 1), (3, .ifCond .le 34, 3), (6, .iload_n 1, 1), (7, .aload_n 0, 1), (8, .getfield 7, 3), (11, .sipush 809, 3), (14, .iaload, 1), (15, .imul, 1), (16, .iconst 4, 1), (17, .idiv, 1), (18, .sipush 256, 3), (21, .iload_n 3, 1), (22, .ishr, 1), (23, .iload_n 2, 1), (24, .imul, 1), (25, .bipush 64, 2), (27, .idiv, 1), (28, .if_icmp .lt 9, 3), (31, .iinc 3 (-1), 3), (34, .goto (-32), 3), (37, .iload_n 3, 1), (38, .ireturn, 1)]
set_option maxRecDepth 20000 in
theorem DX7_bitsBy : Lst YX7_bitsBy LX7_bitsBy := by unfold Lst; decide +kernel
def LX7_lessonBits : LI := [(0, .iconst 0, 1), (1, .istore_n 3, 1), (2, .iconst 0, 1), (3, .istore 4, 2), (5, .iload 4, 2), (7, .bipush 8, 2), (9, .if_icmp .ge 37, 3), (12, .iload_n 3, 1), (13, .aload_n 0, 1), (14, .aload_n 0, 1), (15, .iload 4, 2), (17, .iload_n 2, 1), (18, .invokevirtual 98, 3), (21, .aload_n 0, 1), (22, .getfield 7, 3), (25, .aload_n 0, 1), (26, .iload_n 1, 1), (27, .iload 4, 2), (29, .invokevirtual 68, 3), (32, .iconst 0, 1), (33, .iadd, 1), (34, .iaload, 1), (35, .invokevirtual 101, 3), (38, .iadd, 1), (39, .istore_n 3, 1), (40, .iinc 4 1, 3), (43, .goto (-38), 3), (46, .iload_n 3, 1), (47, .ireturn, 1)]
set_option maxRecDepth 20000 in
theorem DX7_lessonBits : Lst YX7_lessonBits LX7_lessonBits := by unfold Lst; decide +kernel
def LX7_carried : LI := [(0, .iconst 0, 1), (1, .istore_n 2, 1), (2, .iconst 0, 1), (3, .istore_n 3, 1), (4, .iload_n 3, 1), (5, .bipush 8, 2), (7, .if_icmp .ge 25, 3), (10, .iload_n 2, 1), (11, .aload_n 0, 1), (12, .getfield 7, 3), (15, .aload_n 0, 1), (16, .iload_n 1, 1), (17, .iload_n 3, 1), (18, .invokevirtual 68, 3), (21, .iconst 3, 1), (22, .iadd, 1), (23, .iaload, 1), (24, .iadd, 1), (25, .istore_n 2, 1), (26, .iinc 3 1, 3), (29, .goto (-25), 3), (32, .iload_n 2, 1), (33, .ireturn, 1)]
set_option maxRecDepth 20000 in
theorem DX7_carried : Lst YX7_carried LX7_carried := by unfold Lst; decide +kernel
def LX7_learnAll : LI := [(0, .iconst 0, 1), (1, .istore_n 3, 1), (2, .iload_n 3, 1), (3, .iload_n 2, 1), (4, .if_icmp .ge 15, 3), (7, .aload_n 0, 1), (8, .iload_n 1, 1), (9, .iload_n 3, 1), (10, .invokevirtual 104, 3), (13, .iinc 3 1, 3), (16, .goto (-14), 3), (19, .iconst 0, 1), (20, .istore_n 3, 1), (21, .iload_n 3, 1), (22, .bipush 8, 2), (24, .if_icmp .ge 73, 3), (27, .aload_n 0, 1), (28, .iload_n 1, 1), (29, .iload_n 3, 1), (30, .invokevirtual 68, 3), (33, .istore 4, 2), (35, .aload_n 0, 1), (36, .getfield 7, 3), (39, .iload 4, 2), (41, .iconst 4, 1), (42, .iadd, 1), (43, .aload_n 0, 1), (44, .iload_n 3, 1), (45, .iload_n 2, 1), (46, .invokevirtual 98, 3), (49, .iastore, 1), (50, .aload_n 0, 1), (51, .getfield 7, 3), (54, .iload 4, 2), (56, .iconst 3, 1), (57, .iadd, 1), (58, .aload_n 0, 1), (59, .aload_n 0, 1), (60, .getfield 7, 3), (63, .iload 4, 2), (65, .iconst 4, 1), (66, .iadd, 1), (67, .iaload, 1), (68, .aload_n 0, 1), (69, .getfield 7, 3), (72, .iload 4, 2), (74, .iconst 0, 1), (75, .iadd, 1), (76, .iaload, 1), (77, .invokevirtual 101, 3), (80, .iastore, 1), (81, .aload_n 0, 1), (82, .getfield 7, 3), (85, .iload 4, 2), (87, .iconst 5, 1), (88, .iadd, 1), (89, .iconst 0, 1), (90, .iastore, 1), (91, .iinc 3 1, 3), (94, .goto (-73), 3), (97, .aload_n 0, 1), (98, .getfield 7, 3), (101, .sipush 806, 3), (104, .dup2, 1), (105, .iaload, 1), (106, .iload_n 2, 1), (107, .iadd, 1), (108, .iastore, 1), (109, .aload_n 0, 1), (110, .iload_n 1, 1), (111, .invokevirtual 108, 3), (114, .ireturn, 1)]
set_option maxRecDepth 20000 in
theorem DX7_learnAll : Lst YX7_learnAll LX7_learnAll := by unfold Lst; decide +kernel
def LX7_mayBeat : LI := [(0, .iload_n 1, 1), (1, .invokestatic 46, 3), (4, .ifCond .ne 11, 3), (7, .aload_n 0, 1), (8, .iconst 1, 1), (9, .putfield 35, 3), (12, .goto 42, 3), (15, .iload_n 2, 1), (16, .iconst 1, 1), (17, .bipush 100, 2), (19, .invokestatic 39, 3), (22, .ifCond .ne 11, 3), (25, .aload_n 0, 1), (26, .iconst 2, 1), (27, .putfield 35, 3), (30, .goto 24, 3), (33, .aload_n 0, 1), (34, .getfield 7, 3), (37, .sipush 806, 3), (40, .iaload, 1), (41, .iload_n 2, 1), (42, .iadd, 1), (43, .sipush 5000, 3), (46, .if_icmp .le 8, 3), (49, .aload_n 0, 1), (50, .iconst 3, 1), (51, .putfield 35, 3), (54, .aload_n 0, 1), (55, .getfield 35, 3), (58, .ifCond .ne 7, 3), (61, .iconst 1, 1), (62, .goto 4, 3), (65, .iconst 0, 1), (66, .ireturn, 1)]
set_option maxRecDepth 20000 in
theorem DX7_mayBeat : Lst YX7_mayBeat LX7_mayBeat := by unfold Lst; decide +kernel
def LX7_learn : LI := [(0, .aload_n 0, 1), (1, .iconst 0, 1), (2, .putfield 35, 3), (5, .aload_n 0, 1), (6, .iload_n 1, 1), (7, .iload_n 2, 1), (8, .invokevirtual 111, 3), (11, .ifCond .ne 5, 3), (14, .iconst 0, 1), (15, .ireturn, 1), (16, .aload_n 0, 1), (17, .invokevirtual 61, 3), (20, .aload_n 0, 1), (21, .iload_n 1, 1), (22, .iload_n 2, 1), (23, .invokevirtual 114, 3), (26, .ireturn, 1)]
set_option maxRecDepth 20000 in
theorem DX7_learn : Lst YX7_learn LX7_learn := by unfold Lst; decide +kernel
def LX7_takeBit : LI := [(0, .sipush 288, 3), (3, .sipush 256, 3), (6, .iload_n 1, 1), (7, .imul, 1), (8, .iadd, 1), (9, .istore_n 2, 1), (10, .aload_n 0, 1), (11, .getfield 7, 3), (14, .sipush 800, 3), (17, .iload_n 1, 1), (18, .iadd, 1), (19, .iaload, 1), (20, .istore_n 3, 1), (21, .iload_n 3, 1), (22, .ifCond .ne 5, 3), (25, .iconst 0, 1), (26, .ireturn, 1), (27, .aload_n 0, 1), (28, .getfield 7, 3), (31, .iload_n 2, 1), (32, .iaload, 1), (33, .istore 4, 2), (35, .iconst 1, 1), (36, .istore 5, 2), (38, .iload 5, 2), (40, .iload_n 3, 1), (41, .if_icmp .ge 29, 3), (44, .aload_n 0, 1), (45, .getfield 7, 3), (48, .iload_n 2, 1), (49, .iload 5, 2), (51, .iadd, 1), (52, .iconst 1, 1), (53, .isub, 1), (54, .aload_n 0, 1), (55, .getfield 7, 3), (58, .iload_n 2, 1), (59, .iload 5, 2), (61, .iadd, 1), (62, .iaload, 1), (63, .iastore, 1), (64, .iinc 5 1, 3), (67, .goto (-29), 3), (70, .aload_n 0, 1), (71, .getfield 7, 3), (74, .sipush 800, 3), (77, .iload_n 1, 1), (78, .iadd, 1), (79, .iload_n 3, 1), (80, .iconst 1, 1), (81, .isub, 1), (82, .iastore, 1), (83, .iload 4, 2), (85, .ireturn, 1)]
set_option maxRecDepth 20000 in
theorem DX7_takeBit : Lst YX7_takeBit LX7_takeBit := by unfold Lst; decide +kernel
def LX7_decide : LI := [(0, .aload_n 0, 1), (1, .iload_n 1, 1), (2, .iload_n 2, 1), (3, .invokevirtual 68, 3), (6, .istore 4, 2), (8, .aload_n 0, 1), (9, .getfield 7, 3), (12, .iload 4, 2), (14, .iconst 3, 1), (15, .iadd, 1), (16, .iaload, 1), (17, .istore 5, 2), (19, .iload_n 3, 1), (20, .aload_n 0, 1), (21, .getfield 7, 3), (24, .iload 4, 2), (26, .iconst 1, 1), (27, .iadd, 1), (28, .iaload, 1), (29, .aload_n 0, 1), (30, .getfield 7, 3), (33, .iload 4, 2), (35, .bipush 9, 2), (37, .iadd, 1), (38, .iaload, 1), (39, .imul, 1), (40, .aload_n 0, 1), (41, .getfield 7, 3), (44, .iload 4, 2), (46, .iconst 2, 1), (47, .iadd, 1), (48, .iaload, 1), (49, .aload_n 0, 1), (50, .getfield 7, 3), (53, .iload 4, 2), (55, .bipush 10, 2), (57, .iadd, 1), (58, .iaload, 1), (59, .imul, 1), (60, .iadd, 1), (61, .bipush 64, 2), (63, .idiv, 1), (64, .isub, 1), (65, .istore 6, 2), (67, .iload 6, 2), (69, .bipush 64, 2), (71, .imul, 1), (72, .aload_n 0, 1), (73, .getfield 7, 3), (76, .iload 4, 2), (78, .iconst 0, 1), (79, .iadd, 1), (80, .iaload, 1), (81, .idiv, 1), (82, .istore 7, 2), (84, .iconst 0, 1), (85, .istore 8, 2), (87, .iconst 1, 1), (88, .istore 9, 2), (90, .iload 9, 2), (92, .iconst 1, 1), (93, .iload 5, 2), (95, .ishl, 1), (96, .if_icmp .ge 47, 3), (99, .iload 5, 2), (101, .iload 9, 2), (103, .invokestatic 117, 3), (106, .iload 7, 2), (108, .isub, 1), (109, .invokestatic 91, 3), (112, .iload 5, 2), (114, .iload 8, 2), (116, .invokestatic 117, 3), (119, .iload 7, 2), (121, .isub, 1), (122, .invokestatic 91, 3), (125, .if_icmp .ge 8, 3), (128, .iload 9, 2), (130, .goto 5, 3), (133, .iload 8, 2), (135, .istore 8, 2), (137, .iinc 9 1, 3), (140, .goto (-50), 3), (143, .iload 8, 2), (145, .ireturn, 1)]
set_option maxRecDepth 20000 in
theorem DX7_decide : Lst YX7_decide LX7_decide := by unfold Lst; decide +kernel
def LX7_ones : LI := [(0, .iconst 0, 1), (1, .istore_n 1, 1), (2, .iconst 0, 1), (3, .istore_n 2, 1), (4, .iload_n 2, 1), (5, .iconst 4, 1), (6, .if_icmp .ge 17, 3), (9, .iload_n 1, 1), (10, .iload_n 0, 1), (11, .iload_n 2, 1), (12, .ishr, 1), (13, .iconst 1, 1), (14, .iand, 1), (15, .iadd, 1), (16, .istore_n 1, 1), (17, .iinc 2 1, 3), (20, .goto (-16), 3), (23, .iload_n 1, 1), (24, .ireturn, 1)]
set_option maxRecDepth 20000 in
theorem DX7_ones : Lst YX7_ones LX7_ones := by unfold Lst; decide +kernel
def LX7_sendTone_0 : LI := [(0, .aload_n 0, 1), (1, .iload_n 1, 1), (2, .iload_n 2, 1), (3, .invokevirtual 68, 3), (6, .istore_n 3, 1), (7, .aload_n 0, 1), (8, .getfield 7, 3), (11, .iload_n 3, 1), (12, .iconst 3, 1), (13, .iadd, 1), (14, .iaload, 1), (15, .istore 4, 2), (17, .iconst 0, 1), (18, .istore 5, 2), (20, .iconst 0, 1), (21, .istore 6, 2), (23, .iload 6, 2), (25, .iload 4, 2), (27, .if_icmp .ge 21, 3), (30, .iconst 2, 1), (31, .iload 5, 2), (33, .imul, 1), (34, .aload_n 0, 1), (35, .iload_n 1, 1), (36, .invokevirtual 120, 3), (39, .iadd, 1), (40, .istore 5, 2), (42, .iinc 6 1, 3), (45, .goto (-22), 3), (48, .aload_n 0, 1), (49, .iload_n 1, 1), (50, .iload_n 2, 1), (51, .iload 4, 2), (53, .iload 5, 2), (55, .invokestatic 117, 3), (58, .invokevirtual 84, 3), (61, .istore 6, 2), (63, .aload_n 0, 1), (64, .iload_n 1, 1), (65, .iload_n 2, 1), (66, .iload 6, 2), (68, .invokevirtual 123, 3), (71, .istore 7, 2), (73, .iload 5, 2), (75, .iload 7, 2), (77, .ixor, 1), (78, .invokestatic 126, 3), (81, .istore 8, 2), (83, .aload_n 0, 1), (84, .getfield 7, 3), (87, .iload_n 3, 1), (88, .bipush 10, 2), (90, .iadd, 1), (91, .aload_n 0, 1), (92, .getfield 7, 3), (95, .iload_n 3, 1), (96, .bipush 9, 2), (98, .iadd, 1), (99, .iaload, 1), (100, .iastore, 1), (101, .aload_n 0, 1), (102, .getfield 7, 3), (105, .iload_n 3, 1), (106, .bipush 9, 2), (108, .iadd, 1), (109, .iload 4, 2), (111, .iload 7, 2), (113, .invokestatic 117, 3), (116, .iastore, 1), (117, .aload_n 0, 1), (118, .getfield 7, 3), (121, .iload_n 3, 1), (122, .bipush 7, 2), (124, .iadd, 1), (125, .dup2, 1), (126, .iaload, 1), (127, .iload 4, 2), (129, .ifCond .le 7, 3), (132, .iconst 1, 1), (133, .goto 4, 3), (136, .iconst 0, 1), (137, .iadd, 1), (138, .iastore, 1), (139, .aload_n 0, 1), (140, .getfield 7, 3), (143, .iload_n 3, 1), (144, .bipush 8, 2), (146, .iadd, 1), (147, .dup2, 1), (148, .iaload, 1), (149, .iload 8, 2), (151, .ifCond .le 7, 3), (154, .iconst 1, 1), (155, .goto 4, 3), (158, .iconst 0, 1), (159, .iadd, 1), (160, .iastore, 1), (161, .aload_n 0, 1), (162, .getfield 7, 3), (165, .iload_n 3, 1), (166, .iconst 5, 1), (167, .iadd, 1), (168, .dup2, 1), (169, .iaload, 1), (170, .iload 8, 2), (172, .ifCond .le 7, 3), (175, .iconst 1, 1), (176, .goto 4, 3), (179, .iconst 0, 1), (180, .iadd, 1), (181, .iastore, 1), (182, .aload_n 0, 1), (183, .getfield 7, 3), (186, .sipush 802, 3), (189, .iload_n 1, 1), (190, .iadd, 1), (191, .dup2, 1), (192, .iaload, 1), (193, .iload 4, 2), (195, .iadd, 1)]
set_option maxRecDepth 20000 in
theorem DX7_sendTone_0 : Lst YX7_sendTone LX7_sendTone_0 := by unfold Lst; decide +kernel
def LX7_sendTone_1 : LI := [(196, .iastore, 1), (197, .aload_n 0, 1), (198, .getfield 7, 3), (201, .sipush 804, 3), (204, .iload_n 1, 1), (205, .iadd, 1), (206, .dup2, 1), (207, .iaload, 1), (208, .iload 8, 2), (210, .iadd, 1), (211, .iastore, 1), (212, .aload_n 0, 1), (213, .getfield 19, 3), (216, .iload_n 1, 1), (217, .aload_n 0, 1), (218, .getfield 19, 3), (221, .iload_n 1, 1), (222, .laload, 1), (223, .iload 4, 2), (225, .lshl, 1), (226, .iload 7, 2), (228, .i2l, 1), (229, .lor, 1), (230, .ldc2_w 129, 3), (233, .land, 1), (234, .lastore, 1), (235, .iload 8, 2), (237, .ireturn, 1)]
set_option maxRecDepth 20000 in
theorem DX7_sendTone_1 : Lst YX7_sendTone LX7_sendTone_1 := by unfold Lst; decide +kernel
def LX7_sendBeat : LI := [(0, .iconst 0, 1), (1, .istore_n 2, 1), (2, .iconst 0, 1), (3, .istore_n 3, 1), (4, .iload_n 3, 1), (5, .bipush 8, 2), (7, .if_icmp .ge 18, 3), (10, .iload_n 2, 1), (11, .aload_n 0, 1), (12, .iload_n 1, 1), (13, .iload_n 3, 1), (14, .invokevirtual 131, 3), (17, .iadd, 1), (18, .istore_n 2, 1), (19, .iinc 3 1, 3), (22, .goto (-18), 3), (25, .iconst 0, 1), (26, .istore_n 3, 1), (27, .iload_n 3, 1), (28, .bipush 8, 2), (30, .if_icmp .ge 86, 3), (33, .aload_n 0, 1), (34, .iload_n 1, 1), (35, .iload_n 3, 1), (36, .invokevirtual 68, 3), (39, .istore 4, 2), (41, .aload_n 0, 1), (42, .getfield 7, 3), (45, .iload 4, 2), (47, .iconst 3, 1), (48, .iadd, 1), (49, .iaload, 1), (50, .ifCond .le 60, 3), (53, .aload_n 0, 1), (54, .getfield 7, 3), (57, .iload 4, 2), (59, .iconst 5, 1), (60, .iadd, 1), (61, .iaload, 1), (62, .aload_n 0, 1), (63, .getfield 7, 3), (66, .sipush 810, 3), (69, .iaload, 1), (70, .if_icmp .lt 40, 3), (73, .aload_n 0, 1), (74, .getfield 7, 3), (77, .iload 4, 2), (79, .iconst 3, 1), (80, .iadd, 1), (81, .dup2, 1), (82, .iaload, 1), (83, .iconst 1, 1), (84, .isub, 1), (85, .iastore, 1), (86, .aload_n 0, 1), (87, .getfield 7, 3), (90, .iload 4, 2), (92, .iconst 5, 1), (93, .iadd, 1), (94, .iconst 0, 1), (95, .iastore, 1), (96, .aload_n 0, 1), (97, .getfield 7, 3), (100, .iload 4, 2), (102, .bipush 6, 2), (104, .iadd, 1), (105, .dup2, 1), (106, .iaload, 1), (107, .iconst 1, 1), (108, .iadd, 1), (109, .iastore, 1), (110, .iinc 3 1, 3), (113, .goto (-86), 3), (116, .aload_n 0, 1), (117, .getfield 7, 3), (120, .sipush 806, 3), (123, .dup2, 1), (124, .iaload, 1), (125, .iconst 1, 1), (126, .iadd, 1), (127, .iastore, 1), (128, .iload_n 2, 1), (129, .ireturn, 1)]
set_option maxRecDepth 20000 in
theorem DX7_sendBeat : Lst YX7_sendBeat LX7_sendBeat := by unfold Lst; decide +kernel
def LX7_sendAll : LI := [(0, .iconst 0, 1), (1, .istore_n 3, 1), (2, .iconst 0, 1), (3, .istore 4, 2), (5, .iload 4, 2), (7, .iload_n 2, 1), (8, .if_icmp .ge 17, 3), (11, .iload_n 3, 1), (12, .aload_n 0, 1), (13, .iload_n 1, 1), (14, .invokevirtual 134, 3), (17, .iadd, 1), (18, .istore_n 3, 1), (19, .iinc 4 1, 3), (22, .goto (-17), 3), (25, .iload_n 3, 1), (26, .ireturn, 1)]
set_option maxRecDepth 20000 in
theorem DX7_sendAll : Lst YX7_sendAll LX7_sendAll := by unfold Lst; decide +kernel
def LX7_send : LI := [(0, .aload_n 0, 1), (1, .iconst 0, 1), (2, .putfield 35, 3), (5, .aload_n 0, 1), (6, .iload_n 1, 1), (7, .iload_n 2, 1), (8, .invokevirtual 111, 3), (11, .ifCond .ne 5, 3), (14, .iconst 0, 1), (15, .ireturn, 1), (16, .aload_n 0, 1), (17, .invokevirtual 61, 3), (20, .aload_n 0, 1), (21, .iload_n 1, 1), (22, .iload_n 2, 1), (23, .invokevirtual 137, 3), (26, .ireturn, 1)]
set_option maxRecDepth 20000 in
theorem DX7_send : Lst YX7_send LX7_send := by unfold Lst; decide +kernel
def LX7_forget : LI := [(0, .aload_n 0, 1), (1, .iconst 0, 1), (2, .putfield 35, 3), (5, .iload_n 1, 1), (6, .invokestatic 46, 3), (9, .ifCond .ne 9, 3), (12, .aload_n 0, 1), (13, .iconst 1, 1), (14, .invokevirtual 53, 3), (17, .ireturn, 1), (18, .aload_n 0, 1), (19, .invokevirtual 61, 3), (22, .aload_n 0, 1), (23, .iload_n 1, 1), (24, .invokevirtual 108, 3), (27, .istore_n 2, 1), (28, .iconst 0, 1), (29, .istore_n 3, 1), (30, .iload_n 3, 1), (31, .bipush 8, 2), (33, .if_icmp .ge 78, 3), (36, .aload_n 0, 1), (37, .iload_n 1, 1), (38, .iload_n 3, 1), (39, .invokevirtual 68, 3), (42, .istore 4, 2), (44, .aload_n 0, 1), (45, .getfield 7, 3), (48, .iload 4, 2), (50, .iconst 0, 1), (51, .iadd, 1), (52, .bipush 64, 2), (54, .iastore, 1), (55, .aload_n 0, 1), (56, .getfield 7, 3), (59, .iload 4, 2), (61, .iconst 1, 1), (62, .iadd, 1), (63, .iconst 0, 1), (64, .iastore, 1), (65, .aload_n 0, 1), (66, .getfield 7, 3), (69, .iload 4, 2), (71, .iconst 2, 1), (72, .iadd, 1), (73, .iconst 0, 1), (74, .iastore, 1), (75, .aload_n 0, 1), (76, .getfield 7, 3), (79, .iload 4, 2), (81, .iconst 3, 1), (82, .iadd, 1), (83, .iconst 0, 1), (84, .iastore, 1), (85, .aload_n 0, 1), (86, .getfield 7, 3), (89, .iload 4, 2), (91, .iconst 4, 1), (92, .iadd, 1), (93, .iconst (-1), 1), (94, .iastore, 1), (95, .aload_n 0, 1), (96, .getfield 7, 3), (99, .iload 4, 2), (101, .iconst 5, 1), (102, .iadd, 1), (103, .iconst 0, 1), (104, .iastore, 1), (105, .iinc 3 1, 3), (108, .goto (-78), 3), (111, .iload_n 2, 1), (112, .ireturn, 1)]
set_option maxRecDepth 20000 in
theorem DX7_forget : Lst YX7_forget LX7_forget := by unfold Lst; decide +kernel
def LX7_append : LI := [(0, .aload_n 0, 1), (1, .iconst 0, 1), (2, .putfield 35, 3), (5, .iload_n 1, 1), (6, .bipush 33, 2), (8, .bipush 126, 2), (10, .invokestatic 39, 3), (13, .ifCond .ne 9, 3), (16, .aload_n 0, 1), (17, .iconst 1, 1), (18, .invokevirtual 53, 3), (21, .ireturn, 1), (22, .aload_n 0, 1), (23, .getfield 140, 3), (26, .bipush 60, 2), (28, .if_icmp .ne 9, 3), (31, .aload_n 0, 1), (32, .iconst 2, 1), (33, .invokevirtual 53, 3), (36, .ireturn, 1), (37, .aload_n 0, 1), (38, .getfield 29, 3), (41, .aload_n 0, 1), (42, .getfield 140, 3), (45, .iload_n 1, 1), (46, .iastore, 1), (47, .aload_n 0, 1), (48, .dup, 1), (49, .getfield 140, 3), (52, .iconst 1, 1), (53, .iadd, 1), (54, .putfield 140, 3), (57, .aload_n 0, 1), (58, .getfield 140, 3), (61, .ireturn, 1)]
set_option maxRecDepth 20000 in
theorem DX7_append : Lst YX7_append LX7_append := by unfold Lst; decide +kernel
def LX7_clearBuffer : LI := [(0, .aload_n 0, 1), (1, .iconst 0, 1), (2, .putfield 35, 3), (5, .aload_n 0, 1), (6, .getfield 140, 3), (9, .istore_n 1, 1), (10, .aload_n 0, 1), (11, .iconst 0, 1), (12, .putfield 140, 3), (15, .iload_n 1, 1), (16, .ireturn, 1)]
set_option maxRecDepth 20000 in
theorem DX7_clearBuffer : Lst YX7_clearBuffer LX7_clearBuffer := by unfold Lst; decide +kernel
def LX7_digit : LI := [(0, .iload_n 0, 1), (1, .bipush 48, 2), (3, .bipush 57, 2), (5, .invokestatic 39, 3), (8, .ifCond .eq 10, 3), (11, .iload_n 0, 1), (12, .bipush 48, 2), (14, .isub, 1), (15, .goto 25, 3), (18, .iload_n 0, 1), (19, .bipush 97, 2), (21, .bipush 102, 2), (23, .invokestatic 39, 3), (26, .ifCond .eq 13, 3), (29, .iload_n 0, 1), (30, .bipush 97, 2), (32, .isub, 1), (33, .bipush 10, 2), (35, .iadd, 1), (36, .goto 4, 3), (39, .iconst (-1), 1), (40, .ireturn, 1)]
set_option maxRecDepth 20000 in
theorem DX7_digit : Lst YX7_digit LX7_digit := by unfold Lst; decide +kernel
def LX7_nextState : LI := [(0, .iload_n 1, 1), (1, .ifCond .ne 21, 3), (4, .iload_n 2, 1), (5, .bipush 97, 2), (7, .if_icmp .eq 9, 3), (10, .iload_n 2, 1), (11, .bipush 98, 2), (13, .if_icmp .ne 7, 3), (16, .iconst 1, 1), (17, .goto 4, 3), (20, .iconst (-1), 1), (21, .ireturn, 1), (22, .iload_n 1, 1), (23, .iconst 1, 1), (24, .if_icmp .ne 15, 3), (27, .iload_n 2, 1), (28, .bipush 58, 2), (30, .if_icmp .ne 7, 3), (33, .iconst 2, 1), (34, .goto 4, 3), (37, .iconst (-1), 1), (38, .ireturn, 1), (39, .iload_n 2, 1), (40, .invokestatic 143, 3), (43, .iconst (-1), 1), (44, .if_icmp .eq 5, 3), (47, .iconst 3, 1), (48, .ireturn, 1), (49, .iload_n 1, 1), (50, .iconst 3, 1), (51, .if_icmp .ne 13, 3), (54, .iload_n 2, 1), (55, .bipush 59, 2), (57, .if_icmp .ne 7, 3), (60, .iconst 0, 1), (61, .goto 4, 3), (64, .iconst (-1), 1), (65, .ireturn, 1)]
set_option maxRecDepth 20000 in
theorem DX7_nextState : Lst YX7_nextState LX7_nextState := by unfold Lst; decide +kernel
def LX7_read : LI := [(0, .iconst 0, 1), (1, .istore_n 1, 1), (2, .iconst 0, 1), (3, .istore_n 2, 1), (4, .iconst 1, 1), (5, .istore_n 3, 1), (6, .iload_n 2, 1), (7, .aload_n 0, 1), (8, .getfield 140, 3), (11, .if_icmp .ge 58, 3), (14, .iload_n 3, 1), (15, .ifCond .eq 54, 3), (18, .aload_n 0, 1), (19, .iload_n 1, 1), (20, .aload_n 0, 1), (21, .getfield 29, 3), (24, .iload_n 2, 1), (25, .iaload, 1), (26, .invokevirtual 146, 3), (29, .istore 4, 2), (31, .iload 4, 2), (33, .iconst (-1), 1), (34, .if_icmp .eq 7, 3), (37, .iconst 1, 1), (38, .goto 4, 3), (41, .iconst 0, 1), (42, .istore_n 3, 1), (43, .iload_n 3, 1), (44, .ifCond .eq 8, 3), (47, .iload 4, 2), (49, .goto 4, 3), (52, .iload_n 1, 1), (53, .istore_n 1, 1), (54, .iload_n 2, 1), (55, .iload_n 3, 1), (56, .ifCond .eq 7, 3), (59, .iconst 1, 1), (60, .goto 4, 3), (63, .iconst 0, 1), (64, .iadd, 1), (65, .istore_n 2, 1), (66, .goto (-60), 3), (69, .aload_n 0, 1), (70, .iload_n 2, 1), (71, .putfield 149, 3), (74, .aload_n 0, 1), (75, .iload_n 3, 1), (76, .ifCond .eq 12, 3), (79, .iload_n 1, 1), (80, .iconst 3, 1), (81, .if_icmp .ne 7, 3), (84, .iconst 1, 1), (85, .goto 4, 3), (88, .iconst 0, 1), (89, .putfield 152, 3), (92, .return_, 1)]
set_option maxRecDepth 20000 in
theorem DX7_read : Lst YX7_read LX7_read := by unfold Lst; decide +kernel
def LX7_firstError : LI := [(0, .aload_n 0, 1), (1, .iconst 0, 1), (2, .putfield 35, 3), (5, .aload_n 0, 1), (6, .invokevirtual 156, 3), (9, .aload_n 0, 1), (10, .getfield 149, 3), (13, .ireturn, 1)]
set_option maxRecDepth 20000 in
theorem DX7_firstError : Lst YX7_firstError LX7_firstError := by unfold Lst; decide +kernel
def LX7_saidOn : LI := [(0, .iconst 0, 1), (1, .istore_n 2, 1), (2, .iconst 0, 1), (3, .istore_n 3, 1), (4, .iconst 0, 1), (5, .istore 4, 2), (7, .iload 4, 2), (9, .aload_n 0, 1), (10, .getfield 140, 3), (13, .if_icmp .ge 99, 3), (16, .iload 4, 2), (18, .ifCond .eq 17, 3), (21, .aload_n 0, 1), (22, .getfield 29, 3), (25, .iload 4, 2), (27, .iconst 1, 1), (28, .isub, 1), (29, .iaload, 1), (30, .bipush 59, 2), (32, .if_icmp .ne 7, 3), (35, .iconst 1, 1), (36, .goto 4, 3), (39, .iconst 0, 1), (40, .istore 5, 2), (42, .iload 5, 2), (44, .ifCond .eq 16, 3), (47, .aload_n 0, 1), (48, .getfield 29, 3), (51, .iload 4, 2), (53, .iaload, 1), (54, .bipush 97, 2), (56, .isub, 1), (57, .goto 4, 3), (60, .iload_n 3, 1), (61, .istore_n 3, 1), (62, .iload 5, 2), (64, .ifCond .ne 21, 3), (67, .aload_n 0, 1), (68, .getfield 29, 3), (71, .iload 4, 2), (73, .iaload, 1), (74, .invokestatic 143, 3), (77, .iconst (-1), 1), (78, .if_icmp .eq 7, 3), (81, .iconst 1, 1), (82, .goto 4, 3), (85, .iconst 0, 1), (86, .istore 6, 2), (88, .iload_n 2, 1), (89, .iload 6, 2), (91, .ifCond .eq 12, 3), (94, .iload_n 3, 1), (95, .iload_n 1, 1), (96, .if_icmp .ne 7, 3), (99, .iconst 4, 1), (100, .goto 4, 3), (103, .iconst 0, 1), (104, .iadd, 1), (105, .istore_n 2, 1), (106, .iinc 4 1, 3), (109, .goto (-102), 3), (112, .iload_n 2, 1), (113, .ireturn, 1)]
set_option maxRecDepth 20000 in
theorem DX7_saidOn : Lst YX7_saidOn LX7_saidOn := by unfold Lst; decide +kernel
def LX7_say_0 : LI := [(0, .aload_n 0, 1), (1, .iconst 0, 1), (2, .putfield 35, 3), (5, .aload_n 0, 1), (6, .invokevirtual 156, 3), (9, .aload_n 0, 1), (10, .getfield 152, 3), (13, .ifCond .ne 9, 3), (16, .aload_n 0, 1), (17, .iconst 1, 1), (18, .invokevirtual 53, 3), (21, .ireturn, 1), (22, .aload_n 0, 1), (23, .iconst 0, 1), (24, .invokevirtual 159, 3), (27, .istore_n 1, 1), (28, .aload_n 0, 1), (29, .iconst 1, 1), (30, .invokevirtual 159, 3), (33, .istore_n 2, 1), (34, .aload_n 0, 1), (35, .getfield 7, 3), (38, .sipush 800, 3), (41, .iaload, 1), (42, .iload_n 1, 1), (43, .iadd, 1), (44, .sipush 256, 3), (47, .if_icmp .gt 19, 3), (50, .aload_n 0, 1), (51, .getfield 7, 3), (54, .sipush 801, 3), (57, .iaload, 1), (58, .iload_n 2, 1), (59, .iadd, 1), (60, .sipush 256, 3), (63, .if_icmp .le 9, 3), (66, .aload_n 0, 1), (67, .iconst 2, 1), (68, .invokevirtual 53, 3), (71, .ireturn, 1), (72, .aload_n 0, 1), (73, .invokevirtual 61, 3), (76, .iconst 0, 1), (77, .istore_n 3, 1), (78, .iconst 0, 1), (79, .istore 4, 2), (81, .iload 4, 2), (83, .aload_n 0, 1), (84, .getfield 140, 3), (87, .if_icmp .ge 142, 3), (90, .iload 4, 2), (92, .ifCond .eq 17, 3), (95, .aload_n 0, 1), (96, .getfield 29, 3), (99, .iload 4, 2), (101, .iconst 1, 1), (102, .isub, 1), (103, .iaload, 1), (104, .bipush 59, 2), (106, .if_icmp .ne 7, 3), (109, .iconst 1, 1), (110, .goto 4, 3), (113, .iconst 0, 1), (114, .istore 5, 2), (116, .iload 5, 2), (118, .ifCond .eq 16, 3), (121, .aload_n 0, 1), (122, .getfield 29, 3), (125, .iload 4, 2), (127, .iaload, 1), (128, .bipush 97, 2), (130, .isub, 1), (131, .goto 4, 3), (134, .iload_n 3, 1), (135, .istore_n 3, 1), (136, .iload 5, 2), (138, .ifCond .eq 7, 3), (141, .iconst (-1), 1), (142, .goto 13, 3), (145, .aload_n 0, 1), (146, .getfield 29, 3), (149, .iload 4, 2), (151, .iaload, 1), (152, .invokestatic 143, 3), (155, .istore 6, 2), (157, .iconst 3, 1), (158, .istore 7, 2), (160, .iload 7, 2), (162, .ifCond .lt 61, 3), (165, .iload 6, 2), (167, .iconst (-1), 1), (168, .if_icmp .eq 55, 3), (171, .aload_n 0, 1), (172, .getfield 7, 3), (175, .sipush 288, 3), (178, .sipush 256, 3), (181, .iload_n 3, 1), (182, .imul, 1), (183, .iadd, 1), (184, .aload_n 0, 1), (185, .getfield 7, 3), (188, .sipush 800, 3), (191, .iload_n 3, 1), (192, .iadd, 1), (193, .iaload, 1), (194, .iadd, 1), (195, .iload 6, 2), (197, .iload 7, 2), (199, .ishr, 1), (200, .iconst 1, 1), (201, .iand, 1), (202, .iastore, 1), (203, .aload_n 0, 1), (204, .getfield 7, 3), (207, .sipush 800, 3), (210, .iload_n 3, 1), (211, .iadd, 1), (212, .dup2, 1), (213, .iaload, 1), (214, .iconst 1, 1)]
set_option maxRecDepth 20000 in
theorem DX7_say_0 : Lst YX7_say LX7_say_0 := by unfold Lst; decide +kernel
def LX7_say_1 : LI := [(215, .iadd, 1), (216, .iastore, 1), (217, .iinc 7 (-1), 3), (220, .goto (-60), 3), (223, .iinc 4 1, 3), (226, .goto (-145), 3), (229, .aload_n 0, 1), (230, .iconst 0, 1), (231, .putfield 140, 3), (234, .iload_n 1, 1), (235, .iload_n 2, 1), (236, .iadd, 1), (237, .ireturn, 1)]
set_option maxRecDepth 20000 in
theorem DX7_say_1 : Lst YX7_say LX7_say_1 := by unfold Lst; decide +kernel
def LX7_undo : LI := [(0, .aload_n 0, 1), (1, .iconst 0, 1), (2, .putfield 35, 3), (5, .aload_n 0, 1), (6, .getfield 43, 3), (9, .ifCond .ne 9, 3), (12, .aload_n 0, 1), (13, .iconst 1, 1), (14, .invokevirtual 53, 3), (17, .ireturn, 1), (18, .aload_n 0, 1), (19, .dup, 1), (20, .getfield 43, 3), (23, .iconst 1, 1), (24, .isub, 1), (25, .putfield 43, 3), (28, .iconst 0, 1), (29, .istore_n 1, 1), (30, .iload_n 1, 1), (31, .sipush 811, 3), (34, .if_icmp .ge 30, 3), (37, .aload_n 0, 1), (38, .getfield 7, 3), (41, .iload_n 1, 1), (42, .aload_n 0, 1), (43, .getfield 13, 3), (46, .sipush 811, 3), (49, .aload_n 0, 1), (50, .getfield 43, 3), (53, .imul, 1), (54, .iload_n 1, 1), (55, .iadd, 1), (56, .iaload, 1), (57, .iastore, 1), (58, .iinc 1 1, 3), (61, .goto (-31), 3), (64, .aload_n 0, 1), (65, .getfield 19, 3), (68, .iconst 0, 1), (69, .aload_n 0, 1), (70, .getfield 23, 3), (73, .iconst 2, 1), (74, .aload_n 0, 1), (75, .getfield 43, 3), (78, .imul, 1), (79, .laload, 1), (80, .lastore, 1), (81, .aload_n 0, 1), (82, .getfield 19, 3), (85, .iconst 1, 1), (86, .aload_n 0, 1), (87, .getfield 23, 3), (90, .iconst 2, 1), (91, .aload_n 0, 1), (92, .getfield 43, 3), (95, .imul, 1), (96, .iconst 1, 1), (97, .iadd, 1), (98, .laload, 1), (99, .lastore, 1), (100, .aload_n 0, 1), (101, .getfield 43, 3), (104, .ireturn, 1)]
set_option maxRecDepth 20000 in
theorem DX7_undo : Lst YX7_undo LX7_undo := by unfold Lst; decide +kernel
def LX7_street : LI := [(0, .aload_n 0, 1), (1, .iconst 0, 1), (2, .putfield 35, 3), (5, .iload_n 1, 1), (6, .invokestatic 46, 3), (9, .ifCond .eq 10, 3), (12, .iload_n 2, 1), (13, .invokestatic 50, 3), (16, .ifCond .ne 9, 3), (19, .aload_n 0, 1), (20, .iconst 1, 1), (21, .invokevirtual 53, 3), (24, .ireturn, 1), (25, .iload_n 3, 1), (26, .iconst 0, 1), (27, .bipush 6, 2), (29, .invokestatic 39, 3), (32, .ifCond .eq 19, 3), (35, .aload_n 0, 1), (36, .getfield 7, 3), (39, .aload_n 0, 1), (40, .iload_n 1, 1), (41, .iload_n 2, 1), (42, .invokevirtual 64, 3), (45, .iload_n 3, 1), (46, .iadd, 1), (47, .iaload, 1), (48, .goto 8, 3), (51, .aload_n 0, 1), (52, .iconst 2, 1), (53, .invokevirtual 53, 3), (56, .ireturn, 1)]
set_option maxRecDepth 20000 in
theorem DX7_street : Lst YX7_street LX7_street := by unfold Lst; decide +kernel
def LX7_accent : LI := [(0, .aload_n 0, 1), (1, .iconst 0, 1), (2, .putfield 35, 3), (5, .iload_n 1, 1), (6, .invokestatic 46, 3), (9, .ifCond .eq 10, 3), (12, .iload_n 2, 1), (13, .invokestatic 50, 3), (16, .ifCond .ne 9, 3), (19, .aload_n 0, 1), (20, .iconst 1, 1), (21, .invokevirtual 53, 3), (24, .ireturn, 1), (25, .iload_n 3, 1), (26, .iconst 0, 1), (27, .bipush 10, 2), (29, .invokestatic 39, 3), (32, .ifCond .eq 19, 3), (35, .aload_n 0, 1), (36, .getfield 7, 3), (39, .aload_n 0, 1), (40, .iload_n 1, 1), (41, .iload_n 2, 1), (42, .invokevirtual 68, 3), (45, .iload_n 3, 1), (46, .iadd, 1), (47, .iaload, 1), (48, .goto 8, 3), (51, .aload_n 0, 1), (52, .iconst 2, 1), (53, .invokevirtual 53, 3), (56, .ireturn, 1)]
set_option maxRecDepth 20000 in
theorem DX7_accent : Lst YX7_accent LX7_accent := by unfold Lst; decide +kernel
def LX7_waits : LI := [(0, .aload_n 0, 1), (1, .iconst 0, 1), (2, .putfield 35, 3), (5, .iload_n 1, 1), (6, .invokestatic 46, 3), (9, .ifCond .eq 23, 3), (12, .iload_n 2, 1), (13, .iconst 0, 1), (14, .aload_n 0, 1), (15, .getfield 7, 3), (18, .sipush 800, 3), (21, .iload_n 1, 1), (22, .iadd, 1), (23, .iaload, 1), (24, .iconst 1, 1), (25, .isub, 1), (26, .invokestatic 39, 3), (29, .ifCond .ne 9, 3), (32, .aload_n 0, 1), (33, .iconst 1, 1), (34, .invokevirtual 53, 3), (37, .ireturn, 1), (38, .aload_n 0, 1), (39, .getfield 7, 3), (42, .sipush 288, 3), (45, .sipush 256, 3), (48, .iload_n 1, 1), (49, .imul, 1), (50, .iadd, 1), (51, .iload_n 2, 1), (52, .iadd, 1), (53, .iaload, 1), (54, .ireturn, 1)]
set_option maxRecDepth 20000 in
theorem DX7_waits : Lst YX7_waits LX7_waits := by unfold Lst; decide +kernel
def LX7_had : LI := [(0, .aload_n 0, 1), (1, .iconst 0, 1), (2, .putfield 35, 3), (5, .iload_n 1, 1), (6, .invokestatic 46, 3), (9, .ifCond .eq 12, 3), (12, .aload_n 0, 1), (13, .getfield 19, 3), (16, .iload_n 1, 1), (17, .laload, 1), (18, .goto 9, 3), (21, .aload_n 0, 1), (22, .iconst 1, 1), (23, .invokevirtual 53, 3), (26, .i2l, 1), (27, .lreturn, 1)]
set_option maxRecDepth 20000 in
theorem DX7_had : Lst YX7_had LX7_had := by unfold Lst; decide +kernel
def LX7_shyAll : LI := [(0, .iconst 0, 1), (1, .istore_n 1, 1), (2, .iconst 0, 1), (3, .istore_n 2, 1), (4, .iload_n 2, 1), (5, .bipush 16, 2), (7, .if_icmp .ge 27, 3), (10, .iload_n 1, 1), (11, .aload_n 0, 1), (12, .getfield 7, 3), (15, .bipush 112, 2), (17, .bipush 11, 2), (19, .iload_n 2, 1), (20, .imul, 1), (21, .iadd, 1), (22, .bipush 6, 2), (24, .iadd, 1), (25, .iaload, 1), (26, .iadd, 1), (27, .istore_n 1, 1), (28, .iinc 2 1, 3), (31, .goto (-27), 3), (34, .iload_n 1, 1), (35, .ireturn, 1)]
set_option maxRecDepth 20000 in
theorem DX7_shyAll : Lst YX7_shyAll LX7_shyAll := by unfold Lst; decide +kernel
def LX7_insults : LI := [(0, .iconst 0, 1), (1, .istore_n 1, 1), (2, .iconst 0, 1), (3, .istore_n 2, 1), (4, .iload_n 2, 1), (5, .bipush 16, 2), (7, .if_icmp .ge 31, 3), (10, .iload_n 1, 1), (11, .aload_n 0, 1), (12, .getfield 7, 3), (15, .bipush 7, 2), (17, .iload_n 2, 1), (18, .imul, 1), (19, .iconst 4, 1), (20, .iadd, 1), (21, .iaload, 1), (22, .ifCond .eq 7, 3), (25, .iconst 1, 1), (26, .goto 4, 3), (29, .iconst 0, 1), (30, .iadd, 1), (31, .istore_n 1, 1), (32, .iinc 2 1, 3), (35, .goto (-31), 3), (38, .iload_n 1, 1), (39, .ireturn, 1)]
set_option maxRecDepth 20000 in
theorem DX7_insults : Lst YX7_insults LX7_insults := by unfold Lst; decide +kernel
def LX7_counted : LI := [(0, .iload_n 1, 1), (1, .tableswitch 140 0 11 #[63, 72, 81, 81, 94, 94, 107, 107, 121, 121, 130, 135], 63), (64, .aload_n 0, 1), (65, .getfield 7, 3), (68, .sipush 806, 3), (71, .iaload, 1), (72, .ireturn, 1), (73, .aload_n 0, 1), (74, .getfield 7, 3), (77, .sipush 807, 3), (80, .iaload, 1), (81, .ireturn, 1), (82, .aload_n 0, 1), (83, .getfield 7, 3), (86, .sipush 800, 3), (89, .iload_n 1, 1), (90, .iadd, 1), (91, .iconst 2, 1), (92, .isub, 1), (93, .iaload, 1), (94, .ireturn, 1), (95, .aload_n 0, 1), (96, .getfield 7, 3), (99, .sipush 802, 3), (102, .iload_n 1, 1), (103, .iadd, 1), (104, .iconst 4, 1), (105, .isub, 1), (106, .iaload, 1), (107, .ireturn, 1), (108, .aload_n 0, 1), (109, .getfield 7, 3), (112, .sipush 804, 3), (115, .iload_n 1, 1), (116, .iadd, 1), (117, .bipush 6, 2), (119, .isub, 1), (120, .iaload, 1), (121, .ireturn, 1), (122, .aload_n 0, 1), (123, .iload_n 1, 1), (124, .bipush 8, 2), (126, .isub, 1), (127, .invokevirtual 108, 3), (130, .ireturn, 1), (131, .aload_n 0, 1), (132, .invokevirtual 162, 3), (135, .ireturn, 1), (136, .aload_n 0, 1), (137, .invokevirtual 166, 3), (140, .ireturn, 1), (141, .aload_n 0, 1), (142, .getfield 43, 3), (145, .ireturn, 1)]
set_option maxRecDepth 20000 in
theorem DX7_counted : Lst YX7_counted LX7_counted := by unfold Lst; decide +kernel
def LX7_count : LI := [(0, .aload_n 0, 1), (1, .iconst 0, 1), (2, .putfield 35, 3), (5, .iload_n 1, 1), (6, .iconst 0, 1), (7, .bipush 12, 2), (9, .invokestatic 39, 3), (12, .ifCond .eq 11, 3), (15, .aload_n 0, 1), (16, .iload_n 1, 1), (17, .invokevirtual 169, 3), (20, .goto 8, 3), (23, .aload_n 0, 1), (24, .iconst 1, 1), (25, .invokevirtual 53, 3), (28, .ireturn, 1)]
set_option maxRecDepth 20000 in
theorem DX7_count : Lst YX7_count LX7_count := by unfold Lst; decide +kernel
def LX7_setting : LI := [(0, .aload_n 0, 1), (1, .iconst 0, 1), (2, .putfield 35, 3), (5, .iload_n 1, 1), (6, .iconst 0, 1), (7, .iconst 2, 1), (8, .invokestatic 39, 3), (11, .ifCond .eq 16, 3), (14, .aload_n 0, 1), (15, .getfield 7, 3), (18, .sipush 808, 3), (21, .iload_n 1, 1), (22, .iadd, 1), (23, .iaload, 1), (24, .goto 8, 3), (27, .aload_n 0, 1), (28, .iconst 1, 1), (29, .invokevirtual 53, 3), (32, .ireturn, 1)]
set_option maxRecDepth 20000 in
theorem DX7_setting : Lst YX7_setting LX7_setting := by unfold Lst; decide +kernel
def LX7_sureOf : LI := [(0, .aload_n 0, 1), (1, .iload_n 1, 1), (2, .iload_n 2, 1), (3, .invokevirtual 64, 3), (6, .istore_n 3, 1), (7, .aload_n 0, 1), (8, .iload_n 1, 1), (9, .iload_n 2, 1), (10, .invokevirtual 68, 3), (13, .istore 4, 2), (15, .aload_n 0, 1), (16, .getfield 7, 3), (19, .iload_n 3, 1), (20, .iconst 0, 1), (21, .iadd, 1), (22, .iaload, 1), (23, .aload_n 0, 1), (24, .getfield 7, 3), (27, .iload 4, 2), (29, .iconst 0, 1), (30, .iadd, 1), (31, .iaload, 1), (32, .isub, 1), (33, .invokestatic 91, 3), (36, .istore 5, 2), (38, .sipush 256, 3), (41, .aload_n 0, 1), (42, .getfield 7, 3), (45, .iload_n 3, 1), (46, .iconst 1, 1), (47, .iadd, 1), (48, .iaload, 1), (49, .aload_n 0, 1), (50, .getfield 7, 3), (53, .iload 4, 2), (55, .iconst 1, 1), (56, .iadd, 1), (57, .iaload, 1), (58, .isub, 1), (59, .invokestatic 91, 3), (62, .aload_n 0, 1), (63, .getfield 7, 3), (66, .iload_n 3, 1), (67, .iconst 2, 1), (68, .iadd, 1), (69, .iaload, 1), (70, .aload_n 0, 1), (71, .getfield 7, 3), (74, .iload 4, 2), (76, .iconst 2, 1), (77, .iadd, 1), (78, .iaload, 1), (79, .isub, 1), (80, .invokestatic 91, 3), (83, .iadd, 1), (84, .imul, 1), (85, .istore 6, 2), (87, .iconst 4, 1), (88, .istore 7, 2), (90, .iconst 0, 1), (91, .istore 8, 2), (93, .iload 7, 2), (95, .ifCond .le 85, 3), (98, .iload 8, 2), (100, .ifCond .ne 80, 3), (103, .sipush 256, 3), (106, .iload 7, 2), (108, .ishr, 1), (109, .istore 9, 2), (111, .iload 5, 2), (113, .sipush 256, 3), (116, .iload 9, 2), (118, .isub, 1), (119, .imul, 1), (120, .iload 6, 2), (122, .iadd, 1), (123, .bipush 64, 2), (125, .idiv, 1), (126, .aload_n 0, 1), (127, .getfield 7, 3), (130, .iload_n 3, 1), (131, .iconst 3, 1), (132, .iadd, 1), (133, .iaload, 1), (134, .iadd, 1), (135, .iconst 4, 1), (136, .iadd, 1), (137, .iload 9, 2), (139, .aload_n 0, 1), (140, .getfield 7, 3), (143, .iload 4, 2), (145, .iconst 0, 1), (146, .iadd, 1), (147, .iaload, 1), (148, .imul, 1), (149, .bipush 64, 2), (151, .idiv, 1), (152, .if_icmp .ge 7, 3), (155, .iconst 1, 1), (156, .goto 4, 3), (159, .iconst 0, 1), (160, .istore 8, 2), (162, .iload 7, 2), (164, .iload 8, 2), (166, .ifCond .eq 7, 3), (169, .iconst 0, 1), (170, .goto 4, 3), (173, .iconst 1, 1), (174, .isub, 1), (175, .istore 7, 2), (177, .goto (-84), 3), (180, .iload 7, 2), (182, .ireturn, 1)]
set_option maxRecDepth 20000 in
theorem DX7_sureOf : Lst YX7_sureOf LX7_sureOf := by unfold Lst; decide +kernel
def LX7_sure : LI := [(0, .aload_n 0, 1), (1, .iconst 0, 1), (2, .putfield 35, 3), (5, .iload_n 1, 1), (6, .invokestatic 46, 3), (9, .ifCond .eq 19, 3), (12, .iload_n 2, 1), (13, .invokestatic 50, 3), (16, .ifCond .eq 12, 3), (19, .aload_n 0, 1), (20, .iload_n 1, 1), (21, .iload_n 2, 1), (22, .invokevirtual 172, 3), (25, .goto 8, 3), (28, .aload_n 0, 1), (29, .iconst 1, 1), (30, .invokevirtual 53, 3), (33, .ireturn, 1)]
set_option maxRecDepth 20000 in
theorem DX7_sure : Lst YX7_sure LX7_sure := by unfold Lst; decide +kernel
def LX7_sentOf : LI := [(0, .aload_n 0, 1), (1, .invokevirtual 175, 3), (4, .aload_n 0, 1), (5, .invokevirtual 162, 3), (8, .istore 4, 2), (10, .aload_n 0, 1), (11, .iload_n 1, 1), (12, .iload_n 2, 1), (13, .invokevirtual 137, 3), (16, .istore 5, 2), (18, .iload_n 3, 1), (19, .ifCond .ne 8, 3), (22, .iload 5, 2), (24, .goto 28, 3), (27, .iload_n 3, 1), (28, .iconst 1, 1), (29, .if_icmp .ne 13, 3), (32, .aload_n 0, 1), (33, .invokevirtual 162, 3), (36, .iload 4, 2), (38, .isub, 1), (39, .goto 13, 3), (42, .aload_n 0, 1), (43, .getfield 7, 3), (46, .sipush 800, 3), (49, .iload_n 1, 1), (50, .iadd, 1), (51, .iaload, 1), (52, .istore 6, 2), (54, .aload_n 0, 1), (55, .invokevirtual 178, 3), (58, .iload 6, 2), (60, .ireturn, 1)]
set_option maxRecDepth 20000 in
theorem DX7_sentOf : Lst YX7_sentOf LX7_sentOf := by unfold Lst; decide +kernel
def LX7_ifSent : LI := [(0, .aload_n 0, 1), (1, .iconst 0, 1), (2, .putfield 35, 3), (5, .iload_n 1, 1), (6, .invokestatic 46, 3), (9, .ifCond .ne 9, 3), (12, .aload_n 0, 1), (13, .iconst 1, 1), (14, .invokevirtual 53, 3), (17, .ireturn, 1), (18, .iload_n 2, 1), (19, .iconst 1, 1), (20, .bipush 100, 2), (22, .invokestatic 39, 3), (25, .ifCond .eq 22, 3), (28, .iload_n 3, 1), (29, .iconst 0, 1), (30, .iconst 2, 1), (31, .invokestatic 39, 3), (34, .ifCond .eq 13, 3), (37, .aload_n 0, 1), (38, .iload_n 1, 1), (39, .iload_n 2, 1), (40, .iload_n 3, 1), (41, .invokevirtual 181, 3), (44, .goto 8, 3), (47, .aload_n 0, 1), (48, .iconst 2, 1), (49, .invokevirtual 53, 3), (52, .ireturn, 1)]
set_option maxRecDepth 20000 in
theorem DX7_ifSent : Lst YX7_ifSent LX7_ifSent := by unfold Lst; decide +kernel
def LX7_learnedOf : LI := [(0, .aload_n 0, 1), (1, .invokevirtual 175, 3), (4, .aload_n 0, 1), (5, .iload_n 1, 1), (6, .iload_n 2, 1), (7, .invokevirtual 114, 3), (10, .istore_n 3, 1), (11, .aload_n 0, 1), (12, .invokevirtual 178, 3), (15, .iload_n 3, 1), (16, .ireturn, 1)]
set_option maxRecDepth 20000 in
theorem DX7_learnedOf : Lst YX7_learnedOf LX7_learnedOf := by unfold Lst; decide +kernel
def LX7_ifLearned : LI := [(0, .aload_n 0, 1), (1, .iconst 0, 1), (2, .putfield 35, 3), (5, .iload_n 1, 1), (6, .invokestatic 46, 3), (9, .ifCond .ne 9, 3), (12, .aload_n 0, 1), (13, .iconst 1, 1), (14, .invokevirtual 53, 3), (17, .ireturn, 1), (18, .iload_n 2, 1), (19, .iconst 1, 1), (20, .bipush 100, 2), (22, .invokestatic 39, 3), (25, .ifCond .eq 12, 3), (28, .aload_n 0, 1), (29, .iload_n 1, 1), (30, .iload_n 2, 1), (31, .invokevirtual 184, 3), (34, .goto 8, 3), (37, .aload_n 0, 1), (38, .iconst 2, 1), (39, .invokevirtual 53, 3), (42, .ireturn, 1)]
set_option maxRecDepth 20000 in
theorem DX7_ifLearned : Lst YX7_ifLearned LX7_ifLearned := by unfold Lst; decide +kernel
def LX7_beatsOf : LI := [(0, .aload_n 0, 1), (1, .invokevirtual 175, 3), (4, .iconst 0, 1), (5, .istore_n 2, 1), (6, .iload_n 2, 1), (7, .sipush 300, 3), (10, .if_icmp .ge 28, 3), (13, .aload_n 0, 1), (14, .getfield 7, 3), (17, .sipush 800, 3), (20, .iload_n 1, 1), (21, .iadd, 1), (22, .iaload, 1), (23, .ifCond .le 15, 3), (26, .aload_n 0, 1), (27, .iload_n 1, 1), (28, .invokevirtual 134, 3), (31, .pop, 1), (32, .iinc 2 1, 3), (35, .goto (-29), 3), (38, .aload_n 0, 1), (39, .getfield 7, 3), (42, .sipush 800, 3), (45, .iload_n 1, 1), (46, .iadd, 1), (47, .iaload, 1), (48, .ifCond .ne 7, 3), (51, .iconst 1, 1), (52, .goto 4, 3), (55, .iconst 0, 1), (56, .istore_n 3, 1), (57, .aload_n 0, 1), (58, .invokevirtual 178, 3), (61, .iload_n 3, 1), (62, .ifCond .eq 7, 3), (65, .iload_n 2, 1), (66, .goto 4, 3), (69, .iconst (-1), 1), (70, .ireturn, 1)]
set_option maxRecDepth 20000 in
theorem DX7_beatsOf : Lst YX7_beatsOf LX7_beatsOf := by unfold Lst; decide +kernel
def LX7_beatsFor : LI := [(0, .aload_n 0, 1), (1, .iconst 0, 1), (2, .putfield 35, 3), (5, .iload_n 1, 1), (6, .invokestatic 46, 3), (9, .ifCond .eq 11, 3), (12, .aload_n 0, 1), (13, .iload_n 1, 1), (14, .invokevirtual 187, 3), (17, .goto 8, 3), (20, .aload_n 0, 1), (21, .iconst 1, 1), (22, .invokevirtual 53, 3), (25, .ireturn, 1)]
set_option maxRecDepth 20000 in
theorem DX7_beatsFor : Lst YX7_beatsFor LX7_beatsFor := by unfold Lst; decide +kernel
def LX7_lessonOf : LI := [(0, .aload_n 0, 1), (1, .invokevirtual 175, 3), (4, .iconst 1, 1), (5, .istore_n 2, 1), (6, .iconst (-1), 1), (7, .istore_n 3, 1), (8, .iconst 1, 1), (9, .istore 4, 2), (11, .iload 4, 2), (13, .bipush 40, 2), (15, .if_icmp .gt 53, 3), (18, .aload_n 0, 1), (19, .iload_n 1, 1), (20, .iload 4, 2), (22, .iconst 1, 1), (23, .isub, 1), (24, .invokevirtual 104, 3), (27, .aload_n 0, 1), (28, .iload_n 1, 1), (29, .iload 4, 2), (31, .invokevirtual 190, 3), (34, .istore 5, 2), (36, .iload 5, 2), (38, .iload_n 3, 1), (39, .if_icmp .le 8, 3), (42, .iload 4, 2), (44, .goto 4, 3), (47, .iload_n 2, 1), (48, .istore_n 2, 1), (49, .iload 5, 2), (51, .iload_n 3, 1), (52, .if_icmp .le 8, 3), (55, .iload 5, 2), (57, .goto 4, 3), (60, .iload_n 3, 1), (61, .istore_n 3, 1), (62, .iinc 4 1, 3), (65, .goto (-54), 3), (68, .aload_n 0, 1), (69, .invokevirtual 178, 3), (72, .iload_n 2, 1), (73, .ireturn, 1)]
set_option maxRecDepth 20000 in
theorem DX7_lessonOf : Lst YX7_lessonOf LX7_lessonOf := by unfold Lst; decide +kernel
def LX7_bestLesson : LI := [(0, .aload_n 0, 1), (1, .iconst 0, 1), (2, .putfield 35, 3), (5, .iload_n 1, 1), (6, .invokestatic 46, 3), (9, .ifCond .eq 11, 3), (12, .aload_n 0, 1), (13, .iload_n 1, 1), (14, .invokevirtual 193, 3), (17, .goto 8, 3), (20, .aload_n 0, 1), (21, .iconst 1, 1), (22, .invokevirtual 53, 3), (25, .ireturn, 1)]
set_option maxRecDepth 20000 in
theorem DX7_bestLesson : Lst YX7_bestLesson LX7_bestLesson := by unfold Lst; decide +kernel
def LX7_hurtsOf : LI := [(0, .aload_n 0, 1), (1, .getfield 7, 3), (4, .aload_n 0, 1), (5, .iload_n 1, 1), (6, .iload_n 2, 1), (7, .invokevirtual 68, 3), (10, .iconst 3, 1), (11, .iadd, 1), (12, .iaload, 1), (13, .istore_n 3, 1), (14, .iload_n 3, 1), (15, .ifCond .ne 5, 3), (18, .iconst (-1), 1), (19, .ireturn, 1), (20, .aload_n 0, 1), (21, .invokevirtual 175, 3), (24, .iconst 0, 1), (25, .istore 4, 2), (27, .iload 4, 2), (29, .iload_n 2, 1), (30, .if_icmp .ge 17, 3), (33, .aload_n 0, 1), (34, .iload_n 1, 1), (35, .iload 4, 2), (37, .invokevirtual 131, 3), (40, .pop, 1), (41, .iinc 4 1, 3), (44, .goto (-17), 3), (47, .iconst 0, 1), (48, .istore 4, 2), (50, .iconst 0, 1), (51, .istore 5, 2), (53, .iload 5, 2), (55, .iload_n 3, 1), (56, .if_icmp .ge 21, 3), (59, .iconst 2, 1), (60, .iload 4, 2), (62, .imul, 1), (63, .aload_n 0, 1), (64, .iload_n 1, 1), (65, .invokevirtual 120, 3), (68, .iadd, 1), (69, .istore 4, 2), (71, .iinc 5 1, 3), (74, .goto (-21), 3), (77, .aload_n 0, 1), (78, .iload_n 1, 1), (79, .iload_n 2, 1), (80, .iload_n 3, 1), (81, .iload 4, 2), (83, .invokestatic 117, 3), (86, .invokevirtual 84, 3), (89, .istore 5, 2), (91, .iconst (-1), 1), (92, .istore 6, 2), (94, .iconst 0, 1), (95, .istore 7, 2), (97, .iload 7, 2), (99, .sipush 300, 3), (102, .if_icmp .gt 67, 3), (105, .iload 6, 2), (107, .iconst (-1), 1), (108, .if_icmp .ne 61, 3), (111, .aload_n 0, 1), (112, .iload_n 1, 1), (113, .iload_n 2, 1), (114, .iload 5, 2), (116, .iload 7, 2), (118, .iadd, 1), (119, .invokevirtual 123, 3), (122, .iload 4, 2), (124, .if_icmp .ne 19, 3), (127, .aload_n 0, 1), (128, .iload_n 1, 1), (129, .iload_n 2, 1), (130, .iload 5, 2), (132, .iload 7, 2), (134, .isub, 1), (135, .invokevirtual 123, 3), (138, .iload 4, 2), (140, .if_icmp .eq 7, 3), (143, .iconst 1, 1), (144, .goto 4, 3), (147, .iconst 0, 1), (148, .istore 8, 2), (150, .iload 8, 2), (152, .ifCond .eq 8, 3), (155, .iload 7, 2), (157, .goto 4, 3), (160, .iconst (-1), 1), (161, .istore 6, 2), (163, .iinc 7 1, 3), (166, .goto (-69), 3), (169, .aload_n 0, 1), (170, .invokevirtual 178, 3), (173, .iload 6, 2), (175, .ireturn, 1)]
set_option maxRecDepth 20000 in
theorem DX7_hurtsOf : Lst YX7_hurtsOf LX7_hurtsOf := by unfold Lst; decide +kernel
def LX7_hurts : LI := [(0, .aload_n 0, 1), (1, .iconst 0, 1), (2, .putfield 35, 3), (5, .iload_n 1, 1), (6, .invokestatic 46, 3), (9, .ifCond .eq 19, 3), (12, .iload_n 2, 1), (13, .invokestatic 50, 3), (16, .ifCond .eq 12, 3), (19, .aload_n 0, 1), (20, .iload_n 1, 1), (21, .iload_n 2, 1), (22, .invokevirtual 196, 3), (25, .goto 8, 3), (28, .aload_n 0, 1), (29, .iconst 1, 1), (30, .invokevirtual 53, 3), (33, .ireturn, 1)]
set_option maxRecDepth 20000 in
theorem DX7_hurts : Lst YX7_hurts LX7_hurts := by unfold Lst; decide +kernel
def LX7_shareOf : LI := [(0, .aload_n 0, 1), (1, .getfield 7, 3), (4, .sipush 802, 3), (7, .iload_n 1, 1), (8, .iadd, 1), (9, .iaload, 1), (10, .istore_n 2, 1), (11, .iload_n 2, 1), (12, .ifCond .ne 7, 3), (15, .dconst 1, 1), (16, .goto 19, 3), (19, .iload_n 2, 1), (20, .aload_n 0, 1), (21, .getfield 7, 3), (24, .sipush 804, 3), (27, .iload_n 1, 1), (28, .iadd, 1), (29, .iaload, 1), (30, .isub, 1), (31, .i2d, 1), (32, .iload_n 2, 1), (33, .i2d, 1), (34, .ddiv, 1), (35, .dreturn, 1)]
set_option maxRecDepth 20000 in
theorem DX7_shareOf : Lst YX7_shareOf LX7_shareOf := by unfold Lst; decide +kernel
def LX7_rightShare : LI := [(0, .aload_n 0, 1), (1, .iconst 0, 1), (2, .putfield 35, 3), (5, .iload_n 1, 1), (6, .invokestatic 46, 3), (9, .ifCond .eq 11, 3), (12, .aload_n 0, 1), (13, .iload_n 1, 1), (14, .invokevirtual 199, 3), (17, .goto 9, 3), (20, .aload_n 0, 1), (21, .iconst 1, 1), (22, .invokevirtual 53, 3), (25, .i2d, 1), (26, .dreturn, 1)]
set_option maxRecDepth 20000 in
theorem DX7_rightShare : Lst YX7_rightShare LX7_rightShare := by unfold Lst; decide +kernel
def LX7_mix : LI := [(0, .aload_n 0, 1), (1, .ldc2_w 203, 3), (4, .aload_n 0, 1), (5, .getfield 205, 3), (8, .lmul, 1), (9, .lload_n 1, 1), (10, .ladd, 1), (11, .putfield 205, 3), (14, .return_, 1)]
set_option maxRecDepth 20000 in
theorem DX7_mix : Lst YX7_mix LX7_mix := by unfold Lst; decide +kernel
def LX7_mixWay_0 : LI := [(0, .iconst 0, 1), (1, .istore_n 2, 1), (2, .iload_n 2, 1), (3, .bipush 8, 2), (5, .if_icmp .ge 95, 3), (8, .iconst 0, 1), (9, .istore_n 3, 1), (10, .iload_n 3, 1), (11, .bipush 7, 2), (13, .if_icmp .ge 27, 3), (16, .aload_n 0, 1), (17, .aload_n 0, 1), (18, .getfield 7, 3), (21, .aload_n 0, 1), (22, .iload_n 1, 1), (23, .iload_n 2, 1), (24, .invokevirtual 64, 3), (27, .iload_n 3, 1), (28, .iadd, 1), (29, .iaload, 1), (30, .i2l, 1), (31, .invokevirtual 209, 3), (34, .iinc 3 1, 3), (37, .goto (-27), 3), (40, .iconst 0, 1), (41, .istore_n 3, 1), (42, .iload_n 3, 1), (43, .bipush 11, 2), (45, .if_icmp .ge 27, 3), (48, .aload_n 0, 1), (49, .aload_n 0, 1), (50, .getfield 7, 3), (53, .aload_n 0, 1), (54, .iload_n 1, 1), (55, .iload_n 2, 1), (56, .invokevirtual 68, 3), (59, .iload_n 3, 1), (60, .iadd, 1), (61, .iaload, 1), (62, .i2l, 1), (63, .invokevirtual 209, 3), (66, .iinc 3 1, 3), (69, .goto (-27), 3), (72, .aload_n 0, 1), (73, .aload_n 0, 1), (74, .iload_n 1, 1), (75, .iload_n 2, 1), (76, .invokevirtual 172, 3), (79, .i2l, 1), (80, .invokevirtual 209, 3), (83, .aload_n 0, 1), (84, .aload_n 0, 1), (85, .iload_n 1, 1), (86, .iload_n 2, 1), (87, .invokevirtual 196, 3), (90, .i2l, 1), (91, .invokevirtual 209, 3), (94, .iinc 2 1, 3), (97, .goto (-95), 3), (100, .iconst 0, 1), (101, .istore_n 2, 1), (102, .iload_n 2, 1), (103, .aload_n 0, 1), (104, .getfield 7, 3), (107, .sipush 800, 3), (110, .iload_n 1, 1), (111, .iadd, 1), (112, .iaload, 1), (113, .if_icmp .ge 30, 3), (116, .aload_n 0, 1), (117, .aload_n 0, 1), (118, .getfield 7, 3), (121, .sipush 288, 3), (124, .sipush 256, 3), (127, .iload_n 1, 1), (128, .imul, 1), (129, .iadd, 1), (130, .iload_n 2, 1), (131, .iadd, 1), (132, .iaload, 1), (133, .i2l, 1), (134, .invokevirtual 209, 3), (137, .iinc 2 1, 3), (140, .goto (-38), 3), (143, .aload_n 0, 1), (144, .aload_n 0, 1), (145, .getfield 19, 3), (148, .iload_n 1, 1), (149, .laload, 1), (150, .invokevirtual 209, 3), (153, .iconst 0, 1), (154, .istore_n 2, 1), (155, .iload_n 2, 1), (156, .iconst 3, 1), (157, .if_icmp .ge 21, 3), (160, .aload_n 0, 1), (161, .aload_n 0, 1), (162, .iload_n 1, 1), (163, .iconst 5, 1), (164, .iload_n 2, 1), (165, .invokevirtual 181, 3), (168, .i2l, 1), (169, .invokevirtual 209, 3), (172, .iinc 2 1, 3), (175, .goto (-20), 3), (178, .aload_n 0, 1), (179, .aload_n 0, 1), (180, .iload_n 1, 1), (181, .bipush 12, 2), (183, .invokevirtual 184, 3), (186, .i2l, 1), (187, .invokevirtual 209, 3), (190, .aload_n 0, 1), (191, .aload_n 0, 1), (192, .iload_n 1, 1), (193, .invokevirtual 187, 3), (196, .i2l, 1), (197, .invokevirtual 209, 3), (200, .aload_n 0, 1), (201, .aload_n 0, 1)]
set_option maxRecDepth 20000 in
theorem DX7_mixWay_0 : Lst YX7_mixWay LX7_mixWay_0 := by unfold Lst; decide +kernel
def LX7_mixWay_1 : LI := [(202, .iload_n 1, 1), (203, .invokevirtual 193, 3), (206, .i2l, 1), (207, .invokevirtual 209, 3), (210, .aload_n 0, 1), (211, .aload_n 0, 1), (212, .iload_n 1, 1), (213, .invokevirtual 199, 3), (216, .invokestatic 213, 3), (219, .invokevirtual 209, 3), (222, .return_, 1)]
set_option maxRecDepth 20000 in
theorem DX7_mixWay_1 : Lst YX7_mixWay LX7_mixWay_1 := by unfold Lst; decide +kernel
def LX7_digest : LI := [(0, .aload_n 0, 1), (1, .iconst 0, 1), (2, .putfield 35, 3), (5, .aload_n 0, 1), (6, .ldc2_w 219, 3), (9, .putfield 205, 3), (12, .iconst 0, 1), (13, .istore_n 1, 1), (14, .iload_n 1, 1), (15, .bipush 13, 2), (17, .if_icmp .ge 19, 3), (20, .aload_n 0, 1), (21, .aload_n 0, 1), (22, .iload_n 1, 1), (23, .invokevirtual 169, 3), (26, .i2l, 1), (27, .invokevirtual 209, 3), (30, .iinc 1 1, 3), (33, .goto (-19), 3), (36, .iconst 0, 1), (37, .istore_n 1, 1), (38, .iload_n 1, 1), (39, .iconst 3, 1), (40, .if_icmp .ge 24, 3), (43, .aload_n 0, 1), (44, .aload_n 0, 1), (45, .getfield 7, 3), (48, .sipush 808, 3), (51, .iload_n 1, 1), (52, .iadd, 1), (53, .iaload, 1), (54, .i2l, 1), (55, .invokevirtual 209, 3), (58, .iinc 1 1, 3), (61, .goto (-23), 3), (64, .iconst 0, 1), (65, .istore_n 1, 1), (66, .iload_n 1, 1), (67, .iconst 2, 1), (68, .if_icmp .ge 14, 3), (71, .aload_n 0, 1), (72, .iload_n 1, 1), (73, .invokevirtual 221, 3), (76, .iinc 1 1, 3), (79, .goto (-13), 3), (82, .aload_n 0, 1), (83, .aload_n 0, 1), (84, .getfield 140, 3), (87, .i2l, 1), (88, .invokevirtual 209, 3), (91, .iconst 0, 1), (92, .istore_n 1, 1), (93, .iload_n 1, 1), (94, .aload_n 0, 1), (95, .getfield 140, 3), (98, .if_icmp .ge 20, 3), (101, .aload_n 0, 1), (102, .aload_n 0, 1), (103, .getfield 29, 3), (106, .iload_n 1, 1), (107, .iaload, 1), (108, .i2l, 1), (109, .invokevirtual 209, 3), (112, .iinc 1 1, 3), (115, .goto (-22), 3), (118, .aload_n 0, 1), (119, .getfield 205, 3), (122, .lreturn, 1)]
set_option maxRecDepth 20000 in
theorem DX7_digest : Lst YX7_digest LX7_digest := by unfold Lst; decide +kernel
def LJxe99ae_isNaN_b9ae7 : LI := [(0, .dload_n 0, 1), (1, .dload_n 0, 1), (2, .dcmp .l, 1), (3, .ifCond .eq 7, 3), (6, .iconst 1, 1), (7, .goto 4, 3), (10, .iconst 0, 1), (11, .ireturn, 1)]
set_option maxRecDepth 20000 in
theorem DJxe99ae_isNaN_b9ae7 : Lst YJxe99ae_isNaN_b9ae7 LJxe99ae_isNaN_b9ae7 := by unfold Lst; decide +kernel
def LJxe99ae_doubleToLongBits_ccdee : LI := [(0, .dload_n 0, 1), (1, .invokestatic 122, 3), (4, .ifCond .ne 8, 3), (7, .dload_n 0, 1), (8, .invokestatic 134, 3), (11, .lreturn, 1), (12, .ldc2_w 137, 3), (15, .lreturn, 1)]
set_option maxRecDepth 20000 in
theorem DJxe99ae_doubleToLongBits_ccdee : Lst YJxe99ae_doubleToLongBits_ccdee LJxe99ae_doubleToLongBits_ccdee := by unfold Lst; decide +kernel
def LJ6_bitCount_0f7a4 : LI := [(0, .iload_n 0, 1), (1, .iload_n 0, 1), (2, .iconst 1, 1), (3, .iushr, 1), (4, .ldc_w 265, 3), (7, .iand, 1), (8, .isub, 1), (9, .istore_n 0, 1), (10, .iload_n 0, 1), (11, .ldc_w 266, 3), (14, .iand, 1), (15, .iload_n 0, 1), (16, .iconst 2, 1), (17, .iushr, 1), (18, .ldc_w 266, 3), (21, .iand, 1), (22, .iadd, 1), (23, .istore_n 0, 1), (24, .iload_n 0, 1), (25, .iload_n 0, 1), (26, .iconst 4, 1), (27, .iushr, 1), (28, .iadd, 1), (29, .ldc_w 267, 3), (32, .iand, 1), (33, .istore_n 0, 1), (34, .iload_n 0, 1), (35, .iload_n 0, 1), (36, .bipush 8, 2), (38, .iushr, 1), (39, .iadd, 1), (40, .istore_n 0, 1), (41, .iload_n 0, 1), (42, .iload_n 0, 1), (43, .bipush 16, 2), (45, .iushr, 1), (46, .iadd, 1), (47, .istore_n 0, 1), (48, .iload_n 0, 1), (49, .bipush 63, 2), (51, .iand, 1), (52, .ireturn, 1)]
set_option maxRecDepth 20000 in
theorem DJ6_bitCount_0f7a4 : Lst YJ6_bitCount_0f7a4 LJ6_bitCount_0f7a4 := by unfold Lst; decide +kernel
def LJ9_floorMod_7cf53 : LI := [(0, .iload_n 0, 1), (1, .iload_n 1, 1), (2, .irem, 1), (3, .istore_n 2, 1), (4, .iload_n 0, 1), (5, .iload_n 1, 1), (6, .ixor, 1), (7, .ifCond .ge 11, 3), (10, .iload_n 2, 1), (11, .ifCond .eq 7, 3), (14, .iload_n 2, 1), (15, .iload_n 1, 1), (16, .iadd, 1), (17, .ireturn, 1), (18, .iload_n 2, 1), (19, .ireturn, 1)]
set_option maxRecDepth 20000 in
theorem DJ9_floorMod_7cf53 : Lst YJ9_floorMod_7cf53 LJ9_floorMod_7cf53 := by unfold Lst; decide +kernel
def LL_build : LI := [(0, .aload 5, 2), (2, .iconst 0, 1), (3, .aload_n 0, 1), (4, .iload_n 1, 1), (5, .iload_n 2, 1), (6, .iload_n 3, 1), (7, .iload 4, 2), (9, .invokevirtual 7, 3), (12, .i2l, 1), (13, .lastore, 1), (14, .goto 11, 3), (17, .astore 6, 2), (19, .iconst 1, 1), (20, .ireturn, 1), (21, .astore 6, 2), (23, .iconst 2, 1), (24, .ireturn, 1), (25, .iconst 0, 1), (26, .ireturn, 1)]
set_option maxRecDepth 20000 in
theorem DL_build : Lst YL_build LL_build := by unfold Lst; decide +kernel
def LL_carry : LI := [(0, .aload 4, 2), (2, .iconst 0, 1), (3, .aload_n 0, 1), (4, .iload_n 1, 1), (5, .iload_n 2, 1), (6, .iload_n 3, 1), (7, .invokevirtual 17, 3), (10, .i2l, 1), (11, .lastore, 1), (12, .goto 11, 3), (15, .astore 5, 2), (17, .iconst 1, 1), (18, .ireturn, 1), (19, .astore 5, 2), (21, .iconst 2, 1), (22, .ireturn, 1), (23, .iconst 0, 1), (24, .ireturn, 1)]
set_option maxRecDepth 20000 in
theorem DL_carry : Lst YL_carry LL_carry := by unfold Lst; decide +kernel
def LL_insult : LI := [(0, .aload 4, 2), (2, .iconst 0, 1), (3, .aload_n 0, 1), (4, .iload_n 1, 1), (5, .iload_n 2, 1), (6, .iload_n 3, 1), (7, .invokevirtual 21, 3), (10, .i2l, 1), (11, .lastore, 1), (12, .goto 15, 3), (15, .astore 5, 2), (17, .iconst 1, 1), (18, .ireturn, 1), (19, .astore 5, 2), (21, .iconst 2, 1), (22, .ireturn, 1), (23, .astore 5, 2), (25, .iconst 3, 1), (26, .ireturn, 1), (27, .iconst 0, 1), (28, .ireturn, 1)]
set_option maxRecDepth 20000 in
theorem DL_insult : Lst YL_insult LL_insult := by unfold Lst; decide +kernel
def LL_set : LI := [(0, .aload_n 3, 1), (1, .iconst 0, 1), (2, .aload_n 0, 1), (3, .iload_n 1, 1), (4, .iload_n 2, 1), (5, .invokevirtual 26, 3), (8, .i2l, 1), (9, .lastore, 1), (10, .goto 11, 3), (13, .astore 4, 2), (15, .iconst 1, 1), (16, .ireturn, 1), (17, .astore 4, 2), (19, .iconst 2, 1), (20, .ireturn, 1), (21, .iconst 0, 1), (22, .ireturn, 1)]
set_option maxRecDepth 20000 in
theorem DL_set : Lst YL_set LL_set := by unfold Lst; decide +kernel
def LL_learn : LI := [(0, .aload_n 3, 1), (1, .iconst 0, 1), (2, .aload_n 0, 1), (3, .iload_n 1, 1), (4, .iload_n 2, 1), (5, .invokevirtual 30, 3), (8, .i2l, 1), (9, .lastore, 1), (10, .goto 15, 3), (13, .astore 4, 2), (15, .iconst 1, 1), (16, .ireturn, 1), (17, .astore 4, 2), (19, .iconst 2, 1), (20, .ireturn, 1), (21, .astore 4, 2), (23, .iconst 3, 1), (24, .ireturn, 1), (25, .iconst 0, 1), (26, .ireturn, 1)]
set_option maxRecDepth 20000 in
theorem DL_learn : Lst YL_learn LL_learn := by unfold Lst; decide +kernel
def LL_send : LI := [(0, .aload_n 3, 1), (1, .iconst 0, 1), (2, .aload_n 0, 1), (3, .iload_n 1, 1), (4, .iload_n 2, 1), (5, .invokevirtual 33, 3), (8, .i2l, 1), (9, .lastore, 1), (10, .goto 15, 3), (13, .astore 4, 2), (15, .iconst 1, 1), (16, .ireturn, 1), (17, .astore 4, 2), (19, .iconst 2, 1), (20, .ireturn, 1), (21, .astore 4, 2), (23, .iconst 3, 1), (24, .ireturn, 1), (25, .iconst 0, 1), (26, .ireturn, 1)]
set_option maxRecDepth 20000 in
theorem DL_send : Lst YL_send LL_send := by unfold Lst; decide +kernel
def LL_forget : LI := [(0, .aload_n 2, 1), (1, .iconst 0, 1), (2, .aload_n 0, 1), (3, .iload_n 1, 1), (4, .invokevirtual 36, 3), (7, .i2l, 1), (8, .lastore, 1), (9, .goto 6, 3), (12, .astore_n 3, 1), (13, .iconst 1, 1), (14, .ireturn, 1), (15, .iconst 0, 1), (16, .ireturn, 1)]
set_option maxRecDepth 20000 in
theorem DL_forget : Lst YL_forget LL_forget := by unfold Lst; decide +kernel
def LL_append : LI := [(0, .aload_n 2, 1), (1, .iconst 0, 1), (2, .aload_n 0, 1), (3, .iload_n 1, 1), (4, .invokevirtual 40, 3), (7, .i2l, 1), (8, .lastore, 1), (9, .goto 9, 3), (12, .astore_n 3, 1), (13, .iconst 1, 1), (14, .ireturn, 1), (15, .astore_n 3, 1), (16, .iconst 2, 1), (17, .ireturn, 1), (18, .iconst 0, 1), (19, .ireturn, 1)]
set_option maxRecDepth 20000 in
theorem DL_append : Lst YL_append LL_append := by unfold Lst; decide +kernel
def LL_say : LI := [(0, .aload_n 1, 1), (1, .iconst 0, 1), (2, .aload_n 0, 1), (3, .invokevirtual 43, 3), (6, .i2l, 1), (7, .lastore, 1), (8, .goto 9, 3), (11, .astore_n 2, 1), (12, .iconst 1, 1), (13, .ireturn, 1), (14, .astore_n 2, 1), (15, .iconst 2, 1), (16, .ireturn, 1), (17, .iconst 0, 1), (18, .ireturn, 1)]
set_option maxRecDepth 20000 in
theorem DL_say : Lst YL_say LL_say := by unfold Lst; decide +kernel
def LL_undo : LI := [(0, .aload_n 1, 1), (1, .iconst 0, 1), (2, .aload_n 0, 1), (3, .invokevirtual 47, 3), (6, .i2l, 1), (7, .lastore, 1), (8, .goto 6, 3), (11, .astore_n 2, 1), (12, .iconst 1, 1), (13, .ireturn, 1), (14, .iconst 0, 1), (15, .ireturn, 1)]
set_option maxRecDepth 20000 in
theorem DL_undo : Lst YL_undo LL_undo := by unfold Lst; decide +kernel
def LL_street : LI := [(0, .aload 4, 2), (2, .iconst 0, 1), (3, .aload_n 0, 1), (4, .iload_n 1, 1), (5, .iload_n 2, 1), (6, .iload_n 3, 1), (7, .invokevirtual 50, 3), (10, .i2l, 1), (11, .lastore, 1), (12, .goto 11, 3), (15, .astore 5, 2), (17, .iconst 1, 1), (18, .ireturn, 1), (19, .astore 5, 2), (21, .iconst 2, 1), (22, .ireturn, 1), (23, .iconst 0, 1), (24, .ireturn, 1)]
set_option maxRecDepth 20000 in
theorem DL_street : Lst YL_street LL_street := by unfold Lst; decide +kernel
def LL_accent : LI := [(0, .aload 4, 2), (2, .iconst 0, 1), (3, .aload_n 0, 1), (4, .iload_n 1, 1), (5, .iload_n 2, 1), (6, .iload_n 3, 1), (7, .invokevirtual 53, 3), (10, .i2l, 1), (11, .lastore, 1), (12, .goto 11, 3), (15, .astore 5, 2), (17, .iconst 1, 1), (18, .ireturn, 1), (19, .astore 5, 2), (21, .iconst 2, 1), (22, .ireturn, 1), (23, .iconst 0, 1), (24, .ireturn, 1)]
set_option maxRecDepth 20000 in
theorem DL_accent : Lst YL_accent LL_accent := by unfold Lst; decide +kernel
def LL_waits : LI := [(0, .aload_n 3, 1), (1, .iconst 0, 1), (2, .aload_n 0, 1), (3, .iload_n 1, 1), (4, .iload_n 2, 1), (5, .invokevirtual 56, 3), (8, .i2l, 1), (9, .lastore, 1), (10, .goto 7, 3), (13, .astore 4, 2), (15, .iconst 1, 1), (16, .ireturn, 1), (17, .iconst 0, 1), (18, .ireturn, 1)]
set_option maxRecDepth 20000 in
theorem DL_waits : Lst YL_waits LL_waits := by unfold Lst; decide +kernel
def LL_had : LI := [(0, .aload_n 2, 1), (1, .iconst 0, 1), (2, .aload_n 0, 1), (3, .iload_n 1, 1), (4, .invokevirtual 59, 3), (7, .lastore, 1), (8, .goto 6, 3), (11, .astore_n 3, 1), (12, .iconst 1, 1), (13, .ireturn, 1), (14, .iconst 0, 1), (15, .ireturn, 1)]
set_option maxRecDepth 20000 in
theorem DL_had : Lst YL_had LL_had := by unfold Lst; decide +kernel
def LL_count : LI := [(0, .aload_n 2, 1), (1, .iconst 0, 1), (2, .aload_n 0, 1), (3, .iload_n 1, 1), (4, .invokevirtual 63, 3), (7, .i2l, 1), (8, .lastore, 1), (9, .goto 6, 3), (12, .astore_n 3, 1), (13, .iconst 1, 1), (14, .ireturn, 1), (15, .iconst 0, 1), (16, .ireturn, 1)]
set_option maxRecDepth 20000 in
theorem DL_count : Lst YL_count LL_count := by unfold Lst; decide +kernel
def LL_setting : LI := [(0, .aload_n 2, 1), (1, .iconst 0, 1), (2, .aload_n 0, 1), (3, .iload_n 1, 1), (4, .invokevirtual 66, 3), (7, .i2l, 1), (8, .lastore, 1), (9, .goto 6, 3), (12, .astore_n 3, 1), (13, .iconst 1, 1), (14, .ireturn, 1), (15, .iconst 0, 1), (16, .ireturn, 1)]
set_option maxRecDepth 20000 in
theorem DL_setting : Lst YL_setting LL_setting := by unfold Lst; decide +kernel
def LL_sure : LI := [(0, .aload_n 3, 1), (1, .iconst 0, 1), (2, .aload_n 0, 1), (3, .iload_n 1, 1), (4, .iload_n 2, 1), (5, .invokevirtual 69, 3), (8, .i2l, 1), (9, .lastore, 1), (10, .goto 7, 3), (13, .astore 4, 2), (15, .iconst 1, 1), (16, .ireturn, 1), (17, .iconst 0, 1), (18, .ireturn, 1)]
set_option maxRecDepth 20000 in
theorem DL_sure : Lst YL_sure LL_sure := by unfold Lst; decide +kernel
def LL_ifSent : LI := [(0, .aload 4, 2), (2, .iconst 0, 1), (3, .aload_n 0, 1), (4, .iload_n 1, 1), (5, .iload_n 2, 1), (6, .iload_n 3, 1), (7, .invokevirtual 72, 3), (10, .i2l, 1), (11, .lastore, 1), (12, .goto 11, 3), (15, .astore 5, 2), (17, .iconst 1, 1), (18, .ireturn, 1), (19, .astore 5, 2), (21, .iconst 2, 1), (22, .ireturn, 1), (23, .iconst 0, 1), (24, .ireturn, 1)]
set_option maxRecDepth 20000 in
theorem DL_ifSent : Lst YL_ifSent LL_ifSent := by unfold Lst; decide +kernel
def LL_ifLearned : LI := [(0, .aload_n 3, 1), (1, .iconst 0, 1), (2, .aload_n 0, 1), (3, .iload_n 1, 1), (4, .iload_n 2, 1), (5, .invokevirtual 75, 3), (8, .i2l, 1), (9, .lastore, 1), (10, .goto 11, 3), (13, .astore 4, 2), (15, .iconst 1, 1), (16, .ireturn, 1), (17, .astore 4, 2), (19, .iconst 2, 1), (20, .ireturn, 1), (21, .iconst 0, 1), (22, .ireturn, 1)]
set_option maxRecDepth 20000 in
theorem DL_ifLearned : Lst YL_ifLearned LL_ifLearned := by unfold Lst; decide +kernel
def LL_beatsFor : LI := [(0, .aload_n 2, 1), (1, .iconst 0, 1), (2, .aload_n 0, 1), (3, .iload_n 1, 1), (4, .invokevirtual 78, 3), (7, .i2l, 1), (8, .lastore, 1), (9, .goto 6, 3), (12, .astore_n 3, 1), (13, .iconst 1, 1), (14, .ireturn, 1), (15, .iconst 0, 1), (16, .ireturn, 1)]
set_option maxRecDepth 20000 in
theorem DL_beatsFor : Lst YL_beatsFor LL_beatsFor := by unfold Lst; decide +kernel
def LL_bestLesson : LI := [(0, .aload_n 2, 1), (1, .iconst 0, 1), (2, .aload_n 0, 1), (3, .iload_n 1, 1), (4, .invokevirtual 81, 3), (7, .i2l, 1), (8, .lastore, 1), (9, .goto 6, 3), (12, .astore_n 3, 1), (13, .iconst 1, 1), (14, .ireturn, 1), (15, .iconst 0, 1), (16, .ireturn, 1)]
set_option maxRecDepth 20000 in
theorem DL_bestLesson : Lst YL_bestLesson LL_bestLesson := by unfold Lst; decide +kernel
def LL_hurts : LI := [(0, .aload_n 3, 1), (1, .iconst 0, 1), (2, .aload_n 0, 1), (3, .iload_n 1, 1), (4, .iload_n 2, 1), (5, .invokevirtual 84, 3), (8, .i2l, 1), (9, .lastore, 1), (10, .goto 7, 3), (13, .astore 4, 2), (15, .iconst 1, 1), (16, .ireturn, 1), (17, .iconst 0, 1), (18, .ireturn, 1)]
set_option maxRecDepth 20000 in
theorem DL_hurts : Lst YL_hurts LL_hurts := by unfold Lst; decide +kernel
def LL_rightShare : LI := [(0, .aload_n 2, 1), (1, .iconst 0, 1), (2, .aload_n 0, 1), (3, .iload_n 1, 1), (4, .invokevirtual 87, 3), (7, .dastore, 1), (8, .goto 6, 3), (11, .astore_n 3, 1), (12, .iconst 1, 1), (13, .ireturn, 1), (14, .iconst 0, 1), (15, .ireturn, 1)]
set_option maxRecDepth 20000 in
theorem DL_rightShare : Lst YL_rightShare LL_rightShare := by unfold Lst; decide +kernel
def LL_law_0 : LI := [(0, .new 8, 3), (3, .dup, 1), (4, .invokespecial 91, 3), (7, .astore_n 1, 1), (8, .new 92, 3), (11, .dup, 1), (12, .invokespecial 94, 3), (15, .astore_n 2, 1), (16, .iconst 1, 1), (17, .newarray .long, 2), (19, .astore_n 3, 1), (20, .iconst 1, 1), (21, .newarray .double, 2), (23, .astore 4, 2), (25, .iconst 0, 1), (26, .istore 5, 2), (28, .iload 5, 2), (30, .aload_n 0, 1), (31, .arraylength, 1), (32, .iconst 5, 1), (33, .isub, 1), (34, .if_icmp .gt 1700, 3), (37, .aload_n 0, 1), (38, .iload 5, 2), (40, .iaload, 1), (41, .bipush 31, 2), (43, .iand, 1), (44, .tableswitch 1684 0 25 #[120, 212, 292, 372, 440, 508, 576, 632, 688, 701, 714, 758, 802, 882, 962, 1030, 1085, 1141, 1197, 1265, 1345, 1413, 1469, 1525, 1593, 1670], 120), (164, .aload_n 1, 1), (165, .aload_n 0, 1), (166, .iload 5, 2), (168, .iconst 1, 1), (169, .iadd, 1), (170, .iaload, 1), (171, .aload_n 0, 1), (172, .iload 5, 2), (174, .iconst 2, 1), (175, .iadd, 1), (176, .iaload, 1), (177, .aload_n 0, 1), (178, .iload 5, 2), (180, .iconst 3, 1), (181, .iadd, 1), (182, .iaload, 1), (183, .aload_n 0, 1), (184, .iload 5, 2), (186, .iconst 4, 1), (187, .iadd, 1), (188, .iaload, 1), (189, .aload_n 3, 1), (190, .invokestatic 95, 3), (193, .istore 6, 2), (195, .aload_n 2, 1), (196, .aload_n 0, 1), (197, .iload 5, 2), (199, .iconst 1, 1), (200, .iadd, 1), (201, .iaload, 1), (202, .aload_n 0, 1), (203, .iload 5, 2), (205, .iconst 2, 1), (206, .iadd, 1), (207, .iaload, 1), (208, .aload_n 0, 1), (209, .iload 5, 2), (211, .iconst 3, 1), (212, .iadd, 1), (213, .iaload, 1), (214, .aload_n 0, 1), (215, .iload 5, 2), (217, .iconst 4, 1), (218, .iadd, 1), (219, .iaload, 1), (220, .invokevirtual 100, 3), (223, .istore 7, 2), (225, .aload_n 2, 1), (226, .invokevirtual 101, 3), (229, .iload 6, 2), (231, .if_icmp .eq 5, 3), (234, .iconst 0, 1), (235, .ireturn, 1), (236, .iload 6, 2), (238, .ifCond .ne 15, 3), (241, .aload_n 3, 1), (242, .iconst 0, 1), (243, .laload, 1), (244, .iload 7, 2), (246, .i2l, 1), (247, .lcmp, 1), (248, .ifCond .eq 5, 3), (251, .iconst 0, 1), (252, .ireturn, 1), (253, .goto 1475, 3), (256, .aload_n 1, 1), (257, .aload_n 0, 1), (258, .iload 5, 2), (260, .iconst 1, 1), (261, .iadd, 1), (262, .iaload, 1), (263, .aload_n 0, 1), (264, .iload 5, 2), (266, .iconst 2, 1), (267, .iadd, 1), (268, .iaload, 1), (269, .aload_n 0, 1), (270, .iload 5, 2), (272, .iconst 3, 1), (273, .iadd, 1), (274, .iaload, 1), (275, .aload_n 3, 1), (276, .invokestatic 104, 3), (279, .istore 6, 2), (281, .aload_n 2, 1), (282, .aload_n 0, 1), (283, .iload 5, 2), (285, .iconst 1, 1), (286, .iadd, 1), (287, .iaload, 1), (288, .aload_n 0, 1), (289, .iload 5, 2)]
set_option maxRecDepth 20000 in
theorem DL_law_0 : Lst YL_law LL_law_0 := by unfold Lst; decide +kernel
def LL_law_1 : LI := [(291, .iconst 2, 1), (292, .iadd, 1), (293, .iaload, 1), (294, .aload_n 0, 1), (295, .iload 5, 2), (297, .iconst 3, 1), (298, .iadd, 1), (299, .iaload, 1), (300, .invokevirtual 107, 3), (303, .istore 7, 2), (305, .aload_n 2, 1), (306, .invokevirtual 101, 3), (309, .iload 6, 2), (311, .if_icmp .eq 5, 3), (314, .iconst 0, 1), (315, .ireturn, 1), (316, .iload 6, 2), (318, .ifCond .ne 15, 3), (321, .aload_n 3, 1), (322, .iconst 0, 1), (323, .laload, 1), (324, .iload 7, 2), (326, .i2l, 1), (327, .lcmp, 1), (328, .ifCond .eq 5, 3), (331, .iconst 0, 1), (332, .ireturn, 1), (333, .goto 1395, 3), (336, .aload_n 1, 1), (337, .aload_n 0, 1), (338, .iload 5, 2), (340, .iconst 1, 1), (341, .iadd, 1), (342, .iaload, 1), (343, .aload_n 0, 1), (344, .iload 5, 2), (346, .iconst 2, 1), (347, .iadd, 1), (348, .iaload, 1), (349, .aload_n 0, 1), (350, .iload 5, 2), (352, .iconst 3, 1), (353, .iadd, 1), (354, .iaload, 1), (355, .aload_n 3, 1), (356, .invokestatic 108, 3), (359, .istore 6, 2), (361, .aload_n 2, 1), (362, .aload_n 0, 1), (363, .iload 5, 2), (365, .iconst 1, 1), (366, .iadd, 1), (367, .iaload, 1), (368, .aload_n 0, 1), (369, .iload 5, 2), (371, .iconst 2, 1), (372, .iadd, 1), (373, .iaload, 1), (374, .aload_n 0, 1), (375, .iload 5, 2), (377, .iconst 3, 1), (378, .iadd, 1), (379, .iaload, 1), (380, .invokevirtual 110, 3), (383, .istore 7, 2), (385, .aload_n 2, 1), (386, .invokevirtual 101, 3), (389, .iload 6, 2), (391, .if_icmp .eq 5, 3), (394, .iconst 0, 1), (395, .ireturn, 1), (396, .iload 6, 2), (398, .ifCond .ne 15, 3), (401, .aload_n 3, 1), (402, .iconst 0, 1), (403, .laload, 1), (404, .iload 7, 2), (406, .i2l, 1), (407, .lcmp, 1), (408, .ifCond .eq 5, 3), (411, .iconst 0, 1), (412, .ireturn, 1), (413, .goto 1315, 3), (416, .aload_n 1, 1), (417, .aload_n 0, 1), (418, .iload 5, 2), (420, .iconst 1, 1), (421, .iadd, 1), (422, .iaload, 1), (423, .aload_n 0, 1), (424, .iload 5, 2), (426, .iconst 2, 1), (427, .iadd, 1), (428, .iaload, 1), (429, .aload_n 3, 1), (430, .invokestatic 111, 3), (433, .istore 6, 2), (435, .aload_n 2, 1), (436, .aload_n 0, 1), (437, .iload 5, 2), (439, .iconst 1, 1), (440, .iadd, 1), (441, .iaload, 1), (442, .aload_n 0, 1), (443, .iload 5, 2), (445, .iconst 2, 1), (446, .iadd, 1), (447, .iaload, 1), (448, .invokevirtual 114, 3), (451, .istore 7, 2), (453, .aload_n 2, 1), (454, .invokevirtual 101, 3), (457, .iload 6, 2), (459, .if_icmp .eq 5, 3), (462, .iconst 0, 1), (463, .ireturn, 1), (464, .iload 6, 2), (466, .ifCond .ne 15, 3), (469, .aload_n 3, 1), (470, .iconst 0, 1)]
set_option maxRecDepth 20000 in
theorem DL_law_1 : Lst YL_law LL_law_1 := by unfold Lst; decide +kernel
def LL_law_2 : LI := [(471, .laload, 1), (472, .iload 7, 2), (474, .i2l, 1), (475, .lcmp, 1), (476, .ifCond .eq 5, 3), (479, .iconst 0, 1), (480, .ireturn, 1), (481, .goto 1247, 3), (484, .aload_n 1, 1), (485, .aload_n 0, 1), (486, .iload 5, 2), (488, .iconst 1, 1), (489, .iadd, 1), (490, .iaload, 1), (491, .aload_n 0, 1), (492, .iload 5, 2), (494, .iconst 2, 1), (495, .iadd, 1), (496, .iaload, 1), (497, .aload_n 3, 1), (498, .invokestatic 115, 3), (501, .istore 6, 2), (503, .aload_n 2, 1), (504, .aload_n 0, 1), (505, .iload 5, 2), (507, .iconst 1, 1), (508, .iadd, 1), (509, .iaload, 1), (510, .aload_n 0, 1), (511, .iload 5, 2), (513, .iconst 2, 1), (514, .iadd, 1), (515, .iaload, 1), (516, .invokevirtual 117, 3), (519, .istore 7, 2), (521, .aload_n 2, 1), (522, .invokevirtual 101, 3), (525, .iload 6, 2), (527, .if_icmp .eq 5, 3), (530, .iconst 0, 1), (531, .ireturn, 1), (532, .iload 6, 2), (534, .ifCond .ne 15, 3), (537, .aload_n 3, 1), (538, .iconst 0, 1), (539, .laload, 1), (540, .iload 7, 2), (542, .i2l, 1), (543, .lcmp, 1), (544, .ifCond .eq 5, 3), (547, .iconst 0, 1), (548, .ireturn, 1), (549, .goto 1179, 3), (552, .aload_n 1, 1), (553, .aload_n 0, 1), (554, .iload 5, 2), (556, .iconst 1, 1), (557, .iadd, 1), (558, .iaload, 1), (559, .aload_n 0, 1), (560, .iload 5, 2), (562, .iconst 2, 1), (563, .iadd, 1), (564, .iaload, 1), (565, .aload_n 3, 1), (566, .invokestatic 118, 3), (569, .istore 6, 2), (571, .aload_n 2, 1), (572, .aload_n 0, 1), (573, .iload 5, 2), (575, .iconst 1, 1), (576, .iadd, 1), (577, .iaload, 1), (578, .aload_n 0, 1), (579, .iload 5, 2), (581, .iconst 2, 1), (582, .iadd, 1), (583, .iaload, 1), (584, .invokevirtual 120, 3), (587, .istore 7, 2), (589, .aload_n 2, 1), (590, .invokevirtual 101, 3), (593, .iload 6, 2), (595, .if_icmp .eq 5, 3), (598, .iconst 0, 1), (599, .ireturn, 1), (600, .iload 6, 2), (602, .ifCond .ne 15, 3), (605, .aload_n 3, 1), (606, .iconst 0, 1), (607, .laload, 1), (608, .iload 7, 2), (610, .i2l, 1), (611, .lcmp, 1), (612, .ifCond .eq 5, 3), (615, .iconst 0, 1), (616, .ireturn, 1), (617, .goto 1111, 3), (620, .aload_n 1, 1), (621, .aload_n 0, 1), (622, .iload 5, 2), (624, .iconst 1, 1), (625, .iadd, 1), (626, .iaload, 1), (627, .aload_n 3, 1), (628, .invokestatic 121, 3), (631, .istore 6, 2), (633, .aload_n 2, 1), (634, .aload_n 0, 1), (635, .iload 5, 2), (637, .iconst 1, 1), (638, .iadd, 1), (639, .iaload, 1), (640, .invokevirtual 124, 3), (643, .istore 7, 2), (645, .aload_n 2, 1), (646, .invokevirtual 101, 3), (649, .iload 6, 2), (651, .if_icmp .eq 5, 3), (654, .iconst 0, 1)]
set_option maxRecDepth 20000 in
theorem DL_law_2 : Lst YL_law LL_law_2 := by unfold Lst; decide +kernel
def LL_law_3 : LI := [(655, .ireturn, 1), (656, .iload 6, 2), (658, .ifCond .ne 15, 3), (661, .aload_n 3, 1), (662, .iconst 0, 1), (663, .laload, 1), (664, .iload 7, 2), (666, .i2l, 1), (667, .lcmp, 1), (668, .ifCond .eq 5, 3), (671, .iconst 0, 1), (672, .ireturn, 1), (673, .goto 1055, 3), (676, .aload_n 1, 1), (677, .aload_n 0, 1), (678, .iload 5, 2), (680, .iconst 1, 1), (681, .iadd, 1), (682, .iaload, 1), (683, .aload_n 3, 1), (684, .invokestatic 125, 3), (687, .istore 6, 2), (689, .aload_n 2, 1), (690, .aload_n 0, 1), (691, .iload 5, 2), (693, .iconst 1, 1), (694, .iadd, 1), (695, .iaload, 1), (696, .invokevirtual 127, 3), (699, .istore 7, 2), (701, .aload_n 2, 1), (702, .invokevirtual 101, 3), (705, .iload 6, 2), (707, .if_icmp .eq 5, 3), (710, .iconst 0, 1), (711, .ireturn, 1), (712, .iload 6, 2), (714, .ifCond .ne 15, 3), (717, .aload_n 3, 1), (718, .iconst 0, 1), (719, .laload, 1), (720, .iload 7, 2), (722, .i2l, 1), (723, .lcmp, 1), (724, .ifCond .eq 5, 3), (727, .iconst 0, 1), (728, .ireturn, 1), (729, .goto 999, 3), (732, .aload_n 1, 1), (733, .invokevirtual 128, 3), (736, .aload_n 2, 1), (737, .invokevirtual 131, 3), (740, .if_icmp .eq 988, 3), (743, .iconst 0, 1), (744, .ireturn, 1), (745, .aload_n 1, 1), (746, .invokevirtual 132, 3), (749, .aload_n 2, 1), (750, .invokevirtual 135, 3), (753, .if_icmp .eq 975, 3), (756, .iconst 0, 1), (757, .ireturn, 1), (758, .aload_n 1, 1), (759, .aload_n 3, 1), (760, .invokestatic 136, 3), (763, .istore 6, 2), (765, .aload_n 2, 1), (766, .invokevirtual 139, 3), (769, .istore 7, 2), (771, .aload_n 2, 1), (772, .invokevirtual 101, 3), (775, .iload 6, 2), (777, .if_icmp .eq 5, 3), (780, .iconst 0, 1), (781, .ireturn, 1), (782, .iload 6, 2), (784, .ifCond .ne 15, 3), (787, .aload_n 3, 1), (788, .iconst 0, 1), (789, .laload, 1), (790, .iload 7, 2), (792, .i2l, 1), (793, .lcmp, 1), (794, .ifCond .eq 5, 3), (797, .iconst 0, 1), (798, .ireturn, 1), (799, .goto 929, 3), (802, .aload_n 1, 1), (803, .aload_n 3, 1), (804, .invokestatic 140, 3), (807, .istore 6, 2), (809, .aload_n 2, 1), (810, .invokevirtual 142, 3), (813, .istore 7, 2), (815, .aload_n 2, 1), (816, .invokevirtual 101, 3), (819, .iload 6, 2), (821, .if_icmp .eq 5, 3), (824, .iconst 0, 1), (825, .ireturn, 1), (826, .iload 6, 2), (828, .ifCond .ne 15, 3), (831, .aload_n 3, 1), (832, .iconst 0, 1), (833, .laload, 1), (834, .iload 7, 2), (836, .i2l, 1), (837, .lcmp, 1), (838, .ifCond .eq 5, 3), (841, .iconst 0, 1), (842, .ireturn, 1), (843, .goto 885, 3), (846, .aload_n 1, 1), (847, .aload_n 0, 1), (848, .iload 5, 2), (850, .iconst 1, 1), (851, .iadd, 1), (852, .iaload, 1), (853, .aload_n 0, 1), (854, .iload 5, 2)]
set_option maxRecDepth 20000 in
theorem DL_law_3 : Lst YL_law LL_law_3 := by unfold Lst; decide +kernel
def LL_law_4 : LI := [(856, .iconst 2, 1), (857, .iadd, 1), (858, .iaload, 1), (859, .aload_n 0, 1), (860, .iload 5, 2), (862, .iconst 3, 1), (863, .iadd, 1), (864, .iaload, 1), (865, .aload_n 3, 1), (866, .invokestatic 143, 3), (869, .istore 6, 2), (871, .aload_n 2, 1), (872, .aload_n 0, 1), (873, .iload 5, 2), (875, .iconst 1, 1), (876, .iadd, 1), (877, .iaload, 1), (878, .aload_n 0, 1), (879, .iload 5, 2), (881, .iconst 2, 1), (882, .iadd, 1), (883, .iaload, 1), (884, .aload_n 0, 1), (885, .iload 5, 2), (887, .iconst 3, 1), (888, .iadd, 1), (889, .iaload, 1), (890, .invokevirtual 145, 3), (893, .istore 7, 2), (895, .aload_n 2, 1), (896, .invokevirtual 101, 3), (899, .iload 6, 2), (901, .if_icmp .eq 5, 3), (904, .iconst 0, 1), (905, .ireturn, 1), (906, .iload 6, 2), (908, .ifCond .ne 15, 3), (911, .aload_n 3, 1), (912, .iconst 0, 1), (913, .laload, 1), (914, .iload 7, 2), (916, .i2l, 1), (917, .lcmp, 1), (918, .ifCond .eq 5, 3), (921, .iconst 0, 1), (922, .ireturn, 1), (923, .goto 805, 3), (926, .aload_n 1, 1), (927, .aload_n 0, 1), (928, .iload 5, 2), (930, .iconst 1, 1), (931, .iadd, 1), (932, .iaload, 1), (933, .aload_n 0, 1), (934, .iload 5, 2), (936, .iconst 2, 1), (937, .iadd, 1), (938, .iaload, 1), (939, .aload_n 0, 1), (940, .iload 5, 2), (942, .iconst 3, 1), (943, .iadd, 1), (944, .iaload, 1), (945, .aload_n 3, 1), (946, .invokestatic 146, 3), (949, .istore 6, 2), (951, .aload_n 2, 1), (952, .aload_n 0, 1), (953, .iload 5, 2), (955, .iconst 1, 1), (956, .iadd, 1), (957, .iaload, 1), (958, .aload_n 0, 1), (959, .iload 5, 2), (961, .iconst 2, 1), (962, .iadd, 1), (963, .iaload, 1), (964, .aload_n 0, 1), (965, .iload 5, 2), (967, .iconst 3, 1), (968, .iadd, 1), (969, .iaload, 1), (970, .invokevirtual 148, 3), (973, .istore 7, 2), (975, .aload_n 2, 1), (976, .invokevirtual 101, 3), (979, .iload 6, 2), (981, .if_icmp .eq 5, 3), (984, .iconst 0, 1), (985, .ireturn, 1), (986, .iload 6, 2), (988, .ifCond .ne 15, 3), (991, .aload_n 3, 1), (992, .iconst 0, 1), (993, .laload, 1), (994, .iload 7, 2), (996, .i2l, 1), (997, .lcmp, 1), (998, .ifCond .eq 5, 3), (1001, .iconst 0, 1), (1002, .ireturn, 1), (1003, .goto 725, 3), (1006, .aload_n 1, 1), (1007, .aload_n 0, 1), (1008, .iload 5, 2), (1010, .iconst 1, 1), (1011, .iadd, 1), (1012, .iaload, 1), (1013, .aload_n 0, 1), (1014, .iload 5, 2), (1016, .iconst 2, 1), (1017, .iadd, 1), (1018, .iaload, 1), (1019, .aload_n 3, 1), (1020, .invokestatic 149, 3), (1023, .istore 6, 2), (1025, .aload_n 2, 1), (1026, .aload_n 0, 1), (1027, .iload 5, 2), (1029, .iconst 1, 1)]
set_option maxRecDepth 20000 in
theorem DL_law_4 : Lst YL_law LL_law_4 := by unfold Lst; decide +kernel
def LL_law_5 : LI := [(1030, .iadd, 1), (1031, .iaload, 1), (1032, .aload_n 0, 1), (1033, .iload 5, 2), (1035, .iconst 2, 1), (1036, .iadd, 1), (1037, .iaload, 1), (1038, .invokevirtual 151, 3), (1041, .istore 7, 2), (1043, .aload_n 2, 1), (1044, .invokevirtual 101, 3), (1047, .iload 6, 2), (1049, .if_icmp .eq 5, 3), (1052, .iconst 0, 1), (1053, .ireturn, 1), (1054, .iload 6, 2), (1056, .ifCond .ne 15, 3), (1059, .aload_n 3, 1), (1060, .iconst 0, 1), (1061, .laload, 1), (1062, .iload 7, 2), (1064, .i2l, 1), (1065, .lcmp, 1), (1066, .ifCond .eq 5, 3), (1069, .iconst 0, 1), (1070, .ireturn, 1), (1071, .goto 657, 3), (1074, .aload_n 1, 1), (1075, .aload_n 0, 1), (1076, .iload 5, 2), (1078, .iconst 1, 1), (1079, .iadd, 1), (1080, .iaload, 1), (1081, .aload_n 3, 1), (1082, .invokestatic 152, 3), (1085, .istore 6, 2), (1087, .aload_n 2, 1), (1088, .aload_n 0, 1), (1089, .iload 5, 2), (1091, .iconst 1, 1), (1092, .iadd, 1), (1093, .iaload, 1), (1094, .invokevirtual 154, 3), (1097, .lstore 7, 2), (1099, .aload_n 2, 1), (1100, .invokevirtual 101, 3), (1103, .iload 6, 2), (1105, .if_icmp .eq 5, 3), (1108, .iconst 0, 1), (1109, .ireturn, 1), (1110, .iload 6, 2), (1112, .ifCond .ne 14, 3), (1115, .aload_n 3, 1), (1116, .iconst 0, 1), (1117, .laload, 1), (1118, .lload 7, 2), (1120, .lcmp, 1), (1121, .ifCond .eq 5, 3), (1124, .iconst 0, 1), (1125, .ireturn, 1), (1126, .goto 602, 3), (1129, .aload_n 1, 1), (1130, .aload_n 0, 1), (1131, .iload 5, 2), (1133, .iconst 1, 1), (1134, .iadd, 1), (1135, .iaload, 1), (1136, .aload_n 3, 1), (1137, .invokestatic 155, 3), (1140, .istore 6, 2), (1142, .aload_n 2, 1), (1143, .aload_n 0, 1), (1144, .iload 5, 2), (1146, .iconst 1, 1), (1147, .iadd, 1), (1148, .iaload, 1), (1149, .invokevirtual 157, 3), (1152, .istore 7, 2), (1154, .aload_n 2, 1), (1155, .invokevirtual 101, 3), (1158, .iload 6, 2), (1160, .if_icmp .eq 5, 3), (1163, .iconst 0, 1), (1164, .ireturn, 1), (1165, .iload 6, 2), (1167, .ifCond .ne 15, 3), (1170, .aload_n 3, 1), (1171, .iconst 0, 1), (1172, .laload, 1), (1173, .iload 7, 2), (1175, .i2l, 1), (1176, .lcmp, 1), (1177, .ifCond .eq 5, 3), (1180, .iconst 0, 1), (1181, .ireturn, 1), (1182, .goto 546, 3), (1185, .aload_n 1, 1), (1186, .aload_n 0, 1), (1187, .iload 5, 2), (1189, .iconst 1, 1), (1190, .iadd, 1), (1191, .iaload, 1), (1192, .aload_n 3, 1), (1193, .invokestatic 158, 3), (1196, .istore 6, 2), (1198, .aload_n 2, 1), (1199, .aload_n 0, 1), (1200, .iload 5, 2), (1202, .iconst 1, 1), (1203, .iadd, 1), (1204, .iaload, 1), (1205, .invokevirtual 160, 3), (1208, .istore 7, 2), (1210, .aload_n 2, 1), (1211, .invokevirtual 101, 3), (1214, .iload 6, 2), (1216, .if_icmp .eq 5, 3), (1219, .iconst 0, 1), (1220, .ireturn, 1), (1221, .iload 6, 2)]
set_option maxRecDepth 20000 in
theorem DL_law_5 : Lst YL_law LL_law_5 := by unfold Lst; decide +kernel
def LL_law_6 : LI := [(1223, .ifCond .ne 15, 3), (1226, .aload_n 3, 1), (1227, .iconst 0, 1), (1228, .laload, 1), (1229, .iload 7, 2), (1231, .i2l, 1), (1232, .lcmp, 1), (1233, .ifCond .eq 5, 3), (1236, .iconst 0, 1), (1237, .ireturn, 1), (1238, .goto 490, 3), (1241, .aload_n 1, 1), (1242, .aload_n 0, 1), (1243, .iload 5, 2), (1245, .iconst 1, 1), (1246, .iadd, 1), (1247, .iaload, 1), (1248, .aload_n 0, 1), (1249, .iload 5, 2), (1251, .iconst 2, 1), (1252, .iadd, 1), (1253, .iaload, 1), (1254, .aload_n 3, 1), (1255, .invokestatic 161, 3), (1258, .istore 6, 2), (1260, .aload_n 2, 1), (1261, .aload_n 0, 1), (1262, .iload 5, 2), (1264, .iconst 1, 1), (1265, .iadd, 1), (1266, .iaload, 1), (1267, .aload_n 0, 1), (1268, .iload 5, 2), (1270, .iconst 2, 1), (1271, .iadd, 1), (1272, .iaload, 1), (1273, .invokevirtual 163, 3), (1276, .istore 7, 2), (1278, .aload_n 2, 1), (1279, .invokevirtual 101, 3), (1282, .iload 6, 2), (1284, .if_icmp .eq 5, 3), (1287, .iconst 0, 1), (1288, .ireturn, 1), (1289, .iload 6, 2), (1291, .ifCond .ne 15, 3), (1294, .aload_n 3, 1), (1295, .iconst 0, 1), (1296, .laload, 1), (1297, .iload 7, 2), (1299, .i2l, 1), (1300, .lcmp, 1), (1301, .ifCond .eq 5, 3), (1304, .iconst 0, 1), (1305, .ireturn, 1), (1306, .goto 422, 3), (1309, .aload_n 1, 1), (1310, .aload_n 0, 1), (1311, .iload 5, 2), (1313, .iconst 1, 1), (1314, .iadd, 1), (1315, .iaload, 1), (1316, .aload_n 0, 1), (1317, .iload 5, 2), (1319, .iconst 2, 1), (1320, .iadd, 1), (1321, .iaload, 1), (1322, .aload_n 0, 1), (1323, .iload 5, 2), (1325, .iconst 3, 1), (1326, .iadd, 1), (1327, .iaload, 1), (1328, .aload_n 3, 1), (1329, .invokestatic 164, 3), (1332, .istore 6, 2), (1334, .aload_n 2, 1), (1335, .aload_n 0, 1), (1336, .iload 5, 2), (1338, .iconst 1, 1), (1339, .iadd, 1), (1340, .iaload, 1), (1341, .aload_n 0, 1), (1342, .iload 5, 2), (1344, .iconst 2, 1), (1345, .iadd, 1), (1346, .iaload, 1), (1347, .aload_n 0, 1), (1348, .iload 5, 2), (1350, .iconst 3, 1), (1351, .iadd, 1), (1352, .iaload, 1), (1353, .invokevirtual 166, 3), (1356, .istore 7, 2), (1358, .aload_n 2, 1), (1359, .invokevirtual 101, 3), (1362, .iload 6, 2), (1364, .if_icmp .eq 5, 3), (1367, .iconst 0, 1), (1368, .ireturn, 1), (1369, .iload 6, 2), (1371, .ifCond .ne 15, 3), (1374, .aload_n 3, 1), (1375, .iconst 0, 1), (1376, .laload, 1), (1377, .iload 7, 2), (1379, .i2l, 1), (1380, .lcmp, 1), (1381, .ifCond .eq 5, 3), (1384, .iconst 0, 1), (1385, .ireturn, 1), (1386, .goto 342, 3), (1389, .aload_n 1, 1), (1390, .aload_n 0, 1), (1391, .iload 5, 2), (1393, .iconst 1, 1), (1394, .iadd, 1), (1395, .iaload, 1), (1396, .aload_n 0, 1), (1397, .iload 5, 2), (1399, .iconst 2, 1)]
set_option maxRecDepth 20000 in
theorem DL_law_6 : Lst YL_law LL_law_6 := by unfold Lst; decide +kernel
def LL_law_7 : LI := [(1400, .iadd, 1), (1401, .iaload, 1), (1402, .aload_n 3, 1), (1403, .invokestatic 167, 3), (1406, .istore 6, 2), (1408, .aload_n 2, 1), (1409, .aload_n 0, 1), (1410, .iload 5, 2), (1412, .iconst 1, 1), (1413, .iadd, 1), (1414, .iaload, 1), (1415, .aload_n 0, 1), (1416, .iload 5, 2), (1418, .iconst 2, 1), (1419, .iadd, 1), (1420, .iaload, 1), (1421, .invokevirtual 169, 3), (1424, .istore 7, 2), (1426, .aload_n 2, 1), (1427, .invokevirtual 101, 3), (1430, .iload 6, 2), (1432, .if_icmp .eq 5, 3), (1435, .iconst 0, 1), (1436, .ireturn, 1), (1437, .iload 6, 2), (1439, .ifCond .ne 15, 3), (1442, .aload_n 3, 1), (1443, .iconst 0, 1), (1444, .laload, 1), (1445, .iload 7, 2), (1447, .i2l, 1), (1448, .lcmp, 1), (1449, .ifCond .eq 5, 3), (1452, .iconst 0, 1), (1453, .ireturn, 1), (1454, .goto 274, 3), (1457, .aload_n 1, 1), (1458, .aload_n 0, 1), (1459, .iload 5, 2), (1461, .iconst 1, 1), (1462, .iadd, 1), (1463, .iaload, 1), (1464, .aload_n 3, 1), (1465, .invokestatic 170, 3), (1468, .istore 6, 2), (1470, .aload_n 2, 1), (1471, .aload_n 0, 1), (1472, .iload 5, 2), (1474, .iconst 1, 1), (1475, .iadd, 1), (1476, .iaload, 1), (1477, .invokevirtual 172, 3), (1480, .istore 7, 2), (1482, .aload_n 2, 1), (1483, .invokevirtual 101, 3), (1486, .iload 6, 2), (1488, .if_icmp .eq 5, 3), (1491, .iconst 0, 1), (1492, .ireturn, 1), (1493, .iload 6, 2), (1495, .ifCond .ne 15, 3), (1498, .aload_n 3, 1), (1499, .iconst 0, 1), (1500, .laload, 1), (1501, .iload 7, 2), (1503, .i2l, 1), (1504, .lcmp, 1), (1505, .ifCond .eq 5, 3), (1508, .iconst 0, 1), (1509, .ireturn, 1), (1510, .goto 218, 3), (1513, .aload_n 1, 1), (1514, .aload_n 0, 1), (1515, .iload 5, 2), (1517, .iconst 1, 1), (1518, .iadd, 1), (1519, .iaload, 1), (1520, .aload_n 3, 1), (1521, .invokestatic 173, 3), (1524, .istore 6, 2), (1526, .aload_n 2, 1), (1527, .aload_n 0, 1), (1528, .iload 5, 2), (1530, .iconst 1, 1), (1531, .iadd, 1), (1532, .iaload, 1), (1533, .invokevirtual 175, 3), (1536, .istore 7, 2), (1538, .aload_n 2, 1), (1539, .invokevirtual 101, 3), (1542, .iload 6, 2), (1544, .if_icmp .eq 5, 3), (1547, .iconst 0, 1), (1548, .ireturn, 1), (1549, .iload 6, 2), (1551, .ifCond .ne 15, 3), (1554, .aload_n 3, 1), (1555, .iconst 0, 1), (1556, .laload, 1), (1557, .iload 7, 2), (1559, .i2l, 1), (1560, .lcmp, 1), (1561, .ifCond .eq 5, 3), (1564, .iconst 0, 1), (1565, .ireturn, 1), (1566, .goto 162, 3), (1569, .aload_n 1, 1), (1570, .aload_n 0, 1), (1571, .iload 5, 2), (1573, .iconst 1, 1), (1574, .iadd, 1), (1575, .iaload, 1), (1576, .aload_n 0, 1), (1577, .iload 5, 2), (1579, .iconst 2, 1), (1580, .iadd, 1), (1581, .iaload, 1), (1582, .aload_n 3, 1), (1583, .invokestatic 176, 3), (1586, .istore 6, 2)]
set_option maxRecDepth 20000 in
theorem DL_law_7 : Lst YL_law LL_law_7 := by unfold Lst; decide +kernel
def LL_law_8 : LI := [(1588, .aload_n 2, 1), (1589, .aload_n 0, 1), (1590, .iload 5, 2), (1592, .iconst 1, 1), (1593, .iadd, 1), (1594, .iaload, 1), (1595, .aload_n 0, 1), (1596, .iload 5, 2), (1598, .iconst 2, 1), (1599, .iadd, 1), (1600, .iaload, 1), (1601, .invokevirtual 178, 3), (1604, .istore 7, 2), (1606, .aload_n 2, 1), (1607, .invokevirtual 101, 3), (1610, .iload 6, 2), (1612, .if_icmp .eq 5, 3), (1615, .iconst 0, 1), (1616, .ireturn, 1), (1617, .iload 6, 2), (1619, .ifCond .ne 15, 3), (1622, .aload_n 3, 1), (1623, .iconst 0, 1), (1624, .laload, 1), (1625, .iload 7, 2), (1627, .i2l, 1), (1628, .lcmp, 1), (1629, .ifCond .eq 5, 3), (1632, .iconst 0, 1), (1633, .ireturn, 1), (1634, .goto 94, 3), (1637, .aload_n 1, 1), (1638, .aload_n 0, 1), (1639, .iload 5, 2), (1641, .iconst 1, 1), (1642, .iadd, 1), (1643, .iaload, 1), (1644, .aload 4, 2), (1646, .invokestatic 179, 3), (1649, .istore 6, 2), (1651, .aload_n 2, 1), (1652, .aload_n 0, 1), (1653, .iload 5, 2), (1655, .iconst 1, 1), (1656, .iadd, 1), (1657, .iaload, 1), (1658, .invokevirtual 182, 3), (1661, .dstore 7, 2), (1663, .aload_n 2, 1), (1664, .invokevirtual 101, 3), (1667, .iload 6, 2), (1669, .if_icmp .eq 5, 3), (1672, .iconst 0, 1), (1673, .ireturn, 1), (1674, .iload 6, 2), (1676, .ifCond .ne 35, 3), (1679, .aload 4, 2), (1681, .iconst 0, 1), (1682, .daload, 1), (1683, .dload 7, 2), (1685, .dcmp .l, 1), (1686, .ifCond .eq 25, 3), (1689, .aload 4, 2), (1691, .iconst 0, 1), (1692, .daload, 1), (1693, .aload 4, 2), (1695, .iconst 0, 1), (1696, .daload, 1), (1697, .dcmp .l, 1), (1698, .ifCond .eq 11, 3), (1701, .dload 7, 2), (1703, .dload 7, 2), (1705, .dcmp .l, 1), (1706, .ifCond .ne 5, 3), (1709, .iconst 0, 1), (1710, .ireturn, 1), (1711, .goto 17, 3), (1714, .aload_n 1, 1), (1715, .invokevirtual 183, 3), (1718, .aload_n 2, 1), (1719, .invokevirtual 187, 3), (1722, .lcmp, 1), (1723, .ifCond .eq 5, 3), (1726, .iconst 0, 1), (1727, .ireturn, 1), (1728, .iinc 5 5, 3), (1731, .goto (-1703), 3), (1734, .iconst 1, 1), (1735, .ireturn, 1)]
set_option maxRecDepth 20000 in
theorem DL_law_8 : Lst YL_law LL_law_8 := by unfold Lst; decide +kernel
