/-! ===== BEGIN printed: names, fields, word lists, decode rows ===== -/
def RX0 : String := "LanternPrimes$Lamp"
def TX0 : u_T := fun k => match k with
  | 0 => ("LanternPrimes$Lamp", "numbers", "[I", true)
  | 1 => ("LanternPrimes$Lamp", "offsets", "[I", true)
  | 2 => ("LanternPrimes$Lamp", "beatCount", "I", false)
  | 3 => ("LanternPrimes$Lamp", "onAtStart", "Z", false)
  | _ => ("LanternPrimes$Lamp", "covered", "Z", false)
def tyX0 : Nat → FieldType := fun k => match k with
  | 0 => .array .int
  | 1 => .array .int
  | 2 => .int
  | 3 => .boolean
  | _ => .boolean
abbrev wsX00 : List Cond := u_ws RX0 TX0 5
theorem nmX0 : ∀ a, a < 5 → ∀ b, b < 5 → a ≠ b → (TX0 a).2.1 ≠ (TX0 b).2.1 := by decide +kernel
theorem tyX0_ok : ∀ k, k < 5 → parseFieldDescriptor (TX0 k).2.2.1 = some (tyX0 k) := by decide +kernel
abbrev cX0_init : ByteArray := prog_2_method_1_code
def yX0_init : MethodName := ⟨RX0, "<init>", "()V"⟩
abbrev cX0_append : ByteArray := prog_2_method_2_code
def yX0_append : MethodName := ⟨RX0, "append", "(II)V"⟩
abbrev cX0_remove : ByteArray := prog_2_method_3_code
def yX0_remove : MethodName := ⟨RX0, "remove", "(I)V"⟩
abbrev cX0_becomeDifference : ByteArray := prog_2_method_4_code
def yX0_becomeDifference : MethodName := ⟨RX0, "becomeDifference", "(LLanternPrimes$Lamp;LLanternPrimes$Lamp;)V"⟩
abbrev cX0_appendBeatsOf : ByteArray := prog_2_method_5_code
def yX0_appendBeatsOf : MethodName := ⟨RX0, "appendBeatsOf", "(LLanternPrimes$Lamp;)V"⟩
abbrev cX0_strikes : ByteArray := prog_2_method_6_code
def yX0_strikes : MethodName := ⟨RX0, "strikes", "(I)I"⟩
abbrev cX0_changesAt : ByteArray := prog_2_method_7_code
def yX0_changesAt : MethodName := ⟨RX0, "changesAt", "(I)Z"⟩
abbrev cX0_litAt : ByteArray := prog_2_method_8_code
def yX0_litAt : MethodName := ⟨RX0, "litAt", "(I)Z"⟩
abbrev cX0_onAt : ByteArray := prog_2_method_9_code
def yX0_onAt : MethodName := ⟨RX0, "onAt", "(I)Z"⟩
abbrev cX0_strikesUpTo : ByteArray := prog_2_method_10_code
def yX0_strikesUpTo : MethodName := ⟨RX0, "strikesUpTo", "(III)I"⟩
abbrev cX0_neverChanges : ByteArray := prog_2_method_11_code
def yX0_neverChanges : MethodName := ⟨RX0, "neverChanges", "()Z"⟩
abbrev cX0_cycle : ByteArray := prog_2_method_12_code
def yX0_cycle : MethodName := ⟨RX0, "cycle", "()I"⟩
abbrev cX0_changeCycle : ByteArray := prog_2_method_13_code
def yX0_changeCycle : MethodName := ⟨RX0, "changeCycle", "()I"⟩
abbrev cX0_turningRemainders : ByteArray := prog_2_method_14_code
def yX0_turningRemainders : MethodName := ⟨RX0, "turningRemainders", "(I)I"⟩
abbrev cX0_untilChange : ByteArray := prog_2_method_15_code
def yX0_untilChange : MethodName := ⟨RX0, "untilChange", "(I)I"⟩
abbrev cX0_isOdd : ByteArray := prog_2_method_16_code
def yX0_isOdd : MethodName := ⟨RX0, "isOdd", "(I)Z"⟩
def RX1 : String := "LanternPrimes"
def TX1 : u_T := fun k => match k with
  | 0 => ("LanternPrimes", "row", "[LLanternPrimes$Lamp;", true)
  | 1 => ("LanternPrimes", "difference", "LLanternPrimes$Lamp;", true)
  | 2 => ("LanternPrimes", "lampCount", "I", false)
  | 3 => ("LanternPrimes", "present", "I", false)
  | _ => ("LanternPrimes", "changesTold", "I", false)
def tyX1 : Nat → FieldType := fun k => match k with
  | 0 => .array (.object "LanternPrimes$Lamp")
  | 1 => .object "LanternPrimes$Lamp"
  | 2 => .int
  | 3 => .int
  | _ => .int
abbrev wsX10 : List Cond := u_ws RX1 TX1 5
theorem nmX1 : ∀ a, a < 5 → ∀ b, b < 5 → a ≠ b → (TX1 a).2.1 ≠ (TX1 b).2.1 := by decide +kernel
theorem tyX1_ok : ∀ k, k < 5 → parseFieldDescriptor (TX1 k).2.2.1 = some (tyX1 k) := by decide +kernel
abbrev cX1_init : ByteArray := prog_1_method_1_code
def yX1_init : MethodName := ⟨RX1, "<init>", "()V"⟩
abbrev cX1_addLamp : ByteArray := prog_1_method_2_code
def yX1_addLamp : MethodName := ⟨RX1, "addLamp", "(Z)I"⟩
abbrev cX1_addBeat : ByteArray := prog_1_method_3_code
def yX1_addBeat : MethodName := ⟨RX1, "addBeat", "(III)I"⟩
abbrev cX1_moveBeat : ByteArray := prog_1_method_4_code
def yX1_moveBeat : MethodName := ⟨RX1, "moveBeat", "(III)I"⟩
abbrev cX1_takeBeat : ByteArray := prog_1_method_5_code
def yX1_takeBeat : MethodName := ⟨RX1, "takeBeat", "(II)I"⟩
abbrev cX1_turnShutter : ByteArray := prog_1_method_6_code
def yX1_turnShutter : MethodName := ⟨RX1, "turnShutter", "(I)Z"⟩
abbrev cX1_pass : ByteArray := prog_1_method_7_code
def yX1_pass : MethodName := ⟨RX1, "pass", "(I)I"⟩
abbrev cX1_lamps : ByteArray := prog_1_method_8_code
def yX1_lamps : MethodName := ⟨RX1, "lamps", "()I"⟩
abbrev cX1_now : ByteArray := prog_1_method_9_code
def yX1_now : MethodName := ⟨RX1, "now", "()I"⟩
abbrev cX1_changesSeen : ByteArray := prog_1_method_10_code
def yX1_changesSeen : MethodName := ⟨RX1, "changesSeen", "()I"⟩
abbrev cX1_beatsOf : ByteArray := prog_1_method_11_code
def yX1_beatsOf : MethodName := ⟨RX1, "beatsOf", "(I)I"⟩
abbrev cX1_numberOf : ByteArray := prog_1_method_12_code
def yX1_numberOf : MethodName := ⟨RX1, "numberOf", "(II)I"⟩
abbrev cX1_offsetOf : ByteArray := prog_1_method_13_code
def yX1_offsetOf : MethodName := ⟨RX1, "offsetOf", "(II)I"⟩
abbrev cX1_isCovered : ByteArray := prog_1_method_14_code
def yX1_isCovered : MethodName := ⟨RX1, "isCovered", "(I)Z"⟩
abbrev cX1_isOn : ByteArray := prog_1_method_15_code
def yX1_isOn : MethodName := ⟨RX1, "isOn", "(I)Z"⟩
abbrev cX1_isLit : ByteArray := prog_1_method_16_code
def yX1_isLit : MethodName := ⟨RX1, "isLit", "(I)Z"⟩
abbrev cX1_litLamps : ByteArray := prog_1_method_17_code
def yX1_litLamps : MethodName := ⟨RX1, "litLamps", "()I"⟩
abbrev cX1_isDark : ByteArray := prog_1_method_18_code
def yX1_isDark : MethodName := ⟨RX1, "isDark", "()Z"⟩
abbrev cX1_isOnAt : ByteArray := prog_1_method_19_code
def yX1_isOnAt : MethodName := ⟨RX1, "isOnAt", "(II)Z"⟩
abbrev cX1_strikesAt : ByteArray := prog_1_method_20_code
def yX1_strikesAt : MethodName := ⟨RX1, "strikesAt", "(II)I"⟩
abbrev cX1_isSteady : ByteArray := prog_1_method_21_code
def yX1_isSteady : MethodName := ⟨RX1, "isSteady", "(I)Z"⟩
abbrev cX1_cycleOf : ByteArray := prog_1_method_22_code
def yX1_cycleOf : MethodName := ⟨RX1, "cycleOf", "(I)I"⟩
abbrev cX1_momentsUntilChange : ByteArray := prog_1_method_23_code
def yX1_momentsUntilChange : MethodName := ⟨RX1, "momentsUntilChange", "(I)I"⟩
abbrev cX1_shows : ByteArray := prog_1_method_24_code
def yX1_shows : MethodName := ⟨RX1, "shows", "(II)I"⟩
abbrev cX1_momentsUntilCollision : ByteArray := prog_1_method_25_code
def yX1_momentsUntilCollision : MethodName := ⟨RX1, "momentsUntilCollision", "(II)I"⟩
abbrev cX1_collisionsWithin : ByteArray := prog_1_method_26_code
def yX1_collisionsWithin : MethodName := ⟨RX1, "collisionsWithin", "(III)I"⟩
abbrev cX1_momentsUntilToldApart : ByteArray := prog_1_method_27_code
def yX1_momentsUntilToldApart : MethodName := ⟨RX1, "momentsUntilToldApart", "(II)I"⟩
abbrev cX1_momentsUntilDark : ByteArray := prog_1_method_28_code
def yX1_momentsUntilDark : MethodName := ⟨RX1, "momentsUntilDark", "()I"⟩
abbrev cX1_darkWithin : ByteArray := prog_1_method_29_code
def yX1_darkWithin : MethodName := ⟨RX1, "darkWithin", "(I)I"⟩
abbrev cX1_brightestWithin : ByteArray := prog_1_method_30_code
def yX1_brightestWithin : MethodName := ⟨RX1, "brightestWithin", "(I)I"⟩
abbrev cX1_bestCover : ByteArray := prog_1_method_31_code
def yX1_bestCover : MethodName := ⟨RX1, "bestCover", "(I)I"⟩
abbrev cX1_meanBeats : ByteArray := prog_1_method_32_code
def yX1_meanBeats : MethodName := ⟨RX1, "meanBeats", "()D"⟩
abbrev cX1_digest : ByteArray := prog_1_method_33_code
def yX1_digest : MethodName := ⟨RX1, "digest", "()J"⟩
abbrev cX1_mixedWithLamp : ByteArray := prog_1_method_34_code
def yX1_mixedWithLamp : MethodName := ⟨RX1, "mixedWithLamp", "(JLLanternPrimes$Lamp;)J"⟩
abbrev cX1_mixed : ByteArray := prog_1_method_35_code
def yX1_mixed : MethodName := ⟨RX1, "mixed", "(JJ)J"⟩
abbrev cX1_needLamp : ByteArray := prog_1_method_36_code
def yX1_needLamp : MethodName := ⟨RX1, "needLamp", "(I)V"⟩
abbrev cX1_needBeat : ByteArray := prog_1_method_37_code
def yX1_needBeat : MethodName := ⟨RX1, "needBeat", "(II)V"⟩
abbrev cX1_needPair : ByteArray := prog_1_method_38_code
def yX1_needPair : MethodName := ⟨RX1, "needPair", "(II)V"⟩
abbrev cX1_needNumber : ByteArray := prog_1_method_39_code
def yX1_needNumber : MethodName := ⟨RX1, "needNumber", "(I)V"⟩
abbrev cX1_needOffset : ByteArray := prog_1_method_40_code
def yX1_needOffset : MethodName := ⟨RX1, "needOffset", "(II)V"⟩
abbrev cX1_needMoment : ByteArray := prog_1_method_41_code
def yX1_needMoment : MethodName := ⟨RX1, "needMoment", "(I)V"⟩
abbrev cX1_needMoments : ByteArray := prog_1_method_42_code
def yX1_needMoments : MethodName := ⟨RX1, "needMoments", "(II)V"⟩
abbrev cX1_changesOfLamps : ByteArray := prog_1_method_43_code
def yX1_changesOfLamps : MethodName := ⟨RX1, "changesOfLamps", "(I)I"⟩
abbrev cX1_litCount : ByteArray := prog_1_method_44_code
def yX1_litCount : MethodName := ⟨RX1, "litCount", "(I)I"⟩
abbrev cX1_darkAt : ByteArray := prog_1_method_45_code
def yX1_darkAt : MethodName := ⟨RX1, "darkAt", "(II)Z"⟩
abbrev cX1_darkMoments : ByteArray := prog_1_method_46_code
def yX1_darkMoments : MethodName := ⟨RX1, "darkMoments", "(II)I"⟩
abbrev cX1_collideAt : ByteArray := prog_1_method_47_code
def yX1_collideAt : MethodName := ⟨RX1, "collideAt", "(III)Z"⟩
def RX2 : String := "LanternPrimesModel"
def TX2 : u_T := fun k => match k with
  | 0 => ("LanternPrimesModel", "thrown", "I", false)
  | 1 => ("LanternPrimesModel", "now", "I", false)
  | 2 => ("LanternPrimesModel", "seen", "I", false)
  | 3 => ("LanternPrimesModel", "lamps", "I", false)
  | 4 => ("LanternPrimesModel", "begins", "[Z", true)
  | 5 => ("LanternPrimesModel", "covered", "[Z", true)
  | 6 => ("LanternPrimesModel", "beats", "[I", true)
  | 7 => ("LanternPrimesModel", "number", "[I", true)
  | _ => ("LanternPrimesModel", "offset", "[I", true)
def tyX2 : Nat → FieldType := fun k => match k with
  | 0 => .int
  | 1 => .int
  | 2 => .int
  | 3 => .int
  | 4 => .array .boolean
  | 5 => .array .boolean
  | 6 => .array .int
  | 7 => .array .int
  | _ => .array .int
abbrev wsX20 : List Cond := u_ws RX2 TX2 9
theorem nmX2 : ∀ a, a < 9 → ∀ b, b < 9 → a ≠ b → (TX2 a).2.1 ≠ (TX2 b).2.1 := by decide +kernel
theorem tyX2_ok : ∀ k, k < 9 → parseFieldDescriptor (TX2 k).2.2.1 = some (tyX2 k) := by decide +kernel
abbrev cX2_init : ByteArray := prog_4_method_1_code
def yX2_init : MethodName := ⟨RX2, "<init>", "()V"⟩
abbrev cX2_thrown : ByteArray := prog_4_method_2_code
def yX2_thrown : MethodName := ⟨RX2, "thrown", "()I"⟩
abbrev cX2_no : ByteArray := prog_4_method_3_code
def yX2_no : MethodName := ⟨RX2, "no", "(I)I"⟩
abbrev cX2_isNot : ByteArray := prog_4_method_4_code
def yX2_isNot : MethodName := ⟨RX2, "isNot", "(I)Z"⟩
abbrev cX2_isIn : ByteArray := prog_4_method_5_code
def yX2_isIn : MethodName := ⟨RX2, "isIn", "(III)Z"⟩
abbrev cX2_isLamp : ByteArray := prog_4_method_6_code
def yX2_isLamp : MethodName := ⟨RX2, "isLamp", "(I)Z"⟩
abbrev cX2_isBeat : ByteArray := prog_4_method_7_code
def yX2_isBeat : MethodName := ⟨RX2, "isBeat", "(II)Z"⟩
abbrev cX2_isPrime : ByteArray := prog_4_method_8_code
def yX2_isPrime : MethodName := ⟨RX2, "isPrime", "(I)Z"⟩
abbrev cX2_strikes : ByteArray := prog_4_method_9_code
def yX2_strikes : MethodName := ⟨RX2, "strikes", "(II)I"⟩
abbrev cX2_changes : ByteArray := prog_4_method_10_code
def yX2_changes : MethodName := ⟨RX2, "changes", "(II)Z"⟩
abbrev cX2_onAt : ByteArray := prog_4_method_11_code
def yX2_onAt : MethodName := ⟨RX2, "onAt", "(II)Z"⟩
abbrev cX2_litAt : ByteArray := prog_4_method_12_code
def yX2_litAt : MethodName := ⟨RX2, "litAt", "(II)I"⟩
abbrev cX2_product : ByteArray := prog_4_method_13_code
def yX2_product : MethodName := ⟨RX2, "product", "(I)I"⟩
abbrev cX2_steady : ByteArray := prog_4_method_14_code
def yX2_steady : MethodName := ⟨RX2, "steady", "(I)Z"⟩
abbrev cX2_isCycle : ByteArray := prog_4_method_15_code
def yX2_isCycle : MethodName := ⟨RX2, "isCycle", "(III)Z"⟩
abbrev cX2_cycle : ByteArray := prog_4_method_16_code
def yX2_cycle : MethodName := ⟨RX2, "cycle", "(I)I"⟩
abbrev cX2_untilChange : ByteArray := prog_4_method_17_code
def yX2_untilChange : MethodName := ⟨RX2, "untilChange", "(I)I"⟩
abbrev cX2_addLamp : ByteArray := prog_4_method_18_code
def yX2_addLamp : MethodName := ⟨RX2, "addLamp", "(Z)I"⟩
abbrev cX2_addBeat : ByteArray := prog_4_method_19_code
def yX2_addBeat : MethodName := ⟨RX2, "addBeat", "(III)I"⟩
abbrev cX2_moveBeat : ByteArray := prog_4_method_20_code
def yX2_moveBeat : MethodName := ⟨RX2, "moveBeat", "(III)I"⟩
abbrev cX2_takeBeat : ByteArray := prog_4_method_21_code
def yX2_takeBeat : MethodName := ⟨RX2, "takeBeat", "(II)I"⟩
abbrev cX2_turnShutter : ByteArray := prog_4_method_22_code
def yX2_turnShutter : MethodName := ⟨RX2, "turnShutter", "(I)Z"⟩
abbrev cX2_pass : ByteArray := prog_4_method_23_code
def yX2_pass : MethodName := ⟨RX2, "pass", "(I)I"⟩
abbrev cX2_lamps : ByteArray := prog_4_method_24_code
def yX2_lamps : MethodName := ⟨RX2, "lamps", "()I"⟩
abbrev cX2_now : ByteArray := prog_4_method_25_code
def yX2_now : MethodName := ⟨RX2, "now", "()I"⟩
abbrev cX2_changesSeen : ByteArray := prog_4_method_26_code
def yX2_changesSeen : MethodName := ⟨RX2, "changesSeen", "()I"⟩
abbrev cX2_beatsOf : ByteArray := prog_4_method_27_code
def yX2_beatsOf : MethodName := ⟨RX2, "beatsOf", "(I)I"⟩
abbrev cX2_numberOf : ByteArray := prog_4_method_28_code
def yX2_numberOf : MethodName := ⟨RX2, "numberOf", "(II)I"⟩
abbrev cX2_offsetOf : ByteArray := prog_4_method_29_code
def yX2_offsetOf : MethodName := ⟨RX2, "offsetOf", "(II)I"⟩
abbrev cX2_isCovered : ByteArray := prog_4_method_30_code
def yX2_isCovered : MethodName := ⟨RX2, "isCovered", "(I)Z"⟩
abbrev cX2_isOn : ByteArray := prog_4_method_31_code
def yX2_isOn : MethodName := ⟨RX2, "isOn", "(I)Z"⟩
abbrev cX2_isLit : ByteArray := prog_4_method_32_code
def yX2_isLit : MethodName := ⟨RX2, "isLit", "(I)Z"⟩
abbrev cX2_litLamps : ByteArray := prog_4_method_33_code
def yX2_litLamps : MethodName := ⟨RX2, "litLamps", "()I"⟩
abbrev cX2_isDark : ByteArray := prog_4_method_34_code
def yX2_isDark : MethodName := ⟨RX2, "isDark", "()Z"⟩
abbrev cX2_isOnAt : ByteArray := prog_4_method_35_code
def yX2_isOnAt : MethodName := ⟨RX2, "isOnAt", "(II)Z"⟩
abbrev cX2_strikesAt : ByteArray := prog_4_method_36_code
def yX2_strikesAt : MethodName := ⟨RX2, "strikesAt", "(II)I"⟩
abbrev cX2_isSteady : ByteArray := prog_4_method_37_code
def yX2_isSteady : MethodName := ⟨RX2, "isSteady", "(I)Z"⟩
abbrev cX2_cycleOf : ByteArray := prog_4_method_38_code
def yX2_cycleOf : MethodName := ⟨RX2, "cycleOf", "(I)I"⟩
abbrev cX2_momentsUntilChange : ByteArray := prog_4_method_39_code
def yX2_momentsUntilChange : MethodName := ⟨RX2, "momentsUntilChange", "(I)I"⟩
abbrev cX2_shows : ByteArray := prog_4_method_40_code
def yX2_shows : MethodName := ⟨RX2, "shows", "(II)I"⟩
abbrev cX2_wrongPair : ByteArray := prog_4_method_41_code
def yX2_wrongPair : MethodName := ⟨RX2, "wrongPair", "(II)I"⟩
abbrev cX2_collide : ByteArray := prog_4_method_42_code
def yX2_collide : MethodName := ⟨RX2, "collide", "(III)Z"⟩
abbrev cX2_momentsUntilCollision : ByteArray := prog_4_method_43_code
def yX2_momentsUntilCollision : MethodName := ⟨RX2, "momentsUntilCollision", "(II)I"⟩
abbrev cX2_collisionsWithin : ByteArray := prog_4_method_44_code
def yX2_collisionsWithin : MethodName := ⟨RX2, "collisionsWithin", "(III)I"⟩
abbrev cX2_momentsUntilToldApart : ByteArray := prog_4_method_45_code
def yX2_momentsUntilToldApart : MethodName := ⟨RX2, "momentsUntilToldApart", "(II)I"⟩
abbrev cX2_momentsUntilDark : ByteArray := prog_4_method_46_code
def yX2_momentsUntilDark : MethodName := ⟨RX2, "momentsUntilDark", "()I"⟩
abbrev cX2_darkWith : ByteArray := prog_4_method_47_code
def yX2_darkWith : MethodName := ⟨RX2, "darkWith", "(II)I"⟩
abbrev cX2_darkWithin : ByteArray := prog_4_method_48_code
def yX2_darkWithin : MethodName := ⟨RX2, "darkWithin", "(I)I"⟩
abbrev cX2_brightestWithin : ByteArray := prog_4_method_49_code
def yX2_brightestWithin : MethodName := ⟨RX2, "brightestWithin", "(I)I"⟩
abbrev cX2_bestCover : ByteArray := prog_4_method_50_code
def yX2_bestCover : MethodName := ⟨RX2, "bestCover", "(I)I"⟩
abbrev cX2_meanBeats : ByteArray := prog_4_method_51_code
def yX2_meanBeats : MethodName := ⟨RX2, "meanBeats", "()D"⟩
abbrev cX2_digest : ByteArray := prog_4_method_52_code
def yX2_digest : MethodName := ⟨RX2, "digest", "()J"⟩
def RJ0 : String := "java/lang/String"
def TJ0 : u_T := fun k => match k with
  | _ => ("", "", "", false)
def tyJ0 : Nat → FieldType := fun k => match k with
  | _ => .int
abbrev wsJ00 : List Cond := u_ws RJ0 TJ0 0
theorem nmJ0 : ∀ a, a < 0 → ∀ b, b < 0 → a ≠ b → (TJ0 a).2.1 ≠ (TJ0 b).2.1 := by decide +kernel
theorem tyJ0_ok : ∀ k, k < 0 → parseFieldDescriptor (TJ0 k).2.2.1 = some (tyJ0 k) := by decide +kernel
def RL : String := "LanternPrimesLaw"
abbrev cL_addLamp : ByteArray := method_3_code
def yL_addLamp : MethodName := ⟨RL, "addLamp", "(LLanternPrimes;Z[J)I"⟩
abbrev cL_addBeat : ByteArray := method_4_code
def yL_addBeat : MethodName := ⟨RL, "addBeat", "(LLanternPrimes;III[J)I"⟩
abbrev cL_moveBeat : ByteArray := method_5_code
def yL_moveBeat : MethodName := ⟨RL, "moveBeat", "(LLanternPrimes;III[J)I"⟩
abbrev cL_takeBeat : ByteArray := method_6_code
def yL_takeBeat : MethodName := ⟨RL, "takeBeat", "(LLanternPrimes;II[J)I"⟩
abbrev cL_turnShutter : ByteArray := method_7_code
def yL_turnShutter : MethodName := ⟨RL, "turnShutter", "(LLanternPrimes;I[J)I"⟩
abbrev cL_pass : ByteArray := method_8_code
def yL_pass : MethodName := ⟨RL, "pass", "(LLanternPrimes;I[J)I"⟩
abbrev cL_beatsOf : ByteArray := method_9_code
def yL_beatsOf : MethodName := ⟨RL, "beatsOf", "(LLanternPrimes;I[J)I"⟩
abbrev cL_numberOf : ByteArray := method_10_code
def yL_numberOf : MethodName := ⟨RL, "numberOf", "(LLanternPrimes;II[J)I"⟩
abbrev cL_offsetOf : ByteArray := method_11_code
def yL_offsetOf : MethodName := ⟨RL, "offsetOf", "(LLanternPrimes;II[J)I"⟩
abbrev cL_isCovered : ByteArray := method_12_code
def yL_isCovered : MethodName := ⟨RL, "isCovered", "(LLanternPrimes;I[J)I"⟩
abbrev cL_isOn : ByteArray := method_13_code
def yL_isOn : MethodName := ⟨RL, "isOn", "(LLanternPrimes;I[J)I"⟩
abbrev cL_isLit : ByteArray := method_14_code
def yL_isLit : MethodName := ⟨RL, "isLit", "(LLanternPrimes;I[J)I"⟩
abbrev cL_isOnAt : ByteArray := method_15_code
def yL_isOnAt : MethodName := ⟨RL, "isOnAt", "(LLanternPrimes;II[J)I"⟩
abbrev cL_strikesAt : ByteArray := method_16_code
def yL_strikesAt : MethodName := ⟨RL, "strikesAt", "(LLanternPrimes;II[J)I"⟩
abbrev cL_isSteady : ByteArray := method_17_code
def yL_isSteady : MethodName := ⟨RL, "isSteady", "(LLanternPrimes;I[J)I"⟩
abbrev cL_cycleOf : ByteArray := method_18_code
def yL_cycleOf : MethodName := ⟨RL, "cycleOf", "(LLanternPrimes;I[J)I"⟩
abbrev cL_momentsUntilChange : ByteArray := method_19_code
def yL_momentsUntilChange : MethodName := ⟨RL, "momentsUntilChange", "(LLanternPrimes;I[J)I"⟩
abbrev cL_shows : ByteArray := method_20_code
def yL_shows : MethodName := ⟨RL, "shows", "(LLanternPrimes;II[J)I"⟩
abbrev cL_momentsUntilCollision : ByteArray := method_21_code
def yL_momentsUntilCollision : MethodName := ⟨RL, "momentsUntilCollision", "(LLanternPrimes;II[J)I"⟩
abbrev cL_collisionsWithin : ByteArray := method_22_code
def yL_collisionsWithin : MethodName := ⟨RL, "collisionsWithin", "(LLanternPrimes;III[J)I"⟩
abbrev cL_momentsUntilToldApart : ByteArray := method_23_code
def yL_momentsUntilToldApart : MethodName := ⟨RL, "momentsUntilToldApart", "(LLanternPrimes;II[J)I"⟩
abbrev cL_darkWithin : ByteArray := method_24_code
def yL_darkWithin : MethodName := ⟨RL, "darkWithin", "(LLanternPrimes;I[J)I"⟩
abbrev cL_brightestWithin : ByteArray := method_25_code
def yL_brightestWithin : MethodName := ⟨RL, "brightestWithin", "(LLanternPrimes;I[J)I"⟩
abbrev cL_bestCover : ByteArray := method_26_code
def yL_bestCover : MethodName := ⟨RL, "bestCover", "(LLanternPrimes;I[J)I"⟩
abbrev cL_law : ByteArray := code
def yL_law : MethodName := ⟨RL, "law", "([I)Z"⟩
def wsX0_init : List Cond := .code yX0_init cX0_init 1 none :: ([.methodLink RX0 3 objectInit, .instanceMethod objectInit, .code objectInit ⟨#[0xb1]⟩ 1 none, .arrayClass .int, .fieldLink RX0 9 "LanternPrimes$Lamp" "numbers" "[I", .fieldLink RX0 15 "LanternPrimes$Lamp" "offsets" "[I"] ++ wsX00)
def wsX0_append : List Cond := .code yX0_append cX0_append 3 none :: ([.fieldLink RX0 18 "LanternPrimes$Lamp" "beatCount" "I", .fieldLink RX0 9 "LanternPrimes$Lamp" "numbers" "[I", .fieldLink RX0 15 "LanternPrimes$Lamp" "offsets" "[I"] ++ wsX00)
def wsX0_remove : List Cond := .code yX0_remove cX0_remove 3 none :: ([.fieldLink RX0 18 "LanternPrimes$Lamp" "beatCount" "I", .fieldLink RX0 9 "LanternPrimes$Lamp" "numbers" "[I", .fieldLink RX0 15 "LanternPrimes$Lamp" "offsets" "[I"] ++ wsX00)
def wsX0_appendBeatsOf : List Cond := .code yX0_appendBeatsOf cX0_appendBeatsOf 3 none :: ([.fieldLink RX0 18 "LanternPrimes$Lamp" "beatCount" "I", .fieldLink RX0 9 "LanternPrimes$Lamp" "numbers" "[I", .fieldLink RX0 15 "LanternPrimes$Lamp" "offsets" "[I", .methodLink RX0 30 yX0_append, .instanceMethod yX0_append, .selects RX0 yX0_append yX0_append, .initialized RX0, .code yX0_append cX0_append 3 none] ++ wsX00)
def wsX0_becomeDifference : List Cond := .code yX0_becomeDifference cX0_becomeDifference 3 none :: ([.fieldLink RX0 22 "LanternPrimes$Lamp" "onAtStart" "Z", .fieldLink RX0 18 "LanternPrimes$Lamp" "beatCount" "I", .methodLink RX0 26 yX0_appendBeatsOf, .instanceMethod yX0_appendBeatsOf, .selects RX0 yX0_appendBeatsOf yX0_appendBeatsOf, .initialized RX0, .code yX0_appendBeatsOf cX0_appendBeatsOf 3 none, .fieldLink RX0 9 "LanternPrimes$Lamp" "numbers" "[I", .fieldLink RX0 15 "LanternPrimes$Lamp" "offsets" "[I", .methodLink RX0 30 yX0_append, .instanceMethod yX0_append, .selects RX0 yX0_append yX0_append, .code yX0_append cX0_append 3 none] ++ wsX00)
def wsX0_strikes : List Cond := .code yX0_strikes cX0_strikes 4 (some .int) :: ([.fieldLink RX0 18 "LanternPrimes$Lamp" "beatCount" "I", .fieldLink RX0 9 "LanternPrimes$Lamp" "numbers" "[I", .fieldLink RX0 15 "LanternPrimes$Lamp" "offsets" "[I"] ++ wsX00)
def wsX0_isOdd : List Cond := .code yX0_isOdd cX0_isOdd 1 (some .boolean) :: ([])
def wsX0_changesAt : List Cond := .code yX0_changesAt cX0_changesAt 2 (some .boolean) :: ([.methodLink RX0 34 yX0_strikes, .instanceMethod yX0_strikes, .selects RX0 yX0_strikes yX0_strikes, .initialized RX0, .code yX0_strikes cX0_strikes 4 (some .int), .fieldLink RX0 18 "LanternPrimes$Lamp" "beatCount" "I", .fieldLink RX0 9 "LanternPrimes$Lamp" "numbers" "[I", .fieldLink RX0 15 "LanternPrimes$Lamp" "offsets" "[I", .methodLink RX0 38 yX0_isOdd, .static yX0_isOdd, .code yX0_isOdd cX0_isOdd 1 (some .boolean)] ++ wsX00)
def wsX0_strikesUpTo : List Cond := .code yX0_strikesUpTo cX0_strikesUpTo 3 (some .int) :: ([])
def wsX0_onAt : List Cond := .code yX0_onAt cX0_onAt 4 (some .boolean) :: ([.fieldLink RX0 18 "LanternPrimes$Lamp" "beatCount" "I", .fieldLink RX0 9 "LanternPrimes$Lamp" "numbers" "[I", .fieldLink RX0 15 "LanternPrimes$Lamp" "offsets" "[I", .fieldLink RX0 22 "LanternPrimes$Lamp" "onAtStart" "Z", .methodLink RX0 48 yX0_strikesUpTo, .static yX0_strikesUpTo, .initialized RX0, .code yX0_strikesUpTo cX0_strikesUpTo 3 (some .int), .methodLink RX0 38 yX0_isOdd, .static yX0_isOdd, .code yX0_isOdd cX0_isOdd 1 (some .boolean)] ++ wsX00)
def wsX0_litAt : List Cond := .code yX0_litAt cX0_litAt 2 (some .boolean) :: ([.fieldLink RX0 42 "LanternPrimes$Lamp" "covered" "Z", .methodLink RX0 45 yX0_onAt, .instanceMethod yX0_onAt, .selects RX0 yX0_onAt yX0_onAt, .initialized RX0, .code yX0_onAt cX0_onAt 4 (some .boolean), .fieldLink RX0 18 "LanternPrimes$Lamp" "beatCount" "I", .fieldLink RX0 9 "LanternPrimes$Lamp" "numbers" "[I", .fieldLink RX0 15 "LanternPrimes$Lamp" "offsets" "[I", .fieldLink RX0 22 "LanternPrimes$Lamp" "onAtStart" "Z", .methodLink RX0 48 yX0_strikesUpTo, .static yX0_strikesUpTo, .code yX0_strikesUpTo cX0_strikesUpTo 3 (some .int), .methodLink RX0 38 yX0_isOdd, .static yX0_isOdd, .code yX0_isOdd cX0_isOdd 1 (some .boolean)] ++ wsX00)
def wsX0_turningRemainders : List Cond := .code yX0_turningRemainders cX0_turningRemainders 4 (some .int) :: ([.fieldLink RX0 18 "LanternPrimes$Lamp" "beatCount" "I", .fieldLink RX0 9 "LanternPrimes$Lamp" "numbers" "[I", .fieldLink RX0 15 "LanternPrimes$Lamp" "offsets" "[I"] ++ wsX00)
def wsX0_changeCycle : List Cond := .code yX0_changeCycle cX0_changeCycle 8 (some .int) :: ([.methodLink RX0 62 yX0_turningRemainders, .instanceMethod yX0_turningRemainders, .selects RX0 yX0_turningRemainders yX0_turningRemainders, .initialized RX0, .code yX0_turningRemainders cX0_turningRemainders 4 (some .int), .fieldLink RX0 18 "LanternPrimes$Lamp" "beatCount" "I", .fieldLink RX0 9 "LanternPrimes$Lamp" "numbers" "[I", .fieldLink RX0 15 "LanternPrimes$Lamp" "offsets" "[I"] ++ wsX00)
def wsX0_cycle : List Cond := .code yX0_cycle cX0_cycle 3 (some .int) :: ([.fieldLink RX0 22 "LanternPrimes$Lamp" "onAtStart" "Z", .methodLink RX0 56 yX0_changeCycle, .instanceMethod yX0_changeCycle, .selects RX0 yX0_changeCycle yX0_changeCycle, .initialized RX0, .code yX0_changeCycle cX0_changeCycle 8 (some .int), .methodLink RX0 62 yX0_turningRemainders, .instanceMethod yX0_turningRemainders, .selects RX0 yX0_turningRemainders yX0_turningRemainders, .code yX0_turningRemainders cX0_turningRemainders 4 (some .int), .fieldLink RX0 18 "LanternPrimes$Lamp" "beatCount" "I", .fieldLink RX0 9 "LanternPrimes$Lamp" "numbers" "[I", .fieldLink RX0 15 "LanternPrimes$Lamp" "offsets" "[I", .methodLink RX0 45 yX0_onAt, .instanceMethod yX0_onAt, .selects RX0 yX0_onAt yX0_onAt, .code yX0_onAt cX0_onAt 4 (some .boolean), .methodLink RX0 48 yX0_strikesUpTo, .static yX0_strikesUpTo, .code yX0_strikesUpTo cX0_strikesUpTo 3 (some .int), .methodLink RX0 38 yX0_isOdd, .static yX0_isOdd, .code yX0_isOdd cX0_isOdd 1 (some .boolean)] ++ wsX00)
def wsX0_neverChanges_r1 : List Cond := [Cond.methodLink RX0 52 yX0_cycle, Cond.instanceMethod yX0_cycle, Cond.selects RX0 yX0_cycle yX0_cycle, Cond.initialized RX0, Cond.code yX0_cycle cX0_cycle 3 (some .int), Cond.fieldLink RX0 22 "LanternPrimes$Lamp" "onAtStart" "Z", Cond.methodLink RX0 56 yX0_changeCycle, Cond.instanceMethod yX0_changeCycle, Cond.selects RX0 yX0_changeCycle yX0_changeCycle, Cond.code yX0_changeCycle cX0_changeCycle 8 (some .int), Cond.methodLink RX0 62 yX0_turningRemainders, Cond.instanceMethod yX0_turningRemainders, Cond.selects RX0 yX0_turningRemainders yX0_turningRemainders, Cond.code yX0_turningRemainders cX0_turningRemainders 4 (some .int), Cond.fieldLink RX0 18 "LanternPrimes$Lamp" "beatCount" "I", Cond.fieldLink RX0 9 "LanternPrimes$Lamp" "numbers" "[I", Cond.fieldLink RX0 15 "LanternPrimes$Lamp" "offsets" "[I", Cond.methodLink RX0 45 yX0_onAt, Cond.instanceMethod yX0_onAt, Cond.selects RX0 yX0_onAt yX0_onAt, Cond.code yX0_onAt cX0_onAt 4 (some .boolean), Cond.methodLink RX0 48 yX0_strikesUpTo, Cond.static yX0_strikesUpTo, Cond.code yX0_strikesUpTo cX0_strikesUpTo 3 (some .int)]
def wsX0_neverChanges_r2 : List Cond := [Cond.methodLink RX0 38 yX0_isOdd, Cond.static yX0_isOdd, Cond.code yX0_isOdd cX0_isOdd 1 (some .boolean)]
def wsX0_neverChanges : List Cond := .code yX0_neverChanges cX0_neverChanges 1 (some .boolean) :: ((wsX0_neverChanges_r1 ++ wsX0_neverChanges_r2) ++ wsX00)
def wsX0_untilChange : List Cond := .code yX0_untilChange cX0_untilChange 4 (some .int) :: ([.methodLink RX0 56 yX0_changeCycle, .instanceMethod yX0_changeCycle, .selects RX0 yX0_changeCycle yX0_changeCycle, .initialized RX0, .code yX0_changeCycle cX0_changeCycle 8 (some .int), .methodLink RX0 62 yX0_turningRemainders, .instanceMethod yX0_turningRemainders, .selects RX0 yX0_turningRemainders yX0_turningRemainders, .code yX0_turningRemainders cX0_turningRemainders 4 (some .int), .fieldLink RX0 18 "LanternPrimes$Lamp" "beatCount" "I", .fieldLink RX0 9 "LanternPrimes$Lamp" "numbers" "[I", .fieldLink RX0 15 "LanternPrimes$Lamp" "offsets" "[I", .methodLink RX0 65 yX0_changesAt, .instanceMethod yX0_changesAt, .selects RX0 yX0_changesAt yX0_changesAt, .code yX0_changesAt cX0_changesAt 2 (some .boolean), .methodLink RX0 34 yX0_strikes, .instanceMethod yX0_strikes, .selects RX0 yX0_strikes yX0_strikes, .code yX0_strikes cX0_strikes 4 (some .int), .methodLink RX0 38 yX0_isOdd, .static yX0_isOdd, .code yX0_isOdd cX0_isOdd 1 (some .boolean)] ++ wsX00)
def wsX1_init : List Cond := .code yX1_init cX1_init 2 none :: ([.methodLink RX1 1 objectInit, .instanceMethod objectInit, .code objectInit ⟨#[0xb1]⟩ 1 none, .classLink RX1 9 RX0, .fieldLink RX1 11 "LanternPrimes" "row" "[LLanternPrimes$Lamp;", .instantiable RX0 5, .initialized RX0, .fieldLink RX1 16 "LanternPrimes" "difference" "LLanternPrimes$Lamp;", .instanceMethod yX0_init, .code yX0_init cX0_init 1 none, .methodLink RX0 3 objectInit, .arrayClass .int, .fieldLink RX0 9 "LanternPrimes$Lamp" "numbers" "[I", .fieldLink RX0 15 "LanternPrimes$Lamp" "offsets" "[I"] ++ wsX10 ++ wsX00)
def wsX1_addLamp : List Cond := .code yX1_addLamp cX1_addLamp 2 (some .int) :: ([.classLink RX1 24 "java/lang/IllegalStateException", .initialized "java/lang/IllegalStateException", .fieldLink RX1 20 "LanternPrimes" "lampCount" "I", .fieldLink RX1 11 "LanternPrimes" "row" "[LLanternPrimes$Lamp;"] ++ wsX10 ++ wsX00 ++ (vx_atS RX1 28 "java/lang/IllegalStateException" ["java/lang/RuntimeException", "java/lang/Exception"]).filter goodWord)
def wsX1_needLamp : List Cond := .code yX1_needLamp cX1_needLamp 2 none :: ([.classLink RX1 141 "java/lang/IndexOutOfBoundsException", .initialized "java/lang/IndexOutOfBoundsException", .fieldLink RX1 20 "LanternPrimes" "lampCount" "I"] ++ wsX10 ++ (vx_atS RX1 145 "java/lang/IndexOutOfBoundsException" ["java/lang/RuntimeException", "java/lang/Exception"]).filter goodWord)
def wsX1_needNumber : List Cond := .code yX1_needNumber cX1_needNumber 5 none :: ([.classLink RX1 148 "java/lang/IllegalArgumentException", .initialized "java/lang/IllegalArgumentException", .fieldLink RX1 153 "LanternPrimes" "NUMBERS" "[I"] ++ (vx_atS RX1 152 "java/lang/IllegalArgumentException" ["java/lang/RuntimeException", "java/lang/Exception"]).filter goodWord)
def wsX1_needOffset : List Cond := .code yX1_needOffset cX1_needOffset 2 none :: ([.classLink RX1 148 "java/lang/IllegalArgumentException", .initialized "java/lang/IllegalArgumentException"] ++ (vx_atS RX1 152 "java/lang/IllegalArgumentException" ["java/lang/RuntimeException", "java/lang/Exception"]).filter goodWord)
def wsX1_addBeat_r1 : List Cond := [Cond.classLink RX1 24 "java/lang/IllegalStateException", Cond.initialized "java/lang/IllegalStateException", Cond.fieldLink RX1 11 "LanternPrimes" "row" "[LLanternPrimes$Lamp;", Cond.methodLink RX1 35 yX1_needLamp, Cond.instanceMethod yX1_needLamp, Cond.selects RX1 yX1_needLamp yX1_needLamp, Cond.initialized RX1, Cond.code yX1_needLamp cX1_needLamp 2 none, Cond.classLink RX1 141 "java/lang/IndexOutOfBoundsException", Cond.initialized "java/lang/IndexOutOfBoundsException", Cond.fieldLink RX1 20 "LanternPrimes" "lampCount" "I", Cond.methodLink RX1 39 yX1_needNumber, Cond.static yX1_needNumber, Cond.code yX1_needNumber cX1_needNumber 5 none, Cond.classLink RX1 148 "java/lang/IllegalArgumentException", Cond.initialized "java/lang/IllegalArgumentException", Cond.fieldLink RX1 153 "LanternPrimes" "NUMBERS" "[I", Cond.methodLink RX1 42 yX1_needOffset, Cond.static yX1_needOffset, Cond.code yX1_needOffset cX1_needOffset 2 none, Cond.methodLink RX1 51 yX0_append, Cond.instanceMethod yX0_append, Cond.selects RX0 yX0_append yX0_append, Cond.initialized RX0]
def wsX1_addBeat_r2 : List Cond := [Cond.code yX0_append cX0_append 3 none, Cond.fieldLink RX0 18 "LanternPrimes$Lamp" "beatCount" "I", Cond.fieldLink RX0 9 "LanternPrimes$Lamp" "numbers" "[I", Cond.fieldLink RX0 15 "LanternPrimes$Lamp" "offsets" "[I"]
def wsX1_addBeat : List Cond := .code yX1_addBeat cX1_addBeat 5 (some .int) :: ((wsX1_addBeat_r1 ++ wsX1_addBeat_r2) ++ wsX10 ++ wsX00 ++ (vx_atS RX1 28 "java/lang/IllegalStateException" ["java/lang/RuntimeException", "java/lang/Exception"]).filter goodWord ++ (vx_atS RX1 145 "java/lang/IndexOutOfBoundsException" ["java/lang/RuntimeException", "java/lang/Exception"]).filter goodWord ++ (vx_atS RX1 152 "java/lang/IllegalArgumentException" ["java/lang/RuntimeException", "java/lang/Exception"]).filter goodWord)
def wsX1_needBeat : List Cond := .code yX1_needBeat cX1_needBeat 3 none :: ([.classLink RX1 141 "java/lang/IndexOutOfBoundsException", .initialized "java/lang/IndexOutOfBoundsException", .fieldLink RX1 11 "LanternPrimes" "row" "[LLanternPrimes$Lamp;", .methodLink RX1 35 yX1_needLamp, .instanceMethod yX1_needLamp, .selects RX1 yX1_needLamp yX1_needLamp, .initialized RX1, .code yX1_needLamp cX1_needLamp 2 none, .fieldLink RX1 20 "LanternPrimes" "lampCount" "I"] ++ wsX10 ++ wsX00 ++ (vx_atS RX1 145 "java/lang/IndexOutOfBoundsException" ["java/lang/RuntimeException", "java/lang/Exception"]).filter goodWord)
def wsX1_moveBeat : List Cond := .code yX1_moveBeat cX1_moveBeat 6 (some .int) :: ([.fieldLink RX1 11 "LanternPrimes" "row" "[LLanternPrimes$Lamp;", .methodLink RX1 54 yX1_needBeat, .instanceMethod yX1_needBeat, .selects RX1 yX1_needBeat yX1_needBeat, .initialized RX1, .code yX1_needBeat cX1_needBeat 3 none, .classLink RX1 141 "java/lang/IndexOutOfBoundsException", .initialized "java/lang/IndexOutOfBoundsException", .methodLink RX1 35 yX1_needLamp, .instanceMethod yX1_needLamp, .selects RX1 yX1_needLamp yX1_needLamp, .code yX1_needLamp cX1_needLamp 2 none, .fieldLink RX1 20 "LanternPrimes" "lampCount" "I", .methodLink RX1 42 yX1_needOffset, .static yX1_needOffset, .code yX1_needOffset cX1_needOffset 2 none, .classLink RX1 148 "java/lang/IllegalArgumentException", .initialized "java/lang/IllegalArgumentException"] ++ wsX10 ++ wsX00 ++ (vx_atS RX1 145 "java/lang/IndexOutOfBoundsException" ["java/lang/RuntimeException", "java/lang/Exception"]).filter goodWord ++ (vx_atS RX1 152 "java/lang/IllegalArgumentException" ["java/lang/RuntimeException", "java/lang/Exception"]).filter goodWord)
def wsX1_takeBeat : List Cond := .code yX1_takeBeat cX1_takeBeat 4 (some .int) :: ([.fieldLink RX1 11 "LanternPrimes" "row" "[LLanternPrimes$Lamp;", .methodLink RX1 54 yX1_needBeat, .instanceMethod yX1_needBeat, .selects RX1 yX1_needBeat yX1_needBeat, .initialized RX1, .code yX1_needBeat cX1_needBeat 3 none, .classLink RX1 141 "java/lang/IndexOutOfBoundsException", .initialized "java/lang/IndexOutOfBoundsException", .methodLink RX1 35 yX1_needLamp, .instanceMethod yX1_needLamp, .selects RX1 yX1_needLamp yX1_needLamp, .code yX1_needLamp cX1_needLamp 2 none, .fieldLink RX1 20 "LanternPrimes" "lampCount" "I", .methodLink RX1 64 yX0_remove, .instanceMethod yX0_remove, .selects RX0 yX0_remove yX0_remove, .initialized RX0, .code yX0_remove cX0_remove 3 none, .fieldLink RX0 18 "LanternPrimes$Lamp" "beatCount" "I", .fieldLink RX0 9 "LanternPrimes$Lamp" "numbers" "[I", .fieldLink RX0 15 "LanternPrimes$Lamp" "offsets" "[I"] ++ wsX10 ++ wsX00 ++ (vx_atS RX1 145 "java/lang/IndexOutOfBoundsException" ["java/lang/RuntimeException", "java/lang/Exception"]).filter goodWord)
def wsX1_turnShutter : List Cond := .code yX1_turnShutter cX1_turnShutter 3 (some .boolean) :: ([.fieldLink RX1 11 "LanternPrimes" "row" "[LLanternPrimes$Lamp;", .methodLink RX1 35 yX1_needLamp, .instanceMethod yX1_needLamp, .selects RX1 yX1_needLamp yX1_needLamp, .initialized RX1, .code yX1_needLamp cX1_needLamp 2 none, .classLink RX1 141 "java/lang/IndexOutOfBoundsException", .initialized "java/lang/IndexOutOfBoundsException", .fieldLink RX1 20 "LanternPrimes" "lampCount" "I"] ++ wsX10 ++ wsX00 ++ (vx_atS RX1 145 "java/lang/IndexOutOfBoundsException" ["java/lang/RuntimeException", "java/lang/Exception"]).filter goodWord)
def wsX1_needMoments : List Cond := .code yX1_needMoments cX1_needMoments 2 none :: ([.classLink RX1 148 "java/lang/IllegalArgumentException", .initialized "java/lang/IllegalArgumentException"] ++ (vx_atS RX1 152 "java/lang/IllegalArgumentException" ["java/lang/RuntimeException", "java/lang/Exception"]).filter goodWord)
def wsX1_changesOfLamps : List Cond := .code yX1_changesOfLamps cX1_changesOfLamps 4 (some .int) :: ([.fieldLink RX1 20 "LanternPrimes" "lampCount" "I", .fieldLink RX1 11 "LanternPrimes" "row" "[LLanternPrimes$Lamp;", .methodLink RX1 165 yX0_changesAt, .instanceMethod yX0_changesAt, .selects RX0 yX0_changesAt yX0_changesAt, .initialized RX0, .code yX0_changesAt cX0_changesAt 2 (some .boolean), .methodLink RX0 34 yX0_strikes, .instanceMethod yX0_strikes, .selects RX0 yX0_strikes yX0_strikes, .code yX0_strikes cX0_strikes 4 (some .int), .fieldLink RX0 18 "LanternPrimes$Lamp" "beatCount" "I", .fieldLink RX0 9 "LanternPrimes$Lamp" "numbers" "[I", .fieldLink RX0 15 "LanternPrimes$Lamp" "offsets" "[I", .methodLink RX0 38 yX0_isOdd, .static yX0_isOdd, .code yX0_isOdd cX0_isOdd 1 (some .boolean)] ++ wsX10 ++ wsX00)
def wsX1_pass_r1 : List Cond := [Cond.fieldLink RX1 73 "LanternPrimes" "present" "I", Cond.fieldLink RX1 80 "LanternPrimes" "changesTold" "I", Cond.methodLink RX1 70 yX1_needMoments, Cond.static yX1_needMoments, Cond.initialized RX1, Cond.code yX1_needMoments cX1_needMoments 2 none, Cond.classLink RX1 148 "java/lang/IllegalArgumentException", Cond.initialized "java/lang/IllegalArgumentException", Cond.methodLink RX1 76 yX1_changesOfLamps, Cond.instanceMethod yX1_changesOfLamps, Cond.selects RX1 yX1_changesOfLamps yX1_changesOfLamps, Cond.code yX1_changesOfLamps cX1_changesOfLamps 4 (some .int), Cond.fieldLink RX1 20 "LanternPrimes" "lampCount" "I", Cond.fieldLink RX1 11 "LanternPrimes" "row" "[LLanternPrimes$Lamp;", Cond.methodLink RX1 165 yX0_changesAt, Cond.instanceMethod yX0_changesAt, Cond.selects RX0 yX0_changesAt yX0_changesAt, Cond.initialized RX0, Cond.code yX0_changesAt cX0_changesAt 2 (some .boolean), Cond.methodLink RX0 34 yX0_strikes, Cond.instanceMethod yX0_strikes, Cond.selects RX0 yX0_strikes yX0_strikes, Cond.code yX0_strikes cX0_strikes 4 (some .int), Cond.fieldLink RX0 18 "LanternPrimes$Lamp" "beatCount" "I"]
def wsX1_pass_r2 : List Cond := [Cond.fieldLink RX0 9 "LanternPrimes$Lamp" "numbers" "[I", Cond.fieldLink RX0 15 "LanternPrimes$Lamp" "offsets" "[I", Cond.methodLink RX0 38 yX0_isOdd, Cond.static yX0_isOdd, Cond.code yX0_isOdd cX0_isOdd 1 (some .boolean)]
def wsX1_pass : List Cond := .code yX1_pass cX1_pass 4 (some .int) :: ((wsX1_pass_r1 ++ wsX1_pass_r2) ++ wsX10 ++ wsX00 ++ (vx_atS RX1 152 "java/lang/IllegalArgumentException" ["java/lang/RuntimeException", "java/lang/Exception"]).filter goodWord)
def wsX1_lamps : List Cond := .code yX1_lamps cX1_lamps 1 (some .int) :: ([.fieldLink RX1 20 "LanternPrimes" "lampCount" "I"] ++ wsX10)
def wsX1_now : List Cond := .code yX1_now cX1_now 1 (some .int) :: ([.fieldLink RX1 73 "LanternPrimes" "present" "I"] ++ wsX10)
def wsX1_changesSeen : List Cond := .code yX1_changesSeen cX1_changesSeen 1 (some .int) :: ([.fieldLink RX1 80 "LanternPrimes" "changesTold" "I"] ++ wsX10)
def wsX1_beatsOf : List Cond := .code yX1_beatsOf cX1_beatsOf 2 (some .int) :: ([.fieldLink RX1 11 "LanternPrimes" "row" "[LLanternPrimes$Lamp;", .methodLink RX1 35 yX1_needLamp, .instanceMethod yX1_needLamp, .selects RX1 yX1_needLamp yX1_needLamp, .initialized RX1, .code yX1_needLamp cX1_needLamp 2 none, .classLink RX1 141 "java/lang/IndexOutOfBoundsException", .initialized "java/lang/IndexOutOfBoundsException", .fieldLink RX1 20 "LanternPrimes" "lampCount" "I"] ++ wsX10 ++ wsX00 ++ (vx_atS RX1 145 "java/lang/IndexOutOfBoundsException" ["java/lang/RuntimeException", "java/lang/Exception"]).filter goodWord)
def wsX1_numberOf : List Cond := .code yX1_numberOf cX1_numberOf 3 (some .int) :: ([.fieldLink RX1 11 "LanternPrimes" "row" "[LLanternPrimes$Lamp;", .methodLink RX1 54 yX1_needBeat, .instanceMethod yX1_needBeat, .selects RX1 yX1_needBeat yX1_needBeat, .initialized RX1, .code yX1_needBeat cX1_needBeat 3 none, .classLink RX1 141 "java/lang/IndexOutOfBoundsException", .initialized "java/lang/IndexOutOfBoundsException", .methodLink RX1 35 yX1_needLamp, .instanceMethod yX1_needLamp, .selects RX1 yX1_needLamp yX1_needLamp, .code yX1_needLamp cX1_needLamp 2 none, .fieldLink RX1 20 "LanternPrimes" "lampCount" "I"] ++ wsX10 ++ wsX00 ++ (vx_atS RX1 145 "java/lang/IndexOutOfBoundsException" ["java/lang/RuntimeException", "java/lang/Exception"]).filter goodWord)
def wsX1_offsetOf : List Cond := .code yX1_offsetOf cX1_offsetOf 3 (some .int) :: ([.fieldLink RX1 11 "LanternPrimes" "row" "[LLanternPrimes$Lamp;", .methodLink RX1 54 yX1_needBeat, .instanceMethod yX1_needBeat, .selects RX1 yX1_needBeat yX1_needBeat, .initialized RX1, .code yX1_needBeat cX1_needBeat 3 none, .classLink RX1 141 "java/lang/IndexOutOfBoundsException", .initialized "java/lang/IndexOutOfBoundsException", .methodLink RX1 35 yX1_needLamp, .instanceMethod yX1_needLamp, .selects RX1 yX1_needLamp yX1_needLamp, .code yX1_needLamp cX1_needLamp 2 none, .fieldLink RX1 20 "LanternPrimes" "lampCount" "I"] ++ wsX10 ++ wsX00 ++ (vx_atS RX1 145 "java/lang/IndexOutOfBoundsException" ["java/lang/RuntimeException", "java/lang/Exception"]).filter goodWord)
def wsX1_isCovered : List Cond := .code yX1_isCovered cX1_isCovered 2 (some .boolean) :: ([.fieldLink RX1 11 "LanternPrimes" "row" "[LLanternPrimes$Lamp;", .methodLink RX1 35 yX1_needLamp, .instanceMethod yX1_needLamp, .selects RX1 yX1_needLamp yX1_needLamp, .initialized RX1, .code yX1_needLamp cX1_needLamp 2 none, .classLink RX1 141 "java/lang/IndexOutOfBoundsException", .initialized "java/lang/IndexOutOfBoundsException", .fieldLink RX1 20 "LanternPrimes" "lampCount" "I"] ++ wsX10 ++ wsX00 ++ (vx_atS RX1 145 "java/lang/IndexOutOfBoundsException" ["java/lang/RuntimeException", "java/lang/Exception"]).filter goodWord)
def wsX1_isOn_r1 : List Cond := [Cond.fieldLink RX1 11 "LanternPrimes" "row" "[LLanternPrimes$Lamp;", Cond.fieldLink RX1 73 "LanternPrimes" "present" "I", Cond.methodLink RX1 35 yX1_needLamp, Cond.instanceMethod yX1_needLamp, Cond.selects RX1 yX1_needLamp yX1_needLamp, Cond.initialized RX1, Cond.code yX1_needLamp cX1_needLamp 2 none, Cond.classLink RX1 141 "java/lang/IndexOutOfBoundsException", Cond.initialized "java/lang/IndexOutOfBoundsException", Cond.fieldLink RX1 20 "LanternPrimes" "lampCount" "I", Cond.methodLink RX1 83 yX0_onAt, Cond.instanceMethod yX0_onAt, Cond.selects RX0 yX0_onAt yX0_onAt, Cond.initialized RX0, Cond.code yX0_onAt cX0_onAt 4 (some .boolean), Cond.fieldLink RX0 18 "LanternPrimes$Lamp" "beatCount" "I", Cond.fieldLink RX0 9 "LanternPrimes$Lamp" "numbers" "[I", Cond.fieldLink RX0 15 "LanternPrimes$Lamp" "offsets" "[I", Cond.fieldLink RX0 22 "LanternPrimes$Lamp" "onAtStart" "Z", Cond.methodLink RX0 48 yX0_strikesUpTo, Cond.static yX0_strikesUpTo, Cond.code yX0_strikesUpTo cX0_strikesUpTo 3 (some .int), Cond.methodLink RX0 38 yX0_isOdd, Cond.static yX0_isOdd]
def wsX1_isOn_r2 : List Cond := [Cond.code yX0_isOdd cX0_isOdd 1 (some .boolean)]
def wsX1_isOn : List Cond := .code yX1_isOn cX1_isOn 2 (some .boolean) :: ((wsX1_isOn_r1 ++ wsX1_isOn_r2) ++ wsX10 ++ wsX00 ++ (vx_atS RX1 145 "java/lang/IndexOutOfBoundsException" ["java/lang/RuntimeException", "java/lang/Exception"]).filter goodWord)
def wsX1_isLit_r1 : List Cond := [Cond.fieldLink RX1 11 "LanternPrimes" "row" "[LLanternPrimes$Lamp;", Cond.fieldLink RX1 73 "LanternPrimes" "present" "I", Cond.methodLink RX1 35 yX1_needLamp, Cond.instanceMethod yX1_needLamp, Cond.selects RX1 yX1_needLamp yX1_needLamp, Cond.initialized RX1, Cond.code yX1_needLamp cX1_needLamp 2 none, Cond.classLink RX1 141 "java/lang/IndexOutOfBoundsException", Cond.initialized "java/lang/IndexOutOfBoundsException", Cond.fieldLink RX1 20 "LanternPrimes" "lampCount" "I", Cond.methodLink RX1 87 yX0_litAt, Cond.instanceMethod yX0_litAt, Cond.selects RX0 yX0_litAt yX0_litAt, Cond.initialized RX0, Cond.code yX0_litAt cX0_litAt 2 (some .boolean), Cond.fieldLink RX0 42 "LanternPrimes$Lamp" "covered" "Z", Cond.methodLink RX0 45 yX0_onAt, Cond.instanceMethod yX0_onAt, Cond.selects RX0 yX0_onAt yX0_onAt, Cond.code yX0_onAt cX0_onAt 4 (some .boolean), Cond.fieldLink RX0 18 "LanternPrimes$Lamp" "beatCount" "I", Cond.fieldLink RX0 9 "LanternPrimes$Lamp" "numbers" "[I", Cond.fieldLink RX0 15 "LanternPrimes$Lamp" "offsets" "[I", Cond.fieldLink RX0 22 "LanternPrimes$Lamp" "onAtStart" "Z"]
def wsX1_isLit_r2 : List Cond := [Cond.methodLink RX0 48 yX0_strikesUpTo, Cond.static yX0_strikesUpTo, Cond.code yX0_strikesUpTo cX0_strikesUpTo 3 (some .int), Cond.methodLink RX0 38 yX0_isOdd, Cond.static yX0_isOdd, Cond.code yX0_isOdd cX0_isOdd 1 (some .boolean)]
def wsX1_isLit : List Cond := .code yX1_isLit cX1_isLit 2 (some .boolean) :: ((wsX1_isLit_r1 ++ wsX1_isLit_r2) ++ wsX10 ++ wsX00 ++ (vx_atS RX1 145 "java/lang/IndexOutOfBoundsException" ["java/lang/RuntimeException", "java/lang/Exception"]).filter goodWord)
def wsX1_litCount : List Cond := .code yX1_litCount cX1_litCount 4 (some .int) :: ([.fieldLink RX1 20 "LanternPrimes" "lampCount" "I", .fieldLink RX1 11 "LanternPrimes" "row" "[LLanternPrimes$Lamp;", .methodLink RX1 87 yX0_litAt, .instanceMethod yX0_litAt, .selects RX0 yX0_litAt yX0_litAt, .initialized RX0, .code yX0_litAt cX0_litAt 2 (some .boolean), .fieldLink RX0 42 "LanternPrimes$Lamp" "covered" "Z", .methodLink RX0 45 yX0_onAt, .instanceMethod yX0_onAt, .selects RX0 yX0_onAt yX0_onAt, .code yX0_onAt cX0_onAt 4 (some .boolean), .fieldLink RX0 18 "LanternPrimes$Lamp" "beatCount" "I", .fieldLink RX0 9 "LanternPrimes$Lamp" "numbers" "[I", .fieldLink RX0 15 "LanternPrimes$Lamp" "offsets" "[I", .fieldLink RX0 22 "LanternPrimes$Lamp" "onAtStart" "Z", .methodLink RX0 48 yX0_strikesUpTo, .static yX0_strikesUpTo, .code yX0_strikesUpTo cX0_strikesUpTo 3 (some .int), .methodLink RX0 38 yX0_isOdd, .static yX0_isOdd, .code yX0_isOdd cX0_isOdd 1 (some .boolean)] ++ wsX10 ++ wsX00)
def wsX1_litLamps_r1 : List Cond := [Cond.fieldLink RX1 73 "LanternPrimes" "present" "I", Cond.methodLink RX1 90 yX1_litCount, Cond.instanceMethod yX1_litCount, Cond.selects RX1 yX1_litCount yX1_litCount, Cond.initialized RX1, Cond.code yX1_litCount cX1_litCount 4 (some .int), Cond.fieldLink RX1 20 "LanternPrimes" "lampCount" "I", Cond.fieldLink RX1 11 "LanternPrimes" "row" "[LLanternPrimes$Lamp;", Cond.methodLink RX1 87 yX0_litAt, Cond.instanceMethod yX0_litAt, Cond.selects RX0 yX0_litAt yX0_litAt, Cond.initialized RX0, Cond.code yX0_litAt cX0_litAt 2 (some .boolean), Cond.fieldLink RX0 42 "LanternPrimes$Lamp" "covered" "Z", Cond.methodLink RX0 45 yX0_onAt, Cond.instanceMethod yX0_onAt, Cond.selects RX0 yX0_onAt yX0_onAt, Cond.code yX0_onAt cX0_onAt 4 (some .boolean), Cond.fieldLink RX0 18 "LanternPrimes$Lamp" "beatCount" "I", Cond.fieldLink RX0 9 "LanternPrimes$Lamp" "numbers" "[I", Cond.fieldLink RX0 15 "LanternPrimes$Lamp" "offsets" "[I", Cond.fieldLink RX0 22 "LanternPrimes$Lamp" "onAtStart" "Z", Cond.methodLink RX0 48 yX0_strikesUpTo, Cond.static yX0_strikesUpTo]
def wsX1_litLamps_r2 : List Cond := [Cond.code yX0_strikesUpTo cX0_strikesUpTo 3 (some .int), Cond.methodLink RX0 38 yX0_isOdd, Cond.static yX0_isOdd, Cond.code yX0_isOdd cX0_isOdd 1 (some .boolean)]
def wsX1_litLamps : List Cond := .code yX1_litLamps cX1_litLamps 1 (some .int) :: ((wsX1_litLamps_r1 ++ wsX1_litLamps_r2) ++ wsX10 ++ wsX00)
def wsX1_darkAt : List Cond := .code yX1_darkAt cX1_darkAt 4 (some .boolean) :: ([.fieldLink RX1 20 "LanternPrimes" "lampCount" "I", .fieldLink RX1 11 "LanternPrimes" "row" "[LLanternPrimes$Lamp;", .methodLink RX1 87 yX0_litAt, .instanceMethod yX0_litAt, .selects RX0 yX0_litAt yX0_litAt, .initialized RX0, .code yX0_litAt cX0_litAt 2 (some .boolean), .fieldLink RX0 42 "LanternPrimes$Lamp" "covered" "Z", .methodLink RX0 45 yX0_onAt, .instanceMethod yX0_onAt, .selects RX0 yX0_onAt yX0_onAt, .code yX0_onAt cX0_onAt 4 (some .boolean), .fieldLink RX0 18 "LanternPrimes$Lamp" "beatCount" "I", .fieldLink RX0 9 "LanternPrimes$Lamp" "numbers" "[I", .fieldLink RX0 15 "LanternPrimes$Lamp" "offsets" "[I", .fieldLink RX0 22 "LanternPrimes$Lamp" "onAtStart" "Z", .methodLink RX0 48 yX0_strikesUpTo, .static yX0_strikesUpTo, .code yX0_strikesUpTo cX0_strikesUpTo 3 (some .int), .methodLink RX0 38 yX0_isOdd, .static yX0_isOdd, .code yX0_isOdd cX0_isOdd 1 (some .boolean)] ++ wsX10 ++ wsX00)
def wsX1_isDark_r1 : List Cond := [Cond.fieldLink RX1 73 "LanternPrimes" "present" "I", Cond.methodLink RX1 93 yX1_darkAt, Cond.instanceMethod yX1_darkAt, Cond.selects RX1 yX1_darkAt yX1_darkAt, Cond.initialized RX1, Cond.code yX1_darkAt cX1_darkAt 4 (some .boolean), Cond.fieldLink RX1 20 "LanternPrimes" "lampCount" "I", Cond.fieldLink RX1 11 "LanternPrimes" "row" "[LLanternPrimes$Lamp;", Cond.methodLink RX1 87 yX0_litAt, Cond.instanceMethod yX0_litAt, Cond.selects RX0 yX0_litAt yX0_litAt, Cond.initialized RX0, Cond.code yX0_litAt cX0_litAt 2 (some .boolean), Cond.fieldLink RX0 42 "LanternPrimes$Lamp" "covered" "Z", Cond.methodLink RX0 45 yX0_onAt, Cond.instanceMethod yX0_onAt, Cond.selects RX0 yX0_onAt yX0_onAt, Cond.code yX0_onAt cX0_onAt 4 (some .boolean), Cond.fieldLink RX0 18 "LanternPrimes$Lamp" "beatCount" "I", Cond.fieldLink RX0 9 "LanternPrimes$Lamp" "numbers" "[I", Cond.fieldLink RX0 15 "LanternPrimes$Lamp" "offsets" "[I", Cond.fieldLink RX0 22 "LanternPrimes$Lamp" "onAtStart" "Z", Cond.methodLink RX0 48 yX0_strikesUpTo, Cond.static yX0_strikesUpTo]
def wsX1_isDark_r2 : List Cond := [Cond.code yX0_strikesUpTo cX0_strikesUpTo 3 (some .int), Cond.methodLink RX0 38 yX0_isOdd, Cond.static yX0_isOdd, Cond.code yX0_isOdd cX0_isOdd 1 (some .boolean)]
def wsX1_isDark : List Cond := .code yX1_isDark cX1_isDark 1 (some .boolean) :: ((wsX1_isDark_r1 ++ wsX1_isDark_r2) ++ wsX10 ++ wsX00)
def wsX1_needMoment : List Cond := .code yX1_needMoment cX1_needMoment 1 none :: ([.classLink RX1 148 "java/lang/IllegalArgumentException", .initialized "java/lang/IllegalArgumentException", .constant RX1 160 (60000)] ++ (vx_atS RX1 152 "java/lang/IllegalArgumentException" ["java/lang/RuntimeException", "java/lang/Exception"]).filter goodWord)
def wsX1_isOnAt_r1 : List Cond := [Cond.fieldLink RX1 11 "LanternPrimes" "row" "[LLanternPrimes$Lamp;", Cond.methodLink RX1 35 yX1_needLamp, Cond.instanceMethod yX1_needLamp, Cond.selects RX1 yX1_needLamp yX1_needLamp, Cond.initialized RX1, Cond.code yX1_needLamp cX1_needLamp 2 none, Cond.classLink RX1 141 "java/lang/IndexOutOfBoundsException", Cond.initialized "java/lang/IndexOutOfBoundsException", Cond.fieldLink RX1 20 "LanternPrimes" "lampCount" "I", Cond.methodLink RX1 97 yX1_needMoment, Cond.static yX1_needMoment, Cond.code yX1_needMoment cX1_needMoment 1 none, Cond.classLink RX1 148 "java/lang/IllegalArgumentException", Cond.initialized "java/lang/IllegalArgumentException", Cond.constant RX1 160 (60000), Cond.methodLink RX1 83 yX0_onAt, Cond.instanceMethod yX0_onAt, Cond.selects RX0 yX0_onAt yX0_onAt, Cond.initialized RX0, Cond.code yX0_onAt cX0_onAt 4 (some .boolean), Cond.fieldLink RX0 18 "LanternPrimes$Lamp" "beatCount" "I", Cond.fieldLink RX0 9 "LanternPrimes$Lamp" "numbers" "[I", Cond.fieldLink RX0 15 "LanternPrimes$Lamp" "offsets" "[I", Cond.fieldLink RX0 22 "LanternPrimes$Lamp" "onAtStart" "Z"]
def wsX1_isOnAt_r2 : List Cond := [Cond.methodLink RX0 48 yX0_strikesUpTo, Cond.static yX0_strikesUpTo, Cond.code yX0_strikesUpTo cX0_strikesUpTo 3 (some .int), Cond.methodLink RX0 38 yX0_isOdd, Cond.static yX0_isOdd, Cond.code yX0_isOdd cX0_isOdd 1 (some .boolean)]
def wsX1_isOnAt : List Cond := .code yX1_isOnAt cX1_isOnAt 3 (some .boolean) :: ((wsX1_isOnAt_r1 ++ wsX1_isOnAt_r2) ++ wsX10 ++ wsX00 ++ (vx_atS RX1 145 "java/lang/IndexOutOfBoundsException" ["java/lang/RuntimeException", "java/lang/Exception"]).filter goodWord ++ (vx_atS RX1 152 "java/lang/IllegalArgumentException" ["java/lang/RuntimeException", "java/lang/Exception"]).filter goodWord)
def wsX1_strikesAt : List Cond := .code yX1_strikesAt cX1_strikesAt 3 (some .int) :: ([.fieldLink RX1 11 "LanternPrimes" "row" "[LLanternPrimes$Lamp;", .methodLink RX1 35 yX1_needLamp, .instanceMethod yX1_needLamp, .selects RX1 yX1_needLamp yX1_needLamp, .initialized RX1, .code yX1_needLamp cX1_needLamp 2 none, .classLink RX1 141 "java/lang/IndexOutOfBoundsException", .initialized "java/lang/IndexOutOfBoundsException", .fieldLink RX1 20 "LanternPrimes" "lampCount" "I", .methodLink RX1 97 yX1_needMoment, .static yX1_needMoment, .code yX1_needMoment cX1_needMoment 1 none, .classLink RX1 148 "java/lang/IllegalArgumentException", .initialized "java/lang/IllegalArgumentException", .constant RX1 160 (60000), .methodLink RX1 100 yX0_strikes, .instanceMethod yX0_strikes, .selects RX0 yX0_strikes yX0_strikes, .initialized RX0, .code yX0_strikes cX0_strikes 4 (some .int), .fieldLink RX0 18 "LanternPrimes$Lamp" "beatCount" "I", .fieldLink RX0 9 "LanternPrimes$Lamp" "numbers" "[I", .fieldLink RX0 15 "LanternPrimes$Lamp" "offsets" "[I"] ++ wsX10 ++ wsX00 ++ (vx_atS RX1 145 "java/lang/IndexOutOfBoundsException" ["java/lang/RuntimeException", "java/lang/Exception"]).filter goodWord ++ (vx_atS RX1 152 "java/lang/IllegalArgumentException" ["java/lang/RuntimeException", "java/lang/Exception"]).filter goodWord)
def wsX1_isSteady_r1 : List Cond := [Cond.fieldLink RX1 11 "LanternPrimes" "row" "[LLanternPrimes$Lamp;", Cond.methodLink RX1 35 yX1_needLamp, Cond.instanceMethod yX1_needLamp, Cond.selects RX1 yX1_needLamp yX1_needLamp, Cond.initialized RX1, Cond.code yX1_needLamp cX1_needLamp 2 none, Cond.classLink RX1 141 "java/lang/IndexOutOfBoundsException", Cond.initialized "java/lang/IndexOutOfBoundsException", Cond.fieldLink RX1 20 "LanternPrimes" "lampCount" "I", Cond.methodLink RX1 103 yX0_neverChanges, Cond.instanceMethod yX0_neverChanges, Cond.selects RX0 yX0_neverChanges yX0_neverChanges, Cond.initialized RX0, Cond.code yX0_neverChanges cX0_neverChanges 1 (some .boolean), Cond.methodLink RX0 52 yX0_cycle, Cond.instanceMethod yX0_cycle, Cond.selects RX0 yX0_cycle yX0_cycle, Cond.code yX0_cycle cX0_cycle 3 (some .int), Cond.fieldLink RX0 22 "LanternPrimes$Lamp" "onAtStart" "Z", Cond.methodLink RX0 56 yX0_changeCycle, Cond.instanceMethod yX0_changeCycle, Cond.selects RX0 yX0_changeCycle yX0_changeCycle, Cond.code yX0_changeCycle cX0_changeCycle 8 (some .int), Cond.methodLink RX0 62 yX0_turningRemainders]
def wsX1_isSteady_r2 : List Cond := [Cond.instanceMethod yX0_turningRemainders, Cond.selects RX0 yX0_turningRemainders yX0_turningRemainders, Cond.code yX0_turningRemainders cX0_turningRemainders 4 (some .int), Cond.fieldLink RX0 18 "LanternPrimes$Lamp" "beatCount" "I", Cond.fieldLink RX0 9 "LanternPrimes$Lamp" "numbers" "[I", Cond.fieldLink RX0 15 "LanternPrimes$Lamp" "offsets" "[I", Cond.methodLink RX0 45 yX0_onAt, Cond.instanceMethod yX0_onAt, Cond.selects RX0 yX0_onAt yX0_onAt, Cond.code yX0_onAt cX0_onAt 4 (some .boolean), Cond.methodLink RX0 48 yX0_strikesUpTo, Cond.static yX0_strikesUpTo, Cond.code yX0_strikesUpTo cX0_strikesUpTo 3 (some .int), Cond.methodLink RX0 38 yX0_isOdd, Cond.static yX0_isOdd, Cond.code yX0_isOdd cX0_isOdd 1 (some .boolean)]
def wsX1_isSteady : List Cond := .code yX1_isSteady cX1_isSteady 2 (some .boolean) :: ((wsX1_isSteady_r1 ++ wsX1_isSteady_r2) ++ wsX10 ++ wsX00 ++ (vx_atS RX1 145 "java/lang/IndexOutOfBoundsException" ["java/lang/RuntimeException", "java/lang/Exception"]).filter goodWord)
def wsX1_cycleOf_r1 : List Cond := [Cond.fieldLink RX1 11 "LanternPrimes" "row" "[LLanternPrimes$Lamp;", Cond.methodLink RX1 35 yX1_needLamp, Cond.instanceMethod yX1_needLamp, Cond.selects RX1 yX1_needLamp yX1_needLamp, Cond.initialized RX1, Cond.code yX1_needLamp cX1_needLamp 2 none, Cond.classLink RX1 141 "java/lang/IndexOutOfBoundsException", Cond.initialized "java/lang/IndexOutOfBoundsException", Cond.fieldLink RX1 20 "LanternPrimes" "lampCount" "I", Cond.methodLink RX1 107 yX0_cycle, Cond.instanceMethod yX0_cycle, Cond.selects RX0 yX0_cycle yX0_cycle, Cond.initialized RX0, Cond.code yX0_cycle cX0_cycle 3 (some .int), Cond.fieldLink RX0 22 "LanternPrimes$Lamp" "onAtStart" "Z", Cond.methodLink RX0 56 yX0_changeCycle, Cond.instanceMethod yX0_changeCycle, Cond.selects RX0 yX0_changeCycle yX0_changeCycle, Cond.code yX0_changeCycle cX0_changeCycle 8 (some .int), Cond.methodLink RX0 62 yX0_turningRemainders, Cond.instanceMethod yX0_turningRemainders, Cond.selects RX0 yX0_turningRemainders yX0_turningRemainders, Cond.code yX0_turningRemainders cX0_turningRemainders 4 (some .int), Cond.fieldLink RX0 18 "LanternPrimes$Lamp" "beatCount" "I"]
def wsX1_cycleOf_r2 : List Cond := [Cond.fieldLink RX0 9 "LanternPrimes$Lamp" "numbers" "[I", Cond.fieldLink RX0 15 "LanternPrimes$Lamp" "offsets" "[I", Cond.methodLink RX0 45 yX0_onAt, Cond.instanceMethod yX0_onAt, Cond.selects RX0 yX0_onAt yX0_onAt, Cond.code yX0_onAt cX0_onAt 4 (some .boolean), Cond.methodLink RX0 48 yX0_strikesUpTo, Cond.static yX0_strikesUpTo, Cond.code yX0_strikesUpTo cX0_strikesUpTo 3 (some .int), Cond.methodLink RX0 38 yX0_isOdd, Cond.static yX0_isOdd, Cond.code yX0_isOdd cX0_isOdd 1 (some .boolean)]
def wsX1_cycleOf : List Cond := .code yX1_cycleOf cX1_cycleOf 2 (some .int) :: ((wsX1_cycleOf_r1 ++ wsX1_cycleOf_r2) ++ wsX10 ++ wsX00 ++ (vx_atS RX1 145 "java/lang/IndexOutOfBoundsException" ["java/lang/RuntimeException", "java/lang/Exception"]).filter goodWord)
def wsX1_momentsUntilChange_r1 : List Cond := [Cond.fieldLink RX1 11 "LanternPrimes" "row" "[LLanternPrimes$Lamp;", Cond.fieldLink RX1 73 "LanternPrimes" "present" "I", Cond.methodLink RX1 35 yX1_needLamp, Cond.instanceMethod yX1_needLamp, Cond.selects RX1 yX1_needLamp yX1_needLamp, Cond.initialized RX1, Cond.code yX1_needLamp cX1_needLamp 2 none, Cond.classLink RX1 141 "java/lang/IndexOutOfBoundsException", Cond.initialized "java/lang/IndexOutOfBoundsException", Cond.fieldLink RX1 20 "LanternPrimes" "lampCount" "I", Cond.methodLink RX1 111 yX0_untilChange, Cond.instanceMethod yX0_untilChange, Cond.selects RX0 yX0_untilChange yX0_untilChange, Cond.initialized RX0, Cond.code yX0_untilChange cX0_untilChange 4 (some .int), Cond.methodLink RX0 56 yX0_changeCycle, Cond.instanceMethod yX0_changeCycle, Cond.selects RX0 yX0_changeCycle yX0_changeCycle, Cond.code yX0_changeCycle cX0_changeCycle 8 (some .int), Cond.methodLink RX0 62 yX0_turningRemainders, Cond.instanceMethod yX0_turningRemainders, Cond.selects RX0 yX0_turningRemainders yX0_turningRemainders, Cond.code yX0_turningRemainders cX0_turningRemainders 4 (some .int), Cond.fieldLink RX0 18 "LanternPrimes$Lamp" "beatCount" "I"]
def wsX1_momentsUntilChange_r2 : List Cond := [Cond.fieldLink RX0 9 "LanternPrimes$Lamp" "numbers" "[I", Cond.fieldLink RX0 15 "LanternPrimes$Lamp" "offsets" "[I", Cond.methodLink RX0 65 yX0_changesAt, Cond.instanceMethod yX0_changesAt, Cond.selects RX0 yX0_changesAt yX0_changesAt, Cond.code yX0_changesAt cX0_changesAt 2 (some .boolean), Cond.methodLink RX0 34 yX0_strikes, Cond.instanceMethod yX0_strikes, Cond.selects RX0 yX0_strikes yX0_strikes, Cond.code yX0_strikes cX0_strikes 4 (some .int), Cond.methodLink RX0 38 yX0_isOdd, Cond.static yX0_isOdd, Cond.code yX0_isOdd cX0_isOdd 1 (some .boolean)]
def wsX1_momentsUntilChange : List Cond := .code yX1_momentsUntilChange cX1_momentsUntilChange 2 (some .int) :: ((wsX1_momentsUntilChange_r1 ++ wsX1_momentsUntilChange_r2) ++ wsX10 ++ wsX00 ++ (vx_atS RX1 145 "java/lang/IndexOutOfBoundsException" ["java/lang/RuntimeException", "java/lang/Exception"]).filter goodWord)
def wsX1_shows_r1 : List Cond := [Cond.fieldLink RX1 11 "LanternPrimes" "row" "[LLanternPrimes$Lamp;", Cond.fieldLink RX1 73 "LanternPrimes" "present" "I", Cond.methodLink RX1 35 yX1_needLamp, Cond.instanceMethod yX1_needLamp, Cond.selects RX1 yX1_needLamp yX1_needLamp, Cond.initialized RX1, Cond.code yX1_needLamp cX1_needLamp 2 none, Cond.classLink RX1 141 "java/lang/IndexOutOfBoundsException", Cond.initialized "java/lang/IndexOutOfBoundsException", Cond.fieldLink RX1 20 "LanternPrimes" "lampCount" "I", Cond.methodLink RX1 70 yX1_needMoments, Cond.static yX1_needMoments, Cond.code yX1_needMoments cX1_needMoments 2 none, Cond.classLink RX1 148 "java/lang/IllegalArgumentException", Cond.initialized "java/lang/IllegalArgumentException", Cond.methodLink RX1 83 yX0_onAt, Cond.instanceMethod yX0_onAt, Cond.selects RX0 yX0_onAt yX0_onAt, Cond.initialized RX0, Cond.code yX0_onAt cX0_onAt 4 (some .boolean), Cond.fieldLink RX0 18 "LanternPrimes$Lamp" "beatCount" "I", Cond.fieldLink RX0 9 "LanternPrimes$Lamp" "numbers" "[I", Cond.fieldLink RX0 15 "LanternPrimes$Lamp" "offsets" "[I", Cond.fieldLink RX0 22 "LanternPrimes$Lamp" "onAtStart" "Z"]
def wsX1_shows_r2 : List Cond := [Cond.methodLink RX0 48 yX0_strikesUpTo, Cond.static yX0_strikesUpTo, Cond.code yX0_strikesUpTo cX0_strikesUpTo 3 (some .int), Cond.methodLink RX0 38 yX0_isOdd, Cond.static yX0_isOdd, Cond.code yX0_isOdd cX0_isOdd 1 (some .boolean)]
def wsX1_shows : List Cond := .code yX1_shows cX1_shows 5 (some .int) :: ((wsX1_shows_r1 ++ wsX1_shows_r2) ++ wsX10 ++ wsX00 ++ (vx_atS RX1 145 "java/lang/IndexOutOfBoundsException" ["java/lang/RuntimeException", "java/lang/Exception"]).filter goodWord ++ (vx_atS RX1 152 "java/lang/IllegalArgumentException" ["java/lang/RuntimeException", "java/lang/Exception"]).filter goodWord)
def wsX1_needPair : List Cond := .code yX1_needPair cX1_needPair 3 none :: ([.classLink RX1 148 "java/lang/IllegalArgumentException", .initialized "java/lang/IllegalArgumentException", .methodLink RX1 35 yX1_needLamp, .instanceMethod yX1_needLamp, .selects RX1 yX1_needLamp yX1_needLamp, .initialized RX1, .code yX1_needLamp cX1_needLamp 2 none, .classLink RX1 141 "java/lang/IndexOutOfBoundsException", .initialized "java/lang/IndexOutOfBoundsException", .fieldLink RX1 20 "LanternPrimes" "lampCount" "I"] ++ wsX10 ++ (vx_atS RX1 152 "java/lang/IllegalArgumentException" ["java/lang/RuntimeException", "java/lang/Exception"]).filter goodWord ++ (vx_atS RX1 145 "java/lang/IndexOutOfBoundsException" ["java/lang/RuntimeException", "java/lang/Exception"]).filter goodWord)
def wsX1_collideAt : List Cond := .code yX1_collideAt cX1_collideAt 4 (some .boolean) :: ([.fieldLink RX1 11 "LanternPrimes" "row" "[LLanternPrimes$Lamp;", .methodLink RX1 165 yX0_changesAt, .instanceMethod yX0_changesAt, .selects RX0 yX0_changesAt yX0_changesAt, .initialized RX0, .code yX0_changesAt cX0_changesAt 2 (some .boolean), .methodLink RX0 34 yX0_strikes, .instanceMethod yX0_strikes, .selects RX0 yX0_strikes yX0_strikes, .code yX0_strikes cX0_strikes 4 (some .int), .fieldLink RX0 18 "LanternPrimes$Lamp" "beatCount" "I", .fieldLink RX0 9 "LanternPrimes$Lamp" "numbers" "[I", .fieldLink RX0 15 "LanternPrimes$Lamp" "offsets" "[I", .methodLink RX0 38 yX0_isOdd, .static yX0_isOdd, .code yX0_isOdd cX0_isOdd 1 (some .boolean)] ++ wsX10 ++ wsX00)
def wsX1_momentsUntilCollision_r1 : List Cond := [Cond.fieldLink RX1 73 "LanternPrimes" "present" "I", Cond.methodLink RX1 114 yX1_needPair, Cond.instanceMethod yX1_needPair, Cond.selects RX1 yX1_needPair yX1_needPair, Cond.initialized RX1, Cond.code yX1_needPair cX1_needPair 3 none, Cond.classLink RX1 148 "java/lang/IllegalArgumentException", Cond.initialized "java/lang/IllegalArgumentException", Cond.methodLink RX1 35 yX1_needLamp, Cond.instanceMethod yX1_needLamp, Cond.selects RX1 yX1_needLamp yX1_needLamp, Cond.code yX1_needLamp cX1_needLamp 2 none, Cond.classLink RX1 141 "java/lang/IndexOutOfBoundsException", Cond.initialized "java/lang/IndexOutOfBoundsException", Cond.fieldLink RX1 20 "LanternPrimes" "lampCount" "I", Cond.methodLink RX1 117 yX1_collideAt, Cond.instanceMethod yX1_collideAt, Cond.selects RX1 yX1_collideAt yX1_collideAt, Cond.code yX1_collideAt cX1_collideAt 4 (some .boolean), Cond.fieldLink RX1 11 "LanternPrimes" "row" "[LLanternPrimes$Lamp;", Cond.methodLink RX1 165 yX0_changesAt, Cond.instanceMethod yX0_changesAt, Cond.selects RX0 yX0_changesAt yX0_changesAt, Cond.initialized RX0]
def wsX1_momentsUntilCollision_r2 : List Cond := [Cond.code yX0_changesAt cX0_changesAt 2 (some .boolean), Cond.methodLink RX0 34 yX0_strikes, Cond.instanceMethod yX0_strikes, Cond.selects RX0 yX0_strikes yX0_strikes, Cond.code yX0_strikes cX0_strikes 4 (some .int), Cond.fieldLink RX0 18 "LanternPrimes$Lamp" "beatCount" "I", Cond.fieldLink RX0 9 "LanternPrimes$Lamp" "numbers" "[I", Cond.fieldLink RX0 15 "LanternPrimes$Lamp" "offsets" "[I", Cond.methodLink RX0 38 yX0_isOdd, Cond.static yX0_isOdd, Cond.code yX0_isOdd cX0_isOdd 1 (some .boolean)]
def wsX1_momentsUntilCollision : List Cond := .code yX1_momentsUntilCollision cX1_momentsUntilCollision 4 (some .int) :: ((wsX1_momentsUntilCollision_r1 ++ wsX1_momentsUntilCollision_r2) ++ wsX10 ++ wsX00 ++ (vx_atS RX1 152 "java/lang/IllegalArgumentException" ["java/lang/RuntimeException", "java/lang/Exception"]).filter goodWord ++ (vx_atS RX1 145 "java/lang/IndexOutOfBoundsException" ["java/lang/RuntimeException", "java/lang/Exception"]).filter goodWord)
def wsX1_collisionsWithin_r1 : List Cond := [Cond.fieldLink RX1 73 "LanternPrimes" "present" "I", Cond.methodLink RX1 114 yX1_needPair, Cond.instanceMethod yX1_needPair, Cond.selects RX1 yX1_needPair yX1_needPair, Cond.initialized RX1, Cond.code yX1_needPair cX1_needPair 3 none, Cond.classLink RX1 148 "java/lang/IllegalArgumentException", Cond.initialized "java/lang/IllegalArgumentException", Cond.methodLink RX1 35 yX1_needLamp, Cond.instanceMethod yX1_needLamp, Cond.selects RX1 yX1_needLamp yX1_needLamp, Cond.code yX1_needLamp cX1_needLamp 2 none, Cond.classLink RX1 141 "java/lang/IndexOutOfBoundsException", Cond.initialized "java/lang/IndexOutOfBoundsException", Cond.fieldLink RX1 20 "LanternPrimes" "lampCount" "I", Cond.methodLink RX1 70 yX1_needMoments, Cond.static yX1_needMoments, Cond.code yX1_needMoments cX1_needMoments 2 none, Cond.methodLink RX1 117 yX1_collideAt, Cond.instanceMethod yX1_collideAt, Cond.selects RX1 yX1_collideAt yX1_collideAt, Cond.code yX1_collideAt cX1_collideAt 4 (some .boolean), Cond.fieldLink RX1 11 "LanternPrimes" "row" "[LLanternPrimes$Lamp;", Cond.methodLink RX1 165 yX0_changesAt]
def wsX1_collisionsWithin_r2 : List Cond := [Cond.instanceMethod yX0_changesAt, Cond.selects RX0 yX0_changesAt yX0_changesAt, Cond.initialized RX0, Cond.code yX0_changesAt cX0_changesAt 2 (some .boolean), Cond.methodLink RX0 34 yX0_strikes, Cond.instanceMethod yX0_strikes, Cond.selects RX0 yX0_strikes yX0_strikes, Cond.code yX0_strikes cX0_strikes 4 (some .int), Cond.fieldLink RX0 18 "LanternPrimes$Lamp" "beatCount" "I", Cond.fieldLink RX0 9 "LanternPrimes$Lamp" "numbers" "[I", Cond.fieldLink RX0 15 "LanternPrimes$Lamp" "offsets" "[I", Cond.methodLink RX0 38 yX0_isOdd, Cond.static yX0_isOdd, Cond.code yX0_isOdd cX0_isOdd 1 (some .boolean)]
def wsX1_collisionsWithin : List Cond := .code yX1_collisionsWithin cX1_collisionsWithin 6 (some .int) :: ((wsX1_collisionsWithin_r1 ++ wsX1_collisionsWithin_r2) ++ wsX10 ++ wsX00 ++ (vx_atS RX1 152 "java/lang/IllegalArgumentException" ["java/lang/RuntimeException", "java/lang/Exception"]).filter goodWord ++ (vx_atS RX1 145 "java/lang/IndexOutOfBoundsException" ["java/lang/RuntimeException", "java/lang/Exception"]).filter goodWord)
def wsX1_momentsUntilToldApart_r1 : List Cond := [Cond.fieldLink RX1 16 "LanternPrimes" "difference" "LLanternPrimes$Lamp;", Cond.fieldLink RX1 11 "LanternPrimes" "row" "[LLanternPrimes$Lamp;", Cond.fieldLink RX1 73 "LanternPrimes" "present" "I", Cond.methodLink RX1 114 yX1_needPair, Cond.instanceMethod yX1_needPair, Cond.selects RX1 yX1_needPair yX1_needPair, Cond.initialized RX1, Cond.code yX1_needPair cX1_needPair 3 none, Cond.classLink RX1 148 "java/lang/IllegalArgumentException", Cond.initialized "java/lang/IllegalArgumentException", Cond.methodLink RX1 35 yX1_needLamp, Cond.instanceMethod yX1_needLamp, Cond.selects RX1 yX1_needLamp yX1_needLamp, Cond.code yX1_needLamp cX1_needLamp 2 none, Cond.classLink RX1 141 "java/lang/IndexOutOfBoundsException", Cond.initialized "java/lang/IndexOutOfBoundsException", Cond.fieldLink RX1 20 "LanternPrimes" "lampCount" "I", Cond.methodLink RX1 121 yX0_becomeDifference, Cond.instanceMethod yX0_becomeDifference, Cond.selects RX0 yX0_becomeDifference yX0_becomeDifference, Cond.initialized RX0, Cond.code yX0_becomeDifference cX0_becomeDifference 3 none, Cond.fieldLink RX0 22 "LanternPrimes$Lamp" "onAtStart" "Z", Cond.fieldLink RX0 18 "LanternPrimes$Lamp" "beatCount" "I"]
def wsX1_momentsUntilToldApart_r2 : List Cond := [Cond.methodLink RX0 26 yX0_appendBeatsOf, Cond.instanceMethod yX0_appendBeatsOf, Cond.selects RX0 yX0_appendBeatsOf yX0_appendBeatsOf, Cond.code yX0_appendBeatsOf cX0_appendBeatsOf 3 none, Cond.fieldLink RX0 9 "LanternPrimes$Lamp" "numbers" "[I", Cond.fieldLink RX0 15 "LanternPrimes$Lamp" "offsets" "[I", Cond.methodLink RX0 30 yX0_append, Cond.instanceMethod yX0_append, Cond.selects RX0 yX0_append yX0_append, Cond.code yX0_append cX0_append 3 none, Cond.methodLink RX1 83 yX0_onAt, Cond.instanceMethod yX0_onAt, Cond.selects RX0 yX0_onAt yX0_onAt, Cond.code yX0_onAt cX0_onAt 4 (some .boolean), Cond.methodLink RX0 48 yX0_strikesUpTo, Cond.static yX0_strikesUpTo, Cond.code yX0_strikesUpTo cX0_strikesUpTo 3 (some .int), Cond.methodLink RX0 38 yX0_isOdd, Cond.static yX0_isOdd, Cond.code yX0_isOdd cX0_isOdd 1 (some .boolean), Cond.methodLink RX1 111 yX0_untilChange, Cond.instanceMethod yX0_untilChange, Cond.selects RX0 yX0_untilChange yX0_untilChange, Cond.code yX0_untilChange cX0_untilChange 4 (some .int)]
def wsX1_momentsUntilToldApart_r3 : List Cond := [Cond.methodLink RX0 56 yX0_changeCycle, Cond.instanceMethod yX0_changeCycle, Cond.selects RX0 yX0_changeCycle yX0_changeCycle, Cond.code yX0_changeCycle cX0_changeCycle 8 (some .int), Cond.methodLink RX0 62 yX0_turningRemainders, Cond.instanceMethod yX0_turningRemainders, Cond.selects RX0 yX0_turningRemainders yX0_turningRemainders, Cond.code yX0_turningRemainders cX0_turningRemainders 4 (some .int), Cond.methodLink RX0 65 yX0_changesAt, Cond.instanceMethod yX0_changesAt, Cond.selects RX0 yX0_changesAt yX0_changesAt, Cond.code yX0_changesAt cX0_changesAt 2 (some .boolean), Cond.methodLink RX0 34 yX0_strikes, Cond.instanceMethod yX0_strikes, Cond.selects RX0 yX0_strikes yX0_strikes, Cond.code yX0_strikes cX0_strikes 4 (some .int)]
def wsX1_momentsUntilToldApart : List Cond := .code yX1_momentsUntilToldApart cX1_momentsUntilToldApart 3 (some .int) :: ((wsX1_momentsUntilToldApart_r1 ++ (wsX1_momentsUntilToldApart_r2 ++ wsX1_momentsUntilToldApart_r3)) ++ wsX10 ++ wsX00 ++ (vx_atS RX1 152 "java/lang/IllegalArgumentException" ["java/lang/RuntimeException", "java/lang/Exception"]).filter goodWord ++ (vx_atS RX1 145 "java/lang/IndexOutOfBoundsException" ["java/lang/RuntimeException", "java/lang/Exception"]).filter goodWord)
def wsX1_momentsUntilDark_r1 : List Cond := [Cond.fieldLink RX1 73 "LanternPrimes" "present" "I", Cond.methodLink RX1 93 yX1_darkAt, Cond.instanceMethod yX1_darkAt, Cond.selects RX1 yX1_darkAt yX1_darkAt, Cond.initialized RX1, Cond.code yX1_darkAt cX1_darkAt 4 (some .boolean), Cond.fieldLink RX1 20 "LanternPrimes" "lampCount" "I", Cond.fieldLink RX1 11 "LanternPrimes" "row" "[LLanternPrimes$Lamp;", Cond.methodLink RX1 87 yX0_litAt, Cond.instanceMethod yX0_litAt, Cond.selects RX0 yX0_litAt yX0_litAt, Cond.initialized RX0, Cond.code yX0_litAt cX0_litAt 2 (some .boolean), Cond.fieldLink RX0 42 "LanternPrimes$Lamp" "covered" "Z", Cond.methodLink RX0 45 yX0_onAt, Cond.instanceMethod yX0_onAt, Cond.selects RX0 yX0_onAt yX0_onAt, Cond.code yX0_onAt cX0_onAt 4 (some .boolean), Cond.fieldLink RX0 18 "LanternPrimes$Lamp" "beatCount" "I", Cond.fieldLink RX0 9 "LanternPrimes$Lamp" "numbers" "[I", Cond.fieldLink RX0 15 "LanternPrimes$Lamp" "offsets" "[I", Cond.fieldLink RX0 22 "LanternPrimes$Lamp" "onAtStart" "Z", Cond.methodLink RX0 48 yX0_strikesUpTo, Cond.static yX0_strikesUpTo]
def wsX1_momentsUntilDark_r2 : List Cond := [Cond.code yX0_strikesUpTo cX0_strikesUpTo 3 (some .int), Cond.methodLink RX0 38 yX0_isOdd, Cond.static yX0_isOdd, Cond.code yX0_isOdd cX0_isOdd 1 (some .boolean)]
def wsX1_momentsUntilDark : List Cond := .code yX1_momentsUntilDark cX1_momentsUntilDark 2 (some .int) :: ((wsX1_momentsUntilDark_r1 ++ wsX1_momentsUntilDark_r2) ++ wsX10 ++ wsX00)
def wsX1_darkMoments_r1 : List Cond := [Cond.fieldLink RX1 73 "LanternPrimes" "present" "I", Cond.methodLink RX1 93 yX1_darkAt, Cond.instanceMethod yX1_darkAt, Cond.selects RX1 yX1_darkAt yX1_darkAt, Cond.initialized RX1, Cond.code yX1_darkAt cX1_darkAt 4 (some .boolean), Cond.fieldLink RX1 20 "LanternPrimes" "lampCount" "I", Cond.fieldLink RX1 11 "LanternPrimes" "row" "[LLanternPrimes$Lamp;", Cond.methodLink RX1 87 yX0_litAt, Cond.instanceMethod yX0_litAt, Cond.selects RX0 yX0_litAt yX0_litAt, Cond.initialized RX0, Cond.code yX0_litAt cX0_litAt 2 (some .boolean), Cond.fieldLink RX0 42 "LanternPrimes$Lamp" "covered" "Z", Cond.methodLink RX0 45 yX0_onAt, Cond.instanceMethod yX0_onAt, Cond.selects RX0 yX0_onAt yX0_onAt, Cond.code yX0_onAt cX0_onAt 4 (some .boolean), Cond.fieldLink RX0 18 "LanternPrimes$Lamp" "beatCount" "I", Cond.fieldLink RX0 9 "LanternPrimes$Lamp" "numbers" "[I", Cond.fieldLink RX0 15 "LanternPrimes$Lamp" "offsets" "[I", Cond.fieldLink RX0 22 "LanternPrimes$Lamp" "onAtStart" "Z", Cond.methodLink RX0 48 yX0_strikesUpTo, Cond.static yX0_strikesUpTo]
def wsX1_darkMoments_r2 : List Cond := [Cond.code yX0_strikesUpTo cX0_strikesUpTo 3 (some .int), Cond.methodLink RX0 38 yX0_isOdd, Cond.static yX0_isOdd, Cond.code yX0_isOdd cX0_isOdd 1 (some .boolean)]
def wsX1_darkMoments : List Cond := .code yX1_darkMoments cX1_darkMoments 5 (some .int) :: ((wsX1_darkMoments_r1 ++ wsX1_darkMoments_r2) ++ wsX10 ++ wsX00)
def wsX1_darkWithin_r1 : List Cond := [Cond.methodLink RX1 70 yX1_needMoments, Cond.static yX1_needMoments, Cond.initialized RX1, Cond.code yX1_needMoments cX1_needMoments 2 none, Cond.classLink RX1 148 "java/lang/IllegalArgumentException", Cond.initialized "java/lang/IllegalArgumentException", Cond.methodLink RX1 125 yX1_darkMoments, Cond.instanceMethod yX1_darkMoments, Cond.selects RX1 yX1_darkMoments yX1_darkMoments, Cond.code yX1_darkMoments cX1_darkMoments 5 (some .int), Cond.fieldLink RX1 73 "LanternPrimes" "present" "I", Cond.methodLink RX1 93 yX1_darkAt, Cond.instanceMethod yX1_darkAt, Cond.selects RX1 yX1_darkAt yX1_darkAt, Cond.code yX1_darkAt cX1_darkAt 4 (some .boolean), Cond.fieldLink RX1 20 "LanternPrimes" "lampCount" "I", Cond.fieldLink RX1 11 "LanternPrimes" "row" "[LLanternPrimes$Lamp;", Cond.methodLink RX1 87 yX0_litAt, Cond.instanceMethod yX0_litAt, Cond.selects RX0 yX0_litAt yX0_litAt, Cond.initialized RX0, Cond.code yX0_litAt cX0_litAt 2 (some .boolean), Cond.fieldLink RX0 42 "LanternPrimes$Lamp" "covered" "Z", Cond.methodLink RX0 45 yX0_onAt]
def wsX1_darkWithin_r2 : List Cond := [Cond.instanceMethod yX0_onAt, Cond.selects RX0 yX0_onAt yX0_onAt, Cond.code yX0_onAt cX0_onAt 4 (some .boolean), Cond.fieldLink RX0 18 "LanternPrimes$Lamp" "beatCount" "I", Cond.fieldLink RX0 9 "LanternPrimes$Lamp" "numbers" "[I", Cond.fieldLink RX0 15 "LanternPrimes$Lamp" "offsets" "[I", Cond.fieldLink RX0 22 "LanternPrimes$Lamp" "onAtStart" "Z", Cond.methodLink RX0 48 yX0_strikesUpTo, Cond.static yX0_strikesUpTo, Cond.code yX0_strikesUpTo cX0_strikesUpTo 3 (some .int), Cond.methodLink RX0 38 yX0_isOdd, Cond.static yX0_isOdd, Cond.code yX0_isOdd cX0_isOdd 1 (some .boolean)]
def wsX1_darkWithin : List Cond := .code yX1_darkWithin cX1_darkWithin 2 (some .int) :: ((wsX1_darkWithin_r1 ++ wsX1_darkWithin_r2) ++ wsX10 ++ wsX00 ++ (vx_atS RX1 152 "java/lang/IllegalArgumentException" ["java/lang/RuntimeException", "java/lang/Exception"]).filter goodWord)
def wsX1_brightestWithin_r1 : List Cond := [Cond.fieldLink RX1 73 "LanternPrimes" "present" "I", Cond.methodLink RX1 70 yX1_needMoments, Cond.static yX1_needMoments, Cond.initialized RX1, Cond.code yX1_needMoments cX1_needMoments 2 none, Cond.classLink RX1 148 "java/lang/IllegalArgumentException", Cond.initialized "java/lang/IllegalArgumentException", Cond.methodLink RX1 90 yX1_litCount, Cond.instanceMethod yX1_litCount, Cond.selects RX1 yX1_litCount yX1_litCount, Cond.code yX1_litCount cX1_litCount 4 (some .int), Cond.fieldLink RX1 20 "LanternPrimes" "lampCount" "I", Cond.fieldLink RX1 11 "LanternPrimes" "row" "[LLanternPrimes$Lamp;", Cond.methodLink RX1 87 yX0_litAt, Cond.instanceMethod yX0_litAt, Cond.selects RX0 yX0_litAt yX0_litAt, Cond.initialized RX0, Cond.code yX0_litAt cX0_litAt 2 (some .boolean), Cond.fieldLink RX0 42 "LanternPrimes$Lamp" "covered" "Z", Cond.methodLink RX0 45 yX0_onAt, Cond.instanceMethod yX0_onAt, Cond.selects RX0 yX0_onAt yX0_onAt, Cond.code yX0_onAt cX0_onAt 4 (some .boolean), Cond.fieldLink RX0 18 "LanternPrimes$Lamp" "beatCount" "I"]
def wsX1_brightestWithin_r2 : List Cond := [Cond.fieldLink RX0 9 "LanternPrimes$Lamp" "numbers" "[I", Cond.fieldLink RX0 15 "LanternPrimes$Lamp" "offsets" "[I", Cond.fieldLink RX0 22 "LanternPrimes$Lamp" "onAtStart" "Z", Cond.methodLink RX0 48 yX0_strikesUpTo, Cond.static yX0_strikesUpTo, Cond.code yX0_strikesUpTo cX0_strikesUpTo 3 (some .int), Cond.methodLink RX0 38 yX0_isOdd, Cond.static yX0_isOdd, Cond.code yX0_isOdd cX0_isOdd 1 (some .boolean)]
def wsX1_brightestWithin : List Cond := .code yX1_brightestWithin cX1_brightestWithin 6 (some .int) :: ((wsX1_brightestWithin_r1 ++ wsX1_brightestWithin_r2) ++ wsX10 ++ wsX00 ++ (vx_atS RX1 152 "java/lang/IllegalArgumentException" ["java/lang/RuntimeException", "java/lang/Exception"]).filter goodWord)
def wsX1_bestCover_r1 : List Cond := [Cond.fieldLink RX1 20 "LanternPrimes" "lampCount" "I", Cond.fieldLink RX1 11 "LanternPrimes" "row" "[LLanternPrimes$Lamp;", Cond.methodLink RX1 70 yX1_needMoments, Cond.static yX1_needMoments, Cond.initialized RX1, Cond.code yX1_needMoments cX1_needMoments 2 none, Cond.classLink RX1 148 "java/lang/IllegalArgumentException", Cond.initialized "java/lang/IllegalArgumentException", Cond.methodLink RX1 125 yX1_darkMoments, Cond.instanceMethod yX1_darkMoments, Cond.selects RX1 yX1_darkMoments yX1_darkMoments, Cond.code yX1_darkMoments cX1_darkMoments 5 (some .int), Cond.fieldLink RX1 73 "LanternPrimes" "present" "I", Cond.methodLink RX1 93 yX1_darkAt, Cond.instanceMethod yX1_darkAt, Cond.selects RX1 yX1_darkAt yX1_darkAt, Cond.code yX1_darkAt cX1_darkAt 4 (some .boolean), Cond.methodLink RX1 87 yX0_litAt, Cond.instanceMethod yX0_litAt, Cond.selects RX0 yX0_litAt yX0_litAt, Cond.initialized RX0, Cond.code yX0_litAt cX0_litAt 2 (some .boolean), Cond.fieldLink RX0 42 "LanternPrimes$Lamp" "covered" "Z", Cond.methodLink RX0 45 yX0_onAt]
def wsX1_bestCover_r2 : List Cond := [Cond.instanceMethod yX0_onAt, Cond.selects RX0 yX0_onAt yX0_onAt, Cond.code yX0_onAt cX0_onAt 4 (some .boolean), Cond.fieldLink RX0 18 "LanternPrimes$Lamp" "beatCount" "I", Cond.fieldLink RX0 9 "LanternPrimes$Lamp" "numbers" "[I", Cond.fieldLink RX0 15 "LanternPrimes$Lamp" "offsets" "[I", Cond.fieldLink RX0 22 "LanternPrimes$Lamp" "onAtStart" "Z", Cond.methodLink RX0 48 yX0_strikesUpTo, Cond.static yX0_strikesUpTo, Cond.code yX0_strikesUpTo cX0_strikesUpTo 3 (some .int), Cond.methodLink RX0 38 yX0_isOdd, Cond.static yX0_isOdd, Cond.code yX0_isOdd cX0_isOdd 1 (some .boolean)]
def wsX1_bestCover : List Cond := .code yX1_bestCover cX1_bestCover 6 (some .int) :: ((wsX1_bestCover_r1 ++ wsX1_bestCover_r2) ++ wsX10 ++ wsX00 ++ (vx_atS RX1 152 "java/lang/IllegalArgumentException" ["java/lang/RuntimeException", "java/lang/Exception"]).filter goodWord)
def wsX1_meanBeats : List Cond := .code yX1_meanBeats cX1_meanBeats 3 (some .double) :: ([.fieldLink RX1 20 "LanternPrimes" "lampCount" "I", .fieldLink RX1 11 "LanternPrimes" "row" "[LLanternPrimes$Lamp;"] ++ wsX10 ++ wsX00)
def wsX1_mixed : List Cond := .code yX1_mixed cX1_mixed 4 (some .long) :: ([.constantLong RX1 139 (31)])
def wsX1_mixedWithLamp_r1 : List Cond := [Cond.fieldLink RX1 73 "LanternPrimes" "present" "I", Cond.methodLink RX1 131 yX1_mixed, Cond.static yX1_mixed, Cond.initialized RX1, Cond.code yX1_mixed cX1_mixed 4 (some .long), Cond.constantLong RX1 139 (31), Cond.methodLink RX1 83 yX0_onAt, Cond.instanceMethod yX0_onAt, Cond.selects RX0 yX0_onAt yX0_onAt, Cond.initialized RX0, Cond.code yX0_onAt cX0_onAt 4 (some .boolean), Cond.fieldLink RX0 18 "LanternPrimes$Lamp" "beatCount" "I", Cond.fieldLink RX0 9 "LanternPrimes$Lamp" "numbers" "[I", Cond.fieldLink RX0 15 "LanternPrimes$Lamp" "offsets" "[I", Cond.fieldLink RX0 22 "LanternPrimes$Lamp" "onAtStart" "Z", Cond.methodLink RX0 48 yX0_strikesUpTo, Cond.static yX0_strikesUpTo, Cond.code yX0_strikesUpTo cX0_strikesUpTo 3 (some .int), Cond.methodLink RX0 38 yX0_isOdd, Cond.static yX0_isOdd, Cond.code yX0_isOdd cX0_isOdd 1 (some .boolean), Cond.methodLink RX1 103 yX0_neverChanges, Cond.instanceMethod yX0_neverChanges, Cond.selects RX0 yX0_neverChanges yX0_neverChanges]
def wsX1_mixedWithLamp_r2 : List Cond := [Cond.code yX0_neverChanges cX0_neverChanges 1 (some .boolean), Cond.methodLink RX0 52 yX0_cycle, Cond.instanceMethod yX0_cycle, Cond.selects RX0 yX0_cycle yX0_cycle, Cond.code yX0_cycle cX0_cycle 3 (some .int), Cond.methodLink RX0 56 yX0_changeCycle, Cond.instanceMethod yX0_changeCycle, Cond.selects RX0 yX0_changeCycle yX0_changeCycle, Cond.code yX0_changeCycle cX0_changeCycle 8 (some .int), Cond.methodLink RX0 62 yX0_turningRemainders, Cond.instanceMethod yX0_turningRemainders, Cond.selects RX0 yX0_turningRemainders yX0_turningRemainders, Cond.code yX0_turningRemainders cX0_turningRemainders 4 (some .int), Cond.methodLink RX0 45 yX0_onAt, Cond.methodLink RX1 107 yX0_cycle, Cond.methodLink RX1 111 yX0_untilChange, Cond.instanceMethod yX0_untilChange, Cond.selects RX0 yX0_untilChange yX0_untilChange, Cond.code yX0_untilChange cX0_untilChange 4 (some .int), Cond.methodLink RX0 65 yX0_changesAt, Cond.instanceMethod yX0_changesAt, Cond.selects RX0 yX0_changesAt yX0_changesAt, Cond.code yX0_changesAt cX0_changesAt 2 (some .boolean), Cond.methodLink RX0 34 yX0_strikes]
def wsX1_mixedWithLamp_r3 : List Cond := [Cond.instanceMethod yX0_strikes, Cond.selects RX0 yX0_strikes yX0_strikes, Cond.code yX0_strikes cX0_strikes 4 (some .int)]
def wsX1_mixedWithLamp : List Cond := .code yX1_mixedWithLamp cX1_mixedWithLamp 7 (some .long) :: ((wsX1_mixedWithLamp_r1 ++ (wsX1_mixedWithLamp_r2 ++ wsX1_mixedWithLamp_r3)) ++ wsX00 ++ wsX10)
def wsX1_digest_r1 : List Cond := [Cond.constantLong RX1 129 (1889), Cond.fieldLink RX1 20 "LanternPrimes" "lampCount" "I", Cond.fieldLink RX1 73 "LanternPrimes" "present" "I", Cond.fieldLink RX1 80 "LanternPrimes" "changesTold" "I", Cond.fieldLink RX1 11 "LanternPrimes" "row" "[LLanternPrimes$Lamp;", Cond.methodLink RX1 131 yX1_mixed, Cond.static yX1_mixed, Cond.initialized RX1, Cond.code yX1_mixed cX1_mixed 4 (some .long), Cond.constantLong RX1 139 (31), Cond.methodLink RX1 90 yX1_litCount, Cond.instanceMethod yX1_litCount, Cond.selects RX1 yX1_litCount yX1_litCount, Cond.code yX1_litCount cX1_litCount 4 (some .int), Cond.methodLink RX1 87 yX0_litAt, Cond.instanceMethod yX0_litAt, Cond.selects RX0 yX0_litAt yX0_litAt, Cond.initialized RX0, Cond.code yX0_litAt cX0_litAt 2 (some .boolean), Cond.fieldLink RX0 42 "LanternPrimes$Lamp" "covered" "Z", Cond.methodLink RX0 45 yX0_onAt, Cond.instanceMethod yX0_onAt, Cond.selects RX0 yX0_onAt yX0_onAt, Cond.code yX0_onAt cX0_onAt 4 (some .boolean)]
def wsX1_digest_r2 : List Cond := [Cond.fieldLink RX0 18 "LanternPrimes$Lamp" "beatCount" "I", Cond.fieldLink RX0 9 "LanternPrimes$Lamp" "numbers" "[I", Cond.fieldLink RX0 15 "LanternPrimes$Lamp" "offsets" "[I", Cond.fieldLink RX0 22 "LanternPrimes$Lamp" "onAtStart" "Z", Cond.methodLink RX0 48 yX0_strikesUpTo, Cond.static yX0_strikesUpTo, Cond.code yX0_strikesUpTo cX0_strikesUpTo 3 (some .int), Cond.methodLink RX0 38 yX0_isOdd, Cond.static yX0_isOdd, Cond.code yX0_isOdd cX0_isOdd 1 (some .boolean), Cond.methodLink RX1 135 yX1_mixedWithLamp, Cond.instanceMethod yX1_mixedWithLamp, Cond.selects RX1 yX1_mixedWithLamp yX1_mixedWithLamp, Cond.code yX1_mixedWithLamp cX1_mixedWithLamp 7 (some .long), Cond.methodLink RX1 83 yX0_onAt, Cond.methodLink RX1 103 yX0_neverChanges, Cond.instanceMethod yX0_neverChanges, Cond.selects RX0 yX0_neverChanges yX0_neverChanges, Cond.code yX0_neverChanges cX0_neverChanges 1 (some .boolean), Cond.methodLink RX0 52 yX0_cycle, Cond.instanceMethod yX0_cycle, Cond.selects RX0 yX0_cycle yX0_cycle, Cond.code yX0_cycle cX0_cycle 3 (some .int), Cond.methodLink RX0 56 yX0_changeCycle]
def wsX1_digest_r3 : List Cond := [Cond.instanceMethod yX0_changeCycle, Cond.selects RX0 yX0_changeCycle yX0_changeCycle, Cond.code yX0_changeCycle cX0_changeCycle 8 (some .int), Cond.methodLink RX0 62 yX0_turningRemainders, Cond.instanceMethod yX0_turningRemainders, Cond.selects RX0 yX0_turningRemainders yX0_turningRemainders, Cond.code yX0_turningRemainders cX0_turningRemainders 4 (some .int), Cond.methodLink RX1 107 yX0_cycle, Cond.methodLink RX1 111 yX0_untilChange, Cond.instanceMethod yX0_untilChange, Cond.selects RX0 yX0_untilChange yX0_untilChange, Cond.code yX0_untilChange cX0_untilChange 4 (some .int), Cond.methodLink RX0 65 yX0_changesAt, Cond.instanceMethod yX0_changesAt, Cond.selects RX0 yX0_changesAt yX0_changesAt, Cond.code yX0_changesAt cX0_changesAt 2 (some .boolean), Cond.methodLink RX0 34 yX0_strikes, Cond.instanceMethod yX0_strikes, Cond.selects RX0 yX0_strikes yX0_strikes, Cond.code yX0_strikes cX0_strikes 4 (some .int)]
def wsX1_digest : List Cond := .code yX1_digest cX1_digest 4 (some .long) :: ((wsX1_digest_r1 ++ (wsX1_digest_r2 ++ wsX1_digest_r3)) ++ wsX10 ++ wsX00)
def wsX2_init : List Cond := .code yX2_init cX2_init 1 none :: ([.methodLink RX2 1 objectInit, .instanceMethod objectInit, .code objectInit ⟨#[0xb1]⟩ 1 none, .arrayClass .boolean, .fieldLink RX2 9 "LanternPrimesModel" "begins" "[Z", .fieldLink RX2 13 "LanternPrimesModel" "covered" "[Z", .arrayClass .int, .fieldLink RX2 16 "LanternPrimesModel" "beats" "[I", .fieldLink RX2 20 "LanternPrimesModel" "number" "[I", .fieldLink RX2 23 "LanternPrimesModel" "offset" "[I"] ++ wsX20)
def wsX2_thrown : List Cond := .code yX2_thrown cX2_thrown 1 (some .int) :: ([.fieldLink RX2 26 "LanternPrimesModel" "thrown" "I"] ++ wsX20)
def wsX2_no : List Cond := .code yX2_no cX2_no 2 (some .int) :: ([.fieldLink RX2 26 "LanternPrimesModel" "thrown" "I"] ++ wsX20)
def wsX2_isNot : List Cond := .code yX2_isNot cX2_isNot 2 (some .boolean) :: ([.fieldLink RX2 26 "LanternPrimesModel" "thrown" "I"] ++ wsX20)
def wsX2_isIn : List Cond := .code yX2_isIn cX2_isIn 3 (some .boolean) :: ([])
def wsX2_isLamp : List Cond := .code yX2_isLamp cX2_isLamp 2 (some .boolean) :: ([.fieldLink RX2 30 "LanternPrimesModel" "lamps" "I", .methodLink RX2 33 yX2_isIn, .static yX2_isIn, .initialized RX2, .code yX2_isIn cX2_isIn 3 (some .boolean)] ++ wsX20)
def wsX2_isBeat : List Cond := .code yX2_isBeat cX2_isBeat 3 (some .boolean) :: ([.fieldLink RX2 16 "LanternPrimesModel" "beats" "[I", .methodLink RX2 37 yX2_isLamp, .instanceMethod yX2_isLamp, .selects RX2 yX2_isLamp yX2_isLamp, .initialized RX2, .code yX2_isLamp cX2_isLamp 2 (some .boolean), .fieldLink RX2 30 "LanternPrimesModel" "lamps" "I", .methodLink RX2 33 yX2_isIn, .static yX2_isIn, .code yX2_isIn cX2_isIn 3 (some .boolean)] ++ wsX20)
def wsX2_isPrime : List Cond := .code yX2_isPrime cX2_isPrime 1 (some .boolean) :: ([])
def wsX2_strikes : List Cond := .code yX2_strikes cX2_strikes 5 (some .int) :: ([.fieldLink RX2 16 "LanternPrimesModel" "beats" "[I", .fieldLink RX2 20 "LanternPrimesModel" "number" "[I", .fieldLink RX2 23 "LanternPrimesModel" "offset" "[I"] ++ wsX20)
def wsX2_changes : List Cond := .code yX2_changes cX2_changes 3 (some .boolean) :: ([.methodLink RX2 41 yX2_strikes, .instanceMethod yX2_strikes, .selects RX2 yX2_strikes yX2_strikes, .initialized RX2, .code yX2_strikes cX2_strikes 5 (some .int), .fieldLink RX2 16 "LanternPrimesModel" "beats" "[I", .fieldLink RX2 20 "LanternPrimesModel" "number" "[I", .fieldLink RX2 23 "LanternPrimesModel" "offset" "[I"] ++ wsX20)
def wsX2_onAt : List Cond := .code yX2_onAt cX2_onAt 5 (some .boolean) :: ([.fieldLink RX2 9 "LanternPrimesModel" "begins" "[Z", .fieldLink RX2 16 "LanternPrimesModel" "beats" "[I", .fieldLink RX2 20 "LanternPrimesModel" "number" "[I", .fieldLink RX2 23 "LanternPrimesModel" "offset" "[I"] ++ wsX20)
def wsX2_litAt : List Cond := .code yX2_litAt cX2_litAt 5 (some .int) :: ([.fieldLink RX2 30 "LanternPrimesModel" "lamps" "I", .fieldLink RX2 13 "LanternPrimesModel" "covered" "[Z", .methodLink RX2 45 yX2_onAt, .instanceMethod yX2_onAt, .selects RX2 yX2_onAt yX2_onAt, .initialized RX2, .code yX2_onAt cX2_onAt 5 (some .boolean), .fieldLink RX2 9 "LanternPrimesModel" "begins" "[Z", .fieldLink RX2 16 "LanternPrimesModel" "beats" "[I", .fieldLink RX2 20 "LanternPrimesModel" "number" "[I", .fieldLink RX2 23 "LanternPrimesModel" "offset" "[I"] ++ wsX20)
def wsX2_product : List Cond := .code yX2_product cX2_product 4 (some .int) :: ([.fieldLink RX2 16 "LanternPrimesModel" "beats" "[I", .fieldLink RX2 20 "LanternPrimesModel" "number" "[I"] ++ wsX20)
def wsX2_steady : List Cond := .code yX2_steady cX2_steady 3 (some .boolean) :: ([.methodLink RX2 49 yX2_product, .instanceMethod yX2_product, .selects RX2 yX2_product yX2_product, .initialized RX2, .code yX2_product cX2_product 4 (some .int), .fieldLink RX2 16 "LanternPrimesModel" "beats" "[I", .fieldLink RX2 20 "LanternPrimesModel" "number" "[I", .methodLink RX2 53 yX2_changes, .instanceMethod yX2_changes, .selects RX2 yX2_changes yX2_changes, .code yX2_changes cX2_changes 3 (some .boolean), .methodLink RX2 41 yX2_strikes, .instanceMethod yX2_strikes, .selects RX2 yX2_strikes yX2_strikes, .code yX2_strikes cX2_strikes 5 (some .int), .fieldLink RX2 23 "LanternPrimesModel" "offset" "[I"] ++ wsX20)
def wsX2_isCycle : List Cond := .code yX2_isCycle cX2_isCycle 5 (some .boolean) :: ([.methodLink RX2 45 yX2_onAt, .instanceMethod yX2_onAt, .selects RX2 yX2_onAt yX2_onAt, .initialized RX2, .code yX2_onAt cX2_onAt 5 (some .boolean), .fieldLink RX2 9 "LanternPrimesModel" "begins" "[Z", .fieldLink RX2 16 "LanternPrimesModel" "beats" "[I", .fieldLink RX2 20 "LanternPrimesModel" "number" "[I", .fieldLink RX2 23 "LanternPrimesModel" "offset" "[I", .methodLink RX2 53 yX2_changes, .instanceMethod yX2_changes, .selects RX2 yX2_changes yX2_changes, .code yX2_changes cX2_changes 3 (some .boolean), .methodLink RX2 41 yX2_strikes, .instanceMethod yX2_strikes, .selects RX2 yX2_strikes yX2_strikes, .code yX2_strikes cX2_strikes 5 (some .int)] ++ wsX20)
def wsX2_cycle_r1 : List Cond := [Cond.methodLink RX2 49 yX2_product, Cond.instanceMethod yX2_product, Cond.selects RX2 yX2_product yX2_product, Cond.initialized RX2, Cond.code yX2_product cX2_product 4 (some .int), Cond.fieldLink RX2 16 "LanternPrimesModel" "beats" "[I", Cond.fieldLink RX2 20 "LanternPrimesModel" "number" "[I", Cond.methodLink RX2 56 yX2_isCycle, Cond.instanceMethod yX2_isCycle, Cond.selects RX2 yX2_isCycle yX2_isCycle, Cond.code yX2_isCycle cX2_isCycle 5 (some .boolean), Cond.methodLink RX2 45 yX2_onAt, Cond.instanceMethod yX2_onAt, Cond.selects RX2 yX2_onAt yX2_onAt, Cond.code yX2_onAt cX2_onAt 5 (some .boolean), Cond.fieldLink RX2 9 "LanternPrimesModel" "begins" "[Z", Cond.fieldLink RX2 23 "LanternPrimesModel" "offset" "[I", Cond.methodLink RX2 53 yX2_changes, Cond.instanceMethod yX2_changes, Cond.selects RX2 yX2_changes yX2_changes, Cond.code yX2_changes cX2_changes 3 (some .boolean), Cond.methodLink RX2 41 yX2_strikes, Cond.instanceMethod yX2_strikes, Cond.selects RX2 yX2_strikes yX2_strikes]
def wsX2_cycle_r2 : List Cond := [Cond.code yX2_strikes cX2_strikes 5 (some .int)]
def wsX2_cycle : List Cond := .code yX2_cycle cX2_cycle 4 (some .int) :: ((wsX2_cycle_r1 ++ wsX2_cycle_r2) ++ wsX20)
def wsX2_untilChange : List Cond := .code yX2_untilChange cX2_untilChange 4 (some .int) :: ([.fieldLink RX2 59 "LanternPrimesModel" "now" "I", .methodLink RX2 49 yX2_product, .instanceMethod yX2_product, .selects RX2 yX2_product yX2_product, .initialized RX2, .code yX2_product cX2_product 4 (some .int), .fieldLink RX2 16 "LanternPrimesModel" "beats" "[I", .fieldLink RX2 20 "LanternPrimesModel" "number" "[I", .methodLink RX2 53 yX2_changes, .instanceMethod yX2_changes, .selects RX2 yX2_changes yX2_changes, .code yX2_changes cX2_changes 3 (some .boolean), .methodLink RX2 41 yX2_strikes, .instanceMethod yX2_strikes, .selects RX2 yX2_strikes yX2_strikes, .code yX2_strikes cX2_strikes 5 (some .int), .fieldLink RX2 23 "LanternPrimesModel" "offset" "[I"] ++ wsX20)
def wsX2_addLamp : List Cond := .code yX2_addLamp cX2_addLamp 2 (some .int) :: ([.fieldLink RX2 26 "LanternPrimesModel" "thrown" "I", .fieldLink RX2 30 "LanternPrimesModel" "lamps" "I", .fieldLink RX2 9 "LanternPrimesModel" "begins" "[Z", .methodLink RX2 62 yX2_no, .instanceMethod yX2_no, .selects RX2 yX2_no yX2_no, .initialized RX2, .code yX2_no cX2_no 2 (some .int)] ++ wsX20)
def wsX2_addBeat : List Cond := .code yX2_addBeat cX2_addBeat 5 (some .int) :: ([.fieldLink RX2 26 "LanternPrimesModel" "thrown" "I", .fieldLink RX2 16 "LanternPrimesModel" "beats" "[I", .fieldLink RX2 20 "LanternPrimesModel" "number" "[I", .fieldLink RX2 23 "LanternPrimesModel" "offset" "[I", .methodLink RX2 37 yX2_isLamp, .instanceMethod yX2_isLamp, .selects RX2 yX2_isLamp yX2_isLamp, .initialized RX2, .code yX2_isLamp cX2_isLamp 2 (some .boolean), .fieldLink RX2 30 "LanternPrimesModel" "lamps" "I", .methodLink RX2 33 yX2_isIn, .static yX2_isIn, .code yX2_isIn cX2_isIn 3 (some .boolean), .methodLink RX2 62 yX2_no, .instanceMethod yX2_no, .selects RX2 yX2_no yX2_no, .code yX2_no cX2_no 2 (some .int), .methodLink RX2 65 yX2_isPrime, .static yX2_isPrime, .code yX2_isPrime cX2_isPrime 1 (some .boolean)] ++ wsX20)
def wsX2_moveBeat : List Cond := .code yX2_moveBeat cX2_moveBeat 6 (some .int) :: ([.fieldLink RX2 26 "LanternPrimesModel" "thrown" "I", .fieldLink RX2 20 "LanternPrimesModel" "number" "[I", .fieldLink RX2 23 "LanternPrimesModel" "offset" "[I", .methodLink RX2 68 yX2_isBeat, .instanceMethod yX2_isBeat, .selects RX2 yX2_isBeat yX2_isBeat, .initialized RX2, .code yX2_isBeat cX2_isBeat 3 (some .boolean), .fieldLink RX2 16 "LanternPrimesModel" "beats" "[I", .methodLink RX2 37 yX2_isLamp, .instanceMethod yX2_isLamp, .selects RX2 yX2_isLamp yX2_isLamp, .code yX2_isLamp cX2_isLamp 2 (some .boolean), .fieldLink RX2 30 "LanternPrimesModel" "lamps" "I", .methodLink RX2 33 yX2_isIn, .static yX2_isIn, .code yX2_isIn cX2_isIn 3 (some .boolean), .methodLink RX2 62 yX2_no, .instanceMethod yX2_no, .selects RX2 yX2_no yX2_no, .code yX2_no cX2_no 2 (some .int)] ++ wsX20)
def wsX2_takeBeat : List Cond := .code yX2_takeBeat cX2_takeBeat 4 (some .int) :: ([.fieldLink RX2 26 "LanternPrimesModel" "thrown" "I", .fieldLink RX2 16 "LanternPrimesModel" "beats" "[I", .fieldLink RX2 20 "LanternPrimesModel" "number" "[I", .fieldLink RX2 23 "LanternPrimesModel" "offset" "[I", .methodLink RX2 68 yX2_isBeat, .instanceMethod yX2_isBeat, .selects RX2 yX2_isBeat yX2_isBeat, .initialized RX2, .code yX2_isBeat cX2_isBeat 3 (some .boolean), .methodLink RX2 37 yX2_isLamp, .instanceMethod yX2_isLamp, .selects RX2 yX2_isLamp yX2_isLamp, .code yX2_isLamp cX2_isLamp 2 (some .boolean), .fieldLink RX2 30 "LanternPrimesModel" "lamps" "I", .methodLink RX2 33 yX2_isIn, .static yX2_isIn, .code yX2_isIn cX2_isIn 3 (some .boolean), .methodLink RX2 62 yX2_no, .instanceMethod yX2_no, .selects RX2 yX2_no yX2_no, .code yX2_no cX2_no 2 (some .int)] ++ wsX20)
def wsX2_turnShutter : List Cond := .code yX2_turnShutter cX2_turnShutter 2 (some .boolean) :: ([.fieldLink RX2 26 "LanternPrimesModel" "thrown" "I", .fieldLink RX2 13 "LanternPrimesModel" "covered" "[Z", .methodLink RX2 37 yX2_isLamp, .instanceMethod yX2_isLamp, .selects RX2 yX2_isLamp yX2_isLamp, .initialized RX2, .code yX2_isLamp cX2_isLamp 2 (some .boolean), .fieldLink RX2 30 "LanternPrimesModel" "lamps" "I", .methodLink RX2 33 yX2_isIn, .static yX2_isIn, .code yX2_isIn cX2_isIn 3 (some .boolean), .methodLink RX2 71 yX2_isNot, .instanceMethod yX2_isNot, .selects RX2 yX2_isNot yX2_isNot, .code yX2_isNot cX2_isNot 2 (some .boolean)] ++ wsX20)
def wsX2_pass : List Cond := .code yX2_pass cX2_pass 5 (some .int) :: ([.fieldLink RX2 26 "LanternPrimesModel" "thrown" "I", .fieldLink RX2 74 "LanternPrimesModel" "seen" "I", .fieldLink RX2 59 "LanternPrimesModel" "now" "I", .fieldLink RX2 30 "LanternPrimesModel" "lamps" "I", .methodLink RX2 33 yX2_isIn, .static yX2_isIn, .initialized RX2, .code yX2_isIn cX2_isIn 3 (some .boolean), .methodLink RX2 62 yX2_no, .instanceMethod yX2_no, .selects RX2 yX2_no yX2_no, .code yX2_no cX2_no 2 (some .int), .methodLink RX2 53 yX2_changes, .instanceMethod yX2_changes, .selects RX2 yX2_changes yX2_changes, .code yX2_changes cX2_changes 3 (some .boolean), .methodLink RX2 41 yX2_strikes, .instanceMethod yX2_strikes, .selects RX2 yX2_strikes yX2_strikes, .code yX2_strikes cX2_strikes 5 (some .int), .fieldLink RX2 16 "LanternPrimesModel" "beats" "[I", .fieldLink RX2 20 "LanternPrimesModel" "number" "[I", .fieldLink RX2 23 "LanternPrimesModel" "offset" "[I"] ++ wsX20)
def wsX2_lamps : List Cond := .code yX2_lamps cX2_lamps 1 (some .int) :: ([.fieldLink RX2 26 "LanternPrimesModel" "thrown" "I", .fieldLink RX2 30 "LanternPrimesModel" "lamps" "I"] ++ wsX20)
def wsX2_now : List Cond := .code yX2_now cX2_now 1 (some .int) :: ([.fieldLink RX2 26 "LanternPrimesModel" "thrown" "I", .fieldLink RX2 59 "LanternPrimesModel" "now" "I"] ++ wsX20)
def wsX2_changesSeen : List Cond := .code yX2_changesSeen cX2_changesSeen 1 (some .int) :: ([.fieldLink RX2 26 "LanternPrimesModel" "thrown" "I", .fieldLink RX2 74 "LanternPrimesModel" "seen" "I"] ++ wsX20)
def wsX2_beatsOf : List Cond := .code yX2_beatsOf cX2_beatsOf 2 (some .int) :: ([.fieldLink RX2 26 "LanternPrimesModel" "thrown" "I", .fieldLink RX2 16 "LanternPrimesModel" "beats" "[I", .methodLink RX2 37 yX2_isLamp, .instanceMethod yX2_isLamp, .selects RX2 yX2_isLamp yX2_isLamp, .initialized RX2, .code yX2_isLamp cX2_isLamp 2 (some .boolean), .fieldLink RX2 30 "LanternPrimesModel" "lamps" "I", .methodLink RX2 33 yX2_isIn, .static yX2_isIn, .code yX2_isIn cX2_isIn 3 (some .boolean), .methodLink RX2 62 yX2_no, .instanceMethod yX2_no, .selects RX2 yX2_no yX2_no, .code yX2_no cX2_no 2 (some .int)] ++ wsX20)
def wsX2_numberOf : List Cond := .code yX2_numberOf cX2_numberOf 3 (some .int) :: ([.fieldLink RX2 26 "LanternPrimesModel" "thrown" "I", .fieldLink RX2 20 "LanternPrimesModel" "number" "[I", .methodLink RX2 68 yX2_isBeat, .instanceMethod yX2_isBeat, .selects RX2 yX2_isBeat yX2_isBeat, .initialized RX2, .code yX2_isBeat cX2_isBeat 3 (some .boolean), .fieldLink RX2 16 "LanternPrimesModel" "beats" "[I", .methodLink RX2 37 yX2_isLamp, .instanceMethod yX2_isLamp, .selects RX2 yX2_isLamp yX2_isLamp, .code yX2_isLamp cX2_isLamp 2 (some .boolean), .fieldLink RX2 30 "LanternPrimesModel" "lamps" "I", .methodLink RX2 33 yX2_isIn, .static yX2_isIn, .code yX2_isIn cX2_isIn 3 (some .boolean), .methodLink RX2 62 yX2_no, .instanceMethod yX2_no, .selects RX2 yX2_no yX2_no, .code yX2_no cX2_no 2 (some .int)] ++ wsX20)
def wsX2_offsetOf : List Cond := .code yX2_offsetOf cX2_offsetOf 3 (some .int) :: ([.fieldLink RX2 26 "LanternPrimesModel" "thrown" "I", .fieldLink RX2 23 "LanternPrimesModel" "offset" "[I", .methodLink RX2 68 yX2_isBeat, .instanceMethod yX2_isBeat, .selects RX2 yX2_isBeat yX2_isBeat, .initialized RX2, .code yX2_isBeat cX2_isBeat 3 (some .boolean), .fieldLink RX2 16 "LanternPrimesModel" "beats" "[I", .methodLink RX2 37 yX2_isLamp, .instanceMethod yX2_isLamp, .selects RX2 yX2_isLamp yX2_isLamp, .code yX2_isLamp cX2_isLamp 2 (some .boolean), .fieldLink RX2 30 "LanternPrimesModel" "lamps" "I", .methodLink RX2 33 yX2_isIn, .static yX2_isIn, .code yX2_isIn cX2_isIn 3 (some .boolean), .methodLink RX2 62 yX2_no, .instanceMethod yX2_no, .selects RX2 yX2_no yX2_no, .code yX2_no cX2_no 2 (some .int)] ++ wsX20)
def wsX2_isCovered : List Cond := .code yX2_isCovered cX2_isCovered 2 (some .boolean) :: ([.fieldLink RX2 26 "LanternPrimesModel" "thrown" "I", .fieldLink RX2 13 "LanternPrimesModel" "covered" "[Z", .methodLink RX2 37 yX2_isLamp, .instanceMethod yX2_isLamp, .selects RX2 yX2_isLamp yX2_isLamp, .initialized RX2, .code yX2_isLamp cX2_isLamp 2 (some .boolean), .fieldLink RX2 30 "LanternPrimesModel" "lamps" "I", .methodLink RX2 33 yX2_isIn, .static yX2_isIn, .code yX2_isIn cX2_isIn 3 (some .boolean), .methodLink RX2 71 yX2_isNot, .instanceMethod yX2_isNot, .selects RX2 yX2_isNot yX2_isNot, .code yX2_isNot cX2_isNot 2 (some .boolean)] ++ wsX20)
def wsX2_isOn : List Cond := .code yX2_isOn cX2_isOn 2 (some .boolean) :: ([.fieldLink RX2 26 "LanternPrimesModel" "thrown" "I", .fieldLink RX2 59 "LanternPrimesModel" "now" "I", .methodLink RX2 37 yX2_isLamp, .instanceMethod yX2_isLamp, .selects RX2 yX2_isLamp yX2_isLamp, .initialized RX2, .code yX2_isLamp cX2_isLamp 2 (some .boolean), .fieldLink RX2 30 "LanternPrimesModel" "lamps" "I", .methodLink RX2 33 yX2_isIn, .static yX2_isIn, .code yX2_isIn cX2_isIn 3 (some .boolean), .methodLink RX2 45 yX2_onAt, .instanceMethod yX2_onAt, .selects RX2 yX2_onAt yX2_onAt, .code yX2_onAt cX2_onAt 5 (some .boolean), .fieldLink RX2 9 "LanternPrimesModel" "begins" "[Z", .fieldLink RX2 16 "LanternPrimesModel" "beats" "[I", .fieldLink RX2 20 "LanternPrimesModel" "number" "[I", .fieldLink RX2 23 "LanternPrimesModel" "offset" "[I", .methodLink RX2 71 yX2_isNot, .instanceMethod yX2_isNot, .selects RX2 yX2_isNot yX2_isNot, .code yX2_isNot cX2_isNot 2 (some .boolean)] ++ wsX20)
def wsX2_isLit : List Cond := .code yX2_isLit cX2_isLit 2 (some .boolean) :: ([.fieldLink RX2 26 "LanternPrimesModel" "thrown" "I", .fieldLink RX2 13 "LanternPrimesModel" "covered" "[Z", .fieldLink RX2 59 "LanternPrimesModel" "now" "I", .methodLink RX2 37 yX2_isLamp, .instanceMethod yX2_isLamp, .selects RX2 yX2_isLamp yX2_isLamp, .initialized RX2, .code yX2_isLamp cX2_isLamp 2 (some .boolean), .fieldLink RX2 30 "LanternPrimesModel" "lamps" "I", .methodLink RX2 33 yX2_isIn, .static yX2_isIn, .code yX2_isIn cX2_isIn 3 (some .boolean), .methodLink RX2 45 yX2_onAt, .instanceMethod yX2_onAt, .selects RX2 yX2_onAt yX2_onAt, .code yX2_onAt cX2_onAt 5 (some .boolean), .fieldLink RX2 9 "LanternPrimesModel" "begins" "[Z", .fieldLink RX2 16 "LanternPrimesModel" "beats" "[I", .fieldLink RX2 20 "LanternPrimesModel" "number" "[I", .fieldLink RX2 23 "LanternPrimesModel" "offset" "[I", .methodLink RX2 71 yX2_isNot, .instanceMethod yX2_isNot, .selects RX2 yX2_isNot yX2_isNot, .code yX2_isNot cX2_isNot 2 (some .boolean)] ++ wsX20)
def wsX2_litLamps : List Cond := .code yX2_litLamps cX2_litLamps 1 (some .int) :: ([.fieldLink RX2 26 "LanternPrimesModel" "thrown" "I", .fieldLink RX2 59 "LanternPrimesModel" "now" "I", .methodLink RX2 77 yX2_litAt, .instanceMethod yX2_litAt, .selects RX2 yX2_litAt yX2_litAt, .initialized RX2, .code yX2_litAt cX2_litAt 5 (some .int), .fieldLink RX2 30 "LanternPrimesModel" "lamps" "I", .fieldLink RX2 13 "LanternPrimesModel" "covered" "[Z", .methodLink RX2 45 yX2_onAt, .instanceMethod yX2_onAt, .selects RX2 yX2_onAt yX2_onAt, .code yX2_onAt cX2_onAt 5 (some .boolean), .fieldLink RX2 9 "LanternPrimesModel" "begins" "[Z", .fieldLink RX2 16 "LanternPrimesModel" "beats" "[I", .fieldLink RX2 20 "LanternPrimesModel" "number" "[I", .fieldLink RX2 23 "LanternPrimesModel" "offset" "[I"] ++ wsX20)
def wsX2_isDark : List Cond := .code yX2_isDark cX2_isDark 1 (some .boolean) :: ([.fieldLink RX2 26 "LanternPrimesModel" "thrown" "I", .fieldLink RX2 59 "LanternPrimesModel" "now" "I", .methodLink RX2 77 yX2_litAt, .instanceMethod yX2_litAt, .selects RX2 yX2_litAt yX2_litAt, .initialized RX2, .code yX2_litAt cX2_litAt 5 (some .int), .fieldLink RX2 30 "LanternPrimesModel" "lamps" "I", .fieldLink RX2 13 "LanternPrimesModel" "covered" "[Z", .methodLink RX2 45 yX2_onAt, .instanceMethod yX2_onAt, .selects RX2 yX2_onAt yX2_onAt, .code yX2_onAt cX2_onAt 5 (some .boolean), .fieldLink RX2 9 "LanternPrimesModel" "begins" "[Z", .fieldLink RX2 16 "LanternPrimesModel" "beats" "[I", .fieldLink RX2 20 "LanternPrimesModel" "number" "[I", .fieldLink RX2 23 "LanternPrimesModel" "offset" "[I"] ++ wsX20)
def wsX2_isOnAt : List Cond := .code yX2_isOnAt cX2_isOnAt 3 (some .boolean) :: ([.fieldLink RX2 26 "LanternPrimesModel" "thrown" "I", .constant RX2 80 (60000), .methodLink RX2 37 yX2_isLamp, .instanceMethod yX2_isLamp, .selects RX2 yX2_isLamp yX2_isLamp, .initialized RX2, .code yX2_isLamp cX2_isLamp 2 (some .boolean), .fieldLink RX2 30 "LanternPrimesModel" "lamps" "I", .methodLink RX2 33 yX2_isIn, .static yX2_isIn, .code yX2_isIn cX2_isIn 3 (some .boolean), .methodLink RX2 71 yX2_isNot, .instanceMethod yX2_isNot, .selects RX2 yX2_isNot yX2_isNot, .code yX2_isNot cX2_isNot 2 (some .boolean), .methodLink RX2 45 yX2_onAt, .instanceMethod yX2_onAt, .selects RX2 yX2_onAt yX2_onAt, .code yX2_onAt cX2_onAt 5 (some .boolean), .fieldLink RX2 9 "LanternPrimesModel" "begins" "[Z", .fieldLink RX2 16 "LanternPrimesModel" "beats" "[I", .fieldLink RX2 20 "LanternPrimesModel" "number" "[I", .fieldLink RX2 23 "LanternPrimesModel" "offset" "[I"] ++ wsX20)
def wsX2_strikesAt : List Cond := .code yX2_strikesAt cX2_strikesAt 3 (some .int) :: ([.fieldLink RX2 26 "LanternPrimesModel" "thrown" "I", .constant RX2 80 (60000), .methodLink RX2 37 yX2_isLamp, .instanceMethod yX2_isLamp, .selects RX2 yX2_isLamp yX2_isLamp, .initialized RX2, .code yX2_isLamp cX2_isLamp 2 (some .boolean), .fieldLink RX2 30 "LanternPrimesModel" "lamps" "I", .methodLink RX2 33 yX2_isIn, .static yX2_isIn, .code yX2_isIn cX2_isIn 3 (some .boolean), .methodLink RX2 62 yX2_no, .instanceMethod yX2_no, .selects RX2 yX2_no yX2_no, .code yX2_no cX2_no 2 (some .int), .methodLink RX2 41 yX2_strikes, .instanceMethod yX2_strikes, .selects RX2 yX2_strikes yX2_strikes, .code yX2_strikes cX2_strikes 5 (some .int), .fieldLink RX2 16 "LanternPrimesModel" "beats" "[I", .fieldLink RX2 20 "LanternPrimesModel" "number" "[I", .fieldLink RX2 23 "LanternPrimesModel" "offset" "[I"] ++ wsX20)
def wsX2_isSteady_r1 : List Cond := [Cond.fieldLink RX2 26 "LanternPrimesModel" "thrown" "I", Cond.methodLink RX2 37 yX2_isLamp, Cond.instanceMethod yX2_isLamp, Cond.selects RX2 yX2_isLamp yX2_isLamp, Cond.initialized RX2, Cond.code yX2_isLamp cX2_isLamp 2 (some .boolean), Cond.fieldLink RX2 30 "LanternPrimesModel" "lamps" "I", Cond.methodLink RX2 33 yX2_isIn, Cond.static yX2_isIn, Cond.code yX2_isIn cX2_isIn 3 (some .boolean), Cond.methodLink RX2 81 yX2_steady, Cond.instanceMethod yX2_steady, Cond.selects RX2 yX2_steady yX2_steady, Cond.code yX2_steady cX2_steady 3 (some .boolean), Cond.methodLink RX2 49 yX2_product, Cond.instanceMethod yX2_product, Cond.selects RX2 yX2_product yX2_product, Cond.code yX2_product cX2_product 4 (some .int), Cond.fieldLink RX2 16 "LanternPrimesModel" "beats" "[I", Cond.fieldLink RX2 20 "LanternPrimesModel" "number" "[I", Cond.methodLink RX2 53 yX2_changes, Cond.instanceMethod yX2_changes, Cond.selects RX2 yX2_changes yX2_changes, Cond.code yX2_changes cX2_changes 3 (some .boolean)]
def wsX2_isSteady_r2 : List Cond := [Cond.methodLink RX2 41 yX2_strikes, Cond.instanceMethod yX2_strikes, Cond.selects RX2 yX2_strikes yX2_strikes, Cond.code yX2_strikes cX2_strikes 5 (some .int), Cond.fieldLink RX2 23 "LanternPrimesModel" "offset" "[I", Cond.methodLink RX2 71 yX2_isNot, Cond.instanceMethod yX2_isNot, Cond.selects RX2 yX2_isNot yX2_isNot, Cond.code yX2_isNot cX2_isNot 2 (some .boolean)]
def wsX2_isSteady : List Cond := .code yX2_isSteady cX2_isSteady 2 (some .boolean) :: ((wsX2_isSteady_r1 ++ wsX2_isSteady_r2) ++ wsX20)
def wsX2_cycleOf_r1 : List Cond := [Cond.fieldLink RX2 26 "LanternPrimesModel" "thrown" "I", Cond.methodLink RX2 37 yX2_isLamp, Cond.instanceMethod yX2_isLamp, Cond.selects RX2 yX2_isLamp yX2_isLamp, Cond.initialized RX2, Cond.code yX2_isLamp cX2_isLamp 2 (some .boolean), Cond.fieldLink RX2 30 "LanternPrimesModel" "lamps" "I", Cond.methodLink RX2 33 yX2_isIn, Cond.static yX2_isIn, Cond.code yX2_isIn cX2_isIn 3 (some .boolean), Cond.methodLink RX2 84 yX2_cycle, Cond.instanceMethod yX2_cycle, Cond.selects RX2 yX2_cycle yX2_cycle, Cond.code yX2_cycle cX2_cycle 4 (some .int), Cond.methodLink RX2 49 yX2_product, Cond.instanceMethod yX2_product, Cond.selects RX2 yX2_product yX2_product, Cond.code yX2_product cX2_product 4 (some .int), Cond.fieldLink RX2 16 "LanternPrimesModel" "beats" "[I", Cond.fieldLink RX2 20 "LanternPrimesModel" "number" "[I", Cond.methodLink RX2 56 yX2_isCycle, Cond.instanceMethod yX2_isCycle, Cond.selects RX2 yX2_isCycle yX2_isCycle, Cond.code yX2_isCycle cX2_isCycle 5 (some .boolean)]
def wsX2_cycleOf_r2 : List Cond := [Cond.methodLink RX2 45 yX2_onAt, Cond.instanceMethod yX2_onAt, Cond.selects RX2 yX2_onAt yX2_onAt, Cond.code yX2_onAt cX2_onAt 5 (some .boolean), Cond.fieldLink RX2 9 "LanternPrimesModel" "begins" "[Z", Cond.fieldLink RX2 23 "LanternPrimesModel" "offset" "[I", Cond.methodLink RX2 53 yX2_changes, Cond.instanceMethod yX2_changes, Cond.selects RX2 yX2_changes yX2_changes, Cond.code yX2_changes cX2_changes 3 (some .boolean), Cond.methodLink RX2 41 yX2_strikes, Cond.instanceMethod yX2_strikes, Cond.selects RX2 yX2_strikes yX2_strikes, Cond.code yX2_strikes cX2_strikes 5 (some .int), Cond.methodLink RX2 62 yX2_no, Cond.instanceMethod yX2_no, Cond.selects RX2 yX2_no yX2_no, Cond.code yX2_no cX2_no 2 (some .int)]
def wsX2_cycleOf : List Cond := .code yX2_cycleOf cX2_cycleOf 2 (some .int) :: ((wsX2_cycleOf_r1 ++ wsX2_cycleOf_r2) ++ wsX20)
def wsX2_momentsUntilChange_r1 : List Cond := [Cond.fieldLink RX2 26 "LanternPrimesModel" "thrown" "I", Cond.methodLink RX2 37 yX2_isLamp, Cond.instanceMethod yX2_isLamp, Cond.selects RX2 yX2_isLamp yX2_isLamp, Cond.initialized RX2, Cond.code yX2_isLamp cX2_isLamp 2 (some .boolean), Cond.fieldLink RX2 30 "LanternPrimesModel" "lamps" "I", Cond.methodLink RX2 33 yX2_isIn, Cond.static yX2_isIn, Cond.code yX2_isIn cX2_isIn 3 (some .boolean), Cond.methodLink RX2 87 yX2_untilChange, Cond.instanceMethod yX2_untilChange, Cond.selects RX2 yX2_untilChange yX2_untilChange, Cond.code yX2_untilChange cX2_untilChange 4 (some .int), Cond.fieldLink RX2 59 "LanternPrimesModel" "now" "I", Cond.methodLink RX2 49 yX2_product, Cond.instanceMethod yX2_product, Cond.selects RX2 yX2_product yX2_product, Cond.code yX2_product cX2_product 4 (some .int), Cond.fieldLink RX2 16 "LanternPrimesModel" "beats" "[I", Cond.fieldLink RX2 20 "LanternPrimesModel" "number" "[I", Cond.methodLink RX2 53 yX2_changes, Cond.instanceMethod yX2_changes, Cond.selects RX2 yX2_changes yX2_changes]
def wsX2_momentsUntilChange_r2 : List Cond := [Cond.code yX2_changes cX2_changes 3 (some .boolean), Cond.methodLink RX2 41 yX2_strikes, Cond.instanceMethod yX2_strikes, Cond.selects RX2 yX2_strikes yX2_strikes, Cond.code yX2_strikes cX2_strikes 5 (some .int), Cond.fieldLink RX2 23 "LanternPrimesModel" "offset" "[I", Cond.methodLink RX2 62 yX2_no, Cond.instanceMethod yX2_no, Cond.selects RX2 yX2_no yX2_no, Cond.code yX2_no cX2_no 2 (some .int)]
def wsX2_momentsUntilChange : List Cond := .code yX2_momentsUntilChange cX2_momentsUntilChange 2 (some .int) :: ((wsX2_momentsUntilChange_r1 ++ wsX2_momentsUntilChange_r2) ++ wsX20)
def wsX2_shows : List Cond := .code yX2_shows cX2_shows 5 (some .int) :: ([.fieldLink RX2 26 "LanternPrimesModel" "thrown" "I", .fieldLink RX2 59 "LanternPrimesModel" "now" "I", .methodLink RX2 37 yX2_isLamp, .instanceMethod yX2_isLamp, .selects RX2 yX2_isLamp yX2_isLamp, .initialized RX2, .code yX2_isLamp cX2_isLamp 2 (some .boolean), .fieldLink RX2 30 "LanternPrimesModel" "lamps" "I", .methodLink RX2 33 yX2_isIn, .static yX2_isIn, .code yX2_isIn cX2_isIn 3 (some .boolean), .methodLink RX2 62 yX2_no, .instanceMethod yX2_no, .selects RX2 yX2_no yX2_no, .code yX2_no cX2_no 2 (some .int), .methodLink RX2 45 yX2_onAt, .instanceMethod yX2_onAt, .selects RX2 yX2_onAt yX2_onAt, .code yX2_onAt cX2_onAt 5 (some .boolean), .fieldLink RX2 9 "LanternPrimesModel" "begins" "[Z", .fieldLink RX2 16 "LanternPrimesModel" "beats" "[I", .fieldLink RX2 20 "LanternPrimesModel" "number" "[I", .fieldLink RX2 23 "LanternPrimesModel" "offset" "[I"] ++ wsX20)
def wsX2_wrongPair : List Cond := .code yX2_wrongPair cX2_wrongPair 3 (some .int) :: ([.methodLink RX2 37 yX2_isLamp, .instanceMethod yX2_isLamp, .selects RX2 yX2_isLamp yX2_isLamp, .initialized RX2, .code yX2_isLamp cX2_isLamp 2 (some .boolean), .fieldLink RX2 30 "LanternPrimesModel" "lamps" "I", .methodLink RX2 33 yX2_isIn, .static yX2_isIn, .code yX2_isIn cX2_isIn 3 (some .boolean)] ++ wsX20)
def wsX2_collide : List Cond := .code yX2_collide cX2_collide 4 (some .boolean) :: ([.methodLink RX2 53 yX2_changes, .instanceMethod yX2_changes, .selects RX2 yX2_changes yX2_changes, .initialized RX2, .code yX2_changes cX2_changes 3 (some .boolean), .methodLink RX2 41 yX2_strikes, .instanceMethod yX2_strikes, .selects RX2 yX2_strikes yX2_strikes, .code yX2_strikes cX2_strikes 5 (some .int), .fieldLink RX2 16 "LanternPrimesModel" "beats" "[I", .fieldLink RX2 20 "LanternPrimesModel" "number" "[I", .fieldLink RX2 23 "LanternPrimesModel" "offset" "[I"] ++ wsX20)
def wsX2_momentsUntilCollision_r1 : List Cond := [Cond.fieldLink RX2 26 "LanternPrimesModel" "thrown" "I", Cond.fieldLink RX2 59 "LanternPrimesModel" "now" "I", Cond.methodLink RX2 90 yX2_wrongPair, Cond.instanceMethod yX2_wrongPair, Cond.selects RX2 yX2_wrongPair yX2_wrongPair, Cond.initialized RX2, Cond.code yX2_wrongPair cX2_wrongPair 3 (some .int), Cond.methodLink RX2 37 yX2_isLamp, Cond.instanceMethod yX2_isLamp, Cond.selects RX2 yX2_isLamp yX2_isLamp, Cond.code yX2_isLamp cX2_isLamp 2 (some .boolean), Cond.fieldLink RX2 30 "LanternPrimesModel" "lamps" "I", Cond.methodLink RX2 33 yX2_isIn, Cond.static yX2_isIn, Cond.code yX2_isIn cX2_isIn 3 (some .boolean), Cond.methodLink RX2 93 yX2_collide, Cond.instanceMethod yX2_collide, Cond.selects RX2 yX2_collide yX2_collide, Cond.code yX2_collide cX2_collide 4 (some .boolean), Cond.methodLink RX2 53 yX2_changes, Cond.instanceMethod yX2_changes, Cond.selects RX2 yX2_changes yX2_changes, Cond.code yX2_changes cX2_changes 3 (some .boolean), Cond.methodLink RX2 41 yX2_strikes]
def wsX2_momentsUntilCollision_r2 : List Cond := [Cond.instanceMethod yX2_strikes, Cond.selects RX2 yX2_strikes yX2_strikes, Cond.code yX2_strikes cX2_strikes 5 (some .int), Cond.fieldLink RX2 16 "LanternPrimesModel" "beats" "[I", Cond.fieldLink RX2 20 "LanternPrimesModel" "number" "[I", Cond.fieldLink RX2 23 "LanternPrimesModel" "offset" "[I"]
def wsX2_momentsUntilCollision : List Cond := .code yX2_momentsUntilCollision cX2_momentsUntilCollision 4 (some .int) :: ((wsX2_momentsUntilCollision_r1 ++ wsX2_momentsUntilCollision_r2) ++ wsX20)
def wsX2_collisionsWithin_r1 : List Cond := [Cond.fieldLink RX2 26 "LanternPrimesModel" "thrown" "I", Cond.fieldLink RX2 59 "LanternPrimesModel" "now" "I", Cond.methodLink RX2 90 yX2_wrongPair, Cond.instanceMethod yX2_wrongPair, Cond.selects RX2 yX2_wrongPair yX2_wrongPair, Cond.initialized RX2, Cond.code yX2_wrongPair cX2_wrongPair 3 (some .int), Cond.methodLink RX2 37 yX2_isLamp, Cond.instanceMethod yX2_isLamp, Cond.selects RX2 yX2_isLamp yX2_isLamp, Cond.code yX2_isLamp cX2_isLamp 2 (some .boolean), Cond.fieldLink RX2 30 "LanternPrimesModel" "lamps" "I", Cond.methodLink RX2 33 yX2_isIn, Cond.static yX2_isIn, Cond.code yX2_isIn cX2_isIn 3 (some .boolean), Cond.methodLink RX2 62 yX2_no, Cond.instanceMethod yX2_no, Cond.selects RX2 yX2_no yX2_no, Cond.code yX2_no cX2_no 2 (some .int), Cond.methodLink RX2 93 yX2_collide, Cond.instanceMethod yX2_collide, Cond.selects RX2 yX2_collide yX2_collide, Cond.code yX2_collide cX2_collide 4 (some .boolean), Cond.methodLink RX2 53 yX2_changes]
def wsX2_collisionsWithin_r2 : List Cond := [Cond.instanceMethod yX2_changes, Cond.selects RX2 yX2_changes yX2_changes, Cond.code yX2_changes cX2_changes 3 (some .boolean), Cond.methodLink RX2 41 yX2_strikes, Cond.instanceMethod yX2_strikes, Cond.selects RX2 yX2_strikes yX2_strikes, Cond.code yX2_strikes cX2_strikes 5 (some .int), Cond.fieldLink RX2 16 "LanternPrimesModel" "beats" "[I", Cond.fieldLink RX2 20 "LanternPrimesModel" "number" "[I", Cond.fieldLink RX2 23 "LanternPrimesModel" "offset" "[I"]
def wsX2_collisionsWithin : List Cond := .code yX2_collisionsWithin cX2_collisionsWithin 6 (some .int) :: ((wsX2_collisionsWithin_r1 ++ wsX2_collisionsWithin_r2) ++ wsX20)
def wsX2_momentsUntilToldApart : List Cond := .code yX2_momentsUntilToldApart cX2_momentsUntilToldApart 4 (some .int) :: ([.fieldLink RX2 26 "LanternPrimesModel" "thrown" "I", .constant RX2 96 (60060), .fieldLink RX2 59 "LanternPrimesModel" "now" "I", .methodLink RX2 90 yX2_wrongPair, .instanceMethod yX2_wrongPair, .selects RX2 yX2_wrongPair yX2_wrongPair, .initialized RX2, .code yX2_wrongPair cX2_wrongPair 3 (some .int), .methodLink RX2 37 yX2_isLamp, .instanceMethod yX2_isLamp, .selects RX2 yX2_isLamp yX2_isLamp, .code yX2_isLamp cX2_isLamp 2 (some .boolean), .fieldLink RX2 30 "LanternPrimesModel" "lamps" "I", .methodLink RX2 33 yX2_isIn, .static yX2_isIn, .code yX2_isIn cX2_isIn 3 (some .boolean), .methodLink RX2 45 yX2_onAt, .instanceMethod yX2_onAt, .selects RX2 yX2_onAt yX2_onAt, .code yX2_onAt cX2_onAt 5 (some .boolean), .fieldLink RX2 9 "LanternPrimesModel" "begins" "[Z", .fieldLink RX2 16 "LanternPrimesModel" "beats" "[I", .fieldLink RX2 20 "LanternPrimesModel" "number" "[I", .fieldLink RX2 23 "LanternPrimesModel" "offset" "[I"] ++ wsX20)
def wsX2_momentsUntilDark : List Cond := .code yX2_momentsUntilDark cX2_momentsUntilDark 2 (some .int) :: ([.fieldLink RX2 26 "LanternPrimesModel" "thrown" "I", .fieldLink RX2 59 "LanternPrimesModel" "now" "I", .methodLink RX2 77 yX2_litAt, .instanceMethod yX2_litAt, .selects RX2 yX2_litAt yX2_litAt, .initialized RX2, .code yX2_litAt cX2_litAt 5 (some .int), .fieldLink RX2 30 "LanternPrimesModel" "lamps" "I", .fieldLink RX2 13 "LanternPrimesModel" "covered" "[Z", .methodLink RX2 45 yX2_onAt, .instanceMethod yX2_onAt, .selects RX2 yX2_onAt yX2_onAt, .code yX2_onAt cX2_onAt 5 (some .boolean), .fieldLink RX2 9 "LanternPrimesModel" "begins" "[Z", .fieldLink RX2 16 "LanternPrimesModel" "beats" "[I", .fieldLink RX2 20 "LanternPrimesModel" "number" "[I", .fieldLink RX2 23 "LanternPrimesModel" "offset" "[I"] ++ wsX20)
def wsX2_darkWith : List Cond := .code yX2_darkWith cX2_darkWith 5 (some .int) :: ([.fieldLink RX2 59 "LanternPrimesModel" "now" "I", .methodLink RX2 77 yX2_litAt, .instanceMethod yX2_litAt, .selects RX2 yX2_litAt yX2_litAt, .initialized RX2, .code yX2_litAt cX2_litAt 5 (some .int), .fieldLink RX2 30 "LanternPrimesModel" "lamps" "I", .fieldLink RX2 13 "LanternPrimesModel" "covered" "[Z", .methodLink RX2 45 yX2_onAt, .instanceMethod yX2_onAt, .selects RX2 yX2_onAt yX2_onAt, .code yX2_onAt cX2_onAt 5 (some .boolean), .fieldLink RX2 9 "LanternPrimesModel" "begins" "[Z", .fieldLink RX2 16 "LanternPrimesModel" "beats" "[I", .fieldLink RX2 20 "LanternPrimesModel" "number" "[I", .fieldLink RX2 23 "LanternPrimesModel" "offset" "[I"] ++ wsX20)
def wsX2_darkWithin_r1 : List Cond := [Cond.fieldLink RX2 26 "LanternPrimesModel" "thrown" "I", Cond.methodLink RX2 33 yX2_isIn, Cond.static yX2_isIn, Cond.initialized RX2, Cond.code yX2_isIn cX2_isIn 3 (some .boolean), Cond.methodLink RX2 97 yX2_darkWith, Cond.instanceMethod yX2_darkWith, Cond.selects RX2 yX2_darkWith yX2_darkWith, Cond.code yX2_darkWith cX2_darkWith 5 (some .int), Cond.fieldLink RX2 59 "LanternPrimesModel" "now" "I", Cond.methodLink RX2 77 yX2_litAt, Cond.instanceMethod yX2_litAt, Cond.selects RX2 yX2_litAt yX2_litAt, Cond.code yX2_litAt cX2_litAt 5 (some .int), Cond.fieldLink RX2 30 "LanternPrimesModel" "lamps" "I", Cond.fieldLink RX2 13 "LanternPrimesModel" "covered" "[Z", Cond.methodLink RX2 45 yX2_onAt, Cond.instanceMethod yX2_onAt, Cond.selects RX2 yX2_onAt yX2_onAt, Cond.code yX2_onAt cX2_onAt 5 (some .boolean), Cond.fieldLink RX2 9 "LanternPrimesModel" "begins" "[Z", Cond.fieldLink RX2 16 "LanternPrimesModel" "beats" "[I", Cond.fieldLink RX2 20 "LanternPrimesModel" "number" "[I", Cond.fieldLink RX2 23 "LanternPrimesModel" "offset" "[I"]
def wsX2_darkWithin_r2 : List Cond := [Cond.methodLink RX2 62 yX2_no, Cond.instanceMethod yX2_no, Cond.selects RX2 yX2_no yX2_no, Cond.code yX2_no cX2_no 2 (some .int)]
def wsX2_darkWithin : List Cond := .code yX2_darkWithin cX2_darkWithin 2 (some .int) :: ((wsX2_darkWithin_r1 ++ wsX2_darkWithin_r2) ++ wsX20)
def wsX2_brightestWithin : List Cond := .code yX2_brightestWithin cX2_brightestWithin 4 (some .int) :: ([.fieldLink RX2 26 "LanternPrimesModel" "thrown" "I", .fieldLink RX2 59 "LanternPrimesModel" "now" "I", .methodLink RX2 33 yX2_isIn, .static yX2_isIn, .initialized RX2, .code yX2_isIn cX2_isIn 3 (some .boolean), .methodLink RX2 62 yX2_no, .instanceMethod yX2_no, .selects RX2 yX2_no yX2_no, .code yX2_no cX2_no 2 (some .int), .methodLink RX2 77 yX2_litAt, .instanceMethod yX2_litAt, .selects RX2 yX2_litAt yX2_litAt, .code yX2_litAt cX2_litAt 5 (some .int), .fieldLink RX2 30 "LanternPrimesModel" "lamps" "I", .fieldLink RX2 13 "LanternPrimesModel" "covered" "[Z", .methodLink RX2 45 yX2_onAt, .instanceMethod yX2_onAt, .selects RX2 yX2_onAt yX2_onAt, .code yX2_onAt cX2_onAt 5 (some .boolean), .fieldLink RX2 9 "LanternPrimesModel" "begins" "[Z", .fieldLink RX2 16 "LanternPrimesModel" "beats" "[I", .fieldLink RX2 20 "LanternPrimesModel" "number" "[I", .fieldLink RX2 23 "LanternPrimesModel" "offset" "[I"] ++ wsX20)
def wsX2_bestCover_r1 : List Cond := [Cond.fieldLink RX2 26 "LanternPrimesModel" "thrown" "I", Cond.fieldLink RX2 30 "LanternPrimesModel" "lamps" "I", Cond.fieldLink RX2 13 "LanternPrimesModel" "covered" "[Z", Cond.methodLink RX2 33 yX2_isIn, Cond.static yX2_isIn, Cond.initialized RX2, Cond.code yX2_isIn cX2_isIn 3 (some .boolean), Cond.methodLink RX2 62 yX2_no, Cond.instanceMethod yX2_no, Cond.selects RX2 yX2_no yX2_no, Cond.code yX2_no cX2_no 2 (some .int), Cond.methodLink RX2 97 yX2_darkWith, Cond.instanceMethod yX2_darkWith, Cond.selects RX2 yX2_darkWith yX2_darkWith, Cond.code yX2_darkWith cX2_darkWith 5 (some .int), Cond.fieldLink RX2 59 "LanternPrimesModel" "now" "I", Cond.methodLink RX2 77 yX2_litAt, Cond.instanceMethod yX2_litAt, Cond.selects RX2 yX2_litAt yX2_litAt, Cond.code yX2_litAt cX2_litAt 5 (some .int), Cond.methodLink RX2 45 yX2_onAt, Cond.instanceMethod yX2_onAt, Cond.selects RX2 yX2_onAt yX2_onAt, Cond.code yX2_onAt cX2_onAt 5 (some .boolean)]
def wsX2_bestCover_r2 : List Cond := [Cond.fieldLink RX2 9 "LanternPrimesModel" "begins" "[Z", Cond.fieldLink RX2 16 "LanternPrimesModel" "beats" "[I", Cond.fieldLink RX2 20 "LanternPrimesModel" "number" "[I", Cond.fieldLink RX2 23 "LanternPrimesModel" "offset" "[I"]
def wsX2_bestCover : List Cond := .code yX2_bestCover cX2_bestCover 6 (some .int) :: ((wsX2_bestCover_r1 ++ wsX2_bestCover_r2) ++ wsX20)
def wsX2_meanBeats : List Cond := .code yX2_meanBeats cX2_meanBeats 3 (some .double) :: ([.fieldLink RX2 26 "LanternPrimesModel" "thrown" "I", .fieldLink RX2 30 "LanternPrimesModel" "lamps" "I", .fieldLink RX2 16 "LanternPrimesModel" "beats" "[I"] ++ wsX20)
def wsX2_digest_r1 : List Cond := [Cond.fieldLink RX2 26 "LanternPrimesModel" "thrown" "I", Cond.constantLong RX2 100 (58559), Cond.fieldLink RX2 30 "LanternPrimesModel" "lamps" "I", Cond.constantLong RX2 102 (31), Cond.fieldLink RX2 59 "LanternPrimesModel" "now" "I", Cond.fieldLink RX2 74 "LanternPrimesModel" "seen" "I", Cond.fieldLink RX2 16 "LanternPrimesModel" "beats" "[I", Cond.fieldLink RX2 13 "LanternPrimesModel" "covered" "[Z", Cond.fieldLink RX2 20 "LanternPrimesModel" "number" "[I", Cond.fieldLink RX2 23 "LanternPrimesModel" "offset" "[I", Cond.methodLink RX2 77 yX2_litAt, Cond.instanceMethod yX2_litAt, Cond.selects RX2 yX2_litAt yX2_litAt, Cond.initialized RX2, Cond.code yX2_litAt cX2_litAt 5 (some .int), Cond.methodLink RX2 45 yX2_onAt, Cond.instanceMethod yX2_onAt, Cond.selects RX2 yX2_onAt yX2_onAt, Cond.code yX2_onAt cX2_onAt 5 (some .boolean), Cond.fieldLink RX2 9 "LanternPrimesModel" "begins" "[Z", Cond.methodLink RX2 81 yX2_steady, Cond.instanceMethod yX2_steady, Cond.selects RX2 yX2_steady yX2_steady, Cond.code yX2_steady cX2_steady 3 (some .boolean)]
def wsX2_digest_r2 : List Cond := [Cond.methodLink RX2 49 yX2_product, Cond.instanceMethod yX2_product, Cond.selects RX2 yX2_product yX2_product, Cond.code yX2_product cX2_product 4 (some .int), Cond.methodLink RX2 53 yX2_changes, Cond.instanceMethod yX2_changes, Cond.selects RX2 yX2_changes yX2_changes, Cond.code yX2_changes cX2_changes 3 (some .boolean), Cond.methodLink RX2 41 yX2_strikes, Cond.instanceMethod yX2_strikes, Cond.selects RX2 yX2_strikes yX2_strikes, Cond.code yX2_strikes cX2_strikes 5 (some .int), Cond.methodLink RX2 84 yX2_cycle, Cond.instanceMethod yX2_cycle, Cond.selects RX2 yX2_cycle yX2_cycle, Cond.code yX2_cycle cX2_cycle 4 (some .int), Cond.methodLink RX2 56 yX2_isCycle, Cond.instanceMethod yX2_isCycle, Cond.selects RX2 yX2_isCycle yX2_isCycle, Cond.code yX2_isCycle cX2_isCycle 5 (some .boolean), Cond.methodLink RX2 87 yX2_untilChange, Cond.instanceMethod yX2_untilChange, Cond.selects RX2 yX2_untilChange yX2_untilChange, Cond.code yX2_untilChange cX2_untilChange 4 (some .int)]
def wsX2_digest : List Cond := .code yX2_digest cX2_digest 5 (some .long) :: ((wsX2_digest_r1 ++ wsX2_digest_r2) ++ wsX20)
def wsL_addLamp : List Cond := .codeWith yL_addLamp cL_addLamp 4 (some .int) [(0, 9, 12, 13)] :: ([.classLink RL 13 "java/lang/IllegalStateException", .methodLink RL 7 yX1_addLamp, .instanceMethod yX1_addLamp, .selects RX1 yX1_addLamp yX1_addLamp, .initialized RX1, .code yX1_addLamp cX1_addLamp 2 (some .int), .classLink RX1 24 "java/lang/IllegalStateException", .initialized "java/lang/IllegalStateException", .fieldLink RX1 20 "LanternPrimes" "lampCount" "I", .fieldLink RX1 11 "LanternPrimes" "row" "[LLanternPrimes$Lamp;"] ++ wsX10 ++ wsX00 ++ (vx_atS RX1 28 "java/lang/IllegalStateException" ["java/lang/RuntimeException", "java/lang/Exception"]).filter goodWord)
def wsL_addBeat_r1 : List Cond := [Cond.classLink RL 19 "java/lang/IndexOutOfBoundsException", Cond.classLink RL 21 "java/lang/IllegalArgumentException", Cond.classLink RL 13 "java/lang/IllegalStateException", Cond.methodLink RL 15 yX1_addBeat, Cond.instanceMethod yX1_addBeat, Cond.selects RX1 yX1_addBeat yX1_addBeat, Cond.initialized RX1, Cond.code yX1_addBeat cX1_addBeat 5 (some .int), Cond.classLink RX1 24 "java/lang/IllegalStateException", Cond.initialized "java/lang/IllegalStateException", Cond.fieldLink RX1 11 "LanternPrimes" "row" "[LLanternPrimes$Lamp;", Cond.methodLink RX1 35 yX1_needLamp, Cond.instanceMethod yX1_needLamp, Cond.selects RX1 yX1_needLamp yX1_needLamp, Cond.code yX1_needLamp cX1_needLamp 2 none, Cond.classLink RX1 141 "java/lang/IndexOutOfBoundsException", Cond.initialized "java/lang/IndexOutOfBoundsException", Cond.fieldLink RX1 20 "LanternPrimes" "lampCount" "I", Cond.methodLink RX1 39 yX1_needNumber, Cond.static yX1_needNumber, Cond.code yX1_needNumber cX1_needNumber 5 none, Cond.classLink RX1 148 "java/lang/IllegalArgumentException", Cond.initialized "java/lang/IllegalArgumentException", Cond.fieldLink RX1 153 "LanternPrimes" "NUMBERS" "[I"]
def wsL_addBeat_r2 : List Cond := [Cond.methodLink RX1 42 yX1_needOffset, Cond.static yX1_needOffset, Cond.code yX1_needOffset cX1_needOffset 2 none, Cond.methodLink RX1 51 yX0_append, Cond.instanceMethod yX0_append, Cond.selects RX0 yX0_append yX0_append, Cond.initialized RX0, Cond.code yX0_append cX0_append 3 none, Cond.fieldLink RX0 18 "LanternPrimes$Lamp" "beatCount" "I", Cond.fieldLink RX0 9 "LanternPrimes$Lamp" "numbers" "[I", Cond.fieldLink RX0 15 "LanternPrimes$Lamp" "offsets" "[I"]
def wsL_addBeat : List Cond := .codeWith yL_addBeat cL_addBeat 6 (some .int) [(0, 12, 15, 19), (0, 12, 19, 21), (0, 12, 23, 13)] :: ((wsL_addBeat_r1 ++ wsL_addBeat_r2) ++ wsX10 ++ wsX00 ++ (vx_atS RX1 28 "java/lang/IllegalStateException" ["java/lang/RuntimeException", "java/lang/Exception"]).filter goodWord ++ (vx_atS RX1 145 "java/lang/IndexOutOfBoundsException" ["java/lang/RuntimeException", "java/lang/Exception"]).filter goodWord ++ (vx_atS RX1 152 "java/lang/IllegalArgumentException" ["java/lang/RuntimeException", "java/lang/Exception"]).filter goodWord)
def wsL_moveBeat : List Cond := .codeWith yL_moveBeat cL_moveBeat 6 (some .int) [(0, 12, 15, 19), (0, 12, 19, 21)] :: ([.classLink RL 19 "java/lang/IndexOutOfBoundsException", .classLink RL 21 "java/lang/IllegalArgumentException", .methodLink RL 23 yX1_moveBeat, .instanceMethod yX1_moveBeat, .selects RX1 yX1_moveBeat yX1_moveBeat, .initialized RX1, .code yX1_moveBeat cX1_moveBeat 6 (some .int), .fieldLink RX1 11 "LanternPrimes" "row" "[LLanternPrimes$Lamp;", .methodLink RX1 54 yX1_needBeat, .instanceMethod yX1_needBeat, .selects RX1 yX1_needBeat yX1_needBeat, .code yX1_needBeat cX1_needBeat 3 none, .classLink RX1 141 "java/lang/IndexOutOfBoundsException", .initialized "java/lang/IndexOutOfBoundsException", .methodLink RX1 35 yX1_needLamp, .instanceMethod yX1_needLamp, .selects RX1 yX1_needLamp yX1_needLamp, .code yX1_needLamp cX1_needLamp 2 none, .fieldLink RX1 20 "LanternPrimes" "lampCount" "I", .methodLink RX1 42 yX1_needOffset, .static yX1_needOffset, .code yX1_needOffset cX1_needOffset 2 none, .classLink RX1 148 "java/lang/IllegalArgumentException", .initialized "java/lang/IllegalArgumentException"] ++ wsX10 ++ wsX00 ++ (vx_atS RX1 145 "java/lang/IndexOutOfBoundsException" ["java/lang/RuntimeException", "java/lang/Exception"]).filter goodWord ++ (vx_atS RX1 152 "java/lang/IllegalArgumentException" ["java/lang/RuntimeException", "java/lang/Exception"]).filter goodWord)
def wsL_takeBeat_r1 : List Cond := [Cond.classLink RL 19 "java/lang/IndexOutOfBoundsException", Cond.methodLink RL 26 yX1_takeBeat, Cond.instanceMethod yX1_takeBeat, Cond.selects RX1 yX1_takeBeat yX1_takeBeat, Cond.initialized RX1, Cond.code yX1_takeBeat cX1_takeBeat 4 (some .int), Cond.fieldLink RX1 11 "LanternPrimes" "row" "[LLanternPrimes$Lamp;", Cond.methodLink RX1 54 yX1_needBeat, Cond.instanceMethod yX1_needBeat, Cond.selects RX1 yX1_needBeat yX1_needBeat, Cond.code yX1_needBeat cX1_needBeat 3 none, Cond.classLink RX1 141 "java/lang/IndexOutOfBoundsException", Cond.initialized "java/lang/IndexOutOfBoundsException", Cond.methodLink RX1 35 yX1_needLamp, Cond.instanceMethod yX1_needLamp, Cond.selects RX1 yX1_needLamp yX1_needLamp, Cond.code yX1_needLamp cX1_needLamp 2 none, Cond.fieldLink RX1 20 "LanternPrimes" "lampCount" "I", Cond.methodLink RX1 64 yX0_remove, Cond.instanceMethod yX0_remove, Cond.selects RX0 yX0_remove yX0_remove, Cond.initialized RX0, Cond.code yX0_remove cX0_remove 3 none, Cond.fieldLink RX0 18 "LanternPrimes$Lamp" "beatCount" "I"]
def wsL_takeBeat_r2 : List Cond := [Cond.fieldLink RX0 9 "LanternPrimes$Lamp" "numbers" "[I", Cond.fieldLink RX0 15 "LanternPrimes$Lamp" "offsets" "[I"]
def wsL_takeBeat : List Cond := .codeWith yL_takeBeat cL_takeBeat 5 (some .int) [(0, 10, 13, 19)] :: ((wsL_takeBeat_r1 ++ wsL_takeBeat_r2) ++ wsX10 ++ wsX00 ++ (vx_atS RX1 145 "java/lang/IndexOutOfBoundsException" ["java/lang/RuntimeException", "java/lang/Exception"]).filter goodWord)
def wsL_turnShutter : List Cond := .codeWith yL_turnShutter cL_turnShutter 4 (some .int) [(0, 16, 19, 19)] :: ([.classLink RL 19 "java/lang/IndexOutOfBoundsException", .methodLink RL 30 yX1_turnShutter, .instanceMethod yX1_turnShutter, .selects RX1 yX1_turnShutter yX1_turnShutter, .initialized RX1, .code yX1_turnShutter cX1_turnShutter 3 (some .boolean), .fieldLink RX1 11 "LanternPrimes" "row" "[LLanternPrimes$Lamp;", .methodLink RX1 35 yX1_needLamp, .instanceMethod yX1_needLamp, .selects RX1 yX1_needLamp yX1_needLamp, .code yX1_needLamp cX1_needLamp 2 none, .classLink RX1 141 "java/lang/IndexOutOfBoundsException", .initialized "java/lang/IndexOutOfBoundsException", .fieldLink RX1 20 "LanternPrimes" "lampCount" "I"] ++ wsX10 ++ wsX00 ++ (vx_atS RX1 145 "java/lang/IndexOutOfBoundsException" ["java/lang/RuntimeException", "java/lang/Exception"]).filter goodWord)
def wsL_pass_r1 : List Cond := [Cond.classLink RL 21 "java/lang/IllegalArgumentException", Cond.methodLink RL 34 yX1_pass, Cond.instanceMethod yX1_pass, Cond.selects RX1 yX1_pass yX1_pass, Cond.initialized RX1, Cond.code yX1_pass cX1_pass 4 (some .int), Cond.fieldLink RX1 73 "LanternPrimes" "present" "I", Cond.fieldLink RX1 80 "LanternPrimes" "changesTold" "I", Cond.methodLink RX1 70 yX1_needMoments, Cond.static yX1_needMoments, Cond.code yX1_needMoments cX1_needMoments 2 none, Cond.classLink RX1 148 "java/lang/IllegalArgumentException", Cond.initialized "java/lang/IllegalArgumentException", Cond.methodLink RX1 76 yX1_changesOfLamps, Cond.instanceMethod yX1_changesOfLamps, Cond.selects RX1 yX1_changesOfLamps yX1_changesOfLamps, Cond.code yX1_changesOfLamps cX1_changesOfLamps 4 (some .int), Cond.fieldLink RX1 20 "LanternPrimes" "lampCount" "I", Cond.fieldLink RX1 11 "LanternPrimes" "row" "[LLanternPrimes$Lamp;", Cond.methodLink RX1 165 yX0_changesAt, Cond.instanceMethod yX0_changesAt, Cond.selects RX0 yX0_changesAt yX0_changesAt, Cond.initialized RX0, Cond.code yX0_changesAt cX0_changesAt 2 (some .boolean)]
def wsL_pass_r2 : List Cond := [Cond.methodLink RX0 34 yX0_strikes, Cond.instanceMethod yX0_strikes, Cond.selects RX0 yX0_strikes yX0_strikes, Cond.code yX0_strikes cX0_strikes 4 (some .int), Cond.fieldLink RX0 18 "LanternPrimes$Lamp" "beatCount" "I", Cond.fieldLink RX0 9 "LanternPrimes$Lamp" "numbers" "[I", Cond.fieldLink RX0 15 "LanternPrimes$Lamp" "offsets" "[I", Cond.methodLink RX0 38 yX0_isOdd, Cond.static yX0_isOdd, Cond.code yX0_isOdd cX0_isOdd 1 (some .boolean)]
def wsL_pass : List Cond := .codeWith yL_pass cL_pass 4 (some .int) [(0, 9, 12, 21)] :: ((wsL_pass_r1 ++ wsL_pass_r2) ++ wsX10 ++ wsX00 ++ (vx_atS RX1 152 "java/lang/IllegalArgumentException" ["java/lang/RuntimeException", "java/lang/Exception"]).filter goodWord)
def wsL_beatsOf : List Cond := .codeWith yL_beatsOf cL_beatsOf 4 (some .int) [(0, 9, 12, 19)] :: ([.classLink RL 19 "java/lang/IndexOutOfBoundsException", .methodLink RL 38 yX1_beatsOf, .instanceMethod yX1_beatsOf, .selects RX1 yX1_beatsOf yX1_beatsOf, .initialized RX1, .code yX1_beatsOf cX1_beatsOf 2 (some .int), .fieldLink RX1 11 "LanternPrimes" "row" "[LLanternPrimes$Lamp;", .methodLink RX1 35 yX1_needLamp, .instanceMethod yX1_needLamp, .selects RX1 yX1_needLamp yX1_needLamp, .code yX1_needLamp cX1_needLamp 2 none, .classLink RX1 141 "java/lang/IndexOutOfBoundsException", .initialized "java/lang/IndexOutOfBoundsException", .fieldLink RX1 20 "LanternPrimes" "lampCount" "I"] ++ wsX10 ++ wsX00 ++ (vx_atS RX1 145 "java/lang/IndexOutOfBoundsException" ["java/lang/RuntimeException", "java/lang/Exception"]).filter goodWord)
def wsL_numberOf : List Cond := .codeWith yL_numberOf cL_numberOf 5 (some .int) [(0, 10, 13, 19)] :: ([.classLink RL 19 "java/lang/IndexOutOfBoundsException", .methodLink RL 41 yX1_numberOf, .instanceMethod yX1_numberOf, .selects RX1 yX1_numberOf yX1_numberOf, .initialized RX1, .code yX1_numberOf cX1_numberOf 3 (some .int), .fieldLink RX1 11 "LanternPrimes" "row" "[LLanternPrimes$Lamp;", .methodLink RX1 54 yX1_needBeat, .instanceMethod yX1_needBeat, .selects RX1 yX1_needBeat yX1_needBeat, .code yX1_needBeat cX1_needBeat 3 none, .classLink RX1 141 "java/lang/IndexOutOfBoundsException", .initialized "java/lang/IndexOutOfBoundsException", .methodLink RX1 35 yX1_needLamp, .instanceMethod yX1_needLamp, .selects RX1 yX1_needLamp yX1_needLamp, .code yX1_needLamp cX1_needLamp 2 none, .fieldLink RX1 20 "LanternPrimes" "lampCount" "I"] ++ wsX10 ++ wsX00 ++ (vx_atS RX1 145 "java/lang/IndexOutOfBoundsException" ["java/lang/RuntimeException", "java/lang/Exception"]).filter goodWord)
def wsL_offsetOf : List Cond := .codeWith yL_offsetOf cL_offsetOf 5 (some .int) [(0, 10, 13, 19)] :: ([.classLink RL 19 "java/lang/IndexOutOfBoundsException", .methodLink RL 44 yX1_offsetOf, .instanceMethod yX1_offsetOf, .selects RX1 yX1_offsetOf yX1_offsetOf, .initialized RX1, .code yX1_offsetOf cX1_offsetOf 3 (some .int), .fieldLink RX1 11 "LanternPrimes" "row" "[LLanternPrimes$Lamp;", .methodLink RX1 54 yX1_needBeat, .instanceMethod yX1_needBeat, .selects RX1 yX1_needBeat yX1_needBeat, .code yX1_needBeat cX1_needBeat 3 none, .classLink RX1 141 "java/lang/IndexOutOfBoundsException", .initialized "java/lang/IndexOutOfBoundsException", .methodLink RX1 35 yX1_needLamp, .instanceMethod yX1_needLamp, .selects RX1 yX1_needLamp yX1_needLamp, .code yX1_needLamp cX1_needLamp 2 none, .fieldLink RX1 20 "LanternPrimes" "lampCount" "I"] ++ wsX10 ++ wsX00 ++ (vx_atS RX1 145 "java/lang/IndexOutOfBoundsException" ["java/lang/RuntimeException", "java/lang/Exception"]).filter goodWord)
def wsL_isCovered : List Cond := .codeWith yL_isCovered cL_isCovered 4 (some .int) [(0, 16, 19, 19)] :: ([.classLink RL 19 "java/lang/IndexOutOfBoundsException", .methodLink RL 47 yX1_isCovered, .instanceMethod yX1_isCovered, .selects RX1 yX1_isCovered yX1_isCovered, .initialized RX1, .code yX1_isCovered cX1_isCovered 2 (some .boolean), .fieldLink RX1 11 "LanternPrimes" "row" "[LLanternPrimes$Lamp;", .methodLink RX1 35 yX1_needLamp, .instanceMethod yX1_needLamp, .selects RX1 yX1_needLamp yX1_needLamp, .code yX1_needLamp cX1_needLamp 2 none, .classLink RX1 141 "java/lang/IndexOutOfBoundsException", .initialized "java/lang/IndexOutOfBoundsException", .fieldLink RX1 20 "LanternPrimes" "lampCount" "I"] ++ wsX10 ++ wsX00 ++ (vx_atS RX1 145 "java/lang/IndexOutOfBoundsException" ["java/lang/RuntimeException", "java/lang/Exception"]).filter goodWord)
def wsL_isOn_r1 : List Cond := [Cond.classLink RL 19 "java/lang/IndexOutOfBoundsException", Cond.methodLink RL 50 yX1_isOn, Cond.instanceMethod yX1_isOn, Cond.selects RX1 yX1_isOn yX1_isOn, Cond.initialized RX1, Cond.code yX1_isOn cX1_isOn 2 (some .boolean), Cond.fieldLink RX1 11 "LanternPrimes" "row" "[LLanternPrimes$Lamp;", Cond.fieldLink RX1 73 "LanternPrimes" "present" "I", Cond.methodLink RX1 35 yX1_needLamp, Cond.instanceMethod yX1_needLamp, Cond.selects RX1 yX1_needLamp yX1_needLamp, Cond.code yX1_needLamp cX1_needLamp 2 none, Cond.classLink RX1 141 "java/lang/IndexOutOfBoundsException", Cond.initialized "java/lang/IndexOutOfBoundsException", Cond.fieldLink RX1 20 "LanternPrimes" "lampCount" "I", Cond.methodLink RX1 83 yX0_onAt, Cond.instanceMethod yX0_onAt, Cond.selects RX0 yX0_onAt yX0_onAt, Cond.initialized RX0, Cond.code yX0_onAt cX0_onAt 4 (some .boolean), Cond.fieldLink RX0 18 "LanternPrimes$Lamp" "beatCount" "I", Cond.fieldLink RX0 9 "LanternPrimes$Lamp" "numbers" "[I", Cond.fieldLink RX0 15 "LanternPrimes$Lamp" "offsets" "[I", Cond.fieldLink RX0 22 "LanternPrimes$Lamp" "onAtStart" "Z"]
def wsL_isOn_r2 : List Cond := [Cond.methodLink RX0 48 yX0_strikesUpTo, Cond.static yX0_strikesUpTo, Cond.code yX0_strikesUpTo cX0_strikesUpTo 3 (some .int), Cond.methodLink RX0 38 yX0_isOdd, Cond.static yX0_isOdd, Cond.code yX0_isOdd cX0_isOdd 1 (some .boolean)]
def wsL_isOn : List Cond := .codeWith yL_isOn cL_isOn 4 (some .int) [(0, 16, 19, 19)] :: ((wsL_isOn_r1 ++ wsL_isOn_r2) ++ wsX10 ++ wsX00 ++ (vx_atS RX1 145 "java/lang/IndexOutOfBoundsException" ["java/lang/RuntimeException", "java/lang/Exception"]).filter goodWord)
def wsL_isLit_r1 : List Cond := [Cond.classLink RL 19 "java/lang/IndexOutOfBoundsException", Cond.methodLink RL 53 yX1_isLit, Cond.instanceMethod yX1_isLit, Cond.selects RX1 yX1_isLit yX1_isLit, Cond.initialized RX1, Cond.code yX1_isLit cX1_isLit 2 (some .boolean), Cond.fieldLink RX1 11 "LanternPrimes" "row" "[LLanternPrimes$Lamp;", Cond.fieldLink RX1 73 "LanternPrimes" "present" "I", Cond.methodLink RX1 35 yX1_needLamp, Cond.instanceMethod yX1_needLamp, Cond.selects RX1 yX1_needLamp yX1_needLamp, Cond.code yX1_needLamp cX1_needLamp 2 none, Cond.classLink RX1 141 "java/lang/IndexOutOfBoundsException", Cond.initialized "java/lang/IndexOutOfBoundsException", Cond.fieldLink RX1 20 "LanternPrimes" "lampCount" "I", Cond.methodLink RX1 87 yX0_litAt, Cond.instanceMethod yX0_litAt, Cond.selects RX0 yX0_litAt yX0_litAt, Cond.initialized RX0, Cond.code yX0_litAt cX0_litAt 2 (some .boolean), Cond.fieldLink RX0 42 "LanternPrimes$Lamp" "covered" "Z", Cond.methodLink RX0 45 yX0_onAt, Cond.instanceMethod yX0_onAt, Cond.selects RX0 yX0_onAt yX0_onAt]
def wsL_isLit_r2 : List Cond := [Cond.code yX0_onAt cX0_onAt 4 (some .boolean), Cond.fieldLink RX0 18 "LanternPrimes$Lamp" "beatCount" "I", Cond.fieldLink RX0 9 "LanternPrimes$Lamp" "numbers" "[I", Cond.fieldLink RX0 15 "LanternPrimes$Lamp" "offsets" "[I", Cond.fieldLink RX0 22 "LanternPrimes$Lamp" "onAtStart" "Z", Cond.methodLink RX0 48 yX0_strikesUpTo, Cond.static yX0_strikesUpTo, Cond.code yX0_strikesUpTo cX0_strikesUpTo 3 (some .int), Cond.methodLink RX0 38 yX0_isOdd, Cond.static yX0_isOdd, Cond.code yX0_isOdd cX0_isOdd 1 (some .boolean)]
def wsL_isLit : List Cond := .codeWith yL_isLit cL_isLit 4 (some .int) [(0, 16, 19, 19)] :: ((wsL_isLit_r1 ++ wsL_isLit_r2) ++ wsX10 ++ wsX00 ++ (vx_atS RX1 145 "java/lang/IndexOutOfBoundsException" ["java/lang/RuntimeException", "java/lang/Exception"]).filter goodWord)
def wsL_isOnAt_r1 : List Cond := [Cond.classLink RL 19 "java/lang/IndexOutOfBoundsException", Cond.classLink RL 21 "java/lang/IllegalArgumentException", Cond.methodLink RL 56 yX1_isOnAt, Cond.instanceMethod yX1_isOnAt, Cond.selects RX1 yX1_isOnAt yX1_isOnAt, Cond.initialized RX1, Cond.code yX1_isOnAt cX1_isOnAt 3 (some .boolean), Cond.fieldLink RX1 11 "LanternPrimes" "row" "[LLanternPrimes$Lamp;", Cond.methodLink RX1 35 yX1_needLamp, Cond.instanceMethod yX1_needLamp, Cond.selects RX1 yX1_needLamp yX1_needLamp, Cond.code yX1_needLamp cX1_needLamp 2 none, Cond.classLink RX1 141 "java/lang/IndexOutOfBoundsException", Cond.initialized "java/lang/IndexOutOfBoundsException", Cond.fieldLink RX1 20 "LanternPrimes" "lampCount" "I", Cond.methodLink RX1 97 yX1_needMoment, Cond.static yX1_needMoment, Cond.code yX1_needMoment cX1_needMoment 1 none, Cond.classLink RX1 148 "java/lang/IllegalArgumentException", Cond.initialized "java/lang/IllegalArgumentException", Cond.constant RX1 160 (60000), Cond.methodLink RX1 83 yX0_onAt, Cond.instanceMethod yX0_onAt, Cond.selects RX0 yX0_onAt yX0_onAt]
def wsL_isOnAt_r2 : List Cond := [Cond.initialized RX0, Cond.code yX0_onAt cX0_onAt 4 (some .boolean), Cond.fieldLink RX0 18 "LanternPrimes$Lamp" "beatCount" "I", Cond.fieldLink RX0 9 "LanternPrimes$Lamp" "numbers" "[I", Cond.fieldLink RX0 15 "LanternPrimes$Lamp" "offsets" "[I", Cond.fieldLink RX0 22 "LanternPrimes$Lamp" "onAtStart" "Z", Cond.methodLink RX0 48 yX0_strikesUpTo, Cond.static yX0_strikesUpTo, Cond.code yX0_strikesUpTo cX0_strikesUpTo 3 (some .int), Cond.methodLink RX0 38 yX0_isOdd, Cond.static yX0_isOdd, Cond.code yX0_isOdd cX0_isOdd 1 (some .boolean)]
def wsL_isOnAt : List Cond := .codeWith yL_isOnAt cL_isOnAt 5 (some .int) [(0, 17, 20, 19), (0, 17, 24, 21)] :: ((wsL_isOnAt_r1 ++ wsL_isOnAt_r2) ++ wsX10 ++ wsX00 ++ (vx_atS RX1 145 "java/lang/IndexOutOfBoundsException" ["java/lang/RuntimeException", "java/lang/Exception"]).filter goodWord ++ (vx_atS RX1 152 "java/lang/IllegalArgumentException" ["java/lang/RuntimeException", "java/lang/Exception"]).filter goodWord)
def wsL_strikesAt_r1 : List Cond := [Cond.classLink RL 19 "java/lang/IndexOutOfBoundsException", Cond.classLink RL 21 "java/lang/IllegalArgumentException", Cond.methodLink RL 60 yX1_strikesAt, Cond.instanceMethod yX1_strikesAt, Cond.selects RX1 yX1_strikesAt yX1_strikesAt, Cond.initialized RX1, Cond.code yX1_strikesAt cX1_strikesAt 3 (some .int), Cond.fieldLink RX1 11 "LanternPrimes" "row" "[LLanternPrimes$Lamp;", Cond.methodLink RX1 35 yX1_needLamp, Cond.instanceMethod yX1_needLamp, Cond.selects RX1 yX1_needLamp yX1_needLamp, Cond.code yX1_needLamp cX1_needLamp 2 none, Cond.classLink RX1 141 "java/lang/IndexOutOfBoundsException", Cond.initialized "java/lang/IndexOutOfBoundsException", Cond.fieldLink RX1 20 "LanternPrimes" "lampCount" "I", Cond.methodLink RX1 97 yX1_needMoment, Cond.static yX1_needMoment, Cond.code yX1_needMoment cX1_needMoment 1 none, Cond.classLink RX1 148 "java/lang/IllegalArgumentException", Cond.initialized "java/lang/IllegalArgumentException", Cond.constant RX1 160 (60000), Cond.methodLink RX1 100 yX0_strikes, Cond.instanceMethod yX0_strikes, Cond.selects RX0 yX0_strikes yX0_strikes]
def wsL_strikesAt_r2 : List Cond := [Cond.initialized RX0, Cond.code yX0_strikes cX0_strikes 4 (some .int), Cond.fieldLink RX0 18 "LanternPrimes$Lamp" "beatCount" "I", Cond.fieldLink RX0 9 "LanternPrimes$Lamp" "numbers" "[I", Cond.fieldLink RX0 15 "LanternPrimes$Lamp" "offsets" "[I"]
def wsL_strikesAt : List Cond := .codeWith yL_strikesAt cL_strikesAt 5 (some .int) [(0, 10, 13, 19), (0, 10, 17, 21)] :: ((wsL_strikesAt_r1 ++ wsL_strikesAt_r2) ++ wsX10 ++ wsX00 ++ (vx_atS RX1 145 "java/lang/IndexOutOfBoundsException" ["java/lang/RuntimeException", "java/lang/Exception"]).filter goodWord ++ (vx_atS RX1 152 "java/lang/IllegalArgumentException" ["java/lang/RuntimeException", "java/lang/Exception"]).filter goodWord)
def wsL_isSteady_r1 : List Cond := [Cond.classLink RL 19 "java/lang/IndexOutOfBoundsException", Cond.methodLink RL 63 yX1_isSteady, Cond.instanceMethod yX1_isSteady, Cond.selects RX1 yX1_isSteady yX1_isSteady, Cond.initialized RX1, Cond.code yX1_isSteady cX1_isSteady 2 (some .boolean), Cond.fieldLink RX1 11 "LanternPrimes" "row" "[LLanternPrimes$Lamp;", Cond.methodLink RX1 35 yX1_needLamp, Cond.instanceMethod yX1_needLamp, Cond.selects RX1 yX1_needLamp yX1_needLamp, Cond.code yX1_needLamp cX1_needLamp 2 none, Cond.classLink RX1 141 "java/lang/IndexOutOfBoundsException", Cond.initialized "java/lang/IndexOutOfBoundsException", Cond.fieldLink RX1 20 "LanternPrimes" "lampCount" "I", Cond.methodLink RX1 103 yX0_neverChanges, Cond.instanceMethod yX0_neverChanges, Cond.selects RX0 yX0_neverChanges yX0_neverChanges, Cond.initialized RX0, Cond.code yX0_neverChanges cX0_neverChanges 1 (some .boolean), Cond.methodLink RX0 52 yX0_cycle, Cond.instanceMethod yX0_cycle, Cond.selects RX0 yX0_cycle yX0_cycle, Cond.code yX0_cycle cX0_cycle 3 (some .int), Cond.fieldLink RX0 22 "LanternPrimes$Lamp" "onAtStart" "Z"]
def wsL_isSteady_r2 : List Cond := [Cond.methodLink RX0 56 yX0_changeCycle, Cond.instanceMethod yX0_changeCycle, Cond.selects RX0 yX0_changeCycle yX0_changeCycle, Cond.code yX0_changeCycle cX0_changeCycle 8 (some .int), Cond.methodLink RX0 62 yX0_turningRemainders, Cond.instanceMethod yX0_turningRemainders, Cond.selects RX0 yX0_turningRemainders yX0_turningRemainders, Cond.code yX0_turningRemainders cX0_turningRemainders 4 (some .int), Cond.fieldLink RX0 18 "LanternPrimes$Lamp" "beatCount" "I", Cond.fieldLink RX0 9 "LanternPrimes$Lamp" "numbers" "[I", Cond.fieldLink RX0 15 "LanternPrimes$Lamp" "offsets" "[I", Cond.methodLink RX0 45 yX0_onAt, Cond.instanceMethod yX0_onAt, Cond.selects RX0 yX0_onAt yX0_onAt, Cond.code yX0_onAt cX0_onAt 4 (some .boolean), Cond.methodLink RX0 48 yX0_strikesUpTo, Cond.static yX0_strikesUpTo, Cond.code yX0_strikesUpTo cX0_strikesUpTo 3 (some .int), Cond.methodLink RX0 38 yX0_isOdd, Cond.static yX0_isOdd, Cond.code yX0_isOdd cX0_isOdd 1 (some .boolean)]
def wsL_isSteady : List Cond := .codeWith yL_isSteady cL_isSteady 4 (some .int) [(0, 16, 19, 19)] :: ((wsL_isSteady_r1 ++ wsL_isSteady_r2) ++ wsX10 ++ wsX00 ++ (vx_atS RX1 145 "java/lang/IndexOutOfBoundsException" ["java/lang/RuntimeException", "java/lang/Exception"]).filter goodWord)
def wsL_cycleOf_r1 : List Cond := [Cond.classLink RL 19 "java/lang/IndexOutOfBoundsException", Cond.methodLink RL 66 yX1_cycleOf, Cond.instanceMethod yX1_cycleOf, Cond.selects RX1 yX1_cycleOf yX1_cycleOf, Cond.initialized RX1, Cond.code yX1_cycleOf cX1_cycleOf 2 (some .int), Cond.fieldLink RX1 11 "LanternPrimes" "row" "[LLanternPrimes$Lamp;", Cond.methodLink RX1 35 yX1_needLamp, Cond.instanceMethod yX1_needLamp, Cond.selects RX1 yX1_needLamp yX1_needLamp, Cond.code yX1_needLamp cX1_needLamp 2 none, Cond.classLink RX1 141 "java/lang/IndexOutOfBoundsException", Cond.initialized "java/lang/IndexOutOfBoundsException", Cond.fieldLink RX1 20 "LanternPrimes" "lampCount" "I", Cond.methodLink RX1 107 yX0_cycle, Cond.instanceMethod yX0_cycle, Cond.selects RX0 yX0_cycle yX0_cycle, Cond.initialized RX0, Cond.code yX0_cycle cX0_cycle 3 (some .int), Cond.fieldLink RX0 22 "LanternPrimes$Lamp" "onAtStart" "Z", Cond.methodLink RX0 56 yX0_changeCycle, Cond.instanceMethod yX0_changeCycle, Cond.selects RX0 yX0_changeCycle yX0_changeCycle, Cond.code yX0_changeCycle cX0_changeCycle 8 (some .int)]
def wsL_cycleOf_r2 : List Cond := [Cond.methodLink RX0 62 yX0_turningRemainders, Cond.instanceMethod yX0_turningRemainders, Cond.selects RX0 yX0_turningRemainders yX0_turningRemainders, Cond.code yX0_turningRemainders cX0_turningRemainders 4 (some .int), Cond.fieldLink RX0 18 "LanternPrimes$Lamp" "beatCount" "I", Cond.fieldLink RX0 9 "LanternPrimes$Lamp" "numbers" "[I", Cond.fieldLink RX0 15 "LanternPrimes$Lamp" "offsets" "[I", Cond.methodLink RX0 45 yX0_onAt, Cond.instanceMethod yX0_onAt, Cond.selects RX0 yX0_onAt yX0_onAt, Cond.code yX0_onAt cX0_onAt 4 (some .boolean), Cond.methodLink RX0 48 yX0_strikesUpTo, Cond.static yX0_strikesUpTo, Cond.code yX0_strikesUpTo cX0_strikesUpTo 3 (some .int), Cond.methodLink RX0 38 yX0_isOdd, Cond.static yX0_isOdd, Cond.code yX0_isOdd cX0_isOdd 1 (some .boolean)]
def wsL_cycleOf : List Cond := .codeWith yL_cycleOf cL_cycleOf 4 (some .int) [(0, 9, 12, 19)] :: ((wsL_cycleOf_r1 ++ wsL_cycleOf_r2) ++ wsX10 ++ wsX00 ++ (vx_atS RX1 145 "java/lang/IndexOutOfBoundsException" ["java/lang/RuntimeException", "java/lang/Exception"]).filter goodWord)
def wsL_momentsUntilChange_r1 : List Cond := [Cond.classLink RL 19 "java/lang/IndexOutOfBoundsException", Cond.methodLink RL 69 yX1_momentsUntilChange, Cond.instanceMethod yX1_momentsUntilChange, Cond.selects RX1 yX1_momentsUntilChange yX1_momentsUntilChange, Cond.initialized RX1, Cond.code yX1_momentsUntilChange cX1_momentsUntilChange 2 (some .int), Cond.fieldLink RX1 11 "LanternPrimes" "row" "[LLanternPrimes$Lamp;", Cond.fieldLink RX1 73 "LanternPrimes" "present" "I", Cond.methodLink RX1 35 yX1_needLamp, Cond.instanceMethod yX1_needLamp, Cond.selects RX1 yX1_needLamp yX1_needLamp, Cond.code yX1_needLamp cX1_needLamp 2 none, Cond.classLink RX1 141 "java/lang/IndexOutOfBoundsException", Cond.initialized "java/lang/IndexOutOfBoundsException", Cond.fieldLink RX1 20 "LanternPrimes" "lampCount" "I", Cond.methodLink RX1 111 yX0_untilChange, Cond.instanceMethod yX0_untilChange, Cond.selects RX0 yX0_untilChange yX0_untilChange, Cond.initialized RX0, Cond.code yX0_untilChange cX0_untilChange 4 (some .int), Cond.methodLink RX0 56 yX0_changeCycle, Cond.instanceMethod yX0_changeCycle, Cond.selects RX0 yX0_changeCycle yX0_changeCycle, Cond.code yX0_changeCycle cX0_changeCycle 8 (some .int)]
def wsL_momentsUntilChange_r2 : List Cond := [Cond.methodLink RX0 62 yX0_turningRemainders, Cond.instanceMethod yX0_turningRemainders, Cond.selects RX0 yX0_turningRemainders yX0_turningRemainders, Cond.code yX0_turningRemainders cX0_turningRemainders 4 (some .int), Cond.fieldLink RX0 18 "LanternPrimes$Lamp" "beatCount" "I", Cond.fieldLink RX0 9 "LanternPrimes$Lamp" "numbers" "[I", Cond.fieldLink RX0 15 "LanternPrimes$Lamp" "offsets" "[I", Cond.methodLink RX0 65 yX0_changesAt, Cond.instanceMethod yX0_changesAt, Cond.selects RX0 yX0_changesAt yX0_changesAt, Cond.code yX0_changesAt cX0_changesAt 2 (some .boolean), Cond.methodLink RX0 34 yX0_strikes, Cond.instanceMethod yX0_strikes, Cond.selects RX0 yX0_strikes yX0_strikes, Cond.code yX0_strikes cX0_strikes 4 (some .int), Cond.methodLink RX0 38 yX0_isOdd, Cond.static yX0_isOdd, Cond.code yX0_isOdd cX0_isOdd 1 (some .boolean)]
def wsL_momentsUntilChange : List Cond := .codeWith yL_momentsUntilChange cL_momentsUntilChange 4 (some .int) [(0, 9, 12, 19)] :: ((wsL_momentsUntilChange_r1 ++ wsL_momentsUntilChange_r2) ++ wsX10 ++ wsX00 ++ (vx_atS RX1 145 "java/lang/IndexOutOfBoundsException" ["java/lang/RuntimeException", "java/lang/Exception"]).filter goodWord)
def wsL_shows_r1 : List Cond := [Cond.classLink RL 19 "java/lang/IndexOutOfBoundsException", Cond.classLink RL 21 "java/lang/IllegalArgumentException", Cond.methodLink RL 72 yX1_shows, Cond.instanceMethod yX1_shows, Cond.selects RX1 yX1_shows yX1_shows, Cond.initialized RX1, Cond.code yX1_shows cX1_shows 5 (some .int), Cond.fieldLink RX1 11 "LanternPrimes" "row" "[LLanternPrimes$Lamp;", Cond.fieldLink RX1 73 "LanternPrimes" "present" "I", Cond.methodLink RX1 35 yX1_needLamp, Cond.instanceMethod yX1_needLamp, Cond.selects RX1 yX1_needLamp yX1_needLamp, Cond.code yX1_needLamp cX1_needLamp 2 none, Cond.classLink RX1 141 "java/lang/IndexOutOfBoundsException", Cond.initialized "java/lang/IndexOutOfBoundsException", Cond.fieldLink RX1 20 "LanternPrimes" "lampCount" "I", Cond.methodLink RX1 70 yX1_needMoments, Cond.static yX1_needMoments, Cond.code yX1_needMoments cX1_needMoments 2 none, Cond.classLink RX1 148 "java/lang/IllegalArgumentException", Cond.initialized "java/lang/IllegalArgumentException", Cond.methodLink RX1 83 yX0_onAt, Cond.instanceMethod yX0_onAt, Cond.selects RX0 yX0_onAt yX0_onAt]
def wsL_shows_r2 : List Cond := [Cond.initialized RX0, Cond.code yX0_onAt cX0_onAt 4 (some .boolean), Cond.fieldLink RX0 18 "LanternPrimes$Lamp" "beatCount" "I", Cond.fieldLink RX0 9 "LanternPrimes$Lamp" "numbers" "[I", Cond.fieldLink RX0 15 "LanternPrimes$Lamp" "offsets" "[I", Cond.fieldLink RX0 22 "LanternPrimes$Lamp" "onAtStart" "Z", Cond.methodLink RX0 48 yX0_strikesUpTo, Cond.static yX0_strikesUpTo, Cond.code yX0_strikesUpTo cX0_strikesUpTo 3 (some .int), Cond.methodLink RX0 38 yX0_isOdd, Cond.static yX0_isOdd, Cond.code yX0_isOdd cX0_isOdd 1 (some .boolean)]
def wsL_shows : List Cond := .codeWith yL_shows cL_shows 5 (some .int) [(0, 10, 13, 19), (0, 10, 17, 21)] :: ((wsL_shows_r1 ++ wsL_shows_r2) ++ wsX10 ++ wsX00 ++ (vx_atS RX1 145 "java/lang/IndexOutOfBoundsException" ["java/lang/RuntimeException", "java/lang/Exception"]).filter goodWord ++ (vx_atS RX1 152 "java/lang/IllegalArgumentException" ["java/lang/RuntimeException", "java/lang/Exception"]).filter goodWord)
def wsL_momentsUntilCollision_r1 : List Cond := [Cond.classLink RL 19 "java/lang/IndexOutOfBoundsException", Cond.classLink RL 21 "java/lang/IllegalArgumentException", Cond.methodLink RL 75 yX1_momentsUntilCollision, Cond.instanceMethod yX1_momentsUntilCollision, Cond.selects RX1 yX1_momentsUntilCollision yX1_momentsUntilCollision, Cond.initialized RX1, Cond.code yX1_momentsUntilCollision cX1_momentsUntilCollision 4 (some .int), Cond.fieldLink RX1 73 "LanternPrimes" "present" "I", Cond.methodLink RX1 114 yX1_needPair, Cond.instanceMethod yX1_needPair, Cond.selects RX1 yX1_needPair yX1_needPair, Cond.code yX1_needPair cX1_needPair 3 none, Cond.classLink RX1 148 "java/lang/IllegalArgumentException", Cond.initialized "java/lang/IllegalArgumentException", Cond.methodLink RX1 35 yX1_needLamp, Cond.instanceMethod yX1_needLamp, Cond.selects RX1 yX1_needLamp yX1_needLamp, Cond.code yX1_needLamp cX1_needLamp 2 none, Cond.classLink RX1 141 "java/lang/IndexOutOfBoundsException", Cond.initialized "java/lang/IndexOutOfBoundsException", Cond.fieldLink RX1 20 "LanternPrimes" "lampCount" "I", Cond.methodLink RX1 117 yX1_collideAt, Cond.instanceMethod yX1_collideAt, Cond.selects RX1 yX1_collideAt yX1_collideAt]
def wsL_momentsUntilCollision_r2 : List Cond := [Cond.code yX1_collideAt cX1_collideAt 4 (some .boolean), Cond.fieldLink RX1 11 "LanternPrimes" "row" "[LLanternPrimes$Lamp;", Cond.methodLink RX1 165 yX0_changesAt, Cond.instanceMethod yX0_changesAt, Cond.selects RX0 yX0_changesAt yX0_changesAt, Cond.initialized RX0, Cond.code yX0_changesAt cX0_changesAt 2 (some .boolean), Cond.methodLink RX0 34 yX0_strikes, Cond.instanceMethod yX0_strikes, Cond.selects RX0 yX0_strikes yX0_strikes, Cond.code yX0_strikes cX0_strikes 4 (some .int), Cond.fieldLink RX0 18 "LanternPrimes$Lamp" "beatCount" "I", Cond.fieldLink RX0 9 "LanternPrimes$Lamp" "numbers" "[I", Cond.fieldLink RX0 15 "LanternPrimes$Lamp" "offsets" "[I", Cond.methodLink RX0 38 yX0_isOdd, Cond.static yX0_isOdd, Cond.code yX0_isOdd cX0_isOdd 1 (some .boolean)]
def wsL_momentsUntilCollision : List Cond := .codeWith yL_momentsUntilCollision cL_momentsUntilCollision 5 (some .int) [(0, 10, 13, 19), (0, 10, 17, 21)] :: ((wsL_momentsUntilCollision_r1 ++ wsL_momentsUntilCollision_r2) ++ wsX10 ++ wsX00 ++ (vx_atS RX1 152 "java/lang/IllegalArgumentException" ["java/lang/RuntimeException", "java/lang/Exception"]).filter goodWord ++ (vx_atS RX1 145 "java/lang/IndexOutOfBoundsException" ["java/lang/RuntimeException", "java/lang/Exception"]).filter goodWord)
def wsL_collisionsWithin_r1 : List Cond := [Cond.classLink RL 19 "java/lang/IndexOutOfBoundsException", Cond.classLink RL 21 "java/lang/IllegalArgumentException", Cond.methodLink RL 78 yX1_collisionsWithin, Cond.instanceMethod yX1_collisionsWithin, Cond.selects RX1 yX1_collisionsWithin yX1_collisionsWithin, Cond.initialized RX1, Cond.code yX1_collisionsWithin cX1_collisionsWithin 6 (some .int), Cond.fieldLink RX1 73 "LanternPrimes" "present" "I", Cond.methodLink RX1 114 yX1_needPair, Cond.instanceMethod yX1_needPair, Cond.selects RX1 yX1_needPair yX1_needPair, Cond.code yX1_needPair cX1_needPair 3 none, Cond.classLink RX1 148 "java/lang/IllegalArgumentException", Cond.initialized "java/lang/IllegalArgumentException", Cond.methodLink RX1 35 yX1_needLamp, Cond.instanceMethod yX1_needLamp, Cond.selects RX1 yX1_needLamp yX1_needLamp, Cond.code yX1_needLamp cX1_needLamp 2 none, Cond.classLink RX1 141 "java/lang/IndexOutOfBoundsException", Cond.initialized "java/lang/IndexOutOfBoundsException", Cond.fieldLink RX1 20 "LanternPrimes" "lampCount" "I", Cond.methodLink RX1 70 yX1_needMoments, Cond.static yX1_needMoments, Cond.code yX1_needMoments cX1_needMoments 2 none]
def wsL_collisionsWithin_r2 : List Cond := [Cond.methodLink RX1 117 yX1_collideAt, Cond.instanceMethod yX1_collideAt, Cond.selects RX1 yX1_collideAt yX1_collideAt, Cond.code yX1_collideAt cX1_collideAt 4 (some .boolean), Cond.fieldLink RX1 11 "LanternPrimes" "row" "[LLanternPrimes$Lamp;", Cond.methodLink RX1 165 yX0_changesAt, Cond.instanceMethod yX0_changesAt, Cond.selects RX0 yX0_changesAt yX0_changesAt, Cond.initialized RX0, Cond.code yX0_changesAt cX0_changesAt 2 (some .boolean), Cond.methodLink RX0 34 yX0_strikes, Cond.instanceMethod yX0_strikes, Cond.selects RX0 yX0_strikes yX0_strikes, Cond.code yX0_strikes cX0_strikes 4 (some .int), Cond.fieldLink RX0 18 "LanternPrimes$Lamp" "beatCount" "I", Cond.fieldLink RX0 9 "LanternPrimes$Lamp" "numbers" "[I", Cond.fieldLink RX0 15 "LanternPrimes$Lamp" "offsets" "[I", Cond.methodLink RX0 38 yX0_isOdd, Cond.static yX0_isOdd, Cond.code yX0_isOdd cX0_isOdd 1 (some .boolean)]
def wsL_collisionsWithin : List Cond := .codeWith yL_collisionsWithin cL_collisionsWithin 6 (some .int) [(0, 12, 15, 19), (0, 12, 19, 21)] :: ((wsL_collisionsWithin_r1 ++ wsL_collisionsWithin_r2) ++ wsX10 ++ wsX00 ++ (vx_atS RX1 152 "java/lang/IllegalArgumentException" ["java/lang/RuntimeException", "java/lang/Exception"]).filter goodWord ++ (vx_atS RX1 145 "java/lang/IndexOutOfBoundsException" ["java/lang/RuntimeException", "java/lang/Exception"]).filter goodWord)
def wsL_momentsUntilToldApart_r1 : List Cond := [Cond.classLink RL 19 "java/lang/IndexOutOfBoundsException", Cond.classLink RL 21 "java/lang/IllegalArgumentException", Cond.methodLink RL 81 yX1_momentsUntilToldApart, Cond.instanceMethod yX1_momentsUntilToldApart, Cond.selects RX1 yX1_momentsUntilToldApart yX1_momentsUntilToldApart, Cond.initialized RX1, Cond.code yX1_momentsUntilToldApart cX1_momentsUntilToldApart 3 (some .int), Cond.fieldLink RX1 16 "LanternPrimes" "difference" "LLanternPrimes$Lamp;", Cond.fieldLink RX1 11 "LanternPrimes" "row" "[LLanternPrimes$Lamp;", Cond.fieldLink RX1 73 "LanternPrimes" "present" "I", Cond.methodLink RX1 114 yX1_needPair, Cond.instanceMethod yX1_needPair, Cond.selects RX1 yX1_needPair yX1_needPair, Cond.code yX1_needPair cX1_needPair 3 none, Cond.classLink RX1 148 "java/lang/IllegalArgumentException", Cond.initialized "java/lang/IllegalArgumentException", Cond.methodLink RX1 35 yX1_needLamp, Cond.instanceMethod yX1_needLamp, Cond.selects RX1 yX1_needLamp yX1_needLamp, Cond.code yX1_needLamp cX1_needLamp 2 none, Cond.classLink RX1 141 "java/lang/IndexOutOfBoundsException", Cond.initialized "java/lang/IndexOutOfBoundsException", Cond.fieldLink RX1 20 "LanternPrimes" "lampCount" "I", Cond.methodLink RX1 121 yX0_becomeDifference]
def wsL_momentsUntilToldApart_r2 : List Cond := [Cond.instanceMethod yX0_becomeDifference, Cond.selects RX0 yX0_becomeDifference yX0_becomeDifference, Cond.initialized RX0, Cond.code yX0_becomeDifference cX0_becomeDifference 3 none, Cond.fieldLink RX0 22 "LanternPrimes$Lamp" "onAtStart" "Z", Cond.fieldLink RX0 18 "LanternPrimes$Lamp" "beatCount" "I", Cond.methodLink RX0 26 yX0_appendBeatsOf, Cond.instanceMethod yX0_appendBeatsOf, Cond.selects RX0 yX0_appendBeatsOf yX0_appendBeatsOf, Cond.code yX0_appendBeatsOf cX0_appendBeatsOf 3 none, Cond.fieldLink RX0 9 "LanternPrimes$Lamp" "numbers" "[I", Cond.fieldLink RX0 15 "LanternPrimes$Lamp" "offsets" "[I", Cond.methodLink RX0 30 yX0_append, Cond.instanceMethod yX0_append, Cond.selects RX0 yX0_append yX0_append, Cond.code yX0_append cX0_append 3 none, Cond.methodLink RX1 83 yX0_onAt, Cond.instanceMethod yX0_onAt, Cond.selects RX0 yX0_onAt yX0_onAt, Cond.code yX0_onAt cX0_onAt 4 (some .boolean), Cond.methodLink RX0 48 yX0_strikesUpTo, Cond.static yX0_strikesUpTo, Cond.code yX0_strikesUpTo cX0_strikesUpTo 3 (some .int), Cond.methodLink RX0 38 yX0_isOdd]
def wsL_momentsUntilToldApart_r3 : List Cond := [Cond.static yX0_isOdd, Cond.code yX0_isOdd cX0_isOdd 1 (some .boolean), Cond.methodLink RX1 111 yX0_untilChange, Cond.instanceMethod yX0_untilChange, Cond.selects RX0 yX0_untilChange yX0_untilChange, Cond.code yX0_untilChange cX0_untilChange 4 (some .int), Cond.methodLink RX0 56 yX0_changeCycle, Cond.instanceMethod yX0_changeCycle, Cond.selects RX0 yX0_changeCycle yX0_changeCycle, Cond.code yX0_changeCycle cX0_changeCycle 8 (some .int), Cond.methodLink RX0 62 yX0_turningRemainders, Cond.instanceMethod yX0_turningRemainders, Cond.selects RX0 yX0_turningRemainders yX0_turningRemainders, Cond.code yX0_turningRemainders cX0_turningRemainders 4 (some .int), Cond.methodLink RX0 65 yX0_changesAt, Cond.instanceMethod yX0_changesAt, Cond.selects RX0 yX0_changesAt yX0_changesAt, Cond.code yX0_changesAt cX0_changesAt 2 (some .boolean), Cond.methodLink RX0 34 yX0_strikes, Cond.instanceMethod yX0_strikes, Cond.selects RX0 yX0_strikes yX0_strikes, Cond.code yX0_strikes cX0_strikes 4 (some .int)]
def wsL_momentsUntilToldApart : List Cond := .codeWith yL_momentsUntilToldApart cL_momentsUntilToldApart 5 (some .int) [(0, 10, 13, 19), (0, 10, 17, 21)] :: ((wsL_momentsUntilToldApart_r1 ++ (wsL_momentsUntilToldApart_r2 ++ wsL_momentsUntilToldApart_r3)) ++ wsX10 ++ wsX00 ++ (vx_atS RX1 152 "java/lang/IllegalArgumentException" ["java/lang/RuntimeException", "java/lang/Exception"]).filter goodWord ++ (vx_atS RX1 145 "java/lang/IndexOutOfBoundsException" ["java/lang/RuntimeException", "java/lang/Exception"]).filter goodWord)
def wsL_darkWithin_r1 : List Cond := [Cond.classLink RL 21 "java/lang/IllegalArgumentException", Cond.methodLink RL 84 yX1_darkWithin, Cond.instanceMethod yX1_darkWithin, Cond.selects RX1 yX1_darkWithin yX1_darkWithin, Cond.initialized RX1, Cond.code yX1_darkWithin cX1_darkWithin 2 (some .int), Cond.methodLink RX1 70 yX1_needMoments, Cond.static yX1_needMoments, Cond.code yX1_needMoments cX1_needMoments 2 none, Cond.classLink RX1 148 "java/lang/IllegalArgumentException", Cond.initialized "java/lang/IllegalArgumentException", Cond.methodLink RX1 125 yX1_darkMoments, Cond.instanceMethod yX1_darkMoments, Cond.selects RX1 yX1_darkMoments yX1_darkMoments, Cond.code yX1_darkMoments cX1_darkMoments 5 (some .int), Cond.fieldLink RX1 73 "LanternPrimes" "present" "I", Cond.methodLink RX1 93 yX1_darkAt, Cond.instanceMethod yX1_darkAt, Cond.selects RX1 yX1_darkAt yX1_darkAt, Cond.code yX1_darkAt cX1_darkAt 4 (some .boolean), Cond.fieldLink RX1 20 "LanternPrimes" "lampCount" "I", Cond.fieldLink RX1 11 "LanternPrimes" "row" "[LLanternPrimes$Lamp;", Cond.methodLink RX1 87 yX0_litAt, Cond.instanceMethod yX0_litAt]
def wsL_darkWithin_r2 : List Cond := [Cond.selects RX0 yX0_litAt yX0_litAt, Cond.initialized RX0, Cond.code yX0_litAt cX0_litAt 2 (some .boolean), Cond.fieldLink RX0 42 "LanternPrimes$Lamp" "covered" "Z", Cond.methodLink RX0 45 yX0_onAt, Cond.instanceMethod yX0_onAt, Cond.selects RX0 yX0_onAt yX0_onAt, Cond.code yX0_onAt cX0_onAt 4 (some .boolean), Cond.fieldLink RX0 18 "LanternPrimes$Lamp" "beatCount" "I", Cond.fieldLink RX0 9 "LanternPrimes$Lamp" "numbers" "[I", Cond.fieldLink RX0 15 "LanternPrimes$Lamp" "offsets" "[I", Cond.fieldLink RX0 22 "LanternPrimes$Lamp" "onAtStart" "Z", Cond.methodLink RX0 48 yX0_strikesUpTo, Cond.static yX0_strikesUpTo, Cond.code yX0_strikesUpTo cX0_strikesUpTo 3 (some .int), Cond.methodLink RX0 38 yX0_isOdd, Cond.static yX0_isOdd, Cond.code yX0_isOdd cX0_isOdd 1 (some .boolean)]
def wsL_darkWithin : List Cond := .codeWith yL_darkWithin cL_darkWithin 4 (some .int) [(0, 9, 12, 21)] :: ((wsL_darkWithin_r1 ++ wsL_darkWithin_r2) ++ wsX10 ++ wsX00 ++ (vx_atS RX1 152 "java/lang/IllegalArgumentException" ["java/lang/RuntimeException", "java/lang/Exception"]).filter goodWord)
def wsL_brightestWithin_r1 : List Cond := [Cond.classLink RL 21 "java/lang/IllegalArgumentException", Cond.methodLink RL 87 yX1_brightestWithin, Cond.instanceMethod yX1_brightestWithin, Cond.selects RX1 yX1_brightestWithin yX1_brightestWithin, Cond.initialized RX1, Cond.code yX1_brightestWithin cX1_brightestWithin 6 (some .int), Cond.fieldLink RX1 73 "LanternPrimes" "present" "I", Cond.methodLink RX1 70 yX1_needMoments, Cond.static yX1_needMoments, Cond.code yX1_needMoments cX1_needMoments 2 none, Cond.classLink RX1 148 "java/lang/IllegalArgumentException", Cond.initialized "java/lang/IllegalArgumentException", Cond.methodLink RX1 90 yX1_litCount, Cond.instanceMethod yX1_litCount, Cond.selects RX1 yX1_litCount yX1_litCount, Cond.code yX1_litCount cX1_litCount 4 (some .int), Cond.fieldLink RX1 20 "LanternPrimes" "lampCount" "I", Cond.fieldLink RX1 11 "LanternPrimes" "row" "[LLanternPrimes$Lamp;", Cond.methodLink RX1 87 yX0_litAt, Cond.instanceMethod yX0_litAt, Cond.selects RX0 yX0_litAt yX0_litAt, Cond.initialized RX0, Cond.code yX0_litAt cX0_litAt 2 (some .boolean), Cond.fieldLink RX0 42 "LanternPrimes$Lamp" "covered" "Z"]
def wsL_brightestWithin_r2 : List Cond := [Cond.methodLink RX0 45 yX0_onAt, Cond.instanceMethod yX0_onAt, Cond.selects RX0 yX0_onAt yX0_onAt, Cond.code yX0_onAt cX0_onAt 4 (some .boolean), Cond.fieldLink RX0 18 "LanternPrimes$Lamp" "beatCount" "I", Cond.fieldLink RX0 9 "LanternPrimes$Lamp" "numbers" "[I", Cond.fieldLink RX0 15 "LanternPrimes$Lamp" "offsets" "[I", Cond.fieldLink RX0 22 "LanternPrimes$Lamp" "onAtStart" "Z", Cond.methodLink RX0 48 yX0_strikesUpTo, Cond.static yX0_strikesUpTo, Cond.code yX0_strikesUpTo cX0_strikesUpTo 3 (some .int), Cond.methodLink RX0 38 yX0_isOdd, Cond.static yX0_isOdd, Cond.code yX0_isOdd cX0_isOdd 1 (some .boolean)]
def wsL_brightestWithin : List Cond := .codeWith yL_brightestWithin cL_brightestWithin 4 (some .int) [(0, 9, 12, 21)] :: ((wsL_brightestWithin_r1 ++ wsL_brightestWithin_r2) ++ wsX10 ++ wsX00 ++ (vx_atS RX1 152 "java/lang/IllegalArgumentException" ["java/lang/RuntimeException", "java/lang/Exception"]).filter goodWord)
def wsL_bestCover_r1 : List Cond := [Cond.classLink RL 21 "java/lang/IllegalArgumentException", Cond.methodLink RL 90 yX1_bestCover, Cond.instanceMethod yX1_bestCover, Cond.selects RX1 yX1_bestCover yX1_bestCover, Cond.initialized RX1, Cond.code yX1_bestCover cX1_bestCover 6 (some .int), Cond.fieldLink RX1 20 "LanternPrimes" "lampCount" "I", Cond.fieldLink RX1 11 "LanternPrimes" "row" "[LLanternPrimes$Lamp;", Cond.methodLink RX1 70 yX1_needMoments, Cond.static yX1_needMoments, Cond.code yX1_needMoments cX1_needMoments 2 none, Cond.classLink RX1 148 "java/lang/IllegalArgumentException", Cond.initialized "java/lang/IllegalArgumentException", Cond.methodLink RX1 125 yX1_darkMoments, Cond.instanceMethod yX1_darkMoments, Cond.selects RX1 yX1_darkMoments yX1_darkMoments, Cond.code yX1_darkMoments cX1_darkMoments 5 (some .int), Cond.fieldLink RX1 73 "LanternPrimes" "present" "I", Cond.methodLink RX1 93 yX1_darkAt, Cond.instanceMethod yX1_darkAt, Cond.selects RX1 yX1_darkAt yX1_darkAt, Cond.code yX1_darkAt cX1_darkAt 4 (some .boolean), Cond.methodLink RX1 87 yX0_litAt, Cond.instanceMethod yX0_litAt]
def wsL_bestCover_r2 : List Cond := [Cond.selects RX0 yX0_litAt yX0_litAt, Cond.initialized RX0, Cond.code yX0_litAt cX0_litAt 2 (some .boolean), Cond.fieldLink RX0 42 "LanternPrimes$Lamp" "covered" "Z", Cond.methodLink RX0 45 yX0_onAt, Cond.instanceMethod yX0_onAt, Cond.selects RX0 yX0_onAt yX0_onAt, Cond.code yX0_onAt cX0_onAt 4 (some .boolean), Cond.fieldLink RX0 18 "LanternPrimes$Lamp" "beatCount" "I", Cond.fieldLink RX0 9 "LanternPrimes$Lamp" "numbers" "[I", Cond.fieldLink RX0 15 "LanternPrimes$Lamp" "offsets" "[I", Cond.fieldLink RX0 22 "LanternPrimes$Lamp" "onAtStart" "Z", Cond.methodLink RX0 48 yX0_strikesUpTo, Cond.static yX0_strikesUpTo, Cond.code yX0_strikesUpTo cX0_strikesUpTo 3 (some .int), Cond.methodLink RX0 38 yX0_isOdd, Cond.static yX0_isOdd, Cond.code yX0_isOdd cX0_isOdd 1 (some .boolean)]
def wsL_bestCover : List Cond := .codeWith yL_bestCover cL_bestCover 4 (some .int) [(0, 9, 12, 21)] :: ((wsL_bestCover_r1 ++ wsL_bestCover_r2) ++ wsX10 ++ wsX00 ++ (vx_atS RX1 152 "java/lang/IllegalArgumentException" ["java/lang/RuntimeException", "java/lang/Exception"]).filter goodWord)
def wsL_law0_r1 : List Cond := [Cond.classLink RL 8 RX1, Cond.instantiable RX1 5, Cond.initialized RX1, Cond.classLink RL 94 RX2, Cond.instantiable RX2 9, Cond.initialized RX2, Cond.arrayClass .long, Cond.methodLink RL 93 yX1_init, Cond.instanceMethod yX1_init, Cond.code yX1_init cX1_init 2 none, Cond.methodLink RX1 1 objectInit, Cond.instanceMethod objectInit, Cond.code objectInit ⟨#[0xb1]⟩ 1 none, Cond.classLink RX1 9 RX0, Cond.fieldLink RX1 11 "LanternPrimes" "row" "[LLanternPrimes$Lamp;", Cond.instantiable RX0 5, Cond.initialized RX0, Cond.fieldLink RX1 16 "LanternPrimes" "difference" "LLanternPrimes$Lamp;", Cond.instanceMethod yX0_init, Cond.code yX0_init cX0_init 1 none, Cond.methodLink RX0 3 objectInit, Cond.arrayClass .int, Cond.fieldLink RX0 9 "LanternPrimes$Lamp" "numbers" "[I", Cond.fieldLink RX0 15 "LanternPrimes$Lamp" "offsets" "[I"]
def wsL_law0_r2 : List Cond := [Cond.methodLink RL 96 yX2_init, Cond.instanceMethod yX2_init, Cond.code yX2_init cX2_init 1 none, Cond.methodLink RX2 1 objectInit, Cond.arrayClass .boolean, Cond.fieldLink RX2 9 "LanternPrimesModel" "begins" "[Z", Cond.fieldLink RX2 13 "LanternPrimesModel" "covered" "[Z", Cond.fieldLink RX2 16 "LanternPrimesModel" "beats" "[I", Cond.fieldLink RX2 20 "LanternPrimesModel" "number" "[I", Cond.fieldLink RX2 23 "LanternPrimesModel" "offset" "[I", Cond.methodLink RL 97 yL_addLamp, Cond.static yL_addLamp, Cond.initialized RL, Cond.codeWith yL_addLamp cL_addLamp 4 (some .int) [(0, 9, 12, 13)], Cond.classLink RL 13 "java/lang/IllegalStateException", Cond.methodLink RL 7 yX1_addLamp, Cond.instanceMethod yX1_addLamp, Cond.selects RX1 yX1_addLamp yX1_addLamp, Cond.code yX1_addLamp cX1_addLamp 2 (some .int), Cond.classLink RX1 24 "java/lang/IllegalStateException", Cond.initialized "java/lang/IllegalStateException", Cond.fieldLink RX1 20 "LanternPrimes" "lampCount" "I", Cond.methodLink RL 102 yX2_addLamp, Cond.instanceMethod yX2_addLamp]
def wsL_law0_r3 : List Cond := [Cond.selects RX2 yX2_addLamp yX2_addLamp, Cond.code yX2_addLamp cX2_addLamp 2 (some .int), Cond.fieldLink RX2 26 "LanternPrimesModel" "thrown" "I", Cond.fieldLink RX2 30 "LanternPrimesModel" "lamps" "I", Cond.methodLink RX2 62 yX2_no, Cond.instanceMethod yX2_no, Cond.selects RX2 yX2_no yX2_no, Cond.code yX2_no cX2_no 2 (some .int), Cond.methodLink RL 103 yX2_thrown, Cond.instanceMethod yX2_thrown, Cond.selects RX2 yX2_thrown yX2_thrown, Cond.code yX2_thrown cX2_thrown 1 (some .int), Cond.methodLink RL 107 yL_addBeat, Cond.static yL_addBeat, Cond.codeWith yL_addBeat cL_addBeat 6 (some .int) [(0, 12, 15, 19), (0, 12, 19, 21), (0, 12, 23, 13)], Cond.classLink RL 19 "java/lang/IndexOutOfBoundsException", Cond.classLink RL 21 "java/lang/IllegalArgumentException", Cond.methodLink RL 15 yX1_addBeat, Cond.instanceMethod yX1_addBeat, Cond.selects RX1 yX1_addBeat yX1_addBeat, Cond.code yX1_addBeat cX1_addBeat 5 (some .int), Cond.methodLink RX1 35 yX1_needLamp, Cond.instanceMethod yX1_needLamp, Cond.selects RX1 yX1_needLamp yX1_needLamp]
def wsL_law0_r4 : List Cond := [Cond.code yX1_needLamp cX1_needLamp 2 none, Cond.classLink RX1 141 "java/lang/IndexOutOfBoundsException", Cond.initialized "java/lang/IndexOutOfBoundsException", Cond.methodLink RX1 39 yX1_needNumber, Cond.static yX1_needNumber, Cond.code yX1_needNumber cX1_needNumber 5 none, Cond.classLink RX1 148 "java/lang/IllegalArgumentException", Cond.initialized "java/lang/IllegalArgumentException", Cond.fieldLink RX1 153 "LanternPrimes" "NUMBERS" "[I", Cond.methodLink RX1 42 yX1_needOffset, Cond.static yX1_needOffset, Cond.code yX1_needOffset cX1_needOffset 2 none, Cond.methodLink RX1 51 yX0_append, Cond.instanceMethod yX0_append, Cond.selects RX0 yX0_append yX0_append, Cond.code yX0_append cX0_append 3 none, Cond.fieldLink RX0 18 "LanternPrimes$Lamp" "beatCount" "I", Cond.methodLink RL 110 yX2_addBeat, Cond.instanceMethod yX2_addBeat, Cond.selects RX2 yX2_addBeat yX2_addBeat, Cond.code yX2_addBeat cX2_addBeat 5 (some .int), Cond.methodLink RX2 37 yX2_isLamp, Cond.instanceMethod yX2_isLamp, Cond.selects RX2 yX2_isLamp yX2_isLamp]
def wsL_law0_r5 : List Cond := [Cond.code yX2_isLamp cX2_isLamp 2 (some .boolean), Cond.methodLink RX2 33 yX2_isIn, Cond.static yX2_isIn, Cond.code yX2_isIn cX2_isIn 3 (some .boolean), Cond.methodLink RX2 65 yX2_isPrime, Cond.static yX2_isPrime, Cond.code yX2_isPrime cX2_isPrime 1 (some .boolean), Cond.methodLink RL 111 yL_moveBeat, Cond.static yL_moveBeat, Cond.codeWith yL_moveBeat cL_moveBeat 6 (some .int) [(0, 12, 15, 19), (0, 12, 19, 21)], Cond.methodLink RL 23 yX1_moveBeat, Cond.instanceMethod yX1_moveBeat, Cond.selects RX1 yX1_moveBeat yX1_moveBeat, Cond.code yX1_moveBeat cX1_moveBeat 6 (some .int), Cond.methodLink RX1 54 yX1_needBeat, Cond.instanceMethod yX1_needBeat, Cond.selects RX1 yX1_needBeat yX1_needBeat, Cond.code yX1_needBeat cX1_needBeat 3 none, Cond.methodLink RL 113 yX2_moveBeat, Cond.instanceMethod yX2_moveBeat, Cond.selects RX2 yX2_moveBeat yX2_moveBeat, Cond.code yX2_moveBeat cX2_moveBeat 6 (some .int), Cond.methodLink RX2 68 yX2_isBeat, Cond.instanceMethod yX2_isBeat]
def wsL_law0_r6 : List Cond := [Cond.selects RX2 yX2_isBeat yX2_isBeat, Cond.code yX2_isBeat cX2_isBeat 3 (some .boolean), Cond.methodLink RL 114 yL_takeBeat, Cond.static yL_takeBeat, Cond.codeWith yL_takeBeat cL_takeBeat 5 (some .int) [(0, 10, 13, 19)], Cond.methodLink RL 26 yX1_takeBeat, Cond.instanceMethod yX1_takeBeat, Cond.selects RX1 yX1_takeBeat yX1_takeBeat, Cond.code yX1_takeBeat cX1_takeBeat 4 (some .int), Cond.methodLink RX1 64 yX0_remove, Cond.instanceMethod yX0_remove, Cond.selects RX0 yX0_remove yX0_remove, Cond.code yX0_remove cX0_remove 3 none, Cond.methodLink RL 117 yX2_takeBeat, Cond.instanceMethod yX2_takeBeat, Cond.selects RX2 yX2_takeBeat yX2_takeBeat, Cond.code yX2_takeBeat cX2_takeBeat 4 (some .int), Cond.methodLink RL 118 yL_turnShutter, Cond.static yL_turnShutter, Cond.codeWith yL_turnShutter cL_turnShutter 4 (some .int) [(0, 16, 19, 19)], Cond.methodLink RL 30 yX1_turnShutter, Cond.instanceMethod yX1_turnShutter, Cond.selects RX1 yX1_turnShutter yX1_turnShutter, Cond.code yX1_turnShutter cX1_turnShutter 3 (some .boolean)]
def wsL_law0_r7 : List Cond := [Cond.methodLink RL 121 yX2_turnShutter, Cond.instanceMethod yX2_turnShutter, Cond.selects RX2 yX2_turnShutter yX2_turnShutter, Cond.code yX2_turnShutter cX2_turnShutter 2 (some .boolean), Cond.methodLink RX2 71 yX2_isNot, Cond.instanceMethod yX2_isNot, Cond.selects RX2 yX2_isNot yX2_isNot, Cond.code yX2_isNot cX2_isNot 2 (some .boolean), Cond.methodLink RL 122 yL_pass, Cond.static yL_pass, Cond.codeWith yL_pass cL_pass 4 (some .int) [(0, 9, 12, 21)], Cond.methodLink RL 34 yX1_pass, Cond.instanceMethod yX1_pass, Cond.selects RX1 yX1_pass yX1_pass, Cond.code yX1_pass cX1_pass 4 (some .int), Cond.fieldLink RX1 73 "LanternPrimes" "present" "I", Cond.fieldLink RX1 80 "LanternPrimes" "changesTold" "I", Cond.methodLink RX1 70 yX1_needMoments, Cond.static yX1_needMoments, Cond.code yX1_needMoments cX1_needMoments 2 none, Cond.methodLink RX1 76 yX1_changesOfLamps, Cond.instanceMethod yX1_changesOfLamps, Cond.selects RX1 yX1_changesOfLamps yX1_changesOfLamps, Cond.code yX1_changesOfLamps cX1_changesOfLamps 4 (some .int)]
def wsL_law0_r8 : List Cond := [Cond.methodLink RX1 165 yX0_changesAt, Cond.instanceMethod yX0_changesAt, Cond.selects RX0 yX0_changesAt yX0_changesAt, Cond.code yX0_changesAt cX0_changesAt 2 (some .boolean), Cond.methodLink RX0 34 yX0_strikes, Cond.instanceMethod yX0_strikes, Cond.selects RX0 yX0_strikes yX0_strikes, Cond.code yX0_strikes cX0_strikes 4 (some .int), Cond.methodLink RX0 38 yX0_isOdd, Cond.static yX0_isOdd, Cond.code yX0_isOdd cX0_isOdd 1 (some .boolean), Cond.methodLink RL 124 yX2_pass, Cond.instanceMethod yX2_pass, Cond.selects RX2 yX2_pass yX2_pass, Cond.code yX2_pass cX2_pass 5 (some .int), Cond.fieldLink RX2 74 "LanternPrimesModel" "seen" "I", Cond.fieldLink RX2 59 "LanternPrimesModel" "now" "I", Cond.methodLink RX2 53 yX2_changes, Cond.instanceMethod yX2_changes, Cond.selects RX2 yX2_changes yX2_changes, Cond.code yX2_changes cX2_changes 3 (some .boolean), Cond.methodLink RX2 41 yX2_strikes, Cond.instanceMethod yX2_strikes, Cond.selects RX2 yX2_strikes yX2_strikes]
def wsL_law0_r9 : List Cond := [Cond.code yX2_strikes cX2_strikes 5 (some .int), Cond.methodLink RL 125 yX1_lamps, Cond.instanceMethod yX1_lamps, Cond.selects RX1 yX1_lamps yX1_lamps, Cond.code yX1_lamps cX1_lamps 1 (some .int), Cond.methodLink RL 128 yX2_lamps, Cond.instanceMethod yX2_lamps, Cond.selects RX2 yX2_lamps yX2_lamps, Cond.code yX2_lamps cX2_lamps 1 (some .int), Cond.methodLink RL 129 yX1_now, Cond.instanceMethod yX1_now, Cond.selects RX1 yX1_now yX1_now, Cond.code yX1_now cX1_now 1 (some .int), Cond.methodLink RL 132 yX2_now, Cond.instanceMethod yX2_now, Cond.selects RX2 yX2_now yX2_now, Cond.code yX2_now cX2_now 1 (some .int), Cond.methodLink RL 133 yX1_changesSeen, Cond.instanceMethod yX1_changesSeen, Cond.selects RX1 yX1_changesSeen yX1_changesSeen, Cond.code yX1_changesSeen cX1_changesSeen 1 (some .int), Cond.methodLink RL 136 yX2_changesSeen, Cond.instanceMethod yX2_changesSeen, Cond.selects RX2 yX2_changesSeen yX2_changesSeen]
def wsL_law0_r10 : List Cond := [Cond.code yX2_changesSeen cX2_changesSeen 1 (some .int), Cond.methodLink RL 137 yL_beatsOf, Cond.static yL_beatsOf, Cond.codeWith yL_beatsOf cL_beatsOf 4 (some .int) [(0, 9, 12, 19)], Cond.methodLink RL 38 yX1_beatsOf, Cond.instanceMethod yX1_beatsOf, Cond.selects RX1 yX1_beatsOf yX1_beatsOf, Cond.code yX1_beatsOf cX1_beatsOf 2 (some .int), Cond.methodLink RL 139 yX2_beatsOf, Cond.instanceMethod yX2_beatsOf, Cond.selects RX2 yX2_beatsOf yX2_beatsOf, Cond.code yX2_beatsOf cX2_beatsOf 2 (some .int), Cond.methodLink RL 140 yL_numberOf, Cond.static yL_numberOf, Cond.codeWith yL_numberOf cL_numberOf 5 (some .int) [(0, 10, 13, 19)], Cond.methodLink RL 41 yX1_numberOf, Cond.instanceMethod yX1_numberOf, Cond.selects RX1 yX1_numberOf yX1_numberOf, Cond.code yX1_numberOf cX1_numberOf 3 (some .int), Cond.methodLink RL 142 yX2_numberOf, Cond.instanceMethod yX2_numberOf, Cond.selects RX2 yX2_numberOf yX2_numberOf, Cond.code yX2_numberOf cX2_numberOf 3 (some .int), Cond.methodLink RL 143 yL_offsetOf]
def wsL_law0_r11 : List Cond := [Cond.static yL_offsetOf, Cond.codeWith yL_offsetOf cL_offsetOf 5 (some .int) [(0, 10, 13, 19)], Cond.methodLink RL 44 yX1_offsetOf, Cond.instanceMethod yX1_offsetOf, Cond.selects RX1 yX1_offsetOf yX1_offsetOf, Cond.code yX1_offsetOf cX1_offsetOf 3 (some .int), Cond.methodLink RL 145 yX2_offsetOf, Cond.instanceMethod yX2_offsetOf, Cond.selects RX2 yX2_offsetOf yX2_offsetOf, Cond.code yX2_offsetOf cX2_offsetOf 3 (some .int), Cond.methodLink RL 146 yL_isCovered, Cond.static yL_isCovered, Cond.codeWith yL_isCovered cL_isCovered 4 (some .int) [(0, 16, 19, 19)], Cond.methodLink RL 47 yX1_isCovered, Cond.instanceMethod yX1_isCovered, Cond.selects RX1 yX1_isCovered yX1_isCovered, Cond.code yX1_isCovered cX1_isCovered 2 (some .boolean), Cond.methodLink RL 148 yX2_isCovered, Cond.instanceMethod yX2_isCovered, Cond.selects RX2 yX2_isCovered yX2_isCovered, Cond.code yX2_isCovered cX2_isCovered 2 (some .boolean), Cond.methodLink RL 149 yL_isOn, Cond.static yL_isOn, Cond.codeWith yL_isOn cL_isOn 4 (some .int) [(0, 16, 19, 19)]]
def wsL_law0_r12 : List Cond := [Cond.methodLink RL 50 yX1_isOn, Cond.instanceMethod yX1_isOn, Cond.selects RX1 yX1_isOn yX1_isOn, Cond.code yX1_isOn cX1_isOn 2 (some .boolean), Cond.methodLink RX1 83 yX0_onAt, Cond.instanceMethod yX0_onAt, Cond.selects RX0 yX0_onAt yX0_onAt, Cond.code yX0_onAt cX0_onAt 4 (some .boolean), Cond.fieldLink RX0 22 "LanternPrimes$Lamp" "onAtStart" "Z", Cond.methodLink RX0 48 yX0_strikesUpTo, Cond.static yX0_strikesUpTo, Cond.code yX0_strikesUpTo cX0_strikesUpTo 3 (some .int), Cond.methodLink RL 151 yX2_isOn, Cond.instanceMethod yX2_isOn, Cond.selects RX2 yX2_isOn yX2_isOn, Cond.code yX2_isOn cX2_isOn 2 (some .boolean), Cond.methodLink RX2 45 yX2_onAt, Cond.instanceMethod yX2_onAt, Cond.selects RX2 yX2_onAt yX2_onAt, Cond.code yX2_onAt cX2_onAt 5 (some .boolean), Cond.methodLink RL 152 yL_isLit, Cond.static yL_isLit, Cond.codeWith yL_isLit cL_isLit 4 (some .int) [(0, 16, 19, 19)], Cond.methodLink RL 53 yX1_isLit]
def wsL_law0_r13 : List Cond := [Cond.instanceMethod yX1_isLit, Cond.selects RX1 yX1_isLit yX1_isLit, Cond.code yX1_isLit cX1_isLit 2 (some .boolean), Cond.methodLink RX1 87 yX0_litAt, Cond.instanceMethod yX0_litAt, Cond.selects RX0 yX0_litAt yX0_litAt, Cond.code yX0_litAt cX0_litAt 2 (some .boolean), Cond.fieldLink RX0 42 "LanternPrimes$Lamp" "covered" "Z", Cond.methodLink RX0 45 yX0_onAt, Cond.methodLink RL 154 yX2_isLit, Cond.instanceMethod yX2_isLit, Cond.selects RX2 yX2_isLit yX2_isLit, Cond.code yX2_isLit cX2_isLit 2 (some .boolean), Cond.methodLink RL 155 yX1_litLamps, Cond.instanceMethod yX1_litLamps, Cond.selects RX1 yX1_litLamps yX1_litLamps, Cond.code yX1_litLamps cX1_litLamps 1 (some .int), Cond.methodLink RX1 90 yX1_litCount, Cond.instanceMethod yX1_litCount, Cond.selects RX1 yX1_litCount yX1_litCount, Cond.code yX1_litCount cX1_litCount 4 (some .int), Cond.methodLink RL 158 yX2_litLamps, Cond.instanceMethod yX2_litLamps, Cond.selects RX2 yX2_litLamps yX2_litLamps]
def wsL_law0_r14 : List Cond := [Cond.code yX2_litLamps cX2_litLamps 1 (some .int), Cond.methodLink RX2 77 yX2_litAt, Cond.instanceMethod yX2_litAt, Cond.selects RX2 yX2_litAt yX2_litAt, Cond.code yX2_litAt cX2_litAt 5 (some .int), Cond.methodLink RL 159 yX1_isDark, Cond.instanceMethod yX1_isDark, Cond.selects RX1 yX1_isDark yX1_isDark, Cond.code yX1_isDark cX1_isDark 1 (some .boolean), Cond.methodLink RX1 93 yX1_darkAt, Cond.instanceMethod yX1_darkAt, Cond.selects RX1 yX1_darkAt yX1_darkAt, Cond.code yX1_darkAt cX1_darkAt 4 (some .boolean), Cond.methodLink RL 163 yX2_isDark, Cond.instanceMethod yX2_isDark, Cond.selects RX2 yX2_isDark yX2_isDark, Cond.code yX2_isDark cX2_isDark 1 (some .boolean), Cond.methodLink RL 164 yL_isOnAt, Cond.static yL_isOnAt, Cond.codeWith yL_isOnAt cL_isOnAt 5 (some .int) [(0, 17, 20, 19), (0, 17, 24, 21)], Cond.methodLink RL 56 yX1_isOnAt, Cond.instanceMethod yX1_isOnAt, Cond.selects RX1 yX1_isOnAt yX1_isOnAt, Cond.code yX1_isOnAt cX1_isOnAt 3 (some .boolean)]
def wsL_law0_r15 : List Cond := [Cond.methodLink RX1 97 yX1_needMoment, Cond.static yX1_needMoment, Cond.code yX1_needMoment cX1_needMoment 1 none, Cond.constant RX1 160 (60000), Cond.methodLink RL 166 yX2_isOnAt, Cond.instanceMethod yX2_isOnAt, Cond.selects RX2 yX2_isOnAt yX2_isOnAt, Cond.code yX2_isOnAt cX2_isOnAt 3 (some .boolean), Cond.constant RX2 80 (60000), Cond.methodLink RL 167 yL_strikesAt, Cond.static yL_strikesAt, Cond.codeWith yL_strikesAt cL_strikesAt 5 (some .int) [(0, 10, 13, 19), (0, 10, 17, 21)], Cond.methodLink RL 60 yX1_strikesAt, Cond.instanceMethod yX1_strikesAt, Cond.selects RX1 yX1_strikesAt yX1_strikesAt, Cond.code yX1_strikesAt cX1_strikesAt 3 (some .int), Cond.methodLink RX1 100 yX0_strikes, Cond.methodLink RL 169 yX2_strikesAt, Cond.instanceMethod yX2_strikesAt, Cond.selects RX2 yX2_strikesAt yX2_strikesAt, Cond.code yX2_strikesAt cX2_strikesAt 3 (some .int), Cond.methodLink RL 170 yL_isSteady, Cond.static yL_isSteady, Cond.codeWith yL_isSteady cL_isSteady 4 (some .int) [(0, 16, 19, 19)]]
def wsL_law0_r16 : List Cond := [Cond.methodLink RL 63 yX1_isSteady, Cond.instanceMethod yX1_isSteady, Cond.selects RX1 yX1_isSteady yX1_isSteady, Cond.code yX1_isSteady cX1_isSteady 2 (some .boolean), Cond.methodLink RX1 103 yX0_neverChanges, Cond.instanceMethod yX0_neverChanges, Cond.selects RX0 yX0_neverChanges yX0_neverChanges, Cond.code yX0_neverChanges cX0_neverChanges 1 (some .boolean), Cond.methodLink RX0 52 yX0_cycle, Cond.instanceMethod yX0_cycle, Cond.selects RX0 yX0_cycle yX0_cycle, Cond.code yX0_cycle cX0_cycle 3 (some .int), Cond.methodLink RX0 56 yX0_changeCycle, Cond.instanceMethod yX0_changeCycle, Cond.selects RX0 yX0_changeCycle yX0_changeCycle, Cond.code yX0_changeCycle cX0_changeCycle 8 (some .int), Cond.methodLink RX0 62 yX0_turningRemainders, Cond.instanceMethod yX0_turningRemainders, Cond.selects RX0 yX0_turningRemainders yX0_turningRemainders, Cond.code yX0_turningRemainders cX0_turningRemainders 4 (some .int), Cond.methodLink RL 172 yX2_isSteady, Cond.instanceMethod yX2_isSteady, Cond.selects RX2 yX2_isSteady yX2_isSteady, Cond.code yX2_isSteady cX2_isSteady 2 (some .boolean)]
def wsL_law0_r17 : List Cond := [Cond.methodLink RX2 81 yX2_steady, Cond.instanceMethod yX2_steady, Cond.selects RX2 yX2_steady yX2_steady, Cond.code yX2_steady cX2_steady 3 (some .boolean), Cond.methodLink RX2 49 yX2_product, Cond.instanceMethod yX2_product, Cond.selects RX2 yX2_product yX2_product, Cond.code yX2_product cX2_product 4 (some .int), Cond.methodLink RL 173 yL_cycleOf, Cond.static yL_cycleOf, Cond.codeWith yL_cycleOf cL_cycleOf 4 (some .int) [(0, 9, 12, 19)], Cond.methodLink RL 66 yX1_cycleOf, Cond.instanceMethod yX1_cycleOf, Cond.selects RX1 yX1_cycleOf yX1_cycleOf, Cond.code yX1_cycleOf cX1_cycleOf 2 (some .int), Cond.methodLink RX1 107 yX0_cycle, Cond.methodLink RL 175 yX2_cycleOf, Cond.instanceMethod yX2_cycleOf, Cond.selects RX2 yX2_cycleOf yX2_cycleOf, Cond.code yX2_cycleOf cX2_cycleOf 2 (some .int), Cond.methodLink RX2 84 yX2_cycle, Cond.instanceMethod yX2_cycle, Cond.selects RX2 yX2_cycle yX2_cycle, Cond.code yX2_cycle cX2_cycle 4 (some .int)]
def wsL_law0_r18 : List Cond := [Cond.methodLink RX2 56 yX2_isCycle, Cond.instanceMethod yX2_isCycle, Cond.selects RX2 yX2_isCycle yX2_isCycle, Cond.code yX2_isCycle cX2_isCycle 5 (some .boolean), Cond.methodLink RL 176 yL_momentsUntilChange, Cond.static yL_momentsUntilChange, Cond.codeWith yL_momentsUntilChange cL_momentsUntilChange 4 (some .int) [(0, 9, 12, 19)], Cond.methodLink RL 69 yX1_momentsUntilChange, Cond.instanceMethod yX1_momentsUntilChange, Cond.selects RX1 yX1_momentsUntilChange yX1_momentsUntilChange, Cond.code yX1_momentsUntilChange cX1_momentsUntilChange 2 (some .int), Cond.methodLink RX1 111 yX0_untilChange, Cond.instanceMethod yX0_untilChange, Cond.selects RX0 yX0_untilChange yX0_untilChange, Cond.code yX0_untilChange cX0_untilChange 4 (some .int), Cond.methodLink RX0 65 yX0_changesAt, Cond.methodLink RL 178 yX2_momentsUntilChange, Cond.instanceMethod yX2_momentsUntilChange, Cond.selects RX2 yX2_momentsUntilChange yX2_momentsUntilChange, Cond.code yX2_momentsUntilChange cX2_momentsUntilChange 2 (some .int), Cond.methodLink RX2 87 yX2_untilChange, Cond.instanceMethod yX2_untilChange, Cond.selects RX2 yX2_untilChange yX2_untilChange, Cond.code yX2_untilChange cX2_untilChange 4 (some .int)]
def wsL_law0_r19 : List Cond := [Cond.methodLink RL 179 yL_shows, Cond.static yL_shows, Cond.codeWith yL_shows cL_shows 5 (some .int) [(0, 10, 13, 19), (0, 10, 17, 21)], Cond.methodLink RL 72 yX1_shows, Cond.instanceMethod yX1_shows, Cond.selects RX1 yX1_shows yX1_shows, Cond.code yX1_shows cX1_shows 5 (some .int), Cond.methodLink RL 181 yX2_shows, Cond.instanceMethod yX2_shows, Cond.selects RX2 yX2_shows yX2_shows, Cond.code yX2_shows cX2_shows 5 (some .int), Cond.methodLink RL 182 yL_momentsUntilCollision, Cond.static yL_momentsUntilCollision, Cond.codeWith yL_momentsUntilCollision cL_momentsUntilCollision 5 (some .int) [(0, 10, 13, 19), (0, 10, 17, 21)], Cond.methodLink RL 75 yX1_momentsUntilCollision, Cond.instanceMethod yX1_momentsUntilCollision, Cond.selects RX1 yX1_momentsUntilCollision yX1_momentsUntilCollision, Cond.code yX1_momentsUntilCollision cX1_momentsUntilCollision 4 (some .int), Cond.methodLink RX1 114 yX1_needPair, Cond.instanceMethod yX1_needPair, Cond.selects RX1 yX1_needPair yX1_needPair, Cond.code yX1_needPair cX1_needPair 3 none, Cond.methodLink RX1 117 yX1_collideAt, Cond.instanceMethod yX1_collideAt]
def wsL_law0_r20 : List Cond := [Cond.selects RX1 yX1_collideAt yX1_collideAt, Cond.code yX1_collideAt cX1_collideAt 4 (some .boolean), Cond.methodLink RL 184 yX2_momentsUntilCollision, Cond.instanceMethod yX2_momentsUntilCollision, Cond.selects RX2 yX2_momentsUntilCollision yX2_momentsUntilCollision, Cond.code yX2_momentsUntilCollision cX2_momentsUntilCollision 4 (some .int), Cond.methodLink RX2 90 yX2_wrongPair, Cond.instanceMethod yX2_wrongPair, Cond.selects RX2 yX2_wrongPair yX2_wrongPair, Cond.code yX2_wrongPair cX2_wrongPair 3 (some .int), Cond.methodLink RX2 93 yX2_collide, Cond.instanceMethod yX2_collide, Cond.selects RX2 yX2_collide yX2_collide, Cond.code yX2_collide cX2_collide 4 (some .boolean), Cond.methodLink RL 185 yL_collisionsWithin, Cond.static yL_collisionsWithin, Cond.codeWith yL_collisionsWithin cL_collisionsWithin 6 (some .int) [(0, 12, 15, 19), (0, 12, 19, 21)], Cond.methodLink RL 78 yX1_collisionsWithin, Cond.instanceMethod yX1_collisionsWithin, Cond.selects RX1 yX1_collisionsWithin yX1_collisionsWithin, Cond.code yX1_collisionsWithin cX1_collisionsWithin 6 (some .int), Cond.methodLink RL 187 yX2_collisionsWithin, Cond.instanceMethod yX2_collisionsWithin, Cond.selects RX2 yX2_collisionsWithin yX2_collisionsWithin]
def wsL_law0_r21 : List Cond := [Cond.code yX2_collisionsWithin cX2_collisionsWithin 6 (some .int), Cond.methodLink RL 188 yL_momentsUntilToldApart, Cond.static yL_momentsUntilToldApart, Cond.codeWith yL_momentsUntilToldApart cL_momentsUntilToldApart 5 (some .int) [(0, 10, 13, 19), (0, 10, 17, 21)], Cond.methodLink RL 81 yX1_momentsUntilToldApart, Cond.instanceMethod yX1_momentsUntilToldApart, Cond.selects RX1 yX1_momentsUntilToldApart yX1_momentsUntilToldApart, Cond.code yX1_momentsUntilToldApart cX1_momentsUntilToldApart 3 (some .int), Cond.methodLink RX1 121 yX0_becomeDifference, Cond.instanceMethod yX0_becomeDifference, Cond.selects RX0 yX0_becomeDifference yX0_becomeDifference, Cond.code yX0_becomeDifference cX0_becomeDifference 3 none, Cond.methodLink RX0 26 yX0_appendBeatsOf, Cond.instanceMethod yX0_appendBeatsOf, Cond.selects RX0 yX0_appendBeatsOf yX0_appendBeatsOf, Cond.code yX0_appendBeatsOf cX0_appendBeatsOf 3 none, Cond.methodLink RX0 30 yX0_append, Cond.methodLink RL 190 yX2_momentsUntilToldApart, Cond.instanceMethod yX2_momentsUntilToldApart, Cond.selects RX2 yX2_momentsUntilToldApart yX2_momentsUntilToldApart, Cond.code yX2_momentsUntilToldApart cX2_momentsUntilToldApart 4 (some .int), Cond.constant RX2 96 (60060), Cond.methodLink RL 191 yX1_momentsUntilDark, Cond.instanceMethod yX1_momentsUntilDark]
def wsL_law0_r22 : List Cond := [Cond.selects RX1 yX1_momentsUntilDark yX1_momentsUntilDark, Cond.code yX1_momentsUntilDark cX1_momentsUntilDark 2 (some .int), Cond.methodLink RL 194 yX2_momentsUntilDark, Cond.instanceMethod yX2_momentsUntilDark, Cond.selects RX2 yX2_momentsUntilDark yX2_momentsUntilDark, Cond.code yX2_momentsUntilDark cX2_momentsUntilDark 2 (some .int), Cond.methodLink RL 195 yL_darkWithin, Cond.static yL_darkWithin, Cond.codeWith yL_darkWithin cL_darkWithin 4 (some .int) [(0, 9, 12, 21)], Cond.methodLink RL 84 yX1_darkWithin, Cond.instanceMethod yX1_darkWithin, Cond.selects RX1 yX1_darkWithin yX1_darkWithin, Cond.code yX1_darkWithin cX1_darkWithin 2 (some .int), Cond.methodLink RX1 125 yX1_darkMoments, Cond.instanceMethod yX1_darkMoments, Cond.selects RX1 yX1_darkMoments yX1_darkMoments, Cond.code yX1_darkMoments cX1_darkMoments 5 (some .int), Cond.methodLink RL 197 yX2_darkWithin, Cond.instanceMethod yX2_darkWithin, Cond.selects RX2 yX2_darkWithin yX2_darkWithin, Cond.code yX2_darkWithin cX2_darkWithin 2 (some .int), Cond.methodLink RX2 97 yX2_darkWith, Cond.instanceMethod yX2_darkWith, Cond.selects RX2 yX2_darkWith yX2_darkWith]
def wsL_law0_r23 : List Cond := [Cond.code yX2_darkWith cX2_darkWith 5 (some .int), Cond.methodLink RL 198 yL_brightestWithin, Cond.static yL_brightestWithin, Cond.codeWith yL_brightestWithin cL_brightestWithin 4 (some .int) [(0, 9, 12, 21)], Cond.methodLink RL 87 yX1_brightestWithin, Cond.instanceMethod yX1_brightestWithin, Cond.selects RX1 yX1_brightestWithin yX1_brightestWithin, Cond.code yX1_brightestWithin cX1_brightestWithin 6 (some .int), Cond.methodLink RL 200 yX2_brightestWithin, Cond.instanceMethod yX2_brightestWithin, Cond.selects RX2 yX2_brightestWithin yX2_brightestWithin, Cond.code yX2_brightestWithin cX2_brightestWithin 4 (some .int), Cond.methodLink RL 201 yL_bestCover, Cond.static yL_bestCover, Cond.codeWith yL_bestCover cL_bestCover 4 (some .int) [(0, 9, 12, 21)], Cond.methodLink RL 90 yX1_bestCover, Cond.instanceMethod yX1_bestCover, Cond.selects RX1 yX1_bestCover yX1_bestCover, Cond.code yX1_bestCover cX1_bestCover 6 (some .int), Cond.methodLink RL 203 yX2_bestCover, Cond.instanceMethod yX2_bestCover, Cond.selects RX2 yX2_bestCover yX2_bestCover, Cond.code yX2_bestCover cX2_bestCover 6 (some .int), Cond.methodLink RL 204 yX1_meanBeats]
def wsL_law0_r24 : List Cond := [Cond.instanceMethod yX1_meanBeats, Cond.selects RX1 yX1_meanBeats yX1_meanBeats, Cond.code yX1_meanBeats cX1_meanBeats 3 (some .double), Cond.methodLink RL 208 yX2_meanBeats, Cond.instanceMethod yX2_meanBeats, Cond.selects RX2 yX2_meanBeats yX2_meanBeats, Cond.code yX2_meanBeats cX2_meanBeats 3 (some .double), Cond.methodLink RL 209 yX1_digest, Cond.instanceMethod yX1_digest, Cond.selects RX1 yX1_digest yX1_digest, Cond.code yX1_digest cX1_digest 4 (some .long), Cond.constantLong RX1 129 (1889), Cond.methodLink RX1 131 yX1_mixed, Cond.static yX1_mixed, Cond.code yX1_mixed cX1_mixed 4 (some .long), Cond.constantLong RX1 139 (31), Cond.methodLink RX1 135 yX1_mixedWithLamp, Cond.instanceMethod yX1_mixedWithLamp, Cond.selects RX1 yX1_mixedWithLamp yX1_mixedWithLamp, Cond.code yX1_mixedWithLamp cX1_mixedWithLamp 7 (some .long), Cond.methodLink RL 213 yX2_digest, Cond.instanceMethod yX2_digest, Cond.selects RX2 yX2_digest yX2_digest, Cond.code yX2_digest cX2_digest 5 (some .long)]
def wsL_law0_r25 : List Cond := [Cond.constantLong RX2 100 (58559), Cond.constantLong RX2 102 (31)]
def wsL_law0 : List Cond := (wsL_law0_r1 ++ (wsL_law0_r2 ++ (wsL_law0_r3 ++ (wsL_law0_r4 ++ (wsL_law0_r5 ++ (wsL_law0_r6 ++ (wsL_law0_r7 ++ (wsL_law0_r8 ++ (wsL_law0_r9 ++ (wsL_law0_r10 ++ (wsL_law0_r11 ++ (wsL_law0_r12 ++ (wsL_law0_r13 ++ (wsL_law0_r14 ++ (wsL_law0_r15 ++ (wsL_law0_r16 ++ (wsL_law0_r17 ++ (wsL_law0_r18 ++ (wsL_law0_r19 ++ (wsL_law0_r20 ++ (wsL_law0_r21 ++ (wsL_law0_r22 ++ (wsL_law0_r23 ++ (wsL_law0_r24 ++ wsL_law0_r25)))))))))))))))))))))))) ++ wsX10 ++ wsX20 ++ wsX00 ++ ([] : List Cond)
def wsL_law : List Cond := wsL_law0 ++ (vx_atS RX1 28 "java/lang/IllegalStateException" ["java/lang/RuntimeException", "java/lang/Exception"]).filter goodWord ++ (vx_atS RX1 145 "java/lang/IndexOutOfBoundsException" ["java/lang/RuntimeException", "java/lang/Exception"]).filter goodWord ++ (vx_atS RX1 152 "java/lang/IllegalArgumentException" ["java/lang/RuntimeException", "java/lang/Exception"]).filter goodWord
set_option maxRecDepth 20000 in
theorem wsL_law_in0 : ∀ w ∈ wsL_law0, w ∈ lw_tbl := fun w h => (goodIn_p wsL_law0 [43, 46, 52, 525, 194, 563, 567, 559, 271, 275, 294, 314, 320, 571, 575, 578, 581, 327, 331, 585, 589, 339, 343, 593, 350, 597, 601, 357, 360, 365, 182, 186, 125, 605, 609, 613, 95, 617, 99, 621, 103, 625, 373, 629, 380, 633, 387, 637, 394, 641, 401, 119, 122, 645, 649, 408, 115, 653, 107, 111, 657, 661, 129, 133, 665, 415, 418, 669, 427, 674, 435, 159, 163, 167, 173, 678, 682, 686, 442, 690, 694, 698, 449, 178, 702, 706, 456, 710, 463, 467, 472, 714, 718, 722, 479, 726, 486, 490, 494, 730, 137, 735, 502, 506, 739, 743, 513, 747, 520, 751, 141, 755, 145, 149, 154, 759] (by decide +kernel) (by decide +kernel) w h).1
theorem wsL_law_x0 : ∀ w ∈ (vx_atS RX1 28 "java/lang/IllegalStateException" ["java/lang/RuntimeException", "java/lang/Exception"]).filter goodWord, w ∈ lw_tbl := by decide +kernel
theorem wsL_law_x1 : ∀ w ∈ (vx_atS RX1 145 "java/lang/IndexOutOfBoundsException" ["java/lang/RuntimeException", "java/lang/Exception"]).filter goodWord, w ∈ lw_tbl := by decide +kernel
theorem wsL_law_x2 : ∀ w ∈ (vx_atS RX1 152 "java/lang/IllegalArgumentException" ["java/lang/RuntimeException", "java/lang/Exception"]).filter goodWord, w ∈ lw_tbl := by decide +kernel
theorem wsL_law_in : ∀ w ∈ wsL_law, w ∈ lw_tbl := fun w h => (List.mem_append.mp h).elim (fun h => (List.mem_append.mp h).elim (fun h => (List.mem_append.mp h).elim (fun h => wsL_law_in0 w h) (fun h => wsL_law_x0 w h)) (fun h => wsL_law_x1 w h)) (fun h => wsL_law_x2 w h)
theorem inlX0 : ∀ w ∈ wsX00, w ∈ wsL_law := fun _ h => List.mem_append_left _ (List.mem_append_left _ (List.mem_append_left _ (List.mem_append_left _ (List.mem_append_right _ h))))
theorem inX0 : ∀ w ∈ wsX00, w ∈ lw_tbl := fun w h => wsL_law_in w (inlX0 w h)
theorem inlX1 : ∀ w ∈ wsX10, w ∈ wsL_law := fun _ h => List.mem_append_left _ (List.mem_append_left _ (List.mem_append_left _ (List.mem_append_left _ (List.mem_append_left _ (List.mem_append_left _ (List.mem_append_right _ h))))))
theorem inX1 : ∀ w ∈ wsX10, w ∈ lw_tbl := fun w h => wsL_law_in w (inlX1 w h)
theorem inlX2 : ∀ w ∈ wsX20, w ∈ wsL_law := fun _ h => List.mem_append_left _ (List.mem_append_left _ (List.mem_append_left _ (List.mem_append_left _ (List.mem_append_left _ (List.mem_append_right _ h)))))
theorem inX2 : ∀ w ∈ wsX20, w ∈ lw_tbl := fun w h => wsL_law_in w (inlX2 w h)
theorem inJ0 : ∀ w ∈ wsJ00, w ∈ lw_tbl := by decide +kernel
theorem dX0_init_0 : decode cX0_init 0 = .ok (.aload_n 0, 1) := by decide +kernel
theorem dX0_init_1 : decode cX0_init 1 = .ok (.invokespecial 3, 3) := by decide +kernel
theorem dX0_init_4 : decode cX0_init 4 = .ok (.aload_n 0, 1) := by decide +kernel
theorem dX0_init_5 : decode cX0_init 5 = .ok (.bipush 8, 2) := by decide +kernel
theorem dX0_init_7 : decode cX0_init 7 = .ok (.newarray .int, 2) := by decide +kernel
theorem dX0_init_9 : decode cX0_init 9 = .ok (.putfield 9, 3) := by decide +kernel
theorem dX0_init_12 : decode cX0_init 12 = .ok (.aload_n 0, 1) := by decide +kernel
theorem dX0_init_13 : decode cX0_init 13 = .ok (.bipush 8, 2) := by decide +kernel
theorem dX0_init_15 : decode cX0_init 15 = .ok (.newarray .int, 2) := by decide +kernel
theorem dX0_init_17 : decode cX0_init 17 = .ok (.putfield 15, 3) := by decide +kernel
theorem dX0_init_20 : decode cX0_init 20 = .ok (.return_, 1) := by decide +kernel
theorem dX0_append_0 : decode cX0_append 0 = .ok (.aload_n 0, 1) := by decide +kernel
theorem dX0_append_1 : decode cX0_append 1 = .ok (.getfield 18, 3) := by decide +kernel
theorem dX0_append_4 : decode cX0_append 4 = .ok (.bipush 8, 2) := by decide +kernel
theorem dX0_append_6 : decode cX0_append 6 = .ok (.if_icmp .ge 33, 3) := by decide +kernel
theorem dX0_append_9 : decode cX0_append 9 = .ok (.aload_n 0, 1) := by decide +kernel
theorem dX0_append_10 : decode cX0_append 10 = .ok (.getfield 9, 3) := by decide +kernel
theorem dX0_append_13 : decode cX0_append 13 = .ok (.aload_n 0, 1) := by decide +kernel
theorem dX0_append_14 : decode cX0_append 14 = .ok (.getfield 18, 3) := by decide +kernel
theorem dX0_append_17 : decode cX0_append 17 = .ok (.iload_n 1, 1) := by decide +kernel
theorem dX0_append_18 : decode cX0_append 18 = .ok (.iastore, 1) := by decide +kernel
theorem dX0_append_19 : decode cX0_append 19 = .ok (.aload_n 0, 1) := by decide +kernel
theorem dX0_append_20 : decode cX0_append 20 = .ok (.getfield 15, 3) := by decide +kernel
theorem dX0_append_23 : decode cX0_append 23 = .ok (.aload_n 0, 1) := by decide +kernel
theorem dX0_append_24 : decode cX0_append 24 = .ok (.getfield 18, 3) := by decide +kernel
theorem dX0_append_27 : decode cX0_append 27 = .ok (.iload_n 2, 1) := by decide +kernel
theorem dX0_append_28 : decode cX0_append 28 = .ok (.iastore, 1) := by decide +kernel
theorem dX0_append_29 : decode cX0_append 29 = .ok (.aload_n 0, 1) := by decide +kernel
theorem dX0_append_30 : decode cX0_append 30 = .ok (.dup, 1) := by decide +kernel
theorem dX0_append_31 : decode cX0_append 31 = .ok (.getfield 18, 3) := by decide +kernel
theorem dX0_append_34 : decode cX0_append 34 = .ok (.iconst 1, 1) := by decide +kernel
theorem dX0_append_35 : decode cX0_append 35 = .ok (.iadd, 1) := by decide +kernel
theorem dX0_append_36 : decode cX0_append 36 = .ok (.putfield 18, 3) := by decide +kernel
theorem dX0_append_39 : decode cX0_append 39 = .ok (.return_, 1) := by decide +kernel
theorem dX0_remove_0 : decode cX0_remove 0 = .ok (.iload_n 1, 1) := by decide +kernel
theorem dX0_remove_1 : decode cX0_remove 1 = .ok (.iconst 1, 1) := by decide +kernel
theorem dX0_remove_2 : decode cX0_remove 2 = .ok (.iadd, 1) := by decide +kernel
theorem dX0_remove_3 : decode cX0_remove 3 = .ok (.istore_n 2, 1) := by decide +kernel
theorem dX0_remove_4 : decode cX0_remove 4 = .ok (.iload_n 2, 1) := by decide +kernel
theorem dX0_remove_5 : decode cX0_remove 5 = .ok (.aload_n 0, 1) := by decide +kernel
theorem dX0_remove_6 : decode cX0_remove 6 = .ok (.getfield 18, 3) := by decide +kernel
theorem dX0_remove_9 : decode cX0_remove 9 = .ok (.if_icmp .ge 37, 3) := by decide +kernel
theorem dX0_remove_12 : decode cX0_remove 12 = .ok (.aload_n 0, 1) := by decide +kernel
theorem dX0_remove_13 : decode cX0_remove 13 = .ok (.getfield 9, 3) := by decide +kernel
theorem dX0_remove_16 : decode cX0_remove 16 = .ok (.iload_n 2, 1) := by decide +kernel
theorem dX0_remove_17 : decode cX0_remove 17 = .ok (.iconst 1, 1) := by decide +kernel
theorem dX0_remove_18 : decode cX0_remove 18 = .ok (.isub, 1) := by decide +kernel
theorem dX0_remove_19 : decode cX0_remove 19 = .ok (.aload_n 0, 1) := by decide +kernel
theorem dX0_remove_20 : decode cX0_remove 20 = .ok (.getfield 9, 3) := by decide +kernel
theorem dX0_remove_23 : decode cX0_remove 23 = .ok (.iload_n 2, 1) := by decide +kernel
theorem dX0_remove_24 : decode cX0_remove 24 = .ok (.iaload, 1) := by decide +kernel
theorem dX0_remove_25 : decode cX0_remove 25 = .ok (.iastore, 1) := by decide +kernel
theorem dX0_remove_26 : decode cX0_remove 26 = .ok (.aload_n 0, 1) := by decide +kernel
theorem dX0_remove_27 : decode cX0_remove 27 = .ok (.getfield 15, 3) := by decide +kernel
theorem dX0_remove_30 : decode cX0_remove 30 = .ok (.iload_n 2, 1) := by decide +kernel
theorem dX0_remove_31 : decode cX0_remove 31 = .ok (.iconst 1, 1) := by decide +kernel
theorem dX0_remove_32 : decode cX0_remove 32 = .ok (.isub, 1) := by decide +kernel
theorem dX0_remove_33 : decode cX0_remove 33 = .ok (.aload_n 0, 1) := by decide +kernel
theorem dX0_remove_34 : decode cX0_remove 34 = .ok (.getfield 15, 3) := by decide +kernel
theorem dX0_remove_37 : decode cX0_remove 37 = .ok (.iload_n 2, 1) := by decide +kernel
theorem dX0_remove_38 : decode cX0_remove 38 = .ok (.iaload, 1) := by decide +kernel
theorem dX0_remove_39 : decode cX0_remove 39 = .ok (.iastore, 1) := by decide +kernel
theorem dX0_remove_40 : decode cX0_remove 40 = .ok (.iinc 2 1, 3) := by decide +kernel
theorem dX0_remove_43 : decode cX0_remove 43 = .ok (.goto (-39), 3) := by decide +kernel
theorem dX0_remove_46 : decode cX0_remove 46 = .ok (.aload_n 0, 1) := by decide +kernel
theorem dX0_remove_47 : decode cX0_remove 47 = .ok (.dup, 1) := by decide +kernel
theorem dX0_remove_48 : decode cX0_remove 48 = .ok (.getfield 18, 3) := by decide +kernel
theorem dX0_remove_51 : decode cX0_remove 51 = .ok (.iconst 1, 1) := by decide +kernel
theorem dX0_remove_52 : decode cX0_remove 52 = .ok (.isub, 1) := by decide +kernel
theorem dX0_remove_53 : decode cX0_remove 53 = .ok (.putfield 18, 3) := by decide +kernel
theorem dX0_remove_56 : decode cX0_remove 56 = .ok (.return_, 1) := by decide +kernel
set_option maxRecDepth 20000 in
theorem ggX0_becomeDifference_X0_appendBeatsOf : GoodIn wsX0_becomeDifference wsX0_appendBeatsOf := goodIn_r _ [7, 2, 8, 9, 10, 11, 12, 6, 13, 14, 15, 16, 17, 18] (by decide +kernel) (by decide +kernel)
set_option maxRecDepth 20000 in
theorem gX0_becomeDifference_X0_appendBeatsOf : GoodIn wsX0_becomeDifference (wsV RX0 26 RX0 yX0_appendBeatsOf wsX0_appendBeatsOf) := goodIn_app (goodIn_of _ (by decide +kernel)) ggX0_becomeDifference_X0_appendBeatsOf
theorem dX0_becomeDifference_0 : decode cX0_becomeDifference 0 = .ok (.aload_n 0, 1) := by decide +kernel
theorem dX0_becomeDifference_1 : decode cX0_becomeDifference 1 = .ok (.aload_n 1, 1) := by decide +kernel
theorem dX0_becomeDifference_2 : decode cX0_becomeDifference 2 = .ok (.getfield 22, 3) := by decide +kernel
theorem dX0_becomeDifference_5 : decode cX0_becomeDifference 5 = .ok (.aload_n 2, 1) := by decide +kernel
theorem dX0_becomeDifference_6 : decode cX0_becomeDifference 6 = .ok (.getfield 22, 3) := by decide +kernel
theorem dX0_becomeDifference_9 : decode cX0_becomeDifference 9 = .ok (.if_icmp .eq 7, 3) := by decide +kernel
theorem dX0_becomeDifference_12 : decode cX0_becomeDifference 12 = .ok (.iconst 1, 1) := by decide +kernel
theorem dX0_becomeDifference_13 : decode cX0_becomeDifference 13 = .ok (.goto 4, 3) := by decide +kernel
theorem dX0_becomeDifference_16 : decode cX0_becomeDifference 16 = .ok (.iconst 0, 1) := by decide +kernel
theorem dX0_becomeDifference_17 : decode cX0_becomeDifference 17 = .ok (.putfield 22, 3) := by decide +kernel
theorem dX0_becomeDifference_20 : decode cX0_becomeDifference 20 = .ok (.aload_n 0, 1) := by decide +kernel
theorem dX0_becomeDifference_21 : decode cX0_becomeDifference 21 = .ok (.iconst 0, 1) := by decide +kernel
theorem dX0_becomeDifference_22 : decode cX0_becomeDifference 22 = .ok (.putfield 18, 3) := by decide +kernel
theorem dX0_becomeDifference_25 : decode cX0_becomeDifference 25 = .ok (.aload_n 0, 1) := by decide +kernel
theorem dX0_becomeDifference_26 : decode cX0_becomeDifference 26 = .ok (.aload_n 1, 1) := by decide +kernel
theorem dX0_becomeDifference_27 : decode cX0_becomeDifference 27 = .ok (.invokevirtual 26, 3) := by decide +kernel
theorem dX0_becomeDifference_30 : decode cX0_becomeDifference 30 = .ok (.aload_n 0, 1) := by decide +kernel
theorem dX0_becomeDifference_31 : decode cX0_becomeDifference 31 = .ok (.aload_n 2, 1) := by decide +kernel
theorem dX0_becomeDifference_32 : decode cX0_becomeDifference 32 = .ok (.invokevirtual 26, 3) := by decide +kernel
theorem dX0_becomeDifference_35 : decode cX0_becomeDifference 35 = .ok (.return_, 1) := by decide +kernel
set_option maxRecDepth 20000 in
theorem ggX0_appendBeatsOf_X0_append : GoodIn wsX0_appendBeatsOf wsX0_append := goodIn_r _ [8, 1, 2, 3, 9, 10, 11, 12, 13] (by decide +kernel) (by decide +kernel)
set_option maxRecDepth 20000 in
theorem gX0_appendBeatsOf_X0_append : GoodIn wsX0_appendBeatsOf (wsV RX0 30 RX0 yX0_append wsX0_append) := goodIn_app (goodIn_of _ (by decide +kernel)) ggX0_appendBeatsOf_X0_append
theorem dX0_appendBeatsOf_0 : decode cX0_appendBeatsOf 0 = .ok (.iconst 0, 1) := by decide +kernel
theorem dX0_appendBeatsOf_1 : decode cX0_appendBeatsOf 1 = .ok (.istore_n 2, 1) := by decide +kernel
theorem dX0_appendBeatsOf_2 : decode cX0_appendBeatsOf 2 = .ok (.iload_n 2, 1) := by decide +kernel
theorem dX0_appendBeatsOf_3 : decode cX0_appendBeatsOf 3 = .ok (.aload_n 1, 1) := by decide +kernel
theorem dX0_appendBeatsOf_4 : decode cX0_appendBeatsOf 4 = .ok (.getfield 18, 3) := by decide +kernel
theorem dX0_appendBeatsOf_7 : decode cX0_appendBeatsOf 7 = .ok (.if_icmp .ge 25, 3) := by decide +kernel
theorem dX0_appendBeatsOf_10 : decode cX0_appendBeatsOf 10 = .ok (.aload_n 0, 1) := by decide +kernel
theorem dX0_appendBeatsOf_11 : decode cX0_appendBeatsOf 11 = .ok (.aload_n 1, 1) := by decide +kernel
theorem dX0_appendBeatsOf_12 : decode cX0_appendBeatsOf 12 = .ok (.getfield 9, 3) := by decide +kernel
theorem dX0_appendBeatsOf_15 : decode cX0_appendBeatsOf 15 = .ok (.iload_n 2, 1) := by decide +kernel
theorem dX0_appendBeatsOf_16 : decode cX0_appendBeatsOf 16 = .ok (.iaload, 1) := by decide +kernel
theorem dX0_appendBeatsOf_17 : decode cX0_appendBeatsOf 17 = .ok (.aload_n 1, 1) := by decide +kernel
theorem dX0_appendBeatsOf_18 : decode cX0_appendBeatsOf 18 = .ok (.getfield 15, 3) := by decide +kernel
theorem dX0_appendBeatsOf_21 : decode cX0_appendBeatsOf 21 = .ok (.iload_n 2, 1) := by decide +kernel
theorem dX0_appendBeatsOf_22 : decode cX0_appendBeatsOf 22 = .ok (.iaload, 1) := by decide +kernel
theorem dX0_appendBeatsOf_23 : decode cX0_appendBeatsOf 23 = .ok (.invokevirtual 30, 3) := by decide +kernel
theorem dX0_appendBeatsOf_26 : decode cX0_appendBeatsOf 26 = .ok (.iinc 2 1, 3) := by decide +kernel
theorem dX0_appendBeatsOf_29 : decode cX0_appendBeatsOf 29 = .ok (.goto (-27), 3) := by decide +kernel
theorem dX0_appendBeatsOf_32 : decode cX0_appendBeatsOf 32 = .ok (.return_, 1) := by decide +kernel
theorem dX0_strikes_0 : decode cX0_strikes 0 = .ok (.iconst 0, 1) := by decide +kernel
theorem dX0_strikes_1 : decode cX0_strikes 1 = .ok (.istore_n 2, 1) := by decide +kernel
theorem dX0_strikes_2 : decode cX0_strikes 2 = .ok (.iconst 0, 1) := by decide +kernel
theorem dX0_strikes_3 : decode cX0_strikes 3 = .ok (.istore_n 3, 1) := by decide +kernel
theorem dX0_strikes_4 : decode cX0_strikes 4 = .ok (.iload_n 3, 1) := by decide +kernel
theorem dX0_strikes_5 : decode cX0_strikes 5 = .ok (.aload_n 0, 1) := by decide +kernel
theorem dX0_strikes_6 : decode cX0_strikes 6 = .ok (.getfield 18, 3) := by decide +kernel
theorem dX0_strikes_9 : decode cX0_strikes 9 = .ok (.if_icmp .ge 38, 3) := by decide +kernel
theorem dX0_strikes_12 : decode cX0_strikes 12 = .ok (.aload_n 0, 1) := by decide +kernel
theorem dX0_strikes_13 : decode cX0_strikes 13 = .ok (.getfield 9, 3) := by decide +kernel
theorem dX0_strikes_16 : decode cX0_strikes 16 = .ok (.iload_n 3, 1) := by decide +kernel
theorem dX0_strikes_17 : decode cX0_strikes 17 = .ok (.iaload, 1) := by decide +kernel
theorem dX0_strikes_18 : decode cX0_strikes 18 = .ok (.ifCond .le 23, 3) := by decide +kernel
theorem dX0_strikes_21 : decode cX0_strikes 21 = .ok (.iload_n 1, 1) := by decide +kernel
theorem dX0_strikes_22 : decode cX0_strikes 22 = .ok (.aload_n 0, 1) := by decide +kernel
theorem dX0_strikes_23 : decode cX0_strikes 23 = .ok (.getfield 9, 3) := by decide +kernel
theorem dX0_strikes_26 : decode cX0_strikes 26 = .ok (.iload_n 3, 1) := by decide +kernel
theorem dX0_strikes_27 : decode cX0_strikes 27 = .ok (.iaload, 1) := by decide +kernel
theorem dX0_strikes_28 : decode cX0_strikes 28 = .ok (.irem, 1) := by decide +kernel
theorem dX0_strikes_29 : decode cX0_strikes 29 = .ok (.aload_n 0, 1) := by decide +kernel
theorem dX0_strikes_30 : decode cX0_strikes 30 = .ok (.getfield 15, 3) := by decide +kernel
theorem dX0_strikes_33 : decode cX0_strikes 33 = .ok (.iload_n 3, 1) := by decide +kernel
theorem dX0_strikes_34 : decode cX0_strikes 34 = .ok (.iaload, 1) := by decide +kernel
theorem dX0_strikes_35 : decode cX0_strikes 35 = .ok (.if_icmp .ne 6, 3) := by decide +kernel
theorem dX0_strikes_38 : decode cX0_strikes 38 = .ok (.iinc 2 1, 3) := by decide +kernel
theorem dX0_strikes_41 : decode cX0_strikes 41 = .ok (.iinc 3 1, 3) := by decide +kernel
theorem dX0_strikes_44 : decode cX0_strikes 44 = .ok (.goto (-40), 3) := by decide +kernel
theorem dX0_strikes_47 : decode cX0_strikes 47 = .ok (.iload_n 2, 1) := by decide +kernel
theorem dX0_strikes_48 : decode cX0_strikes 48 = .ok (.ireturn, 1) := by decide +kernel
set_option maxRecDepth 20000 in
theorem ggX0_changesAt_X0_strikes : GoodIn wsX0_changesAt wsX0_strikes := goodIn_r _ [5, 6, 7, 8, 12, 13, 14, 15, 16] (by decide +kernel) (by decide +kernel)
set_option maxRecDepth 20000 in
theorem gX0_changesAt_X0_strikes : GoodIn wsX0_changesAt (wsV RX0 34 RX0 yX0_strikes wsX0_strikes) := goodIn_app (goodIn_of _ (by decide +kernel)) ggX0_changesAt_X0_strikes
set_option maxRecDepth 20000 in
theorem ggX0_changesAt_X0_isOdd : GoodIn wsX0_changesAt wsX0_isOdd := goodIn_r _ [11] (by decide +kernel) (by decide +kernel)
set_option maxRecDepth 20000 in
theorem gX0_changesAt_X0_isOdd : GoodIn wsX0_changesAt (va_wsS RX0 38 yX0_isOdd wsX0_isOdd) := goodIn_app (goodIn_of _ (by decide +kernel)) ggX0_changesAt_X0_isOdd
theorem dX0_changesAt_0 : decode cX0_changesAt 0 = .ok (.aload_n 0, 1) := by decide +kernel
theorem dX0_changesAt_1 : decode cX0_changesAt 1 = .ok (.iload_n 1, 1) := by decide +kernel
theorem dX0_changesAt_2 : decode cX0_changesAt 2 = .ok (.invokevirtual 34, 3) := by decide +kernel
theorem dX0_changesAt_5 : decode cX0_changesAt 5 = .ok (.invokestatic 38, 3) := by decide +kernel
theorem dX0_changesAt_8 : decode cX0_changesAt 8 = .ok (.ireturn, 1) := by decide +kernel
set_option maxRecDepth 20000 in
theorem ggX0_litAt_X0_onAt : GoodIn wsX0_litAt wsX0_onAt := goodIn_r _ [6, 7, 8, 9, 10, 11, 12, 5, 13, 14, 15, 16, 17, 18, 19, 20, 21] (by decide +kernel) (by decide +kernel)
set_option maxRecDepth 20000 in
theorem gX0_litAt_X0_onAt : GoodIn wsX0_litAt (wsV RX0 45 RX0 yX0_onAt wsX0_onAt) := goodIn_app (goodIn_of _ (by decide +kernel)) ggX0_litAt_X0_onAt
theorem dX0_litAt_0 : decode cX0_litAt 0 = .ok (.aload_n 0, 1) := by decide +kernel
theorem dX0_litAt_1 : decode cX0_litAt 1 = .ok (.getfield 42, 3) := by decide +kernel
theorem dX0_litAt_4 : decode cX0_litAt 4 = .ok (.ifCond .ne 15, 3) := by decide +kernel
theorem dX0_litAt_7 : decode cX0_litAt 7 = .ok (.aload_n 0, 1) := by decide +kernel
theorem dX0_litAt_8 : decode cX0_litAt 8 = .ok (.iload_n 1, 1) := by decide +kernel
theorem dX0_litAt_9 : decode cX0_litAt 9 = .ok (.invokevirtual 45, 3) := by decide +kernel
theorem dX0_litAt_12 : decode cX0_litAt 12 = .ok (.ifCond .eq 7, 3) := by decide +kernel
theorem dX0_litAt_15 : decode cX0_litAt 15 = .ok (.iconst 1, 1) := by decide +kernel
theorem dX0_litAt_16 : decode cX0_litAt 16 = .ok (.goto 4, 3) := by decide +kernel
theorem dX0_litAt_19 : decode cX0_litAt 19 = .ok (.iconst 0, 1) := by decide +kernel
theorem dX0_litAt_20 : decode cX0_litAt 20 = .ok (.ireturn, 1) := by decide +kernel
set_option maxRecDepth 20000 in
theorem ggX0_onAt_X0_strikesUpTo : GoodIn wsX0_onAt wsX0_strikesUpTo := goodIn_r _ [8] (by decide +kernel) (by decide +kernel)
set_option maxRecDepth 20000 in
theorem gX0_onAt_X0_strikesUpTo : GoodIn wsX0_onAt (va_wsS RX0 48 yX0_strikesUpTo wsX0_strikesUpTo) := goodIn_app (goodIn_of _ (by decide +kernel)) ggX0_onAt_X0_strikesUpTo
set_option maxRecDepth 20000 in
theorem ggX0_onAt_X0_isOdd : GoodIn wsX0_onAt wsX0_isOdd := goodIn_r _ [11] (by decide +kernel) (by decide +kernel)
set_option maxRecDepth 20000 in
theorem gX0_onAt_X0_isOdd : GoodIn wsX0_onAt (va_wsS RX0 38 yX0_isOdd wsX0_isOdd) := goodIn_app (goodIn_of _ (by decide +kernel)) ggX0_onAt_X0_isOdd
theorem dX0_onAt_0 : decode cX0_onAt 0 = .ok (.iconst 0, 1) := by decide +kernel
theorem dX0_onAt_1 : decode cX0_onAt 1 = .ok (.istore_n 2, 1) := by decide +kernel
theorem dX0_onAt_2 : decode cX0_onAt 2 = .ok (.iconst 0, 1) := by decide +kernel
theorem dX0_onAt_3 : decode cX0_onAt 3 = .ok (.istore_n 3, 1) := by decide +kernel
theorem dX0_onAt_4 : decode cX0_onAt 4 = .ok (.iload_n 3, 1) := by decide +kernel
theorem dX0_onAt_5 : decode cX0_onAt 5 = .ok (.aload_n 0, 1) := by decide +kernel
theorem dX0_onAt_6 : decode cX0_onAt 6 = .ok (.getfield 18, 3) := by decide +kernel
theorem dX0_onAt_9 : decode cX0_onAt 9 = .ok (.if_icmp .ge 28, 3) := by decide +kernel
theorem dX0_onAt_12 : decode cX0_onAt 12 = .ok (.iload_n 2, 1) := by decide +kernel
theorem dX0_onAt_13 : decode cX0_onAt 13 = .ok (.iload_n 1, 1) := by decide +kernel
theorem dX0_onAt_14 : decode cX0_onAt 14 = .ok (.aload_n 0, 1) := by decide +kernel
theorem dX0_onAt_15 : decode cX0_onAt 15 = .ok (.getfield 9, 3) := by decide +kernel
theorem dX0_onAt_18 : decode cX0_onAt 18 = .ok (.iload_n 3, 1) := by decide +kernel
theorem dX0_onAt_19 : decode cX0_onAt 19 = .ok (.iaload, 1) := by decide +kernel
theorem dX0_onAt_20 : decode cX0_onAt 20 = .ok (.aload_n 0, 1) := by decide +kernel
theorem dX0_onAt_21 : decode cX0_onAt 21 = .ok (.getfield 15, 3) := by decide +kernel
theorem dX0_onAt_24 : decode cX0_onAt 24 = .ok (.iload_n 3, 1) := by decide +kernel
theorem dX0_onAt_25 : decode cX0_onAt 25 = .ok (.iaload, 1) := by decide +kernel
theorem dX0_onAt_26 : decode cX0_onAt 26 = .ok (.invokestatic 48, 3) := by decide +kernel
theorem dX0_onAt_29 : decode cX0_onAt 29 = .ok (.iadd, 1) := by decide +kernel
theorem dX0_onAt_30 : decode cX0_onAt 30 = .ok (.istore_n 2, 1) := by decide +kernel
theorem dX0_onAt_31 : decode cX0_onAt 31 = .ok (.iinc 3 1, 3) := by decide +kernel
theorem dX0_onAt_34 : decode cX0_onAt 34 = .ok (.goto (-30), 3) := by decide +kernel
theorem dX0_onAt_37 : decode cX0_onAt 37 = .ok (.aload_n 0, 1) := by decide +kernel
theorem dX0_onAt_38 : decode cX0_onAt 38 = .ok (.getfield 22, 3) := by decide +kernel
theorem dX0_onAt_41 : decode cX0_onAt 41 = .ok (.iload_n 2, 1) := by decide +kernel
theorem dX0_onAt_42 : decode cX0_onAt 42 = .ok (.invokestatic 38, 3) := by decide +kernel
theorem dX0_onAt_45 : decode cX0_onAt 45 = .ok (.if_icmp .eq 7, 3) := by decide +kernel
theorem dX0_onAt_48 : decode cX0_onAt 48 = .ok (.iconst 1, 1) := by decide +kernel
theorem dX0_onAt_49 : decode cX0_onAt 49 = .ok (.goto 4, 3) := by decide +kernel
theorem dX0_onAt_52 : decode cX0_onAt 52 = .ok (.iconst 0, 1) := by decide +kernel
theorem dX0_onAt_53 : decode cX0_onAt 53 = .ok (.ireturn, 1) := by decide +kernel
theorem dX0_strikesUpTo_0 : decode cX0_strikesUpTo 0 = .ok (.iload_n 1, 1) := by decide +kernel
theorem dX0_strikesUpTo_1 : decode cX0_strikesUpTo 1 = .ok (.iconst 1, 1) := by decide +kernel
theorem dX0_strikesUpTo_2 : decode cX0_strikesUpTo 2 = .ok (.if_icmp .lt 8, 3) := by decide +kernel
theorem dX0_strikesUpTo_5 : decode cX0_strikesUpTo 5 = .ok (.iload_n 0, 1) := by decide +kernel
theorem dX0_strikesUpTo_6 : decode cX0_strikesUpTo 6 = .ok (.iload_n 2, 1) := by decide +kernel
theorem dX0_strikesUpTo_7 : decode cX0_strikesUpTo 7 = .ok (.if_icmp .ge 5, 3) := by decide +kernel
theorem dX0_strikesUpTo_10 : decode cX0_strikesUpTo 10 = .ok (.iconst 0, 1) := by decide +kernel
theorem dX0_strikesUpTo_11 : decode cX0_strikesUpTo 11 = .ok (.ireturn, 1) := by decide +kernel
theorem dX0_strikesUpTo_12 : decode cX0_strikesUpTo 12 = .ok (.iload_n 0, 1) := by decide +kernel
theorem dX0_strikesUpTo_13 : decode cX0_strikesUpTo 13 = .ok (.iload_n 2, 1) := by decide +kernel
theorem dX0_strikesUpTo_14 : decode cX0_strikesUpTo 14 = .ok (.isub, 1) := by decide +kernel
theorem dX0_strikesUpTo_15 : decode cX0_strikesUpTo 15 = .ok (.iload_n 1, 1) := by decide +kernel
theorem dX0_strikesUpTo_16 : decode cX0_strikesUpTo 16 = .ok (.idiv, 1) := by decide +kernel
theorem dX0_strikesUpTo_17 : decode cX0_strikesUpTo 17 = .ok (.iconst 1, 1) := by decide +kernel
theorem dX0_strikesUpTo_18 : decode cX0_strikesUpTo 18 = .ok (.iadd, 1) := by decide +kernel
theorem dX0_strikesUpTo_19 : decode cX0_strikesUpTo 19 = .ok (.ireturn, 1) := by decide +kernel
set_option maxRecDepth 20000 in
theorem ggX0_neverChanges_X0_cycle : GoodIn wsX0_neverChanges wsX0_cycle := goodIn_r _ [5, 6, 7, 8, 9, 4, 10, 11, 12, 13, 14, 15, 16, 17, 18, 19, 20, 21, 22, 23, 24, 25, 26, 27, 28, 29, 30, 31, 32] (by decide +kernel) (by decide +kernel)
set_option maxRecDepth 20000 in
theorem gX0_neverChanges_X0_cycle : GoodIn wsX0_neverChanges (wsV RX0 52 RX0 yX0_cycle wsX0_cycle) := goodIn_app (goodIn_of _ (by decide +kernel)) ggX0_neverChanges_X0_cycle
theorem dX0_neverChanges_0 : decode cX0_neverChanges 0 = .ok (.aload_n 0, 1) := by decide +kernel
theorem dX0_neverChanges_1 : decode cX0_neverChanges 1 = .ok (.invokevirtual 52, 3) := by decide +kernel
theorem dX0_neverChanges_4 : decode cX0_neverChanges 4 = .ok (.iconst 1, 1) := by decide +kernel
theorem dX0_neverChanges_5 : decode cX0_neverChanges 5 = .ok (.if_icmp .ne 7, 3) := by decide +kernel
theorem dX0_neverChanges_8 : decode cX0_neverChanges 8 = .ok (.iconst 1, 1) := by decide +kernel
theorem dX0_neverChanges_9 : decode cX0_neverChanges 9 = .ok (.goto 4, 3) := by decide +kernel
theorem dX0_neverChanges_12 : decode cX0_neverChanges 12 = .ok (.iconst 0, 1) := by decide +kernel
theorem dX0_neverChanges_13 : decode cX0_neverChanges 13 = .ok (.ireturn, 1) := by decide +kernel
set_option maxRecDepth 20000 in
theorem ggX0_cycle_X0_changeCycle : GoodIn wsX0_cycle wsX0_changeCycle := goodIn_r _ [6, 7, 8, 9, 5, 10, 11, 12, 13, 24, 25, 26, 27, 28] (by decide +kernel) (by decide +kernel)
set_option maxRecDepth 20000 in
theorem gX0_cycle_X0_changeCycle : GoodIn wsX0_cycle (wsV RX0 56 RX0 yX0_changeCycle wsX0_changeCycle) := goodIn_app (goodIn_of _ (by decide +kernel)) ggX0_cycle_X0_changeCycle
set_option maxRecDepth 20000 in
theorem ggX0_cycle_X0_onAt : GoodIn wsX0_cycle wsX0_onAt := goodIn_r _ [17, 11, 12, 13, 1, 18, 19, 5, 20, 21, 22, 23, 24, 25, 26, 27, 28] (by decide +kernel) (by decide +kernel)
set_option maxRecDepth 20000 in
theorem gX0_cycle_X0_onAt : GoodIn wsX0_cycle (wsV RX0 45 RX0 yX0_onAt wsX0_onAt) := goodIn_app (goodIn_of _ (by decide +kernel)) ggX0_cycle_X0_onAt
theorem dX0_cycle_0 : decode cX0_cycle 0 = .ok (.aload_n 0, 1) := by decide +kernel
theorem dX0_cycle_1 : decode cX0_cycle 1 = .ok (.invokevirtual 56, 3) := by decide +kernel
theorem dX0_cycle_4 : decode cX0_cycle 4 = .ok (.istore_n 1, 1) := by decide +kernel
theorem dX0_cycle_5 : decode cX0_cycle 5 = .ok (.aload_n 0, 1) := by decide +kernel
theorem dX0_cycle_6 : decode cX0_cycle 6 = .ok (.iload_n 1, 1) := by decide +kernel
theorem dX0_cycle_7 : decode cX0_cycle 7 = .ok (.iconst 1, 1) := by decide +kernel
theorem dX0_cycle_8 : decode cX0_cycle 8 = .ok (.isub, 1) := by decide +kernel
theorem dX0_cycle_9 : decode cX0_cycle 9 = .ok (.invokevirtual 45, 3) := by decide +kernel
theorem dX0_cycle_12 : decode cX0_cycle 12 = .ok (.aload_n 0, 1) := by decide +kernel
theorem dX0_cycle_13 : decode cX0_cycle 13 = .ok (.getfield 22, 3) := by decide +kernel
theorem dX0_cycle_16 : decode cX0_cycle 16 = .ok (.if_icmp .ne 7, 3) := by decide +kernel
theorem dX0_cycle_19 : decode cX0_cycle 19 = .ok (.iconst 1, 1) := by decide +kernel
theorem dX0_cycle_20 : decode cX0_cycle 20 = .ok (.goto 4, 3) := by decide +kernel
theorem dX0_cycle_23 : decode cX0_cycle 23 = .ok (.iconst 0, 1) := by decide +kernel
theorem dX0_cycle_24 : decode cX0_cycle 24 = .ok (.istore_n 2, 1) := by decide +kernel
theorem dX0_cycle_25 : decode cX0_cycle 25 = .ok (.iload_n 2, 1) := by decide +kernel
theorem dX0_cycle_26 : decode cX0_cycle 26 = .ok (.ifCond .eq 7, 3) := by decide +kernel
theorem dX0_cycle_29 : decode cX0_cycle 29 = .ok (.iload_n 1, 1) := by decide +kernel
theorem dX0_cycle_30 : decode cX0_cycle 30 = .ok (.goto 6, 3) := by decide +kernel
theorem dX0_cycle_33 : decode cX0_cycle 33 = .ok (.iconst 2, 1) := by decide +kernel
theorem dX0_cycle_34 : decode cX0_cycle 34 = .ok (.iload_n 1, 1) := by decide +kernel
theorem dX0_cycle_35 : decode cX0_cycle 35 = .ok (.imul, 1) := by decide +kernel
theorem dX0_cycle_36 : decode cX0_cycle 36 = .ok (.ireturn, 1) := by decide +kernel
set_option maxRecDepth 20000 in
theorem ggX0_changeCycle_X0_turningRemainders : GoodIn wsX0_changeCycle wsX0_turningRemainders := goodIn_r _ [5, 6, 7, 8, 9, 10, 11, 12, 13] (by decide +kernel) (by decide +kernel)
set_option maxRecDepth 20000 in
theorem gX0_changeCycle_X0_turningRemainders : GoodIn wsX0_changeCycle (wsV RX0 62 RX0 yX0_turningRemainders wsX0_turningRemainders) := goodIn_app (goodIn_of _ (by decide +kernel)) ggX0_changeCycle_X0_turningRemainders
theorem dX0_changeCycle_0 : decode cX0_changeCycle 0 = .ok (.iconst 1, 1) := by decide +kernel
theorem dX0_changeCycle_1 : decode cX0_changeCycle 1 = .ok (.istore_n 1, 1) := by decide +kernel
theorem dX0_changeCycle_2 : decode cX0_changeCycle 2 = .ok (.getstatic 59, 3) := by decide +kernel
theorem dX0_changeCycle_5 : decode cX0_changeCycle 5 = .ok (.astore_n 2, 1) := by decide +kernel
theorem dX0_changeCycle_6 : decode cX0_changeCycle 6 = .ok (.aload_n 2, 1) := by decide +kernel
theorem dX0_changeCycle_7 : decode cX0_changeCycle 7 = .ok (.arraylength, 1) := by decide +kernel
theorem dX0_changeCycle_8 : decode cX0_changeCycle 8 = .ok (.istore_n 3, 1) := by decide +kernel
theorem dX0_changeCycle_9 : decode cX0_changeCycle 9 = .ok (.iconst 0, 1) := by decide +kernel
theorem dX0_changeCycle_10 : decode cX0_changeCycle 10 = .ok (.istore 4, 2) := by decide +kernel
theorem dX0_changeCycle_12 : decode cX0_changeCycle 12 = .ok (.iload 4, 2) := by decide +kernel
theorem dX0_changeCycle_14 : decode cX0_changeCycle 14 = .ok (.iload_n 3, 1) := by decide +kernel
theorem dX0_changeCycle_15 : decode cX0_changeCycle 15 = .ok (.if_icmp .ge 56, 3) := by decide +kernel
theorem dX0_changeCycle_18 : decode cX0_changeCycle 18 = .ok (.aload_n 2, 1) := by decide +kernel
theorem dX0_changeCycle_19 : decode cX0_changeCycle 19 = .ok (.iload 4, 2) := by decide +kernel
theorem dX0_changeCycle_21 : decode cX0_changeCycle 21 = .ok (.iaload, 1) := by decide +kernel
theorem dX0_changeCycle_22 : decode cX0_changeCycle 22 = .ok (.istore 5, 2) := by decide +kernel
theorem dX0_changeCycle_24 : decode cX0_changeCycle 24 = .ok (.aload_n 0, 1) := by decide +kernel
theorem dX0_changeCycle_25 : decode cX0_changeCycle 25 = .ok (.iload 5, 2) := by decide +kernel
theorem dX0_changeCycle_27 : decode cX0_changeCycle 27 = .ok (.invokevirtual 62, 3) := by decide +kernel
theorem dX0_changeCycle_30 : decode cX0_changeCycle 30 = .ok (.istore 6, 2) := by decide +kernel
theorem dX0_changeCycle_32 : decode cX0_changeCycle 32 = .ok (.iload 6, 2) := by decide +kernel
theorem dX0_changeCycle_34 : decode cX0_changeCycle 34 = .ok (.ifCond .eq 14, 3) := by decide +kernel
theorem dX0_changeCycle_37 : decode cX0_changeCycle 37 = .ok (.iload 6, 2) := by decide +kernel
theorem dX0_changeCycle_39 : decode cX0_changeCycle 39 = .ok (.iconst 1, 1) := by decide +kernel
theorem dX0_changeCycle_40 : decode cX0_changeCycle 40 = .ok (.iload 5, 2) := by decide +kernel
theorem dX0_changeCycle_42 : decode cX0_changeCycle 42 = .ok (.ishl, 1) := by decide +kernel
theorem dX0_changeCycle_43 : decode cX0_changeCycle 43 = .ok (.iconst 1, 1) := by decide +kernel
theorem dX0_changeCycle_44 : decode cX0_changeCycle 44 = .ok (.isub, 1) := by decide +kernel
theorem dX0_changeCycle_45 : decode cX0_changeCycle 45 = .ok (.if_icmp .ne 7, 3) := by decide +kernel
theorem dX0_changeCycle_48 : decode cX0_changeCycle 48 = .ok (.iconst 1, 1) := by decide +kernel
theorem dX0_changeCycle_49 : decode cX0_changeCycle 49 = .ok (.goto 4, 3) := by decide +kernel
theorem dX0_changeCycle_52 : decode cX0_changeCycle 52 = .ok (.iconst 0, 1) := by decide +kernel
theorem dX0_changeCycle_53 : decode cX0_changeCycle 53 = .ok (.istore 7, 2) := by decide +kernel
theorem dX0_changeCycle_55 : decode cX0_changeCycle 55 = .ok (.iload 7, 2) := by decide +kernel
theorem dX0_changeCycle_57 : decode cX0_changeCycle 57 = .ok (.ifCond .ne 8, 3) := by decide +kernel
theorem dX0_changeCycle_60 : decode cX0_changeCycle 60 = .ok (.iload_n 1, 1) := by decide +kernel
theorem dX0_changeCycle_61 : decode cX0_changeCycle 61 = .ok (.iload 5, 2) := by decide +kernel
theorem dX0_changeCycle_63 : decode cX0_changeCycle 63 = .ok (.imul, 1) := by decide +kernel
theorem dX0_changeCycle_64 : decode cX0_changeCycle 64 = .ok (.istore_n 1, 1) := by decide +kernel
theorem dX0_changeCycle_65 : decode cX0_changeCycle 65 = .ok (.iinc 4 1, 3) := by decide +kernel
theorem dX0_changeCycle_68 : decode cX0_changeCycle 68 = .ok (.goto (-56), 3) := by decide +kernel
theorem dX0_changeCycle_71 : decode cX0_changeCycle 71 = .ok (.iload_n 1, 1) := by decide +kernel
theorem dX0_changeCycle_72 : decode cX0_changeCycle 72 = .ok (.ireturn, 1) := by decide +kernel
theorem dX0_turningRemainders_0 : decode cX0_turningRemainders 0 = .ok (.iconst 0, 1) := by decide +kernel
theorem dX0_turningRemainders_1 : decode cX0_turningRemainders 1 = .ok (.istore_n 2, 1) := by decide +kernel
theorem dX0_turningRemainders_2 : decode cX0_turningRemainders 2 = .ok (.iconst 0, 1) := by decide +kernel
theorem dX0_turningRemainders_3 : decode cX0_turningRemainders 3 = .ok (.istore_n 3, 1) := by decide +kernel
theorem dX0_turningRemainders_4 : decode cX0_turningRemainders 4 = .ok (.iload_n 3, 1) := by decide +kernel
theorem dX0_turningRemainders_5 : decode cX0_turningRemainders 5 = .ok (.aload_n 0, 1) := by decide +kernel
theorem dX0_turningRemainders_6 : decode cX0_turningRemainders 6 = .ok (.getfield 18, 3) := by decide +kernel
theorem dX0_turningRemainders_9 : decode cX0_turningRemainders 9 = .ok (.if_icmp .ge 30, 3) := by decide +kernel
theorem dX0_turningRemainders_12 : decode cX0_turningRemainders 12 = .ok (.aload_n 0, 1) := by decide +kernel
theorem dX0_turningRemainders_13 : decode cX0_turningRemainders 13 = .ok (.getfield 9, 3) := by decide +kernel
theorem dX0_turningRemainders_16 : decode cX0_turningRemainders 16 = .ok (.iload_n 3, 1) := by decide +kernel
theorem dX0_turningRemainders_17 : decode cX0_turningRemainders 17 = .ok (.iaload, 1) := by decide +kernel
theorem dX0_turningRemainders_18 : decode cX0_turningRemainders 18 = .ok (.iload_n 1, 1) := by decide +kernel
theorem dX0_turningRemainders_19 : decode cX0_turningRemainders 19 = .ok (.if_icmp .ne 14, 3) := by decide +kernel
theorem dX0_turningRemainders_22 : decode cX0_turningRemainders 22 = .ok (.iload_n 2, 1) := by decide +kernel
theorem dX0_turningRemainders_23 : decode cX0_turningRemainders 23 = .ok (.iconst 1, 1) := by decide +kernel
theorem dX0_turningRemainders_24 : decode cX0_turningRemainders 24 = .ok (.aload_n 0, 1) := by decide +kernel
theorem dX0_turningRemainders_25 : decode cX0_turningRemainders 25 = .ok (.getfield 15, 3) := by decide +kernel
theorem dX0_turningRemainders_28 : decode cX0_turningRemainders 28 = .ok (.iload_n 3, 1) := by decide +kernel
theorem dX0_turningRemainders_29 : decode cX0_turningRemainders 29 = .ok (.iaload, 1) := by decide +kernel
theorem dX0_turningRemainders_30 : decode cX0_turningRemainders 30 = .ok (.ishl, 1) := by decide +kernel
theorem dX0_turningRemainders_31 : decode cX0_turningRemainders 31 = .ok (.ixor, 1) := by decide +kernel
theorem dX0_turningRemainders_32 : decode cX0_turningRemainders 32 = .ok (.istore_n 2, 1) := by decide +kernel
theorem dX0_turningRemainders_33 : decode cX0_turningRemainders 33 = .ok (.iinc 3 1, 3) := by decide +kernel
theorem dX0_turningRemainders_36 : decode cX0_turningRemainders 36 = .ok (.goto (-32), 3) := by decide +kernel
theorem dX0_turningRemainders_39 : decode cX0_turningRemainders 39 = .ok (.iload_n 2, 1) := by decide +kernel
theorem dX0_turningRemainders_40 : decode cX0_turningRemainders 40 = .ok (.ireturn, 1) := by decide +kernel
set_option maxRecDepth 20000 in
theorem ggX0_untilChange_X0_changeCycle : GoodIn wsX0_untilChange wsX0_changeCycle := goodIn_r _ [5, 6, 7, 8, 4, 9, 10, 11, 12, 24, 25, 26, 27, 28] (by decide +kernel) (by decide +kernel)
set_option maxRecDepth 20000 in
theorem gX0_untilChange_X0_changeCycle : GoodIn wsX0_untilChange (wsV RX0 56 RX0 yX0_changeCycle wsX0_changeCycle) := goodIn_app (goodIn_of _ (by decide +kernel)) ggX0_untilChange_X0_changeCycle
set_option maxRecDepth 20000 in
theorem ggX0_untilChange_X0_changesAt : GoodIn wsX0_untilChange wsX0_changesAt := goodIn_r _ [16, 17, 18, 19, 4, 20, 10, 11, 12, 21, 22, 23, 24, 25, 26, 27, 28] (by decide +kernel) (by decide +kernel)
set_option maxRecDepth 20000 in
theorem gX0_untilChange_X0_changesAt : GoodIn wsX0_untilChange (wsV RX0 65 RX0 yX0_changesAt wsX0_changesAt) := goodIn_app (goodIn_of _ (by decide +kernel)) ggX0_untilChange_X0_changesAt
theorem dX0_untilChange_0 : decode cX0_untilChange 0 = .ok (.aload_n 0, 1) := by decide +kernel
theorem dX0_untilChange_1 : decode cX0_untilChange 1 = .ok (.invokevirtual 56, 3) := by decide +kernel
theorem dX0_untilChange_4 : decode cX0_untilChange 4 = .ok (.istore_n 2, 1) := by decide +kernel
theorem dX0_untilChange_5 : decode cX0_untilChange 5 = .ok (.iconst 1, 1) := by decide +kernel
theorem dX0_untilChange_6 : decode cX0_untilChange 6 = .ok (.istore_n 3, 1) := by decide +kernel
theorem dX0_untilChange_7 : decode cX0_untilChange 7 = .ok (.iload_n 3, 1) := by decide +kernel
theorem dX0_untilChange_8 : decode cX0_untilChange 8 = .ok (.iload_n 2, 1) := by decide +kernel
theorem dX0_untilChange_9 : decode cX0_untilChange 9 = .ok (.if_icmp .gt 21, 3) := by decide +kernel
theorem dX0_untilChange_12 : decode cX0_untilChange 12 = .ok (.aload_n 0, 1) := by decide +kernel
theorem dX0_untilChange_13 : decode cX0_untilChange 13 = .ok (.iload_n 1, 1) := by decide +kernel
theorem dX0_untilChange_14 : decode cX0_untilChange 14 = .ok (.iload_n 3, 1) := by decide +kernel
theorem dX0_untilChange_15 : decode cX0_untilChange 15 = .ok (.iadd, 1) := by decide +kernel
theorem dX0_untilChange_16 : decode cX0_untilChange 16 = .ok (.invokevirtual 65, 3) := by decide +kernel
theorem dX0_untilChange_19 : decode cX0_untilChange 19 = .ok (.ifCond .eq 5, 3) := by decide +kernel
theorem dX0_untilChange_22 : decode cX0_untilChange 22 = .ok (.iload_n 3, 1) := by decide +kernel
theorem dX0_untilChange_23 : decode cX0_untilChange 23 = .ok (.ireturn, 1) := by decide +kernel
theorem dX0_untilChange_24 : decode cX0_untilChange 24 = .ok (.iinc 3 1, 3) := by decide +kernel
theorem dX0_untilChange_27 : decode cX0_untilChange 27 = .ok (.goto (-20), 3) := by decide +kernel
theorem dX0_untilChange_30 : decode cX0_untilChange 30 = .ok (.iconst (-1), 1) := by decide +kernel
theorem dX0_untilChange_31 : decode cX0_untilChange 31 = .ok (.ireturn, 1) := by decide +kernel
theorem dX0_isOdd_0 : decode cX0_isOdd 0 = .ok (.iload_n 0, 1) := by decide +kernel
theorem dX0_isOdd_1 : decode cX0_isOdd 1 = .ok (.iconst 1, 1) := by decide +kernel
theorem dX0_isOdd_2 : decode cX0_isOdd 2 = .ok (.iand, 1) := by decide +kernel
theorem dX0_isOdd_3 : decode cX0_isOdd 3 = .ok (.iconst 1, 1) := by decide +kernel
theorem dX0_isOdd_4 : decode cX0_isOdd 4 = .ok (.if_icmp .ne 7, 3) := by decide +kernel
theorem dX0_isOdd_7 : decode cX0_isOdd 7 = .ok (.iconst 1, 1) := by decide +kernel
theorem dX0_isOdd_8 : decode cX0_isOdd 8 = .ok (.goto 4, 3) := by decide +kernel
theorem dX0_isOdd_11 : decode cX0_isOdd 11 = .ok (.iconst 0, 1) := by decide +kernel
theorem dX0_isOdd_12 : decode cX0_isOdd 12 = .ok (.ireturn, 1) := by decide +kernel
set_option maxRecDepth 20000 in
theorem ggX1_init_X0_init : GoodIn wsX1_init wsX0_init := goodIn_r _ [10, 11, 2, 3, 12, 13, 14, 20, 21, 22, 23, 24] (by decide +kernel) (by decide +kernel)
set_option maxRecDepth 20000 in
theorem gX1_init_X0_init_n15 : GoodIn wsX1_init (wsX0_init) := ggX1_init_X0_init
theorem dX1_init_0 : decode cX1_init 0 = .ok (.aload_n 0, 1) := by decide +kernel
theorem dX1_init_1 : decode cX1_init 1 = .ok (.invokespecial 1, 3) := by decide +kernel
theorem dX1_init_4 : decode cX1_init 4 = .ok (.aload_n 0, 1) := by decide +kernel
theorem dX1_init_5 : decode cX1_init 5 = .ok (.bipush 8, 2) := by decide +kernel
theorem dX1_init_7 : decode cX1_init 7 = .ok (.anewarray 9, 3) := by decide +kernel
theorem dX1_init_10 : decode cX1_init 10 = .ok (.putfield 11, 3) := by decide +kernel
theorem dX1_init_13 : decode cX1_init 13 = .ok (.iconst 0, 1) := by decide +kernel
theorem dX1_init_14 : decode cX1_init 14 = .ok (.istore_n 1, 1) := by decide +kernel
theorem dX1_init_15 : decode cX1_init 15 = .ok (.iload_n 1, 1) := by decide +kernel
theorem dX1_init_16 : decode cX1_init 16 = .ok (.bipush 8, 2) := by decide +kernel
theorem dX1_init_18 : decode cX1_init 18 = .ok (.if_icmp .ge 22, 3) := by decide +kernel
theorem dX1_init_21 : decode cX1_init 21 = .ok (.aload_n 0, 1) := by decide +kernel
theorem dX1_init_22 : decode cX1_init 22 = .ok (.getfield 11, 3) := by decide +kernel
theorem dX1_init_25 : decode cX1_init 25 = .ok (.iload_n 1, 1) := by decide +kernel
theorem dX1_init_26 : decode cX1_init 26 = .ok (.new 9, 3) := by decide +kernel
theorem dX1_init_29 : decode cX1_init 29 = .ok (.dup, 1) := by decide +kernel
theorem dX1_init_30 : decode cX1_init 30 = .ok (.invokespecial 15, 3) := by decide +kernel
theorem dX1_init_33 : decode cX1_init 33 = .ok (.aastore, 1) := by decide +kernel
theorem dX1_init_34 : decode cX1_init 34 = .ok (.iinc 1 1, 3) := by decide +kernel
theorem dX1_init_37 : decode cX1_init 37 = .ok (.goto (-22), 3) := by decide +kernel
theorem dX1_init_40 : decode cX1_init 40 = .ok (.aload_n 0, 1) := by decide +kernel
theorem dX1_init_41 : decode cX1_init 41 = .ok (.new 9, 3) := by decide +kernel
theorem dX1_init_44 : decode cX1_init 44 = .ok (.dup, 1) := by decide +kernel
theorem dX1_init_45 : decode cX1_init 45 = .ok (.invokespecial 15, 3) := by decide +kernel
theorem dX1_init_48 : decode cX1_init 48 = .ok (.putfield 16, 3) := by decide +kernel
theorem dX1_init_51 : decode cX1_init 51 = .ok (.return_, 1) := by decide +kernel
theorem dX1_addLamp_0 : decode cX1_addLamp 0 = .ok (.aload_n 0, 1) := by decide +kernel
theorem dX1_addLamp_1 : decode cX1_addLamp 1 = .ok (.getfield 20, 3) := by decide +kernel
theorem dX1_addLamp_4 : decode cX1_addLamp 4 = .ok (.bipush 8, 2) := by decide +kernel
theorem dX1_addLamp_6 : decode cX1_addLamp 6 = .ok (.if_icmp .lt 13, 3) := by decide +kernel
theorem dX1_addLamp_9 : decode cX1_addLamp 9 = .ok (.new 24, 3) := by decide +kernel
theorem dX1_addLamp_12 : decode cX1_addLamp 12 = .ok (.dup, 1) := by decide +kernel
theorem dX1_addLamp_13 : decode cX1_addLamp 13 = .ok (.ldc 26, 2) := by decide +kernel
theorem dX1_addLamp_15 : decode cX1_addLamp 15 = .ok (.invokespecial 28, 3) := by decide +kernel
theorem dX1_addLamp_18 : decode cX1_addLamp 18 = .ok (.athrow, 1) := by decide +kernel
theorem dX1_addLamp_19 : decode cX1_addLamp 19 = .ok (.aload_n 0, 1) := by decide +kernel
theorem dX1_addLamp_20 : decode cX1_addLamp 20 = .ok (.getfield 11, 3) := by decide +kernel
theorem dX1_addLamp_23 : decode cX1_addLamp 23 = .ok (.aload_n 0, 1) := by decide +kernel
theorem dX1_addLamp_24 : decode cX1_addLamp 24 = .ok (.getfield 20, 3) := by decide +kernel
theorem dX1_addLamp_27 : decode cX1_addLamp 27 = .ok (.aaload, 1) := by decide +kernel
theorem dX1_addLamp_28 : decode cX1_addLamp 28 = .ok (.iload_n 1, 1) := by decide +kernel
theorem dX1_addLamp_29 : decode cX1_addLamp 29 = .ok (.putfield 31, 3) := by decide +kernel
theorem dX1_addLamp_32 : decode cX1_addLamp 32 = .ok (.aload_n 0, 1) := by decide +kernel
theorem dX1_addLamp_33 : decode cX1_addLamp 33 = .ok (.dup, 1) := by decide +kernel
theorem dX1_addLamp_34 : decode cX1_addLamp 34 = .ok (.getfield 20, 3) := by decide +kernel
theorem dX1_addLamp_37 : decode cX1_addLamp 37 = .ok (.iconst 1, 1) := by decide +kernel
theorem dX1_addLamp_38 : decode cX1_addLamp 38 = .ok (.iadd, 1) := by decide +kernel
theorem dX1_addLamp_39 : decode cX1_addLamp 39 = .ok (.putfield 20, 3) := by decide +kernel
theorem dX1_addLamp_42 : decode cX1_addLamp 42 = .ok (.aload_n 0, 1) := by decide +kernel
theorem dX1_addLamp_43 : decode cX1_addLamp 43 = .ok (.getfield 20, 3) := by decide +kernel
theorem dX1_addLamp_46 : decode cX1_addLamp 46 = .ok (.iconst 1, 1) := by decide +kernel
theorem dX1_addLamp_47 : decode cX1_addLamp 47 = .ok (.isub, 1) := by decide +kernel
theorem dX1_addLamp_48 : decode cX1_addLamp 48 = .ok (.ireturn, 1) := by decide +kernel
set_option maxRecDepth 20000 in
theorem ggX1_addBeat_X1_needLamp : GoodIn wsX1_addBeat wsX1_needLamp := goodIn_ca (goodIn_r _ [8, 9, 10, 11, 29, 30, 31, 32, 33] (by decide +kernel) (by decide +kernel)) (goodIn_sub (fun _ h => List.mem_cons_of_mem _ (List.mem_append_left _ (List.mem_append_right _ h))) (by decide +kernel))
set_option maxRecDepth 20000 in
theorem gX1_addBeat_X1_needLamp : GoodIn wsX1_addBeat (wsV RX1 35 RX1 yX1_needLamp wsX1_needLamp) := goodIn_app (goodIn_of _ (by decide +kernel)) ggX1_addBeat_X1_needLamp
set_option maxRecDepth 20000 in
theorem ggX1_addBeat_X1_needNumber : GoodIn wsX1_addBeat wsX1_needNumber := goodIn_ca (goodIn_r _ [14, 15, 16, 17] (by decide +kernel) (by decide +kernel)) (goodIn_sub (fun _ h => List.mem_cons_of_mem _ (List.mem_append_right _ h)) (by decide +kernel))
set_option maxRecDepth 20000 in
theorem gX1_addBeat_X1_needNumber : GoodIn wsX1_addBeat (va_wsS RX1 39 yX1_needNumber wsX1_needNumber) := goodIn_app (goodIn_of _ (by decide +kernel)) ggX1_addBeat_X1_needNumber
set_option maxRecDepth 20000 in
theorem ggX1_addBeat_X1_needOffset : GoodIn wsX1_addBeat wsX1_needOffset := goodIn_ca (goodIn_r _ [20, 15, 16] (by decide +kernel) (by decide +kernel)) (goodIn_sub (fun _ h => List.mem_cons_of_mem _ (List.mem_append_right _ h)) (by decide +kernel))
set_option maxRecDepth 20000 in
theorem gX1_addBeat_X1_needOffset : GoodIn wsX1_addBeat (va_wsS RX1 42 yX1_needOffset wsX1_needOffset) := goodIn_app (goodIn_of _ (by decide +kernel)) ggX1_addBeat_X1_needOffset
set_option maxRecDepth 20000 in
theorem ggX1_addBeat_X0_append : GoodIn wsX1_addBeat wsX0_append := goodIn_r _ [25, 26, 27, 28, 34, 35, 36, 37, 38] (by decide +kernel) (by decide +kernel)
set_option maxRecDepth 20000 in
theorem gX1_addBeat_X0_append : GoodIn wsX1_addBeat (wsV RX1 51 RX0 yX0_append wsX0_append) := goodIn_app (goodIn_of _ (by decide +kernel)) ggX1_addBeat_X0_append
theorem dX1_addBeat_0 : decode cX1_addBeat 0 = .ok (.aload_n 0, 1) := by decide +kernel
theorem dX1_addBeat_1 : decode cX1_addBeat 1 = .ok (.iload_n 1, 1) := by decide +kernel
theorem dX1_addBeat_2 : decode cX1_addBeat 2 = .ok (.invokevirtual 35, 3) := by decide +kernel
theorem dX1_addBeat_5 : decode cX1_addBeat 5 = .ok (.iload_n 2, 1) := by decide +kernel
theorem dX1_addBeat_6 : decode cX1_addBeat 6 = .ok (.invokestatic 39, 3) := by decide +kernel
theorem dX1_addBeat_9 : decode cX1_addBeat 9 = .ok (.iload_n 3, 1) := by decide +kernel
theorem dX1_addBeat_10 : decode cX1_addBeat 10 = .ok (.iload_n 2, 1) := by decide +kernel
theorem dX1_addBeat_11 : decode cX1_addBeat 11 = .ok (.invokestatic 42, 3) := by decide +kernel
theorem dX1_addBeat_14 : decode cX1_addBeat 14 = .ok (.aload_n 0, 1) := by decide +kernel
theorem dX1_addBeat_15 : decode cX1_addBeat 15 = .ok (.getfield 11, 3) := by decide +kernel
theorem dX1_addBeat_18 : decode cX1_addBeat 18 = .ok (.iload_n 1, 1) := by decide +kernel
theorem dX1_addBeat_19 : decode cX1_addBeat 19 = .ok (.aaload, 1) := by decide +kernel
theorem dX1_addBeat_20 : decode cX1_addBeat 20 = .ok (.astore 4, 2) := by decide +kernel
theorem dX1_addBeat_22 : decode cX1_addBeat 22 = .ok (.aload 4, 2) := by decide +kernel
theorem dX1_addBeat_24 : decode cX1_addBeat 24 = .ok (.getfield 46, 3) := by decide +kernel
theorem dX1_addBeat_27 : decode cX1_addBeat 27 = .ok (.iconst 4, 1) := by decide +kernel
theorem dX1_addBeat_28 : decode cX1_addBeat 28 = .ok (.if_icmp .lt 13, 3) := by decide +kernel
theorem dX1_addBeat_31 : decode cX1_addBeat 31 = .ok (.new 24, 3) := by decide +kernel
theorem dX1_addBeat_34 : decode cX1_addBeat 34 = .ok (.dup, 1) := by decide +kernel
theorem dX1_addBeat_35 : decode cX1_addBeat 35 = .ok (.ldc 49, 2) := by decide +kernel
theorem dX1_addBeat_37 : decode cX1_addBeat 37 = .ok (.invokespecial 28, 3) := by decide +kernel
theorem dX1_addBeat_40 : decode cX1_addBeat 40 = .ok (.athrow, 1) := by decide +kernel
theorem dX1_addBeat_41 : decode cX1_addBeat 41 = .ok (.aload 4, 2) := by decide +kernel
theorem dX1_addBeat_43 : decode cX1_addBeat 43 = .ok (.iload_n 2, 1) := by decide +kernel
theorem dX1_addBeat_44 : decode cX1_addBeat 44 = .ok (.iload_n 3, 1) := by decide +kernel
theorem dX1_addBeat_45 : decode cX1_addBeat 45 = .ok (.invokevirtual 51, 3) := by decide +kernel
theorem dX1_addBeat_48 : decode cX1_addBeat 48 = .ok (.aload 4, 2) := by decide +kernel
theorem dX1_addBeat_50 : decode cX1_addBeat 50 = .ok (.getfield 46, 3) := by decide +kernel
theorem dX1_addBeat_53 : decode cX1_addBeat 53 = .ok (.iconst 1, 1) := by decide +kernel
theorem dX1_addBeat_54 : decode cX1_addBeat 54 = .ok (.isub, 1) := by decide +kernel
theorem dX1_addBeat_55 : decode cX1_addBeat 55 = .ok (.ireturn, 1) := by decide +kernel
set_option maxRecDepth 20000 in
theorem ggX1_moveBeat_X1_needBeat : GoodIn wsX1_moveBeat wsX1_needBeat := goodIn_ca (goodIn_r _ [6, 7, 8, 1, 9, 10, 11, 5, 12, 13, 19, 20, 21, 22, 23, 24, 25, 26, 27, 28] (by decide +kernel) (by decide +kernel)) (goodIn_sub (fun _ h => List.mem_cons_of_mem _ (List.mem_append_left _ (List.mem_append_right _ h))) (by decide +kernel))
set_option maxRecDepth 20000 in
theorem gX1_moveBeat_X1_needBeat : GoodIn wsX1_moveBeat (wsV RX1 54 RX1 yX1_needBeat wsX1_needBeat) := goodIn_app (goodIn_of _ (by decide +kernel)) ggX1_moveBeat_X1_needBeat
set_option maxRecDepth 20000 in
theorem ggX1_moveBeat_X1_needOffset : GoodIn wsX1_moveBeat wsX1_needOffset := goodIn_ca (goodIn_r _ [16, 17, 18] (by decide +kernel) (by decide +kernel)) (goodIn_sub (fun _ h => List.mem_cons_of_mem _ (List.mem_append_right _ h)) (by decide +kernel))
set_option maxRecDepth 20000 in
theorem gX1_moveBeat_X1_needOffset : GoodIn wsX1_moveBeat (va_wsS RX1 42 yX1_needOffset wsX1_needOffset) := goodIn_app (goodIn_of _ (by decide +kernel)) ggX1_moveBeat_X1_needOffset
theorem dX1_moveBeat_0 : decode cX1_moveBeat 0 = .ok (.aload_n 0, 1) := by decide +kernel
theorem dX1_moveBeat_1 : decode cX1_moveBeat 1 = .ok (.iload_n 1, 1) := by decide +kernel
theorem dX1_moveBeat_2 : decode cX1_moveBeat 2 = .ok (.iload_n 2, 1) := by decide +kernel
theorem dX1_moveBeat_3 : decode cX1_moveBeat 3 = .ok (.invokevirtual 54, 3) := by decide +kernel
theorem dX1_moveBeat_6 : decode cX1_moveBeat 6 = .ok (.aload_n 0, 1) := by decide +kernel
theorem dX1_moveBeat_7 : decode cX1_moveBeat 7 = .ok (.getfield 11, 3) := by decide +kernel
theorem dX1_moveBeat_10 : decode cX1_moveBeat 10 = .ok (.iload_n 1, 1) := by decide +kernel
theorem dX1_moveBeat_11 : decode cX1_moveBeat 11 = .ok (.aaload, 1) := by decide +kernel
theorem dX1_moveBeat_12 : decode cX1_moveBeat 12 = .ok (.astore 4, 2) := by decide +kernel
theorem dX1_moveBeat_14 : decode cX1_moveBeat 14 = .ok (.iload_n 3, 1) := by decide +kernel
theorem dX1_moveBeat_15 : decode cX1_moveBeat 15 = .ok (.aload 4, 2) := by decide +kernel
theorem dX1_moveBeat_17 : decode cX1_moveBeat 17 = .ok (.getfield 57, 3) := by decide +kernel
theorem dX1_moveBeat_20 : decode cX1_moveBeat 20 = .ok (.iload_n 2, 1) := by decide +kernel
theorem dX1_moveBeat_21 : decode cX1_moveBeat 21 = .ok (.iaload, 1) := by decide +kernel
theorem dX1_moveBeat_22 : decode cX1_moveBeat 22 = .ok (.invokestatic 42, 3) := by decide +kernel
theorem dX1_moveBeat_25 : decode cX1_moveBeat 25 = .ok (.aload 4, 2) := by decide +kernel
theorem dX1_moveBeat_27 : decode cX1_moveBeat 27 = .ok (.getfield 61, 3) := by decide +kernel
theorem dX1_moveBeat_30 : decode cX1_moveBeat 30 = .ok (.iload_n 2, 1) := by decide +kernel
theorem dX1_moveBeat_31 : decode cX1_moveBeat 31 = .ok (.iaload, 1) := by decide +kernel
theorem dX1_moveBeat_32 : decode cX1_moveBeat 32 = .ok (.istore 5, 2) := by decide +kernel
theorem dX1_moveBeat_34 : decode cX1_moveBeat 34 = .ok (.aload 4, 2) := by decide +kernel
theorem dX1_moveBeat_36 : decode cX1_moveBeat 36 = .ok (.getfield 61, 3) := by decide +kernel
theorem dX1_moveBeat_39 : decode cX1_moveBeat 39 = .ok (.iload_n 2, 1) := by decide +kernel
theorem dX1_moveBeat_40 : decode cX1_moveBeat 40 = .ok (.iload_n 3, 1) := by decide +kernel
theorem dX1_moveBeat_41 : decode cX1_moveBeat 41 = .ok (.iastore, 1) := by decide +kernel
theorem dX1_moveBeat_42 : decode cX1_moveBeat 42 = .ok (.iload 5, 2) := by decide +kernel
theorem dX1_moveBeat_44 : decode cX1_moveBeat 44 = .ok (.ireturn, 1) := by decide +kernel
set_option maxRecDepth 20000 in
theorem ggX1_takeBeat_X1_needBeat : GoodIn wsX1_takeBeat wsX1_needBeat := goodIn_ca (goodIn_r _ [6, 7, 8, 1, 9, 10, 11, 5, 12, 13, 22, 23, 24, 25, 26, 27, 28, 29, 30, 31] (by decide +kernel) (by decide +kernel)) (goodIn_sub (fun _ h => List.mem_cons_of_mem _ (List.mem_append_right _ h)) (by decide +kernel))
set_option maxRecDepth 20000 in
theorem gX1_takeBeat_X1_needBeat : GoodIn wsX1_takeBeat (wsV RX1 54 RX1 yX1_needBeat wsX1_needBeat) := goodIn_app (goodIn_of _ (by decide +kernel)) ggX1_takeBeat_X1_needBeat
set_option maxRecDepth 20000 in
theorem ggX1_takeBeat_X0_remove : GoodIn wsX1_takeBeat wsX0_remove := goodIn_r _ [18, 19, 20, 21, 27, 28, 29, 30, 31] (by decide +kernel) (by decide +kernel)
set_option maxRecDepth 20000 in
theorem gX1_takeBeat_X0_remove : GoodIn wsX1_takeBeat (wsV RX1 64 RX0 yX0_remove wsX0_remove) := goodIn_app (goodIn_of _ (by decide +kernel)) ggX1_takeBeat_X0_remove
theorem dX1_takeBeat_0 : decode cX1_takeBeat 0 = .ok (.aload_n 0, 1) := by decide +kernel
theorem dX1_takeBeat_1 : decode cX1_takeBeat 1 = .ok (.iload_n 1, 1) := by decide +kernel
theorem dX1_takeBeat_2 : decode cX1_takeBeat 2 = .ok (.iload_n 2, 1) := by decide +kernel
theorem dX1_takeBeat_3 : decode cX1_takeBeat 3 = .ok (.invokevirtual 54, 3) := by decide +kernel
theorem dX1_takeBeat_6 : decode cX1_takeBeat 6 = .ok (.aload_n 0, 1) := by decide +kernel
theorem dX1_takeBeat_7 : decode cX1_takeBeat 7 = .ok (.getfield 11, 3) := by decide +kernel
theorem dX1_takeBeat_10 : decode cX1_takeBeat 10 = .ok (.iload_n 1, 1) := by decide +kernel
theorem dX1_takeBeat_11 : decode cX1_takeBeat 11 = .ok (.aaload, 1) := by decide +kernel
theorem dX1_takeBeat_12 : decode cX1_takeBeat 12 = .ok (.astore_n 3, 1) := by decide +kernel
theorem dX1_takeBeat_13 : decode cX1_takeBeat 13 = .ok (.aload_n 3, 1) := by decide +kernel
theorem dX1_takeBeat_14 : decode cX1_takeBeat 14 = .ok (.iload_n 2, 1) := by decide +kernel
theorem dX1_takeBeat_15 : decode cX1_takeBeat 15 = .ok (.invokevirtual 64, 3) := by decide +kernel
theorem dX1_takeBeat_18 : decode cX1_takeBeat 18 = .ok (.aload_n 3, 1) := by decide +kernel
theorem dX1_takeBeat_19 : decode cX1_takeBeat 19 = .ok (.getfield 46, 3) := by decide +kernel
theorem dX1_takeBeat_22 : decode cX1_takeBeat 22 = .ok (.ireturn, 1) := by decide +kernel
set_option maxRecDepth 20000 in
theorem ggX1_turnShutter_X1_needLamp : GoodIn wsX1_turnShutter wsX1_needLamp := goodIn_ca (goodIn_r _ [6, 7, 8, 9, 10, 11, 12, 13, 14] (by decide +kernel) (by decide +kernel)) (goodIn_sub (fun _ h => List.mem_cons_of_mem _ (List.mem_append_right _ h)) (by decide +kernel))
set_option maxRecDepth 20000 in
theorem gX1_turnShutter_X1_needLamp : GoodIn wsX1_turnShutter (wsV RX1 35 RX1 yX1_needLamp wsX1_needLamp) := goodIn_app (goodIn_of _ (by decide +kernel)) ggX1_turnShutter_X1_needLamp
theorem dX1_turnShutter_0 : decode cX1_turnShutter 0 = .ok (.aload_n 0, 1) := by decide +kernel
theorem dX1_turnShutter_1 : decode cX1_turnShutter 1 = .ok (.iload_n 1, 1) := by decide +kernel
theorem dX1_turnShutter_2 : decode cX1_turnShutter 2 = .ok (.invokevirtual 35, 3) := by decide +kernel
theorem dX1_turnShutter_5 : decode cX1_turnShutter 5 = .ok (.aload_n 0, 1) := by decide +kernel
theorem dX1_turnShutter_6 : decode cX1_turnShutter 6 = .ok (.getfield 11, 3) := by decide +kernel
theorem dX1_turnShutter_9 : decode cX1_turnShutter 9 = .ok (.iload_n 1, 1) := by decide +kernel
theorem dX1_turnShutter_10 : decode cX1_turnShutter 10 = .ok (.aaload, 1) := by decide +kernel
theorem dX1_turnShutter_11 : decode cX1_turnShutter 11 = .ok (.astore_n 2, 1) := by decide +kernel
theorem dX1_turnShutter_12 : decode cX1_turnShutter 12 = .ok (.aload_n 2, 1) := by decide +kernel
theorem dX1_turnShutter_13 : decode cX1_turnShutter 13 = .ok (.aload_n 2, 1) := by decide +kernel
theorem dX1_turnShutter_14 : decode cX1_turnShutter 14 = .ok (.getfield 67, 3) := by decide +kernel
theorem dX1_turnShutter_17 : decode cX1_turnShutter 17 = .ok (.ifCond .ne 7, 3) := by decide +kernel
theorem dX1_turnShutter_20 : decode cX1_turnShutter 20 = .ok (.iconst 1, 1) := by decide +kernel
theorem dX1_turnShutter_21 : decode cX1_turnShutter 21 = .ok (.goto 4, 3) := by decide +kernel
theorem dX1_turnShutter_24 : decode cX1_turnShutter 24 = .ok (.iconst 0, 1) := by decide +kernel
theorem dX1_turnShutter_25 : decode cX1_turnShutter 25 = .ok (.putfield 67, 3) := by decide +kernel
theorem dX1_turnShutter_28 : decode cX1_turnShutter 28 = .ok (.aload_n 2, 1) := by decide +kernel
theorem dX1_turnShutter_29 : decode cX1_turnShutter 29 = .ok (.getfield 67, 3) := by decide +kernel
theorem dX1_turnShutter_32 : decode cX1_turnShutter 32 = .ok (.ireturn, 1) := by decide +kernel
set_option maxRecDepth 20000 in
theorem ggX1_pass_X1_needMoments : GoodIn wsX1_pass wsX1_needMoments := goodIn_ca (goodIn_r _ [6, 7, 8] (by decide +kernel) (by decide +kernel)) (goodIn_sub (fun _ h => List.mem_cons_of_mem _ (List.mem_append_right _ h)) (by decide +kernel))
set_option maxRecDepth 20000 in
theorem gX1_pass_X1_needMoments : GoodIn wsX1_pass (va_wsS RX1 70 yX1_needMoments wsX1_needMoments) := goodIn_app (goodIn_of _ (by decide +kernel)) ggX1_pass_X1_needMoments
set_option maxRecDepth 20000 in
theorem ggX1_pass_X1_changesOfLamps : GoodIn wsX1_pass wsX1_changesOfLamps := goodIn_r _ [12, 13, 14, 15, 16, 17, 18, 19, 20, 21, 22, 23, 24, 25, 26, 27, 28, 29, 30, 31, 32, 33, 34, 35, 36, 37, 38, 39] (by decide +kernel) (by decide +kernel)
set_option maxRecDepth 20000 in
theorem gX1_pass_X1_changesOfLamps : GoodIn wsX1_pass (wsV RX1 76 RX1 yX1_changesOfLamps wsX1_changesOfLamps) := goodIn_app (goodIn_of _ (by decide +kernel)) ggX1_pass_X1_changesOfLamps
theorem dX1_pass_0 : decode cX1_pass 0 = .ok (.iload_n 1, 1) := by decide +kernel
theorem dX1_pass_1 : decode cX1_pass 1 = .ok (.sipush 500, 3) := by decide +kernel
theorem dX1_pass_4 : decode cX1_pass 4 = .ok (.invokestatic 70, 3) := by decide +kernel
theorem dX1_pass_7 : decode cX1_pass 7 = .ok (.iconst 0, 1) := by decide +kernel
theorem dX1_pass_8 : decode cX1_pass 8 = .ok (.istore_n 2, 1) := by decide +kernel
theorem dX1_pass_9 : decode cX1_pass 9 = .ok (.iconst 1, 1) := by decide +kernel
theorem dX1_pass_10 : decode cX1_pass 10 = .ok (.istore_n 3, 1) := by decide +kernel
theorem dX1_pass_11 : decode cX1_pass 11 = .ok (.iload_n 3, 1) := by decide +kernel
theorem dX1_pass_12 : decode cX1_pass 12 = .ok (.iload_n 1, 1) := by decide +kernel
theorem dX1_pass_13 : decode cX1_pass 13 = .ok (.if_icmp .gt 22, 3) := by decide +kernel
theorem dX1_pass_16 : decode cX1_pass 16 = .ok (.iload_n 2, 1) := by decide +kernel
theorem dX1_pass_17 : decode cX1_pass 17 = .ok (.aload_n 0, 1) := by decide +kernel
theorem dX1_pass_18 : decode cX1_pass 18 = .ok (.aload_n 0, 1) := by decide +kernel
theorem dX1_pass_19 : decode cX1_pass 19 = .ok (.getfield 73, 3) := by decide +kernel
theorem dX1_pass_22 : decode cX1_pass 22 = .ok (.iload_n 3, 1) := by decide +kernel
theorem dX1_pass_23 : decode cX1_pass 23 = .ok (.iadd, 1) := by decide +kernel
theorem dX1_pass_24 : decode cX1_pass 24 = .ok (.invokevirtual 76, 3) := by decide +kernel
theorem dX1_pass_27 : decode cX1_pass 27 = .ok (.iadd, 1) := by decide +kernel
theorem dX1_pass_28 : decode cX1_pass 28 = .ok (.istore_n 2, 1) := by decide +kernel
theorem dX1_pass_29 : decode cX1_pass 29 = .ok (.iinc 3 1, 3) := by decide +kernel
theorem dX1_pass_32 : decode cX1_pass 32 = .ok (.goto (-21), 3) := by decide +kernel
theorem dX1_pass_35 : decode cX1_pass 35 = .ok (.aload_n 0, 1) := by decide +kernel
theorem dX1_pass_36 : decode cX1_pass 36 = .ok (.dup, 1) := by decide +kernel
theorem dX1_pass_37 : decode cX1_pass 37 = .ok (.getfield 73, 3) := by decide +kernel
theorem dX1_pass_40 : decode cX1_pass 40 = .ok (.iload_n 1, 1) := by decide +kernel
theorem dX1_pass_41 : decode cX1_pass 41 = .ok (.iadd, 1) := by decide +kernel
theorem dX1_pass_42 : decode cX1_pass 42 = .ok (.putfield 73, 3) := by decide +kernel
theorem dX1_pass_45 : decode cX1_pass 45 = .ok (.aload_n 0, 1) := by decide +kernel
theorem dX1_pass_46 : decode cX1_pass 46 = .ok (.dup, 1) := by decide +kernel
theorem dX1_pass_47 : decode cX1_pass 47 = .ok (.getfield 80, 3) := by decide +kernel
theorem dX1_pass_50 : decode cX1_pass 50 = .ok (.iload_n 2, 1) := by decide +kernel
theorem dX1_pass_51 : decode cX1_pass 51 = .ok (.iadd, 1) := by decide +kernel
theorem dX1_pass_52 : decode cX1_pass 52 = .ok (.putfield 80, 3) := by decide +kernel
theorem dX1_pass_55 : decode cX1_pass 55 = .ok (.iload_n 2, 1) := by decide +kernel
theorem dX1_pass_56 : decode cX1_pass 56 = .ok (.ireturn, 1) := by decide +kernel
theorem dX1_lamps_0 : decode cX1_lamps 0 = .ok (.aload_n 0, 1) := by decide +kernel
theorem dX1_lamps_1 : decode cX1_lamps 1 = .ok (.getfield 20, 3) := by decide +kernel
theorem dX1_lamps_4 : decode cX1_lamps 4 = .ok (.ireturn, 1) := by decide +kernel
theorem dX1_now_0 : decode cX1_now 0 = .ok (.aload_n 0, 1) := by decide +kernel
theorem dX1_now_1 : decode cX1_now 1 = .ok (.getfield 73, 3) := by decide +kernel
theorem dX1_now_4 : decode cX1_now 4 = .ok (.ireturn, 1) := by decide +kernel
theorem dX1_changesSeen_0 : decode cX1_changesSeen 0 = .ok (.aload_n 0, 1) := by decide +kernel
theorem dX1_changesSeen_1 : decode cX1_changesSeen 1 = .ok (.getfield 80, 3) := by decide +kernel
theorem dX1_changesSeen_4 : decode cX1_changesSeen 4 = .ok (.ireturn, 1) := by decide +kernel
set_option maxRecDepth 20000 in
theorem ggX1_beatsOf_X1_needLamp : GoodIn wsX1_beatsOf wsX1_needLamp := goodIn_ca (goodIn_r _ [6, 7, 8, 9, 10, 11, 12, 13, 14] (by decide +kernel) (by decide +kernel)) (goodIn_sub (fun _ h => List.mem_cons_of_mem _ (List.mem_append_right _ h)) (by decide +kernel))
set_option maxRecDepth 20000 in
theorem gX1_beatsOf_X1_needLamp : GoodIn wsX1_beatsOf (wsV RX1 35 RX1 yX1_needLamp wsX1_needLamp) := goodIn_app (goodIn_of _ (by decide +kernel)) ggX1_beatsOf_X1_needLamp
theorem dX1_beatsOf_0 : decode cX1_beatsOf 0 = .ok (.aload_n 0, 1) := by decide +kernel
theorem dX1_beatsOf_1 : decode cX1_beatsOf 1 = .ok (.iload_n 1, 1) := by decide +kernel
theorem dX1_beatsOf_2 : decode cX1_beatsOf 2 = .ok (.invokevirtual 35, 3) := by decide +kernel
theorem dX1_beatsOf_5 : decode cX1_beatsOf 5 = .ok (.aload_n 0, 1) := by decide +kernel
theorem dX1_beatsOf_6 : decode cX1_beatsOf 6 = .ok (.getfield 11, 3) := by decide +kernel
theorem dX1_beatsOf_9 : decode cX1_beatsOf 9 = .ok (.iload_n 1, 1) := by decide +kernel
theorem dX1_beatsOf_10 : decode cX1_beatsOf 10 = .ok (.aaload, 1) := by decide +kernel
theorem dX1_beatsOf_11 : decode cX1_beatsOf 11 = .ok (.getfield 46, 3) := by decide +kernel
theorem dX1_beatsOf_14 : decode cX1_beatsOf 14 = .ok (.ireturn, 1) := by decide +kernel
set_option maxRecDepth 20000 in
theorem ggX1_numberOf_X1_needBeat : GoodIn wsX1_numberOf wsX1_needBeat := goodIn_ca (goodIn_r _ [6, 7, 8, 1, 9, 10, 11, 5, 12, 13, 14, 15, 16, 17, 18, 19, 20, 21, 22, 23] (by decide +kernel) (by decide +kernel)) (goodIn_sub (fun _ h => List.mem_cons_of_mem _ (List.mem_append_right _ h)) (by decide +kernel))
set_option maxRecDepth 20000 in
theorem gX1_numberOf_X1_needBeat : GoodIn wsX1_numberOf (wsV RX1 54 RX1 yX1_needBeat wsX1_needBeat) := goodIn_app (goodIn_of _ (by decide +kernel)) ggX1_numberOf_X1_needBeat
theorem dX1_numberOf_0 : decode cX1_numberOf 0 = .ok (.aload_n 0, 1) := by decide +kernel
theorem dX1_numberOf_1 : decode cX1_numberOf 1 = .ok (.iload_n 1, 1) := by decide +kernel
theorem dX1_numberOf_2 : decode cX1_numberOf 2 = .ok (.iload_n 2, 1) := by decide +kernel
theorem dX1_numberOf_3 : decode cX1_numberOf 3 = .ok (.invokevirtual 54, 3) := by decide +kernel
theorem dX1_numberOf_6 : decode cX1_numberOf 6 = .ok (.aload_n 0, 1) := by decide +kernel
theorem dX1_numberOf_7 : decode cX1_numberOf 7 = .ok (.getfield 11, 3) := by decide +kernel
theorem dX1_numberOf_10 : decode cX1_numberOf 10 = .ok (.iload_n 1, 1) := by decide +kernel
theorem dX1_numberOf_11 : decode cX1_numberOf 11 = .ok (.aaload, 1) := by decide +kernel
theorem dX1_numberOf_12 : decode cX1_numberOf 12 = .ok (.getfield 57, 3) := by decide +kernel
theorem dX1_numberOf_15 : decode cX1_numberOf 15 = .ok (.iload_n 2, 1) := by decide +kernel
theorem dX1_numberOf_16 : decode cX1_numberOf 16 = .ok (.iaload, 1) := by decide +kernel
theorem dX1_numberOf_17 : decode cX1_numberOf 17 = .ok (.ireturn, 1) := by decide +kernel
set_option maxRecDepth 20000 in
theorem ggX1_offsetOf_X1_needBeat : GoodIn wsX1_offsetOf wsX1_needBeat := goodIn_ca (goodIn_r _ [6, 7, 8, 1, 9, 10, 11, 5, 12, 13, 14, 15, 16, 17, 18, 19, 20, 21, 22, 23] (by decide +kernel) (by decide +kernel)) (goodIn_sub (fun _ h => List.mem_cons_of_mem _ (List.mem_append_right _ h)) (by decide +kernel))
set_option maxRecDepth 20000 in
theorem gX1_offsetOf_X1_needBeat : GoodIn wsX1_offsetOf (wsV RX1 54 RX1 yX1_needBeat wsX1_needBeat) := goodIn_app (goodIn_of _ (by decide +kernel)) ggX1_offsetOf_X1_needBeat
theorem dX1_offsetOf_0 : decode cX1_offsetOf 0 = .ok (.aload_n 0, 1) := by decide +kernel
theorem dX1_offsetOf_1 : decode cX1_offsetOf 1 = .ok (.iload_n 1, 1) := by decide +kernel
theorem dX1_offsetOf_2 : decode cX1_offsetOf 2 = .ok (.iload_n 2, 1) := by decide +kernel
theorem dX1_offsetOf_3 : decode cX1_offsetOf 3 = .ok (.invokevirtual 54, 3) := by decide +kernel
theorem dX1_offsetOf_6 : decode cX1_offsetOf 6 = .ok (.aload_n 0, 1) := by decide +kernel
theorem dX1_offsetOf_7 : decode cX1_offsetOf 7 = .ok (.getfield 11, 3) := by decide +kernel
theorem dX1_offsetOf_10 : decode cX1_offsetOf 10 = .ok (.iload_n 1, 1) := by decide +kernel
theorem dX1_offsetOf_11 : decode cX1_offsetOf 11 = .ok (.aaload, 1) := by decide +kernel
theorem dX1_offsetOf_12 : decode cX1_offsetOf 12 = .ok (.getfield 61, 3) := by decide +kernel
theorem dX1_offsetOf_15 : decode cX1_offsetOf 15 = .ok (.iload_n 2, 1) := by decide +kernel
theorem dX1_offsetOf_16 : decode cX1_offsetOf 16 = .ok (.iaload, 1) := by decide +kernel
theorem dX1_offsetOf_17 : decode cX1_offsetOf 17 = .ok (.ireturn, 1) := by decide +kernel
set_option maxRecDepth 20000 in
theorem ggX1_isCovered_X1_needLamp : GoodIn wsX1_isCovered wsX1_needLamp := goodIn_ca (goodIn_r _ [6, 7, 8, 9, 10, 11, 12, 13, 14] (by decide +kernel) (by decide +kernel)) (goodIn_sub (fun _ h => List.mem_cons_of_mem _ (List.mem_append_right _ h)) (by decide +kernel))
set_option maxRecDepth 20000 in
theorem gX1_isCovered_X1_needLamp : GoodIn wsX1_isCovered (wsV RX1 35 RX1 yX1_needLamp wsX1_needLamp) := goodIn_app (goodIn_of _ (by decide +kernel)) ggX1_isCovered_X1_needLamp
theorem dX1_isCovered_0 : decode cX1_isCovered 0 = .ok (.aload_n 0, 1) := by decide +kernel
theorem dX1_isCovered_1 : decode cX1_isCovered 1 = .ok (.iload_n 1, 1) := by decide +kernel
theorem dX1_isCovered_2 : decode cX1_isCovered 2 = .ok (.invokevirtual 35, 3) := by decide +kernel
theorem dX1_isCovered_5 : decode cX1_isCovered 5 = .ok (.aload_n 0, 1) := by decide +kernel
theorem dX1_isCovered_6 : decode cX1_isCovered 6 = .ok (.getfield 11, 3) := by decide +kernel
theorem dX1_isCovered_9 : decode cX1_isCovered 9 = .ok (.iload_n 1, 1) := by decide +kernel
theorem dX1_isCovered_10 : decode cX1_isCovered 10 = .ok (.aaload, 1) := by decide +kernel
theorem dX1_isCovered_11 : decode cX1_isCovered 11 = .ok (.getfield 67, 3) := by decide +kernel
theorem dX1_isCovered_14 : decode cX1_isCovered 14 = .ok (.ireturn, 1) := by decide +kernel
set_option maxRecDepth 20000 in
theorem ggX1_isOn_X1_needLamp : GoodIn wsX1_isOn wsX1_needLamp := goodIn_ca (goodIn_r _ [7, 8, 9, 10, 26, 27, 28, 29, 30] (by decide +kernel) (by decide +kernel)) (goodIn_sub (fun _ h => List.mem_cons_of_mem _ (List.mem_append_right _ h)) (by decide +kernel))
set_option maxRecDepth 20000 in
theorem gX1_isOn_X1_needLamp : GoodIn wsX1_isOn (wsV RX1 35 RX1 yX1_needLamp wsX1_needLamp) := goodIn_app (goodIn_of _ (by decide +kernel)) ggX1_isOn_X1_needLamp
set_option maxRecDepth 20000 in
theorem ggX1_isOn_X0_onAt : GoodIn wsX1_isOn wsX0_onAt := goodIn_r _ [15, 16, 17, 18, 19, 20, 21, 14, 22, 23, 24, 25, 31, 32, 33, 34, 35] (by decide +kernel) (by decide +kernel)
set_option maxRecDepth 20000 in
theorem gX1_isOn_X0_onAt : GoodIn wsX1_isOn (wsV RX1 83 RX0 yX0_onAt wsX0_onAt) := goodIn_app (goodIn_of _ (by decide +kernel)) ggX1_isOn_X0_onAt
theorem dX1_isOn_0 : decode cX1_isOn 0 = .ok (.aload_n 0, 1) := by decide +kernel
theorem dX1_isOn_1 : decode cX1_isOn 1 = .ok (.iload_n 1, 1) := by decide +kernel
theorem dX1_isOn_2 : decode cX1_isOn 2 = .ok (.invokevirtual 35, 3) := by decide +kernel
theorem dX1_isOn_5 : decode cX1_isOn 5 = .ok (.aload_n 0, 1) := by decide +kernel
theorem dX1_isOn_6 : decode cX1_isOn 6 = .ok (.getfield 11, 3) := by decide +kernel
theorem dX1_isOn_9 : decode cX1_isOn 9 = .ok (.iload_n 1, 1) := by decide +kernel
theorem dX1_isOn_10 : decode cX1_isOn 10 = .ok (.aaload, 1) := by decide +kernel
theorem dX1_isOn_11 : decode cX1_isOn 11 = .ok (.aload_n 0, 1) := by decide +kernel
theorem dX1_isOn_12 : decode cX1_isOn 12 = .ok (.getfield 73, 3) := by decide +kernel
theorem dX1_isOn_15 : decode cX1_isOn 15 = .ok (.invokevirtual 83, 3) := by decide +kernel
theorem dX1_isOn_18 : decode cX1_isOn 18 = .ok (.ireturn, 1) := by decide +kernel
set_option maxRecDepth 20000 in
theorem ggX1_isLit_X1_needLamp : GoodIn wsX1_isLit wsX1_needLamp := goodIn_ca (goodIn_r _ [7, 8, 9, 10, 31, 32, 33, 34, 35] (by decide +kernel) (by decide +kernel)) (goodIn_sub (fun _ h => List.mem_cons_of_mem _ (List.mem_append_right _ h)) (by decide +kernel))
set_option maxRecDepth 20000 in
theorem gX1_isLit_X1_needLamp : GoodIn wsX1_isLit (wsV RX1 35 RX1 yX1_needLamp wsX1_needLamp) := goodIn_app (goodIn_of _ (by decide +kernel)) ggX1_isLit_X1_needLamp
set_option maxRecDepth 20000 in
theorem ggX1_isLit_X0_litAt : GoodIn wsX1_isLit wsX0_litAt := goodIn_r _ [15, 16, 17, 18, 19, 14, 20, 21, 22, 23, 24, 25, 26, 27, 28, 29, 30, 36, 37, 38, 39, 40] (by decide +kernel) (by decide +kernel)
set_option maxRecDepth 20000 in
theorem gX1_isLit_X0_litAt : GoodIn wsX1_isLit (wsV RX1 87 RX0 yX0_litAt wsX0_litAt) := goodIn_app (goodIn_of _ (by decide +kernel)) ggX1_isLit_X0_litAt
theorem dX1_isLit_0 : decode cX1_isLit 0 = .ok (.aload_n 0, 1) := by decide +kernel
theorem dX1_isLit_1 : decode cX1_isLit 1 = .ok (.iload_n 1, 1) := by decide +kernel
theorem dX1_isLit_2 : decode cX1_isLit 2 = .ok (.invokevirtual 35, 3) := by decide +kernel
theorem dX1_isLit_5 : decode cX1_isLit 5 = .ok (.aload_n 0, 1) := by decide +kernel
theorem dX1_isLit_6 : decode cX1_isLit 6 = .ok (.getfield 11, 3) := by decide +kernel
theorem dX1_isLit_9 : decode cX1_isLit 9 = .ok (.iload_n 1, 1) := by decide +kernel
theorem dX1_isLit_10 : decode cX1_isLit 10 = .ok (.aaload, 1) := by decide +kernel
theorem dX1_isLit_11 : decode cX1_isLit 11 = .ok (.aload_n 0, 1) := by decide +kernel
theorem dX1_isLit_12 : decode cX1_isLit 12 = .ok (.getfield 73, 3) := by decide +kernel
theorem dX1_isLit_15 : decode cX1_isLit 15 = .ok (.invokevirtual 87, 3) := by decide +kernel
theorem dX1_isLit_18 : decode cX1_isLit 18 = .ok (.ireturn, 1) := by decide +kernel
set_option maxRecDepth 20000 in
theorem ggX1_litLamps_X1_litCount : GoodIn wsX1_litLamps wsX1_litCount := goodIn_r _ [6, 7, 8, 9, 10, 11, 12, 13, 14, 15, 16, 17, 18, 19, 20, 21, 22, 23, 24, 25, 26, 27, 28, 29, 30, 31, 32, 33, 34, 35, 36, 37, 38] (by decide +kernel) (by decide +kernel)
set_option maxRecDepth 20000 in
theorem gX1_litLamps_X1_litCount : GoodIn wsX1_litLamps (wsV RX1 90 RX1 yX1_litCount wsX1_litCount) := goodIn_app (goodIn_of _ (by decide +kernel)) ggX1_litLamps_X1_litCount
theorem dX1_litLamps_0 : decode cX1_litLamps 0 = .ok (.aload_n 0, 1) := by decide +kernel
theorem dX1_litLamps_1 : decode cX1_litLamps 1 = .ok (.aload_n 0, 1) := by decide +kernel
theorem dX1_litLamps_2 : decode cX1_litLamps 2 = .ok (.getfield 73, 3) := by decide +kernel
theorem dX1_litLamps_5 : decode cX1_litLamps 5 = .ok (.invokevirtual 90, 3) := by decide +kernel
theorem dX1_litLamps_8 : decode cX1_litLamps 8 = .ok (.ireturn, 1) := by decide +kernel
set_option maxRecDepth 20000 in
theorem ggX1_isDark_X1_darkAt : GoodIn wsX1_isDark wsX1_darkAt := goodIn_r _ [6, 7, 8, 9, 10, 11, 12, 13, 14, 15, 16, 17, 18, 19, 20, 21, 22, 23, 24, 25, 26, 27, 28, 29, 30, 31, 32, 33, 34, 35, 36, 37, 38] (by decide +kernel) (by decide +kernel)
set_option maxRecDepth 20000 in
theorem gX1_isDark_X1_darkAt : GoodIn wsX1_isDark (wsV RX1 93 RX1 yX1_darkAt wsX1_darkAt) := goodIn_app (goodIn_of _ (by decide +kernel)) ggX1_isDark_X1_darkAt
theorem dX1_isDark_0 : decode cX1_isDark 0 = .ok (.aload_n 0, 1) := by decide +kernel
theorem dX1_isDark_1 : decode cX1_isDark 1 = .ok (.aload_n 0, 1) := by decide +kernel
theorem dX1_isDark_2 : decode cX1_isDark 2 = .ok (.getfield 73, 3) := by decide +kernel
theorem dX1_isDark_5 : decode cX1_isDark 5 = .ok (.iconst (-1), 1) := by decide +kernel
theorem dX1_isDark_6 : decode cX1_isDark 6 = .ok (.invokevirtual 93, 3) := by decide +kernel
theorem dX1_isDark_9 : decode cX1_isDark 9 = .ok (.ireturn, 1) := by decide +kernel
set_option maxRecDepth 20000 in
theorem ggX1_isOnAt_X1_needLamp : GoodIn wsX1_isOnAt wsX1_needLamp := goodIn_ca (goodIn_r _ [6, 7, 8, 9, 31, 32, 33, 34, 35] (by decide +kernel) (by decide +kernel)) (goodIn_sub (fun _ h => List.mem_cons_of_mem _ (List.mem_append_left _ (List.mem_append_right _ h))) (by decide +kernel))
set_option maxRecDepth 20000 in
theorem gX1_isOnAt_X1_needLamp : GoodIn wsX1_isOnAt (wsV RX1 35 RX1 yX1_needLamp wsX1_needLamp) := goodIn_app (goodIn_of _ (by decide +kernel)) ggX1_isOnAt_X1_needLamp
set_option maxRecDepth 20000 in
theorem ggX1_isOnAt_X1_needMoment : GoodIn wsX1_isOnAt wsX1_needMoment := goodIn_ca (goodIn_r _ [12, 13, 14, 15] (by decide +kernel) (by decide +kernel)) (goodIn_sub (fun _ h => List.mem_cons_of_mem _ (List.mem_append_right _ h)) (by decide +kernel))
set_option maxRecDepth 20000 in
theorem gX1_isOnAt_X1_needMoment : GoodIn wsX1_isOnAt (va_wsS RX1 97 yX1_needMoment wsX1_needMoment) := goodIn_app (goodIn_of _ (by decide +kernel)) ggX1_isOnAt_X1_needMoment
set_option maxRecDepth 20000 in
theorem ggX1_isOnAt_X0_onAt : GoodIn wsX1_isOnAt wsX0_onAt := goodIn_r _ [20, 21, 22, 23, 24, 25, 26, 19, 27, 28, 29, 30, 36, 37, 38, 39, 40] (by decide +kernel) (by decide +kernel)
set_option maxRecDepth 20000 in
theorem gX1_isOnAt_X0_onAt : GoodIn wsX1_isOnAt (wsV RX1 83 RX0 yX0_onAt wsX0_onAt) := goodIn_app (goodIn_of _ (by decide +kernel)) ggX1_isOnAt_X0_onAt
theorem dX1_isOnAt_0 : decode cX1_isOnAt 0 = .ok (.aload_n 0, 1) := by decide +kernel
theorem dX1_isOnAt_1 : decode cX1_isOnAt 1 = .ok (.iload_n 1, 1) := by decide +kernel
theorem dX1_isOnAt_2 : decode cX1_isOnAt 2 = .ok (.invokevirtual 35, 3) := by decide +kernel
theorem dX1_isOnAt_5 : decode cX1_isOnAt 5 = .ok (.iload_n 2, 1) := by decide +kernel
theorem dX1_isOnAt_6 : decode cX1_isOnAt 6 = .ok (.invokestatic 97, 3) := by decide +kernel
theorem dX1_isOnAt_9 : decode cX1_isOnAt 9 = .ok (.aload_n 0, 1) := by decide +kernel
theorem dX1_isOnAt_10 : decode cX1_isOnAt 10 = .ok (.getfield 11, 3) := by decide +kernel
theorem dX1_isOnAt_13 : decode cX1_isOnAt 13 = .ok (.iload_n 1, 1) := by decide +kernel
theorem dX1_isOnAt_14 : decode cX1_isOnAt 14 = .ok (.aaload, 1) := by decide +kernel
theorem dX1_isOnAt_15 : decode cX1_isOnAt 15 = .ok (.iload_n 2, 1) := by decide +kernel
theorem dX1_isOnAt_16 : decode cX1_isOnAt 16 = .ok (.invokevirtual 83, 3) := by decide +kernel
theorem dX1_isOnAt_19 : decode cX1_isOnAt 19 = .ok (.ireturn, 1) := by decide +kernel
set_option maxRecDepth 20000 in
theorem ggX1_strikesAt_X1_needLamp : GoodIn wsX1_strikesAt wsX1_needLamp := goodIn_ca (goodIn_r _ [6, 7, 8, 9, 24, 25, 26, 27, 28] (by decide +kernel) (by decide +kernel)) (goodIn_sub (fun _ h => List.mem_cons_of_mem _ (List.mem_append_left _ (List.mem_append_right _ h))) (by decide +kernel))
set_option maxRecDepth 20000 in
theorem gX1_strikesAt_X1_needLamp : GoodIn wsX1_strikesAt (wsV RX1 35 RX1 yX1_needLamp wsX1_needLamp) := goodIn_app (goodIn_of _ (by decide +kernel)) ggX1_strikesAt_X1_needLamp
set_option maxRecDepth 20000 in
theorem ggX1_strikesAt_X1_needMoment : GoodIn wsX1_strikesAt wsX1_needMoment := goodIn_ca (goodIn_r _ [12, 13, 14, 15] (by decide +kernel) (by decide +kernel)) (goodIn_sub (fun _ h => List.mem_cons_of_mem _ (List.mem_append_right _ h)) (by decide +kernel))
set_option maxRecDepth 20000 in
theorem gX1_strikesAt_X1_needMoment : GoodIn wsX1_strikesAt (va_wsS RX1 97 yX1_needMoment wsX1_needMoment) := goodIn_app (goodIn_of _ (by decide +kernel)) ggX1_strikesAt_X1_needMoment
set_option maxRecDepth 20000 in
theorem ggX1_strikesAt_X0_strikes : GoodIn wsX1_strikesAt wsX0_strikes := goodIn_r _ [20, 21, 22, 23, 29, 30, 31, 32, 33] (by decide +kernel) (by decide +kernel)
set_option maxRecDepth 20000 in
theorem gX1_strikesAt_X0_strikes : GoodIn wsX1_strikesAt (wsV RX1 100 RX0 yX0_strikes wsX0_strikes) := goodIn_app (goodIn_of _ (by decide +kernel)) ggX1_strikesAt_X0_strikes
theorem dX1_strikesAt_0 : decode cX1_strikesAt 0 = .ok (.aload_n 0, 1) := by decide +kernel
theorem dX1_strikesAt_1 : decode cX1_strikesAt 1 = .ok (.iload_n 1, 1) := by decide +kernel
theorem dX1_strikesAt_2 : decode cX1_strikesAt 2 = .ok (.invokevirtual 35, 3) := by decide +kernel
theorem dX1_strikesAt_5 : decode cX1_strikesAt 5 = .ok (.iload_n 2, 1) := by decide +kernel
theorem dX1_strikesAt_6 : decode cX1_strikesAt 6 = .ok (.invokestatic 97, 3) := by decide +kernel
theorem dX1_strikesAt_9 : decode cX1_strikesAt 9 = .ok (.aload_n 0, 1) := by decide +kernel
theorem dX1_strikesAt_10 : decode cX1_strikesAt 10 = .ok (.getfield 11, 3) := by decide +kernel
theorem dX1_strikesAt_13 : decode cX1_strikesAt 13 = .ok (.iload_n 1, 1) := by decide +kernel
theorem dX1_strikesAt_14 : decode cX1_strikesAt 14 = .ok (.aaload, 1) := by decide +kernel
theorem dX1_strikesAt_15 : decode cX1_strikesAt 15 = .ok (.iload_n 2, 1) := by decide +kernel
theorem dX1_strikesAt_16 : decode cX1_strikesAt 16 = .ok (.invokevirtual 100, 3) := by decide +kernel
theorem dX1_strikesAt_19 : decode cX1_strikesAt 19 = .ok (.ireturn, 1) := by decide +kernel
set_option maxRecDepth 20000 in
theorem ggX1_isSteady_X1_needLamp : GoodIn wsX1_isSteady wsX1_needLamp := goodIn_ca (goodIn_r _ [6, 7, 8, 9, 41, 42, 43, 44, 45] (by decide +kernel) (by decide +kernel)) (goodIn_sub (fun _ h => List.mem_cons_of_mem _ (List.mem_append_right _ h)) (by decide +kernel))
set_option maxRecDepth 20000 in
theorem gX1_isSteady_X1_needLamp : GoodIn wsX1_isSteady (wsV RX1 35 RX1 yX1_needLamp wsX1_needLamp) := goodIn_app (goodIn_of _ (by decide +kernel)) ggX1_isSteady_X1_needLamp
set_option maxRecDepth 20000 in
theorem ggX1_isSteady_X0_neverChanges : GoodIn wsX1_isSteady wsX0_neverChanges := goodIn_r _ [14, 15, 16, 17, 13, 18, 19, 20, 21, 22, 23, 24, 25, 26, 27, 28, 29, 30, 31, 32, 33, 34, 35, 36, 37, 38, 39, 40, 46, 47, 48, 49, 50] (by decide +kernel) (by decide +kernel)
set_option maxRecDepth 20000 in
theorem gX1_isSteady_X0_neverChanges : GoodIn wsX1_isSteady (wsV RX1 103 RX0 yX0_neverChanges wsX0_neverChanges) := goodIn_app (goodIn_of _ (by decide +kernel)) ggX1_isSteady_X0_neverChanges
theorem dX1_isSteady_0 : decode cX1_isSteady 0 = .ok (.aload_n 0, 1) := by decide +kernel
theorem dX1_isSteady_1 : decode cX1_isSteady 1 = .ok (.iload_n 1, 1) := by decide +kernel
theorem dX1_isSteady_2 : decode cX1_isSteady 2 = .ok (.invokevirtual 35, 3) := by decide +kernel
theorem dX1_isSteady_5 : decode cX1_isSteady 5 = .ok (.aload_n 0, 1) := by decide +kernel
theorem dX1_isSteady_6 : decode cX1_isSteady 6 = .ok (.getfield 11, 3) := by decide +kernel
theorem dX1_isSteady_9 : decode cX1_isSteady 9 = .ok (.iload_n 1, 1) := by decide +kernel
theorem dX1_isSteady_10 : decode cX1_isSteady 10 = .ok (.aaload, 1) := by decide +kernel
theorem dX1_isSteady_11 : decode cX1_isSteady 11 = .ok (.invokevirtual 103, 3) := by decide +kernel
theorem dX1_isSteady_14 : decode cX1_isSteady 14 = .ok (.ireturn, 1) := by decide +kernel
set_option maxRecDepth 20000 in
theorem ggX1_cycleOf_X1_needLamp : GoodIn wsX1_cycleOf wsX1_needLamp := goodIn_ca (goodIn_r _ [6, 7, 8, 9, 37, 38, 39, 40, 41] (by decide +kernel) (by decide +kernel)) (goodIn_sub (fun _ h => List.mem_cons_of_mem _ (List.mem_append_right _ h)) (by decide +kernel))
set_option maxRecDepth 20000 in
theorem gX1_cycleOf_X1_needLamp : GoodIn wsX1_cycleOf (wsV RX1 35 RX1 yX1_needLamp wsX1_needLamp) := goodIn_app (goodIn_of _ (by decide +kernel)) ggX1_cycleOf_X1_needLamp
set_option maxRecDepth 20000 in
theorem ggX1_cycleOf_X0_cycle : GoodIn wsX1_cycleOf wsX0_cycle := goodIn_r _ [14, 15, 16, 17, 18, 13, 19, 20, 21, 22, 23, 24, 25, 26, 27, 28, 29, 30, 31, 32, 33, 34, 35, 36, 42, 43, 44, 45, 46] (by decide +kernel) (by decide +kernel)
set_option maxRecDepth 20000 in
theorem gX1_cycleOf_X0_cycle : GoodIn wsX1_cycleOf (wsV RX1 107 RX0 yX0_cycle wsX0_cycle) := goodIn_app (goodIn_of _ (by decide +kernel)) ggX1_cycleOf_X0_cycle
theorem dX1_cycleOf_0 : decode cX1_cycleOf 0 = .ok (.aload_n 0, 1) := by decide +kernel
theorem dX1_cycleOf_1 : decode cX1_cycleOf 1 = .ok (.iload_n 1, 1) := by decide +kernel
theorem dX1_cycleOf_2 : decode cX1_cycleOf 2 = .ok (.invokevirtual 35, 3) := by decide +kernel
theorem dX1_cycleOf_5 : decode cX1_cycleOf 5 = .ok (.aload_n 0, 1) := by decide +kernel
theorem dX1_cycleOf_6 : decode cX1_cycleOf 6 = .ok (.getfield 11, 3) := by decide +kernel
theorem dX1_cycleOf_9 : decode cX1_cycleOf 9 = .ok (.iload_n 1, 1) := by decide +kernel
theorem dX1_cycleOf_10 : decode cX1_cycleOf 10 = .ok (.aaload, 1) := by decide +kernel
theorem dX1_cycleOf_11 : decode cX1_cycleOf 11 = .ok (.invokevirtual 107, 3) := by decide +kernel
theorem dX1_cycleOf_14 : decode cX1_cycleOf 14 = .ok (.ireturn, 1) := by decide +kernel
set_option maxRecDepth 20000 in
theorem ggX1_momentsUntilChange_X1_needLamp : GoodIn wsX1_momentsUntilChange wsX1_needLamp := goodIn_ca (goodIn_r _ [7, 8, 9, 10, 38, 39, 40, 41, 42] (by decide +kernel) (by decide +kernel)) (goodIn_sub (fun _ h => List.mem_cons_of_mem _ (List.mem_append_right _ h)) (by decide +kernel))
set_option maxRecDepth 20000 in
theorem gX1_momentsUntilChange_X1_needLamp : GoodIn wsX1_momentsUntilChange (wsV RX1 35 RX1 yX1_needLamp wsX1_needLamp) := goodIn_app (goodIn_of _ (by decide +kernel)) ggX1_momentsUntilChange_X1_needLamp
set_option maxRecDepth 20000 in
theorem ggX1_momentsUntilChange_X0_untilChange : GoodIn wsX1_momentsUntilChange wsX0_untilChange := goodIn_r _ [15, 16, 17, 18, 14, 19, 20, 21, 22, 23, 24, 25, 26, 27, 28, 29, 30, 31, 32, 33, 34, 35, 36, 37, 43, 44, 45, 46, 47] (by decide +kernel) (by decide +kernel)
set_option maxRecDepth 20000 in
theorem gX1_momentsUntilChange_X0_untilChange : GoodIn wsX1_momentsUntilChange (wsV RX1 111 RX0 yX0_untilChange wsX0_untilChange) := goodIn_app (goodIn_of _ (by decide +kernel)) ggX1_momentsUntilChange_X0_untilChange
theorem dX1_momentsUntilChange_0 : decode cX1_momentsUntilChange 0 = .ok (.aload_n 0, 1) := by decide +kernel
theorem dX1_momentsUntilChange_1 : decode cX1_momentsUntilChange 1 = .ok (.iload_n 1, 1) := by decide +kernel
theorem dX1_momentsUntilChange_2 : decode cX1_momentsUntilChange 2 = .ok (.invokevirtual 35, 3) := by decide +kernel
theorem dX1_momentsUntilChange_5 : decode cX1_momentsUntilChange 5 = .ok (.aload_n 0, 1) := by decide +kernel
theorem dX1_momentsUntilChange_6 : decode cX1_momentsUntilChange 6 = .ok (.getfield 11, 3) := by decide +kernel
theorem dX1_momentsUntilChange_9 : decode cX1_momentsUntilChange 9 = .ok (.iload_n 1, 1) := by decide +kernel
theorem dX1_momentsUntilChange_10 : decode cX1_momentsUntilChange 10 = .ok (.aaload, 1) := by decide +kernel
theorem dX1_momentsUntilChange_11 : decode cX1_momentsUntilChange 11 = .ok (.aload_n 0, 1) := by decide +kernel
theorem dX1_momentsUntilChange_12 : decode cX1_momentsUntilChange 12 = .ok (.getfield 73, 3) := by decide +kernel
theorem dX1_momentsUntilChange_15 : decode cX1_momentsUntilChange 15 = .ok (.invokevirtual 111, 3) := by decide +kernel
theorem dX1_momentsUntilChange_18 : decode cX1_momentsUntilChange 18 = .ok (.ireturn, 1) := by decide +kernel
set_option maxRecDepth 20000 in
theorem ggX1_shows_X1_needLamp : GoodIn wsX1_shows wsX1_needLamp := goodIn_ca (goodIn_r _ [7, 8, 9, 10, 31, 32, 33, 34, 35] (by decide +kernel) (by decide +kernel)) (goodIn_sub (fun _ h => List.mem_cons_of_mem _ (List.mem_append_left _ (List.mem_append_right _ h))) (by decide +kernel))
set_option maxRecDepth 20000 in
theorem gX1_shows_X1_needLamp : GoodIn wsX1_shows (wsV RX1 35 RX1 yX1_needLamp wsX1_needLamp) := goodIn_app (goodIn_of _ (by decide +kernel)) ggX1_shows_X1_needLamp
set_option maxRecDepth 20000 in
theorem ggX1_shows_X1_needMoments : GoodIn wsX1_shows wsX1_needMoments := goodIn_ca (goodIn_r _ [13, 14, 15] (by decide +kernel) (by decide +kernel)) (goodIn_sub (fun _ h => List.mem_cons_of_mem _ (List.mem_append_right _ h)) (by decide +kernel))
set_option maxRecDepth 20000 in
theorem gX1_shows_X1_needMoments : GoodIn wsX1_shows (va_wsS RX1 70 yX1_needMoments wsX1_needMoments) := goodIn_app (goodIn_of _ (by decide +kernel)) ggX1_shows_X1_needMoments
set_option maxRecDepth 20000 in
theorem ggX1_shows_X0_onAt : GoodIn wsX1_shows wsX0_onAt := goodIn_r _ [20, 21, 22, 23, 24, 25, 26, 19, 27, 28, 29, 30, 36, 37, 38, 39, 40] (by decide +kernel) (by decide +kernel)
set_option maxRecDepth 20000 in
theorem gX1_shows_X0_onAt : GoodIn wsX1_shows (wsV RX1 83 RX0 yX0_onAt wsX0_onAt) := goodIn_app (goodIn_of _ (by decide +kernel)) ggX1_shows_X0_onAt
theorem dX1_shows_0 : decode cX1_shows 0 = .ok (.aload_n 0, 1) := by decide +kernel
theorem dX1_shows_1 : decode cX1_shows 1 = .ok (.iload_n 1, 1) := by decide +kernel
theorem dX1_shows_2 : decode cX1_shows 2 = .ok (.invokevirtual 35, 3) := by decide +kernel
theorem dX1_shows_5 : decode cX1_shows 5 = .ok (.iload_n 2, 1) := by decide +kernel
theorem dX1_shows_6 : decode cX1_shows 6 = .ok (.bipush 30, 2) := by decide +kernel
theorem dX1_shows_8 : decode cX1_shows 8 = .ok (.invokestatic 70, 3) := by decide +kernel
theorem dX1_shows_11 : decode cX1_shows 11 = .ok (.iconst 0, 1) := by decide +kernel
theorem dX1_shows_12 : decode cX1_shows 12 = .ok (.istore_n 3, 1) := by decide +kernel
theorem dX1_shows_13 : decode cX1_shows 13 = .ok (.iconst 0, 1) := by decide +kernel
theorem dX1_shows_14 : decode cX1_shows 14 = .ok (.istore 4, 2) := by decide +kernel
theorem dX1_shows_16 : decode cX1_shows 16 = .ok (.iload 4, 2) := by decide +kernel
theorem dX1_shows_18 : decode cX1_shows 18 = .ok (.iload_n 2, 1) := by decide +kernel
theorem dX1_shows_19 : decode cX1_shows 19 = .ok (.if_icmp .ge 38, 3) := by decide +kernel
theorem dX1_shows_22 : decode cX1_shows 22 = .ok (.iconst 2, 1) := by decide +kernel
theorem dX1_shows_23 : decode cX1_shows 23 = .ok (.iload_n 3, 1) := by decide +kernel
theorem dX1_shows_24 : decode cX1_shows 24 = .ok (.imul, 1) := by decide +kernel
theorem dX1_shows_25 : decode cX1_shows 25 = .ok (.aload_n 0, 1) := by decide +kernel
theorem dX1_shows_26 : decode cX1_shows 26 = .ok (.getfield 11, 3) := by decide +kernel
theorem dX1_shows_29 : decode cX1_shows 29 = .ok (.iload_n 1, 1) := by decide +kernel
theorem dX1_shows_30 : decode cX1_shows 30 = .ok (.aaload, 1) := by decide +kernel
theorem dX1_shows_31 : decode cX1_shows 31 = .ok (.aload_n 0, 1) := by decide +kernel
theorem dX1_shows_32 : decode cX1_shows 32 = .ok (.getfield 73, 3) := by decide +kernel
theorem dX1_shows_35 : decode cX1_shows 35 = .ok (.iload 4, 2) := by decide +kernel
theorem dX1_shows_37 : decode cX1_shows 37 = .ok (.iadd, 1) := by decide +kernel
theorem dX1_shows_38 : decode cX1_shows 38 = .ok (.invokevirtual 83, 3) := by decide +kernel
theorem dX1_shows_41 : decode cX1_shows 41 = .ok (.ifCond .eq 7, 3) := by decide +kernel
theorem dX1_shows_44 : decode cX1_shows 44 = .ok (.iconst 1, 1) := by decide +kernel
theorem dX1_shows_45 : decode cX1_shows 45 = .ok (.goto 4, 3) := by decide +kernel
theorem dX1_shows_48 : decode cX1_shows 48 = .ok (.iconst 0, 1) := by decide +kernel
theorem dX1_shows_49 : decode cX1_shows 49 = .ok (.iadd, 1) := by decide +kernel
theorem dX1_shows_50 : decode cX1_shows 50 = .ok (.istore_n 3, 1) := by decide +kernel
theorem dX1_shows_51 : decode cX1_shows 51 = .ok (.iinc 4 1, 3) := by decide +kernel
theorem dX1_shows_54 : decode cX1_shows 54 = .ok (.goto (-38), 3) := by decide +kernel
theorem dX1_shows_57 : decode cX1_shows 57 = .ok (.iload_n 3, 1) := by decide +kernel
theorem dX1_shows_58 : decode cX1_shows 58 = .ok (.ireturn, 1) := by decide +kernel
set_option maxRecDepth 20000 in
theorem ggX1_momentsUntilCollision_X1_needPair : GoodIn wsX1_momentsUntilCollision wsX1_needPair := goodIn_ca (goodIn_ca (goodIn_r _ [6, 7, 8, 9, 10, 11, 5, 12, 13, 14, 15, 36, 37, 38, 39, 40] (by decide +kernel) (by decide +kernel)) (goodIn_sub (fun _ h => List.mem_cons_of_mem _ (List.mem_append_left _ (List.mem_append_right _ h))) (by decide +kernel))) (goodIn_sub (fun _ h => List.mem_cons_of_mem _ (List.mem_append_right _ h)) (by decide +kernel))
set_option maxRecDepth 20000 in
theorem gX1_momentsUntilCollision_X1_needPair : GoodIn wsX1_momentsUntilCollision (wsV RX1 114 RX1 yX1_needPair wsX1_needPair) := goodIn_app (goodIn_of _ (by decide +kernel)) ggX1_momentsUntilCollision_X1_needPair
set_option maxRecDepth 20000 in
theorem ggX1_momentsUntilCollision_X1_collideAt : GoodIn wsX1_momentsUntilCollision wsX1_collideAt := goodIn_r _ [19, 20, 21, 22, 23, 24, 25, 26, 27, 28, 29, 30, 31, 32, 33, 34, 35, 36, 37, 38, 39, 40, 41, 42, 43, 44, 45] (by decide +kernel) (by decide +kernel)
set_option maxRecDepth 20000 in
theorem gX1_momentsUntilCollision_X1_collideAt : GoodIn wsX1_momentsUntilCollision (wsV RX1 117 RX1 yX1_collideAt wsX1_collideAt) := goodIn_app (goodIn_of _ (by decide +kernel)) ggX1_momentsUntilCollision_X1_collideAt
theorem dX1_momentsUntilCollision_0 : decode cX1_momentsUntilCollision 0 = .ok (.aload_n 0, 1) := by decide +kernel
theorem dX1_momentsUntilCollision_1 : decode cX1_momentsUntilCollision 1 = .ok (.iload_n 1, 1) := by decide +kernel
theorem dX1_momentsUntilCollision_2 : decode cX1_momentsUntilCollision 2 = .ok (.iload_n 2, 1) := by decide +kernel
theorem dX1_momentsUntilCollision_3 : decode cX1_momentsUntilCollision 3 = .ok (.invokevirtual 114, 3) := by decide +kernel
theorem dX1_momentsUntilCollision_6 : decode cX1_momentsUntilCollision 6 = .ok (.iconst 1, 1) := by decide +kernel
theorem dX1_momentsUntilCollision_7 : decode cX1_momentsUntilCollision 7 = .ok (.istore_n 3, 1) := by decide +kernel
theorem dX1_momentsUntilCollision_8 : decode cX1_momentsUntilCollision 8 = .ok (.iload_n 3, 1) := by decide +kernel
theorem dX1_momentsUntilCollision_9 : decode cX1_momentsUntilCollision 9 = .ok (.sipush 1000, 3) := by decide +kernel
theorem dX1_momentsUntilCollision_12 : decode cX1_momentsUntilCollision 12 = .ok (.if_icmp .gt 26, 3) := by decide +kernel
theorem dX1_momentsUntilCollision_15 : decode cX1_momentsUntilCollision 15 = .ok (.aload_n 0, 1) := by decide +kernel
theorem dX1_momentsUntilCollision_16 : decode cX1_momentsUntilCollision 16 = .ok (.iload_n 1, 1) := by decide +kernel
theorem dX1_momentsUntilCollision_17 : decode cX1_momentsUntilCollision 17 = .ok (.iload_n 2, 1) := by decide +kernel
theorem dX1_momentsUntilCollision_18 : decode cX1_momentsUntilCollision 18 = .ok (.aload_n 0, 1) := by decide +kernel
theorem dX1_momentsUntilCollision_19 : decode cX1_momentsUntilCollision 19 = .ok (.getfield 73, 3) := by decide +kernel
theorem dX1_momentsUntilCollision_22 : decode cX1_momentsUntilCollision 22 = .ok (.iload_n 3, 1) := by decide +kernel
theorem dX1_momentsUntilCollision_23 : decode cX1_momentsUntilCollision 23 = .ok (.iadd, 1) := by decide +kernel
theorem dX1_momentsUntilCollision_24 : decode cX1_momentsUntilCollision 24 = .ok (.invokevirtual 117, 3) := by decide +kernel
theorem dX1_momentsUntilCollision_27 : decode cX1_momentsUntilCollision 27 = .ok (.ifCond .eq 5, 3) := by decide +kernel
theorem dX1_momentsUntilCollision_30 : decode cX1_momentsUntilCollision 30 = .ok (.iload_n 3, 1) := by decide +kernel
theorem dX1_momentsUntilCollision_31 : decode cX1_momentsUntilCollision 31 = .ok (.ireturn, 1) := by decide +kernel
theorem dX1_momentsUntilCollision_32 : decode cX1_momentsUntilCollision 32 = .ok (.iinc 3 1, 3) := by decide +kernel
theorem dX1_momentsUntilCollision_35 : decode cX1_momentsUntilCollision 35 = .ok (.goto (-27), 3) := by decide +kernel
theorem dX1_momentsUntilCollision_38 : decode cX1_momentsUntilCollision 38 = .ok (.iconst (-1), 1) := by decide +kernel
theorem dX1_momentsUntilCollision_39 : decode cX1_momentsUntilCollision 39 = .ok (.ireturn, 1) := by decide +kernel
set_option maxRecDepth 20000 in
theorem ggX1_collisionsWithin_X1_needPair : GoodIn wsX1_collisionsWithin wsX1_needPair := goodIn_ca (goodIn_ca (goodIn_r _ [6, 7, 8, 9, 10, 11, 5, 12, 13, 14, 15, 39, 40, 41, 42, 43] (by decide +kernel) (by decide +kernel)) (goodIn_sub (fun _ h => List.mem_cons_of_mem _ (List.mem_append_left _ (List.mem_append_right _ h))) (by decide +kernel))) (goodIn_sub (fun _ h => List.mem_cons_of_mem _ (List.mem_append_right _ h)) (by decide +kernel))
set_option maxRecDepth 20000 in
theorem gX1_collisionsWithin_X1_needPair : GoodIn wsX1_collisionsWithin (wsV RX1 114 RX1 yX1_needPair wsX1_needPair) := goodIn_app (goodIn_of _ (by decide +kernel)) ggX1_collisionsWithin_X1_needPair
set_option maxRecDepth 20000 in
theorem ggX1_collisionsWithin_X1_needMoments : GoodIn wsX1_collisionsWithin wsX1_needMoments := goodIn_ca (goodIn_r _ [18, 7, 8] (by decide +kernel) (by decide +kernel)) (goodIn_sub (fun _ h => List.mem_cons_of_mem _ (List.mem_append_left _ (List.mem_append_right _ h))) (by decide +kernel))
set_option maxRecDepth 20000 in
theorem gX1_collisionsWithin_X1_needMoments : GoodIn wsX1_collisionsWithin (va_wsS RX1 70 yX1_needMoments wsX1_needMoments) := goodIn_app (goodIn_of _ (by decide +kernel)) ggX1_collisionsWithin_X1_needMoments
set_option maxRecDepth 20000 in
theorem ggX1_collisionsWithin_X1_collideAt : GoodIn wsX1_collisionsWithin wsX1_collideAt := goodIn_r _ [22, 23, 24, 25, 26, 27, 28, 29, 30, 31, 32, 33, 34, 35, 36, 37, 38, 39, 40, 41, 42, 43, 44, 45, 46, 47, 48] (by decide +kernel) (by decide +kernel)
set_option maxRecDepth 20000 in
theorem gX1_collisionsWithin_X1_collideAt : GoodIn wsX1_collisionsWithin (wsV RX1 117 RX1 yX1_collideAt wsX1_collideAt) := goodIn_app (goodIn_of _ (by decide +kernel)) ggX1_collisionsWithin_X1_collideAt
theorem dX1_collisionsWithin_0 : decode cX1_collisionsWithin 0 = .ok (.aload_n 0, 1) := by decide +kernel
theorem dX1_collisionsWithin_1 : decode cX1_collisionsWithin 1 = .ok (.iload_n 1, 1) := by decide +kernel
theorem dX1_collisionsWithin_2 : decode cX1_collisionsWithin 2 = .ok (.iload_n 2, 1) := by decide +kernel
theorem dX1_collisionsWithin_3 : decode cX1_collisionsWithin 3 = .ok (.invokevirtual 114, 3) := by decide +kernel
theorem dX1_collisionsWithin_6 : decode cX1_collisionsWithin 6 = .ok (.iload_n 3, 1) := by decide +kernel
theorem dX1_collisionsWithin_7 : decode cX1_collisionsWithin 7 = .ok (.sipush 500, 3) := by decide +kernel
theorem dX1_collisionsWithin_10 : decode cX1_collisionsWithin 10 = .ok (.invokestatic 70, 3) := by decide +kernel
theorem dX1_collisionsWithin_13 : decode cX1_collisionsWithin 13 = .ok (.iconst 0, 1) := by decide +kernel
theorem dX1_collisionsWithin_14 : decode cX1_collisionsWithin 14 = .ok (.istore 4, 2) := by decide +kernel
theorem dX1_collisionsWithin_16 : decode cX1_collisionsWithin 16 = .ok (.iconst 1, 1) := by decide +kernel
theorem dX1_collisionsWithin_17 : decode cX1_collisionsWithin 17 = .ok (.istore 5, 2) := by decide +kernel
theorem dX1_collisionsWithin_19 : decode cX1_collisionsWithin 19 = .ok (.iload 5, 2) := by decide +kernel
theorem dX1_collisionsWithin_21 : decode cX1_collisionsWithin 21 = .ok (.iload_n 3, 1) := by decide +kernel
theorem dX1_collisionsWithin_22 : decode cX1_collisionsWithin 22 = .ok (.if_icmp .gt 28, 3) := by decide +kernel
theorem dX1_collisionsWithin_25 : decode cX1_collisionsWithin 25 = .ok (.aload_n 0, 1) := by decide +kernel
theorem dX1_collisionsWithin_26 : decode cX1_collisionsWithin 26 = .ok (.iload_n 1, 1) := by decide +kernel
theorem dX1_collisionsWithin_27 : decode cX1_collisionsWithin 27 = .ok (.iload_n 2, 1) := by decide +kernel
theorem dX1_collisionsWithin_28 : decode cX1_collisionsWithin 28 = .ok (.aload_n 0, 1) := by decide +kernel
theorem dX1_collisionsWithin_29 : decode cX1_collisionsWithin 29 = .ok (.getfield 73, 3) := by decide +kernel
theorem dX1_collisionsWithin_32 : decode cX1_collisionsWithin 32 = .ok (.iload 5, 2) := by decide +kernel
theorem dX1_collisionsWithin_34 : decode cX1_collisionsWithin 34 = .ok (.iadd, 1) := by decide +kernel
theorem dX1_collisionsWithin_35 : decode cX1_collisionsWithin 35 = .ok (.invokevirtual 117, 3) := by decide +kernel
theorem dX1_collisionsWithin_38 : decode cX1_collisionsWithin 38 = .ok (.ifCond .eq 6, 3) := by decide +kernel
theorem dX1_collisionsWithin_41 : decode cX1_collisionsWithin 41 = .ok (.iinc 4 1, 3) := by decide +kernel
theorem dX1_collisionsWithin_44 : decode cX1_collisionsWithin 44 = .ok (.iinc 5 1, 3) := by decide +kernel
theorem dX1_collisionsWithin_47 : decode cX1_collisionsWithin 47 = .ok (.goto (-28), 3) := by decide +kernel
theorem dX1_collisionsWithin_50 : decode cX1_collisionsWithin 50 = .ok (.iload 4, 2) := by decide +kernel
theorem dX1_collisionsWithin_52 : decode cX1_collisionsWithin 52 = .ok (.ireturn, 1) := by decide +kernel
set_option maxRecDepth 20000 in
theorem ggX1_momentsUntilToldApart_X1_needPair : GoodIn wsX1_momentsUntilToldApart wsX1_needPair := goodIn_ca (goodIn_ca (goodIn_r _ [8, 9, 10, 11, 12, 13, 7, 14, 15, 16, 17, 65, 66, 67, 68, 69] (by decide +kernel) (by decide +kernel)) (goodIn_sub (fun _ h => List.mem_cons_of_mem _ (List.mem_append_left _ (List.mem_append_right _ h))) (by decide +kernel))) (goodIn_sub (fun _ h => List.mem_cons_of_mem _ (List.mem_append_right _ h)) (by decide +kernel))
set_option maxRecDepth 20000 in
theorem gX1_momentsUntilToldApart_X1_needPair : GoodIn wsX1_momentsUntilToldApart (wsV RX1 114 RX1 yX1_needPair wsX1_needPair) := goodIn_app (goodIn_of _ (by decide +kernel)) ggX1_momentsUntilToldApart_X1_needPair
set_option maxRecDepth 20000 in
theorem ggX1_momentsUntilToldApart_X0_becomeDifference : GoodIn wsX1_momentsUntilToldApart wsX0_becomeDifference := goodIn_r _ [22, 23, 24, 25, 26, 27, 21, 28, 29, 30, 31, 32, 33, 34, 70, 71, 72, 73, 74] (by decide +kernel) (by decide +kernel)
set_option maxRecDepth 20000 in
theorem gX1_momentsUntilToldApart_X0_becomeDifference : GoodIn wsX1_momentsUntilToldApart (wsV RX1 121 RX0 yX0_becomeDifference wsX0_becomeDifference) := goodIn_app (goodIn_of _ (by decide +kernel)) ggX1_momentsUntilToldApart_X0_becomeDifference
set_option maxRecDepth 20000 in
theorem ggX1_momentsUntilToldApart_X0_onAt : GoodIn wsX1_momentsUntilToldApart wsX0_onAt := goodIn_r _ [38, 24, 29, 30, 23, 39, 40, 21, 41, 42, 43, 44, 70, 71, 72, 73, 74] (by decide +kernel) (by decide +kernel)
set_option maxRecDepth 20000 in
theorem gX1_momentsUntilToldApart_X0_onAt : GoodIn wsX1_momentsUntilToldApart (wsV RX1 83 RX0 yX0_onAt wsX0_onAt) := goodIn_app (goodIn_of _ (by decide +kernel)) ggX1_momentsUntilToldApart_X0_onAt
set_option maxRecDepth 20000 in
theorem ggX1_momentsUntilToldApart_X0_untilChange : GoodIn wsX1_momentsUntilToldApart wsX0_untilChange := goodIn_r _ [48, 49, 50, 51, 21, 52, 53, 54, 55, 56, 24, 29, 30, 57, 58, 59, 60, 61, 62, 63, 64, 42, 43, 44, 70, 71, 72, 73, 74] (by decide +kernel) (by decide +kernel)
set_option maxRecDepth 20000 in
theorem gX1_momentsUntilToldApart_X0_untilChange : GoodIn wsX1_momentsUntilToldApart (wsV RX1 111 RX0 yX0_untilChange wsX0_untilChange) := goodIn_app (goodIn_of _ (by decide +kernel)) ggX1_momentsUntilToldApart_X0_untilChange
theorem dX1_momentsUntilToldApart_0 : decode cX1_momentsUntilToldApart 0 = .ok (.aload_n 0, 1) := by decide +kernel
theorem dX1_momentsUntilToldApart_1 : decode cX1_momentsUntilToldApart 1 = .ok (.iload_n 1, 1) := by decide +kernel
theorem dX1_momentsUntilToldApart_2 : decode cX1_momentsUntilToldApart 2 = .ok (.iload_n 2, 1) := by decide +kernel
theorem dX1_momentsUntilToldApart_3 : decode cX1_momentsUntilToldApart 3 = .ok (.invokevirtual 114, 3) := by decide +kernel
theorem dX1_momentsUntilToldApart_6 : decode cX1_momentsUntilToldApart 6 = .ok (.aload_n 0, 1) := by decide +kernel
theorem dX1_momentsUntilToldApart_7 : decode cX1_momentsUntilToldApart 7 = .ok (.getfield 16, 3) := by decide +kernel
theorem dX1_momentsUntilToldApart_10 : decode cX1_momentsUntilToldApart 10 = .ok (.aload_n 0, 1) := by decide +kernel
theorem dX1_momentsUntilToldApart_11 : decode cX1_momentsUntilToldApart 11 = .ok (.getfield 11, 3) := by decide +kernel
theorem dX1_momentsUntilToldApart_14 : decode cX1_momentsUntilToldApart 14 = .ok (.iload_n 1, 1) := by decide +kernel
theorem dX1_momentsUntilToldApart_15 : decode cX1_momentsUntilToldApart 15 = .ok (.aaload, 1) := by decide +kernel
theorem dX1_momentsUntilToldApart_16 : decode cX1_momentsUntilToldApart 16 = .ok (.aload_n 0, 1) := by decide +kernel
theorem dX1_momentsUntilToldApart_17 : decode cX1_momentsUntilToldApart 17 = .ok (.getfield 11, 3) := by decide +kernel
theorem dX1_momentsUntilToldApart_20 : decode cX1_momentsUntilToldApart 20 = .ok (.iload_n 2, 1) := by decide +kernel
theorem dX1_momentsUntilToldApart_21 : decode cX1_momentsUntilToldApart 21 = .ok (.aaload, 1) := by decide +kernel
theorem dX1_momentsUntilToldApart_22 : decode cX1_momentsUntilToldApart 22 = .ok (.invokevirtual 121, 3) := by decide +kernel
theorem dX1_momentsUntilToldApart_25 : decode cX1_momentsUntilToldApart 25 = .ok (.aload_n 0, 1) := by decide +kernel
theorem dX1_momentsUntilToldApart_26 : decode cX1_momentsUntilToldApart 26 = .ok (.getfield 16, 3) := by decide +kernel
theorem dX1_momentsUntilToldApart_29 : decode cX1_momentsUntilToldApart 29 = .ok (.aload_n 0, 1) := by decide +kernel
theorem dX1_momentsUntilToldApart_30 : decode cX1_momentsUntilToldApart 30 = .ok (.getfield 73, 3) := by decide +kernel
theorem dX1_momentsUntilToldApart_33 : decode cX1_momentsUntilToldApart 33 = .ok (.invokevirtual 83, 3) := by decide +kernel
theorem dX1_momentsUntilToldApart_36 : decode cX1_momentsUntilToldApart 36 = .ok (.ifCond .eq 5, 3) := by decide +kernel
theorem dX1_momentsUntilToldApart_39 : decode cX1_momentsUntilToldApart 39 = .ok (.iconst 0, 1) := by decide +kernel
theorem dX1_momentsUntilToldApart_40 : decode cX1_momentsUntilToldApart 40 = .ok (.ireturn, 1) := by decide +kernel
theorem dX1_momentsUntilToldApart_41 : decode cX1_momentsUntilToldApart 41 = .ok (.aload_n 0, 1) := by decide +kernel
theorem dX1_momentsUntilToldApart_42 : decode cX1_momentsUntilToldApart 42 = .ok (.getfield 16, 3) := by decide +kernel
theorem dX1_momentsUntilToldApart_45 : decode cX1_momentsUntilToldApart 45 = .ok (.aload_n 0, 1) := by decide +kernel
theorem dX1_momentsUntilToldApart_46 : decode cX1_momentsUntilToldApart 46 = .ok (.getfield 73, 3) := by decide +kernel
theorem dX1_momentsUntilToldApart_49 : decode cX1_momentsUntilToldApart 49 = .ok (.invokevirtual 111, 3) := by decide +kernel
theorem dX1_momentsUntilToldApart_52 : decode cX1_momentsUntilToldApart 52 = .ok (.ireturn, 1) := by decide +kernel
set_option maxRecDepth 20000 in
theorem ggX1_momentsUntilDark_X1_darkAt : GoodIn wsX1_momentsUntilDark wsX1_darkAt := goodIn_r _ [6, 7, 8, 9, 10, 11, 12, 13, 14, 15, 16, 17, 18, 19, 20, 21, 22, 23, 24, 25, 26, 27, 28, 29, 30, 31, 32, 33, 34, 35, 36, 37, 38] (by decide +kernel) (by decide +kernel)
set_option maxRecDepth 20000 in
theorem gX1_momentsUntilDark_X1_darkAt : GoodIn wsX1_momentsUntilDark (wsV RX1 93 RX1 yX1_darkAt wsX1_darkAt) := goodIn_app (goodIn_of _ (by decide +kernel)) ggX1_momentsUntilDark_X1_darkAt
theorem dX1_momentsUntilDark_0 : decode cX1_momentsUntilDark 0 = .ok (.iconst 0, 1) := by decide +kernel
theorem dX1_momentsUntilDark_1 : decode cX1_momentsUntilDark 1 = .ok (.istore_n 1, 1) := by decide +kernel
theorem dX1_momentsUntilDark_2 : decode cX1_momentsUntilDark 2 = .ok (.iload_n 1, 1) := by decide +kernel
theorem dX1_momentsUntilDark_3 : decode cX1_momentsUntilDark 3 = .ok (.sipush 2000, 3) := by decide +kernel
theorem dX1_momentsUntilDark_6 : decode cX1_momentsUntilDark 6 = .ok (.if_icmp .gt 25, 3) := by decide +kernel
theorem dX1_momentsUntilDark_9 : decode cX1_momentsUntilDark 9 = .ok (.aload_n 0, 1) := by decide +kernel
theorem dX1_momentsUntilDark_10 : decode cX1_momentsUntilDark 10 = .ok (.aload_n 0, 1) := by decide +kernel
theorem dX1_momentsUntilDark_11 : decode cX1_momentsUntilDark 11 = .ok (.getfield 73, 3) := by decide +kernel
theorem dX1_momentsUntilDark_14 : decode cX1_momentsUntilDark 14 = .ok (.iload_n 1, 1) := by decide +kernel
theorem dX1_momentsUntilDark_15 : decode cX1_momentsUntilDark 15 = .ok (.iadd, 1) := by decide +kernel
theorem dX1_momentsUntilDark_16 : decode cX1_momentsUntilDark 16 = .ok (.iconst (-1), 1) := by decide +kernel
theorem dX1_momentsUntilDark_17 : decode cX1_momentsUntilDark 17 = .ok (.invokevirtual 93, 3) := by decide +kernel
theorem dX1_momentsUntilDark_20 : decode cX1_momentsUntilDark 20 = .ok (.ifCond .eq 5, 3) := by decide +kernel
theorem dX1_momentsUntilDark_23 : decode cX1_momentsUntilDark 23 = .ok (.iload_n 1, 1) := by decide +kernel
theorem dX1_momentsUntilDark_24 : decode cX1_momentsUntilDark 24 = .ok (.ireturn, 1) := by decide +kernel
theorem dX1_momentsUntilDark_25 : decode cX1_momentsUntilDark 25 = .ok (.iinc 1 1, 3) := by decide +kernel
theorem dX1_momentsUntilDark_28 : decode cX1_momentsUntilDark 28 = .ok (.goto (-26), 3) := by decide +kernel
theorem dX1_momentsUntilDark_31 : decode cX1_momentsUntilDark 31 = .ok (.iconst (-1), 1) := by decide +kernel
theorem dX1_momentsUntilDark_32 : decode cX1_momentsUntilDark 32 = .ok (.ireturn, 1) := by decide +kernel
set_option maxRecDepth 20000 in
theorem ggX1_darkWithin_X1_needMoments : GoodIn wsX1_darkWithin wsX1_needMoments := goodIn_ca (goodIn_r _ [4, 5, 6] (by decide +kernel) (by decide +kernel)) (goodIn_sub (fun _ h => List.mem_cons_of_mem _ (List.mem_append_right _ h)) (by decide +kernel))
set_option maxRecDepth 20000 in
theorem gX1_darkWithin_X1_needMoments : GoodIn wsX1_darkWithin (va_wsS RX1 70 yX1_needMoments wsX1_needMoments) := goodIn_app (goodIn_of _ (by decide +kernel)) ggX1_darkWithin_X1_needMoments
set_option maxRecDepth 20000 in
theorem ggX1_darkWithin_X1_darkMoments : GoodIn wsX1_darkWithin wsX1_darkMoments := goodIn_r _ [10, 11, 12, 13, 14, 3, 15, 16, 17, 18, 19, 20, 21, 22, 23, 24, 25, 26, 27, 28, 29, 30, 31, 32, 33, 34, 35, 36, 37, 38, 39, 40, 41, 42, 43, 44, 45, 46, 47] (by decide +kernel) (by decide +kernel)
set_option maxRecDepth 20000 in
theorem gX1_darkWithin_X1_darkMoments : GoodIn wsX1_darkWithin (wsV RX1 125 RX1 yX1_darkMoments wsX1_darkMoments) := goodIn_app (goodIn_of _ (by decide +kernel)) ggX1_darkWithin_X1_darkMoments
theorem dX1_darkWithin_0 : decode cX1_darkWithin 0 = .ok (.iload_n 1, 1) := by decide +kernel
theorem dX1_darkWithin_1 : decode cX1_darkWithin 1 = .ok (.sipush 500, 3) := by decide +kernel
theorem dX1_darkWithin_4 : decode cX1_darkWithin 4 = .ok (.invokestatic 70, 3) := by decide +kernel
theorem dX1_darkWithin_7 : decode cX1_darkWithin 7 = .ok (.aload_n 0, 1) := by decide +kernel
theorem dX1_darkWithin_8 : decode cX1_darkWithin 8 = .ok (.iload_n 1, 1) := by decide +kernel
theorem dX1_darkWithin_9 : decode cX1_darkWithin 9 = .ok (.iconst (-1), 1) := by decide +kernel
theorem dX1_darkWithin_10 : decode cX1_darkWithin 10 = .ok (.invokevirtual 125, 3) := by decide +kernel
theorem dX1_darkWithin_13 : decode cX1_darkWithin 13 = .ok (.ireturn, 1) := by decide +kernel
set_option maxRecDepth 20000 in
theorem ggX1_brightestWithin_X1_needMoments : GoodIn wsX1_brightestWithin wsX1_needMoments := goodIn_ca (goodIn_r _ [5, 6, 7] (by decide +kernel) (by decide +kernel)) (goodIn_sub (fun _ h => List.mem_cons_of_mem _ (List.mem_append_right _ h)) (by decide +kernel))
set_option maxRecDepth 20000 in
theorem gX1_brightestWithin_X1_needMoments : GoodIn wsX1_brightestWithin (va_wsS RX1 70 yX1_needMoments wsX1_needMoments) := goodIn_app (goodIn_of _ (by decide +kernel)) ggX1_brightestWithin_X1_needMoments
set_option maxRecDepth 20000 in
theorem ggX1_brightestWithin_X1_litCount : GoodIn wsX1_brightestWithin wsX1_litCount := goodIn_r _ [11, 12, 13, 14, 15, 16, 17, 18, 19, 20, 21, 22, 23, 24, 25, 26, 27, 28, 29, 30, 31, 32, 33, 34, 35, 36, 37, 38, 39, 40, 41, 42, 43] (by decide +kernel) (by decide +kernel)
set_option maxRecDepth 20000 in
theorem gX1_brightestWithin_X1_litCount : GoodIn wsX1_brightestWithin (wsV RX1 90 RX1 yX1_litCount wsX1_litCount) := goodIn_app (goodIn_of _ (by decide +kernel)) ggX1_brightestWithin_X1_litCount
theorem dX1_brightestWithin_0 : decode cX1_brightestWithin 0 = .ok (.iload_n 1, 1) := by decide +kernel
theorem dX1_brightestWithin_1 : decode cX1_brightestWithin 1 = .ok (.sipush 500, 3) := by decide +kernel
theorem dX1_brightestWithin_4 : decode cX1_brightestWithin 4 = .ok (.invokestatic 70, 3) := by decide +kernel
theorem dX1_brightestWithin_7 : decode cX1_brightestWithin 7 = .ok (.iconst 1, 1) := by decide +kernel
theorem dX1_brightestWithin_8 : decode cX1_brightestWithin 8 = .ok (.istore_n 2, 1) := by decide +kernel
theorem dX1_brightestWithin_9 : decode cX1_brightestWithin 9 = .ok (.aload_n 0, 1) := by decide +kernel
theorem dX1_brightestWithin_10 : decode cX1_brightestWithin 10 = .ok (.aload_n 0, 1) := by decide +kernel
theorem dX1_brightestWithin_11 : decode cX1_brightestWithin 11 = .ok (.getfield 73, 3) := by decide +kernel
theorem dX1_brightestWithin_14 : decode cX1_brightestWithin 14 = .ok (.iconst 1, 1) := by decide +kernel
theorem dX1_brightestWithin_15 : decode cX1_brightestWithin 15 = .ok (.iadd, 1) := by decide +kernel
theorem dX1_brightestWithin_16 : decode cX1_brightestWithin 16 = .ok (.invokevirtual 90, 3) := by decide +kernel
theorem dX1_brightestWithin_19 : decode cX1_brightestWithin 19 = .ok (.istore_n 3, 1) := by decide +kernel
theorem dX1_brightestWithin_20 : decode cX1_brightestWithin 20 = .ok (.iconst 2, 1) := by decide +kernel
theorem dX1_brightestWithin_21 : decode cX1_brightestWithin 21 = .ok (.istore 4, 2) := by decide +kernel
theorem dX1_brightestWithin_23 : decode cX1_brightestWithin 23 = .ok (.iload 4, 2) := by decide +kernel
theorem dX1_brightestWithin_25 : decode cX1_brightestWithin 25 = .ok (.iload_n 1, 1) := by decide +kernel
theorem dX1_brightestWithin_26 : decode cX1_brightestWithin 26 = .ok (.if_icmp .gt 34, 3) := by decide +kernel
theorem dX1_brightestWithin_29 : decode cX1_brightestWithin 29 = .ok (.aload_n 0, 1) := by decide +kernel
theorem dX1_brightestWithin_30 : decode cX1_brightestWithin 30 = .ok (.aload_n 0, 1) := by decide +kernel
theorem dX1_brightestWithin_31 : decode cX1_brightestWithin 31 = .ok (.getfield 73, 3) := by decide +kernel
theorem dX1_brightestWithin_34 : decode cX1_brightestWithin 34 = .ok (.iload 4, 2) := by decide +kernel
theorem dX1_brightestWithin_36 : decode cX1_brightestWithin 36 = .ok (.iadd, 1) := by decide +kernel
theorem dX1_brightestWithin_37 : decode cX1_brightestWithin 37 = .ok (.invokevirtual 90, 3) := by decide +kernel
theorem dX1_brightestWithin_40 : decode cX1_brightestWithin 40 = .ok (.istore 5, 2) := by decide +kernel
theorem dX1_brightestWithin_42 : decode cX1_brightestWithin 42 = .ok (.iload 5, 2) := by decide +kernel
theorem dX1_brightestWithin_44 : decode cX1_brightestWithin 44 = .ok (.iload_n 3, 1) := by decide +kernel
theorem dX1_brightestWithin_45 : decode cX1_brightestWithin 45 = .ok (.if_icmp .le 9, 3) := by decide +kernel
theorem dX1_brightestWithin_48 : decode cX1_brightestWithin 48 = .ok (.iload 5, 2) := by decide +kernel
theorem dX1_brightestWithin_50 : decode cX1_brightestWithin 50 = .ok (.istore_n 3, 1) := by decide +kernel
theorem dX1_brightestWithin_51 : decode cX1_brightestWithin 51 = .ok (.iload 4, 2) := by decide +kernel
theorem dX1_brightestWithin_53 : decode cX1_brightestWithin 53 = .ok (.istore_n 2, 1) := by decide +kernel
theorem dX1_brightestWithin_54 : decode cX1_brightestWithin 54 = .ok (.iinc 4 1, 3) := by decide +kernel
theorem dX1_brightestWithin_57 : decode cX1_brightestWithin 57 = .ok (.goto (-34), 3) := by decide +kernel
theorem dX1_brightestWithin_60 : decode cX1_brightestWithin 60 = .ok (.iload_n 2, 1) := by decide +kernel
theorem dX1_brightestWithin_61 : decode cX1_brightestWithin 61 = .ok (.ireturn, 1) := by decide +kernel
set_option maxRecDepth 20000 in
theorem ggX1_bestCover_X1_needMoments : GoodIn wsX1_bestCover wsX1_needMoments := goodIn_ca (goodIn_r _ [6, 7, 8] (by decide +kernel) (by decide +kernel)) (goodIn_sub (fun _ h => List.mem_cons_of_mem _ (List.mem_append_right _ h)) (by decide +kernel))
set_option maxRecDepth 20000 in
theorem gX1_bestCover_X1_needMoments : GoodIn wsX1_bestCover (va_wsS RX1 70 yX1_needMoments wsX1_needMoments) := goodIn_app (goodIn_of _ (by decide +kernel)) ggX1_bestCover_X1_needMoments
set_option maxRecDepth 20000 in
theorem ggX1_bestCover_X1_darkMoments : GoodIn wsX1_bestCover wsX1_darkMoments := goodIn_r _ [12, 13, 14, 15, 16, 5, 17, 1, 2, 18, 19, 20, 21, 22, 23, 24, 25, 26, 27, 28, 29, 30, 31, 32, 33, 34, 35, 36, 37, 38, 39, 40, 41, 42, 43, 44, 45, 46, 47] (by decide +kernel) (by decide +kernel)
set_option maxRecDepth 20000 in
theorem gX1_bestCover_X1_darkMoments : GoodIn wsX1_bestCover (wsV RX1 125 RX1 yX1_darkMoments wsX1_darkMoments) := goodIn_app (goodIn_of _ (by decide +kernel)) ggX1_bestCover_X1_darkMoments
theorem dX1_bestCover_0 : decode cX1_bestCover 0 = .ok (.iload_n 1, 1) := by decide +kernel
theorem dX1_bestCover_1 : decode cX1_bestCover 1 = .ok (.sipush 200, 3) := by decide +kernel
theorem dX1_bestCover_4 : decode cX1_bestCover 4 = .ok (.invokestatic 70, 3) := by decide +kernel
theorem dX1_bestCover_7 : decode cX1_bestCover 7 = .ok (.iconst (-1), 1) := by decide +kernel
theorem dX1_bestCover_8 : decode cX1_bestCover 8 = .ok (.istore_n 2, 1) := by decide +kernel
theorem dX1_bestCover_9 : decode cX1_bestCover 9 = .ok (.iconst (-1), 1) := by decide +kernel
theorem dX1_bestCover_10 : decode cX1_bestCover 10 = .ok (.istore_n 3, 1) := by decide +kernel
theorem dX1_bestCover_11 : decode cX1_bestCover 11 = .ok (.iconst 0, 1) := by decide +kernel
theorem dX1_bestCover_12 : decode cX1_bestCover 12 = .ok (.istore 4, 2) := by decide +kernel
theorem dX1_bestCover_14 : decode cX1_bestCover 14 = .ok (.iload 4, 2) := by decide +kernel
theorem dX1_bestCover_16 : decode cX1_bestCover 16 = .ok (.aload_n 0, 1) := by decide +kernel
theorem dX1_bestCover_17 : decode cX1_bestCover 17 = .ok (.getfield 20, 3) := by decide +kernel
theorem dX1_bestCover_20 : decode cX1_bestCover 20 = .ok (.if_icmp .ge 43, 3) := by decide +kernel
theorem dX1_bestCover_23 : decode cX1_bestCover 23 = .ok (.aload_n 0, 1) := by decide +kernel
theorem dX1_bestCover_24 : decode cX1_bestCover 24 = .ok (.getfield 11, 3) := by decide +kernel
theorem dX1_bestCover_27 : decode cX1_bestCover 27 = .ok (.iload 4, 2) := by decide +kernel
theorem dX1_bestCover_29 : decode cX1_bestCover 29 = .ok (.aaload, 1) := by decide +kernel
theorem dX1_bestCover_30 : decode cX1_bestCover 30 = .ok (.getfield 67, 3) := by decide +kernel
theorem dX1_bestCover_33 : decode cX1_bestCover 33 = .ok (.ifCond .ne 24, 3) := by decide +kernel
theorem dX1_bestCover_36 : decode cX1_bestCover 36 = .ok (.aload_n 0, 1) := by decide +kernel
theorem dX1_bestCover_37 : decode cX1_bestCover 37 = .ok (.iload_n 1, 1) := by decide +kernel
theorem dX1_bestCover_38 : decode cX1_bestCover 38 = .ok (.iload 4, 2) := by decide +kernel
theorem dX1_bestCover_40 : decode cX1_bestCover 40 = .ok (.invokevirtual 125, 3) := by decide +kernel
theorem dX1_bestCover_43 : decode cX1_bestCover 43 = .ok (.istore 5, 2) := by decide +kernel
theorem dX1_bestCover_45 : decode cX1_bestCover 45 = .ok (.iload 5, 2) := by decide +kernel
theorem dX1_bestCover_47 : decode cX1_bestCover 47 = .ok (.iload_n 3, 1) := by decide +kernel
theorem dX1_bestCover_48 : decode cX1_bestCover 48 = .ok (.if_icmp .le 9, 3) := by decide +kernel
theorem dX1_bestCover_51 : decode cX1_bestCover 51 = .ok (.iload 5, 2) := by decide +kernel
theorem dX1_bestCover_53 : decode cX1_bestCover 53 = .ok (.istore_n 3, 1) := by decide +kernel
theorem dX1_bestCover_54 : decode cX1_bestCover 54 = .ok (.iload 4, 2) := by decide +kernel
theorem dX1_bestCover_56 : decode cX1_bestCover 56 = .ok (.istore_n 2, 1) := by decide +kernel
theorem dX1_bestCover_57 : decode cX1_bestCover 57 = .ok (.iinc 4 1, 3) := by decide +kernel
theorem dX1_bestCover_60 : decode cX1_bestCover 60 = .ok (.goto (-46), 3) := by decide +kernel
theorem dX1_bestCover_63 : decode cX1_bestCover 63 = .ok (.iload_n 2, 1) := by decide +kernel
theorem dX1_bestCover_64 : decode cX1_bestCover 64 = .ok (.ireturn, 1) := by decide +kernel
theorem dX1_meanBeats_0 : decode cX1_meanBeats 0 = .ok (.aload_n 0, 1) := by decide +kernel
theorem dX1_meanBeats_1 : decode cX1_meanBeats 1 = .ok (.getfield 20, 3) := by decide +kernel
theorem dX1_meanBeats_4 : decode cX1_meanBeats 4 = .ok (.ifCond .ne 5, 3) := by decide +kernel
theorem dX1_meanBeats_7 : decode cX1_meanBeats 7 = .ok (.dconst 0, 1) := by decide +kernel
theorem dX1_meanBeats_8 : decode cX1_meanBeats 8 = .ok (.dreturn, 1) := by decide +kernel
theorem dX1_meanBeats_9 : decode cX1_meanBeats 9 = .ok (.iconst 0, 1) := by decide +kernel
theorem dX1_meanBeats_10 : decode cX1_meanBeats 10 = .ok (.istore_n 1, 1) := by decide +kernel
theorem dX1_meanBeats_11 : decode cX1_meanBeats 11 = .ok (.iconst 0, 1) := by decide +kernel
theorem dX1_meanBeats_12 : decode cX1_meanBeats 12 = .ok (.istore_n 2, 1) := by decide +kernel
theorem dX1_meanBeats_13 : decode cX1_meanBeats 13 = .ok (.iload_n 2, 1) := by decide +kernel
theorem dX1_meanBeats_14 : decode cX1_meanBeats 14 = .ok (.aload_n 0, 1) := by decide +kernel
theorem dX1_meanBeats_15 : decode cX1_meanBeats 15 = .ok (.getfield 20, 3) := by decide +kernel
theorem dX1_meanBeats_18 : decode cX1_meanBeats 18 = .ok (.if_icmp .ge 21, 3) := by decide +kernel
theorem dX1_meanBeats_21 : decode cX1_meanBeats 21 = .ok (.iload_n 1, 1) := by decide +kernel
theorem dX1_meanBeats_22 : decode cX1_meanBeats 22 = .ok (.aload_n 0, 1) := by decide +kernel
theorem dX1_meanBeats_23 : decode cX1_meanBeats 23 = .ok (.getfield 11, 3) := by decide +kernel
theorem dX1_meanBeats_26 : decode cX1_meanBeats 26 = .ok (.iload_n 2, 1) := by decide +kernel
theorem dX1_meanBeats_27 : decode cX1_meanBeats 27 = .ok (.aaload, 1) := by decide +kernel
theorem dX1_meanBeats_28 : decode cX1_meanBeats 28 = .ok (.getfield 46, 3) := by decide +kernel
theorem dX1_meanBeats_31 : decode cX1_meanBeats 31 = .ok (.iadd, 1) := by decide +kernel
theorem dX1_meanBeats_32 : decode cX1_meanBeats 32 = .ok (.istore_n 1, 1) := by decide +kernel
theorem dX1_meanBeats_33 : decode cX1_meanBeats 33 = .ok (.iinc 2 1, 3) := by decide +kernel
theorem dX1_meanBeats_36 : decode cX1_meanBeats 36 = .ok (.goto (-23), 3) := by decide +kernel
theorem dX1_meanBeats_39 : decode cX1_meanBeats 39 = .ok (.iload_n 1, 1) := by decide +kernel
theorem dX1_meanBeats_40 : decode cX1_meanBeats 40 = .ok (.i2d, 1) := by decide +kernel
theorem dX1_meanBeats_41 : decode cX1_meanBeats 41 = .ok (.aload_n 0, 1) := by decide +kernel
theorem dX1_meanBeats_42 : decode cX1_meanBeats 42 = .ok (.getfield 20, 3) := by decide +kernel
theorem dX1_meanBeats_45 : decode cX1_meanBeats 45 = .ok (.i2d, 1) := by decide +kernel
theorem dX1_meanBeats_46 : decode cX1_meanBeats 46 = .ok (.ddiv, 1) := by decide +kernel
theorem dX1_meanBeats_47 : decode cX1_meanBeats 47 = .ok (.dreturn, 1) := by decide +kernel
set_option maxRecDepth 20000 in
theorem ggX1_digest_X1_mixed : GoodIn wsX1_digest wsX1_mixed := goodIn_r _ [9, 10] (by decide +kernel) (by decide +kernel)
set_option maxRecDepth 20000 in
theorem gX1_digest_X1_mixed : GoodIn wsX1_digest (va_wsS RX1 131 yX1_mixed wsX1_mixed) := goodIn_app (goodIn_of _ (by decide +kernel)) ggX1_digest_X1_mixed
set_option maxRecDepth 20000 in
theorem ggX1_digest_X1_litCount : GoodIn wsX1_digest wsX1_litCount := goodIn_r _ [14, 2, 5, 15, 16, 17, 18, 19, 20, 21, 22, 23, 24, 25, 26, 27, 28, 29, 30, 31, 32, 33, 34, 69, 70, 71, 72, 73, 74, 75, 76, 77, 78] (by decide +kernel) (by decide +kernel)
set_option maxRecDepth 20000 in
theorem gX1_digest_X1_litCount : GoodIn wsX1_digest (wsV RX1 90 RX1 yX1_litCount wsX1_litCount) := goodIn_app (goodIn_of _ (by decide +kernel)) ggX1_digest_X1_litCount
set_option maxRecDepth 20000 in
theorem ggX1_digest_X1_mixedWithLamp : GoodIn wsX1_digest wsX1_mixedWithLamp := goodIn_r _ [38, 3, 6, 7, 8, 9, 10, 39, 22, 23, 18, 24, 25, 26, 27, 28, 29, 30, 31, 32, 33, 34, 40, 41, 42, 43, 44, 45, 46, 47, 48, 49, 50, 51, 52, 53, 54, 55, 21, 56, 57, 58, 59, 60, 61, 62, 63, 64, 65, 66, 67, 68, 74, 75, 76, 77, 78, 69, 70, 71, 72, 73] (by decide +kernel) (by decide +kernel)
set_option maxRecDepth 20000 in
theorem gX1_digest_X1_mixedWithLamp : GoodIn wsX1_digest (wsV RX1 135 RX1 yX1_mixedWithLamp wsX1_mixedWithLamp) := goodIn_app (goodIn_of _ (by decide +kernel)) ggX1_digest_X1_mixedWithLamp
theorem dX1_digest_0 : decode cX1_digest 0 = .ok (.ldc2_w 129, 3) := by decide +kernel
theorem dX1_digest_3 : decode cX1_digest 3 = .ok (.lstore_n 1, 1) := by decide +kernel
theorem dX1_digest_4 : decode cX1_digest 4 = .ok (.lload_n 1, 1) := by decide +kernel
theorem dX1_digest_5 : decode cX1_digest 5 = .ok (.aload_n 0, 1) := by decide +kernel
theorem dX1_digest_6 : decode cX1_digest 6 = .ok (.getfield 20, 3) := by decide +kernel
theorem dX1_digest_9 : decode cX1_digest 9 = .ok (.i2l, 1) := by decide +kernel
theorem dX1_digest_10 : decode cX1_digest 10 = .ok (.invokestatic 131, 3) := by decide +kernel
theorem dX1_digest_13 : decode cX1_digest 13 = .ok (.lstore_n 1, 1) := by decide +kernel
theorem dX1_digest_14 : decode cX1_digest 14 = .ok (.lload_n 1, 1) := by decide +kernel
theorem dX1_digest_15 : decode cX1_digest 15 = .ok (.aload_n 0, 1) := by decide +kernel
theorem dX1_digest_16 : decode cX1_digest 16 = .ok (.getfield 73, 3) := by decide +kernel
theorem dX1_digest_19 : decode cX1_digest 19 = .ok (.i2l, 1) := by decide +kernel
theorem dX1_digest_20 : decode cX1_digest 20 = .ok (.invokestatic 131, 3) := by decide +kernel
theorem dX1_digest_23 : decode cX1_digest 23 = .ok (.lstore_n 1, 1) := by decide +kernel
theorem dX1_digest_24 : decode cX1_digest 24 = .ok (.lload_n 1, 1) := by decide +kernel
theorem dX1_digest_25 : decode cX1_digest 25 = .ok (.aload_n 0, 1) := by decide +kernel
theorem dX1_digest_26 : decode cX1_digest 26 = .ok (.getfield 80, 3) := by decide +kernel
theorem dX1_digest_29 : decode cX1_digest 29 = .ok (.i2l, 1) := by decide +kernel
theorem dX1_digest_30 : decode cX1_digest 30 = .ok (.invokestatic 131, 3) := by decide +kernel
theorem dX1_digest_33 : decode cX1_digest 33 = .ok (.lstore_n 1, 1) := by decide +kernel
theorem dX1_digest_34 : decode cX1_digest 34 = .ok (.lload_n 1, 1) := by decide +kernel
theorem dX1_digest_35 : decode cX1_digest 35 = .ok (.aload_n 0, 1) := by decide +kernel
theorem dX1_digest_36 : decode cX1_digest 36 = .ok (.aload_n 0, 1) := by decide +kernel
theorem dX1_digest_37 : decode cX1_digest 37 = .ok (.getfield 73, 3) := by decide +kernel
theorem dX1_digest_40 : decode cX1_digest 40 = .ok (.invokevirtual 90, 3) := by decide +kernel
theorem dX1_digest_43 : decode cX1_digest 43 = .ok (.i2l, 1) := by decide +kernel
theorem dX1_digest_44 : decode cX1_digest 44 = .ok (.invokestatic 131, 3) := by decide +kernel
theorem dX1_digest_47 : decode cX1_digest 47 = .ok (.lstore_n 1, 1) := by decide +kernel
theorem dX1_digest_48 : decode cX1_digest 48 = .ok (.iconst 0, 1) := by decide +kernel
theorem dX1_digest_49 : decode cX1_digest 49 = .ok (.istore_n 3, 1) := by decide +kernel
theorem dX1_digest_50 : decode cX1_digest 50 = .ok (.iload_n 3, 1) := by decide +kernel
theorem dX1_digest_51 : decode cX1_digest 51 = .ok (.aload_n 0, 1) := by decide +kernel
theorem dX1_digest_52 : decode cX1_digest 52 = .ok (.getfield 20, 3) := by decide +kernel
theorem dX1_digest_55 : decode cX1_digest 55 = .ok (.if_icmp .ge 21, 3) := by decide +kernel
theorem dX1_digest_58 : decode cX1_digest 58 = .ok (.aload_n 0, 1) := by decide +kernel
theorem dX1_digest_59 : decode cX1_digest 59 = .ok (.lload_n 1, 1) := by decide +kernel
theorem dX1_digest_60 : decode cX1_digest 60 = .ok (.aload_n 0, 1) := by decide +kernel
theorem dX1_digest_61 : decode cX1_digest 61 = .ok (.getfield 11, 3) := by decide +kernel
theorem dX1_digest_64 : decode cX1_digest 64 = .ok (.iload_n 3, 1) := by decide +kernel
theorem dX1_digest_65 : decode cX1_digest 65 = .ok (.aaload, 1) := by decide +kernel
theorem dX1_digest_66 : decode cX1_digest 66 = .ok (.invokevirtual 135, 3) := by decide +kernel
theorem dX1_digest_69 : decode cX1_digest 69 = .ok (.lstore_n 1, 1) := by decide +kernel
theorem dX1_digest_70 : decode cX1_digest 70 = .ok (.iinc 3 1, 3) := by decide +kernel
theorem dX1_digest_73 : decode cX1_digest 73 = .ok (.goto (-23), 3) := by decide +kernel
theorem dX1_digest_76 : decode cX1_digest 76 = .ok (.lload_n 1, 1) := by decide +kernel
theorem dX1_digest_77 : decode cX1_digest 77 = .ok (.lreturn, 1) := by decide +kernel
set_option maxRecDepth 20000 in
theorem ggX1_mixedWithLamp_X1_mixed : GoodIn wsX1_mixedWithLamp wsX1_mixed := goodIn_r _ [5, 6] (by decide +kernel) (by decide +kernel)
set_option maxRecDepth 20000 in
theorem gX1_mixedWithLamp_X1_mixed : GoodIn wsX1_mixedWithLamp (va_wsS RX1 131 yX1_mixed wsX1_mixed) := goodIn_app (goodIn_of _ (by decide +kernel)) ggX1_mixedWithLamp_X1_mixed
set_option maxRecDepth 20000 in
theorem ggX1_mixedWithLamp_X0_onAt : GoodIn wsX1_mixedWithLamp wsX0_onAt := goodIn_r _ [11, 12, 13, 14, 15, 16, 17, 10, 18, 19, 20, 21, 52, 53, 54, 55, 56] (by decide +kernel) (by decide +kernel)
set_option maxRecDepth 20000 in
theorem gX1_mixedWithLamp_X0_onAt : GoodIn wsX1_mixedWithLamp (wsV RX1 83 RX0 yX0_onAt wsX0_onAt) := goodIn_app (goodIn_of _ (by decide +kernel)) ggX1_mixedWithLamp_X0_onAt
set_option maxRecDepth 20000 in
theorem ggX1_mixedWithLamp_X0_neverChanges : GoodIn wsX1_mixedWithLamp wsX0_neverChanges := goodIn_r _ [25, 26, 27, 28, 10, 29, 15, 30, 31, 32, 33, 34, 35, 36, 37, 12, 13, 14, 38, 8, 9, 11, 16, 17, 18, 19, 20, 21, 52, 53, 54, 55, 56] (by decide +kernel) (by decide +kernel)
set_option maxRecDepth 20000 in
theorem gX1_mixedWithLamp_X0_neverChanges : GoodIn wsX1_mixedWithLamp (wsV RX1 103 RX0 yX0_neverChanges wsX0_neverChanges) := goodIn_app (goodIn_of _ (by decide +kernel)) ggX1_mixedWithLamp_X0_neverChanges
set_option maxRecDepth 20000 in
theorem ggX1_mixedWithLamp_X0_cycle : GoodIn wsX1_mixedWithLamp wsX0_cycle := goodIn_r _ [29, 15, 30, 31, 32, 10, 33, 34, 35, 36, 37, 12, 13, 14, 38, 8, 9, 11, 16, 17, 18, 19, 20, 21, 52, 53, 54, 55, 56] (by decide +kernel) (by decide +kernel)
set_option maxRecDepth 20000 in
theorem gX1_mixedWithLamp_X0_cycle : GoodIn wsX1_mixedWithLamp (wsV RX1 107 RX0 yX0_cycle wsX0_cycle) := goodIn_app (goodIn_of _ (by decide +kernel)) ggX1_mixedWithLamp_X0_cycle
set_option maxRecDepth 20000 in
theorem ggX1_mixedWithLamp_X0_untilChange : GoodIn wsX1_mixedWithLamp wsX0_untilChange := goodIn_r _ [43, 30, 31, 32, 10, 33, 34, 35, 36, 37, 12, 13, 14, 44, 45, 46, 47, 48, 49, 50, 51, 19, 20, 21, 52, 53, 54, 55, 56] (by decide +kernel) (by decide +kernel)
set_option maxRecDepth 20000 in
theorem gX1_mixedWithLamp_X0_untilChange : GoodIn wsX1_mixedWithLamp (wsV RX1 111 RX0 yX0_untilChange wsX0_untilChange) := goodIn_app (goodIn_of _ (by decide +kernel)) ggX1_mixedWithLamp_X0_untilChange
theorem dX1_mixedWithLamp_0 : decode cX1_mixedWithLamp 0 = .ok (.lload_n 1, 1) := by decide +kernel
theorem dX1_mixedWithLamp_1 : decode cX1_mixedWithLamp 1 = .ok (.lstore 4, 2) := by decide +kernel
theorem dX1_mixedWithLamp_3 : decode cX1_mixedWithLamp 3 = .ok (.lload 4, 2) := by decide +kernel
theorem dX1_mixedWithLamp_5 : decode cX1_mixedWithLamp 5 = .ok (.aload_n 3, 1) := by decide +kernel
theorem dX1_mixedWithLamp_6 : decode cX1_mixedWithLamp 6 = .ok (.getfield 46, 3) := by decide +kernel
theorem dX1_mixedWithLamp_9 : decode cX1_mixedWithLamp 9 = .ok (.i2l, 1) := by decide +kernel
theorem dX1_mixedWithLamp_10 : decode cX1_mixedWithLamp 10 = .ok (.invokestatic 131, 3) := by decide +kernel
theorem dX1_mixedWithLamp_13 : decode cX1_mixedWithLamp 13 = .ok (.lstore 4, 2) := by decide +kernel
theorem dX1_mixedWithLamp_15 : decode cX1_mixedWithLamp 15 = .ok (.lload 4, 2) := by decide +kernel
theorem dX1_mixedWithLamp_17 : decode cX1_mixedWithLamp 17 = .ok (.aload_n 3, 1) := by decide +kernel
theorem dX1_mixedWithLamp_18 : decode cX1_mixedWithLamp 18 = .ok (.getfield 67, 3) := by decide +kernel
theorem dX1_mixedWithLamp_21 : decode cX1_mixedWithLamp 21 = .ok (.ifCond .eq 7, 3) := by decide +kernel
theorem dX1_mixedWithLamp_24 : decode cX1_mixedWithLamp 24 = .ok (.lconst 1, 1) := by decide +kernel
theorem dX1_mixedWithLamp_25 : decode cX1_mixedWithLamp 25 = .ok (.goto 4, 3) := by decide +kernel
theorem dX1_mixedWithLamp_28 : decode cX1_mixedWithLamp 28 = .ok (.lconst 0, 1) := by decide +kernel
theorem dX1_mixedWithLamp_29 : decode cX1_mixedWithLamp 29 = .ok (.invokestatic 131, 3) := by decide +kernel
theorem dX1_mixedWithLamp_32 : decode cX1_mixedWithLamp 32 = .ok (.lstore 4, 2) := by decide +kernel
theorem dX1_mixedWithLamp_34 : decode cX1_mixedWithLamp 34 = .ok (.lload 4, 2) := by decide +kernel
theorem dX1_mixedWithLamp_36 : decode cX1_mixedWithLamp 36 = .ok (.aload_n 3, 1) := by decide +kernel
theorem dX1_mixedWithLamp_37 : decode cX1_mixedWithLamp 37 = .ok (.aload_n 0, 1) := by decide +kernel
theorem dX1_mixedWithLamp_38 : decode cX1_mixedWithLamp 38 = .ok (.getfield 73, 3) := by decide +kernel
theorem dX1_mixedWithLamp_41 : decode cX1_mixedWithLamp 41 = .ok (.invokevirtual 83, 3) := by decide +kernel
theorem dX1_mixedWithLamp_44 : decode cX1_mixedWithLamp 44 = .ok (.ifCond .eq 7, 3) := by decide +kernel
theorem dX1_mixedWithLamp_47 : decode cX1_mixedWithLamp 47 = .ok (.lconst 1, 1) := by decide +kernel
theorem dX1_mixedWithLamp_48 : decode cX1_mixedWithLamp 48 = .ok (.goto 4, 3) := by decide +kernel
theorem dX1_mixedWithLamp_51 : decode cX1_mixedWithLamp 51 = .ok (.lconst 0, 1) := by decide +kernel
theorem dX1_mixedWithLamp_52 : decode cX1_mixedWithLamp 52 = .ok (.invokestatic 131, 3) := by decide +kernel
theorem dX1_mixedWithLamp_55 : decode cX1_mixedWithLamp 55 = .ok (.lstore 4, 2) := by decide +kernel
theorem dX1_mixedWithLamp_57 : decode cX1_mixedWithLamp 57 = .ok (.lload 4, 2) := by decide +kernel
theorem dX1_mixedWithLamp_59 : decode cX1_mixedWithLamp 59 = .ok (.aload_n 3, 1) := by decide +kernel
theorem dX1_mixedWithLamp_60 : decode cX1_mixedWithLamp 60 = .ok (.invokevirtual 103, 3) := by decide +kernel
theorem dX1_mixedWithLamp_63 : decode cX1_mixedWithLamp 63 = .ok (.ifCond .eq 7, 3) := by decide +kernel
theorem dX1_mixedWithLamp_66 : decode cX1_mixedWithLamp 66 = .ok (.lconst 1, 1) := by decide +kernel
theorem dX1_mixedWithLamp_67 : decode cX1_mixedWithLamp 67 = .ok (.goto 4, 3) := by decide +kernel
theorem dX1_mixedWithLamp_70 : decode cX1_mixedWithLamp 70 = .ok (.lconst 0, 1) := by decide +kernel
theorem dX1_mixedWithLamp_71 : decode cX1_mixedWithLamp 71 = .ok (.invokestatic 131, 3) := by decide +kernel
theorem dX1_mixedWithLamp_74 : decode cX1_mixedWithLamp 74 = .ok (.lstore 4, 2) := by decide +kernel
theorem dX1_mixedWithLamp_76 : decode cX1_mixedWithLamp 76 = .ok (.lload 4, 2) := by decide +kernel
theorem dX1_mixedWithLamp_78 : decode cX1_mixedWithLamp 78 = .ok (.aload_n 3, 1) := by decide +kernel
theorem dX1_mixedWithLamp_79 : decode cX1_mixedWithLamp 79 = .ok (.invokevirtual 107, 3) := by decide +kernel
theorem dX1_mixedWithLamp_82 : decode cX1_mixedWithLamp 82 = .ok (.i2l, 1) := by decide +kernel
theorem dX1_mixedWithLamp_83 : decode cX1_mixedWithLamp 83 = .ok (.invokestatic 131, 3) := by decide +kernel
theorem dX1_mixedWithLamp_86 : decode cX1_mixedWithLamp 86 = .ok (.lstore 4, 2) := by decide +kernel
theorem dX1_mixedWithLamp_88 : decode cX1_mixedWithLamp 88 = .ok (.lload 4, 2) := by decide +kernel
theorem dX1_mixedWithLamp_90 : decode cX1_mixedWithLamp 90 = .ok (.aload_n 3, 1) := by decide +kernel
theorem dX1_mixedWithLamp_91 : decode cX1_mixedWithLamp 91 = .ok (.aload_n 0, 1) := by decide +kernel
theorem dX1_mixedWithLamp_92 : decode cX1_mixedWithLamp 92 = .ok (.getfield 73, 3) := by decide +kernel
theorem dX1_mixedWithLamp_95 : decode cX1_mixedWithLamp 95 = .ok (.invokevirtual 111, 3) := by decide +kernel
theorem dX1_mixedWithLamp_98 : decode cX1_mixedWithLamp 98 = .ok (.i2l, 1) := by decide +kernel
theorem dX1_mixedWithLamp_99 : decode cX1_mixedWithLamp 99 = .ok (.invokestatic 131, 3) := by decide +kernel
theorem dX1_mixedWithLamp_102 : decode cX1_mixedWithLamp 102 = .ok (.lstore 4, 2) := by decide +kernel
theorem dX1_mixedWithLamp_104 : decode cX1_mixedWithLamp 104 = .ok (.iconst 0, 1) := by decide +kernel
theorem dX1_mixedWithLamp_105 : decode cX1_mixedWithLamp 105 = .ok (.istore 6, 2) := by decide +kernel
theorem dX1_mixedWithLamp_107 : decode cX1_mixedWithLamp 107 = .ok (.iload 6, 2) := by decide +kernel
theorem dX1_mixedWithLamp_109 : decode cX1_mixedWithLamp 109 = .ok (.aload_n 3, 1) := by decide +kernel
theorem dX1_mixedWithLamp_110 : decode cX1_mixedWithLamp 110 = .ok (.getfield 46, 3) := by decide +kernel
theorem dX1_mixedWithLamp_113 : decode cX1_mixedWithLamp 113 = .ok (.if_icmp .ge 39, 3) := by decide +kernel
theorem dX1_mixedWithLamp_116 : decode cX1_mixedWithLamp 116 = .ok (.lload 4, 2) := by decide +kernel
theorem dX1_mixedWithLamp_118 : decode cX1_mixedWithLamp 118 = .ok (.aload_n 3, 1) := by decide +kernel
theorem dX1_mixedWithLamp_119 : decode cX1_mixedWithLamp 119 = .ok (.getfield 57, 3) := by decide +kernel
theorem dX1_mixedWithLamp_122 : decode cX1_mixedWithLamp 122 = .ok (.iload 6, 2) := by decide +kernel
theorem dX1_mixedWithLamp_124 : decode cX1_mixedWithLamp 124 = .ok (.iaload, 1) := by decide +kernel
theorem dX1_mixedWithLamp_125 : decode cX1_mixedWithLamp 125 = .ok (.i2l, 1) := by decide +kernel
theorem dX1_mixedWithLamp_126 : decode cX1_mixedWithLamp 126 = .ok (.invokestatic 131, 3) := by decide +kernel
theorem dX1_mixedWithLamp_129 : decode cX1_mixedWithLamp 129 = .ok (.lstore 4, 2) := by decide +kernel
theorem dX1_mixedWithLamp_131 : decode cX1_mixedWithLamp 131 = .ok (.lload 4, 2) := by decide +kernel
theorem dX1_mixedWithLamp_133 : decode cX1_mixedWithLamp 133 = .ok (.aload_n 3, 1) := by decide +kernel
theorem dX1_mixedWithLamp_134 : decode cX1_mixedWithLamp 134 = .ok (.getfield 61, 3) := by decide +kernel
theorem dX1_mixedWithLamp_137 : decode cX1_mixedWithLamp 137 = .ok (.iload 6, 2) := by decide +kernel
theorem dX1_mixedWithLamp_139 : decode cX1_mixedWithLamp 139 = .ok (.iaload, 1) := by decide +kernel
theorem dX1_mixedWithLamp_140 : decode cX1_mixedWithLamp 140 = .ok (.i2l, 1) := by decide +kernel
theorem dX1_mixedWithLamp_141 : decode cX1_mixedWithLamp 141 = .ok (.invokestatic 131, 3) := by decide +kernel
theorem dX1_mixedWithLamp_144 : decode cX1_mixedWithLamp 144 = .ok (.lstore 4, 2) := by decide +kernel
theorem dX1_mixedWithLamp_146 : decode cX1_mixedWithLamp 146 = .ok (.iinc 6 1, 3) := by decide +kernel
theorem dX1_mixedWithLamp_149 : decode cX1_mixedWithLamp 149 = .ok (.goto (-42), 3) := by decide +kernel
theorem dX1_mixedWithLamp_152 : decode cX1_mixedWithLamp 152 = .ok (.lload 4, 2) := by decide +kernel
theorem dX1_mixedWithLamp_154 : decode cX1_mixedWithLamp 154 = .ok (.lreturn, 1) := by decide +kernel
theorem dX1_mixed_0 : decode cX1_mixed 0 = .ok (.lload_n 0, 1) := by decide +kernel
theorem dX1_mixed_1 : decode cX1_mixed 1 = .ok (.ldc2_w 139, 3) := by decide +kernel
theorem dX1_mixed_4 : decode cX1_mixed 4 = .ok (.lmul, 1) := by decide +kernel
theorem dX1_mixed_5 : decode cX1_mixed 5 = .ok (.lload_n 2, 1) := by decide +kernel
theorem dX1_mixed_6 : decode cX1_mixed 6 = .ok (.ladd, 1) := by decide +kernel
theorem dX1_mixed_7 : decode cX1_mixed 7 = .ok (.lreturn, 1) := by decide +kernel
theorem dX1_needLamp_0 : decode cX1_needLamp 0 = .ok (.iload_n 1, 1) := by decide +kernel
theorem dX1_needLamp_1 : decode cX1_needLamp 1 = .ok (.ifCond .lt 11, 3) := by decide +kernel
theorem dX1_needLamp_4 : decode cX1_needLamp 4 = .ok (.iload_n 1, 1) := by decide +kernel
theorem dX1_needLamp_5 : decode cX1_needLamp 5 = .ok (.aload_n 0, 1) := by decide +kernel
theorem dX1_needLamp_6 : decode cX1_needLamp 6 = .ok (.getfield 20, 3) := by decide +kernel
theorem dX1_needLamp_9 : decode cX1_needLamp 9 = .ok (.if_icmp .lt 13, 3) := by decide +kernel
theorem dX1_needLamp_12 : decode cX1_needLamp 12 = .ok (.new 141, 3) := by decide +kernel
theorem dX1_needLamp_15 : decode cX1_needLamp 15 = .ok (.dup, 1) := by decide +kernel
theorem dX1_needLamp_16 : decode cX1_needLamp 16 = .ok (.ldc 143, 2) := by decide +kernel
theorem dX1_needLamp_18 : decode cX1_needLamp 18 = .ok (.invokespecial 145, 3) := by decide +kernel
theorem dX1_needLamp_21 : decode cX1_needLamp 21 = .ok (.athrow, 1) := by decide +kernel
theorem dX1_needLamp_22 : decode cX1_needLamp 22 = .ok (.return_, 1) := by decide +kernel
set_option maxRecDepth 20000 in
theorem ggX1_needBeat_X1_needLamp : GoodIn wsX1_needBeat wsX1_needLamp := goodIn_ca (goodIn_r _ [8, 1, 2, 9, 10, 11, 12, 13, 14] (by decide +kernel) (by decide +kernel)) (goodIn_sub (fun _ h => List.mem_cons_of_mem _ (List.mem_append_right _ h)) (by decide +kernel))
set_option maxRecDepth 20000 in
theorem gX1_needBeat_X1_needLamp : GoodIn wsX1_needBeat (wsV RX1 35 RX1 yX1_needLamp wsX1_needLamp) := goodIn_app (goodIn_of _ (by decide +kernel)) ggX1_needBeat_X1_needLamp
theorem dX1_needBeat_0 : decode cX1_needBeat 0 = .ok (.aload_n 0, 1) := by decide +kernel
theorem dX1_needBeat_1 : decode cX1_needBeat 1 = .ok (.iload_n 1, 1) := by decide +kernel
theorem dX1_needBeat_2 : decode cX1_needBeat 2 = .ok (.invokevirtual 35, 3) := by decide +kernel
theorem dX1_needBeat_5 : decode cX1_needBeat 5 = .ok (.iload_n 2, 1) := by decide +kernel
theorem dX1_needBeat_6 : decode cX1_needBeat 6 = .ok (.ifCond .lt 16, 3) := by decide +kernel
theorem dX1_needBeat_9 : decode cX1_needBeat 9 = .ok (.iload_n 2, 1) := by decide +kernel
theorem dX1_needBeat_10 : decode cX1_needBeat 10 = .ok (.aload_n 0, 1) := by decide +kernel
theorem dX1_needBeat_11 : decode cX1_needBeat 11 = .ok (.getfield 11, 3) := by decide +kernel
theorem dX1_needBeat_14 : decode cX1_needBeat 14 = .ok (.iload_n 1, 1) := by decide +kernel
theorem dX1_needBeat_15 : decode cX1_needBeat 15 = .ok (.aaload, 1) := by decide +kernel
theorem dX1_needBeat_16 : decode cX1_needBeat 16 = .ok (.getfield 46, 3) := by decide +kernel
theorem dX1_needBeat_19 : decode cX1_needBeat 19 = .ok (.if_icmp .lt 13, 3) := by decide +kernel
theorem dX1_needBeat_22 : decode cX1_needBeat 22 = .ok (.new 141, 3) := by decide +kernel
theorem dX1_needBeat_25 : decode cX1_needBeat 25 = .ok (.dup, 1) := by decide +kernel
theorem dX1_needBeat_26 : decode cX1_needBeat 26 = .ok (.ldc 146, 2) := by decide +kernel
theorem dX1_needBeat_28 : decode cX1_needBeat 28 = .ok (.invokespecial 145, 3) := by decide +kernel
theorem dX1_needBeat_31 : decode cX1_needBeat 31 = .ok (.athrow, 1) := by decide +kernel
theorem dX1_needBeat_32 : decode cX1_needBeat 32 = .ok (.return_, 1) := by decide +kernel
set_option maxRecDepth 20000 in
theorem ggX1_needPair_X1_needLamp : GoodIn wsX1_needPair wsX1_needLamp := goodIn_ca (goodIn_r _ [7, 8, 9, 10, 11, 12, 13, 14, 15] (by decide +kernel) (by decide +kernel)) (goodIn_sub (fun _ h => List.mem_cons_of_mem _ (List.mem_append_right _ h)) (by decide +kernel))
set_option maxRecDepth 20000 in
theorem gX1_needPair_X1_needLamp : GoodIn wsX1_needPair (wsV RX1 35 RX1 yX1_needLamp wsX1_needLamp) := goodIn_app (goodIn_of _ (by decide +kernel)) ggX1_needPair_X1_needLamp
theorem dX1_needPair_0 : decode cX1_needPair 0 = .ok (.aload_n 0, 1) := by decide +kernel
theorem dX1_needPair_1 : decode cX1_needPair 1 = .ok (.iload_n 1, 1) := by decide +kernel
theorem dX1_needPair_2 : decode cX1_needPair 2 = .ok (.invokevirtual 35, 3) := by decide +kernel
theorem dX1_needPair_5 : decode cX1_needPair 5 = .ok (.aload_n 0, 1) := by decide +kernel
theorem dX1_needPair_6 : decode cX1_needPair 6 = .ok (.iload_n 2, 1) := by decide +kernel
theorem dX1_needPair_7 : decode cX1_needPair 7 = .ok (.invokevirtual 35, 3) := by decide +kernel
theorem dX1_needPair_10 : decode cX1_needPair 10 = .ok (.iload_n 1, 1) := by decide +kernel
theorem dX1_needPair_11 : decode cX1_needPair 11 = .ok (.iload_n 2, 1) := by decide +kernel
theorem dX1_needPair_12 : decode cX1_needPair 12 = .ok (.if_icmp .ne 13, 3) := by decide +kernel
theorem dX1_needPair_15 : decode cX1_needPair 15 = .ok (.new 148, 3) := by decide +kernel
theorem dX1_needPair_18 : decode cX1_needPair 18 = .ok (.dup, 1) := by decide +kernel
theorem dX1_needPair_19 : decode cX1_needPair 19 = .ok (.ldc 150, 2) := by decide +kernel
theorem dX1_needPair_21 : decode cX1_needPair 21 = .ok (.invokespecial 152, 3) := by decide +kernel
theorem dX1_needPair_24 : decode cX1_needPair 24 = .ok (.athrow, 1) := by decide +kernel
theorem dX1_needPair_25 : decode cX1_needPair 25 = .ok (.return_, 1) := by decide +kernel
theorem dX1_needNumber_0 : decode cX1_needNumber 0 = .ok (.getstatic 153, 3) := by decide +kernel
theorem dX1_needNumber_3 : decode cX1_needNumber 3 = .ok (.astore_n 1, 1) := by decide +kernel
theorem dX1_needNumber_4 : decode cX1_needNumber 4 = .ok (.aload_n 1, 1) := by decide +kernel
theorem dX1_needNumber_5 : decode cX1_needNumber 5 = .ok (.arraylength, 1) := by decide +kernel
theorem dX1_needNumber_6 : decode cX1_needNumber 6 = .ok (.istore_n 2, 1) := by decide +kernel
theorem dX1_needNumber_7 : decode cX1_needNumber 7 = .ok (.iconst 0, 1) := by decide +kernel
theorem dX1_needNumber_8 : decode cX1_needNumber 8 = .ok (.istore_n 3, 1) := by decide +kernel
theorem dX1_needNumber_9 : decode cX1_needNumber 9 = .ok (.iload_n 3, 1) := by decide +kernel
theorem dX1_needNumber_10 : decode cX1_needNumber 10 = .ok (.iload_n 2, 1) := by decide +kernel
theorem dX1_needNumber_11 : decode cX1_needNumber 11 = .ok (.if_icmp .ge 21, 3) := by decide +kernel
theorem dX1_needNumber_14 : decode cX1_needNumber 14 = .ok (.aload_n 1, 1) := by decide +kernel
theorem dX1_needNumber_15 : decode cX1_needNumber 15 = .ok (.iload_n 3, 1) := by decide +kernel
theorem dX1_needNumber_16 : decode cX1_needNumber 16 = .ok (.iaload, 1) := by decide +kernel
theorem dX1_needNumber_17 : decode cX1_needNumber 17 = .ok (.istore 4, 2) := by decide +kernel
theorem dX1_needNumber_19 : decode cX1_needNumber 19 = .ok (.iload_n 0, 1) := by decide +kernel
theorem dX1_needNumber_20 : decode cX1_needNumber 20 = .ok (.iload 4, 2) := by decide +kernel
theorem dX1_needNumber_22 : decode cX1_needNumber 22 = .ok (.if_icmp .ne 4, 3) := by decide +kernel
theorem dX1_needNumber_25 : decode cX1_needNumber 25 = .ok (.return_, 1) := by decide +kernel
theorem dX1_needNumber_26 : decode cX1_needNumber 26 = .ok (.iinc 3 1, 3) := by decide +kernel
theorem dX1_needNumber_29 : decode cX1_needNumber 29 = .ok (.goto (-20), 3) := by decide +kernel
theorem dX1_needNumber_32 : decode cX1_needNumber 32 = .ok (.new 148, 3) := by decide +kernel
theorem dX1_needNumber_35 : decode cX1_needNumber 35 = .ok (.dup, 1) := by decide +kernel
theorem dX1_needNumber_36 : decode cX1_needNumber 36 = .ok (.ldc 156, 2) := by decide +kernel
theorem dX1_needNumber_38 : decode cX1_needNumber 38 = .ok (.invokespecial 152, 3) := by decide +kernel
theorem dX1_needNumber_41 : decode cX1_needNumber 41 = .ok (.athrow, 1) := by decide +kernel
theorem dX1_needOffset_0 : decode cX1_needOffset 0 = .ok (.iload_n 0, 1) := by decide +kernel
theorem dX1_needOffset_1 : decode cX1_needOffset 1 = .ok (.ifCond .lt 8, 3) := by decide +kernel
theorem dX1_needOffset_4 : decode cX1_needOffset 4 = .ok (.iload_n 0, 1) := by decide +kernel
theorem dX1_needOffset_5 : decode cX1_needOffset 5 = .ok (.iload_n 1, 1) := by decide +kernel
theorem dX1_needOffset_6 : decode cX1_needOffset 6 = .ok (.if_icmp .lt 13, 3) := by decide +kernel
theorem dX1_needOffset_9 : decode cX1_needOffset 9 = .ok (.new 148, 3) := by decide +kernel
theorem dX1_needOffset_12 : decode cX1_needOffset 12 = .ok (.dup, 1) := by decide +kernel
theorem dX1_needOffset_13 : decode cX1_needOffset 13 = .ok (.ldc 158, 2) := by decide +kernel
theorem dX1_needOffset_15 : decode cX1_needOffset 15 = .ok (.invokespecial 152, 3) := by decide +kernel
theorem dX1_needOffset_18 : decode cX1_needOffset 18 = .ok (.athrow, 1) := by decide +kernel
theorem dX1_needOffset_19 : decode cX1_needOffset 19 = .ok (.return_, 1) := by decide +kernel
theorem dX1_needMoment_0 : decode cX1_needMoment 0 = .ok (.iload_n 0, 1) := by decide +kernel
theorem dX1_needMoment_1 : decode cX1_needMoment 1 = .ok (.ifCond .lt 9, 3) := by decide +kernel
theorem dX1_needMoment_4 : decode cX1_needMoment 4 = .ok (.iload_n 0, 1) := by decide +kernel
theorem dX1_needMoment_5 : decode cX1_needMoment 5 = .ok (.ldc 160, 2) := by decide +kernel
theorem dX1_needMoment_7 : decode cX1_needMoment 7 = .ok (.if_icmp .le 13, 3) := by decide +kernel
theorem dX1_needMoment_10 : decode cX1_needMoment 10 = .ok (.new 148, 3) := by decide +kernel
theorem dX1_needMoment_13 : decode cX1_needMoment 13 = .ok (.dup, 1) := by decide +kernel
theorem dX1_needMoment_14 : decode cX1_needMoment 14 = .ok (.ldc 161, 2) := by decide +kernel
theorem dX1_needMoment_16 : decode cX1_needMoment 16 = .ok (.invokespecial 152, 3) := by decide +kernel
theorem dX1_needMoment_19 : decode cX1_needMoment 19 = .ok (.athrow, 1) := by decide +kernel
theorem dX1_needMoment_20 : decode cX1_needMoment 20 = .ok (.return_, 1) := by decide +kernel
theorem dX1_needMoments_0 : decode cX1_needMoments 0 = .ok (.iload_n 0, 1) := by decide +kernel
theorem dX1_needMoments_1 : decode cX1_needMoments 1 = .ok (.iconst 1, 1) := by decide +kernel
theorem dX1_needMoments_2 : decode cX1_needMoments 2 = .ok (.if_icmp .lt 8, 3) := by decide +kernel
theorem dX1_needMoments_5 : decode cX1_needMoments 5 = .ok (.iload_n 0, 1) := by decide +kernel
theorem dX1_needMoments_6 : decode cX1_needMoments 6 = .ok (.iload_n 1, 1) := by decide +kernel
theorem dX1_needMoments_7 : decode cX1_needMoments 7 = .ok (.if_icmp .le 13, 3) := by decide +kernel
theorem dX1_needMoments_10 : decode cX1_needMoments 10 = .ok (.new 148, 3) := by decide +kernel
theorem dX1_needMoments_13 : decode cX1_needMoments 13 = .ok (.dup, 1) := by decide +kernel
theorem dX1_needMoments_14 : decode cX1_needMoments 14 = .ok (.ldc 163, 2) := by decide +kernel
theorem dX1_needMoments_16 : decode cX1_needMoments 16 = .ok (.invokespecial 152, 3) := by decide +kernel
theorem dX1_needMoments_19 : decode cX1_needMoments 19 = .ok (.athrow, 1) := by decide +kernel
theorem dX1_needMoments_20 : decode cX1_needMoments 20 = .ok (.return_, 1) := by decide +kernel
set_option maxRecDepth 20000 in
theorem ggX1_changesOfLamps_X0_changesAt : GoodIn wsX1_changesOfLamps wsX0_changesAt := goodIn_r _ [7, 8, 9, 10, 6, 11, 12, 13, 14, 15, 16, 17, 23, 24, 25, 26, 27] (by decide +kernel) (by decide +kernel)
set_option maxRecDepth 20000 in
theorem gX1_changesOfLamps_X0_changesAt : GoodIn wsX1_changesOfLamps (wsV RX1 165 RX0 yX0_changesAt wsX0_changesAt) := goodIn_app (goodIn_of _ (by decide +kernel)) ggX1_changesOfLamps_X0_changesAt
theorem dX1_changesOfLamps_0 : decode cX1_changesOfLamps 0 = .ok (.iconst 0, 1) := by decide +kernel
theorem dX1_changesOfLamps_1 : decode cX1_changesOfLamps 1 = .ok (.istore_n 2, 1) := by decide +kernel
theorem dX1_changesOfLamps_2 : decode cX1_changesOfLamps 2 = .ok (.iconst 0, 1) := by decide +kernel
theorem dX1_changesOfLamps_3 : decode cX1_changesOfLamps 3 = .ok (.istore_n 3, 1) := by decide +kernel
theorem dX1_changesOfLamps_4 : decode cX1_changesOfLamps 4 = .ok (.iload_n 3, 1) := by decide +kernel
theorem dX1_changesOfLamps_5 : decode cX1_changesOfLamps 5 = .ok (.aload_n 0, 1) := by decide +kernel
theorem dX1_changesOfLamps_6 : decode cX1_changesOfLamps 6 = .ok (.getfield 20, 3) := by decide +kernel
theorem dX1_changesOfLamps_9 : decode cX1_changesOfLamps 9 = .ok (.if_icmp .ge 25, 3) := by decide +kernel
theorem dX1_changesOfLamps_12 : decode cX1_changesOfLamps 12 = .ok (.aload_n 0, 1) := by decide +kernel
theorem dX1_changesOfLamps_13 : decode cX1_changesOfLamps 13 = .ok (.getfield 11, 3) := by decide +kernel
theorem dX1_changesOfLamps_16 : decode cX1_changesOfLamps 16 = .ok (.iload_n 3, 1) := by decide +kernel
theorem dX1_changesOfLamps_17 : decode cX1_changesOfLamps 17 = .ok (.aaload, 1) := by decide +kernel
theorem dX1_changesOfLamps_18 : decode cX1_changesOfLamps 18 = .ok (.iload_n 1, 1) := by decide +kernel
theorem dX1_changesOfLamps_19 : decode cX1_changesOfLamps 19 = .ok (.invokevirtual 165, 3) := by decide +kernel
theorem dX1_changesOfLamps_22 : decode cX1_changesOfLamps 22 = .ok (.ifCond .eq 6, 3) := by decide +kernel
theorem dX1_changesOfLamps_25 : decode cX1_changesOfLamps 25 = .ok (.iinc 2 1, 3) := by decide +kernel
theorem dX1_changesOfLamps_28 : decode cX1_changesOfLamps 28 = .ok (.iinc 3 1, 3) := by decide +kernel
theorem dX1_changesOfLamps_31 : decode cX1_changesOfLamps 31 = .ok (.goto (-27), 3) := by decide +kernel
theorem dX1_changesOfLamps_34 : decode cX1_changesOfLamps 34 = .ok (.iload_n 2, 1) := by decide +kernel
theorem dX1_changesOfLamps_35 : decode cX1_changesOfLamps 35 = .ok (.ireturn, 1) := by decide +kernel
set_option maxRecDepth 20000 in
theorem ggX1_litCount_X0_litAt : GoodIn wsX1_litCount wsX0_litAt := goodIn_r _ [7, 8, 9, 10, 11, 6, 12, 13, 14, 15, 16, 17, 18, 19, 20, 21, 22, 28, 29, 30, 31, 32] (by decide +kernel) (by decide +kernel)
set_option maxRecDepth 20000 in
theorem gX1_litCount_X0_litAt : GoodIn wsX1_litCount (wsV RX1 87 RX0 yX0_litAt wsX0_litAt) := goodIn_app (goodIn_of _ (by decide +kernel)) ggX1_litCount_X0_litAt
theorem dX1_litCount_0 : decode cX1_litCount 0 = .ok (.iconst 0, 1) := by decide +kernel
theorem dX1_litCount_1 : decode cX1_litCount 1 = .ok (.istore_n 2, 1) := by decide +kernel
theorem dX1_litCount_2 : decode cX1_litCount 2 = .ok (.iconst 0, 1) := by decide +kernel
theorem dX1_litCount_3 : decode cX1_litCount 3 = .ok (.istore_n 3, 1) := by decide +kernel
theorem dX1_litCount_4 : decode cX1_litCount 4 = .ok (.iload_n 3, 1) := by decide +kernel
theorem dX1_litCount_5 : decode cX1_litCount 5 = .ok (.aload_n 0, 1) := by decide +kernel
theorem dX1_litCount_6 : decode cX1_litCount 6 = .ok (.getfield 20, 3) := by decide +kernel
theorem dX1_litCount_9 : decode cX1_litCount 9 = .ok (.if_icmp .ge 25, 3) := by decide +kernel
theorem dX1_litCount_12 : decode cX1_litCount 12 = .ok (.aload_n 0, 1) := by decide +kernel
theorem dX1_litCount_13 : decode cX1_litCount 13 = .ok (.getfield 11, 3) := by decide +kernel
theorem dX1_litCount_16 : decode cX1_litCount 16 = .ok (.iload_n 3, 1) := by decide +kernel
theorem dX1_litCount_17 : decode cX1_litCount 17 = .ok (.aaload, 1) := by decide +kernel
theorem dX1_litCount_18 : decode cX1_litCount 18 = .ok (.iload_n 1, 1) := by decide +kernel
theorem dX1_litCount_19 : decode cX1_litCount 19 = .ok (.invokevirtual 87, 3) := by decide +kernel
theorem dX1_litCount_22 : decode cX1_litCount 22 = .ok (.ifCond .eq 6, 3) := by decide +kernel
theorem dX1_litCount_25 : decode cX1_litCount 25 = .ok (.iinc 2 1, 3) := by decide +kernel
theorem dX1_litCount_28 : decode cX1_litCount 28 = .ok (.iinc 3 1, 3) := by decide +kernel
theorem dX1_litCount_31 : decode cX1_litCount 31 = .ok (.goto (-27), 3) := by decide +kernel
theorem dX1_litCount_34 : decode cX1_litCount 34 = .ok (.iload_n 2, 1) := by decide +kernel
theorem dX1_litCount_35 : decode cX1_litCount 35 = .ok (.ireturn, 1) := by decide +kernel
set_option maxRecDepth 20000 in
theorem ggX1_darkAt_X0_litAt : GoodIn wsX1_darkAt wsX0_litAt := goodIn_r _ [7, 8, 9, 10, 11, 6, 12, 13, 14, 15, 16, 17, 18, 19, 20, 21, 22, 28, 29, 30, 31, 32] (by decide +kernel) (by decide +kernel)
set_option maxRecDepth 20000 in
theorem gX1_darkAt_X0_litAt : GoodIn wsX1_darkAt (wsV RX1 87 RX0 yX0_litAt wsX0_litAt) := goodIn_app (goodIn_of _ (by decide +kernel)) ggX1_darkAt_X0_litAt
theorem dX1_darkAt_0 : decode cX1_darkAt 0 = .ok (.iconst 0, 1) := by decide +kernel
theorem dX1_darkAt_1 : decode cX1_darkAt 1 = .ok (.istore_n 3, 1) := by decide +kernel
theorem dX1_darkAt_2 : decode cX1_darkAt 2 = .ok (.iload_n 3, 1) := by decide +kernel
theorem dX1_darkAt_3 : decode cX1_darkAt 3 = .ok (.aload_n 0, 1) := by decide +kernel
theorem dX1_darkAt_4 : decode cX1_darkAt 4 = .ok (.getfield 20, 3) := by decide +kernel
theorem dX1_darkAt_7 : decode cX1_darkAt 7 = .ok (.if_icmp .ge 29, 3) := by decide +kernel
theorem dX1_darkAt_10 : decode cX1_darkAt 10 = .ok (.iload_n 3, 1) := by decide +kernel
theorem dX1_darkAt_11 : decode cX1_darkAt 11 = .ok (.iload_n 2, 1) := by decide +kernel
theorem dX1_darkAt_12 : decode cX1_darkAt 12 = .ok (.if_icmp .eq 18, 3) := by decide +kernel
theorem dX1_darkAt_15 : decode cX1_darkAt 15 = .ok (.aload_n 0, 1) := by decide +kernel
theorem dX1_darkAt_16 : decode cX1_darkAt 16 = .ok (.getfield 11, 3) := by decide +kernel
theorem dX1_darkAt_19 : decode cX1_darkAt 19 = .ok (.iload_n 3, 1) := by decide +kernel
theorem dX1_darkAt_20 : decode cX1_darkAt 20 = .ok (.aaload, 1) := by decide +kernel
theorem dX1_darkAt_21 : decode cX1_darkAt 21 = .ok (.iload_n 1, 1) := by decide +kernel
theorem dX1_darkAt_22 : decode cX1_darkAt 22 = .ok (.invokevirtual 87, 3) := by decide +kernel
theorem dX1_darkAt_25 : decode cX1_darkAt 25 = .ok (.ifCond .eq 5, 3) := by decide +kernel
theorem dX1_darkAt_28 : decode cX1_darkAt 28 = .ok (.iconst 0, 1) := by decide +kernel
theorem dX1_darkAt_29 : decode cX1_darkAt 29 = .ok (.ireturn, 1) := by decide +kernel
theorem dX1_darkAt_30 : decode cX1_darkAt 30 = .ok (.iinc 3 1, 3) := by decide +kernel
theorem dX1_darkAt_33 : decode cX1_darkAt 33 = .ok (.goto (-31), 3) := by decide +kernel
theorem dX1_darkAt_36 : decode cX1_darkAt 36 = .ok (.iconst 1, 1) := by decide +kernel
theorem dX1_darkAt_37 : decode cX1_darkAt 37 = .ok (.ireturn, 1) := by decide +kernel
set_option maxRecDepth 20000 in
theorem ggX1_darkMoments_X1_darkAt : GoodIn wsX1_darkMoments wsX1_darkAt := goodIn_r _ [6, 7, 8, 9, 10, 11, 12, 13, 14, 15, 16, 17, 18, 19, 20, 21, 22, 23, 24, 25, 26, 27, 28, 29, 30, 31, 32, 33, 34, 35, 36, 37, 38] (by decide +kernel) (by decide +kernel)
set_option maxRecDepth 20000 in
theorem gX1_darkMoments_X1_darkAt : GoodIn wsX1_darkMoments (wsV RX1 93 RX1 yX1_darkAt wsX1_darkAt) := goodIn_app (goodIn_of _ (by decide +kernel)) ggX1_darkMoments_X1_darkAt
theorem dX1_darkMoments_0 : decode cX1_darkMoments 0 = .ok (.iconst 0, 1) := by decide +kernel
theorem dX1_darkMoments_1 : decode cX1_darkMoments 1 = .ok (.istore_n 3, 1) := by decide +kernel
theorem dX1_darkMoments_2 : decode cX1_darkMoments 2 = .ok (.iconst 1, 1) := by decide +kernel
theorem dX1_darkMoments_3 : decode cX1_darkMoments 3 = .ok (.istore 4, 2) := by decide +kernel
theorem dX1_darkMoments_5 : decode cX1_darkMoments 5 = .ok (.iload 4, 2) := by decide +kernel
theorem dX1_darkMoments_7 : decode cX1_darkMoments 7 = .ok (.iload_n 1, 1) := by decide +kernel
theorem dX1_darkMoments_8 : decode cX1_darkMoments 8 = .ok (.if_icmp .gt 27, 3) := by decide +kernel
theorem dX1_darkMoments_11 : decode cX1_darkMoments 11 = .ok (.aload_n 0, 1) := by decide +kernel
theorem dX1_darkMoments_12 : decode cX1_darkMoments 12 = .ok (.aload_n 0, 1) := by decide +kernel
theorem dX1_darkMoments_13 : decode cX1_darkMoments 13 = .ok (.getfield 73, 3) := by decide +kernel
theorem dX1_darkMoments_16 : decode cX1_darkMoments 16 = .ok (.iload 4, 2) := by decide +kernel
theorem dX1_darkMoments_18 : decode cX1_darkMoments 18 = .ok (.iadd, 1) := by decide +kernel
theorem dX1_darkMoments_19 : decode cX1_darkMoments 19 = .ok (.iload_n 2, 1) := by decide +kernel
theorem dX1_darkMoments_20 : decode cX1_darkMoments 20 = .ok (.invokevirtual 93, 3) := by decide +kernel
theorem dX1_darkMoments_23 : decode cX1_darkMoments 23 = .ok (.ifCond .eq 6, 3) := by decide +kernel
theorem dX1_darkMoments_26 : decode cX1_darkMoments 26 = .ok (.iinc 3 1, 3) := by decide +kernel
theorem dX1_darkMoments_29 : decode cX1_darkMoments 29 = .ok (.iinc 4 1, 3) := by decide +kernel
theorem dX1_darkMoments_32 : decode cX1_darkMoments 32 = .ok (.goto (-27), 3) := by decide +kernel
theorem dX1_darkMoments_35 : decode cX1_darkMoments 35 = .ok (.iload_n 3, 1) := by decide +kernel
theorem dX1_darkMoments_36 : decode cX1_darkMoments 36 = .ok (.ireturn, 1) := by decide +kernel
set_option maxRecDepth 20000 in
theorem ggX1_collideAt_X0_changesAt : GoodIn wsX1_collideAt wsX0_changesAt := goodIn_r _ [6, 7, 8, 9, 5, 10, 11, 12, 13, 14, 15, 16, 22, 23, 24, 25, 26] (by decide +kernel) (by decide +kernel)
set_option maxRecDepth 20000 in
theorem gX1_collideAt_X0_changesAt : GoodIn wsX1_collideAt (wsV RX1 165 RX0 yX0_changesAt wsX0_changesAt) := goodIn_app (goodIn_of _ (by decide +kernel)) ggX1_collideAt_X0_changesAt
theorem dX1_collideAt_0 : decode cX1_collideAt 0 = .ok (.aload_n 0, 1) := by decide +kernel
theorem dX1_collideAt_1 : decode cX1_collideAt 1 = .ok (.getfield 11, 3) := by decide +kernel
theorem dX1_collideAt_4 : decode cX1_collideAt 4 = .ok (.iload_n 1, 1) := by decide +kernel
theorem dX1_collideAt_5 : decode cX1_collideAt 5 = .ok (.aaload, 1) := by decide +kernel
theorem dX1_collideAt_6 : decode cX1_collideAt 6 = .ok (.iload_n 3, 1) := by decide +kernel
theorem dX1_collideAt_7 : decode cX1_collideAt 7 = .ok (.invokevirtual 165, 3) := by decide +kernel
theorem dX1_collideAt_10 : decode cX1_collideAt 10 = .ok (.ifCond .eq 20, 3) := by decide +kernel
theorem dX1_collideAt_13 : decode cX1_collideAt 13 = .ok (.aload_n 0, 1) := by decide +kernel
theorem dX1_collideAt_14 : decode cX1_collideAt 14 = .ok (.getfield 11, 3) := by decide +kernel
theorem dX1_collideAt_17 : decode cX1_collideAt 17 = .ok (.iload_n 2, 1) := by decide +kernel
theorem dX1_collideAt_18 : decode cX1_collideAt 18 = .ok (.aaload, 1) := by decide +kernel
theorem dX1_collideAt_19 : decode cX1_collideAt 19 = .ok (.iload_n 3, 1) := by decide +kernel
theorem dX1_collideAt_20 : decode cX1_collideAt 20 = .ok (.invokevirtual 165, 3) := by decide +kernel
theorem dX1_collideAt_23 : decode cX1_collideAt 23 = .ok (.ifCond .eq 7, 3) := by decide +kernel
theorem dX1_collideAt_26 : decode cX1_collideAt 26 = .ok (.iconst 1, 1) := by decide +kernel
theorem dX1_collideAt_27 : decode cX1_collideAt 27 = .ok (.goto 4, 3) := by decide +kernel
theorem dX1_collideAt_30 : decode cX1_collideAt 30 = .ok (.iconst 0, 1) := by decide +kernel
theorem dX1_collideAt_31 : decode cX1_collideAt 31 = .ok (.ireturn, 1) := by decide +kernel
theorem dX2_init_0 : decode cX2_init 0 = .ok (.aload_n 0, 1) := by decide +kernel
theorem dX2_init_1 : decode cX2_init 1 = .ok (.invokespecial 1, 3) := by decide +kernel
theorem dX2_init_4 : decode cX2_init 4 = .ok (.aload_n 0, 1) := by decide +kernel
theorem dX2_init_5 : decode cX2_init 5 = .ok (.bipush 8, 2) := by decide +kernel
theorem dX2_init_7 : decode cX2_init 7 = .ok (.newarray .boolean, 2) := by decide +kernel
theorem dX2_init_9 : decode cX2_init 9 = .ok (.putfield 9, 3) := by decide +kernel
theorem dX2_init_12 : decode cX2_init 12 = .ok (.aload_n 0, 1) := by decide +kernel
theorem dX2_init_13 : decode cX2_init 13 = .ok (.bipush 8, 2) := by decide +kernel
theorem dX2_init_15 : decode cX2_init 15 = .ok (.newarray .boolean, 2) := by decide +kernel
theorem dX2_init_17 : decode cX2_init 17 = .ok (.putfield 13, 3) := by decide +kernel
theorem dX2_init_20 : decode cX2_init 20 = .ok (.aload_n 0, 1) := by decide +kernel
theorem dX2_init_21 : decode cX2_init 21 = .ok (.bipush 8, 2) := by decide +kernel
theorem dX2_init_23 : decode cX2_init 23 = .ok (.newarray .int, 2) := by decide +kernel
theorem dX2_init_25 : decode cX2_init 25 = .ok (.putfield 16, 3) := by decide +kernel
theorem dX2_init_28 : decode cX2_init 28 = .ok (.aload_n 0, 1) := by decide +kernel
theorem dX2_init_29 : decode cX2_init 29 = .ok (.bipush 32, 2) := by decide +kernel
theorem dX2_init_31 : decode cX2_init 31 = .ok (.newarray .int, 2) := by decide +kernel
theorem dX2_init_33 : decode cX2_init 33 = .ok (.putfield 20, 3) := by decide +kernel
theorem dX2_init_36 : decode cX2_init 36 = .ok (.aload_n 0, 1) := by decide +kernel
theorem dX2_init_37 : decode cX2_init 37 = .ok (.bipush 32, 2) := by decide +kernel
theorem dX2_init_39 : decode cX2_init 39 = .ok (.newarray .int, 2) := by decide +kernel
theorem dX2_init_41 : decode cX2_init 41 = .ok (.putfield 23, 3) := by decide +kernel
theorem dX2_init_44 : decode cX2_init 44 = .ok (.return_, 1) := by decide +kernel
theorem dX2_thrown_0 : decode cX2_thrown 0 = .ok (.aload_n 0, 1) := by decide +kernel
theorem dX2_thrown_1 : decode cX2_thrown 1 = .ok (.getfield 26, 3) := by decide +kernel
theorem dX2_thrown_4 : decode cX2_thrown 4 = .ok (.ireturn, 1) := by decide +kernel
theorem dX2_no_0 : decode cX2_no 0 = .ok (.aload_n 0, 1) := by decide +kernel
theorem dX2_no_1 : decode cX2_no 1 = .ok (.iload_n 1, 1) := by decide +kernel
theorem dX2_no_2 : decode cX2_no 2 = .ok (.putfield 26, 3) := by decide +kernel
theorem dX2_no_5 : decode cX2_no 5 = .ok (.iconst 0, 1) := by decide +kernel
theorem dX2_no_6 : decode cX2_no 6 = .ok (.ireturn, 1) := by decide +kernel
theorem dX2_isNot_0 : decode cX2_isNot 0 = .ok (.aload_n 0, 1) := by decide +kernel
theorem dX2_isNot_1 : decode cX2_isNot 1 = .ok (.iload_n 1, 1) := by decide +kernel
theorem dX2_isNot_2 : decode cX2_isNot 2 = .ok (.putfield 26, 3) := by decide +kernel
theorem dX2_isNot_5 : decode cX2_isNot 5 = .ok (.iconst 0, 1) := by decide +kernel
theorem dX2_isNot_6 : decode cX2_isNot 6 = .ok (.ireturn, 1) := by decide +kernel
theorem dX2_isIn_0 : decode cX2_isIn 0 = .ok (.iload_n 0, 1) := by decide +kernel
theorem dX2_isIn_1 : decode cX2_isIn 1 = .ok (.iload_n 1, 1) := by decide +kernel
theorem dX2_isIn_2 : decode cX2_isIn 2 = .ok (.if_icmp .lt 12, 3) := by decide +kernel
theorem dX2_isIn_5 : decode cX2_isIn 5 = .ok (.iload_n 0, 1) := by decide +kernel
theorem dX2_isIn_6 : decode cX2_isIn 6 = .ok (.iload_n 2, 1) := by decide +kernel
theorem dX2_isIn_7 : decode cX2_isIn 7 = .ok (.if_icmp .gt 7, 3) := by decide +kernel
theorem dX2_isIn_10 : decode cX2_isIn 10 = .ok (.iconst 1, 1) := by decide +kernel
theorem dX2_isIn_11 : decode cX2_isIn 11 = .ok (.goto 4, 3) := by decide +kernel
theorem dX2_isIn_14 : decode cX2_isIn 14 = .ok (.iconst 0, 1) := by decide +kernel
theorem dX2_isIn_15 : decode cX2_isIn 15 = .ok (.ireturn, 1) := by decide +kernel
set_option maxRecDepth 20000 in
theorem ggX2_isLamp_X2_isIn : GoodIn wsX2_isLamp wsX2_isIn := goodIn_r _ [5] (by decide +kernel) (by decide +kernel)
set_option maxRecDepth 20000 in
theorem gX2_isLamp_X2_isIn : GoodIn wsX2_isLamp (va_wsS RX2 33 yX2_isIn wsX2_isIn) := goodIn_app (goodIn_of _ (by decide +kernel)) ggX2_isLamp_X2_isIn
theorem dX2_isLamp_0 : decode cX2_isLamp 0 = .ok (.iload_n 1, 1) := by decide +kernel
theorem dX2_isLamp_1 : decode cX2_isLamp 1 = .ok (.iconst 0, 1) := by decide +kernel
theorem dX2_isLamp_2 : decode cX2_isLamp 2 = .ok (.aload_n 0, 1) := by decide +kernel
theorem dX2_isLamp_3 : decode cX2_isLamp 3 = .ok (.getfield 30, 3) := by decide +kernel
theorem dX2_isLamp_6 : decode cX2_isLamp 6 = .ok (.iconst 1, 1) := by decide +kernel
theorem dX2_isLamp_7 : decode cX2_isLamp 7 = .ok (.isub, 1) := by decide +kernel
theorem dX2_isLamp_8 : decode cX2_isLamp 8 = .ok (.invokestatic 33, 3) := by decide +kernel
theorem dX2_isLamp_11 : decode cX2_isLamp 11 = .ok (.ireturn, 1) := by decide +kernel
set_option maxRecDepth 20000 in
theorem ggX2_isBeat_X2_isLamp : GoodIn wsX2_isBeat wsX2_isLamp := goodIn_r _ [6, 7, 8, 9, 5, 10, 11, 12, 13, 14, 15, 16, 17, 18, 19] (by decide +kernel) (by decide +kernel)
set_option maxRecDepth 20000 in
theorem gX2_isBeat_X2_isLamp : GoodIn wsX2_isBeat (wsV RX2 37 RX2 yX2_isLamp wsX2_isLamp) := goodIn_app (goodIn_of _ (by decide +kernel)) ggX2_isBeat_X2_isLamp
set_option maxRecDepth 20000 in
theorem ggX2_isBeat_X2_isIn : GoodIn wsX2_isBeat wsX2_isIn := goodIn_r _ [10] (by decide +kernel) (by decide +kernel)
set_option maxRecDepth 20000 in
theorem gX2_isBeat_X2_isIn : GoodIn wsX2_isBeat (va_wsS RX2 33 yX2_isIn wsX2_isIn) := goodIn_app (goodIn_of _ (by decide +kernel)) ggX2_isBeat_X2_isIn
theorem dX2_isBeat_0 : decode cX2_isBeat 0 = .ok (.aload_n 0, 1) := by decide +kernel
theorem dX2_isBeat_1 : decode cX2_isBeat 1 = .ok (.iload_n 1, 1) := by decide +kernel
theorem dX2_isBeat_2 : decode cX2_isBeat 2 = .ok (.invokevirtual 37, 3) := by decide +kernel
theorem dX2_isBeat_5 : decode cX2_isBeat 5 = .ok (.ifCond .eq 23, 3) := by decide +kernel
theorem dX2_isBeat_8 : decode cX2_isBeat 8 = .ok (.iload_n 2, 1) := by decide +kernel
theorem dX2_isBeat_9 : decode cX2_isBeat 9 = .ok (.iconst 0, 1) := by decide +kernel
theorem dX2_isBeat_10 : decode cX2_isBeat 10 = .ok (.aload_n 0, 1) := by decide +kernel
theorem dX2_isBeat_11 : decode cX2_isBeat 11 = .ok (.getfield 16, 3) := by decide +kernel
theorem dX2_isBeat_14 : decode cX2_isBeat 14 = .ok (.iload_n 1, 1) := by decide +kernel
theorem dX2_isBeat_15 : decode cX2_isBeat 15 = .ok (.iaload, 1) := by decide +kernel
theorem dX2_isBeat_16 : decode cX2_isBeat 16 = .ok (.iconst 1, 1) := by decide +kernel
theorem dX2_isBeat_17 : decode cX2_isBeat 17 = .ok (.isub, 1) := by decide +kernel
theorem dX2_isBeat_18 : decode cX2_isBeat 18 = .ok (.invokestatic 33, 3) := by decide +kernel
theorem dX2_isBeat_21 : decode cX2_isBeat 21 = .ok (.ifCond .eq 7, 3) := by decide +kernel
theorem dX2_isBeat_24 : decode cX2_isBeat 24 = .ok (.iconst 1, 1) := by decide +kernel
theorem dX2_isBeat_25 : decode cX2_isBeat 25 = .ok (.goto 4, 3) := by decide +kernel
theorem dX2_isBeat_28 : decode cX2_isBeat 28 = .ok (.iconst 0, 1) := by decide +kernel
theorem dX2_isBeat_29 : decode cX2_isBeat 29 = .ok (.ireturn, 1) := by decide +kernel
theorem dX2_isPrime_0 : decode cX2_isPrime 0 = .ok (.iload_n 0, 1) := by decide +kernel
theorem dX2_isPrime_1 : decode cX2_isPrime 1 = .ok (.iconst 2, 1) := by decide +kernel
theorem dX2_isPrime_2 : decode cX2_isPrime 2 = .ok (.if_icmp .eq 31, 3) := by decide +kernel
theorem dX2_isPrime_5 : decode cX2_isPrime 5 = .ok (.iload_n 0, 1) := by decide +kernel
theorem dX2_isPrime_6 : decode cX2_isPrime 6 = .ok (.iconst 3, 1) := by decide +kernel
theorem dX2_isPrime_7 : decode cX2_isPrime 7 = .ok (.if_icmp .eq 26, 3) := by decide +kernel
theorem dX2_isPrime_10 : decode cX2_isPrime 10 = .ok (.iload_n 0, 1) := by decide +kernel
theorem dX2_isPrime_11 : decode cX2_isPrime 11 = .ok (.iconst 5, 1) := by decide +kernel
theorem dX2_isPrime_12 : decode cX2_isPrime 12 = .ok (.if_icmp .eq 21, 3) := by decide +kernel
theorem dX2_isPrime_15 : decode cX2_isPrime 15 = .ok (.iload_n 0, 1) := by decide +kernel
theorem dX2_isPrime_16 : decode cX2_isPrime 16 = .ok (.bipush 7, 2) := by decide +kernel
theorem dX2_isPrime_18 : decode cX2_isPrime 18 = .ok (.if_icmp .eq 15, 3) := by decide +kernel
theorem dX2_isPrime_21 : decode cX2_isPrime 21 = .ok (.iload_n 0, 1) := by decide +kernel
theorem dX2_isPrime_22 : decode cX2_isPrime 22 = .ok (.bipush 11, 2) := by decide +kernel
theorem dX2_isPrime_24 : decode cX2_isPrime 24 = .ok (.if_icmp .eq 9, 3) := by decide +kernel
theorem dX2_isPrime_27 : decode cX2_isPrime 27 = .ok (.iload_n 0, 1) := by decide +kernel
theorem dX2_isPrime_28 : decode cX2_isPrime 28 = .ok (.bipush 13, 2) := by decide +kernel
theorem dX2_isPrime_30 : decode cX2_isPrime 30 = .ok (.if_icmp .ne 7, 3) := by decide +kernel
theorem dX2_isPrime_33 : decode cX2_isPrime 33 = .ok (.iconst 1, 1) := by decide +kernel
theorem dX2_isPrime_34 : decode cX2_isPrime 34 = .ok (.goto 4, 3) := by decide +kernel
theorem dX2_isPrime_37 : decode cX2_isPrime 37 = .ok (.iconst 0, 1) := by decide +kernel
theorem dX2_isPrime_38 : decode cX2_isPrime 38 = .ok (.ireturn, 1) := by decide +kernel
theorem dX2_strikes_0 : decode cX2_strikes 0 = .ok (.iconst 0, 1) := by decide +kernel
theorem dX2_strikes_1 : decode cX2_strikes 1 = .ok (.istore_n 3, 1) := by decide +kernel
theorem dX2_strikes_2 : decode cX2_strikes 2 = .ok (.iconst 4, 1) := by decide +kernel
theorem dX2_strikes_3 : decode cX2_strikes 3 = .ok (.iload_n 1, 1) := by decide +kernel
theorem dX2_strikes_4 : decode cX2_strikes 4 = .ok (.imul, 1) := by decide +kernel
theorem dX2_strikes_5 : decode cX2_strikes 5 = .ok (.istore 4, 2) := by decide +kernel
theorem dX2_strikes_7 : decode cX2_strikes 7 = .ok (.iload 4, 2) := by decide +kernel
theorem dX2_strikes_9 : decode cX2_strikes 9 = .ok (.iconst 4, 1) := by decide +kernel
theorem dX2_strikes_10 : decode cX2_strikes 10 = .ok (.iload_n 1, 1) := by decide +kernel
theorem dX2_strikes_11 : decode cX2_strikes 11 = .ok (.imul, 1) := by decide +kernel
theorem dX2_strikes_12 : decode cX2_strikes 12 = .ok (.aload_n 0, 1) := by decide +kernel
theorem dX2_strikes_13 : decode cX2_strikes 13 = .ok (.getfield 16, 3) := by decide +kernel
theorem dX2_strikes_16 : decode cX2_strikes 16 = .ok (.iload_n 1, 1) := by decide +kernel
theorem dX2_strikes_17 : decode cX2_strikes 17 = .ok (.iaload, 1) := by decide +kernel
theorem dX2_strikes_18 : decode cX2_strikes 18 = .ok (.iadd, 1) := by decide +kernel
theorem dX2_strikes_19 : decode cX2_strikes 19 = .ok (.if_icmp .ge 36, 3) := by decide +kernel
theorem dX2_strikes_22 : decode cX2_strikes 22 = .ok (.iload_n 3, 1) := by decide +kernel
theorem dX2_strikes_23 : decode cX2_strikes 23 = .ok (.iload_n 2, 1) := by decide +kernel
theorem dX2_strikes_24 : decode cX2_strikes 24 = .ok (.aload_n 0, 1) := by decide +kernel
theorem dX2_strikes_25 : decode cX2_strikes 25 = .ok (.getfield 20, 3) := by decide +kernel
theorem dX2_strikes_28 : decode cX2_strikes 28 = .ok (.iload 4, 2) := by decide +kernel
theorem dX2_strikes_30 : decode cX2_strikes 30 = .ok (.iaload, 1) := by decide +kernel
theorem dX2_strikes_31 : decode cX2_strikes 31 = .ok (.irem, 1) := by decide +kernel
theorem dX2_strikes_32 : decode cX2_strikes 32 = .ok (.aload_n 0, 1) := by decide +kernel
theorem dX2_strikes_33 : decode cX2_strikes 33 = .ok (.getfield 23, 3) := by decide +kernel
theorem dX2_strikes_36 : decode cX2_strikes 36 = .ok (.iload 4, 2) := by decide +kernel
theorem dX2_strikes_38 : decode cX2_strikes 38 = .ok (.iaload, 1) := by decide +kernel
theorem dX2_strikes_39 : decode cX2_strikes 39 = .ok (.if_icmp .ne 7, 3) := by decide +kernel
theorem dX2_strikes_42 : decode cX2_strikes 42 = .ok (.iconst 1, 1) := by decide +kernel
theorem dX2_strikes_43 : decode cX2_strikes 43 = .ok (.goto 4, 3) := by decide +kernel
theorem dX2_strikes_46 : decode cX2_strikes 46 = .ok (.iconst 0, 1) := by decide +kernel
theorem dX2_strikes_47 : decode cX2_strikes 47 = .ok (.iadd, 1) := by decide +kernel
theorem dX2_strikes_48 : decode cX2_strikes 48 = .ok (.istore_n 3, 1) := by decide +kernel
theorem dX2_strikes_49 : decode cX2_strikes 49 = .ok (.iinc 4 1, 3) := by decide +kernel
theorem dX2_strikes_52 : decode cX2_strikes 52 = .ok (.goto (-45), 3) := by decide +kernel
theorem dX2_strikes_55 : decode cX2_strikes 55 = .ok (.iload_n 3, 1) := by decide +kernel
theorem dX2_strikes_56 : decode cX2_strikes 56 = .ok (.ireturn, 1) := by decide +kernel
set_option maxRecDepth 20000 in
theorem ggX2_changes_X2_strikes : GoodIn wsX2_changes wsX2_strikes := goodIn_r _ [5, 6, 7, 8, 9, 10, 11, 12, 13, 14, 15, 16, 17] (by decide +kernel) (by decide +kernel)
set_option maxRecDepth 20000 in
theorem gX2_changes_X2_strikes : GoodIn wsX2_changes (wsV RX2 41 RX2 yX2_strikes wsX2_strikes) := goodIn_app (goodIn_of _ (by decide +kernel)) ggX2_changes_X2_strikes
theorem dX2_changes_0 : decode cX2_changes 0 = .ok (.aload_n 0, 1) := by decide +kernel
theorem dX2_changes_1 : decode cX2_changes 1 = .ok (.iload_n 1, 1) := by decide +kernel
theorem dX2_changes_2 : decode cX2_changes 2 = .ok (.iload_n 2, 1) := by decide +kernel
theorem dX2_changes_3 : decode cX2_changes 3 = .ok (.invokevirtual 41, 3) := by decide +kernel
theorem dX2_changes_6 : decode cX2_changes 6 = .ok (.iconst 2, 1) := by decide +kernel
theorem dX2_changes_7 : decode cX2_changes 7 = .ok (.irem, 1) := by decide +kernel
theorem dX2_changes_8 : decode cX2_changes 8 = .ok (.iconst 1, 1) := by decide +kernel
theorem dX2_changes_9 : decode cX2_changes 9 = .ok (.if_icmp .ne 7, 3) := by decide +kernel
theorem dX2_changes_12 : decode cX2_changes 12 = .ok (.iconst 1, 1) := by decide +kernel
theorem dX2_changes_13 : decode cX2_changes 13 = .ok (.goto 4, 3) := by decide +kernel
theorem dX2_changes_16 : decode cX2_changes 16 = .ok (.iconst 0, 1) := by decide +kernel
theorem dX2_changes_17 : decode cX2_changes 17 = .ok (.ireturn, 1) := by decide +kernel
theorem dX2_onAt_0 : decode cX2_onAt 0 = .ok (.aload_n 0, 1) := by decide +kernel
theorem dX2_onAt_1 : decode cX2_onAt 1 = .ok (.getfield 9, 3) := by decide +kernel
theorem dX2_onAt_4 : decode cX2_onAt 4 = .ok (.iload_n 1, 1) := by decide +kernel
theorem dX2_onAt_5 : decode cX2_onAt 5 = .ok (.baload, 1) := by decide +kernel
theorem dX2_onAt_6 : decode cX2_onAt 6 = .ok (.ifCond .eq 7, 3) := by decide +kernel
theorem dX2_onAt_9 : decode cX2_onAt 9 = .ok (.iconst 1, 1) := by decide +kernel
theorem dX2_onAt_10 : decode cX2_onAt 10 = .ok (.goto 4, 3) := by decide +kernel
theorem dX2_onAt_13 : decode cX2_onAt 13 = .ok (.iconst 0, 1) := by decide +kernel
theorem dX2_onAt_14 : decode cX2_onAt 14 = .ok (.istore_n 3, 1) := by decide +kernel
theorem dX2_onAt_15 : decode cX2_onAt 15 = .ok (.iconst 4, 1) := by decide +kernel
theorem dX2_onAt_16 : decode cX2_onAt 16 = .ok (.iload_n 1, 1) := by decide +kernel
theorem dX2_onAt_17 : decode cX2_onAt 17 = .ok (.imul, 1) := by decide +kernel
theorem dX2_onAt_18 : decode cX2_onAt 18 = .ok (.istore 4, 2) := by decide +kernel
theorem dX2_onAt_20 : decode cX2_onAt 20 = .ok (.iload 4, 2) := by decide +kernel
theorem dX2_onAt_22 : decode cX2_onAt 22 = .ok (.iconst 4, 1) := by decide +kernel
theorem dX2_onAt_23 : decode cX2_onAt 23 = .ok (.iload_n 1, 1) := by decide +kernel
theorem dX2_onAt_24 : decode cX2_onAt 24 = .ok (.imul, 1) := by decide +kernel
theorem dX2_onAt_25 : decode cX2_onAt 25 = .ok (.aload_n 0, 1) := by decide +kernel
theorem dX2_onAt_26 : decode cX2_onAt 26 = .ok (.getfield 16, 3) := by decide +kernel
theorem dX2_onAt_29 : decode cX2_onAt 29 = .ok (.iload_n 1, 1) := by decide +kernel
theorem dX2_onAt_30 : decode cX2_onAt 30 = .ok (.iaload, 1) := by decide +kernel
theorem dX2_onAt_31 : decode cX2_onAt 31 = .ok (.iadd, 1) := by decide +kernel
theorem dX2_onAt_32 : decode cX2_onAt 32 = .ok (.if_icmp .ge 37, 3) := by decide +kernel
theorem dX2_onAt_35 : decode cX2_onAt 35 = .ok (.iload_n 3, 1) := by decide +kernel
theorem dX2_onAt_36 : decode cX2_onAt 36 = .ok (.iload_n 2, 1) := by decide +kernel
theorem dX2_onAt_37 : decode cX2_onAt 37 = .ok (.aload_n 0, 1) := by decide +kernel
theorem dX2_onAt_38 : decode cX2_onAt 38 = .ok (.getfield 20, 3) := by decide +kernel
theorem dX2_onAt_41 : decode cX2_onAt 41 = .ok (.iload 4, 2) := by decide +kernel
theorem dX2_onAt_43 : decode cX2_onAt 43 = .ok (.iaload, 1) := by decide +kernel
theorem dX2_onAt_44 : decode cX2_onAt 44 = .ok (.iadd, 1) := by decide +kernel
theorem dX2_onAt_45 : decode cX2_onAt 45 = .ok (.aload_n 0, 1) := by decide +kernel
theorem dX2_onAt_46 : decode cX2_onAt 46 = .ok (.getfield 23, 3) := by decide +kernel
theorem dX2_onAt_49 : decode cX2_onAt 49 = .ok (.iload 4, 2) := by decide +kernel
theorem dX2_onAt_51 : decode cX2_onAt 51 = .ok (.iaload, 1) := by decide +kernel
theorem dX2_onAt_52 : decode cX2_onAt 52 = .ok (.isub, 1) := by decide +kernel
theorem dX2_onAt_53 : decode cX2_onAt 53 = .ok (.aload_n 0, 1) := by decide +kernel
theorem dX2_onAt_54 : decode cX2_onAt 54 = .ok (.getfield 20, 3) := by decide +kernel
theorem dX2_onAt_57 : decode cX2_onAt 57 = .ok (.iload 4, 2) := by decide +kernel
theorem dX2_onAt_59 : decode cX2_onAt 59 = .ok (.iaload, 1) := by decide +kernel
theorem dX2_onAt_60 : decode cX2_onAt 60 = .ok (.idiv, 1) := by decide +kernel
theorem dX2_onAt_61 : decode cX2_onAt 61 = .ok (.iadd, 1) := by decide +kernel
theorem dX2_onAt_62 : decode cX2_onAt 62 = .ok (.istore_n 3, 1) := by decide +kernel
theorem dX2_onAt_63 : decode cX2_onAt 63 = .ok (.iinc 4 1, 3) := by decide +kernel
theorem dX2_onAt_66 : decode cX2_onAt 66 = .ok (.goto (-46), 3) := by decide +kernel
theorem dX2_onAt_69 : decode cX2_onAt 69 = .ok (.iload_n 3, 1) := by decide +kernel
theorem dX2_onAt_70 : decode cX2_onAt 70 = .ok (.iconst 2, 1) := by decide +kernel
theorem dX2_onAt_71 : decode cX2_onAt 71 = .ok (.irem, 1) := by decide +kernel
theorem dX2_onAt_72 : decode cX2_onAt 72 = .ok (.iconst 1, 1) := by decide +kernel
theorem dX2_onAt_73 : decode cX2_onAt 73 = .ok (.if_icmp .ne 7, 3) := by decide +kernel
theorem dX2_onAt_76 : decode cX2_onAt 76 = .ok (.iconst 1, 1) := by decide +kernel
theorem dX2_onAt_77 : decode cX2_onAt 77 = .ok (.goto 4, 3) := by decide +kernel
theorem dX2_onAt_80 : decode cX2_onAt 80 = .ok (.iconst 0, 1) := by decide +kernel
theorem dX2_onAt_81 : decode cX2_onAt 81 = .ok (.ireturn, 1) := by decide +kernel
set_option maxRecDepth 20000 in
theorem ggX2_litAt_X2_onAt : GoodIn wsX2_litAt wsX2_onAt := goodIn_r _ [7, 8, 9, 10, 11, 12, 13, 14, 15, 16, 17, 18, 19, 20] (by decide +kernel) (by decide +kernel)
set_option maxRecDepth 20000 in
theorem gX2_litAt_X2_onAt : GoodIn wsX2_litAt (wsV RX2 45 RX2 yX2_onAt wsX2_onAt) := goodIn_app (goodIn_of _ (by decide +kernel)) ggX2_litAt_X2_onAt
theorem dX2_litAt_0 : decode cX2_litAt 0 = .ok (.iconst 0, 1) := by decide +kernel
theorem dX2_litAt_1 : decode cX2_litAt 1 = .ok (.istore_n 3, 1) := by decide +kernel
theorem dX2_litAt_2 : decode cX2_litAt 2 = .ok (.iconst 0, 1) := by decide +kernel
theorem dX2_litAt_3 : decode cX2_litAt 3 = .ok (.istore 4, 2) := by decide +kernel
theorem dX2_litAt_5 : decode cX2_litAt 5 = .ok (.iload 4, 2) := by decide +kernel
theorem dX2_litAt_7 : decode cX2_litAt 7 = .ok (.aload_n 0, 1) := by decide +kernel
theorem dX2_litAt_8 : decode cX2_litAt 8 = .ok (.getfield 30, 3) := by decide +kernel
theorem dX2_litAt_11 : decode cX2_litAt 11 = .ok (.if_icmp .ge 43, 3) := by decide +kernel
theorem dX2_litAt_14 : decode cX2_litAt 14 = .ok (.iload_n 3, 1) := by decide +kernel
theorem dX2_litAt_15 : decode cX2_litAt 15 = .ok (.iload 4, 2) := by decide +kernel
theorem dX2_litAt_17 : decode cX2_litAt 17 = .ok (.iload_n 2, 1) := by decide +kernel
theorem dX2_litAt_18 : decode cX2_litAt 18 = .ok (.if_icmp .eq 27, 3) := by decide +kernel
theorem dX2_litAt_21 : decode cX2_litAt 21 = .ok (.aload_n 0, 1) := by decide +kernel
theorem dX2_litAt_22 : decode cX2_litAt 22 = .ok (.getfield 13, 3) := by decide +kernel
theorem dX2_litAt_25 : decode cX2_litAt 25 = .ok (.iload 4, 2) := by decide +kernel
theorem dX2_litAt_27 : decode cX2_litAt 27 = .ok (.baload, 1) := by decide +kernel
theorem dX2_litAt_28 : decode cX2_litAt 28 = .ok (.ifCond .ne 17, 3) := by decide +kernel
theorem dX2_litAt_31 : decode cX2_litAt 31 = .ok (.aload_n 0, 1) := by decide +kernel
theorem dX2_litAt_32 : decode cX2_litAt 32 = .ok (.iload 4, 2) := by decide +kernel
theorem dX2_litAt_34 : decode cX2_litAt 34 = .ok (.iload_n 1, 1) := by decide +kernel
theorem dX2_litAt_35 : decode cX2_litAt 35 = .ok (.invokevirtual 45, 3) := by decide +kernel
theorem dX2_litAt_38 : decode cX2_litAt 38 = .ok (.ifCond .eq 7, 3) := by decide +kernel
theorem dX2_litAt_41 : decode cX2_litAt 41 = .ok (.iconst 1, 1) := by decide +kernel
theorem dX2_litAt_42 : decode cX2_litAt 42 = .ok (.goto 4, 3) := by decide +kernel
theorem dX2_litAt_45 : decode cX2_litAt 45 = .ok (.iconst 0, 1) := by decide +kernel
theorem dX2_litAt_46 : decode cX2_litAt 46 = .ok (.iadd, 1) := by decide +kernel
theorem dX2_litAt_47 : decode cX2_litAt 47 = .ok (.istore_n 3, 1) := by decide +kernel
theorem dX2_litAt_48 : decode cX2_litAt 48 = .ok (.iinc 4 1, 3) := by decide +kernel
theorem dX2_litAt_51 : decode cX2_litAt 51 = .ok (.goto (-46), 3) := by decide +kernel
theorem dX2_litAt_54 : decode cX2_litAt 54 = .ok (.iload_n 3, 1) := by decide +kernel
theorem dX2_litAt_55 : decode cX2_litAt 55 = .ok (.ireturn, 1) := by decide +kernel
theorem dX2_product_0 : decode cX2_product 0 = .ok (.iconst 1, 1) := by decide +kernel
theorem dX2_product_1 : decode cX2_product 1 = .ok (.istore_n 2, 1) := by decide +kernel
theorem dX2_product_2 : decode cX2_product 2 = .ok (.iconst 4, 1) := by decide +kernel
theorem dX2_product_3 : decode cX2_product 3 = .ok (.iload_n 1, 1) := by decide +kernel
theorem dX2_product_4 : decode cX2_product 4 = .ok (.imul, 1) := by decide +kernel
theorem dX2_product_5 : decode cX2_product 5 = .ok (.istore_n 3, 1) := by decide +kernel
theorem dX2_product_6 : decode cX2_product 6 = .ok (.iload_n 3, 1) := by decide +kernel
theorem dX2_product_7 : decode cX2_product 7 = .ok (.iconst 4, 1) := by decide +kernel
theorem dX2_product_8 : decode cX2_product 8 = .ok (.iload_n 1, 1) := by decide +kernel
theorem dX2_product_9 : decode cX2_product 9 = .ok (.imul, 1) := by decide +kernel
theorem dX2_product_10 : decode cX2_product 10 = .ok (.aload_n 0, 1) := by decide +kernel
theorem dX2_product_11 : decode cX2_product 11 = .ok (.getfield 16, 3) := by decide +kernel
theorem dX2_product_14 : decode cX2_product 14 = .ok (.iload_n 1, 1) := by decide +kernel
theorem dX2_product_15 : decode cX2_product 15 = .ok (.iaload, 1) := by decide +kernel
theorem dX2_product_16 : decode cX2_product 16 = .ok (.iadd, 1) := by decide +kernel
theorem dX2_product_17 : decode cX2_product 17 = .ok (.if_icmp .ge 29, 3) := by decide +kernel
theorem dX2_product_20 : decode cX2_product 20 = .ok (.iload_n 2, 1) := by decide +kernel
theorem dX2_product_21 : decode cX2_product 21 = .ok (.aload_n 0, 1) := by decide +kernel
theorem dX2_product_22 : decode cX2_product 22 = .ok (.getfield 20, 3) := by decide +kernel
theorem dX2_product_25 : decode cX2_product 25 = .ok (.iload_n 3, 1) := by decide +kernel
theorem dX2_product_26 : decode cX2_product 26 = .ok (.iaload, 1) := by decide +kernel
theorem dX2_product_27 : decode cX2_product 27 = .ok (.irem, 1) := by decide +kernel
theorem dX2_product_28 : decode cX2_product 28 = .ok (.ifCond .eq 12, 3) := by decide +kernel
theorem dX2_product_31 : decode cX2_product 31 = .ok (.iload_n 2, 1) := by decide +kernel
theorem dX2_product_32 : decode cX2_product 32 = .ok (.aload_n 0, 1) := by decide +kernel
theorem dX2_product_33 : decode cX2_product 33 = .ok (.getfield 20, 3) := by decide +kernel
theorem dX2_product_36 : decode cX2_product 36 = .ok (.iload_n 3, 1) := by decide +kernel
theorem dX2_product_37 : decode cX2_product 37 = .ok (.iaload, 1) := by decide +kernel
theorem dX2_product_38 : decode cX2_product 38 = .ok (.imul, 1) := by decide +kernel
theorem dX2_product_39 : decode cX2_product 39 = .ok (.istore_n 2, 1) := by decide +kernel
theorem dX2_product_40 : decode cX2_product 40 = .ok (.iinc 3 1, 3) := by decide +kernel
theorem dX2_product_43 : decode cX2_product 43 = .ok (.goto (-37), 3) := by decide +kernel
theorem dX2_product_46 : decode cX2_product 46 = .ok (.iload_n 2, 1) := by decide +kernel
theorem dX2_product_47 : decode cX2_product 47 = .ok (.ireturn, 1) := by decide +kernel
set_option maxRecDepth 20000 in
theorem ggX2_steady_X2_product : GoodIn wsX2_steady wsX2_product := goodIn_r _ [5, 6, 7, 17, 18, 19, 20, 21, 22, 23, 24, 25] (by decide +kernel) (by decide +kernel)
set_option maxRecDepth 20000 in
theorem gX2_steady_X2_product : GoodIn wsX2_steady (wsV RX2 49 RX2 yX2_product wsX2_product) := goodIn_app (goodIn_of _ (by decide +kernel)) ggX2_steady_X2_product
set_option maxRecDepth 20000 in
theorem ggX2_steady_X2_changes : GoodIn wsX2_steady wsX2_changes := goodIn_r _ [11, 12, 13, 14, 4, 15, 6, 7, 16, 17, 18, 19, 20, 21, 22, 23, 24, 25] (by decide +kernel) (by decide +kernel)
set_option maxRecDepth 20000 in
theorem gX2_steady_X2_changes : GoodIn wsX2_steady (wsV RX2 53 RX2 yX2_changes wsX2_changes) := goodIn_app (goodIn_of _ (by decide +kernel)) ggX2_steady_X2_changes
theorem dX2_steady_0 : decode cX2_steady 0 = .ok (.iconst 0, 1) := by decide +kernel
theorem dX2_steady_1 : decode cX2_steady 1 = .ok (.istore_n 2, 1) := by decide +kernel
theorem dX2_steady_2 : decode cX2_steady 2 = .ok (.iload_n 2, 1) := by decide +kernel
theorem dX2_steady_3 : decode cX2_steady 3 = .ok (.aload_n 0, 1) := by decide +kernel
theorem dX2_steady_4 : decode cX2_steady 4 = .ok (.iload_n 1, 1) := by decide +kernel
theorem dX2_steady_5 : decode cX2_steady 5 = .ok (.invokevirtual 49, 3) := by decide +kernel
theorem dX2_steady_8 : decode cX2_steady 8 = .ok (.if_icmp .ge 20, 3) := by decide +kernel
theorem dX2_steady_11 : decode cX2_steady 11 = .ok (.aload_n 0, 1) := by decide +kernel
theorem dX2_steady_12 : decode cX2_steady 12 = .ok (.iload_n 1, 1) := by decide +kernel
theorem dX2_steady_13 : decode cX2_steady 13 = .ok (.iload_n 2, 1) := by decide +kernel
theorem dX2_steady_14 : decode cX2_steady 14 = .ok (.invokevirtual 53, 3) := by decide +kernel
theorem dX2_steady_17 : decode cX2_steady 17 = .ok (.ifCond .eq 5, 3) := by decide +kernel
theorem dX2_steady_20 : decode cX2_steady 20 = .ok (.iconst 0, 1) := by decide +kernel
theorem dX2_steady_21 : decode cX2_steady 21 = .ok (.ireturn, 1) := by decide +kernel
theorem dX2_steady_22 : decode cX2_steady 22 = .ok (.iinc 2 1, 3) := by decide +kernel
theorem dX2_steady_25 : decode cX2_steady 25 = .ok (.goto (-23), 3) := by decide +kernel
theorem dX2_steady_28 : decode cX2_steady 28 = .ok (.iconst 1, 1) := by decide +kernel
theorem dX2_steady_29 : decode cX2_steady 29 = .ok (.ireturn, 1) := by decide +kernel
set_option maxRecDepth 20000 in
theorem ggX2_isCycle_X2_onAt : GoodIn wsX2_isCycle wsX2_onAt := goodIn_r _ [5, 6, 7, 8, 9, 18, 19, 20, 21, 22, 23, 24, 25, 26] (by decide +kernel) (by decide +kernel)
set_option maxRecDepth 20000 in
theorem gX2_isCycle_X2_onAt : GoodIn wsX2_isCycle (wsV RX2 45 RX2 yX2_onAt wsX2_onAt) := goodIn_app (goodIn_of _ (by decide +kernel)) ggX2_isCycle_X2_onAt
set_option maxRecDepth 20000 in
theorem ggX2_isCycle_X2_changes : GoodIn wsX2_isCycle wsX2_changes := goodIn_r _ [13, 14, 15, 16, 4, 17, 7, 8, 9, 18, 19, 20, 21, 22, 23, 24, 25, 26] (by decide +kernel) (by decide +kernel)
set_option maxRecDepth 20000 in
theorem gX2_isCycle_X2_changes : GoodIn wsX2_isCycle (wsV RX2 53 RX2 yX2_changes wsX2_changes) := goodIn_app (goodIn_of _ (by decide +kernel)) ggX2_isCycle_X2_changes
theorem dX2_isCycle_0 : decode cX2_isCycle 0 = .ok (.aload_n 0, 1) := by decide +kernel
theorem dX2_isCycle_1 : decode cX2_isCycle 1 = .ok (.iload_n 1, 1) := by decide +kernel
theorem dX2_isCycle_2 : decode cX2_isCycle 2 = .ok (.iconst 0, 1) := by decide +kernel
theorem dX2_isCycle_3 : decode cX2_isCycle 3 = .ok (.invokevirtual 45, 3) := by decide +kernel
theorem dX2_isCycle_6 : decode cX2_isCycle 6 = .ok (.aload_n 0, 1) := by decide +kernel
theorem dX2_isCycle_7 : decode cX2_isCycle 7 = .ok (.iload_n 1, 1) := by decide +kernel
theorem dX2_isCycle_8 : decode cX2_isCycle 8 = .ok (.iload_n 2, 1) := by decide +kernel
theorem dX2_isCycle_9 : decode cX2_isCycle 9 = .ok (.invokevirtual 45, 3) := by decide +kernel
theorem dX2_isCycle_12 : decode cX2_isCycle 12 = .ok (.if_icmp .eq 5, 3) := by decide +kernel
theorem dX2_isCycle_15 : decode cX2_isCycle 15 = .ok (.iconst 0, 1) := by decide +kernel
theorem dX2_isCycle_16 : decode cX2_isCycle 16 = .ok (.ireturn, 1) := by decide +kernel
theorem dX2_isCycle_17 : decode cX2_isCycle 17 = .ok (.iconst 1, 1) := by decide +kernel
theorem dX2_isCycle_18 : decode cX2_isCycle 18 = .ok (.istore 4, 2) := by decide +kernel
theorem dX2_isCycle_20 : decode cX2_isCycle 20 = .ok (.iload 4, 2) := by decide +kernel
theorem dX2_isCycle_22 : decode cX2_isCycle 22 = .ok (.iload_n 3, 1) := by decide +kernel
theorem dX2_isCycle_23 : decode cX2_isCycle 23 = .ok (.if_icmp .gt 30, 3) := by decide +kernel
theorem dX2_isCycle_26 : decode cX2_isCycle 26 = .ok (.aload_n 0, 1) := by decide +kernel
theorem dX2_isCycle_27 : decode cX2_isCycle 27 = .ok (.iload_n 1, 1) := by decide +kernel
theorem dX2_isCycle_28 : decode cX2_isCycle 28 = .ok (.iload 4, 2) := by decide +kernel
theorem dX2_isCycle_30 : decode cX2_isCycle 30 = .ok (.invokevirtual 53, 3) := by decide +kernel
theorem dX2_isCycle_33 : decode cX2_isCycle 33 = .ok (.aload_n 0, 1) := by decide +kernel
theorem dX2_isCycle_34 : decode cX2_isCycle 34 = .ok (.iload_n 1, 1) := by decide +kernel
theorem dX2_isCycle_35 : decode cX2_isCycle 35 = .ok (.iload 4, 2) := by decide +kernel
theorem dX2_isCycle_37 : decode cX2_isCycle 37 = .ok (.iload_n 2, 1) := by decide +kernel
theorem dX2_isCycle_38 : decode cX2_isCycle 38 = .ok (.iadd, 1) := by decide +kernel
theorem dX2_isCycle_39 : decode cX2_isCycle 39 = .ok (.invokevirtual 53, 3) := by decide +kernel
theorem dX2_isCycle_42 : decode cX2_isCycle 42 = .ok (.if_icmp .eq 5, 3) := by decide +kernel
theorem dX2_isCycle_45 : decode cX2_isCycle 45 = .ok (.iconst 0, 1) := by decide +kernel
theorem dX2_isCycle_46 : decode cX2_isCycle 46 = .ok (.ireturn, 1) := by decide +kernel
theorem dX2_isCycle_47 : decode cX2_isCycle 47 = .ok (.iinc 4 1, 3) := by decide +kernel
theorem dX2_isCycle_50 : decode cX2_isCycle 50 = .ok (.goto (-30), 3) := by decide +kernel
theorem dX2_isCycle_53 : decode cX2_isCycle 53 = .ok (.iconst 1, 1) := by decide +kernel
theorem dX2_isCycle_54 : decode cX2_isCycle 54 = .ok (.ireturn, 1) := by decide +kernel
set_option maxRecDepth 20000 in
theorem ggX2_cycle_X2_product : GoodIn wsX2_cycle wsX2_product := goodIn_r _ [5, 6, 7, 26, 27, 28, 29, 30, 31, 32, 33, 34] (by decide +kernel) (by decide +kernel)
set_option maxRecDepth 20000 in
theorem gX2_cycle_X2_product : GoodIn wsX2_cycle (wsV RX2 49 RX2 yX2_product wsX2_product) := goodIn_app (goodIn_of _ (by decide +kernel)) ggX2_cycle_X2_product
set_option maxRecDepth 20000 in
theorem ggX2_cycle_X2_isCycle : GoodIn wsX2_cycle wsX2_isCycle := goodIn_r _ [11, 12, 13, 14, 4, 15, 16, 6, 7, 17, 18, 19, 20, 21, 22, 23, 24, 25, 26, 27, 28, 29, 30, 31, 32, 33, 34] (by decide +kernel) (by decide +kernel)
set_option maxRecDepth 20000 in
theorem gX2_cycle_X2_isCycle : GoodIn wsX2_cycle (wsV RX2 56 RX2 yX2_isCycle wsX2_isCycle) := goodIn_app (goodIn_of _ (by decide +kernel)) ggX2_cycle_X2_isCycle
theorem dX2_cycle_0 : decode cX2_cycle 0 = .ok (.aload_n 0, 1) := by decide +kernel
theorem dX2_cycle_1 : decode cX2_cycle 1 = .ok (.iload_n 1, 1) := by decide +kernel
theorem dX2_cycle_2 : decode cX2_cycle 2 = .ok (.invokevirtual 49, 3) := by decide +kernel
theorem dX2_cycle_5 : decode cX2_cycle 5 = .ok (.istore_n 2, 1) := by decide +kernel
theorem dX2_cycle_6 : decode cX2_cycle 6 = .ok (.iconst 1, 1) := by decide +kernel
theorem dX2_cycle_7 : decode cX2_cycle 7 = .ok (.istore_n 3, 1) := by decide +kernel
theorem dX2_cycle_8 : decode cX2_cycle 8 = .ok (.iload_n 3, 1) := by decide +kernel
theorem dX2_cycle_9 : decode cX2_cycle 9 = .ok (.iconst 2, 1) := by decide +kernel
theorem dX2_cycle_10 : decode cX2_cycle 10 = .ok (.iload_n 2, 1) := by decide +kernel
theorem dX2_cycle_11 : decode cX2_cycle 11 = .ok (.imul, 1) := by decide +kernel
theorem dX2_cycle_12 : decode cX2_cycle 12 = .ok (.if_icmp .ge 29, 3) := by decide +kernel
theorem dX2_cycle_15 : decode cX2_cycle 15 = .ok (.iconst 2, 1) := by decide +kernel
theorem dX2_cycle_16 : decode cX2_cycle 16 = .ok (.iload_n 2, 1) := by decide +kernel
theorem dX2_cycle_17 : decode cX2_cycle 17 = .ok (.imul, 1) := by decide +kernel
theorem dX2_cycle_18 : decode cX2_cycle 18 = .ok (.iload_n 3, 1) := by decide +kernel
theorem dX2_cycle_19 : decode cX2_cycle 19 = .ok (.irem, 1) := by decide +kernel
theorem dX2_cycle_20 : decode cX2_cycle 20 = .ok (.ifCond .ne 15, 3) := by decide +kernel
theorem dX2_cycle_23 : decode cX2_cycle 23 = .ok (.aload_n 0, 1) := by decide +kernel
theorem dX2_cycle_24 : decode cX2_cycle 24 = .ok (.iload_n 1, 1) := by decide +kernel
theorem dX2_cycle_25 : decode cX2_cycle 25 = .ok (.iload_n 3, 1) := by decide +kernel
theorem dX2_cycle_26 : decode cX2_cycle 26 = .ok (.iload_n 2, 1) := by decide +kernel
theorem dX2_cycle_27 : decode cX2_cycle 27 = .ok (.invokevirtual 56, 3) := by decide +kernel
theorem dX2_cycle_30 : decode cX2_cycle 30 = .ok (.ifCond .eq 5, 3) := by decide +kernel
theorem dX2_cycle_33 : decode cX2_cycle 33 = .ok (.iload_n 3, 1) := by decide +kernel
theorem dX2_cycle_34 : decode cX2_cycle 34 = .ok (.ireturn, 1) := by decide +kernel
theorem dX2_cycle_35 : decode cX2_cycle 35 = .ok (.iinc 3 1, 3) := by decide +kernel
theorem dX2_cycle_38 : decode cX2_cycle 38 = .ok (.goto (-30), 3) := by decide +kernel
theorem dX2_cycle_41 : decode cX2_cycle 41 = .ok (.iconst 2, 1) := by decide +kernel
theorem dX2_cycle_42 : decode cX2_cycle 42 = .ok (.iload_n 2, 1) := by decide +kernel
theorem dX2_cycle_43 : decode cX2_cycle 43 = .ok (.imul, 1) := by decide +kernel
theorem dX2_cycle_44 : decode cX2_cycle 44 = .ok (.ireturn, 1) := by decide +kernel
set_option maxRecDepth 20000 in
theorem ggX2_untilChange_X2_product : GoodIn wsX2_untilChange wsX2_product := goodIn_r _ [6, 7, 8, 18, 19, 20, 21, 22, 23, 24, 25, 26] (by decide +kernel) (by decide +kernel)
set_option maxRecDepth 20000 in
theorem gX2_untilChange_X2_product : GoodIn wsX2_untilChange (wsV RX2 49 RX2 yX2_product wsX2_product) := goodIn_app (goodIn_of _ (by decide +kernel)) ggX2_untilChange_X2_product
set_option maxRecDepth 20000 in
theorem ggX2_untilChange_X2_changes : GoodIn wsX2_untilChange wsX2_changes := goodIn_r _ [12, 13, 14, 15, 5, 16, 7, 8, 17, 18, 19, 20, 21, 22, 23, 24, 25, 26] (by decide +kernel) (by decide +kernel)
set_option maxRecDepth 20000 in
theorem gX2_untilChange_X2_changes : GoodIn wsX2_untilChange (wsV RX2 53 RX2 yX2_changes wsX2_changes) := goodIn_app (goodIn_of _ (by decide +kernel)) ggX2_untilChange_X2_changes
theorem dX2_untilChange_0 : decode cX2_untilChange 0 = .ok (.aload_n 0, 1) := by decide +kernel
theorem dX2_untilChange_1 : decode cX2_untilChange 1 = .ok (.iload_n 1, 1) := by decide +kernel
theorem dX2_untilChange_2 : decode cX2_untilChange 2 = .ok (.invokevirtual 49, 3) := by decide +kernel
theorem dX2_untilChange_5 : decode cX2_untilChange 5 = .ok (.istore_n 2, 1) := by decide +kernel
theorem dX2_untilChange_6 : decode cX2_untilChange 6 = .ok (.iconst 1, 1) := by decide +kernel
theorem dX2_untilChange_7 : decode cX2_untilChange 7 = .ok (.istore_n 3, 1) := by decide +kernel
theorem dX2_untilChange_8 : decode cX2_untilChange 8 = .ok (.iload_n 3, 1) := by decide +kernel
theorem dX2_untilChange_9 : decode cX2_untilChange 9 = .ok (.iload_n 2, 1) := by decide +kernel
theorem dX2_untilChange_10 : decode cX2_untilChange 10 = .ok (.if_icmp .gt 25, 3) := by decide +kernel
theorem dX2_untilChange_13 : decode cX2_untilChange 13 = .ok (.aload_n 0, 1) := by decide +kernel
theorem dX2_untilChange_14 : decode cX2_untilChange 14 = .ok (.iload_n 1, 1) := by decide +kernel
theorem dX2_untilChange_15 : decode cX2_untilChange 15 = .ok (.aload_n 0, 1) := by decide +kernel
theorem dX2_untilChange_16 : decode cX2_untilChange 16 = .ok (.getfield 59, 3) := by decide +kernel
theorem dX2_untilChange_19 : decode cX2_untilChange 19 = .ok (.iload_n 3, 1) := by decide +kernel
theorem dX2_untilChange_20 : decode cX2_untilChange 20 = .ok (.iadd, 1) := by decide +kernel
theorem dX2_untilChange_21 : decode cX2_untilChange 21 = .ok (.invokevirtual 53, 3) := by decide +kernel
theorem dX2_untilChange_24 : decode cX2_untilChange 24 = .ok (.ifCond .eq 5, 3) := by decide +kernel
theorem dX2_untilChange_27 : decode cX2_untilChange 27 = .ok (.iload_n 3, 1) := by decide +kernel
theorem dX2_untilChange_28 : decode cX2_untilChange 28 = .ok (.ireturn, 1) := by decide +kernel
theorem dX2_untilChange_29 : decode cX2_untilChange 29 = .ok (.iinc 3 1, 3) := by decide +kernel
theorem dX2_untilChange_32 : decode cX2_untilChange 32 = .ok (.goto (-24), 3) := by decide +kernel
theorem dX2_untilChange_35 : decode cX2_untilChange 35 = .ok (.iconst (-1), 1) := by decide +kernel
theorem dX2_untilChange_36 : decode cX2_untilChange 36 = .ok (.ireturn, 1) := by decide +kernel
set_option maxRecDepth 20000 in
theorem ggX2_addLamp_X2_no : GoodIn wsX2_addLamp wsX2_no := goodIn_r _ [8, 1, 9, 10, 11, 12, 13, 14, 15, 16, 17] (by decide +kernel) (by decide +kernel)
set_option maxRecDepth 20000 in
theorem gX2_addLamp_X2_no : GoodIn wsX2_addLamp (wsV RX2 62 RX2 yX2_no wsX2_no) := goodIn_app (goodIn_of _ (by decide +kernel)) ggX2_addLamp_X2_no
theorem dX2_addLamp_0 : decode cX2_addLamp 0 = .ok (.aload_n 0, 1) := by decide +kernel
theorem dX2_addLamp_1 : decode cX2_addLamp 1 = .ok (.iconst 0, 1) := by decide +kernel
theorem dX2_addLamp_2 : decode cX2_addLamp 2 = .ok (.putfield 26, 3) := by decide +kernel
theorem dX2_addLamp_5 : decode cX2_addLamp 5 = .ok (.aload_n 0, 1) := by decide +kernel
theorem dX2_addLamp_6 : decode cX2_addLamp 6 = .ok (.getfield 30, 3) := by decide +kernel
theorem dX2_addLamp_9 : decode cX2_addLamp 9 = .ok (.bipush 8, 2) := by decide +kernel
theorem dX2_addLamp_11 : decode cX2_addLamp 11 = .ok (.if_icmp .ne 9, 3) := by decide +kernel
theorem dX2_addLamp_14 : decode cX2_addLamp 14 = .ok (.aload_n 0, 1) := by decide +kernel
theorem dX2_addLamp_15 : decode cX2_addLamp 15 = .ok (.iconst 1, 1) := by decide +kernel
theorem dX2_addLamp_16 : decode cX2_addLamp 16 = .ok (.invokevirtual 62, 3) := by decide +kernel
theorem dX2_addLamp_19 : decode cX2_addLamp 19 = .ok (.ireturn, 1) := by decide +kernel
theorem dX2_addLamp_20 : decode cX2_addLamp 20 = .ok (.aload_n 0, 1) := by decide +kernel
theorem dX2_addLamp_21 : decode cX2_addLamp 21 = .ok (.getfield 9, 3) := by decide +kernel
theorem dX2_addLamp_24 : decode cX2_addLamp 24 = .ok (.aload_n 0, 1) := by decide +kernel
theorem dX2_addLamp_25 : decode cX2_addLamp 25 = .ok (.getfield 30, 3) := by decide +kernel
theorem dX2_addLamp_28 : decode cX2_addLamp 28 = .ok (.iload_n 1, 1) := by decide +kernel
theorem dX2_addLamp_29 : decode cX2_addLamp 29 = .ok (.bastore, 1) := by decide +kernel
theorem dX2_addLamp_30 : decode cX2_addLamp 30 = .ok (.aload_n 0, 1) := by decide +kernel
theorem dX2_addLamp_31 : decode cX2_addLamp 31 = .ok (.dup, 1) := by decide +kernel
theorem dX2_addLamp_32 : decode cX2_addLamp 32 = .ok (.getfield 30, 3) := by decide +kernel
theorem dX2_addLamp_35 : decode cX2_addLamp 35 = .ok (.iconst 1, 1) := by decide +kernel
theorem dX2_addLamp_36 : decode cX2_addLamp 36 = .ok (.iadd, 1) := by decide +kernel
theorem dX2_addLamp_37 : decode cX2_addLamp 37 = .ok (.putfield 30, 3) := by decide +kernel
theorem dX2_addLamp_40 : decode cX2_addLamp 40 = .ok (.aload_n 0, 1) := by decide +kernel
theorem dX2_addLamp_41 : decode cX2_addLamp 41 = .ok (.getfield 30, 3) := by decide +kernel
theorem dX2_addLamp_44 : decode cX2_addLamp 44 = .ok (.iconst 1, 1) := by decide +kernel
theorem dX2_addLamp_45 : decode cX2_addLamp 45 = .ok (.isub, 1) := by decide +kernel
theorem dX2_addLamp_46 : decode cX2_addLamp 46 = .ok (.ireturn, 1) := by decide +kernel
set_option maxRecDepth 20000 in
theorem ggX2_addBeat_X2_isLamp : GoodIn wsX2_addBeat wsX2_isLamp := goodIn_r _ [9, 10, 11, 12, 8, 13, 21, 22, 23, 24, 25, 26, 27, 28, 29] (by decide +kernel) (by decide +kernel)
set_option maxRecDepth 20000 in
theorem gX2_addBeat_X2_isLamp : GoodIn wsX2_addBeat (wsV RX2 37 RX2 yX2_isLamp wsX2_isLamp) := goodIn_app (goodIn_of _ (by decide +kernel)) ggX2_addBeat_X2_isLamp
set_option maxRecDepth 20000 in
theorem ggX2_addBeat_X2_no : GoodIn wsX2_addBeat wsX2_no := goodIn_r _ [17, 1, 21, 22, 23, 24, 25, 26, 27, 28, 29] (by decide +kernel) (by decide +kernel)
set_option maxRecDepth 20000 in
theorem gX2_addBeat_X2_no : GoodIn wsX2_addBeat (wsV RX2 62 RX2 yX2_no wsX2_no) := goodIn_app (goodIn_of _ (by decide +kernel)) ggX2_addBeat_X2_no
set_option maxRecDepth 20000 in
theorem ggX2_addBeat_X2_isPrime : GoodIn wsX2_addBeat wsX2_isPrime := goodIn_r _ [20] (by decide +kernel) (by decide +kernel)
set_option maxRecDepth 20000 in
theorem gX2_addBeat_X2_isPrime : GoodIn wsX2_addBeat (va_wsS RX2 65 yX2_isPrime wsX2_isPrime) := goodIn_app (goodIn_of _ (by decide +kernel)) ggX2_addBeat_X2_isPrime
set_option maxRecDepth 20000 in
theorem ggX2_addBeat_X2_isIn : GoodIn wsX2_addBeat wsX2_isIn := goodIn_r _ [13] (by decide +kernel) (by decide +kernel)
set_option maxRecDepth 20000 in
theorem gX2_addBeat_X2_isIn : GoodIn wsX2_addBeat (va_wsS RX2 33 yX2_isIn wsX2_isIn) := goodIn_app (goodIn_of _ (by decide +kernel)) ggX2_addBeat_X2_isIn
theorem dX2_addBeat_0 : decode cX2_addBeat 0 = .ok (.aload_n 0, 1) := by decide +kernel
theorem dX2_addBeat_1 : decode cX2_addBeat 1 = .ok (.iconst 0, 1) := by decide +kernel
theorem dX2_addBeat_2 : decode cX2_addBeat 2 = .ok (.putfield 26, 3) := by decide +kernel
theorem dX2_addBeat_5 : decode cX2_addBeat 5 = .ok (.aload_n 0, 1) := by decide +kernel
theorem dX2_addBeat_6 : decode cX2_addBeat 6 = .ok (.iload_n 1, 1) := by decide +kernel
theorem dX2_addBeat_7 : decode cX2_addBeat 7 = .ok (.invokevirtual 37, 3) := by decide +kernel
theorem dX2_addBeat_10 : decode cX2_addBeat 10 = .ok (.ifCond .ne 9, 3) := by decide +kernel
theorem dX2_addBeat_13 : decode cX2_addBeat 13 = .ok (.aload_n 0, 1) := by decide +kernel
theorem dX2_addBeat_14 : decode cX2_addBeat 14 = .ok (.iconst 1, 1) := by decide +kernel
theorem dX2_addBeat_15 : decode cX2_addBeat 15 = .ok (.invokevirtual 62, 3) := by decide +kernel
theorem dX2_addBeat_18 : decode cX2_addBeat 18 = .ok (.ireturn, 1) := by decide +kernel
theorem dX2_addBeat_19 : decode cX2_addBeat 19 = .ok (.iload_n 2, 1) := by decide +kernel
theorem dX2_addBeat_20 : decode cX2_addBeat 20 = .ok (.invokestatic 65, 3) := by decide +kernel
theorem dX2_addBeat_23 : decode cX2_addBeat 23 = .ok (.ifCond .eq 14, 3) := by decide +kernel
theorem dX2_addBeat_26 : decode cX2_addBeat 26 = .ok (.iload_n 3, 1) := by decide +kernel
theorem dX2_addBeat_27 : decode cX2_addBeat 27 = .ok (.iconst 0, 1) := by decide +kernel
theorem dX2_addBeat_28 : decode cX2_addBeat 28 = .ok (.iload_n 2, 1) := by decide +kernel
theorem dX2_addBeat_29 : decode cX2_addBeat 29 = .ok (.iconst 1, 1) := by decide +kernel
theorem dX2_addBeat_30 : decode cX2_addBeat 30 = .ok (.isub, 1) := by decide +kernel
theorem dX2_addBeat_31 : decode cX2_addBeat 31 = .ok (.invokestatic 33, 3) := by decide +kernel
theorem dX2_addBeat_34 : decode cX2_addBeat 34 = .ok (.ifCond .ne 9, 3) := by decide +kernel
theorem dX2_addBeat_37 : decode cX2_addBeat 37 = .ok (.aload_n 0, 1) := by decide +kernel
theorem dX2_addBeat_38 : decode cX2_addBeat 38 = .ok (.iconst 2, 1) := by decide +kernel
theorem dX2_addBeat_39 : decode cX2_addBeat 39 = .ok (.invokevirtual 62, 3) := by decide +kernel
theorem dX2_addBeat_42 : decode cX2_addBeat 42 = .ok (.ireturn, 1) := by decide +kernel
theorem dX2_addBeat_43 : decode cX2_addBeat 43 = .ok (.aload_n 0, 1) := by decide +kernel
theorem dX2_addBeat_44 : decode cX2_addBeat 44 = .ok (.getfield 16, 3) := by decide +kernel
theorem dX2_addBeat_47 : decode cX2_addBeat 47 = .ok (.iload_n 1, 1) := by decide +kernel
theorem dX2_addBeat_48 : decode cX2_addBeat 48 = .ok (.iaload, 1) := by decide +kernel
theorem dX2_addBeat_49 : decode cX2_addBeat 49 = .ok (.iconst 4, 1) := by decide +kernel
theorem dX2_addBeat_50 : decode cX2_addBeat 50 = .ok (.if_icmp .ne 9, 3) := by decide +kernel
theorem dX2_addBeat_53 : decode cX2_addBeat 53 = .ok (.aload_n 0, 1) := by decide +kernel
theorem dX2_addBeat_54 : decode cX2_addBeat 54 = .ok (.iconst 3, 1) := by decide +kernel
theorem dX2_addBeat_55 : decode cX2_addBeat 55 = .ok (.invokevirtual 62, 3) := by decide +kernel
theorem dX2_addBeat_58 : decode cX2_addBeat 58 = .ok (.ireturn, 1) := by decide +kernel
theorem dX2_addBeat_59 : decode cX2_addBeat 59 = .ok (.iconst 4, 1) := by decide +kernel
theorem dX2_addBeat_60 : decode cX2_addBeat 60 = .ok (.iload_n 1, 1) := by decide +kernel
theorem dX2_addBeat_61 : decode cX2_addBeat 61 = .ok (.imul, 1) := by decide +kernel
theorem dX2_addBeat_62 : decode cX2_addBeat 62 = .ok (.aload_n 0, 1) := by decide +kernel
theorem dX2_addBeat_63 : decode cX2_addBeat 63 = .ok (.getfield 16, 3) := by decide +kernel
theorem dX2_addBeat_66 : decode cX2_addBeat 66 = .ok (.iload_n 1, 1) := by decide +kernel
theorem dX2_addBeat_67 : decode cX2_addBeat 67 = .ok (.iaload, 1) := by decide +kernel
theorem dX2_addBeat_68 : decode cX2_addBeat 68 = .ok (.iadd, 1) := by decide +kernel
theorem dX2_addBeat_69 : decode cX2_addBeat 69 = .ok (.istore 4, 2) := by decide +kernel
theorem dX2_addBeat_71 : decode cX2_addBeat 71 = .ok (.aload_n 0, 1) := by decide +kernel
theorem dX2_addBeat_72 : decode cX2_addBeat 72 = .ok (.getfield 20, 3) := by decide +kernel
theorem dX2_addBeat_75 : decode cX2_addBeat 75 = .ok (.iload 4, 2) := by decide +kernel
theorem dX2_addBeat_77 : decode cX2_addBeat 77 = .ok (.iload_n 2, 1) := by decide +kernel
theorem dX2_addBeat_78 : decode cX2_addBeat 78 = .ok (.iastore, 1) := by decide +kernel
theorem dX2_addBeat_79 : decode cX2_addBeat 79 = .ok (.aload_n 0, 1) := by decide +kernel
theorem dX2_addBeat_80 : decode cX2_addBeat 80 = .ok (.getfield 23, 3) := by decide +kernel
theorem dX2_addBeat_83 : decode cX2_addBeat 83 = .ok (.iload 4, 2) := by decide +kernel
theorem dX2_addBeat_85 : decode cX2_addBeat 85 = .ok (.iload_n 3, 1) := by decide +kernel
theorem dX2_addBeat_86 : decode cX2_addBeat 86 = .ok (.iastore, 1) := by decide +kernel
theorem dX2_addBeat_87 : decode cX2_addBeat 87 = .ok (.aload_n 0, 1) := by decide +kernel
theorem dX2_addBeat_88 : decode cX2_addBeat 88 = .ok (.getfield 16, 3) := by decide +kernel
theorem dX2_addBeat_91 : decode cX2_addBeat 91 = .ok (.iload_n 1, 1) := by decide +kernel
theorem dX2_addBeat_92 : decode cX2_addBeat 92 = .ok (.dup2, 1) := by decide +kernel
theorem dX2_addBeat_93 : decode cX2_addBeat 93 = .ok (.iaload, 1) := by decide +kernel
theorem dX2_addBeat_94 : decode cX2_addBeat 94 = .ok (.iconst 1, 1) := by decide +kernel
theorem dX2_addBeat_95 : decode cX2_addBeat 95 = .ok (.iadd, 1) := by decide +kernel
theorem dX2_addBeat_96 : decode cX2_addBeat 96 = .ok (.iastore, 1) := by decide +kernel
theorem dX2_addBeat_97 : decode cX2_addBeat 97 = .ok (.aload_n 0, 1) := by decide +kernel
theorem dX2_addBeat_98 : decode cX2_addBeat 98 = .ok (.getfield 16, 3) := by decide +kernel
theorem dX2_addBeat_101 : decode cX2_addBeat 101 = .ok (.iload_n 1, 1) := by decide +kernel
theorem dX2_addBeat_102 : decode cX2_addBeat 102 = .ok (.iaload, 1) := by decide +kernel
theorem dX2_addBeat_103 : decode cX2_addBeat 103 = .ok (.iconst 1, 1) := by decide +kernel
theorem dX2_addBeat_104 : decode cX2_addBeat 104 = .ok (.isub, 1) := by decide +kernel
theorem dX2_addBeat_105 : decode cX2_addBeat 105 = .ok (.ireturn, 1) := by decide +kernel
set_option maxRecDepth 20000 in
theorem ggX2_moveBeat_X2_isBeat : GoodIn wsX2_moveBeat wsX2_isBeat := goodIn_r _ [8, 9, 10, 11, 12, 7, 13, 14, 15, 16, 17, 22, 23, 24, 25, 26, 27, 28, 29, 30] (by decide +kernel) (by decide +kernel)
set_option maxRecDepth 20000 in
theorem gX2_moveBeat_X2_isBeat : GoodIn wsX2_moveBeat (wsV RX2 68 RX2 yX2_isBeat wsX2_isBeat) := goodIn_app (goodIn_of _ (by decide +kernel)) ggX2_moveBeat_X2_isBeat
set_option maxRecDepth 20000 in
theorem ggX2_moveBeat_X2_no : GoodIn wsX2_moveBeat wsX2_no := goodIn_r _ [21, 1, 22, 23, 24, 25, 26, 27, 28, 29, 30] (by decide +kernel) (by decide +kernel)
set_option maxRecDepth 20000 in
theorem gX2_moveBeat_X2_no : GoodIn wsX2_moveBeat (wsV RX2 62 RX2 yX2_no wsX2_no) := goodIn_app (goodIn_of _ (by decide +kernel)) ggX2_moveBeat_X2_no
set_option maxRecDepth 20000 in
theorem ggX2_moveBeat_X2_isIn : GoodIn wsX2_moveBeat wsX2_isIn := goodIn_r _ [17] (by decide +kernel) (by decide +kernel)
set_option maxRecDepth 20000 in
theorem gX2_moveBeat_X2_isIn : GoodIn wsX2_moveBeat (va_wsS RX2 33 yX2_isIn wsX2_isIn) := goodIn_app (goodIn_of _ (by decide +kernel)) ggX2_moveBeat_X2_isIn
theorem dX2_moveBeat_0 : decode cX2_moveBeat 0 = .ok (.aload_n 0, 1) := by decide +kernel
theorem dX2_moveBeat_1 : decode cX2_moveBeat 1 = .ok (.iconst 0, 1) := by decide +kernel
theorem dX2_moveBeat_2 : decode cX2_moveBeat 2 = .ok (.putfield 26, 3) := by decide +kernel
theorem dX2_moveBeat_5 : decode cX2_moveBeat 5 = .ok (.aload_n 0, 1) := by decide +kernel
theorem dX2_moveBeat_6 : decode cX2_moveBeat 6 = .ok (.iload_n 1, 1) := by decide +kernel
theorem dX2_moveBeat_7 : decode cX2_moveBeat 7 = .ok (.iload_n 2, 1) := by decide +kernel
theorem dX2_moveBeat_8 : decode cX2_moveBeat 8 = .ok (.invokevirtual 68, 3) := by decide +kernel
theorem dX2_moveBeat_11 : decode cX2_moveBeat 11 = .ok (.ifCond .ne 9, 3) := by decide +kernel
theorem dX2_moveBeat_14 : decode cX2_moveBeat 14 = .ok (.aload_n 0, 1) := by decide +kernel
theorem dX2_moveBeat_15 : decode cX2_moveBeat 15 = .ok (.iconst 1, 1) := by decide +kernel
theorem dX2_moveBeat_16 : decode cX2_moveBeat 16 = .ok (.invokevirtual 62, 3) := by decide +kernel
theorem dX2_moveBeat_19 : decode cX2_moveBeat 19 = .ok (.ireturn, 1) := by decide +kernel
theorem dX2_moveBeat_20 : decode cX2_moveBeat 20 = .ok (.iconst 4, 1) := by decide +kernel
theorem dX2_moveBeat_21 : decode cX2_moveBeat 21 = .ok (.iload_n 1, 1) := by decide +kernel
theorem dX2_moveBeat_22 : decode cX2_moveBeat 22 = .ok (.imul, 1) := by decide +kernel
theorem dX2_moveBeat_23 : decode cX2_moveBeat 23 = .ok (.iload_n 2, 1) := by decide +kernel
theorem dX2_moveBeat_24 : decode cX2_moveBeat 24 = .ok (.iadd, 1) := by decide +kernel
theorem dX2_moveBeat_25 : decode cX2_moveBeat 25 = .ok (.istore 4, 2) := by decide +kernel
theorem dX2_moveBeat_27 : decode cX2_moveBeat 27 = .ok (.iload_n 3, 1) := by decide +kernel
theorem dX2_moveBeat_28 : decode cX2_moveBeat 28 = .ok (.iconst 0, 1) := by decide +kernel
theorem dX2_moveBeat_29 : decode cX2_moveBeat 29 = .ok (.aload_n 0, 1) := by decide +kernel
theorem dX2_moveBeat_30 : decode cX2_moveBeat 30 = .ok (.getfield 20, 3) := by decide +kernel
theorem dX2_moveBeat_33 : decode cX2_moveBeat 33 = .ok (.iload 4, 2) := by decide +kernel
theorem dX2_moveBeat_35 : decode cX2_moveBeat 35 = .ok (.iaload, 1) := by decide +kernel
theorem dX2_moveBeat_36 : decode cX2_moveBeat 36 = .ok (.iconst 1, 1) := by decide +kernel
theorem dX2_moveBeat_37 : decode cX2_moveBeat 37 = .ok (.isub, 1) := by decide +kernel
theorem dX2_moveBeat_38 : decode cX2_moveBeat 38 = .ok (.invokestatic 33, 3) := by decide +kernel
theorem dX2_moveBeat_41 : decode cX2_moveBeat 41 = .ok (.ifCond .ne 9, 3) := by decide +kernel
theorem dX2_moveBeat_44 : decode cX2_moveBeat 44 = .ok (.aload_n 0, 1) := by decide +kernel
theorem dX2_moveBeat_45 : decode cX2_moveBeat 45 = .ok (.iconst 2, 1) := by decide +kernel
theorem dX2_moveBeat_46 : decode cX2_moveBeat 46 = .ok (.invokevirtual 62, 3) := by decide +kernel
theorem dX2_moveBeat_49 : decode cX2_moveBeat 49 = .ok (.ireturn, 1) := by decide +kernel
theorem dX2_moveBeat_50 : decode cX2_moveBeat 50 = .ok (.aload_n 0, 1) := by decide +kernel
theorem dX2_moveBeat_51 : decode cX2_moveBeat 51 = .ok (.getfield 23, 3) := by decide +kernel
theorem dX2_moveBeat_54 : decode cX2_moveBeat 54 = .ok (.iload 4, 2) := by decide +kernel
theorem dX2_moveBeat_56 : decode cX2_moveBeat 56 = .ok (.iaload, 1) := by decide +kernel
theorem dX2_moveBeat_57 : decode cX2_moveBeat 57 = .ok (.istore 5, 2) := by decide +kernel
theorem dX2_moveBeat_59 : decode cX2_moveBeat 59 = .ok (.aload_n 0, 1) := by decide +kernel
theorem dX2_moveBeat_60 : decode cX2_moveBeat 60 = .ok (.getfield 23, 3) := by decide +kernel
theorem dX2_moveBeat_63 : decode cX2_moveBeat 63 = .ok (.iload 4, 2) := by decide +kernel
theorem dX2_moveBeat_65 : decode cX2_moveBeat 65 = .ok (.iload_n 3, 1) := by decide +kernel
theorem dX2_moveBeat_66 : decode cX2_moveBeat 66 = .ok (.iastore, 1) := by decide +kernel
theorem dX2_moveBeat_67 : decode cX2_moveBeat 67 = .ok (.iload 5, 2) := by decide +kernel
theorem dX2_moveBeat_69 : decode cX2_moveBeat 69 = .ok (.ireturn, 1) := by decide +kernel
set_option maxRecDepth 20000 in
theorem ggX2_takeBeat_X2_isBeat : GoodIn wsX2_takeBeat wsX2_isBeat := goodIn_r _ [9, 2, 10, 11, 12, 8, 13, 14, 15, 16, 17, 22, 23, 24, 25, 26, 27, 28, 29, 30] (by decide +kernel) (by decide +kernel)
set_option maxRecDepth 20000 in
theorem gX2_takeBeat_X2_isBeat : GoodIn wsX2_takeBeat (wsV RX2 68 RX2 yX2_isBeat wsX2_isBeat) := goodIn_app (goodIn_of _ (by decide +kernel)) ggX2_takeBeat_X2_isBeat
set_option maxRecDepth 20000 in
theorem ggX2_takeBeat_X2_no : GoodIn wsX2_takeBeat wsX2_no := goodIn_r _ [21, 1, 22, 23, 24, 25, 26, 27, 28, 29, 30] (by decide +kernel) (by decide +kernel)
set_option maxRecDepth 20000 in
theorem gX2_takeBeat_X2_no : GoodIn wsX2_takeBeat (wsV RX2 62 RX2 yX2_no wsX2_no) := goodIn_app (goodIn_of _ (by decide +kernel)) ggX2_takeBeat_X2_no
theorem dX2_takeBeat_0 : decode cX2_takeBeat 0 = .ok (.aload_n 0, 1) := by decide +kernel
theorem dX2_takeBeat_1 : decode cX2_takeBeat 1 = .ok (.iconst 0, 1) := by decide +kernel
theorem dX2_takeBeat_2 : decode cX2_takeBeat 2 = .ok (.putfield 26, 3) := by decide +kernel
theorem dX2_takeBeat_5 : decode cX2_takeBeat 5 = .ok (.aload_n 0, 1) := by decide +kernel
theorem dX2_takeBeat_6 : decode cX2_takeBeat 6 = .ok (.iload_n 1, 1) := by decide +kernel
theorem dX2_takeBeat_7 : decode cX2_takeBeat 7 = .ok (.iload_n 2, 1) := by decide +kernel
theorem dX2_takeBeat_8 : decode cX2_takeBeat 8 = .ok (.invokevirtual 68, 3) := by decide +kernel
theorem dX2_takeBeat_11 : decode cX2_takeBeat 11 = .ok (.ifCond .ne 9, 3) := by decide +kernel
theorem dX2_takeBeat_14 : decode cX2_takeBeat 14 = .ok (.aload_n 0, 1) := by decide +kernel
theorem dX2_takeBeat_15 : decode cX2_takeBeat 15 = .ok (.iconst 1, 1) := by decide +kernel
theorem dX2_takeBeat_16 : decode cX2_takeBeat 16 = .ok (.invokevirtual 62, 3) := by decide +kernel
theorem dX2_takeBeat_19 : decode cX2_takeBeat 19 = .ok (.ireturn, 1) := by decide +kernel
theorem dX2_takeBeat_20 : decode cX2_takeBeat 20 = .ok (.aload_n 0, 1) := by decide +kernel
theorem dX2_takeBeat_21 : decode cX2_takeBeat 21 = .ok (.getfield 16, 3) := by decide +kernel
theorem dX2_takeBeat_24 : decode cX2_takeBeat 24 = .ok (.iload_n 1, 1) := by decide +kernel
theorem dX2_takeBeat_25 : decode cX2_takeBeat 25 = .ok (.dup2, 1) := by decide +kernel
theorem dX2_takeBeat_26 : decode cX2_takeBeat 26 = .ok (.iaload, 1) := by decide +kernel
theorem dX2_takeBeat_27 : decode cX2_takeBeat 27 = .ok (.iconst 1, 1) := by decide +kernel
theorem dX2_takeBeat_28 : decode cX2_takeBeat 28 = .ok (.isub, 1) := by decide +kernel
theorem dX2_takeBeat_29 : decode cX2_takeBeat 29 = .ok (.iastore, 1) := by decide +kernel
theorem dX2_takeBeat_30 : decode cX2_takeBeat 30 = .ok (.iconst 4, 1) := by decide +kernel
theorem dX2_takeBeat_31 : decode cX2_takeBeat 31 = .ok (.iload_n 1, 1) := by decide +kernel
theorem dX2_takeBeat_32 : decode cX2_takeBeat 32 = .ok (.imul, 1) := by decide +kernel
theorem dX2_takeBeat_33 : decode cX2_takeBeat 33 = .ok (.iload_n 2, 1) := by decide +kernel
theorem dX2_takeBeat_34 : decode cX2_takeBeat 34 = .ok (.iadd, 1) := by decide +kernel
theorem dX2_takeBeat_35 : decode cX2_takeBeat 35 = .ok (.istore_n 3, 1) := by decide +kernel
theorem dX2_takeBeat_36 : decode cX2_takeBeat 36 = .ok (.iload_n 3, 1) := by decide +kernel
theorem dX2_takeBeat_37 : decode cX2_takeBeat 37 = .ok (.iconst 4, 1) := by decide +kernel
theorem dX2_takeBeat_38 : decode cX2_takeBeat 38 = .ok (.iload_n 1, 1) := by decide +kernel
theorem dX2_takeBeat_39 : decode cX2_takeBeat 39 = .ok (.imul, 1) := by decide +kernel
theorem dX2_takeBeat_40 : decode cX2_takeBeat 40 = .ok (.aload_n 0, 1) := by decide +kernel
theorem dX2_takeBeat_41 : decode cX2_takeBeat 41 = .ok (.getfield 16, 3) := by decide +kernel
theorem dX2_takeBeat_44 : decode cX2_takeBeat 44 = .ok (.iload_n 1, 1) := by decide +kernel
theorem dX2_takeBeat_45 : decode cX2_takeBeat 45 = .ok (.iaload, 1) := by decide +kernel
theorem dX2_takeBeat_46 : decode cX2_takeBeat 46 = .ok (.iadd, 1) := by decide +kernel
theorem dX2_takeBeat_47 : decode cX2_takeBeat 47 = .ok (.if_icmp .ge 37, 3) := by decide +kernel
theorem dX2_takeBeat_50 : decode cX2_takeBeat 50 = .ok (.aload_n 0, 1) := by decide +kernel
theorem dX2_takeBeat_51 : decode cX2_takeBeat 51 = .ok (.getfield 20, 3) := by decide +kernel
theorem dX2_takeBeat_54 : decode cX2_takeBeat 54 = .ok (.iload_n 3, 1) := by decide +kernel
theorem dX2_takeBeat_55 : decode cX2_takeBeat 55 = .ok (.aload_n 0, 1) := by decide +kernel
theorem dX2_takeBeat_56 : decode cX2_takeBeat 56 = .ok (.getfield 20, 3) := by decide +kernel
theorem dX2_takeBeat_59 : decode cX2_takeBeat 59 = .ok (.iload_n 3, 1) := by decide +kernel
theorem dX2_takeBeat_60 : decode cX2_takeBeat 60 = .ok (.iconst 1, 1) := by decide +kernel
theorem dX2_takeBeat_61 : decode cX2_takeBeat 61 = .ok (.iadd, 1) := by decide +kernel
theorem dX2_takeBeat_62 : decode cX2_takeBeat 62 = .ok (.iaload, 1) := by decide +kernel
theorem dX2_takeBeat_63 : decode cX2_takeBeat 63 = .ok (.iastore, 1) := by decide +kernel
theorem dX2_takeBeat_64 : decode cX2_takeBeat 64 = .ok (.aload_n 0, 1) := by decide +kernel
theorem dX2_takeBeat_65 : decode cX2_takeBeat 65 = .ok (.getfield 23, 3) := by decide +kernel
theorem dX2_takeBeat_68 : decode cX2_takeBeat 68 = .ok (.iload_n 3, 1) := by decide +kernel
theorem dX2_takeBeat_69 : decode cX2_takeBeat 69 = .ok (.aload_n 0, 1) := by decide +kernel
theorem dX2_takeBeat_70 : decode cX2_takeBeat 70 = .ok (.getfield 23, 3) := by decide +kernel
theorem dX2_takeBeat_73 : decode cX2_takeBeat 73 = .ok (.iload_n 3, 1) := by decide +kernel
theorem dX2_takeBeat_74 : decode cX2_takeBeat 74 = .ok (.iconst 1, 1) := by decide +kernel
theorem dX2_takeBeat_75 : decode cX2_takeBeat 75 = .ok (.iadd, 1) := by decide +kernel
theorem dX2_takeBeat_76 : decode cX2_takeBeat 76 = .ok (.iaload, 1) := by decide +kernel
theorem dX2_takeBeat_77 : decode cX2_takeBeat 77 = .ok (.iastore, 1) := by decide +kernel
theorem dX2_takeBeat_78 : decode cX2_takeBeat 78 = .ok (.iinc 3 1, 3) := by decide +kernel
theorem dX2_takeBeat_81 : decode cX2_takeBeat 81 = .ok (.goto (-45), 3) := by decide +kernel
theorem dX2_takeBeat_84 : decode cX2_takeBeat 84 = .ok (.aload_n 0, 1) := by decide +kernel
theorem dX2_takeBeat_85 : decode cX2_takeBeat 85 = .ok (.getfield 16, 3) := by decide +kernel
theorem dX2_takeBeat_88 : decode cX2_takeBeat 88 = .ok (.iload_n 1, 1) := by decide +kernel
theorem dX2_takeBeat_89 : decode cX2_takeBeat 89 = .ok (.iaload, 1) := by decide +kernel
theorem dX2_takeBeat_90 : decode cX2_takeBeat 90 = .ok (.ireturn, 1) := by decide +kernel
set_option maxRecDepth 20000 in
theorem ggX2_turnShutter_X2_isLamp : GoodIn wsX2_turnShutter wsX2_isLamp := goodIn_r _ [7, 8, 9, 10, 6, 11, 16, 17, 18, 19, 20, 21, 22, 23, 24] (by decide +kernel) (by decide +kernel)
set_option maxRecDepth 20000 in
theorem gX2_turnShutter_X2_isLamp : GoodIn wsX2_turnShutter (wsV RX2 37 RX2 yX2_isLamp wsX2_isLamp) := goodIn_app (goodIn_of _ (by decide +kernel)) ggX2_turnShutter_X2_isLamp
set_option maxRecDepth 20000 in
theorem ggX2_turnShutter_X2_isNot : GoodIn wsX2_turnShutter wsX2_isNot := goodIn_r _ [15, 1, 16, 17, 18, 19, 20, 21, 22, 23, 24] (by decide +kernel) (by decide +kernel)
set_option maxRecDepth 20000 in
theorem gX2_turnShutter_X2_isNot : GoodIn wsX2_turnShutter (wsV RX2 71 RX2 yX2_isNot wsX2_isNot) := goodIn_app (goodIn_of _ (by decide +kernel)) ggX2_turnShutter_X2_isNot
theorem dX2_turnShutter_0 : decode cX2_turnShutter 0 = .ok (.aload_n 0, 1) := by decide +kernel
theorem dX2_turnShutter_1 : decode cX2_turnShutter 1 = .ok (.iconst 0, 1) := by decide +kernel
theorem dX2_turnShutter_2 : decode cX2_turnShutter 2 = .ok (.putfield 26, 3) := by decide +kernel
theorem dX2_turnShutter_5 : decode cX2_turnShutter 5 = .ok (.aload_n 0, 1) := by decide +kernel
theorem dX2_turnShutter_6 : decode cX2_turnShutter 6 = .ok (.iload_n 1, 1) := by decide +kernel
theorem dX2_turnShutter_7 : decode cX2_turnShutter 7 = .ok (.invokevirtual 37, 3) := by decide +kernel
theorem dX2_turnShutter_10 : decode cX2_turnShutter 10 = .ok (.ifCond .ne 9, 3) := by decide +kernel
theorem dX2_turnShutter_13 : decode cX2_turnShutter 13 = .ok (.aload_n 0, 1) := by decide +kernel
theorem dX2_turnShutter_14 : decode cX2_turnShutter 14 = .ok (.iconst 1, 1) := by decide +kernel
theorem dX2_turnShutter_15 : decode cX2_turnShutter 15 = .ok (.invokevirtual 71, 3) := by decide +kernel
theorem dX2_turnShutter_18 : decode cX2_turnShutter 18 = .ok (.ireturn, 1) := by decide +kernel
theorem dX2_turnShutter_19 : decode cX2_turnShutter 19 = .ok (.aload_n 0, 1) := by decide +kernel
theorem dX2_turnShutter_20 : decode cX2_turnShutter 20 = .ok (.getfield 13, 3) := by decide +kernel
theorem dX2_turnShutter_23 : decode cX2_turnShutter 23 = .ok (.iload_n 1, 1) := by decide +kernel
theorem dX2_turnShutter_24 : decode cX2_turnShutter 24 = .ok (.aload_n 0, 1) := by decide +kernel
theorem dX2_turnShutter_25 : decode cX2_turnShutter 25 = .ok (.getfield 13, 3) := by decide +kernel
theorem dX2_turnShutter_28 : decode cX2_turnShutter 28 = .ok (.iload_n 1, 1) := by decide +kernel
theorem dX2_turnShutter_29 : decode cX2_turnShutter 29 = .ok (.baload, 1) := by decide +kernel
theorem dX2_turnShutter_30 : decode cX2_turnShutter 30 = .ok (.ifCond .ne 7, 3) := by decide +kernel
theorem dX2_turnShutter_33 : decode cX2_turnShutter 33 = .ok (.iconst 1, 1) := by decide +kernel
theorem dX2_turnShutter_34 : decode cX2_turnShutter 34 = .ok (.goto 4, 3) := by decide +kernel
theorem dX2_turnShutter_37 : decode cX2_turnShutter 37 = .ok (.iconst 0, 1) := by decide +kernel
theorem dX2_turnShutter_38 : decode cX2_turnShutter 38 = .ok (.bastore, 1) := by decide +kernel
theorem dX2_turnShutter_39 : decode cX2_turnShutter 39 = .ok (.aload_n 0, 1) := by decide +kernel
theorem dX2_turnShutter_40 : decode cX2_turnShutter 40 = .ok (.getfield 13, 3) := by decide +kernel
theorem dX2_turnShutter_43 : decode cX2_turnShutter 43 = .ok (.iload_n 1, 1) := by decide +kernel
theorem dX2_turnShutter_44 : decode cX2_turnShutter 44 = .ok (.baload, 1) := by decide +kernel
theorem dX2_turnShutter_45 : decode cX2_turnShutter 45 = .ok (.ireturn, 1) := by decide +kernel
set_option maxRecDepth 20000 in
theorem ggX2_pass_X2_isIn : GoodIn wsX2_pass wsX2_isIn := goodIn_r _ [8] (by decide +kernel) (by decide +kernel)
set_option maxRecDepth 20000 in
theorem gX2_pass_X2_isIn : GoodIn wsX2_pass (va_wsS RX2 33 yX2_isIn wsX2_isIn) := goodIn_app (goodIn_of _ (by decide +kernel)) ggX2_pass_X2_isIn
set_option maxRecDepth 20000 in
theorem ggX2_pass_X2_no : GoodIn wsX2_pass wsX2_no := goodIn_r _ [12, 1, 24, 25, 26, 27, 28, 29, 30, 31, 32] (by decide +kernel) (by decide +kernel)
set_option maxRecDepth 20000 in
theorem gX2_pass_X2_no : GoodIn wsX2_pass (wsV RX2 62 RX2 yX2_no wsX2_no) := goodIn_app (goodIn_of _ (by decide +kernel)) ggX2_pass_X2_no
set_option maxRecDepth 20000 in
theorem ggX2_pass_X2_changes : GoodIn wsX2_pass wsX2_changes := goodIn_r _ [16, 17, 18, 19, 7, 20, 21, 22, 23, 24, 25, 26, 27, 28, 29, 30, 31, 32] (by decide +kernel) (by decide +kernel)
set_option maxRecDepth 20000 in
theorem gX2_pass_X2_changes : GoodIn wsX2_pass (wsV RX2 53 RX2 yX2_changes wsX2_changes) := goodIn_app (goodIn_of _ (by decide +kernel)) ggX2_pass_X2_changes
theorem dX2_pass_0 : decode cX2_pass 0 = .ok (.aload_n 0, 1) := by decide +kernel
theorem dX2_pass_1 : decode cX2_pass 1 = .ok (.iconst 0, 1) := by decide +kernel
theorem dX2_pass_2 : decode cX2_pass 2 = .ok (.putfield 26, 3) := by decide +kernel
theorem dX2_pass_5 : decode cX2_pass 5 = .ok (.iload_n 1, 1) := by decide +kernel
theorem dX2_pass_6 : decode cX2_pass 6 = .ok (.iconst 1, 1) := by decide +kernel
theorem dX2_pass_7 : decode cX2_pass 7 = .ok (.sipush 500, 3) := by decide +kernel
theorem dX2_pass_10 : decode cX2_pass 10 = .ok (.invokestatic 33, 3) := by decide +kernel
theorem dX2_pass_13 : decode cX2_pass 13 = .ok (.ifCond .ne 9, 3) := by decide +kernel
theorem dX2_pass_16 : decode cX2_pass 16 = .ok (.aload_n 0, 1) := by decide +kernel
theorem dX2_pass_17 : decode cX2_pass 17 = .ok (.iconst 1, 1) := by decide +kernel
theorem dX2_pass_18 : decode cX2_pass 18 = .ok (.invokevirtual 62, 3) := by decide +kernel
theorem dX2_pass_21 : decode cX2_pass 21 = .ok (.ireturn, 1) := by decide +kernel
theorem dX2_pass_22 : decode cX2_pass 22 = .ok (.aload_n 0, 1) := by decide +kernel
theorem dX2_pass_23 : decode cX2_pass 23 = .ok (.getfield 74, 3) := by decide +kernel
theorem dX2_pass_26 : decode cX2_pass 26 = .ok (.istore_n 2, 1) := by decide +kernel
theorem dX2_pass_27 : decode cX2_pass 27 = .ok (.iconst 0, 1) := by decide +kernel
theorem dX2_pass_28 : decode cX2_pass 28 = .ok (.istore_n 3, 1) := by decide +kernel
theorem dX2_pass_29 : decode cX2_pass 29 = .ok (.iload_n 3, 1) := by decide +kernel
theorem dX2_pass_30 : decode cX2_pass 30 = .ok (.iload_n 1, 1) := by decide +kernel
theorem dX2_pass_31 : decode cX2_pass 31 = .ok (.if_icmp .ge 64, 3) := by decide +kernel
theorem dX2_pass_34 : decode cX2_pass 34 = .ok (.aload_n 0, 1) := by decide +kernel
theorem dX2_pass_35 : decode cX2_pass 35 = .ok (.dup, 1) := by decide +kernel
theorem dX2_pass_36 : decode cX2_pass 36 = .ok (.getfield 59, 3) := by decide +kernel
theorem dX2_pass_39 : decode cX2_pass 39 = .ok (.iconst 1, 1) := by decide +kernel
theorem dX2_pass_40 : decode cX2_pass 40 = .ok (.iadd, 1) := by decide +kernel
theorem dX2_pass_41 : decode cX2_pass 41 = .ok (.putfield 59, 3) := by decide +kernel
theorem dX2_pass_44 : decode cX2_pass 44 = .ok (.iconst 0, 1) := by decide +kernel
theorem dX2_pass_45 : decode cX2_pass 45 = .ok (.istore 4, 2) := by decide +kernel
theorem dX2_pass_47 : decode cX2_pass 47 = .ok (.iload 4, 2) := by decide +kernel
theorem dX2_pass_49 : decode cX2_pass 49 = .ok (.aload_n 0, 1) := by decide +kernel
theorem dX2_pass_50 : decode cX2_pass 50 = .ok (.getfield 30, 3) := by decide +kernel
theorem dX2_pass_53 : decode cX2_pass 53 = .ok (.if_icmp .ge 36, 3) := by decide +kernel
theorem dX2_pass_56 : decode cX2_pass 56 = .ok (.aload_n 0, 1) := by decide +kernel
theorem dX2_pass_57 : decode cX2_pass 57 = .ok (.dup, 1) := by decide +kernel
theorem dX2_pass_58 : decode cX2_pass 58 = .ok (.getfield 74, 3) := by decide +kernel
theorem dX2_pass_61 : decode cX2_pass 61 = .ok (.aload_n 0, 1) := by decide +kernel
theorem dX2_pass_62 : decode cX2_pass 62 = .ok (.iload 4, 2) := by decide +kernel
theorem dX2_pass_64 : decode cX2_pass 64 = .ok (.aload_n 0, 1) := by decide +kernel
theorem dX2_pass_65 : decode cX2_pass 65 = .ok (.getfield 59, 3) := by decide +kernel
theorem dX2_pass_68 : decode cX2_pass 68 = .ok (.invokevirtual 53, 3) := by decide +kernel
theorem dX2_pass_71 : decode cX2_pass 71 = .ok (.ifCond .eq 7, 3) := by decide +kernel
theorem dX2_pass_74 : decode cX2_pass 74 = .ok (.iconst 1, 1) := by decide +kernel
theorem dX2_pass_75 : decode cX2_pass 75 = .ok (.goto 4, 3) := by decide +kernel
theorem dX2_pass_78 : decode cX2_pass 78 = .ok (.iconst 0, 1) := by decide +kernel
theorem dX2_pass_79 : decode cX2_pass 79 = .ok (.iadd, 1) := by decide +kernel
theorem dX2_pass_80 : decode cX2_pass 80 = .ok (.putfield 74, 3) := by decide +kernel
theorem dX2_pass_83 : decode cX2_pass 83 = .ok (.iinc 4 1, 3) := by decide +kernel
theorem dX2_pass_86 : decode cX2_pass 86 = .ok (.goto (-39), 3) := by decide +kernel
theorem dX2_pass_89 : decode cX2_pass 89 = .ok (.iinc 3 1, 3) := by decide +kernel
theorem dX2_pass_92 : decode cX2_pass 92 = .ok (.goto (-63), 3) := by decide +kernel
theorem dX2_pass_95 : decode cX2_pass 95 = .ok (.aload_n 0, 1) := by decide +kernel
theorem dX2_pass_96 : decode cX2_pass 96 = .ok (.getfield 74, 3) := by decide +kernel
theorem dX2_pass_99 : decode cX2_pass 99 = .ok (.iload_n 2, 1) := by decide +kernel
theorem dX2_pass_100 : decode cX2_pass 100 = .ok (.isub, 1) := by decide +kernel
theorem dX2_pass_101 : decode cX2_pass 101 = .ok (.ireturn, 1) := by decide +kernel
theorem dX2_lamps_0 : decode cX2_lamps 0 = .ok (.aload_n 0, 1) := by decide +kernel
theorem dX2_lamps_1 : decode cX2_lamps 1 = .ok (.iconst 0, 1) := by decide +kernel
theorem dX2_lamps_2 : decode cX2_lamps 2 = .ok (.putfield 26, 3) := by decide +kernel
theorem dX2_lamps_5 : decode cX2_lamps 5 = .ok (.aload_n 0, 1) := by decide +kernel
theorem dX2_lamps_6 : decode cX2_lamps 6 = .ok (.getfield 30, 3) := by decide +kernel
theorem dX2_lamps_9 : decode cX2_lamps 9 = .ok (.ireturn, 1) := by decide +kernel
theorem dX2_now_0 : decode cX2_now 0 = .ok (.aload_n 0, 1) := by decide +kernel
theorem dX2_now_1 : decode cX2_now 1 = .ok (.iconst 0, 1) := by decide +kernel
theorem dX2_now_2 : decode cX2_now 2 = .ok (.putfield 26, 3) := by decide +kernel
theorem dX2_now_5 : decode cX2_now 5 = .ok (.aload_n 0, 1) := by decide +kernel
theorem dX2_now_6 : decode cX2_now 6 = .ok (.getfield 59, 3) := by decide +kernel
theorem dX2_now_9 : decode cX2_now 9 = .ok (.ireturn, 1) := by decide +kernel
theorem dX2_changesSeen_0 : decode cX2_changesSeen 0 = .ok (.aload_n 0, 1) := by decide +kernel
theorem dX2_changesSeen_1 : decode cX2_changesSeen 1 = .ok (.iconst 0, 1) := by decide +kernel
theorem dX2_changesSeen_2 : decode cX2_changesSeen 2 = .ok (.putfield 26, 3) := by decide +kernel
theorem dX2_changesSeen_5 : decode cX2_changesSeen 5 = .ok (.aload_n 0, 1) := by decide +kernel
theorem dX2_changesSeen_6 : decode cX2_changesSeen 6 = .ok (.getfield 74, 3) := by decide +kernel
theorem dX2_changesSeen_9 : decode cX2_changesSeen 9 = .ok (.ireturn, 1) := by decide +kernel
set_option maxRecDepth 20000 in
theorem ggX2_beatsOf_X2_isLamp : GoodIn wsX2_beatsOf wsX2_isLamp := goodIn_r _ [7, 8, 9, 10, 6, 11, 16, 17, 18, 19, 20, 21, 22, 23, 24] (by decide +kernel) (by decide +kernel)
set_option maxRecDepth 20000 in
theorem gX2_beatsOf_X2_isLamp : GoodIn wsX2_beatsOf (wsV RX2 37 RX2 yX2_isLamp wsX2_isLamp) := goodIn_app (goodIn_of _ (by decide +kernel)) ggX2_beatsOf_X2_isLamp
set_option maxRecDepth 20000 in
theorem ggX2_beatsOf_X2_no : GoodIn wsX2_beatsOf wsX2_no := goodIn_r _ [15, 1, 16, 17, 18, 19, 20, 21, 22, 23, 24] (by decide +kernel) (by decide +kernel)
set_option maxRecDepth 20000 in
theorem gX2_beatsOf_X2_no : GoodIn wsX2_beatsOf (wsV RX2 62 RX2 yX2_no wsX2_no) := goodIn_app (goodIn_of _ (by decide +kernel)) ggX2_beatsOf_X2_no
theorem dX2_beatsOf_0 : decode cX2_beatsOf 0 = .ok (.aload_n 0, 1) := by decide +kernel
theorem dX2_beatsOf_1 : decode cX2_beatsOf 1 = .ok (.iconst 0, 1) := by decide +kernel
theorem dX2_beatsOf_2 : decode cX2_beatsOf 2 = .ok (.putfield 26, 3) := by decide +kernel
theorem dX2_beatsOf_5 : decode cX2_beatsOf 5 = .ok (.aload_n 0, 1) := by decide +kernel
theorem dX2_beatsOf_6 : decode cX2_beatsOf 6 = .ok (.iload_n 1, 1) := by decide +kernel
theorem dX2_beatsOf_7 : decode cX2_beatsOf 7 = .ok (.invokevirtual 37, 3) := by decide +kernel
theorem dX2_beatsOf_10 : decode cX2_beatsOf 10 = .ok (.ifCond .eq 12, 3) := by decide +kernel
theorem dX2_beatsOf_13 : decode cX2_beatsOf 13 = .ok (.aload_n 0, 1) := by decide +kernel
theorem dX2_beatsOf_14 : decode cX2_beatsOf 14 = .ok (.getfield 16, 3) := by decide +kernel
theorem dX2_beatsOf_17 : decode cX2_beatsOf 17 = .ok (.iload_n 1, 1) := by decide +kernel
theorem dX2_beatsOf_18 : decode cX2_beatsOf 18 = .ok (.iaload, 1) := by decide +kernel
theorem dX2_beatsOf_19 : decode cX2_beatsOf 19 = .ok (.goto 8, 3) := by decide +kernel
theorem dX2_beatsOf_22 : decode cX2_beatsOf 22 = .ok (.aload_n 0, 1) := by decide +kernel
theorem dX2_beatsOf_23 : decode cX2_beatsOf 23 = .ok (.iconst 1, 1) := by decide +kernel
theorem dX2_beatsOf_24 : decode cX2_beatsOf 24 = .ok (.invokevirtual 62, 3) := by decide +kernel
theorem dX2_beatsOf_27 : decode cX2_beatsOf 27 = .ok (.ireturn, 1) := by decide +kernel
set_option maxRecDepth 20000 in
theorem ggX2_numberOf_X2_isBeat : GoodIn wsX2_numberOf wsX2_isBeat := goodIn_r _ [7, 8, 9, 10, 11, 6, 12, 13, 14, 15, 16, 21, 22, 23, 24, 25, 26, 27, 28, 29] (by decide +kernel) (by decide +kernel)
set_option maxRecDepth 20000 in
theorem gX2_numberOf_X2_isBeat : GoodIn wsX2_numberOf (wsV RX2 68 RX2 yX2_isBeat wsX2_isBeat) := goodIn_app (goodIn_of _ (by decide +kernel)) ggX2_numberOf_X2_isBeat
set_option maxRecDepth 20000 in
theorem ggX2_numberOf_X2_no : GoodIn wsX2_numberOf wsX2_no := goodIn_r _ [20, 1, 21, 22, 23, 24, 25, 26, 27, 28, 29] (by decide +kernel) (by decide +kernel)
set_option maxRecDepth 20000 in
theorem gX2_numberOf_X2_no : GoodIn wsX2_numberOf (wsV RX2 62 RX2 yX2_no wsX2_no) := goodIn_app (goodIn_of _ (by decide +kernel)) ggX2_numberOf_X2_no
theorem dX2_numberOf_0 : decode cX2_numberOf 0 = .ok (.aload_n 0, 1) := by decide +kernel
theorem dX2_numberOf_1 : decode cX2_numberOf 1 = .ok (.iconst 0, 1) := by decide +kernel
theorem dX2_numberOf_2 : decode cX2_numberOf 2 = .ok (.putfield 26, 3) := by decide +kernel
theorem dX2_numberOf_5 : decode cX2_numberOf 5 = .ok (.aload_n 0, 1) := by decide +kernel
theorem dX2_numberOf_6 : decode cX2_numberOf 6 = .ok (.iload_n 1, 1) := by decide +kernel
theorem dX2_numberOf_7 : decode cX2_numberOf 7 = .ok (.iload_n 2, 1) := by decide +kernel
theorem dX2_numberOf_8 : decode cX2_numberOf 8 = .ok (.invokevirtual 68, 3) := by decide +kernel
theorem dX2_numberOf_11 : decode cX2_numberOf 11 = .ok (.ifCond .eq 16, 3) := by decide +kernel
theorem dX2_numberOf_14 : decode cX2_numberOf 14 = .ok (.aload_n 0, 1) := by decide +kernel
theorem dX2_numberOf_15 : decode cX2_numberOf 15 = .ok (.getfield 20, 3) := by decide +kernel
theorem dX2_numberOf_18 : decode cX2_numberOf 18 = .ok (.iconst 4, 1) := by decide +kernel
theorem dX2_numberOf_19 : decode cX2_numberOf 19 = .ok (.iload_n 1, 1) := by decide +kernel
theorem dX2_numberOf_20 : decode cX2_numberOf 20 = .ok (.imul, 1) := by decide +kernel
theorem dX2_numberOf_21 : decode cX2_numberOf 21 = .ok (.iload_n 2, 1) := by decide +kernel
theorem dX2_numberOf_22 : decode cX2_numberOf 22 = .ok (.iadd, 1) := by decide +kernel
theorem dX2_numberOf_23 : decode cX2_numberOf 23 = .ok (.iaload, 1) := by decide +kernel
theorem dX2_numberOf_24 : decode cX2_numberOf 24 = .ok (.goto 8, 3) := by decide +kernel
theorem dX2_numberOf_27 : decode cX2_numberOf 27 = .ok (.aload_n 0, 1) := by decide +kernel
theorem dX2_numberOf_28 : decode cX2_numberOf 28 = .ok (.iconst 1, 1) := by decide +kernel
theorem dX2_numberOf_29 : decode cX2_numberOf 29 = .ok (.invokevirtual 62, 3) := by decide +kernel
theorem dX2_numberOf_32 : decode cX2_numberOf 32 = .ok (.ireturn, 1) := by decide +kernel
set_option maxRecDepth 20000 in
theorem ggX2_offsetOf_X2_isBeat : GoodIn wsX2_offsetOf wsX2_isBeat := goodIn_r _ [7, 8, 9, 10, 11, 6, 12, 13, 14, 15, 16, 21, 22, 23, 24, 25, 26, 27, 28, 29] (by decide +kernel) (by decide +kernel)
set_option maxRecDepth 20000 in
theorem gX2_offsetOf_X2_isBeat : GoodIn wsX2_offsetOf (wsV RX2 68 RX2 yX2_isBeat wsX2_isBeat) := goodIn_app (goodIn_of _ (by decide +kernel)) ggX2_offsetOf_X2_isBeat
set_option maxRecDepth 20000 in
theorem ggX2_offsetOf_X2_no : GoodIn wsX2_offsetOf wsX2_no := goodIn_r _ [20, 1, 21, 22, 23, 24, 25, 26, 27, 28, 29] (by decide +kernel) (by decide +kernel)
set_option maxRecDepth 20000 in
theorem gX2_offsetOf_X2_no : GoodIn wsX2_offsetOf (wsV RX2 62 RX2 yX2_no wsX2_no) := goodIn_app (goodIn_of _ (by decide +kernel)) ggX2_offsetOf_X2_no
theorem dX2_offsetOf_0 : decode cX2_offsetOf 0 = .ok (.aload_n 0, 1) := by decide +kernel
theorem dX2_offsetOf_1 : decode cX2_offsetOf 1 = .ok (.iconst 0, 1) := by decide +kernel
theorem dX2_offsetOf_2 : decode cX2_offsetOf 2 = .ok (.putfield 26, 3) := by decide +kernel
theorem dX2_offsetOf_5 : decode cX2_offsetOf 5 = .ok (.aload_n 0, 1) := by decide +kernel
theorem dX2_offsetOf_6 : decode cX2_offsetOf 6 = .ok (.iload_n 1, 1) := by decide +kernel
theorem dX2_offsetOf_7 : decode cX2_offsetOf 7 = .ok (.iload_n 2, 1) := by decide +kernel
theorem dX2_offsetOf_8 : decode cX2_offsetOf 8 = .ok (.invokevirtual 68, 3) := by decide +kernel
theorem dX2_offsetOf_11 : decode cX2_offsetOf 11 = .ok (.ifCond .eq 16, 3) := by decide +kernel
theorem dX2_offsetOf_14 : decode cX2_offsetOf 14 = .ok (.aload_n 0, 1) := by decide +kernel
theorem dX2_offsetOf_15 : decode cX2_offsetOf 15 = .ok (.getfield 23, 3) := by decide +kernel
theorem dX2_offsetOf_18 : decode cX2_offsetOf 18 = .ok (.iconst 4, 1) := by decide +kernel
theorem dX2_offsetOf_19 : decode cX2_offsetOf 19 = .ok (.iload_n 1, 1) := by decide +kernel
theorem dX2_offsetOf_20 : decode cX2_offsetOf 20 = .ok (.imul, 1) := by decide +kernel
theorem dX2_offsetOf_21 : decode cX2_offsetOf 21 = .ok (.iload_n 2, 1) := by decide +kernel
theorem dX2_offsetOf_22 : decode cX2_offsetOf 22 = .ok (.iadd, 1) := by decide +kernel
theorem dX2_offsetOf_23 : decode cX2_offsetOf 23 = .ok (.iaload, 1) := by decide +kernel
theorem dX2_offsetOf_24 : decode cX2_offsetOf 24 = .ok (.goto 8, 3) := by decide +kernel
theorem dX2_offsetOf_27 : decode cX2_offsetOf 27 = .ok (.aload_n 0, 1) := by decide +kernel
theorem dX2_offsetOf_28 : decode cX2_offsetOf 28 = .ok (.iconst 1, 1) := by decide +kernel
theorem dX2_offsetOf_29 : decode cX2_offsetOf 29 = .ok (.invokevirtual 62, 3) := by decide +kernel
theorem dX2_offsetOf_32 : decode cX2_offsetOf 32 = .ok (.ireturn, 1) := by decide +kernel
set_option maxRecDepth 20000 in
theorem ggX2_isCovered_X2_isLamp : GoodIn wsX2_isCovered wsX2_isLamp := goodIn_r _ [7, 8, 9, 10, 6, 11, 16, 17, 18, 19, 20, 21, 22, 23, 24] (by decide +kernel) (by decide +kernel)
set_option maxRecDepth 20000 in
theorem gX2_isCovered_X2_isLamp : GoodIn wsX2_isCovered (wsV RX2 37 RX2 yX2_isLamp wsX2_isLamp) := goodIn_app (goodIn_of _ (by decide +kernel)) ggX2_isCovered_X2_isLamp
set_option maxRecDepth 20000 in
theorem ggX2_isCovered_X2_isNot : GoodIn wsX2_isCovered wsX2_isNot := goodIn_r _ [15, 1, 16, 17, 18, 19, 20, 21, 22, 23, 24] (by decide +kernel) (by decide +kernel)
set_option maxRecDepth 20000 in
theorem gX2_isCovered_X2_isNot : GoodIn wsX2_isCovered (wsV RX2 71 RX2 yX2_isNot wsX2_isNot) := goodIn_app (goodIn_of _ (by decide +kernel)) ggX2_isCovered_X2_isNot
theorem dX2_isCovered_0 : decode cX2_isCovered 0 = .ok (.aload_n 0, 1) := by decide +kernel
theorem dX2_isCovered_1 : decode cX2_isCovered 1 = .ok (.iconst 0, 1) := by decide +kernel
theorem dX2_isCovered_2 : decode cX2_isCovered 2 = .ok (.putfield 26, 3) := by decide +kernel
theorem dX2_isCovered_5 : decode cX2_isCovered 5 = .ok (.aload_n 0, 1) := by decide +kernel
theorem dX2_isCovered_6 : decode cX2_isCovered 6 = .ok (.iload_n 1, 1) := by decide +kernel
theorem dX2_isCovered_7 : decode cX2_isCovered 7 = .ok (.invokevirtual 37, 3) := by decide +kernel
theorem dX2_isCovered_10 : decode cX2_isCovered 10 = .ok (.ifCond .eq 12, 3) := by decide +kernel
theorem dX2_isCovered_13 : decode cX2_isCovered 13 = .ok (.aload_n 0, 1) := by decide +kernel
theorem dX2_isCovered_14 : decode cX2_isCovered 14 = .ok (.getfield 13, 3) := by decide +kernel
theorem dX2_isCovered_17 : decode cX2_isCovered 17 = .ok (.iload_n 1, 1) := by decide +kernel
theorem dX2_isCovered_18 : decode cX2_isCovered 18 = .ok (.baload, 1) := by decide +kernel
theorem dX2_isCovered_19 : decode cX2_isCovered 19 = .ok (.goto 8, 3) := by decide +kernel
theorem dX2_isCovered_22 : decode cX2_isCovered 22 = .ok (.aload_n 0, 1) := by decide +kernel
theorem dX2_isCovered_23 : decode cX2_isCovered 23 = .ok (.iconst 1, 1) := by decide +kernel
theorem dX2_isCovered_24 : decode cX2_isCovered 24 = .ok (.invokevirtual 71, 3) := by decide +kernel
theorem dX2_isCovered_27 : decode cX2_isCovered 27 = .ok (.ireturn, 1) := by decide +kernel
set_option maxRecDepth 20000 in
theorem ggX2_isOn_X2_isLamp : GoodIn wsX2_isOn wsX2_isLamp := goodIn_r _ [7, 8, 9, 10, 6, 11, 24, 25, 26, 27, 28, 29, 30, 31, 32] (by decide +kernel) (by decide +kernel)
set_option maxRecDepth 20000 in
theorem gX2_isOn_X2_isLamp : GoodIn wsX2_isOn (wsV RX2 37 RX2 yX2_isLamp wsX2_isLamp) := goodIn_app (goodIn_of _ (by decide +kernel)) ggX2_isOn_X2_isLamp
set_option maxRecDepth 20000 in
theorem ggX2_isOn_X2_onAt : GoodIn wsX2_isOn wsX2_onAt := goodIn_r _ [15, 16, 17, 18, 19, 24, 25, 26, 27, 28, 29, 30, 31, 32] (by decide +kernel) (by decide +kernel)
set_option maxRecDepth 20000 in
theorem gX2_isOn_X2_onAt : GoodIn wsX2_isOn (wsV RX2 45 RX2 yX2_onAt wsX2_onAt) := goodIn_app (goodIn_of _ (by decide +kernel)) ggX2_isOn_X2_onAt
set_option maxRecDepth 20000 in
theorem ggX2_isOn_X2_isNot : GoodIn wsX2_isOn wsX2_isNot := goodIn_r _ [23, 1, 24, 25, 26, 27, 28, 29, 30, 31, 32] (by decide +kernel) (by decide +kernel)
set_option maxRecDepth 20000 in
theorem gX2_isOn_X2_isNot : GoodIn wsX2_isOn (wsV RX2 71 RX2 yX2_isNot wsX2_isNot) := goodIn_app (goodIn_of _ (by decide +kernel)) ggX2_isOn_X2_isNot
theorem dX2_isOn_0 : decode cX2_isOn 0 = .ok (.aload_n 0, 1) := by decide +kernel
theorem dX2_isOn_1 : decode cX2_isOn 1 = .ok (.iconst 0, 1) := by decide +kernel
theorem dX2_isOn_2 : decode cX2_isOn 2 = .ok (.putfield 26, 3) := by decide +kernel
theorem dX2_isOn_5 : decode cX2_isOn 5 = .ok (.aload_n 0, 1) := by decide +kernel
theorem dX2_isOn_6 : decode cX2_isOn 6 = .ok (.iload_n 1, 1) := by decide +kernel
theorem dX2_isOn_7 : decode cX2_isOn 7 = .ok (.invokevirtual 37, 3) := by decide +kernel
theorem dX2_isOn_10 : decode cX2_isOn 10 = .ok (.ifCond .eq 15, 3) := by decide +kernel
theorem dX2_isOn_13 : decode cX2_isOn 13 = .ok (.aload_n 0, 1) := by decide +kernel
theorem dX2_isOn_14 : decode cX2_isOn 14 = .ok (.iload_n 1, 1) := by decide +kernel
theorem dX2_isOn_15 : decode cX2_isOn 15 = .ok (.aload_n 0, 1) := by decide +kernel
theorem dX2_isOn_16 : decode cX2_isOn 16 = .ok (.getfield 59, 3) := by decide +kernel
theorem dX2_isOn_19 : decode cX2_isOn 19 = .ok (.invokevirtual 45, 3) := by decide +kernel
theorem dX2_isOn_22 : decode cX2_isOn 22 = .ok (.goto 8, 3) := by decide +kernel
theorem dX2_isOn_25 : decode cX2_isOn 25 = .ok (.aload_n 0, 1) := by decide +kernel
theorem dX2_isOn_26 : decode cX2_isOn 26 = .ok (.iconst 1, 1) := by decide +kernel
theorem dX2_isOn_27 : decode cX2_isOn 27 = .ok (.invokevirtual 71, 3) := by decide +kernel
theorem dX2_isOn_30 : decode cX2_isOn 30 = .ok (.ireturn, 1) := by decide +kernel
set_option maxRecDepth 20000 in
theorem ggX2_isLit_X2_isLamp : GoodIn wsX2_isLit wsX2_isLamp := goodIn_r _ [8, 9, 10, 11, 7, 12, 25, 26, 27, 28, 29, 30, 31, 32, 33] (by decide +kernel) (by decide +kernel)
set_option maxRecDepth 20000 in
theorem gX2_isLit_X2_isLamp : GoodIn wsX2_isLit (wsV RX2 37 RX2 yX2_isLamp wsX2_isLamp) := goodIn_app (goodIn_of _ (by decide +kernel)) ggX2_isLit_X2_isLamp
set_option maxRecDepth 20000 in
theorem ggX2_isLit_X2_onAt : GoodIn wsX2_isLit wsX2_onAt := goodIn_r _ [16, 17, 18, 19, 20, 25, 26, 27, 28, 29, 30, 31, 32, 33] (by decide +kernel) (by decide +kernel)
set_option maxRecDepth 20000 in
theorem gX2_isLit_X2_onAt : GoodIn wsX2_isLit (wsV RX2 45 RX2 yX2_onAt wsX2_onAt) := goodIn_app (goodIn_of _ (by decide +kernel)) ggX2_isLit_X2_onAt
set_option maxRecDepth 20000 in
theorem ggX2_isLit_X2_isNot : GoodIn wsX2_isLit wsX2_isNot := goodIn_r _ [24, 1, 25, 26, 27, 28, 29, 30, 31, 32, 33] (by decide +kernel) (by decide +kernel)
set_option maxRecDepth 20000 in
theorem gX2_isLit_X2_isNot : GoodIn wsX2_isLit (wsV RX2 71 RX2 yX2_isNot wsX2_isNot) := goodIn_app (goodIn_of _ (by decide +kernel)) ggX2_isLit_X2_isNot
theorem dX2_isLit_0 : decode cX2_isLit 0 = .ok (.aload_n 0, 1) := by decide +kernel
theorem dX2_isLit_1 : decode cX2_isLit 1 = .ok (.iconst 0, 1) := by decide +kernel
theorem dX2_isLit_2 : decode cX2_isLit 2 = .ok (.putfield 26, 3) := by decide +kernel
theorem dX2_isLit_5 : decode cX2_isLit 5 = .ok (.aload_n 0, 1) := by decide +kernel
theorem dX2_isLit_6 : decode cX2_isLit 6 = .ok (.iload_n 1, 1) := by decide +kernel
theorem dX2_isLit_7 : decode cX2_isLit 7 = .ok (.invokevirtual 37, 3) := by decide +kernel
theorem dX2_isLit_10 : decode cX2_isLit 10 = .ok (.ifCond .eq 32, 3) := by decide +kernel
theorem dX2_isLit_13 : decode cX2_isLit 13 = .ok (.aload_n 0, 1) := by decide +kernel
theorem dX2_isLit_14 : decode cX2_isLit 14 = .ok (.getfield 13, 3) := by decide +kernel
theorem dX2_isLit_17 : decode cX2_isLit 17 = .ok (.iload_n 1, 1) := by decide +kernel
theorem dX2_isLit_18 : decode cX2_isLit 18 = .ok (.baload, 1) := by decide +kernel
theorem dX2_isLit_19 : decode cX2_isLit 19 = .ok (.ifCond .ne 19, 3) := by decide +kernel
theorem dX2_isLit_22 : decode cX2_isLit 22 = .ok (.aload_n 0, 1) := by decide +kernel
theorem dX2_isLit_23 : decode cX2_isLit 23 = .ok (.iload_n 1, 1) := by decide +kernel
theorem dX2_isLit_24 : decode cX2_isLit 24 = .ok (.aload_n 0, 1) := by decide +kernel
theorem dX2_isLit_25 : decode cX2_isLit 25 = .ok (.getfield 59, 3) := by decide +kernel
theorem dX2_isLit_28 : decode cX2_isLit 28 = .ok (.invokevirtual 45, 3) := by decide +kernel
theorem dX2_isLit_31 : decode cX2_isLit 31 = .ok (.ifCond .eq 7, 3) := by decide +kernel
theorem dX2_isLit_34 : decode cX2_isLit 34 = .ok (.iconst 1, 1) := by decide +kernel
theorem dX2_isLit_35 : decode cX2_isLit 35 = .ok (.goto 12, 3) := by decide +kernel
theorem dX2_isLit_38 : decode cX2_isLit 38 = .ok (.iconst 0, 1) := by decide +kernel
theorem dX2_isLit_39 : decode cX2_isLit 39 = .ok (.goto 8, 3) := by decide +kernel
theorem dX2_isLit_42 : decode cX2_isLit 42 = .ok (.aload_n 0, 1) := by decide +kernel
theorem dX2_isLit_43 : decode cX2_isLit 43 = .ok (.iconst 1, 1) := by decide +kernel
theorem dX2_isLit_44 : decode cX2_isLit 44 = .ok (.invokevirtual 71, 3) := by decide +kernel
theorem dX2_isLit_47 : decode cX2_isLit 47 = .ok (.ireturn, 1) := by decide +kernel
set_option maxRecDepth 20000 in
theorem ggX2_litLamps_X2_litAt : GoodIn wsX2_litLamps wsX2_litAt := goodIn_r _ [7, 8, 9, 10, 11, 12, 6, 13, 14, 15, 16, 17, 18, 19, 20, 21, 22, 23, 24, 25, 26] (by decide +kernel) (by decide +kernel)
set_option maxRecDepth 20000 in
theorem gX2_litLamps_X2_litAt : GoodIn wsX2_litLamps (wsV RX2 77 RX2 yX2_litAt wsX2_litAt) := goodIn_app (goodIn_of _ (by decide +kernel)) ggX2_litLamps_X2_litAt
theorem dX2_litLamps_0 : decode cX2_litLamps 0 = .ok (.aload_n 0, 1) := by decide +kernel
theorem dX2_litLamps_1 : decode cX2_litLamps 1 = .ok (.iconst 0, 1) := by decide +kernel
theorem dX2_litLamps_2 : decode cX2_litLamps 2 = .ok (.putfield 26, 3) := by decide +kernel
theorem dX2_litLamps_5 : decode cX2_litLamps 5 = .ok (.aload_n 0, 1) := by decide +kernel
theorem dX2_litLamps_6 : decode cX2_litLamps 6 = .ok (.aload_n 0, 1) := by decide +kernel
theorem dX2_litLamps_7 : decode cX2_litLamps 7 = .ok (.getfield 59, 3) := by decide +kernel
theorem dX2_litLamps_10 : decode cX2_litLamps 10 = .ok (.iconst (-1), 1) := by decide +kernel
theorem dX2_litLamps_11 : decode cX2_litLamps 11 = .ok (.invokevirtual 77, 3) := by decide +kernel
theorem dX2_litLamps_14 : decode cX2_litLamps 14 = .ok (.ireturn, 1) := by decide +kernel
set_option maxRecDepth 20000 in
theorem ggX2_isDark_X2_litAt : GoodIn wsX2_isDark wsX2_litAt := goodIn_r _ [7, 8, 9, 10, 11, 12, 6, 13, 14, 15, 16, 17, 18, 19, 20, 21, 22, 23, 24, 25, 26] (by decide +kernel) (by decide +kernel)
set_option maxRecDepth 20000 in
theorem gX2_isDark_X2_litAt : GoodIn wsX2_isDark (wsV RX2 77 RX2 yX2_litAt wsX2_litAt) := goodIn_app (goodIn_of _ (by decide +kernel)) ggX2_isDark_X2_litAt
theorem dX2_isDark_0 : decode cX2_isDark 0 = .ok (.aload_n 0, 1) := by decide +kernel
theorem dX2_isDark_1 : decode cX2_isDark 1 = .ok (.iconst 0, 1) := by decide +kernel
theorem dX2_isDark_2 : decode cX2_isDark 2 = .ok (.putfield 26, 3) := by decide +kernel
theorem dX2_isDark_5 : decode cX2_isDark 5 = .ok (.aload_n 0, 1) := by decide +kernel
theorem dX2_isDark_6 : decode cX2_isDark 6 = .ok (.aload_n 0, 1) := by decide +kernel
theorem dX2_isDark_7 : decode cX2_isDark 7 = .ok (.getfield 59, 3) := by decide +kernel
theorem dX2_isDark_10 : decode cX2_isDark 10 = .ok (.iconst (-1), 1) := by decide +kernel
theorem dX2_isDark_11 : decode cX2_isDark 11 = .ok (.invokevirtual 77, 3) := by decide +kernel
theorem dX2_isDark_14 : decode cX2_isDark 14 = .ok (.ifCond .ne 7, 3) := by decide +kernel
theorem dX2_isDark_17 : decode cX2_isDark 17 = .ok (.iconst 1, 1) := by decide +kernel
theorem dX2_isDark_18 : decode cX2_isDark 18 = .ok (.goto 4, 3) := by decide +kernel
theorem dX2_isDark_21 : decode cX2_isDark 21 = .ok (.iconst 0, 1) := by decide +kernel
theorem dX2_isDark_22 : decode cX2_isDark 22 = .ok (.ireturn, 1) := by decide +kernel
set_option maxRecDepth 20000 in
theorem ggX2_isOnAt_X2_isLamp : GoodIn wsX2_isOnAt wsX2_isLamp := goodIn_r _ [7, 8, 9, 10, 6, 11, 24, 25, 26, 27, 28, 29, 30, 31, 32] (by decide +kernel) (by decide +kernel)
set_option maxRecDepth 20000 in
theorem gX2_isOnAt_X2_isLamp : GoodIn wsX2_isOnAt (wsV RX2 37 RX2 yX2_isLamp wsX2_isLamp) := goodIn_app (goodIn_of _ (by decide +kernel)) ggX2_isOnAt_X2_isLamp
set_option maxRecDepth 20000 in
theorem ggX2_isOnAt_X2_isNot : GoodIn wsX2_isOnAt wsX2_isNot := goodIn_r _ [15, 1, 24, 25, 26, 27, 28, 29, 30, 31, 32] (by decide +kernel) (by decide +kernel)
set_option maxRecDepth 20000 in
theorem gX2_isOnAt_X2_isNot : GoodIn wsX2_isOnAt (wsV RX2 71 RX2 yX2_isNot wsX2_isNot) := goodIn_app (goodIn_of _ (by decide +kernel)) ggX2_isOnAt_X2_isNot
set_option maxRecDepth 20000 in
theorem ggX2_isOnAt_X2_isIn : GoodIn wsX2_isOnAt wsX2_isIn := goodIn_r _ [11] (by decide +kernel) (by decide +kernel)
set_option maxRecDepth 20000 in
theorem gX2_isOnAt_X2_isIn : GoodIn wsX2_isOnAt (va_wsS RX2 33 yX2_isIn wsX2_isIn) := goodIn_app (goodIn_of _ (by decide +kernel)) ggX2_isOnAt_X2_isIn
set_option maxRecDepth 20000 in
theorem ggX2_isOnAt_X2_onAt : GoodIn wsX2_isOnAt wsX2_onAt := goodIn_r _ [19, 20, 21, 22, 23, 24, 25, 26, 27, 28, 29, 30, 31, 32] (by decide +kernel) (by decide +kernel)
set_option maxRecDepth 20000 in
theorem gX2_isOnAt_X2_onAt : GoodIn wsX2_isOnAt (wsV RX2 45 RX2 yX2_onAt wsX2_onAt) := goodIn_app (goodIn_of _ (by decide +kernel)) ggX2_isOnAt_X2_onAt
theorem dX2_isOnAt_0 : decode cX2_isOnAt 0 = .ok (.aload_n 0, 1) := by decide +kernel
theorem dX2_isOnAt_1 : decode cX2_isOnAt 1 = .ok (.iconst 0, 1) := by decide +kernel
theorem dX2_isOnAt_2 : decode cX2_isOnAt 2 = .ok (.putfield 26, 3) := by decide +kernel
theorem dX2_isOnAt_5 : decode cX2_isOnAt 5 = .ok (.aload_n 0, 1) := by decide +kernel
theorem dX2_isOnAt_6 : decode cX2_isOnAt 6 = .ok (.iload_n 1, 1) := by decide +kernel
theorem dX2_isOnAt_7 : decode cX2_isOnAt 7 = .ok (.invokevirtual 37, 3) := by decide +kernel
theorem dX2_isOnAt_10 : decode cX2_isOnAt 10 = .ok (.ifCond .ne 9, 3) := by decide +kernel
theorem dX2_isOnAt_13 : decode cX2_isOnAt 13 = .ok (.aload_n 0, 1) := by decide +kernel
theorem dX2_isOnAt_14 : decode cX2_isOnAt 14 = .ok (.iconst 1, 1) := by decide +kernel
theorem dX2_isOnAt_15 : decode cX2_isOnAt 15 = .ok (.invokevirtual 71, 3) := by decide +kernel
theorem dX2_isOnAt_18 : decode cX2_isOnAt 18 = .ok (.ireturn, 1) := by decide +kernel
theorem dX2_isOnAt_19 : decode cX2_isOnAt 19 = .ok (.iload_n 2, 1) := by decide +kernel
theorem dX2_isOnAt_20 : decode cX2_isOnAt 20 = .ok (.iconst 0, 1) := by decide +kernel
theorem dX2_isOnAt_21 : decode cX2_isOnAt 21 = .ok (.ldc 80, 2) := by decide +kernel
theorem dX2_isOnAt_23 : decode cX2_isOnAt 23 = .ok (.invokestatic 33, 3) := by decide +kernel
theorem dX2_isOnAt_26 : decode cX2_isOnAt 26 = .ok (.ifCond .eq 12, 3) := by decide +kernel
theorem dX2_isOnAt_29 : decode cX2_isOnAt 29 = .ok (.aload_n 0, 1) := by decide +kernel
theorem dX2_isOnAt_30 : decode cX2_isOnAt 30 = .ok (.iload_n 1, 1) := by decide +kernel
theorem dX2_isOnAt_31 : decode cX2_isOnAt 31 = .ok (.iload_n 2, 1) := by decide +kernel
theorem dX2_isOnAt_32 : decode cX2_isOnAt 32 = .ok (.invokevirtual 45, 3) := by decide +kernel
theorem dX2_isOnAt_35 : decode cX2_isOnAt 35 = .ok (.goto 8, 3) := by decide +kernel
theorem dX2_isOnAt_38 : decode cX2_isOnAt 38 = .ok (.aload_n 0, 1) := by decide +kernel
theorem dX2_isOnAt_39 : decode cX2_isOnAt 39 = .ok (.iconst 2, 1) := by decide +kernel
theorem dX2_isOnAt_40 : decode cX2_isOnAt 40 = .ok (.invokevirtual 71, 3) := by decide +kernel
theorem dX2_isOnAt_43 : decode cX2_isOnAt 43 = .ok (.ireturn, 1) := by decide +kernel
set_option maxRecDepth 20000 in
theorem ggX2_strikesAt_X2_isLamp : GoodIn wsX2_strikesAt wsX2_isLamp := goodIn_r _ [7, 8, 9, 10, 6, 11, 23, 24, 25, 26, 27, 28, 29, 30, 31] (by decide +kernel) (by decide +kernel)
set_option maxRecDepth 20000 in
theorem gX2_strikesAt_X2_isLamp : GoodIn wsX2_strikesAt (wsV RX2 37 RX2 yX2_isLamp wsX2_isLamp) := goodIn_app (goodIn_of _ (by decide +kernel)) ggX2_strikesAt_X2_isLamp
set_option maxRecDepth 20000 in
theorem ggX2_strikesAt_X2_no : GoodIn wsX2_strikesAt wsX2_no := goodIn_r _ [15, 1, 23, 24, 25, 26, 27, 28, 29, 30, 31] (by decide +kernel) (by decide +kernel)
set_option maxRecDepth 20000 in
theorem gX2_strikesAt_X2_no : GoodIn wsX2_strikesAt (wsV RX2 62 RX2 yX2_no wsX2_no) := goodIn_app (goodIn_of _ (by decide +kernel)) ggX2_strikesAt_X2_no
set_option maxRecDepth 20000 in
theorem ggX2_strikesAt_X2_isIn : GoodIn wsX2_strikesAt wsX2_isIn := goodIn_r _ [11] (by decide +kernel) (by decide +kernel)
set_option maxRecDepth 20000 in
theorem gX2_strikesAt_X2_isIn : GoodIn wsX2_strikesAt (va_wsS RX2 33 yX2_isIn wsX2_isIn) := goodIn_app (goodIn_of _ (by decide +kernel)) ggX2_strikesAt_X2_isIn
set_option maxRecDepth 20000 in
theorem ggX2_strikesAt_X2_strikes : GoodIn wsX2_strikesAt wsX2_strikes := goodIn_r _ [19, 20, 21, 22, 23, 24, 25, 26, 27, 28, 29, 30, 31] (by decide +kernel) (by decide +kernel)
set_option maxRecDepth 20000 in
theorem gX2_strikesAt_X2_strikes : GoodIn wsX2_strikesAt (wsV RX2 41 RX2 yX2_strikes wsX2_strikes) := goodIn_app (goodIn_of _ (by decide +kernel)) ggX2_strikesAt_X2_strikes
theorem dX2_strikesAt_0 : decode cX2_strikesAt 0 = .ok (.aload_n 0, 1) := by decide +kernel
theorem dX2_strikesAt_1 : decode cX2_strikesAt 1 = .ok (.iconst 0, 1) := by decide +kernel
theorem dX2_strikesAt_2 : decode cX2_strikesAt 2 = .ok (.putfield 26, 3) := by decide +kernel
theorem dX2_strikesAt_5 : decode cX2_strikesAt 5 = .ok (.aload_n 0, 1) := by decide +kernel
theorem dX2_strikesAt_6 : decode cX2_strikesAt 6 = .ok (.iload_n 1, 1) := by decide +kernel
theorem dX2_strikesAt_7 : decode cX2_strikesAt 7 = .ok (.invokevirtual 37, 3) := by decide +kernel
theorem dX2_strikesAt_10 : decode cX2_strikesAt 10 = .ok (.ifCond .ne 9, 3) := by decide +kernel
theorem dX2_strikesAt_13 : decode cX2_strikesAt 13 = .ok (.aload_n 0, 1) := by decide +kernel
theorem dX2_strikesAt_14 : decode cX2_strikesAt 14 = .ok (.iconst 1, 1) := by decide +kernel
theorem dX2_strikesAt_15 : decode cX2_strikesAt 15 = .ok (.invokevirtual 62, 3) := by decide +kernel
theorem dX2_strikesAt_18 : decode cX2_strikesAt 18 = .ok (.ireturn, 1) := by decide +kernel
theorem dX2_strikesAt_19 : decode cX2_strikesAt 19 = .ok (.iload_n 2, 1) := by decide +kernel
theorem dX2_strikesAt_20 : decode cX2_strikesAt 20 = .ok (.iconst 0, 1) := by decide +kernel
theorem dX2_strikesAt_21 : decode cX2_strikesAt 21 = .ok (.ldc 80, 2) := by decide +kernel
theorem dX2_strikesAt_23 : decode cX2_strikesAt 23 = .ok (.invokestatic 33, 3) := by decide +kernel
theorem dX2_strikesAt_26 : decode cX2_strikesAt 26 = .ok (.ifCond .eq 12, 3) := by decide +kernel
theorem dX2_strikesAt_29 : decode cX2_strikesAt 29 = .ok (.aload_n 0, 1) := by decide +kernel
theorem dX2_strikesAt_30 : decode cX2_strikesAt 30 = .ok (.iload_n 1, 1) := by decide +kernel
theorem dX2_strikesAt_31 : decode cX2_strikesAt 31 = .ok (.iload_n 2, 1) := by decide +kernel
theorem dX2_strikesAt_32 : decode cX2_strikesAt 32 = .ok (.invokevirtual 41, 3) := by decide +kernel
theorem dX2_strikesAt_35 : decode cX2_strikesAt 35 = .ok (.goto 8, 3) := by decide +kernel
theorem dX2_strikesAt_38 : decode cX2_strikesAt 38 = .ok (.aload_n 0, 1) := by decide +kernel
theorem dX2_strikesAt_39 : decode cX2_strikesAt 39 = .ok (.iconst 2, 1) := by decide +kernel
theorem dX2_strikesAt_40 : decode cX2_strikesAt 40 = .ok (.invokevirtual 62, 3) := by decide +kernel
theorem dX2_strikesAt_43 : decode cX2_strikesAt 43 = .ok (.ireturn, 1) := by decide +kernel
set_option maxRecDepth 20000 in
theorem ggX2_isSteady_X2_isLamp : GoodIn wsX2_isSteady wsX2_isLamp := goodIn_r _ [6, 7, 8, 9, 5, 10, 34, 35, 36, 37, 38, 39, 40, 41, 42] (by decide +kernel) (by decide +kernel)
set_option maxRecDepth 20000 in
theorem gX2_isSteady_X2_isLamp : GoodIn wsX2_isSteady (wsV RX2 37 RX2 yX2_isLamp wsX2_isLamp) := goodIn_app (goodIn_of _ (by decide +kernel)) ggX2_isSteady_X2_isLamp
set_option maxRecDepth 20000 in
theorem ggX2_isSteady_X2_steady : GoodIn wsX2_isSteady wsX2_steady := goodIn_r _ [14, 15, 16, 17, 5, 18, 19, 20, 21, 22, 23, 24, 25, 26, 27, 28, 29, 34, 35, 36, 37, 38, 39, 40, 41, 42] (by decide +kernel) (by decide +kernel)
set_option maxRecDepth 20000 in
theorem gX2_isSteady_X2_steady : GoodIn wsX2_isSteady (wsV RX2 81 RX2 yX2_steady wsX2_steady) := goodIn_app (goodIn_of _ (by decide +kernel)) ggX2_isSteady_X2_steady
set_option maxRecDepth 20000 in
theorem ggX2_isSteady_X2_isNot : GoodIn wsX2_isSteady wsX2_isNot := goodIn_r _ [33, 1, 34, 35, 36, 37, 38, 39, 40, 41, 42] (by decide +kernel) (by decide +kernel)
set_option maxRecDepth 20000 in
theorem gX2_isSteady_X2_isNot : GoodIn wsX2_isSteady (wsV RX2 71 RX2 yX2_isNot wsX2_isNot) := goodIn_app (goodIn_of _ (by decide +kernel)) ggX2_isSteady_X2_isNot
theorem dX2_isSteady_0 : decode cX2_isSteady 0 = .ok (.aload_n 0, 1) := by decide +kernel
theorem dX2_isSteady_1 : decode cX2_isSteady 1 = .ok (.iconst 0, 1) := by decide +kernel
theorem dX2_isSteady_2 : decode cX2_isSteady 2 = .ok (.putfield 26, 3) := by decide +kernel
theorem dX2_isSteady_5 : decode cX2_isSteady 5 = .ok (.aload_n 0, 1) := by decide +kernel
theorem dX2_isSteady_6 : decode cX2_isSteady 6 = .ok (.iload_n 1, 1) := by decide +kernel
theorem dX2_isSteady_7 : decode cX2_isSteady 7 = .ok (.invokevirtual 37, 3) := by decide +kernel
theorem dX2_isSteady_10 : decode cX2_isSteady 10 = .ok (.ifCond .eq 11, 3) := by decide +kernel
theorem dX2_isSteady_13 : decode cX2_isSteady 13 = .ok (.aload_n 0, 1) := by decide +kernel
theorem dX2_isSteady_14 : decode cX2_isSteady 14 = .ok (.iload_n 1, 1) := by decide +kernel
theorem dX2_isSteady_15 : decode cX2_isSteady 15 = .ok (.invokevirtual 81, 3) := by decide +kernel
theorem dX2_isSteady_18 : decode cX2_isSteady 18 = .ok (.goto 8, 3) := by decide +kernel
theorem dX2_isSteady_21 : decode cX2_isSteady 21 = .ok (.aload_n 0, 1) := by decide +kernel
theorem dX2_isSteady_22 : decode cX2_isSteady 22 = .ok (.iconst 1, 1) := by decide +kernel
theorem dX2_isSteady_23 : decode cX2_isSteady 23 = .ok (.invokevirtual 71, 3) := by decide +kernel
theorem dX2_isSteady_26 : decode cX2_isSteady 26 = .ok (.ireturn, 1) := by decide +kernel
set_option maxRecDepth 20000 in
theorem ggX2_cycleOf_X2_isLamp : GoodIn wsX2_cycleOf wsX2_isLamp := goodIn_r _ [6, 7, 8, 9, 5, 10, 43, 44, 45, 46, 47, 48, 49, 50, 51] (by decide +kernel) (by decide +kernel)
set_option maxRecDepth 20000 in
theorem gX2_cycleOf_X2_isLamp : GoodIn wsX2_cycleOf (wsV RX2 37 RX2 yX2_isLamp wsX2_isLamp) := goodIn_app (goodIn_of _ (by decide +kernel)) ggX2_cycleOf_X2_isLamp
set_option maxRecDepth 20000 in
theorem ggX2_cycleOf_X2_cycle : GoodIn wsX2_cycleOf wsX2_cycle := goodIn_r _ [14, 15, 16, 17, 5, 18, 19, 20, 21, 22, 23, 24, 25, 26, 27, 28, 29, 30, 31, 32, 33, 34, 35, 36, 37, 38, 43, 44, 45, 46, 47, 48, 49, 50, 51] (by decide +kernel) (by decide +kernel)
set_option maxRecDepth 20000 in
theorem gX2_cycleOf_X2_cycle : GoodIn wsX2_cycleOf (wsV RX2 84 RX2 yX2_cycle wsX2_cycle) := goodIn_app (goodIn_of _ (by decide +kernel)) ggX2_cycleOf_X2_cycle
set_option maxRecDepth 20000 in
theorem ggX2_cycleOf_X2_no : GoodIn wsX2_cycleOf wsX2_no := goodIn_r _ [42, 1, 43, 44, 45, 46, 47, 48, 49, 50, 51] (by decide +kernel) (by decide +kernel)
set_option maxRecDepth 20000 in
theorem gX2_cycleOf_X2_no : GoodIn wsX2_cycleOf (wsV RX2 62 RX2 yX2_no wsX2_no) := goodIn_app (goodIn_of _ (by decide +kernel)) ggX2_cycleOf_X2_no
theorem dX2_cycleOf_0 : decode cX2_cycleOf 0 = .ok (.aload_n 0, 1) := by decide +kernel
theorem dX2_cycleOf_1 : decode cX2_cycleOf 1 = .ok (.iconst 0, 1) := by decide +kernel
theorem dX2_cycleOf_2 : decode cX2_cycleOf 2 = .ok (.putfield 26, 3) := by decide +kernel
theorem dX2_cycleOf_5 : decode cX2_cycleOf 5 = .ok (.aload_n 0, 1) := by decide +kernel
theorem dX2_cycleOf_6 : decode cX2_cycleOf 6 = .ok (.iload_n 1, 1) := by decide +kernel
theorem dX2_cycleOf_7 : decode cX2_cycleOf 7 = .ok (.invokevirtual 37, 3) := by decide +kernel
theorem dX2_cycleOf_10 : decode cX2_cycleOf 10 = .ok (.ifCond .eq 11, 3) := by decide +kernel
theorem dX2_cycleOf_13 : decode cX2_cycleOf 13 = .ok (.aload_n 0, 1) := by decide +kernel
theorem dX2_cycleOf_14 : decode cX2_cycleOf 14 = .ok (.iload_n 1, 1) := by decide +kernel
theorem dX2_cycleOf_15 : decode cX2_cycleOf 15 = .ok (.invokevirtual 84, 3) := by decide +kernel
theorem dX2_cycleOf_18 : decode cX2_cycleOf 18 = .ok (.goto 8, 3) := by decide +kernel
theorem dX2_cycleOf_21 : decode cX2_cycleOf 21 = .ok (.aload_n 0, 1) := by decide +kernel
theorem dX2_cycleOf_22 : decode cX2_cycleOf 22 = .ok (.iconst 1, 1) := by decide +kernel
theorem dX2_cycleOf_23 : decode cX2_cycleOf 23 = .ok (.invokevirtual 62, 3) := by decide +kernel
theorem dX2_cycleOf_26 : decode cX2_cycleOf 26 = .ok (.ireturn, 1) := by decide +kernel
set_option maxRecDepth 20000 in
theorem ggX2_momentsUntilChange_X2_isLamp : GoodIn wsX2_momentsUntilChange wsX2_isLamp := goodIn_r _ [6, 7, 8, 9, 5, 10, 35, 36, 37, 38, 39, 40, 41, 42, 43] (by decide +kernel) (by decide +kernel)
set_option maxRecDepth 20000 in
theorem gX2_momentsUntilChange_X2_isLamp : GoodIn wsX2_momentsUntilChange (wsV RX2 37 RX2 yX2_isLamp wsX2_isLamp) := goodIn_app (goodIn_of _ (by decide +kernel)) ggX2_momentsUntilChange_X2_isLamp
set_option maxRecDepth 20000 in
theorem ggX2_momentsUntilChange_X2_untilChange : GoodIn wsX2_momentsUntilChange wsX2_untilChange := goodIn_r _ [14, 15, 16, 17, 18, 5, 19, 20, 21, 22, 23, 24, 25, 26, 27, 28, 29, 30, 35, 36, 37, 38, 39, 40, 41, 42, 43] (by decide +kernel) (by decide +kernel)
set_option maxRecDepth 20000 in
theorem gX2_momentsUntilChange_X2_untilChange : GoodIn wsX2_momentsUntilChange (wsV RX2 87 RX2 yX2_untilChange wsX2_untilChange) := goodIn_app (goodIn_of _ (by decide +kernel)) ggX2_momentsUntilChange_X2_untilChange
set_option maxRecDepth 20000 in
theorem ggX2_momentsUntilChange_X2_no : GoodIn wsX2_momentsUntilChange wsX2_no := goodIn_r _ [34, 1, 35, 36, 37, 38, 39, 40, 41, 42, 43] (by decide +kernel) (by decide +kernel)
set_option maxRecDepth 20000 in
theorem gX2_momentsUntilChange_X2_no : GoodIn wsX2_momentsUntilChange (wsV RX2 62 RX2 yX2_no wsX2_no) := goodIn_app (goodIn_of _ (by decide +kernel)) ggX2_momentsUntilChange_X2_no
theorem dX2_momentsUntilChange_0 : decode cX2_momentsUntilChange 0 = .ok (.aload_n 0, 1) := by decide +kernel
theorem dX2_momentsUntilChange_1 : decode cX2_momentsUntilChange 1 = .ok (.iconst 0, 1) := by decide +kernel
theorem dX2_momentsUntilChange_2 : decode cX2_momentsUntilChange 2 = .ok (.putfield 26, 3) := by decide +kernel
theorem dX2_momentsUntilChange_5 : decode cX2_momentsUntilChange 5 = .ok (.aload_n 0, 1) := by decide +kernel
theorem dX2_momentsUntilChange_6 : decode cX2_momentsUntilChange 6 = .ok (.iload_n 1, 1) := by decide +kernel
theorem dX2_momentsUntilChange_7 : decode cX2_momentsUntilChange 7 = .ok (.invokevirtual 37, 3) := by decide +kernel
theorem dX2_momentsUntilChange_10 : decode cX2_momentsUntilChange 10 = .ok (.ifCond .eq 11, 3) := by decide +kernel
theorem dX2_momentsUntilChange_13 : decode cX2_momentsUntilChange 13 = .ok (.aload_n 0, 1) := by decide +kernel
theorem dX2_momentsUntilChange_14 : decode cX2_momentsUntilChange 14 = .ok (.iload_n 1, 1) := by decide +kernel
theorem dX2_momentsUntilChange_15 : decode cX2_momentsUntilChange 15 = .ok (.invokevirtual 87, 3) := by decide +kernel
theorem dX2_momentsUntilChange_18 : decode cX2_momentsUntilChange 18 = .ok (.goto 8, 3) := by decide +kernel
theorem dX2_momentsUntilChange_21 : decode cX2_momentsUntilChange 21 = .ok (.aload_n 0, 1) := by decide +kernel
theorem dX2_momentsUntilChange_22 : decode cX2_momentsUntilChange 22 = .ok (.iconst 1, 1) := by decide +kernel
theorem dX2_momentsUntilChange_23 : decode cX2_momentsUntilChange 23 = .ok (.invokevirtual 62, 3) := by decide +kernel
theorem dX2_momentsUntilChange_26 : decode cX2_momentsUntilChange 26 = .ok (.ireturn, 1) := by decide +kernel
set_option maxRecDepth 20000 in
theorem ggX2_shows_X2_isLamp : GoodIn wsX2_shows wsX2_isLamp := goodIn_r _ [7, 8, 9, 10, 6, 11, 24, 25, 26, 27, 28, 29, 30, 31, 32] (by decide +kernel) (by decide +kernel)
set_option maxRecDepth 20000 in
theorem gX2_shows_X2_isLamp : GoodIn wsX2_shows (wsV RX2 37 RX2 yX2_isLamp wsX2_isLamp) := goodIn_app (goodIn_of _ (by decide +kernel)) ggX2_shows_X2_isLamp
set_option maxRecDepth 20000 in
theorem ggX2_shows_X2_no : GoodIn wsX2_shows wsX2_no := goodIn_r _ [15, 1, 24, 25, 26, 27, 28, 29, 30, 31, 32] (by decide +kernel) (by decide +kernel)
set_option maxRecDepth 20000 in
theorem gX2_shows_X2_no : GoodIn wsX2_shows (wsV RX2 62 RX2 yX2_no wsX2_no) := goodIn_app (goodIn_of _ (by decide +kernel)) ggX2_shows_X2_no
set_option maxRecDepth 20000 in
theorem ggX2_shows_X2_isIn : GoodIn wsX2_shows wsX2_isIn := goodIn_r _ [11] (by decide +kernel) (by decide +kernel)
set_option maxRecDepth 20000 in
theorem gX2_shows_X2_isIn : GoodIn wsX2_shows (va_wsS RX2 33 yX2_isIn wsX2_isIn) := goodIn_app (goodIn_of _ (by decide +kernel)) ggX2_shows_X2_isIn
set_option maxRecDepth 20000 in
theorem ggX2_shows_X2_onAt : GoodIn wsX2_shows wsX2_onAt := goodIn_r _ [19, 20, 21, 22, 23, 24, 25, 26, 27, 28, 29, 30, 31, 32] (by decide +kernel) (by decide +kernel)
set_option maxRecDepth 20000 in
theorem gX2_shows_X2_onAt : GoodIn wsX2_shows (wsV RX2 45 RX2 yX2_onAt wsX2_onAt) := goodIn_app (goodIn_of _ (by decide +kernel)) ggX2_shows_X2_onAt
theorem dX2_shows_0 : decode cX2_shows 0 = .ok (.aload_n 0, 1) := by decide +kernel
theorem dX2_shows_1 : decode cX2_shows 1 = .ok (.iconst 0, 1) := by decide +kernel
theorem dX2_shows_2 : decode cX2_shows 2 = .ok (.putfield 26, 3) := by decide +kernel
theorem dX2_shows_5 : decode cX2_shows 5 = .ok (.aload_n 0, 1) := by decide +kernel
theorem dX2_shows_6 : decode cX2_shows 6 = .ok (.iload_n 1, 1) := by decide +kernel
theorem dX2_shows_7 : decode cX2_shows 7 = .ok (.invokevirtual 37, 3) := by decide +kernel
theorem dX2_shows_10 : decode cX2_shows 10 = .ok (.ifCond .ne 9, 3) := by decide +kernel
theorem dX2_shows_13 : decode cX2_shows 13 = .ok (.aload_n 0, 1) := by decide +kernel
theorem dX2_shows_14 : decode cX2_shows 14 = .ok (.iconst 1, 1) := by decide +kernel
theorem dX2_shows_15 : decode cX2_shows 15 = .ok (.invokevirtual 62, 3) := by decide +kernel
theorem dX2_shows_18 : decode cX2_shows 18 = .ok (.ireturn, 1) := by decide +kernel
theorem dX2_shows_19 : decode cX2_shows 19 = .ok (.iload_n 2, 1) := by decide +kernel
theorem dX2_shows_20 : decode cX2_shows 20 = .ok (.iconst 1, 1) := by decide +kernel
theorem dX2_shows_21 : decode cX2_shows 21 = .ok (.bipush 30, 2) := by decide +kernel
theorem dX2_shows_23 : decode cX2_shows 23 = .ok (.invokestatic 33, 3) := by decide +kernel
theorem dX2_shows_26 : decode cX2_shows 26 = .ok (.ifCond .ne 9, 3) := by decide +kernel
theorem dX2_shows_29 : decode cX2_shows 29 = .ok (.aload_n 0, 1) := by decide +kernel
theorem dX2_shows_30 : decode cX2_shows 30 = .ok (.iconst 2, 1) := by decide +kernel
theorem dX2_shows_31 : decode cX2_shows 31 = .ok (.invokevirtual 62, 3) := by decide +kernel
theorem dX2_shows_34 : decode cX2_shows 34 = .ok (.ireturn, 1) := by decide +kernel
theorem dX2_shows_35 : decode cX2_shows 35 = .ok (.iconst 0, 1) := by decide +kernel
theorem dX2_shows_36 : decode cX2_shows 36 = .ok (.istore_n 3, 1) := by decide +kernel
theorem dX2_shows_37 : decode cX2_shows 37 = .ok (.iconst 0, 1) := by decide +kernel
theorem dX2_shows_38 : decode cX2_shows 38 = .ok (.istore 4, 2) := by decide +kernel
theorem dX2_shows_40 : decode cX2_shows 40 = .ok (.iload 4, 2) := by decide +kernel
theorem dX2_shows_42 : decode cX2_shows 42 = .ok (.iload_n 2, 1) := by decide +kernel
theorem dX2_shows_43 : decode cX2_shows 43 = .ok (.if_icmp .ge 34, 3) := by decide +kernel
theorem dX2_shows_46 : decode cX2_shows 46 = .ok (.iconst 2, 1) := by decide +kernel
theorem dX2_shows_47 : decode cX2_shows 47 = .ok (.iload_n 3, 1) := by decide +kernel
theorem dX2_shows_48 : decode cX2_shows 48 = .ok (.imul, 1) := by decide +kernel
theorem dX2_shows_49 : decode cX2_shows 49 = .ok (.aload_n 0, 1) := by decide +kernel
theorem dX2_shows_50 : decode cX2_shows 50 = .ok (.iload_n 1, 1) := by decide +kernel
theorem dX2_shows_51 : decode cX2_shows 51 = .ok (.aload_n 0, 1) := by decide +kernel
theorem dX2_shows_52 : decode cX2_shows 52 = .ok (.getfield 59, 3) := by decide +kernel
theorem dX2_shows_55 : decode cX2_shows 55 = .ok (.iload 4, 2) := by decide +kernel
theorem dX2_shows_57 : decode cX2_shows 57 = .ok (.iadd, 1) := by decide +kernel
theorem dX2_shows_58 : decode cX2_shows 58 = .ok (.invokevirtual 45, 3) := by decide +kernel
theorem dX2_shows_61 : decode cX2_shows 61 = .ok (.ifCond .eq 7, 3) := by decide +kernel
theorem dX2_shows_64 : decode cX2_shows 64 = .ok (.iconst 1, 1) := by decide +kernel
theorem dX2_shows_65 : decode cX2_shows 65 = .ok (.goto 4, 3) := by decide +kernel
theorem dX2_shows_68 : decode cX2_shows 68 = .ok (.iconst 0, 1) := by decide +kernel
theorem dX2_shows_69 : decode cX2_shows 69 = .ok (.iadd, 1) := by decide +kernel
theorem dX2_shows_70 : decode cX2_shows 70 = .ok (.istore_n 3, 1) := by decide +kernel
theorem dX2_shows_71 : decode cX2_shows 71 = .ok (.iinc 4 1, 3) := by decide +kernel
theorem dX2_shows_74 : decode cX2_shows 74 = .ok (.goto (-34), 3) := by decide +kernel
theorem dX2_shows_77 : decode cX2_shows 77 = .ok (.iload_n 3, 1) := by decide +kernel
theorem dX2_shows_78 : decode cX2_shows 78 = .ok (.ireturn, 1) := by decide +kernel
set_option maxRecDepth 20000 in
theorem ggX2_wrongPair_X2_isLamp : GoodIn wsX2_wrongPair wsX2_isLamp := goodIn_r _ [5, 6, 7, 8, 4, 9, 10, 11, 12, 13, 14, 15, 16, 17, 18] (by decide +kernel) (by decide +kernel)
set_option maxRecDepth 20000 in
theorem gX2_wrongPair_X2_isLamp : GoodIn wsX2_wrongPair (wsV RX2 37 RX2 yX2_isLamp wsX2_isLamp) := goodIn_app (goodIn_of _ (by decide +kernel)) ggX2_wrongPair_X2_isLamp
theorem dX2_wrongPair_0 : decode cX2_wrongPair 0 = .ok (.aload_n 0, 1) := by decide +kernel
theorem dX2_wrongPair_1 : decode cX2_wrongPair 1 = .ok (.iload_n 1, 1) := by decide +kernel
theorem dX2_wrongPair_2 : decode cX2_wrongPair 2 = .ok (.invokevirtual 37, 3) := by decide +kernel
theorem dX2_wrongPair_5 : decode cX2_wrongPair 5 = .ok (.ifCond .eq 11, 3) := by decide +kernel
theorem dX2_wrongPair_8 : decode cX2_wrongPair 8 = .ok (.aload_n 0, 1) := by decide +kernel
theorem dX2_wrongPair_9 : decode cX2_wrongPair 9 = .ok (.iload_n 2, 1) := by decide +kernel
theorem dX2_wrongPair_10 : decode cX2_wrongPair 10 = .ok (.invokevirtual 37, 3) := by decide +kernel
theorem dX2_wrongPair_13 : decode cX2_wrongPair 13 = .ok (.ifCond .ne 7, 3) := by decide +kernel
theorem dX2_wrongPair_16 : decode cX2_wrongPair 16 = .ok (.iconst 1, 1) := by decide +kernel
theorem dX2_wrongPair_17 : decode cX2_wrongPair 17 = .ok (.goto 13, 3) := by decide +kernel
theorem dX2_wrongPair_20 : decode cX2_wrongPair 20 = .ok (.iload_n 1, 1) := by decide +kernel
theorem dX2_wrongPair_21 : decode cX2_wrongPair 21 = .ok (.iload_n 2, 1) := by decide +kernel
theorem dX2_wrongPair_22 : decode cX2_wrongPair 22 = .ok (.if_icmp .ne 7, 3) := by decide +kernel
theorem dX2_wrongPair_25 : decode cX2_wrongPair 25 = .ok (.iconst 2, 1) := by decide +kernel
theorem dX2_wrongPair_26 : decode cX2_wrongPair 26 = .ok (.goto 4, 3) := by decide +kernel
theorem dX2_wrongPair_29 : decode cX2_wrongPair 29 = .ok (.iconst 0, 1) := by decide +kernel
theorem dX2_wrongPair_30 : decode cX2_wrongPair 30 = .ok (.ireturn, 1) := by decide +kernel
set_option maxRecDepth 20000 in
theorem ggX2_collide_X2_changes : GoodIn wsX2_collide wsX2_changes := goodIn_r _ [5, 6, 7, 8, 4, 9, 10, 11, 12, 13, 14, 15, 16, 17, 18, 19, 20, 21] (by decide +kernel) (by decide +kernel)
set_option maxRecDepth 20000 in
theorem gX2_collide_X2_changes : GoodIn wsX2_collide (wsV RX2 53 RX2 yX2_changes wsX2_changes) := goodIn_app (goodIn_of _ (by decide +kernel)) ggX2_collide_X2_changes
theorem dX2_collide_0 : decode cX2_collide 0 = .ok (.aload_n 0, 1) := by decide +kernel
theorem dX2_collide_1 : decode cX2_collide 1 = .ok (.iload_n 1, 1) := by decide +kernel
theorem dX2_collide_2 : decode cX2_collide 2 = .ok (.iload_n 3, 1) := by decide +kernel
theorem dX2_collide_3 : decode cX2_collide 3 = .ok (.invokevirtual 53, 3) := by decide +kernel
theorem dX2_collide_6 : decode cX2_collide 6 = .ok (.ifCond .eq 16, 3) := by decide +kernel
theorem dX2_collide_9 : decode cX2_collide 9 = .ok (.aload_n 0, 1) := by decide +kernel
theorem dX2_collide_10 : decode cX2_collide 10 = .ok (.iload_n 2, 1) := by decide +kernel
theorem dX2_collide_11 : decode cX2_collide 11 = .ok (.iload_n 3, 1) := by decide +kernel
theorem dX2_collide_12 : decode cX2_collide 12 = .ok (.invokevirtual 53, 3) := by decide +kernel
theorem dX2_collide_15 : decode cX2_collide 15 = .ok (.ifCond .eq 7, 3) := by decide +kernel
theorem dX2_collide_18 : decode cX2_collide 18 = .ok (.iconst 1, 1) := by decide +kernel
theorem dX2_collide_19 : decode cX2_collide 19 = .ok (.goto 4, 3) := by decide +kernel
theorem dX2_collide_22 : decode cX2_collide 22 = .ok (.iconst 0, 1) := by decide +kernel
theorem dX2_collide_23 : decode cX2_collide 23 = .ok (.ireturn, 1) := by decide +kernel
set_option maxRecDepth 20000 in
theorem ggX2_momentsUntilCollision_X2_wrongPair : GoodIn wsX2_momentsUntilCollision wsX2_wrongPair := goodIn_r _ [7, 8, 9, 10, 6, 11, 12, 13, 14, 15, 31, 32, 33, 34, 35, 36, 37, 38, 39] (by decide +kernel) (by decide +kernel)
set_option maxRecDepth 20000 in
theorem gX2_momentsUntilCollision_X2_wrongPair : GoodIn wsX2_momentsUntilCollision (wsV RX2 90 RX2 yX2_wrongPair wsX2_wrongPair) := goodIn_app (goodIn_of _ (by decide +kernel)) ggX2_momentsUntilCollision_X2_wrongPair
set_option maxRecDepth 20000 in
theorem ggX2_momentsUntilCollision_X2_collide : GoodIn wsX2_momentsUntilCollision wsX2_collide := goodIn_r _ [19, 20, 21, 22, 6, 23, 24, 25, 26, 27, 28, 29, 30, 31, 32, 33, 34, 35, 36, 37, 38, 39] (by decide +kernel) (by decide +kernel)
set_option maxRecDepth 20000 in
theorem gX2_momentsUntilCollision_X2_collide : GoodIn wsX2_momentsUntilCollision (wsV RX2 93 RX2 yX2_collide wsX2_collide) := goodIn_app (goodIn_of _ (by decide +kernel)) ggX2_momentsUntilCollision_X2_collide
theorem dX2_momentsUntilCollision_0 : decode cX2_momentsUntilCollision 0 = .ok (.aload_n 0, 1) := by decide +kernel
theorem dX2_momentsUntilCollision_1 : decode cX2_momentsUntilCollision 1 = .ok (.aload_n 0, 1) := by decide +kernel
theorem dX2_momentsUntilCollision_2 : decode cX2_momentsUntilCollision 2 = .ok (.iload_n 1, 1) := by decide +kernel
theorem dX2_momentsUntilCollision_3 : decode cX2_momentsUntilCollision 3 = .ok (.iload_n 2, 1) := by decide +kernel
theorem dX2_momentsUntilCollision_4 : decode cX2_momentsUntilCollision 4 = .ok (.invokevirtual 90, 3) := by decide +kernel
theorem dX2_momentsUntilCollision_7 : decode cX2_momentsUntilCollision 7 = .ok (.putfield 26, 3) := by decide +kernel
theorem dX2_momentsUntilCollision_10 : decode cX2_momentsUntilCollision 10 = .ok (.aload_n 0, 1) := by decide +kernel
theorem dX2_momentsUntilCollision_11 : decode cX2_momentsUntilCollision 11 = .ok (.getfield 26, 3) := by decide +kernel
theorem dX2_momentsUntilCollision_14 : decode cX2_momentsUntilCollision 14 = .ok (.ifCond .le 5, 3) := by decide +kernel
theorem dX2_momentsUntilCollision_17 : decode cX2_momentsUntilCollision 17 = .ok (.iconst 0, 1) := by decide +kernel
theorem dX2_momentsUntilCollision_18 : decode cX2_momentsUntilCollision 18 = .ok (.ireturn, 1) := by decide +kernel
theorem dX2_momentsUntilCollision_19 : decode cX2_momentsUntilCollision 19 = .ok (.iconst 1, 1) := by decide +kernel
theorem dX2_momentsUntilCollision_20 : decode cX2_momentsUntilCollision 20 = .ok (.istore_n 3, 1) := by decide +kernel
theorem dX2_momentsUntilCollision_21 : decode cX2_momentsUntilCollision 21 = .ok (.iload_n 3, 1) := by decide +kernel
theorem dX2_momentsUntilCollision_22 : decode cX2_momentsUntilCollision 22 = .ok (.sipush 1000, 3) := by decide +kernel
theorem dX2_momentsUntilCollision_25 : decode cX2_momentsUntilCollision 25 = .ok (.if_icmp .gt 26, 3) := by decide +kernel
theorem dX2_momentsUntilCollision_28 : decode cX2_momentsUntilCollision 28 = .ok (.aload_n 0, 1) := by decide +kernel
theorem dX2_momentsUntilCollision_29 : decode cX2_momentsUntilCollision 29 = .ok (.iload_n 1, 1) := by decide +kernel
theorem dX2_momentsUntilCollision_30 : decode cX2_momentsUntilCollision 30 = .ok (.iload_n 2, 1) := by decide +kernel
theorem dX2_momentsUntilCollision_31 : decode cX2_momentsUntilCollision 31 = .ok (.aload_n 0, 1) := by decide +kernel
theorem dX2_momentsUntilCollision_32 : decode cX2_momentsUntilCollision 32 = .ok (.getfield 59, 3) := by decide +kernel
theorem dX2_momentsUntilCollision_35 : decode cX2_momentsUntilCollision 35 = .ok (.iload_n 3, 1) := by decide +kernel
theorem dX2_momentsUntilCollision_36 : decode cX2_momentsUntilCollision 36 = .ok (.iadd, 1) := by decide +kernel
theorem dX2_momentsUntilCollision_37 : decode cX2_momentsUntilCollision 37 = .ok (.invokevirtual 93, 3) := by decide +kernel
theorem dX2_momentsUntilCollision_40 : decode cX2_momentsUntilCollision 40 = .ok (.ifCond .eq 5, 3) := by decide +kernel
theorem dX2_momentsUntilCollision_43 : decode cX2_momentsUntilCollision 43 = .ok (.iload_n 3, 1) := by decide +kernel
theorem dX2_momentsUntilCollision_44 : decode cX2_momentsUntilCollision 44 = .ok (.ireturn, 1) := by decide +kernel
theorem dX2_momentsUntilCollision_45 : decode cX2_momentsUntilCollision 45 = .ok (.iinc 3 1, 3) := by decide +kernel
theorem dX2_momentsUntilCollision_48 : decode cX2_momentsUntilCollision 48 = .ok (.goto (-27), 3) := by decide +kernel
theorem dX2_momentsUntilCollision_51 : decode cX2_momentsUntilCollision 51 = .ok (.iconst (-1), 1) := by decide +kernel
theorem dX2_momentsUntilCollision_52 : decode cX2_momentsUntilCollision 52 = .ok (.ireturn, 1) := by decide +kernel
set_option maxRecDepth 20000 in
theorem ggX2_collisionsWithin_X2_wrongPair : GoodIn wsX2_collisionsWithin wsX2_wrongPair := goodIn_r _ [7, 8, 9, 10, 6, 11, 12, 13, 14, 15, 35, 36, 37, 38, 39, 40, 41, 42, 43] (by decide +kernel) (by decide +kernel)
set_option maxRecDepth 20000 in
theorem gX2_collisionsWithin_X2_wrongPair : GoodIn wsX2_collisionsWithin (wsV RX2 90 RX2 yX2_wrongPair wsX2_wrongPair) := goodIn_app (goodIn_of _ (by decide +kernel)) ggX2_collisionsWithin_X2_wrongPair
set_option maxRecDepth 20000 in
theorem ggX2_collisionsWithin_X2_isIn : GoodIn wsX2_collisionsWithin wsX2_isIn := goodIn_r _ [15] (by decide +kernel) (by decide +kernel)
set_option maxRecDepth 20000 in
theorem gX2_collisionsWithin_X2_isIn : GoodIn wsX2_collisionsWithin (va_wsS RX2 33 yX2_isIn wsX2_isIn) := goodIn_app (goodIn_of _ (by decide +kernel)) ggX2_collisionsWithin_X2_isIn
set_option maxRecDepth 20000 in
theorem ggX2_collisionsWithin_X2_no : GoodIn wsX2_collisionsWithin wsX2_no := goodIn_r _ [19, 1, 35, 36, 37, 38, 39, 40, 41, 42, 43] (by decide +kernel) (by decide +kernel)
set_option maxRecDepth 20000 in
theorem gX2_collisionsWithin_X2_no : GoodIn wsX2_collisionsWithin (wsV RX2 62 RX2 yX2_no wsX2_no) := goodIn_app (goodIn_of _ (by decide +kernel)) ggX2_collisionsWithin_X2_no
set_option maxRecDepth 20000 in
theorem ggX2_collisionsWithin_X2_collide : GoodIn wsX2_collisionsWithin wsX2_collide := goodIn_r _ [23, 24, 25, 26, 6, 27, 28, 29, 30, 31, 32, 33, 34, 35, 36, 37, 38, 39, 40, 41, 42, 43] (by decide +kernel) (by decide +kernel)
set_option maxRecDepth 20000 in
theorem gX2_collisionsWithin_X2_collide : GoodIn wsX2_collisionsWithin (wsV RX2 93 RX2 yX2_collide wsX2_collide) := goodIn_app (goodIn_of _ (by decide +kernel)) ggX2_collisionsWithin_X2_collide
theorem dX2_collisionsWithin_0 : decode cX2_collisionsWithin 0 = .ok (.aload_n 0, 1) := by decide +kernel
theorem dX2_collisionsWithin_1 : decode cX2_collisionsWithin 1 = .ok (.aload_n 0, 1) := by decide +kernel
theorem dX2_collisionsWithin_2 : decode cX2_collisionsWithin 2 = .ok (.iload_n 1, 1) := by decide +kernel
theorem dX2_collisionsWithin_3 : decode cX2_collisionsWithin 3 = .ok (.iload_n 2, 1) := by decide +kernel
theorem dX2_collisionsWithin_4 : decode cX2_collisionsWithin 4 = .ok (.invokevirtual 90, 3) := by decide +kernel
theorem dX2_collisionsWithin_7 : decode cX2_collisionsWithin 7 = .ok (.putfield 26, 3) := by decide +kernel
theorem dX2_collisionsWithin_10 : decode cX2_collisionsWithin 10 = .ok (.aload_n 0, 1) := by decide +kernel
theorem dX2_collisionsWithin_11 : decode cX2_collisionsWithin 11 = .ok (.getfield 26, 3) := by decide +kernel
theorem dX2_collisionsWithin_14 : decode cX2_collisionsWithin 14 = .ok (.ifCond .le 5, 3) := by decide +kernel
theorem dX2_collisionsWithin_17 : decode cX2_collisionsWithin 17 = .ok (.iconst 0, 1) := by decide +kernel
theorem dX2_collisionsWithin_18 : decode cX2_collisionsWithin 18 = .ok (.ireturn, 1) := by decide +kernel
theorem dX2_collisionsWithin_19 : decode cX2_collisionsWithin 19 = .ok (.iload_n 3, 1) := by decide +kernel
theorem dX2_collisionsWithin_20 : decode cX2_collisionsWithin 20 = .ok (.iconst 1, 1) := by decide +kernel
theorem dX2_collisionsWithin_21 : decode cX2_collisionsWithin 21 = .ok (.sipush 500, 3) := by decide +kernel
theorem dX2_collisionsWithin_24 : decode cX2_collisionsWithin 24 = .ok (.invokestatic 33, 3) := by decide +kernel
theorem dX2_collisionsWithin_27 : decode cX2_collisionsWithin 27 = .ok (.ifCond .ne 9, 3) := by decide +kernel
theorem dX2_collisionsWithin_30 : decode cX2_collisionsWithin 30 = .ok (.aload_n 0, 1) := by decide +kernel
theorem dX2_collisionsWithin_31 : decode cX2_collisionsWithin 31 = .ok (.iconst 2, 1) := by decide +kernel
theorem dX2_collisionsWithin_32 : decode cX2_collisionsWithin 32 = .ok (.invokevirtual 62, 3) := by decide +kernel
theorem dX2_collisionsWithin_35 : decode cX2_collisionsWithin 35 = .ok (.ireturn, 1) := by decide +kernel
theorem dX2_collisionsWithin_36 : decode cX2_collisionsWithin 36 = .ok (.iconst 0, 1) := by decide +kernel
theorem dX2_collisionsWithin_37 : decode cX2_collisionsWithin 37 = .ok (.istore 4, 2) := by decide +kernel
theorem dX2_collisionsWithin_39 : decode cX2_collisionsWithin 39 = .ok (.iconst 1, 1) := by decide +kernel
theorem dX2_collisionsWithin_40 : decode cX2_collisionsWithin 40 = .ok (.istore 5, 2) := by decide +kernel
theorem dX2_collisionsWithin_42 : decode cX2_collisionsWithin 42 = .ok (.iload 5, 2) := by decide +kernel
theorem dX2_collisionsWithin_44 : decode cX2_collisionsWithin 44 = .ok (.iload_n 3, 1) := by decide +kernel
theorem dX2_collisionsWithin_45 : decode cX2_collisionsWithin 45 = .ok (.if_icmp .gt 35, 3) := by decide +kernel
theorem dX2_collisionsWithin_48 : decode cX2_collisionsWithin 48 = .ok (.iload 4, 2) := by decide +kernel
theorem dX2_collisionsWithin_50 : decode cX2_collisionsWithin 50 = .ok (.aload_n 0, 1) := by decide +kernel
theorem dX2_collisionsWithin_51 : decode cX2_collisionsWithin 51 = .ok (.iload_n 1, 1) := by decide +kernel
theorem dX2_collisionsWithin_52 : decode cX2_collisionsWithin 52 = .ok (.iload_n 2, 1) := by decide +kernel
theorem dX2_collisionsWithin_53 : decode cX2_collisionsWithin 53 = .ok (.aload_n 0, 1) := by decide +kernel
theorem dX2_collisionsWithin_54 : decode cX2_collisionsWithin 54 = .ok (.getfield 59, 3) := by decide +kernel
theorem dX2_collisionsWithin_57 : decode cX2_collisionsWithin 57 = .ok (.iload 5, 2) := by decide +kernel
theorem dX2_collisionsWithin_59 : decode cX2_collisionsWithin 59 = .ok (.iadd, 1) := by decide +kernel
theorem dX2_collisionsWithin_60 : decode cX2_collisionsWithin 60 = .ok (.invokevirtual 93, 3) := by decide +kernel
theorem dX2_collisionsWithin_63 : decode cX2_collisionsWithin 63 = .ok (.ifCond .eq 7, 3) := by decide +kernel
theorem dX2_collisionsWithin_66 : decode cX2_collisionsWithin 66 = .ok (.iconst 1, 1) := by decide +kernel
theorem dX2_collisionsWithin_67 : decode cX2_collisionsWithin 67 = .ok (.goto 4, 3) := by decide +kernel
theorem dX2_collisionsWithin_70 : decode cX2_collisionsWithin 70 = .ok (.iconst 0, 1) := by decide +kernel
theorem dX2_collisionsWithin_71 : decode cX2_collisionsWithin 71 = .ok (.iadd, 1) := by decide +kernel
theorem dX2_collisionsWithin_72 : decode cX2_collisionsWithin 72 = .ok (.istore 4, 2) := by decide +kernel
theorem dX2_collisionsWithin_74 : decode cX2_collisionsWithin 74 = .ok (.iinc 5 1, 3) := by decide +kernel
theorem dX2_collisionsWithin_77 : decode cX2_collisionsWithin 77 = .ok (.goto (-35), 3) := by decide +kernel
theorem dX2_collisionsWithin_80 : decode cX2_collisionsWithin 80 = .ok (.iload 4, 2) := by decide +kernel
theorem dX2_collisionsWithin_82 : decode cX2_collisionsWithin 82 = .ok (.ireturn, 1) := by decide +kernel
set_option maxRecDepth 20000 in
theorem ggX2_momentsUntilToldApart_X2_wrongPair : GoodIn wsX2_momentsUntilToldApart wsX2_wrongPair := goodIn_r _ [8, 9, 10, 11, 7, 12, 13, 14, 15, 16, 25, 26, 27, 28, 29, 30, 31, 32, 33] (by decide +kernel) (by decide +kernel)
set_option maxRecDepth 20000 in
theorem gX2_momentsUntilToldApart_X2_wrongPair : GoodIn wsX2_momentsUntilToldApart (wsV RX2 90 RX2 yX2_wrongPair wsX2_wrongPair) := goodIn_app (goodIn_of _ (by decide +kernel)) ggX2_momentsUntilToldApart_X2_wrongPair
set_option maxRecDepth 20000 in
theorem ggX2_momentsUntilToldApart_X2_onAt : GoodIn wsX2_momentsUntilToldApart wsX2_onAt := goodIn_r _ [20, 21, 22, 23, 24, 25, 26, 27, 28, 29, 30, 31, 32, 33] (by decide +kernel) (by decide +kernel)
set_option maxRecDepth 20000 in
theorem gX2_momentsUntilToldApart_X2_onAt : GoodIn wsX2_momentsUntilToldApart (wsV RX2 45 RX2 yX2_onAt wsX2_onAt) := goodIn_app (goodIn_of _ (by decide +kernel)) ggX2_momentsUntilToldApart_X2_onAt
theorem dX2_momentsUntilToldApart_0 : decode cX2_momentsUntilToldApart 0 = .ok (.aload_n 0, 1) := by decide +kernel
theorem dX2_momentsUntilToldApart_1 : decode cX2_momentsUntilToldApart 1 = .ok (.aload_n 0, 1) := by decide +kernel
theorem dX2_momentsUntilToldApart_2 : decode cX2_momentsUntilToldApart 2 = .ok (.iload_n 1, 1) := by decide +kernel
theorem dX2_momentsUntilToldApart_3 : decode cX2_momentsUntilToldApart 3 = .ok (.iload_n 2, 1) := by decide +kernel
theorem dX2_momentsUntilToldApart_4 : decode cX2_momentsUntilToldApart 4 = .ok (.invokevirtual 90, 3) := by decide +kernel
theorem dX2_momentsUntilToldApart_7 : decode cX2_momentsUntilToldApart 7 = .ok (.putfield 26, 3) := by decide +kernel
theorem dX2_momentsUntilToldApart_10 : decode cX2_momentsUntilToldApart 10 = .ok (.aload_n 0, 1) := by decide +kernel
theorem dX2_momentsUntilToldApart_11 : decode cX2_momentsUntilToldApart 11 = .ok (.getfield 26, 3) := by decide +kernel
theorem dX2_momentsUntilToldApart_14 : decode cX2_momentsUntilToldApart 14 = .ok (.ifCond .le 5, 3) := by decide +kernel
theorem dX2_momentsUntilToldApart_17 : decode cX2_momentsUntilToldApart 17 = .ok (.iconst 0, 1) := by decide +kernel
theorem dX2_momentsUntilToldApart_18 : decode cX2_momentsUntilToldApart 18 = .ok (.ireturn, 1) := by decide +kernel
theorem dX2_momentsUntilToldApart_19 : decode cX2_momentsUntilToldApart 19 = .ok (.iconst 0, 1) := by decide +kernel
theorem dX2_momentsUntilToldApart_20 : decode cX2_momentsUntilToldApart 20 = .ok (.istore_n 3, 1) := by decide +kernel
theorem dX2_momentsUntilToldApart_21 : decode cX2_momentsUntilToldApart 21 = .ok (.iload_n 3, 1) := by decide +kernel
theorem dX2_momentsUntilToldApart_22 : decode cX2_momentsUntilToldApart 22 = .ok (.ldc 96, 2) := by decide +kernel
theorem dX2_momentsUntilToldApart_24 : decode cX2_momentsUntilToldApart 24 = .ok (.if_icmp .gt 36, 3) := by decide +kernel
theorem dX2_momentsUntilToldApart_27 : decode cX2_momentsUntilToldApart 27 = .ok (.aload_n 0, 1) := by decide +kernel
theorem dX2_momentsUntilToldApart_28 : decode cX2_momentsUntilToldApart 28 = .ok (.iload_n 1, 1) := by decide +kernel
theorem dX2_momentsUntilToldApart_29 : decode cX2_momentsUntilToldApart 29 = .ok (.aload_n 0, 1) := by decide +kernel
theorem dX2_momentsUntilToldApart_30 : decode cX2_momentsUntilToldApart 30 = .ok (.getfield 59, 3) := by decide +kernel
theorem dX2_momentsUntilToldApart_33 : decode cX2_momentsUntilToldApart 33 = .ok (.iload_n 3, 1) := by decide +kernel
theorem dX2_momentsUntilToldApart_34 : decode cX2_momentsUntilToldApart 34 = .ok (.iadd, 1) := by decide +kernel
theorem dX2_momentsUntilToldApart_35 : decode cX2_momentsUntilToldApart 35 = .ok (.invokevirtual 45, 3) := by decide +kernel
theorem dX2_momentsUntilToldApart_38 : decode cX2_momentsUntilToldApart 38 = .ok (.aload_n 0, 1) := by decide +kernel
theorem dX2_momentsUntilToldApart_39 : decode cX2_momentsUntilToldApart 39 = .ok (.iload_n 2, 1) := by decide +kernel
theorem dX2_momentsUntilToldApart_40 : decode cX2_momentsUntilToldApart 40 = .ok (.aload_n 0, 1) := by decide +kernel
theorem dX2_momentsUntilToldApart_41 : decode cX2_momentsUntilToldApart 41 = .ok (.getfield 59, 3) := by decide +kernel
theorem dX2_momentsUntilToldApart_44 : decode cX2_momentsUntilToldApart 44 = .ok (.iload_n 3, 1) := by decide +kernel
theorem dX2_momentsUntilToldApart_45 : decode cX2_momentsUntilToldApart 45 = .ok (.iadd, 1) := by decide +kernel
theorem dX2_momentsUntilToldApart_46 : decode cX2_momentsUntilToldApart 46 = .ok (.invokevirtual 45, 3) := by decide +kernel
theorem dX2_momentsUntilToldApart_49 : decode cX2_momentsUntilToldApart 49 = .ok (.if_icmp .eq 5, 3) := by decide +kernel
theorem dX2_momentsUntilToldApart_52 : decode cX2_momentsUntilToldApart 52 = .ok (.iload_n 3, 1) := by decide +kernel
theorem dX2_momentsUntilToldApart_53 : decode cX2_momentsUntilToldApart 53 = .ok (.ireturn, 1) := by decide +kernel
theorem dX2_momentsUntilToldApart_54 : decode cX2_momentsUntilToldApart 54 = .ok (.iinc 3 1, 3) := by decide +kernel
theorem dX2_momentsUntilToldApart_57 : decode cX2_momentsUntilToldApart 57 = .ok (.goto (-36), 3) := by decide +kernel
theorem dX2_momentsUntilToldApart_60 : decode cX2_momentsUntilToldApart 60 = .ok (.iconst (-1), 1) := by decide +kernel
theorem dX2_momentsUntilToldApart_61 : decode cX2_momentsUntilToldApart 61 = .ok (.ireturn, 1) := by decide +kernel
set_option maxRecDepth 20000 in
theorem ggX2_momentsUntilDark_X2_litAt : GoodIn wsX2_momentsUntilDark wsX2_litAt := goodIn_r _ [7, 8, 9, 10, 11, 12, 6, 13, 14, 15, 16, 17, 18, 19, 20, 21, 22, 23, 24, 25, 26] (by decide +kernel) (by decide +kernel)
set_option maxRecDepth 20000 in
theorem gX2_momentsUntilDark_X2_litAt : GoodIn wsX2_momentsUntilDark (wsV RX2 77 RX2 yX2_litAt wsX2_litAt) := goodIn_app (goodIn_of _ (by decide +kernel)) ggX2_momentsUntilDark_X2_litAt
theorem dX2_momentsUntilDark_0 : decode cX2_momentsUntilDark 0 = .ok (.aload_n 0, 1) := by decide +kernel
theorem dX2_momentsUntilDark_1 : decode cX2_momentsUntilDark 1 = .ok (.iconst 0, 1) := by decide +kernel
theorem dX2_momentsUntilDark_2 : decode cX2_momentsUntilDark 2 = .ok (.putfield 26, 3) := by decide +kernel
theorem dX2_momentsUntilDark_5 : decode cX2_momentsUntilDark 5 = .ok (.iconst 0, 1) := by decide +kernel
theorem dX2_momentsUntilDark_6 : decode cX2_momentsUntilDark 6 = .ok (.istore_n 1, 1) := by decide +kernel
theorem dX2_momentsUntilDark_7 : decode cX2_momentsUntilDark 7 = .ok (.iload_n 1, 1) := by decide +kernel
theorem dX2_momentsUntilDark_8 : decode cX2_momentsUntilDark 8 = .ok (.sipush 2000, 3) := by decide +kernel
theorem dX2_momentsUntilDark_11 : decode cX2_momentsUntilDark 11 = .ok (.if_icmp .gt 25, 3) := by decide +kernel
theorem dX2_momentsUntilDark_14 : decode cX2_momentsUntilDark 14 = .ok (.aload_n 0, 1) := by decide +kernel
theorem dX2_momentsUntilDark_15 : decode cX2_momentsUntilDark 15 = .ok (.aload_n 0, 1) := by decide +kernel
theorem dX2_momentsUntilDark_16 : decode cX2_momentsUntilDark 16 = .ok (.getfield 59, 3) := by decide +kernel
theorem dX2_momentsUntilDark_19 : decode cX2_momentsUntilDark 19 = .ok (.iload_n 1, 1) := by decide +kernel
theorem dX2_momentsUntilDark_20 : decode cX2_momentsUntilDark 20 = .ok (.iadd, 1) := by decide +kernel
theorem dX2_momentsUntilDark_21 : decode cX2_momentsUntilDark 21 = .ok (.iconst (-1), 1) := by decide +kernel
theorem dX2_momentsUntilDark_22 : decode cX2_momentsUntilDark 22 = .ok (.invokevirtual 77, 3) := by decide +kernel
theorem dX2_momentsUntilDark_25 : decode cX2_momentsUntilDark 25 = .ok (.ifCond .ne 5, 3) := by decide +kernel
theorem dX2_momentsUntilDark_28 : decode cX2_momentsUntilDark 28 = .ok (.iload_n 1, 1) := by decide +kernel
theorem dX2_momentsUntilDark_29 : decode cX2_momentsUntilDark 29 = .ok (.ireturn, 1) := by decide +kernel
theorem dX2_momentsUntilDark_30 : decode cX2_momentsUntilDark 30 = .ok (.iinc 1 1, 3) := by decide +kernel
theorem dX2_momentsUntilDark_33 : decode cX2_momentsUntilDark 33 = .ok (.goto (-26), 3) := by decide +kernel
theorem dX2_momentsUntilDark_36 : decode cX2_momentsUntilDark 36 = .ok (.iconst (-1), 1) := by decide +kernel
theorem dX2_momentsUntilDark_37 : decode cX2_momentsUntilDark 37 = .ok (.ireturn, 1) := by decide +kernel
set_option maxRecDepth 20000 in
theorem ggX2_darkWith_X2_litAt : GoodIn wsX2_darkWith wsX2_litAt := goodIn_r _ [6, 7, 8, 9, 10, 11, 5, 12, 13, 14, 15, 16, 17, 18, 19, 20, 21, 22, 23, 24, 25] (by decide +kernel) (by decide +kernel)
set_option maxRecDepth 20000 in
theorem gX2_darkWith_X2_litAt : GoodIn wsX2_darkWith (wsV RX2 77 RX2 yX2_litAt wsX2_litAt) := goodIn_app (goodIn_of _ (by decide +kernel)) ggX2_darkWith_X2_litAt
theorem dX2_darkWith_0 : decode cX2_darkWith 0 = .ok (.iconst 0, 1) := by decide +kernel
theorem dX2_darkWith_1 : decode cX2_darkWith 1 = .ok (.istore_n 3, 1) := by decide +kernel
theorem dX2_darkWith_2 : decode cX2_darkWith 2 = .ok (.iconst 1, 1) := by decide +kernel
theorem dX2_darkWith_3 : decode cX2_darkWith 3 = .ok (.istore 4, 2) := by decide +kernel
theorem dX2_darkWith_5 : decode cX2_darkWith 5 = .ok (.iload 4, 2) := by decide +kernel
theorem dX2_darkWith_7 : decode cX2_darkWith 7 = .ok (.iload_n 1, 1) := by decide +kernel
theorem dX2_darkWith_8 : decode cX2_darkWith 8 = .ok (.if_icmp .gt 32, 3) := by decide +kernel
theorem dX2_darkWith_11 : decode cX2_darkWith 11 = .ok (.iload_n 3, 1) := by decide +kernel
theorem dX2_darkWith_12 : decode cX2_darkWith 12 = .ok (.aload_n 0, 1) := by decide +kernel
theorem dX2_darkWith_13 : decode cX2_darkWith 13 = .ok (.aload_n 0, 1) := by decide +kernel
theorem dX2_darkWith_14 : decode cX2_darkWith 14 = .ok (.getfield 59, 3) := by decide +kernel
theorem dX2_darkWith_17 : decode cX2_darkWith 17 = .ok (.iload 4, 2) := by decide +kernel
theorem dX2_darkWith_19 : decode cX2_darkWith 19 = .ok (.iadd, 1) := by decide +kernel
theorem dX2_darkWith_20 : decode cX2_darkWith 20 = .ok (.iload_n 2, 1) := by decide +kernel
theorem dX2_darkWith_21 : decode cX2_darkWith 21 = .ok (.invokevirtual 77, 3) := by decide +kernel
theorem dX2_darkWith_24 : decode cX2_darkWith 24 = .ok (.ifCond .ne 7, 3) := by decide +kernel
theorem dX2_darkWith_27 : decode cX2_darkWith 27 = .ok (.iconst 1, 1) := by decide +kernel
theorem dX2_darkWith_28 : decode cX2_darkWith 28 = .ok (.goto 4, 3) := by decide +kernel
theorem dX2_darkWith_31 : decode cX2_darkWith 31 = .ok (.iconst 0, 1) := by decide +kernel
theorem dX2_darkWith_32 : decode cX2_darkWith 32 = .ok (.iadd, 1) := by decide +kernel
theorem dX2_darkWith_33 : decode cX2_darkWith 33 = .ok (.istore_n 3, 1) := by decide +kernel
theorem dX2_darkWith_34 : decode cX2_darkWith 34 = .ok (.iinc 4 1, 3) := by decide +kernel
theorem dX2_darkWith_37 : decode cX2_darkWith 37 = .ok (.goto (-32), 3) := by decide +kernel
theorem dX2_darkWith_40 : decode cX2_darkWith 40 = .ok (.iload_n 3, 1) := by decide +kernel
theorem dX2_darkWith_41 : decode cX2_darkWith 41 = .ok (.ireturn, 1) := by decide +kernel
set_option maxRecDepth 20000 in
theorem ggX2_darkWithin_X2_isIn : GoodIn wsX2_darkWithin wsX2_isIn := goodIn_r _ [5] (by decide +kernel) (by decide +kernel)
set_option maxRecDepth 20000 in
theorem gX2_darkWithin_X2_isIn : GoodIn wsX2_darkWithin (va_wsS RX2 33 yX2_isIn wsX2_isIn) := goodIn_app (goodIn_of _ (by decide +kernel)) ggX2_darkWithin_X2_isIn
set_option maxRecDepth 20000 in
theorem ggX2_darkWithin_X2_darkWith : GoodIn wsX2_darkWithin wsX2_darkWith := goodIn_r _ [9, 10, 11, 12, 13, 4, 14, 15, 16, 17, 18, 19, 20, 21, 22, 23, 24, 29, 30, 31, 32, 33, 34, 35, 36, 37] (by decide +kernel) (by decide +kernel)
set_option maxRecDepth 20000 in
theorem gX2_darkWithin_X2_darkWith : GoodIn wsX2_darkWithin (wsV RX2 97 RX2 yX2_darkWith wsX2_darkWith) := goodIn_app (goodIn_of _ (by decide +kernel)) ggX2_darkWithin_X2_darkWith
set_option maxRecDepth 20000 in
theorem ggX2_darkWithin_X2_no : GoodIn wsX2_darkWithin wsX2_no := goodIn_r _ [28, 1, 29, 30, 31, 32, 33, 34, 35, 36, 37] (by decide +kernel) (by decide +kernel)
set_option maxRecDepth 20000 in
theorem gX2_darkWithin_X2_no : GoodIn wsX2_darkWithin (wsV RX2 62 RX2 yX2_no wsX2_no) := goodIn_app (goodIn_of _ (by decide +kernel)) ggX2_darkWithin_X2_no
theorem dX2_darkWithin_0 : decode cX2_darkWithin 0 = .ok (.aload_n 0, 1) := by decide +kernel
theorem dX2_darkWithin_1 : decode cX2_darkWithin 1 = .ok (.iconst 0, 1) := by decide +kernel
theorem dX2_darkWithin_2 : decode cX2_darkWithin 2 = .ok (.putfield 26, 3) := by decide +kernel
theorem dX2_darkWithin_5 : decode cX2_darkWithin 5 = .ok (.iload_n 1, 1) := by decide +kernel
theorem dX2_darkWithin_6 : decode cX2_darkWithin 6 = .ok (.iconst 1, 1) := by decide +kernel
theorem dX2_darkWithin_7 : decode cX2_darkWithin 7 = .ok (.sipush 500, 3) := by decide +kernel
theorem dX2_darkWithin_10 : decode cX2_darkWithin 10 = .ok (.invokestatic 33, 3) := by decide +kernel
theorem dX2_darkWithin_13 : decode cX2_darkWithin 13 = .ok (.ifCond .eq 12, 3) := by decide +kernel
theorem dX2_darkWithin_16 : decode cX2_darkWithin 16 = .ok (.aload_n 0, 1) := by decide +kernel
theorem dX2_darkWithin_17 : decode cX2_darkWithin 17 = .ok (.iload_n 1, 1) := by decide +kernel
theorem dX2_darkWithin_18 : decode cX2_darkWithin 18 = .ok (.iconst (-1), 1) := by decide +kernel
theorem dX2_darkWithin_19 : decode cX2_darkWithin 19 = .ok (.invokevirtual 97, 3) := by decide +kernel
theorem dX2_darkWithin_22 : decode cX2_darkWithin 22 = .ok (.goto 8, 3) := by decide +kernel
theorem dX2_darkWithin_25 : decode cX2_darkWithin 25 = .ok (.aload_n 0, 1) := by decide +kernel
theorem dX2_darkWithin_26 : decode cX2_darkWithin 26 = .ok (.iconst 1, 1) := by decide +kernel
theorem dX2_darkWithin_27 : decode cX2_darkWithin 27 = .ok (.invokevirtual 62, 3) := by decide +kernel
theorem dX2_darkWithin_30 : decode cX2_darkWithin 30 = .ok (.ireturn, 1) := by decide +kernel
set_option maxRecDepth 20000 in
theorem ggX2_brightestWithin_X2_isIn : GoodIn wsX2_brightestWithin wsX2_isIn := goodIn_r _ [6] (by decide +kernel) (by decide +kernel)
set_option maxRecDepth 20000 in
theorem gX2_brightestWithin_X2_isIn : GoodIn wsX2_brightestWithin (va_wsS RX2 33 yX2_isIn wsX2_isIn) := goodIn_app (goodIn_of _ (by decide +kernel)) ggX2_brightestWithin_X2_isIn
set_option maxRecDepth 20000 in
theorem ggX2_brightestWithin_X2_no : GoodIn wsX2_brightestWithin wsX2_no := goodIn_r _ [10, 1, 25, 26, 27, 28, 29, 30, 31, 32, 33] (by decide +kernel) (by decide +kernel)
set_option maxRecDepth 20000 in
theorem gX2_brightestWithin_X2_no : GoodIn wsX2_brightestWithin (wsV RX2 62 RX2 yX2_no wsX2_no) := goodIn_app (goodIn_of _ (by decide +kernel)) ggX2_brightestWithin_X2_no
set_option maxRecDepth 20000 in
theorem ggX2_brightestWithin_X2_litAt : GoodIn wsX2_brightestWithin wsX2_litAt := goodIn_r _ [14, 15, 16, 17, 18, 19, 5, 20, 21, 22, 23, 24, 25, 26, 27, 28, 29, 30, 31, 32, 33] (by decide +kernel) (by decide +kernel)
set_option maxRecDepth 20000 in
theorem gX2_brightestWithin_X2_litAt : GoodIn wsX2_brightestWithin (wsV RX2 77 RX2 yX2_litAt wsX2_litAt) := goodIn_app (goodIn_of _ (by decide +kernel)) ggX2_brightestWithin_X2_litAt
theorem dX2_brightestWithin_0 : decode cX2_brightestWithin 0 = .ok (.aload_n 0, 1) := by decide +kernel
theorem dX2_brightestWithin_1 : decode cX2_brightestWithin 1 = .ok (.iconst 0, 1) := by decide +kernel
theorem dX2_brightestWithin_2 : decode cX2_brightestWithin 2 = .ok (.putfield 26, 3) := by decide +kernel
theorem dX2_brightestWithin_5 : decode cX2_brightestWithin 5 = .ok (.iload_n 1, 1) := by decide +kernel
theorem dX2_brightestWithin_6 : decode cX2_brightestWithin 6 = .ok (.iconst 1, 1) := by decide +kernel
theorem dX2_brightestWithin_7 : decode cX2_brightestWithin 7 = .ok (.sipush 500, 3) := by decide +kernel
theorem dX2_brightestWithin_10 : decode cX2_brightestWithin 10 = .ok (.invokestatic 33, 3) := by decide +kernel
theorem dX2_brightestWithin_13 : decode cX2_brightestWithin 13 = .ok (.ifCond .ne 9, 3) := by decide +kernel
theorem dX2_brightestWithin_16 : decode cX2_brightestWithin 16 = .ok (.aload_n 0, 1) := by decide +kernel
theorem dX2_brightestWithin_17 : decode cX2_brightestWithin 17 = .ok (.iconst 1, 1) := by decide +kernel
theorem dX2_brightestWithin_18 : decode cX2_brightestWithin 18 = .ok (.invokevirtual 62, 3) := by decide +kernel
theorem dX2_brightestWithin_21 : decode cX2_brightestWithin 21 = .ok (.ireturn, 1) := by decide +kernel
theorem dX2_brightestWithin_22 : decode cX2_brightestWithin 22 = .ok (.iconst 1, 1) := by decide +kernel
theorem dX2_brightestWithin_23 : decode cX2_brightestWithin 23 = .ok (.istore_n 2, 1) := by decide +kernel
theorem dX2_brightestWithin_24 : decode cX2_brightestWithin 24 = .ok (.iconst 2, 1) := by decide +kernel
theorem dX2_brightestWithin_25 : decode cX2_brightestWithin 25 = .ok (.istore_n 3, 1) := by decide +kernel
theorem dX2_brightestWithin_26 : decode cX2_brightestWithin 26 = .ok (.iload_n 3, 1) := by decide +kernel
theorem dX2_brightestWithin_27 : decode cX2_brightestWithin 27 = .ok (.iload_n 1, 1) := by decide +kernel
theorem dX2_brightestWithin_28 : decode cX2_brightestWithin 28 = .ok (.if_icmp .gt 36, 3) := by decide +kernel
theorem dX2_brightestWithin_31 : decode cX2_brightestWithin 31 = .ok (.aload_n 0, 1) := by decide +kernel
theorem dX2_brightestWithin_32 : decode cX2_brightestWithin 32 = .ok (.aload_n 0, 1) := by decide +kernel
theorem dX2_brightestWithin_33 : decode cX2_brightestWithin 33 = .ok (.getfield 59, 3) := by decide +kernel
theorem dX2_brightestWithin_36 : decode cX2_brightestWithin 36 = .ok (.iload_n 3, 1) := by decide +kernel
theorem dX2_brightestWithin_37 : decode cX2_brightestWithin 37 = .ok (.iadd, 1) := by decide +kernel
theorem dX2_brightestWithin_38 : decode cX2_brightestWithin 38 = .ok (.iconst (-1), 1) := by decide +kernel
theorem dX2_brightestWithin_39 : decode cX2_brightestWithin 39 = .ok (.invokevirtual 77, 3) := by decide +kernel
theorem dX2_brightestWithin_42 : decode cX2_brightestWithin 42 = .ok (.aload_n 0, 1) := by decide +kernel
theorem dX2_brightestWithin_43 : decode cX2_brightestWithin 43 = .ok (.aload_n 0, 1) := by decide +kernel
theorem dX2_brightestWithin_44 : decode cX2_brightestWithin 44 = .ok (.getfield 59, 3) := by decide +kernel
theorem dX2_brightestWithin_47 : decode cX2_brightestWithin 47 = .ok (.iload_n 2, 1) := by decide +kernel
theorem dX2_brightestWithin_48 : decode cX2_brightestWithin 48 = .ok (.iadd, 1) := by decide +kernel
theorem dX2_brightestWithin_49 : decode cX2_brightestWithin 49 = .ok (.iconst (-1), 1) := by decide +kernel
theorem dX2_brightestWithin_50 : decode cX2_brightestWithin 50 = .ok (.invokevirtual 77, 3) := by decide +kernel
theorem dX2_brightestWithin_53 : decode cX2_brightestWithin 53 = .ok (.if_icmp .le 5, 3) := by decide +kernel
theorem dX2_brightestWithin_56 : decode cX2_brightestWithin 56 = .ok (.iload_n 3, 1) := by decide +kernel
theorem dX2_brightestWithin_57 : decode cX2_brightestWithin 57 = .ok (.istore_n 2, 1) := by decide +kernel
theorem dX2_brightestWithin_58 : decode cX2_brightestWithin 58 = .ok (.iinc 3 1, 3) := by decide +kernel
theorem dX2_brightestWithin_61 : decode cX2_brightestWithin 61 = .ok (.goto (-35), 3) := by decide +kernel
theorem dX2_brightestWithin_64 : decode cX2_brightestWithin 64 = .ok (.iload_n 2, 1) := by decide +kernel
theorem dX2_brightestWithin_65 : decode cX2_brightestWithin 65 = .ok (.ireturn, 1) := by decide +kernel
set_option maxRecDepth 20000 in
theorem ggX2_bestCover_X2_isIn : GoodIn wsX2_bestCover wsX2_isIn := goodIn_r _ [7] (by decide +kernel) (by decide +kernel)
set_option maxRecDepth 20000 in
theorem gX2_bestCover_X2_isIn : GoodIn wsX2_bestCover (va_wsS RX2 33 yX2_isIn wsX2_isIn) := goodIn_app (goodIn_of _ (by decide +kernel)) ggX2_bestCover_X2_isIn
set_option maxRecDepth 20000 in
theorem ggX2_bestCover_X2_no : GoodIn wsX2_bestCover wsX2_no := goodIn_r _ [11, 1, 29, 30, 31, 32, 33, 34, 35, 36, 37] (by decide +kernel) (by decide +kernel)
set_option maxRecDepth 20000 in
theorem gX2_bestCover_X2_no : GoodIn wsX2_bestCover (wsV RX2 62 RX2 yX2_no wsX2_no) := goodIn_app (goodIn_of _ (by decide +kernel)) ggX2_bestCover_X2_no
set_option maxRecDepth 20000 in
theorem ggX2_bestCover_X2_darkWith : GoodIn wsX2_bestCover wsX2_darkWith := goodIn_r _ [15, 16, 17, 18, 19, 6, 20, 2, 3, 21, 22, 23, 24, 25, 26, 27, 28, 29, 30, 31, 32, 33, 34, 35, 36, 37] (by decide +kernel) (by decide +kernel)
set_option maxRecDepth 20000 in
theorem gX2_bestCover_X2_darkWith : GoodIn wsX2_bestCover (wsV RX2 97 RX2 yX2_darkWith wsX2_darkWith) := goodIn_app (goodIn_of _ (by decide +kernel)) ggX2_bestCover_X2_darkWith
theorem dX2_bestCover_0 : decode cX2_bestCover 0 = .ok (.aload_n 0, 1) := by decide +kernel
theorem dX2_bestCover_1 : decode cX2_bestCover 1 = .ok (.iconst 0, 1) := by decide +kernel
theorem dX2_bestCover_2 : decode cX2_bestCover 2 = .ok (.putfield 26, 3) := by decide +kernel
theorem dX2_bestCover_5 : decode cX2_bestCover 5 = .ok (.iload_n 1, 1) := by decide +kernel
theorem dX2_bestCover_6 : decode cX2_bestCover 6 = .ok (.iconst 1, 1) := by decide +kernel
theorem dX2_bestCover_7 : decode cX2_bestCover 7 = .ok (.sipush 200, 3) := by decide +kernel
theorem dX2_bestCover_10 : decode cX2_bestCover 10 = .ok (.invokestatic 33, 3) := by decide +kernel
theorem dX2_bestCover_13 : decode cX2_bestCover 13 = .ok (.ifCond .ne 9, 3) := by decide +kernel
theorem dX2_bestCover_16 : decode cX2_bestCover 16 = .ok (.aload_n 0, 1) := by decide +kernel
theorem dX2_bestCover_17 : decode cX2_bestCover 17 = .ok (.iconst 1, 1) := by decide +kernel
theorem dX2_bestCover_18 : decode cX2_bestCover 18 = .ok (.invokevirtual 62, 3) := by decide +kernel
theorem dX2_bestCover_21 : decode cX2_bestCover 21 = .ok (.ireturn, 1) := by decide +kernel
theorem dX2_bestCover_22 : decode cX2_bestCover 22 = .ok (.iconst (-1), 1) := by decide +kernel
theorem dX2_bestCover_23 : decode cX2_bestCover 23 = .ok (.istore_n 2, 1) := by decide +kernel
theorem dX2_bestCover_24 : decode cX2_bestCover 24 = .ok (.iconst (-1), 1) := by decide +kernel
theorem dX2_bestCover_25 : decode cX2_bestCover 25 = .ok (.istore_n 3, 1) := by decide +kernel
theorem dX2_bestCover_26 : decode cX2_bestCover 26 = .ok (.iconst 0, 1) := by decide +kernel
theorem dX2_bestCover_27 : decode cX2_bestCover 27 = .ok (.istore 4, 2) := by decide +kernel
theorem dX2_bestCover_29 : decode cX2_bestCover 29 = .ok (.iload 4, 2) := by decide +kernel
theorem dX2_bestCover_31 : decode cX2_bestCover 31 = .ok (.aload_n 0, 1) := by decide +kernel
theorem dX2_bestCover_32 : decode cX2_bestCover 32 = .ok (.getfield 30, 3) := by decide +kernel
theorem dX2_bestCover_35 : decode cX2_bestCover 35 = .ok (.if_icmp .ge 46, 3) := by decide +kernel
theorem dX2_bestCover_38 : decode cX2_bestCover 38 = .ok (.aload_n 0, 1) := by decide +kernel
theorem dX2_bestCover_39 : decode cX2_bestCover 39 = .ok (.getfield 13, 3) := by decide +kernel
theorem dX2_bestCover_42 : decode cX2_bestCover 42 = .ok (.iload 4, 2) := by decide +kernel
theorem dX2_bestCover_44 : decode cX2_bestCover 44 = .ok (.baload, 1) := by decide +kernel
theorem dX2_bestCover_45 : decode cX2_bestCover 45 = .ok (.ifCond .eq 6, 3) := by decide +kernel
theorem dX2_bestCover_48 : decode cX2_bestCover 48 = .ok (.goto 27, 3) := by decide +kernel
theorem dX2_bestCover_51 : decode cX2_bestCover 51 = .ok (.aload_n 0, 1) := by decide +kernel
theorem dX2_bestCover_52 : decode cX2_bestCover 52 = .ok (.iload_n 1, 1) := by decide +kernel
theorem dX2_bestCover_53 : decode cX2_bestCover 53 = .ok (.iload 4, 2) := by decide +kernel
theorem dX2_bestCover_55 : decode cX2_bestCover 55 = .ok (.invokevirtual 97, 3) := by decide +kernel
theorem dX2_bestCover_58 : decode cX2_bestCover 58 = .ok (.istore 5, 2) := by decide +kernel
theorem dX2_bestCover_60 : decode cX2_bestCover 60 = .ok (.iload 5, 2) := by decide +kernel
theorem dX2_bestCover_62 : decode cX2_bestCover 62 = .ok (.iload_n 3, 1) := by decide +kernel
theorem dX2_bestCover_63 : decode cX2_bestCover 63 = .ok (.if_icmp .gt 6, 3) := by decide +kernel
theorem dX2_bestCover_66 : decode cX2_bestCover 66 = .ok (.goto 9, 3) := by decide +kernel
theorem dX2_bestCover_69 : decode cX2_bestCover 69 = .ok (.iload 4, 2) := by decide +kernel
theorem dX2_bestCover_71 : decode cX2_bestCover 71 = .ok (.istore_n 2, 1) := by decide +kernel
theorem dX2_bestCover_72 : decode cX2_bestCover 72 = .ok (.iload 5, 2) := by decide +kernel
theorem dX2_bestCover_74 : decode cX2_bestCover 74 = .ok (.istore_n 3, 1) := by decide +kernel
theorem dX2_bestCover_75 : decode cX2_bestCover 75 = .ok (.iinc 4 1, 3) := by decide +kernel
theorem dX2_bestCover_78 : decode cX2_bestCover 78 = .ok (.goto (-49), 3) := by decide +kernel
theorem dX2_bestCover_81 : decode cX2_bestCover 81 = .ok (.iload_n 2, 1) := by decide +kernel
theorem dX2_bestCover_82 : decode cX2_bestCover 82 = .ok (.ireturn, 1) := by decide +kernel
theorem dX2_meanBeats_0 : decode cX2_meanBeats 0 = .ok (.aload_n 0, 1) := by decide +kernel
theorem dX2_meanBeats_1 : decode cX2_meanBeats 1 = .ok (.iconst 0, 1) := by decide +kernel
theorem dX2_meanBeats_2 : decode cX2_meanBeats 2 = .ok (.putfield 26, 3) := by decide +kernel
theorem dX2_meanBeats_5 : decode cX2_meanBeats 5 = .ok (.iconst 0, 1) := by decide +kernel
theorem dX2_meanBeats_6 : decode cX2_meanBeats 6 = .ok (.istore_n 1, 1) := by decide +kernel
theorem dX2_meanBeats_7 : decode cX2_meanBeats 7 = .ok (.iconst 0, 1) := by decide +kernel
theorem dX2_meanBeats_8 : decode cX2_meanBeats 8 = .ok (.istore_n 2, 1) := by decide +kernel
theorem dX2_meanBeats_9 : decode cX2_meanBeats 9 = .ok (.iload_n 2, 1) := by decide +kernel
theorem dX2_meanBeats_10 : decode cX2_meanBeats 10 = .ok (.aload_n 0, 1) := by decide +kernel
theorem dX2_meanBeats_11 : decode cX2_meanBeats 11 = .ok (.getfield 30, 3) := by decide +kernel
theorem dX2_meanBeats_14 : decode cX2_meanBeats 14 = .ok (.if_icmp .ge 18, 3) := by decide +kernel
theorem dX2_meanBeats_17 : decode cX2_meanBeats 17 = .ok (.iload_n 1, 1) := by decide +kernel
theorem dX2_meanBeats_18 : decode cX2_meanBeats 18 = .ok (.aload_n 0, 1) := by decide +kernel
theorem dX2_meanBeats_19 : decode cX2_meanBeats 19 = .ok (.getfield 16, 3) := by decide +kernel
theorem dX2_meanBeats_22 : decode cX2_meanBeats 22 = .ok (.iload_n 2, 1) := by decide +kernel
theorem dX2_meanBeats_23 : decode cX2_meanBeats 23 = .ok (.iaload, 1) := by decide +kernel
theorem dX2_meanBeats_24 : decode cX2_meanBeats 24 = .ok (.iadd, 1) := by decide +kernel
theorem dX2_meanBeats_25 : decode cX2_meanBeats 25 = .ok (.istore_n 1, 1) := by decide +kernel
theorem dX2_meanBeats_26 : decode cX2_meanBeats 26 = .ok (.iinc 2 1, 3) := by decide +kernel
theorem dX2_meanBeats_29 : decode cX2_meanBeats 29 = .ok (.goto (-20), 3) := by decide +kernel
theorem dX2_meanBeats_32 : decode cX2_meanBeats 32 = .ok (.aload_n 0, 1) := by decide +kernel
theorem dX2_meanBeats_33 : decode cX2_meanBeats 33 = .ok (.getfield 30, 3) := by decide +kernel
theorem dX2_meanBeats_36 : decode cX2_meanBeats 36 = .ok (.ifCond .ne 7, 3) := by decide +kernel
theorem dX2_meanBeats_39 : decode cX2_meanBeats 39 = .ok (.dconst 0, 1) := by decide +kernel
theorem dX2_meanBeats_40 : decode cX2_meanBeats 40 = .ok (.goto 11, 3) := by decide +kernel
theorem dX2_meanBeats_43 : decode cX2_meanBeats 43 = .ok (.iload_n 1, 1) := by decide +kernel
theorem dX2_meanBeats_44 : decode cX2_meanBeats 44 = .ok (.i2d, 1) := by decide +kernel
theorem dX2_meanBeats_45 : decode cX2_meanBeats 45 = .ok (.aload_n 0, 1) := by decide +kernel
theorem dX2_meanBeats_46 : decode cX2_meanBeats 46 = .ok (.getfield 30, 3) := by decide +kernel
theorem dX2_meanBeats_49 : decode cX2_meanBeats 49 = .ok (.i2d, 1) := by decide +kernel
theorem dX2_meanBeats_50 : decode cX2_meanBeats 50 = .ok (.ddiv, 1) := by decide +kernel
theorem dX2_meanBeats_51 : decode cX2_meanBeats 51 = .ok (.dreturn, 1) := by decide +kernel
set_option maxRecDepth 20000 in
theorem ggX2_digest_X2_litAt : GoodIn wsX2_digest wsX2_litAt := goodIn_r _ [15, 3, 8, 16, 17, 18, 14, 19, 20, 7, 9, 10, 49, 50, 51, 52, 53, 54, 55, 56, 57] (by decide +kernel) (by decide +kernel)
set_option maxRecDepth 20000 in
theorem gX2_digest_X2_litAt : GoodIn wsX2_digest (wsV RX2 77 RX2 yX2_litAt wsX2_litAt) := goodIn_app (goodIn_of _ (by decide +kernel)) ggX2_digest_X2_litAt
set_option maxRecDepth 20000 in
theorem ggX2_digest_X2_onAt : GoodIn wsX2_digest wsX2_onAt := goodIn_r _ [19, 20, 7, 9, 10, 49, 50, 51, 52, 53, 54, 55, 56, 57] (by decide +kernel) (by decide +kernel)
set_option maxRecDepth 20000 in
theorem gX2_digest_X2_onAt : GoodIn wsX2_digest (wsV RX2 45 RX2 yX2_onAt wsX2_onAt) := goodIn_app (goodIn_of _ (by decide +kernel)) ggX2_digest_X2_onAt
set_option maxRecDepth 20000 in
theorem ggX2_digest_X2_steady : GoodIn wsX2_digest wsX2_steady := goodIn_r _ [24, 25, 26, 27, 14, 28, 7, 9, 29, 30, 31, 32, 33, 34, 35, 36, 10, 49, 50, 51, 52, 53, 54, 55, 56, 57] (by decide +kernel) (by decide +kernel)
set_option maxRecDepth 20000 in
theorem gX2_digest_X2_steady : GoodIn wsX2_digest (wsV RX2 81 RX2 yX2_steady wsX2_steady) := goodIn_app (goodIn_of _ (by decide +kernel)) ggX2_digest_X2_steady
set_option maxRecDepth 20000 in
theorem ggX2_digest_X2_cycle : GoodIn wsX2_digest wsX2_cycle := goodIn_r _ [40, 25, 26, 27, 14, 28, 7, 9, 41, 42, 43, 44, 16, 17, 18, 19, 20, 10, 29, 30, 31, 32, 33, 34, 35, 36, 49, 50, 51, 52, 53, 54, 55, 56, 57] (by decide +kernel) (by decide +kernel)
set_option maxRecDepth 20000 in
theorem gX2_digest_X2_cycle : GoodIn wsX2_digest (wsV RX2 84 RX2 yX2_cycle wsX2_cycle) := goodIn_app (goodIn_of _ (by decide +kernel)) ggX2_digest_X2_cycle
set_option maxRecDepth 20000 in
theorem ggX2_digest_X2_untilChange : GoodIn wsX2_digest wsX2_untilChange := goodIn_r _ [48, 5, 25, 26, 27, 14, 28, 7, 9, 29, 30, 31, 32, 33, 34, 35, 36, 10, 49, 50, 51, 52, 53, 54, 55, 56, 57] (by decide +kernel) (by decide +kernel)
set_option maxRecDepth 20000 in
theorem gX2_digest_X2_untilChange : GoodIn wsX2_digest (wsV RX2 87 RX2 yX2_untilChange wsX2_untilChange) := goodIn_app (goodIn_of _ (by decide +kernel)) ggX2_digest_X2_untilChange
theorem dX2_digest_0 : decode cX2_digest 0 = .ok (.aload_n 0, 1) := by decide +kernel
theorem dX2_digest_1 : decode cX2_digest 1 = .ok (.iconst 0, 1) := by decide +kernel
theorem dX2_digest_2 : decode cX2_digest 2 = .ok (.putfield 26, 3) := by decide +kernel
theorem dX2_digest_5 : decode cX2_digest 5 = .ok (.ldc2_w 100, 3) := by decide +kernel
theorem dX2_digest_8 : decode cX2_digest 8 = .ok (.aload_n 0, 1) := by decide +kernel
theorem dX2_digest_9 : decode cX2_digest 9 = .ok (.getfield 30, 3) := by decide +kernel
theorem dX2_digest_12 : decode cX2_digest 12 = .ok (.i2l, 1) := by decide +kernel
theorem dX2_digest_13 : decode cX2_digest 13 = .ok (.ladd, 1) := by decide +kernel
theorem dX2_digest_14 : decode cX2_digest 14 = .ok (.ldc2_w 102, 3) := by decide +kernel
theorem dX2_digest_17 : decode cX2_digest 17 = .ok (.lmul, 1) := by decide +kernel
theorem dX2_digest_18 : decode cX2_digest 18 = .ok (.aload_n 0, 1) := by decide +kernel
theorem dX2_digest_19 : decode cX2_digest 19 = .ok (.getfield 59, 3) := by decide +kernel
theorem dX2_digest_22 : decode cX2_digest 22 = .ok (.i2l, 1) := by decide +kernel
theorem dX2_digest_23 : decode cX2_digest 23 = .ok (.ladd, 1) := by decide +kernel
theorem dX2_digest_24 : decode cX2_digest 24 = .ok (.lstore_n 1, 1) := by decide +kernel
theorem dX2_digest_25 : decode cX2_digest 25 = .ok (.lload_n 1, 1) := by decide +kernel
theorem dX2_digest_26 : decode cX2_digest 26 = .ok (.ldc2_w 102, 3) := by decide +kernel
theorem dX2_digest_29 : decode cX2_digest 29 = .ok (.lmul, 1) := by decide +kernel
theorem dX2_digest_30 : decode cX2_digest 30 = .ok (.aload_n 0, 1) := by decide +kernel
theorem dX2_digest_31 : decode cX2_digest 31 = .ok (.getfield 74, 3) := by decide +kernel
theorem dX2_digest_34 : decode cX2_digest 34 = .ok (.i2l, 1) := by decide +kernel
theorem dX2_digest_35 : decode cX2_digest 35 = .ok (.ladd, 1) := by decide +kernel
theorem dX2_digest_36 : decode cX2_digest 36 = .ok (.ldc2_w 102, 3) := by decide +kernel
theorem dX2_digest_39 : decode cX2_digest 39 = .ok (.lmul, 1) := by decide +kernel
theorem dX2_digest_40 : decode cX2_digest 40 = .ok (.aload_n 0, 1) := by decide +kernel
theorem dX2_digest_41 : decode cX2_digest 41 = .ok (.aload_n 0, 1) := by decide +kernel
theorem dX2_digest_42 : decode cX2_digest 42 = .ok (.getfield 59, 3) := by decide +kernel
theorem dX2_digest_45 : decode cX2_digest 45 = .ok (.iconst (-1), 1) := by decide +kernel
theorem dX2_digest_46 : decode cX2_digest 46 = .ok (.invokevirtual 77, 3) := by decide +kernel
theorem dX2_digest_49 : decode cX2_digest 49 = .ok (.i2l, 1) := by decide +kernel
theorem dX2_digest_50 : decode cX2_digest 50 = .ok (.ladd, 1) := by decide +kernel
theorem dX2_digest_51 : decode cX2_digest 51 = .ok (.lstore_n 1, 1) := by decide +kernel
theorem dX2_digest_52 : decode cX2_digest 52 = .ok (.iconst 0, 1) := by decide +kernel
theorem dX2_digest_53 : decode cX2_digest 53 = .ok (.istore_n 3, 1) := by decide +kernel
theorem dX2_digest_54 : decode cX2_digest 54 = .ok (.iload_n 3, 1) := by decide +kernel
theorem dX2_digest_55 : decode cX2_digest 55 = .ok (.aload_n 0, 1) := by decide +kernel
theorem dX2_digest_56 : decode cX2_digest 56 = .ok (.getfield 30, 3) := by decide +kernel
theorem dX2_digest_59 : decode cX2_digest 59 = .ok (.if_icmp .ge 165, 3) := by decide +kernel
theorem dX2_digest_62 : decode cX2_digest 62 = .ok (.lload_n 1, 1) := by decide +kernel
theorem dX2_digest_63 : decode cX2_digest 63 = .ok (.ldc2_w 102, 3) := by decide +kernel
theorem dX2_digest_66 : decode cX2_digest 66 = .ok (.lmul, 1) := by decide +kernel
theorem dX2_digest_67 : decode cX2_digest 67 = .ok (.aload_n 0, 1) := by decide +kernel
theorem dX2_digest_68 : decode cX2_digest 68 = .ok (.getfield 16, 3) := by decide +kernel
theorem dX2_digest_71 : decode cX2_digest 71 = .ok (.iload_n 3, 1) := by decide +kernel
theorem dX2_digest_72 : decode cX2_digest 72 = .ok (.iaload, 1) := by decide +kernel
theorem dX2_digest_73 : decode cX2_digest 73 = .ok (.i2l, 1) := by decide +kernel
theorem dX2_digest_74 : decode cX2_digest 74 = .ok (.ladd, 1) := by decide +kernel
theorem dX2_digest_75 : decode cX2_digest 75 = .ok (.ldc2_w 102, 3) := by decide +kernel
theorem dX2_digest_78 : decode cX2_digest 78 = .ok (.lmul, 1) := by decide +kernel
theorem dX2_digest_79 : decode cX2_digest 79 = .ok (.aload_n 0, 1) := by decide +kernel
theorem dX2_digest_80 : decode cX2_digest 80 = .ok (.getfield 13, 3) := by decide +kernel
theorem dX2_digest_83 : decode cX2_digest 83 = .ok (.iload_n 3, 1) := by decide +kernel
theorem dX2_digest_84 : decode cX2_digest 84 = .ok (.baload, 1) := by decide +kernel
theorem dX2_digest_85 : decode cX2_digest 85 = .ok (.ifCond .eq 7, 3) := by decide +kernel
theorem dX2_digest_88 : decode cX2_digest 88 = .ok (.iconst 1, 1) := by decide +kernel
theorem dX2_digest_89 : decode cX2_digest 89 = .ok (.goto 4, 3) := by decide +kernel
theorem dX2_digest_92 : decode cX2_digest 92 = .ok (.iconst 0, 1) := by decide +kernel
theorem dX2_digest_93 : decode cX2_digest 93 = .ok (.i2l, 1) := by decide +kernel
theorem dX2_digest_94 : decode cX2_digest 94 = .ok (.ladd, 1) := by decide +kernel
theorem dX2_digest_95 : decode cX2_digest 95 = .ok (.lstore_n 1, 1) := by decide +kernel
theorem dX2_digest_96 : decode cX2_digest 96 = .ok (.lload_n 1, 1) := by decide +kernel
theorem dX2_digest_97 : decode cX2_digest 97 = .ok (.ldc2_w 102, 3) := by decide +kernel
theorem dX2_digest_100 : decode cX2_digest 100 = .ok (.lmul, 1) := by decide +kernel
theorem dX2_digest_101 : decode cX2_digest 101 = .ok (.aload_n 0, 1) := by decide +kernel
theorem dX2_digest_102 : decode cX2_digest 102 = .ok (.iload_n 3, 1) := by decide +kernel
theorem dX2_digest_103 : decode cX2_digest 103 = .ok (.aload_n 0, 1) := by decide +kernel
theorem dX2_digest_104 : decode cX2_digest 104 = .ok (.getfield 59, 3) := by decide +kernel
theorem dX2_digest_107 : decode cX2_digest 107 = .ok (.invokevirtual 45, 3) := by decide +kernel
theorem dX2_digest_110 : decode cX2_digest 110 = .ok (.ifCond .eq 7, 3) := by decide +kernel
theorem dX2_digest_113 : decode cX2_digest 113 = .ok (.iconst 1, 1) := by decide +kernel
theorem dX2_digest_114 : decode cX2_digest 114 = .ok (.goto 4, 3) := by decide +kernel
theorem dX2_digest_117 : decode cX2_digest 117 = .ok (.iconst 0, 1) := by decide +kernel
theorem dX2_digest_118 : decode cX2_digest 118 = .ok (.i2l, 1) := by decide +kernel
theorem dX2_digest_119 : decode cX2_digest 119 = .ok (.ladd, 1) := by decide +kernel
theorem dX2_digest_120 : decode cX2_digest 120 = .ok (.ldc2_w 102, 3) := by decide +kernel
theorem dX2_digest_123 : decode cX2_digest 123 = .ok (.lmul, 1) := by decide +kernel
theorem dX2_digest_124 : decode cX2_digest 124 = .ok (.aload_n 0, 1) := by decide +kernel
theorem dX2_digest_125 : decode cX2_digest 125 = .ok (.iload_n 3, 1) := by decide +kernel
theorem dX2_digest_126 : decode cX2_digest 126 = .ok (.invokevirtual 81, 3) := by decide +kernel
theorem dX2_digest_129 : decode cX2_digest 129 = .ok (.ifCond .eq 7, 3) := by decide +kernel
theorem dX2_digest_132 : decode cX2_digest 132 = .ok (.iconst 1, 1) := by decide +kernel
theorem dX2_digest_133 : decode cX2_digest 133 = .ok (.goto 4, 3) := by decide +kernel
theorem dX2_digest_136 : decode cX2_digest 136 = .ok (.iconst 0, 1) := by decide +kernel
theorem dX2_digest_137 : decode cX2_digest 137 = .ok (.i2l, 1) := by decide +kernel
theorem dX2_digest_138 : decode cX2_digest 138 = .ok (.ladd, 1) := by decide +kernel
theorem dX2_digest_139 : decode cX2_digest 139 = .ok (.lstore_n 1, 1) := by decide +kernel
theorem dX2_digest_140 : decode cX2_digest 140 = .ok (.lload_n 1, 1) := by decide +kernel
theorem dX2_digest_141 : decode cX2_digest 141 = .ok (.ldc2_w 102, 3) := by decide +kernel
theorem dX2_digest_144 : decode cX2_digest 144 = .ok (.lmul, 1) := by decide +kernel
theorem dX2_digest_145 : decode cX2_digest 145 = .ok (.aload_n 0, 1) := by decide +kernel
theorem dX2_digest_146 : decode cX2_digest 146 = .ok (.iload_n 3, 1) := by decide +kernel
theorem dX2_digest_147 : decode cX2_digest 147 = .ok (.invokevirtual 84, 3) := by decide +kernel
theorem dX2_digest_150 : decode cX2_digest 150 = .ok (.i2l, 1) := by decide +kernel
theorem dX2_digest_151 : decode cX2_digest 151 = .ok (.ladd, 1) := by decide +kernel
theorem dX2_digest_152 : decode cX2_digest 152 = .ok (.ldc2_w 102, 3) := by decide +kernel
theorem dX2_digest_155 : decode cX2_digest 155 = .ok (.lmul, 1) := by decide +kernel
theorem dX2_digest_156 : decode cX2_digest 156 = .ok (.aload_n 0, 1) := by decide +kernel
theorem dX2_digest_157 : decode cX2_digest 157 = .ok (.iload_n 3, 1) := by decide +kernel
theorem dX2_digest_158 : decode cX2_digest 158 = .ok (.invokevirtual 87, 3) := by decide +kernel
theorem dX2_digest_161 : decode cX2_digest 161 = .ok (.i2l, 1) := by decide +kernel
theorem dX2_digest_162 : decode cX2_digest 162 = .ok (.ladd, 1) := by decide +kernel
theorem dX2_digest_163 : decode cX2_digest 163 = .ok (.lstore_n 1, 1) := by decide +kernel
theorem dX2_digest_164 : decode cX2_digest 164 = .ok (.iconst 4, 1) := by decide +kernel
theorem dX2_digest_165 : decode cX2_digest 165 = .ok (.iload_n 3, 1) := by decide +kernel
theorem dX2_digest_166 : decode cX2_digest 166 = .ok (.imul, 1) := by decide +kernel
theorem dX2_digest_167 : decode cX2_digest 167 = .ok (.istore 4, 2) := by decide +kernel
theorem dX2_digest_169 : decode cX2_digest 169 = .ok (.iload 4, 2) := by decide +kernel
theorem dX2_digest_171 : decode cX2_digest 171 = .ok (.iconst 4, 1) := by decide +kernel
theorem dX2_digest_172 : decode cX2_digest 172 = .ok (.iload_n 3, 1) := by decide +kernel
theorem dX2_digest_173 : decode cX2_digest 173 = .ok (.imul, 1) := by decide +kernel
theorem dX2_digest_174 : decode cX2_digest 174 = .ok (.aload_n 0, 1) := by decide +kernel
theorem dX2_digest_175 : decode cX2_digest 175 = .ok (.getfield 16, 3) := by decide +kernel
theorem dX2_digest_178 : decode cX2_digest 178 = .ok (.iload_n 3, 1) := by decide +kernel
theorem dX2_digest_179 : decode cX2_digest 179 = .ok (.iaload, 1) := by decide +kernel
theorem dX2_digest_180 : decode cX2_digest 180 = .ok (.iadd, 1) := by decide +kernel
theorem dX2_digest_181 : decode cX2_digest 181 = .ok (.if_icmp .ge 37, 3) := by decide +kernel
theorem dX2_digest_184 : decode cX2_digest 184 = .ok (.lload_n 1, 1) := by decide +kernel
theorem dX2_digest_185 : decode cX2_digest 185 = .ok (.ldc2_w 102, 3) := by decide +kernel
theorem dX2_digest_188 : decode cX2_digest 188 = .ok (.lmul, 1) := by decide +kernel
theorem dX2_digest_189 : decode cX2_digest 189 = .ok (.aload_n 0, 1) := by decide +kernel
theorem dX2_digest_190 : decode cX2_digest 190 = .ok (.getfield 20, 3) := by decide +kernel
theorem dX2_digest_193 : decode cX2_digest 193 = .ok (.iload 4, 2) := by decide +kernel
theorem dX2_digest_195 : decode cX2_digest 195 = .ok (.iaload, 1) := by decide +kernel
theorem dX2_digest_196 : decode cX2_digest 196 = .ok (.i2l, 1) := by decide +kernel
theorem dX2_digest_197 : decode cX2_digest 197 = .ok (.ladd, 1) := by decide +kernel
theorem dX2_digest_198 : decode cX2_digest 198 = .ok (.ldc2_w 102, 3) := by decide +kernel
theorem dX2_digest_201 : decode cX2_digest 201 = .ok (.lmul, 1) := by decide +kernel
theorem dX2_digest_202 : decode cX2_digest 202 = .ok (.aload_n 0, 1) := by decide +kernel
theorem dX2_digest_203 : decode cX2_digest 203 = .ok (.getfield 23, 3) := by decide +kernel
theorem dX2_digest_206 : decode cX2_digest 206 = .ok (.iload 4, 2) := by decide +kernel
theorem dX2_digest_208 : decode cX2_digest 208 = .ok (.iaload, 1) := by decide +kernel
theorem dX2_digest_209 : decode cX2_digest 209 = .ok (.i2l, 1) := by decide +kernel
theorem dX2_digest_210 : decode cX2_digest 210 = .ok (.ladd, 1) := by decide +kernel
theorem dX2_digest_211 : decode cX2_digest 211 = .ok (.lstore_n 1, 1) := by decide +kernel
theorem dX2_digest_212 : decode cX2_digest 212 = .ok (.iinc 4 1, 3) := by decide +kernel
theorem dX2_digest_215 : decode cX2_digest 215 = .ok (.goto (-46), 3) := by decide +kernel
theorem dX2_digest_218 : decode cX2_digest 218 = .ok (.iinc 3 1, 3) := by decide +kernel
theorem dX2_digest_221 : decode cX2_digest 221 = .ok (.goto (-167), 3) := by decide +kernel
theorem dX2_digest_224 : decode cX2_digest 224 = .ok (.lload_n 1, 1) := by decide +kernel
theorem dX2_digest_225 : decode cX2_digest 225 = .ok (.lreturn, 1) := by decide +kernel
set_option maxRecDepth 20000 in
theorem ggL_addLamp_X1_addLamp : GoodIn wsL_addLamp wsX1_addLamp := goodIn_ca (goodIn_r _ [6, 7, 8, 9, 10, 11, 12, 13, 14, 15, 16, 17, 18, 19, 20] (by decide +kernel) (by decide +kernel)) (goodIn_sub (fun _ h => List.mem_cons_of_mem _ (List.mem_append_right _ h)) (by decide +kernel))
set_option maxRecDepth 20000 in
theorem gL_addLamp_X1_addLamp : GoodIn wsL_addLamp (wsV RL 7 RX1 yX1_addLamp wsX1_addLamp) := goodIn_app (goodIn_of _ (by decide +kernel)) ggL_addLamp_X1_addLamp
theorem dL_addLamp_0 : decode cL_addLamp 0 = .ok (.aload_n 2, 1) := by decide +kernel
theorem dL_addLamp_1 : decode cL_addLamp 1 = .ok (.iconst 0, 1) := by decide +kernel
theorem dL_addLamp_2 : decode cL_addLamp 2 = .ok (.aload_n 0, 1) := by decide +kernel
theorem dL_addLamp_3 : decode cL_addLamp 3 = .ok (.iload_n 1, 1) := by decide +kernel
theorem dL_addLamp_4 : decode cL_addLamp 4 = .ok (.invokevirtual 7, 3) := by decide +kernel
theorem dL_addLamp_7 : decode cL_addLamp 7 = .ok (.i2l, 1) := by decide +kernel
theorem dL_addLamp_8 : decode cL_addLamp 8 = .ok (.lastore, 1) := by decide +kernel
theorem dL_addLamp_9 : decode cL_addLamp 9 = .ok (.goto 6, 3) := by decide +kernel
theorem dL_addLamp_12 : decode cL_addLamp 12 = .ok (.astore_n 3, 1) := by decide +kernel
theorem dL_addLamp_13 : decode cL_addLamp 13 = .ok (.iconst 1, 1) := by decide +kernel
theorem dL_addLamp_14 : decode cL_addLamp 14 = .ok (.ireturn, 1) := by decide +kernel
theorem dL_addLamp_15 : decode cL_addLamp 15 = .ok (.iconst 0, 1) := by decide +kernel
theorem dL_addLamp_16 : decode cL_addLamp 16 = .ok (.ireturn, 1) := by decide +kernel
set_option maxRecDepth 20000 in
theorem ggL_addBeat_X1_addBeat : GoodIn wsL_addBeat wsX1_addBeat := goodIn_ca (goodIn_ca (goodIn_ca (goodIn_r _ [8, 9, 10, 11, 12, 13, 14, 7, 15, 16, 17, 18, 19, 20, 21, 22, 23, 24, 25, 26, 27, 28, 29, 30, 31, 32, 33, 34, 35, 36, 37, 38, 39, 40, 41, 42, 43, 44, 45] (by decide +kernel) (by decide +kernel)) (goodIn_sub (fun _ h => List.mem_cons_of_mem _ (List.mem_append_left _ (List.mem_append_left _ (List.mem_append_right _ h)))) (by decide +kernel))) (goodIn_sub (fun _ h => List.mem_cons_of_mem _ (List.mem_append_left _ (List.mem_append_right _ h))) (by decide +kernel))) (goodIn_sub (fun _ h => List.mem_cons_of_mem _ (List.mem_append_right _ h)) (by decide +kernel))
set_option maxRecDepth 20000 in
theorem gL_addBeat_X1_addBeat : GoodIn wsL_addBeat (wsV RL 15 RX1 yX1_addBeat wsX1_addBeat) := goodIn_app (goodIn_of _ (by decide +kernel)) ggL_addBeat_X1_addBeat
theorem dL_addBeat_0 : decode cL_addBeat 0 = .ok (.aload 4, 2) := by decide +kernel
theorem dL_addBeat_2 : decode cL_addBeat 2 = .ok (.iconst 0, 1) := by decide +kernel
theorem dL_addBeat_3 : decode cL_addBeat 3 = .ok (.aload_n 0, 1) := by decide +kernel
theorem dL_addBeat_4 : decode cL_addBeat 4 = .ok (.iload_n 1, 1) := by decide +kernel
theorem dL_addBeat_5 : decode cL_addBeat 5 = .ok (.iload_n 2, 1) := by decide +kernel
theorem dL_addBeat_6 : decode cL_addBeat 6 = .ok (.iload_n 3, 1) := by decide +kernel
theorem dL_addBeat_7 : decode cL_addBeat 7 = .ok (.invokevirtual 15, 3) := by decide +kernel
theorem dL_addBeat_10 : decode cL_addBeat 10 = .ok (.i2l, 1) := by decide +kernel
theorem dL_addBeat_11 : decode cL_addBeat 11 = .ok (.lastore, 1) := by decide +kernel
theorem dL_addBeat_12 : decode cL_addBeat 12 = .ok (.goto 15, 3) := by decide +kernel
theorem dL_addBeat_15 : decode cL_addBeat 15 = .ok (.astore 5, 2) := by decide +kernel
theorem dL_addBeat_17 : decode cL_addBeat 17 = .ok (.iconst 1, 1) := by decide +kernel
theorem dL_addBeat_18 : decode cL_addBeat 18 = .ok (.ireturn, 1) := by decide +kernel
theorem dL_addBeat_19 : decode cL_addBeat 19 = .ok (.astore 5, 2) := by decide +kernel
theorem dL_addBeat_21 : decode cL_addBeat 21 = .ok (.iconst 2, 1) := by decide +kernel
theorem dL_addBeat_22 : decode cL_addBeat 22 = .ok (.ireturn, 1) := by decide +kernel
theorem dL_addBeat_23 : decode cL_addBeat 23 = .ok (.astore 5, 2) := by decide +kernel
theorem dL_addBeat_25 : decode cL_addBeat 25 = .ok (.iconst 3, 1) := by decide +kernel
theorem dL_addBeat_26 : decode cL_addBeat 26 = .ok (.ireturn, 1) := by decide +kernel
theorem dL_addBeat_27 : decode cL_addBeat 27 = .ok (.iconst 0, 1) := by decide +kernel
theorem dL_addBeat_28 : decode cL_addBeat 28 = .ok (.ireturn, 1) := by decide +kernel
set_option maxRecDepth 20000 in
theorem ggL_moveBeat_X1_moveBeat : GoodIn wsL_moveBeat wsX1_moveBeat := goodIn_ca (goodIn_ca (goodIn_r _ [7, 8, 9, 10, 11, 6, 12, 13, 14, 15, 16, 17, 18, 19, 20, 21, 22, 23, 24, 25, 26, 27, 28, 29, 30, 31, 32, 33, 34] (by decide +kernel) (by decide +kernel)) (goodIn_sub (fun _ h => List.mem_cons_of_mem _ (List.mem_append_left _ (List.mem_append_right _ h))) (by decide +kernel))) (goodIn_sub (fun _ h => List.mem_cons_of_mem _ (List.mem_append_right _ h)) (by decide +kernel))
set_option maxRecDepth 20000 in
theorem gL_moveBeat_X1_moveBeat : GoodIn wsL_moveBeat (wsV RL 23 RX1 yX1_moveBeat wsX1_moveBeat) := goodIn_app (goodIn_of _ (by decide +kernel)) ggL_moveBeat_X1_moveBeat
theorem dL_moveBeat_0 : decode cL_moveBeat 0 = .ok (.aload 4, 2) := by decide +kernel
theorem dL_moveBeat_2 : decode cL_moveBeat 2 = .ok (.iconst 0, 1) := by decide +kernel
theorem dL_moveBeat_3 : decode cL_moveBeat 3 = .ok (.aload_n 0, 1) := by decide +kernel
theorem dL_moveBeat_4 : decode cL_moveBeat 4 = .ok (.iload_n 1, 1) := by decide +kernel
theorem dL_moveBeat_5 : decode cL_moveBeat 5 = .ok (.iload_n 2, 1) := by decide +kernel
theorem dL_moveBeat_6 : decode cL_moveBeat 6 = .ok (.iload_n 3, 1) := by decide +kernel
theorem dL_moveBeat_7 : decode cL_moveBeat 7 = .ok (.invokevirtual 23, 3) := by decide +kernel
theorem dL_moveBeat_10 : decode cL_moveBeat 10 = .ok (.i2l, 1) := by decide +kernel
theorem dL_moveBeat_11 : decode cL_moveBeat 11 = .ok (.lastore, 1) := by decide +kernel
theorem dL_moveBeat_12 : decode cL_moveBeat 12 = .ok (.goto 11, 3) := by decide +kernel
theorem dL_moveBeat_15 : decode cL_moveBeat 15 = .ok (.astore 5, 2) := by decide +kernel
theorem dL_moveBeat_17 : decode cL_moveBeat 17 = .ok (.iconst 1, 1) := by decide +kernel
theorem dL_moveBeat_18 : decode cL_moveBeat 18 = .ok (.ireturn, 1) := by decide +kernel
theorem dL_moveBeat_19 : decode cL_moveBeat 19 = .ok (.astore 5, 2) := by decide +kernel
theorem dL_moveBeat_21 : decode cL_moveBeat 21 = .ok (.iconst 2, 1) := by decide +kernel
theorem dL_moveBeat_22 : decode cL_moveBeat 22 = .ok (.ireturn, 1) := by decide +kernel
theorem dL_moveBeat_23 : decode cL_moveBeat 23 = .ok (.iconst 0, 1) := by decide +kernel
theorem dL_moveBeat_24 : decode cL_moveBeat 24 = .ok (.ireturn, 1) := by decide +kernel
set_option maxRecDepth 20000 in
theorem ggL_takeBeat_X1_takeBeat : GoodIn wsL_takeBeat wsX1_takeBeat := goodIn_ca (goodIn_r _ [6, 7, 8, 9, 10, 5, 11, 12, 13, 14, 15, 16, 17, 18, 19, 20, 21, 22, 23, 24, 25, 26, 27, 28, 29, 30, 31, 32, 33, 34, 35, 36] (by decide +kernel) (by decide +kernel)) (goodIn_sub (fun _ h => List.mem_cons_of_mem _ (List.mem_append_right _ h)) (by decide +kernel))
set_option maxRecDepth 20000 in
theorem gL_takeBeat_X1_takeBeat : GoodIn wsL_takeBeat (wsV RL 26 RX1 yX1_takeBeat wsX1_takeBeat) := goodIn_app (goodIn_of _ (by decide +kernel)) ggL_takeBeat_X1_takeBeat
theorem dL_takeBeat_0 : decode cL_takeBeat 0 = .ok (.aload_n 3, 1) := by decide +kernel
theorem dL_takeBeat_1 : decode cL_takeBeat 1 = .ok (.iconst 0, 1) := by decide +kernel
theorem dL_takeBeat_2 : decode cL_takeBeat 2 = .ok (.aload_n 0, 1) := by decide +kernel
theorem dL_takeBeat_3 : decode cL_takeBeat 3 = .ok (.iload_n 1, 1) := by decide +kernel
theorem dL_takeBeat_4 : decode cL_takeBeat 4 = .ok (.iload_n 2, 1) := by decide +kernel
theorem dL_takeBeat_5 : decode cL_takeBeat 5 = .ok (.invokevirtual 26, 3) := by decide +kernel
theorem dL_takeBeat_8 : decode cL_takeBeat 8 = .ok (.i2l, 1) := by decide +kernel
theorem dL_takeBeat_9 : decode cL_takeBeat 9 = .ok (.lastore, 1) := by decide +kernel
theorem dL_takeBeat_10 : decode cL_takeBeat 10 = .ok (.goto 7, 3) := by decide +kernel
theorem dL_takeBeat_13 : decode cL_takeBeat 13 = .ok (.astore 4, 2) := by decide +kernel
theorem dL_takeBeat_15 : decode cL_takeBeat 15 = .ok (.iconst 1, 1) := by decide +kernel
theorem dL_takeBeat_16 : decode cL_takeBeat 16 = .ok (.ireturn, 1) := by decide +kernel
theorem dL_takeBeat_17 : decode cL_takeBeat 17 = .ok (.iconst 0, 1) := by decide +kernel
theorem dL_takeBeat_18 : decode cL_takeBeat 18 = .ok (.ireturn, 1) := by decide +kernel
set_option maxRecDepth 20000 in
theorem ggL_turnShutter_X1_turnShutter : GoodIn wsL_turnShutter wsX1_turnShutter := goodIn_ca (goodIn_r _ [6, 7, 8, 9, 10, 5, 11, 12, 13, 14, 15, 16, 17, 18, 19, 20, 21, 22, 23, 24] (by decide +kernel) (by decide +kernel)) (goodIn_sub (fun _ h => List.mem_cons_of_mem _ (List.mem_append_right _ h)) (by decide +kernel))
set_option maxRecDepth 20000 in
theorem gL_turnShutter_X1_turnShutter : GoodIn wsL_turnShutter (wsV RL 30 RX1 yX1_turnShutter wsX1_turnShutter) := goodIn_app (goodIn_of _ (by decide +kernel)) ggL_turnShutter_X1_turnShutter
theorem dL_turnShutter_0 : decode cL_turnShutter 0 = .ok (.aload_n 2, 1) := by decide +kernel
theorem dL_turnShutter_1 : decode cL_turnShutter 1 = .ok (.iconst 0, 1) := by decide +kernel
theorem dL_turnShutter_2 : decode cL_turnShutter 2 = .ok (.aload_n 0, 1) := by decide +kernel
theorem dL_turnShutter_3 : decode cL_turnShutter 3 = .ok (.iload_n 1, 1) := by decide +kernel
theorem dL_turnShutter_4 : decode cL_turnShutter 4 = .ok (.invokevirtual 30, 3) := by decide +kernel
theorem dL_turnShutter_7 : decode cL_turnShutter 7 = .ok (.ifCond .eq 7, 3) := by decide +kernel
theorem dL_turnShutter_10 : decode cL_turnShutter 10 = .ok (.lconst 1, 1) := by decide +kernel
theorem dL_turnShutter_11 : decode cL_turnShutter 11 = .ok (.goto 4, 3) := by decide +kernel
theorem dL_turnShutter_14 : decode cL_turnShutter 14 = .ok (.lconst 0, 1) := by decide +kernel
theorem dL_turnShutter_15 : decode cL_turnShutter 15 = .ok (.lastore, 1) := by decide +kernel
theorem dL_turnShutter_16 : decode cL_turnShutter 16 = .ok (.goto 6, 3) := by decide +kernel
theorem dL_turnShutter_19 : decode cL_turnShutter 19 = .ok (.astore_n 3, 1) := by decide +kernel
theorem dL_turnShutter_20 : decode cL_turnShutter 20 = .ok (.iconst 1, 1) := by decide +kernel
theorem dL_turnShutter_21 : decode cL_turnShutter 21 = .ok (.ireturn, 1) := by decide +kernel
theorem dL_turnShutter_22 : decode cL_turnShutter 22 = .ok (.iconst 0, 1) := by decide +kernel
theorem dL_turnShutter_23 : decode cL_turnShutter 23 = .ok (.ireturn, 1) := by decide +kernel
set_option maxRecDepth 20000 in
theorem ggL_pass_X1_pass : GoodIn wsL_pass wsX1_pass := goodIn_ca (goodIn_r _ [6, 7, 8, 9, 10, 5, 11, 12, 13, 14, 15, 16, 17, 18, 19, 20, 21, 22, 23, 24, 25, 26, 27, 28, 29, 30, 31, 32, 33, 34, 35, 36, 37, 38, 39, 40, 41, 42, 43, 44] (by decide +kernel) (by decide +kernel)) (goodIn_sub (fun _ h => List.mem_cons_of_mem _ (List.mem_append_right _ h)) (by decide +kernel))
set_option maxRecDepth 20000 in
theorem gL_pass_X1_pass : GoodIn wsL_pass (wsV RL 34 RX1 yX1_pass wsX1_pass) := goodIn_app (goodIn_of _ (by decide +kernel)) ggL_pass_X1_pass
theorem dL_pass_0 : decode cL_pass 0 = .ok (.aload_n 2, 1) := by decide +kernel
theorem dL_pass_1 : decode cL_pass 1 = .ok (.iconst 0, 1) := by decide +kernel
theorem dL_pass_2 : decode cL_pass 2 = .ok (.aload_n 0, 1) := by decide +kernel
theorem dL_pass_3 : decode cL_pass 3 = .ok (.iload_n 1, 1) := by decide +kernel
theorem dL_pass_4 : decode cL_pass 4 = .ok (.invokevirtual 34, 3) := by decide +kernel
theorem dL_pass_7 : decode cL_pass 7 = .ok (.i2l, 1) := by decide +kernel
theorem dL_pass_8 : decode cL_pass 8 = .ok (.lastore, 1) := by decide +kernel
theorem dL_pass_9 : decode cL_pass 9 = .ok (.goto 6, 3) := by decide +kernel
theorem dL_pass_12 : decode cL_pass 12 = .ok (.astore_n 3, 1) := by decide +kernel
theorem dL_pass_13 : decode cL_pass 13 = .ok (.iconst 1, 1) := by decide +kernel
theorem dL_pass_14 : decode cL_pass 14 = .ok (.ireturn, 1) := by decide +kernel
theorem dL_pass_15 : decode cL_pass 15 = .ok (.iconst 0, 1) := by decide +kernel
theorem dL_pass_16 : decode cL_pass 16 = .ok (.ireturn, 1) := by decide +kernel
set_option maxRecDepth 20000 in
theorem ggL_beatsOf_X1_beatsOf : GoodIn wsL_beatsOf wsX1_beatsOf := goodIn_ca (goodIn_r _ [6, 7, 8, 9, 10, 5, 11, 12, 13, 14, 15, 16, 17, 18, 19, 20, 21, 22, 23, 24] (by decide +kernel) (by decide +kernel)) (goodIn_sub (fun _ h => List.mem_cons_of_mem _ (List.mem_append_right _ h)) (by decide +kernel))
set_option maxRecDepth 20000 in
theorem gL_beatsOf_X1_beatsOf : GoodIn wsL_beatsOf (wsV RL 38 RX1 yX1_beatsOf wsX1_beatsOf) := goodIn_app (goodIn_of _ (by decide +kernel)) ggL_beatsOf_X1_beatsOf
theorem dL_beatsOf_0 : decode cL_beatsOf 0 = .ok (.aload_n 2, 1) := by decide +kernel
theorem dL_beatsOf_1 : decode cL_beatsOf 1 = .ok (.iconst 0, 1) := by decide +kernel
theorem dL_beatsOf_2 : decode cL_beatsOf 2 = .ok (.aload_n 0, 1) := by decide +kernel
theorem dL_beatsOf_3 : decode cL_beatsOf 3 = .ok (.iload_n 1, 1) := by decide +kernel
theorem dL_beatsOf_4 : decode cL_beatsOf 4 = .ok (.invokevirtual 38, 3) := by decide +kernel
theorem dL_beatsOf_7 : decode cL_beatsOf 7 = .ok (.i2l, 1) := by decide +kernel
theorem dL_beatsOf_8 : decode cL_beatsOf 8 = .ok (.lastore, 1) := by decide +kernel
theorem dL_beatsOf_9 : decode cL_beatsOf 9 = .ok (.goto 6, 3) := by decide +kernel
theorem dL_beatsOf_12 : decode cL_beatsOf 12 = .ok (.astore_n 3, 1) := by decide +kernel
theorem dL_beatsOf_13 : decode cL_beatsOf 13 = .ok (.iconst 1, 1) := by decide +kernel
theorem dL_beatsOf_14 : decode cL_beatsOf 14 = .ok (.ireturn, 1) := by decide +kernel
theorem dL_beatsOf_15 : decode cL_beatsOf 15 = .ok (.iconst 0, 1) := by decide +kernel
theorem dL_beatsOf_16 : decode cL_beatsOf 16 = .ok (.ireturn, 1) := by decide +kernel
set_option maxRecDepth 20000 in
theorem ggL_numberOf_X1_numberOf : GoodIn wsL_numberOf wsX1_numberOf := goodIn_ca (goodIn_r _ [6, 7, 8, 9, 10, 5, 11, 12, 13, 14, 15, 16, 17, 18, 19, 20, 21, 22, 23, 24, 25, 26, 27, 28] (by decide +kernel) (by decide +kernel)) (goodIn_sub (fun _ h => List.mem_cons_of_mem _ (List.mem_append_right _ h)) (by decide +kernel))
set_option maxRecDepth 20000 in
theorem gL_numberOf_X1_numberOf : GoodIn wsL_numberOf (wsV RL 41 RX1 yX1_numberOf wsX1_numberOf) := goodIn_app (goodIn_of _ (by decide +kernel)) ggL_numberOf_X1_numberOf
theorem dL_numberOf_0 : decode cL_numberOf 0 = .ok (.aload_n 3, 1) := by decide +kernel
theorem dL_numberOf_1 : decode cL_numberOf 1 = .ok (.iconst 0, 1) := by decide +kernel
theorem dL_numberOf_2 : decode cL_numberOf 2 = .ok (.aload_n 0, 1) := by decide +kernel
theorem dL_numberOf_3 : decode cL_numberOf 3 = .ok (.iload_n 1, 1) := by decide +kernel
theorem dL_numberOf_4 : decode cL_numberOf 4 = .ok (.iload_n 2, 1) := by decide +kernel
theorem dL_numberOf_5 : decode cL_numberOf 5 = .ok (.invokevirtual 41, 3) := by decide +kernel
theorem dL_numberOf_8 : decode cL_numberOf 8 = .ok (.i2l, 1) := by decide +kernel
theorem dL_numberOf_9 : decode cL_numberOf 9 = .ok (.lastore, 1) := by decide +kernel
theorem dL_numberOf_10 : decode cL_numberOf 10 = .ok (.goto 7, 3) := by decide +kernel
theorem dL_numberOf_13 : decode cL_numberOf 13 = .ok (.astore 4, 2) := by decide +kernel
theorem dL_numberOf_15 : decode cL_numberOf 15 = .ok (.iconst 1, 1) := by decide +kernel
theorem dL_numberOf_16 : decode cL_numberOf 16 = .ok (.ireturn, 1) := by decide +kernel
theorem dL_numberOf_17 : decode cL_numberOf 17 = .ok (.iconst 0, 1) := by decide +kernel
theorem dL_numberOf_18 : decode cL_numberOf 18 = .ok (.ireturn, 1) := by decide +kernel
set_option maxRecDepth 20000 in
theorem ggL_offsetOf_X1_offsetOf : GoodIn wsL_offsetOf wsX1_offsetOf := goodIn_ca (goodIn_r _ [6, 7, 8, 9, 10, 5, 11, 12, 13, 14, 15, 16, 17, 18, 19, 20, 21, 22, 23, 24, 25, 26, 27, 28] (by decide +kernel) (by decide +kernel)) (goodIn_sub (fun _ h => List.mem_cons_of_mem _ (List.mem_append_right _ h)) (by decide +kernel))
set_option maxRecDepth 20000 in
theorem gL_offsetOf_X1_offsetOf : GoodIn wsL_offsetOf (wsV RL 44 RX1 yX1_offsetOf wsX1_offsetOf) := goodIn_app (goodIn_of _ (by decide +kernel)) ggL_offsetOf_X1_offsetOf
theorem dL_offsetOf_0 : decode cL_offsetOf 0 = .ok (.aload_n 3, 1) := by decide +kernel
theorem dL_offsetOf_1 : decode cL_offsetOf 1 = .ok (.iconst 0, 1) := by decide +kernel
theorem dL_offsetOf_2 : decode cL_offsetOf 2 = .ok (.aload_n 0, 1) := by decide +kernel
theorem dL_offsetOf_3 : decode cL_offsetOf 3 = .ok (.iload_n 1, 1) := by decide +kernel
theorem dL_offsetOf_4 : decode cL_offsetOf 4 = .ok (.iload_n 2, 1) := by decide +kernel
theorem dL_offsetOf_5 : decode cL_offsetOf 5 = .ok (.invokevirtual 44, 3) := by decide +kernel
theorem dL_offsetOf_8 : decode cL_offsetOf 8 = .ok (.i2l, 1) := by decide +kernel
theorem dL_offsetOf_9 : decode cL_offsetOf 9 = .ok (.lastore, 1) := by decide +kernel
theorem dL_offsetOf_10 : decode cL_offsetOf 10 = .ok (.goto 7, 3) := by decide +kernel
theorem dL_offsetOf_13 : decode cL_offsetOf 13 = .ok (.astore 4, 2) := by decide +kernel
theorem dL_offsetOf_15 : decode cL_offsetOf 15 = .ok (.iconst 1, 1) := by decide +kernel
theorem dL_offsetOf_16 : decode cL_offsetOf 16 = .ok (.ireturn, 1) := by decide +kernel
theorem dL_offsetOf_17 : decode cL_offsetOf 17 = .ok (.iconst 0, 1) := by decide +kernel
theorem dL_offsetOf_18 : decode cL_offsetOf 18 = .ok (.ireturn, 1) := by decide +kernel
set_option maxRecDepth 20000 in
theorem ggL_isCovered_X1_isCovered : GoodIn wsL_isCovered wsX1_isCovered := goodIn_ca (goodIn_r _ [6, 7, 8, 9, 10, 5, 11, 12, 13, 14, 15, 16, 17, 18, 19, 20, 21, 22, 23, 24] (by decide +kernel) (by decide +kernel)) (goodIn_sub (fun _ h => List.mem_cons_of_mem _ (List.mem_append_right _ h)) (by decide +kernel))
set_option maxRecDepth 20000 in
theorem gL_isCovered_X1_isCovered : GoodIn wsL_isCovered (wsV RL 47 RX1 yX1_isCovered wsX1_isCovered) := goodIn_app (goodIn_of _ (by decide +kernel)) ggL_isCovered_X1_isCovered
theorem dL_isCovered_0 : decode cL_isCovered 0 = .ok (.aload_n 2, 1) := by decide +kernel
theorem dL_isCovered_1 : decode cL_isCovered 1 = .ok (.iconst 0, 1) := by decide +kernel
theorem dL_isCovered_2 : decode cL_isCovered 2 = .ok (.aload_n 0, 1) := by decide +kernel
theorem dL_isCovered_3 : decode cL_isCovered 3 = .ok (.iload_n 1, 1) := by decide +kernel
theorem dL_isCovered_4 : decode cL_isCovered 4 = .ok (.invokevirtual 47, 3) := by decide +kernel
theorem dL_isCovered_7 : decode cL_isCovered 7 = .ok (.ifCond .eq 7, 3) := by decide +kernel
theorem dL_isCovered_10 : decode cL_isCovered 10 = .ok (.lconst 1, 1) := by decide +kernel
theorem dL_isCovered_11 : decode cL_isCovered 11 = .ok (.goto 4, 3) := by decide +kernel
theorem dL_isCovered_14 : decode cL_isCovered 14 = .ok (.lconst 0, 1) := by decide +kernel
theorem dL_isCovered_15 : decode cL_isCovered 15 = .ok (.lastore, 1) := by decide +kernel
theorem dL_isCovered_16 : decode cL_isCovered 16 = .ok (.goto 6, 3) := by decide +kernel
theorem dL_isCovered_19 : decode cL_isCovered 19 = .ok (.astore_n 3, 1) := by decide +kernel
theorem dL_isCovered_20 : decode cL_isCovered 20 = .ok (.iconst 1, 1) := by decide +kernel
theorem dL_isCovered_21 : decode cL_isCovered 21 = .ok (.ireturn, 1) := by decide +kernel
theorem dL_isCovered_22 : decode cL_isCovered 22 = .ok (.iconst 0, 1) := by decide +kernel
theorem dL_isCovered_23 : decode cL_isCovered 23 = .ok (.ireturn, 1) := by decide +kernel
set_option maxRecDepth 20000 in
theorem ggL_isOn_X1_isOn : GoodIn wsL_isOn wsX1_isOn := goodIn_ca (goodIn_r _ [6, 7, 8, 9, 10, 11, 5, 12, 13, 14, 15, 16, 17, 18, 19, 20, 21, 22, 23, 24, 25, 26, 27, 28, 29, 30, 31, 32, 33, 34, 35, 36, 37, 38, 39, 40] (by decide +kernel) (by decide +kernel)) (goodIn_sub (fun _ h => List.mem_cons_of_mem _ (List.mem_append_right _ h)) (by decide +kernel))
set_option maxRecDepth 20000 in
theorem gL_isOn_X1_isOn : GoodIn wsL_isOn (wsV RL 50 RX1 yX1_isOn wsX1_isOn) := goodIn_app (goodIn_of _ (by decide +kernel)) ggL_isOn_X1_isOn
theorem dL_isOn_0 : decode cL_isOn 0 = .ok (.aload_n 2, 1) := by decide +kernel
theorem dL_isOn_1 : decode cL_isOn 1 = .ok (.iconst 0, 1) := by decide +kernel
theorem dL_isOn_2 : decode cL_isOn 2 = .ok (.aload_n 0, 1) := by decide +kernel
theorem dL_isOn_3 : decode cL_isOn 3 = .ok (.iload_n 1, 1) := by decide +kernel
theorem dL_isOn_4 : decode cL_isOn 4 = .ok (.invokevirtual 50, 3) := by decide +kernel
theorem dL_isOn_7 : decode cL_isOn 7 = .ok (.ifCond .eq 7, 3) := by decide +kernel
theorem dL_isOn_10 : decode cL_isOn 10 = .ok (.lconst 1, 1) := by decide +kernel
theorem dL_isOn_11 : decode cL_isOn 11 = .ok (.goto 4, 3) := by decide +kernel
theorem dL_isOn_14 : decode cL_isOn 14 = .ok (.lconst 0, 1) := by decide +kernel
theorem dL_isOn_15 : decode cL_isOn 15 = .ok (.lastore, 1) := by decide +kernel
theorem dL_isOn_16 : decode cL_isOn 16 = .ok (.goto 6, 3) := by decide +kernel
theorem dL_isOn_19 : decode cL_isOn 19 = .ok (.astore_n 3, 1) := by decide +kernel
theorem dL_isOn_20 : decode cL_isOn 20 = .ok (.iconst 1, 1) := by decide +kernel
theorem dL_isOn_21 : decode cL_isOn 21 = .ok (.ireturn, 1) := by decide +kernel
theorem dL_isOn_22 : decode cL_isOn 22 = .ok (.iconst 0, 1) := by decide +kernel
theorem dL_isOn_23 : decode cL_isOn 23 = .ok (.ireturn, 1) := by decide +kernel
set_option maxRecDepth 20000 in
theorem ggL_isLit_X1_isLit : GoodIn wsL_isLit wsX1_isLit := goodIn_ca (goodIn_r _ [6, 7, 8, 9, 10, 11, 5, 12, 13, 14, 15, 16, 17, 18, 19, 20, 21, 22, 23, 24, 25, 26, 27, 28, 29, 30, 31, 32, 33, 34, 35, 36, 37, 38, 39, 40, 41, 42, 43, 44, 45] (by decide +kernel) (by decide +kernel)) (goodIn_sub (fun _ h => List.mem_cons_of_mem _ (List.mem_append_right _ h)) (by decide +kernel))
set_option maxRecDepth 20000 in
theorem gL_isLit_X1_isLit : GoodIn wsL_isLit (wsV RL 53 RX1 yX1_isLit wsX1_isLit) := goodIn_app (goodIn_of _ (by decide +kernel)) ggL_isLit_X1_isLit
theorem dL_isLit_0 : decode cL_isLit 0 = .ok (.aload_n 2, 1) := by decide +kernel
theorem dL_isLit_1 : decode cL_isLit 1 = .ok (.iconst 0, 1) := by decide +kernel
theorem dL_isLit_2 : decode cL_isLit 2 = .ok (.aload_n 0, 1) := by decide +kernel
theorem dL_isLit_3 : decode cL_isLit 3 = .ok (.iload_n 1, 1) := by decide +kernel
theorem dL_isLit_4 : decode cL_isLit 4 = .ok (.invokevirtual 53, 3) := by decide +kernel
theorem dL_isLit_7 : decode cL_isLit 7 = .ok (.ifCond .eq 7, 3) := by decide +kernel
theorem dL_isLit_10 : decode cL_isLit 10 = .ok (.lconst 1, 1) := by decide +kernel
theorem dL_isLit_11 : decode cL_isLit 11 = .ok (.goto 4, 3) := by decide +kernel
theorem dL_isLit_14 : decode cL_isLit 14 = .ok (.lconst 0, 1) := by decide +kernel
theorem dL_isLit_15 : decode cL_isLit 15 = .ok (.lastore, 1) := by decide +kernel
theorem dL_isLit_16 : decode cL_isLit 16 = .ok (.goto 6, 3) := by decide +kernel
theorem dL_isLit_19 : decode cL_isLit 19 = .ok (.astore_n 3, 1) := by decide +kernel
theorem dL_isLit_20 : decode cL_isLit 20 = .ok (.iconst 1, 1) := by decide +kernel
theorem dL_isLit_21 : decode cL_isLit 21 = .ok (.ireturn, 1) := by decide +kernel
theorem dL_isLit_22 : decode cL_isLit 22 = .ok (.iconst 0, 1) := by decide +kernel
theorem dL_isLit_23 : decode cL_isLit 23 = .ok (.ireturn, 1) := by decide +kernel
set_option maxRecDepth 20000 in
theorem ggL_isOnAt_X1_isOnAt : GoodIn wsL_isOnAt wsX1_isOnAt := goodIn_ca (goodIn_ca (goodIn_r _ [7, 8, 9, 10, 11, 6, 12, 13, 14, 15, 16, 17, 18, 19, 20, 21, 22, 23, 24, 25, 26, 27, 28, 29, 30, 31, 32, 33, 34, 35, 36, 37, 38, 39, 40, 41, 42, 43, 44, 45, 46] (by decide +kernel) (by decide +kernel)) (goodIn_sub (fun _ h => List.mem_cons_of_mem _ (List.mem_append_left _ (List.mem_append_right _ h))) (by decide +kernel))) (goodIn_sub (fun _ h => List.mem_cons_of_mem _ (List.mem_append_right _ h)) (by decide +kernel))
set_option maxRecDepth 20000 in
theorem gL_isOnAt_X1_isOnAt : GoodIn wsL_isOnAt (wsV RL 56 RX1 yX1_isOnAt wsX1_isOnAt) := goodIn_app (goodIn_of _ (by decide +kernel)) ggL_isOnAt_X1_isOnAt
theorem dL_isOnAt_0 : decode cL_isOnAt 0 = .ok (.aload_n 3, 1) := by decide +kernel
theorem dL_isOnAt_1 : decode cL_isOnAt 1 = .ok (.iconst 0, 1) := by decide +kernel
theorem dL_isOnAt_2 : decode cL_isOnAt 2 = .ok (.aload_n 0, 1) := by decide +kernel
theorem dL_isOnAt_3 : decode cL_isOnAt 3 = .ok (.iload_n 1, 1) := by decide +kernel
theorem dL_isOnAt_4 : decode cL_isOnAt 4 = .ok (.iload_n 2, 1) := by decide +kernel
theorem dL_isOnAt_5 : decode cL_isOnAt 5 = .ok (.invokevirtual 56, 3) := by decide +kernel
theorem dL_isOnAt_8 : decode cL_isOnAt 8 = .ok (.ifCond .eq 7, 3) := by decide +kernel
theorem dL_isOnAt_11 : decode cL_isOnAt 11 = .ok (.lconst 1, 1) := by decide +kernel
theorem dL_isOnAt_12 : decode cL_isOnAt 12 = .ok (.goto 4, 3) := by decide +kernel
theorem dL_isOnAt_15 : decode cL_isOnAt 15 = .ok (.lconst 0, 1) := by decide +kernel
theorem dL_isOnAt_16 : decode cL_isOnAt 16 = .ok (.lastore, 1) := by decide +kernel
theorem dL_isOnAt_17 : decode cL_isOnAt 17 = .ok (.goto 11, 3) := by decide +kernel
theorem dL_isOnAt_20 : decode cL_isOnAt 20 = .ok (.astore 4, 2) := by decide +kernel
theorem dL_isOnAt_22 : decode cL_isOnAt 22 = .ok (.iconst 1, 1) := by decide +kernel
theorem dL_isOnAt_23 : decode cL_isOnAt 23 = .ok (.ireturn, 1) := by decide +kernel
theorem dL_isOnAt_24 : decode cL_isOnAt 24 = .ok (.astore 4, 2) := by decide +kernel
theorem dL_isOnAt_26 : decode cL_isOnAt 26 = .ok (.iconst 2, 1) := by decide +kernel
theorem dL_isOnAt_27 : decode cL_isOnAt 27 = .ok (.ireturn, 1) := by decide +kernel
theorem dL_isOnAt_28 : decode cL_isOnAt 28 = .ok (.iconst 0, 1) := by decide +kernel
theorem dL_isOnAt_29 : decode cL_isOnAt 29 = .ok (.ireturn, 1) := by decide +kernel
set_option maxRecDepth 20000 in
theorem ggL_strikesAt_X1_strikesAt : GoodIn wsL_strikesAt wsX1_strikesAt := goodIn_ca (goodIn_ca (goodIn_r _ [7, 8, 9, 10, 11, 6, 12, 13, 14, 15, 16, 17, 18, 19, 20, 21, 22, 23, 24, 25, 26, 27, 28, 29, 30, 31, 32, 33, 34, 35, 36, 37, 38, 39] (by decide +kernel) (by decide +kernel)) (goodIn_sub (fun _ h => List.mem_cons_of_mem _ (List.mem_append_left _ (List.mem_append_right _ h))) (by decide +kernel))) (goodIn_sub (fun _ h => List.mem_cons_of_mem _ (List.mem_append_right _ h)) (by decide +kernel))
set_option maxRecDepth 20000 in
theorem gL_strikesAt_X1_strikesAt : GoodIn wsL_strikesAt (wsV RL 60 RX1 yX1_strikesAt wsX1_strikesAt) := goodIn_app (goodIn_of _ (by decide +kernel)) ggL_strikesAt_X1_strikesAt
theorem dL_strikesAt_0 : decode cL_strikesAt 0 = .ok (.aload_n 3, 1) := by decide +kernel
theorem dL_strikesAt_1 : decode cL_strikesAt 1 = .ok (.iconst 0, 1) := by decide +kernel
theorem dL_strikesAt_2 : decode cL_strikesAt 2 = .ok (.aload_n 0, 1) := by decide +kernel
theorem dL_strikesAt_3 : decode cL_strikesAt 3 = .ok (.iload_n 1, 1) := by decide +kernel
theorem dL_strikesAt_4 : decode cL_strikesAt 4 = .ok (.iload_n 2, 1) := by decide +kernel
theorem dL_strikesAt_5 : decode cL_strikesAt 5 = .ok (.invokevirtual 60, 3) := by decide +kernel
theorem dL_strikesAt_8 : decode cL_strikesAt 8 = .ok (.i2l, 1) := by decide +kernel
theorem dL_strikesAt_9 : decode cL_strikesAt 9 = .ok (.lastore, 1) := by decide +kernel
theorem dL_strikesAt_10 : decode cL_strikesAt 10 = .ok (.goto 11, 3) := by decide +kernel
theorem dL_strikesAt_13 : decode cL_strikesAt 13 = .ok (.astore 4, 2) := by decide +kernel
theorem dL_strikesAt_15 : decode cL_strikesAt 15 = .ok (.iconst 1, 1) := by decide +kernel
theorem dL_strikesAt_16 : decode cL_strikesAt 16 = .ok (.ireturn, 1) := by decide +kernel
theorem dL_strikesAt_17 : decode cL_strikesAt 17 = .ok (.astore 4, 2) := by decide +kernel
theorem dL_strikesAt_19 : decode cL_strikesAt 19 = .ok (.iconst 2, 1) := by decide +kernel
theorem dL_strikesAt_20 : decode cL_strikesAt 20 = .ok (.ireturn, 1) := by decide +kernel
theorem dL_strikesAt_21 : decode cL_strikesAt 21 = .ok (.iconst 0, 1) := by decide +kernel
theorem dL_strikesAt_22 : decode cL_strikesAt 22 = .ok (.ireturn, 1) := by decide +kernel
set_option maxRecDepth 20000 in
theorem ggL_isSteady_X1_isSteady : GoodIn wsL_isSteady wsX1_isSteady := goodIn_ca (goodIn_r _ [6, 7, 8, 9, 10, 5, 11, 12, 13, 14, 15, 16, 17, 18, 19, 20, 21, 22, 23, 24, 25, 26, 27, 28, 29, 30, 31, 32, 33, 34, 35, 36, 37, 38, 39, 40, 41, 42, 43, 44, 45, 46, 47, 48, 49, 50, 51, 52, 53, 54, 55] (by decide +kernel) (by decide +kernel)) (goodIn_sub (fun _ h => List.mem_cons_of_mem _ (List.mem_append_right _ h)) (by decide +kernel))
set_option maxRecDepth 20000 in
theorem gL_isSteady_X1_isSteady : GoodIn wsL_isSteady (wsV RL 63 RX1 yX1_isSteady wsX1_isSteady) := goodIn_app (goodIn_of _ (by decide +kernel)) ggL_isSteady_X1_isSteady
theorem dL_isSteady_0 : decode cL_isSteady 0 = .ok (.aload_n 2, 1) := by decide +kernel
theorem dL_isSteady_1 : decode cL_isSteady 1 = .ok (.iconst 0, 1) := by decide +kernel
theorem dL_isSteady_2 : decode cL_isSteady 2 = .ok (.aload_n 0, 1) := by decide +kernel
theorem dL_isSteady_3 : decode cL_isSteady 3 = .ok (.iload_n 1, 1) := by decide +kernel
theorem dL_isSteady_4 : decode cL_isSteady 4 = .ok (.invokevirtual 63, 3) := by decide +kernel
theorem dL_isSteady_7 : decode cL_isSteady 7 = .ok (.ifCond .eq 7, 3) := by decide +kernel
theorem dL_isSteady_10 : decode cL_isSteady 10 = .ok (.lconst 1, 1) := by decide +kernel
theorem dL_isSteady_11 : decode cL_isSteady 11 = .ok (.goto 4, 3) := by decide +kernel
theorem dL_isSteady_14 : decode cL_isSteady 14 = .ok (.lconst 0, 1) := by decide +kernel
theorem dL_isSteady_15 : decode cL_isSteady 15 = .ok (.lastore, 1) := by decide +kernel
theorem dL_isSteady_16 : decode cL_isSteady 16 = .ok (.goto 6, 3) := by decide +kernel
theorem dL_isSteady_19 : decode cL_isSteady 19 = .ok (.astore_n 3, 1) := by decide +kernel
theorem dL_isSteady_20 : decode cL_isSteady 20 = .ok (.iconst 1, 1) := by decide +kernel
theorem dL_isSteady_21 : decode cL_isSteady 21 = .ok (.ireturn, 1) := by decide +kernel
theorem dL_isSteady_22 : decode cL_isSteady 22 = .ok (.iconst 0, 1) := by decide +kernel
theorem dL_isSteady_23 : decode cL_isSteady 23 = .ok (.ireturn, 1) := by decide +kernel
set_option maxRecDepth 20000 in
theorem ggL_cycleOf_X1_cycleOf : GoodIn wsL_cycleOf wsX1_cycleOf := goodIn_ca (goodIn_r _ [6, 7, 8, 9, 10, 5, 11, 12, 13, 14, 15, 16, 17, 18, 19, 20, 21, 22, 23, 24, 25, 26, 27, 28, 29, 30, 31, 32, 33, 34, 35, 36, 37, 38, 39, 40, 41, 42, 43, 44, 45, 46, 47, 48, 49, 50, 51] (by decide +kernel) (by decide +kernel)) (goodIn_sub (fun _ h => List.mem_cons_of_mem _ (List.mem_append_right _ h)) (by decide +kernel))
set_option maxRecDepth 20000 in
theorem gL_cycleOf_X1_cycleOf : GoodIn wsL_cycleOf (wsV RL 66 RX1 yX1_cycleOf wsX1_cycleOf) := goodIn_app (goodIn_of _ (by decide +kernel)) ggL_cycleOf_X1_cycleOf
theorem dL_cycleOf_0 : decode cL_cycleOf 0 = .ok (.aload_n 2, 1) := by decide +kernel
theorem dL_cycleOf_1 : decode cL_cycleOf 1 = .ok (.iconst 0, 1) := by decide +kernel
theorem dL_cycleOf_2 : decode cL_cycleOf 2 = .ok (.aload_n 0, 1) := by decide +kernel
theorem dL_cycleOf_3 : decode cL_cycleOf 3 = .ok (.iload_n 1, 1) := by decide +kernel
theorem dL_cycleOf_4 : decode cL_cycleOf 4 = .ok (.invokevirtual 66, 3) := by decide +kernel
theorem dL_cycleOf_7 : decode cL_cycleOf 7 = .ok (.i2l, 1) := by decide +kernel
theorem dL_cycleOf_8 : decode cL_cycleOf 8 = .ok (.lastore, 1) := by decide +kernel
theorem dL_cycleOf_9 : decode cL_cycleOf 9 = .ok (.goto 6, 3) := by decide +kernel
theorem dL_cycleOf_12 : decode cL_cycleOf 12 = .ok (.astore_n 3, 1) := by decide +kernel
theorem dL_cycleOf_13 : decode cL_cycleOf 13 = .ok (.iconst 1, 1) := by decide +kernel
theorem dL_cycleOf_14 : decode cL_cycleOf 14 = .ok (.ireturn, 1) := by decide +kernel
theorem dL_cycleOf_15 : decode cL_cycleOf 15 = .ok (.iconst 0, 1) := by decide +kernel
theorem dL_cycleOf_16 : decode cL_cycleOf 16 = .ok (.ireturn, 1) := by decide +kernel
set_option maxRecDepth 20000 in
theorem ggL_momentsUntilChange_X1_momentsUntilChange : GoodIn wsL_momentsUntilChange wsX1_momentsUntilChange := goodIn_ca (goodIn_r _ [6, 7, 8, 9, 10, 11, 5, 12, 13, 14, 15, 16, 17, 18, 19, 20, 21, 22, 23, 24, 25, 26, 27, 28, 29, 30, 31, 32, 33, 34, 35, 36, 37, 38, 39, 40, 41, 42, 43, 44, 45, 46, 47, 48, 49, 50, 51, 52] (by decide +kernel) (by decide +kernel)) (goodIn_sub (fun _ h => List.mem_cons_of_mem _ (List.mem_append_right _ h)) (by decide +kernel))
set_option maxRecDepth 20000 in
theorem gL_momentsUntilChange_X1_momentsUntilChange : GoodIn wsL_momentsUntilChange (wsV RL 69 RX1 yX1_momentsUntilChange wsX1_momentsUntilChange) := goodIn_app (goodIn_of _ (by decide +kernel)) ggL_momentsUntilChange_X1_momentsUntilChange
theorem dL_momentsUntilChange_0 : decode cL_momentsUntilChange 0 = .ok (.aload_n 2, 1) := by decide +kernel
theorem dL_momentsUntilChange_1 : decode cL_momentsUntilChange 1 = .ok (.iconst 0, 1) := by decide +kernel
theorem dL_momentsUntilChange_2 : decode cL_momentsUntilChange 2 = .ok (.aload_n 0, 1) := by decide +kernel
theorem dL_momentsUntilChange_3 : decode cL_momentsUntilChange 3 = .ok (.iload_n 1, 1) := by decide +kernel
theorem dL_momentsUntilChange_4 : decode cL_momentsUntilChange 4 = .ok (.invokevirtual 69, 3) := by decide +kernel
theorem dL_momentsUntilChange_7 : decode cL_momentsUntilChange 7 = .ok (.i2l, 1) := by decide +kernel
theorem dL_momentsUntilChange_8 : decode cL_momentsUntilChange 8 = .ok (.lastore, 1) := by decide +kernel
theorem dL_momentsUntilChange_9 : decode cL_momentsUntilChange 9 = .ok (.goto 6, 3) := by decide +kernel
theorem dL_momentsUntilChange_12 : decode cL_momentsUntilChange 12 = .ok (.astore_n 3, 1) := by decide +kernel
theorem dL_momentsUntilChange_13 : decode cL_momentsUntilChange 13 = .ok (.iconst 1, 1) := by decide +kernel
theorem dL_momentsUntilChange_14 : decode cL_momentsUntilChange 14 = .ok (.ireturn, 1) := by decide +kernel
theorem dL_momentsUntilChange_15 : decode cL_momentsUntilChange 15 = .ok (.iconst 0, 1) := by decide +kernel
theorem dL_momentsUntilChange_16 : decode cL_momentsUntilChange 16 = .ok (.ireturn, 1) := by decide +kernel
set_option maxRecDepth 20000 in
theorem ggL_shows_X1_shows : GoodIn wsL_shows wsX1_shows := goodIn_ca (goodIn_ca (goodIn_r _ [7, 8, 9, 10, 11, 12, 6, 13, 14, 15, 16, 17, 18, 19, 20, 21, 22, 23, 24, 25, 26, 27, 28, 29, 30, 31, 32, 33, 34, 35, 36, 37, 38, 39, 40, 41, 42, 43, 44, 45, 46] (by decide +kernel) (by decide +kernel)) (goodIn_sub (fun _ h => List.mem_cons_of_mem _ (List.mem_append_left _ (List.mem_append_right _ h))) (by decide +kernel))) (goodIn_sub (fun _ h => List.mem_cons_of_mem _ (List.mem_append_right _ h)) (by decide +kernel))
set_option maxRecDepth 20000 in
theorem gL_shows_X1_shows : GoodIn wsL_shows (wsV RL 72 RX1 yX1_shows wsX1_shows) := goodIn_app (goodIn_of _ (by decide +kernel)) ggL_shows_X1_shows
theorem dL_shows_0 : decode cL_shows 0 = .ok (.aload_n 3, 1) := by decide +kernel
theorem dL_shows_1 : decode cL_shows 1 = .ok (.iconst 0, 1) := by decide +kernel
theorem dL_shows_2 : decode cL_shows 2 = .ok (.aload_n 0, 1) := by decide +kernel
theorem dL_shows_3 : decode cL_shows 3 = .ok (.iload_n 1, 1) := by decide +kernel
theorem dL_shows_4 : decode cL_shows 4 = .ok (.iload_n 2, 1) := by decide +kernel
theorem dL_shows_5 : decode cL_shows 5 = .ok (.invokevirtual 72, 3) := by decide +kernel
theorem dL_shows_8 : decode cL_shows 8 = .ok (.i2l, 1) := by decide +kernel
theorem dL_shows_9 : decode cL_shows 9 = .ok (.lastore, 1) := by decide +kernel
theorem dL_shows_10 : decode cL_shows 10 = .ok (.goto 11, 3) := by decide +kernel
theorem dL_shows_13 : decode cL_shows 13 = .ok (.astore 4, 2) := by decide +kernel
theorem dL_shows_15 : decode cL_shows 15 = .ok (.iconst 1, 1) := by decide +kernel
theorem dL_shows_16 : decode cL_shows 16 = .ok (.ireturn, 1) := by decide +kernel
theorem dL_shows_17 : decode cL_shows 17 = .ok (.astore 4, 2) := by decide +kernel
theorem dL_shows_19 : decode cL_shows 19 = .ok (.iconst 2, 1) := by decide +kernel
theorem dL_shows_20 : decode cL_shows 20 = .ok (.ireturn, 1) := by decide +kernel
theorem dL_shows_21 : decode cL_shows 21 = .ok (.iconst 0, 1) := by decide +kernel
theorem dL_shows_22 : decode cL_shows 22 = .ok (.ireturn, 1) := by decide +kernel
set_option maxRecDepth 20000 in
theorem ggL_momentsUntilCollision_X1_momentsUntilCollision : GoodIn wsL_momentsUntilCollision wsX1_momentsUntilCollision := goodIn_ca (goodIn_ca (goodIn_r _ [7, 8, 9, 10, 11, 6, 12, 13, 14, 15, 16, 17, 18, 19, 20, 21, 22, 23, 24, 25, 26, 27, 28, 29, 30, 31, 32, 33, 34, 35, 36, 37, 38, 39, 40, 41, 42, 43, 44, 45, 46, 47, 48, 49, 50, 51] (by decide +kernel) (by decide +kernel)) (goodIn_sub (fun _ h => List.mem_cons_of_mem _ (List.mem_append_left _ (List.mem_append_right _ h))) (by decide +kernel))) (goodIn_sub (fun _ h => List.mem_cons_of_mem _ (List.mem_append_right _ h)) (by decide +kernel))
set_option maxRecDepth 20000 in
theorem gL_momentsUntilCollision_X1_momentsUntilCollision : GoodIn wsL_momentsUntilCollision (wsV RL 75 RX1 yX1_momentsUntilCollision wsX1_momentsUntilCollision) := goodIn_app (goodIn_of _ (by decide +kernel)) ggL_momentsUntilCollision_X1_momentsUntilCollision
theorem dL_momentsUntilCollision_0 : decode cL_momentsUntilCollision 0 = .ok (.aload_n 3, 1) := by decide +kernel
theorem dL_momentsUntilCollision_1 : decode cL_momentsUntilCollision 1 = .ok (.iconst 0, 1) := by decide +kernel
theorem dL_momentsUntilCollision_2 : decode cL_momentsUntilCollision 2 = .ok (.aload_n 0, 1) := by decide +kernel
theorem dL_momentsUntilCollision_3 : decode cL_momentsUntilCollision 3 = .ok (.iload_n 1, 1) := by decide +kernel
theorem dL_momentsUntilCollision_4 : decode cL_momentsUntilCollision 4 = .ok (.iload_n 2, 1) := by decide +kernel
theorem dL_momentsUntilCollision_5 : decode cL_momentsUntilCollision 5 = .ok (.invokevirtual 75, 3) := by decide +kernel
theorem dL_momentsUntilCollision_8 : decode cL_momentsUntilCollision 8 = .ok (.i2l, 1) := by decide +kernel
theorem dL_momentsUntilCollision_9 : decode cL_momentsUntilCollision 9 = .ok (.lastore, 1) := by decide +kernel
theorem dL_momentsUntilCollision_10 : decode cL_momentsUntilCollision 10 = .ok (.goto 11, 3) := by decide +kernel
theorem dL_momentsUntilCollision_13 : decode cL_momentsUntilCollision 13 = .ok (.astore 4, 2) := by decide +kernel
theorem dL_momentsUntilCollision_15 : decode cL_momentsUntilCollision 15 = .ok (.iconst 1, 1) := by decide +kernel
theorem dL_momentsUntilCollision_16 : decode cL_momentsUntilCollision 16 = .ok (.ireturn, 1) := by decide +kernel
theorem dL_momentsUntilCollision_17 : decode cL_momentsUntilCollision 17 = .ok (.astore 4, 2) := by decide +kernel
theorem dL_momentsUntilCollision_19 : decode cL_momentsUntilCollision 19 = .ok (.iconst 2, 1) := by decide +kernel
theorem dL_momentsUntilCollision_20 : decode cL_momentsUntilCollision 20 = .ok (.ireturn, 1) := by decide +kernel
theorem dL_momentsUntilCollision_21 : decode cL_momentsUntilCollision 21 = .ok (.iconst 0, 1) := by decide +kernel
theorem dL_momentsUntilCollision_22 : decode cL_momentsUntilCollision 22 = .ok (.ireturn, 1) := by decide +kernel
set_option maxRecDepth 20000 in
theorem ggL_collisionsWithin_X1_collisionsWithin : GoodIn wsL_collisionsWithin wsX1_collisionsWithin := goodIn_ca (goodIn_ca (goodIn_r _ [7, 8, 9, 10, 11, 6, 12, 13, 14, 15, 16, 17, 18, 19, 20, 21, 22, 23, 24, 25, 26, 27, 28, 29, 30, 31, 32, 33, 34, 35, 36, 37, 38, 39, 40, 41, 42, 43, 44, 45, 46, 47, 48, 49, 50, 51, 52, 53, 54] (by decide +kernel) (by decide +kernel)) (goodIn_sub (fun _ h => List.mem_cons_of_mem _ (List.mem_append_left _ (List.mem_append_right _ h))) (by decide +kernel))) (goodIn_sub (fun _ h => List.mem_cons_of_mem _ (List.mem_append_right _ h)) (by decide +kernel))
set_option maxRecDepth 20000 in
theorem gL_collisionsWithin_X1_collisionsWithin : GoodIn wsL_collisionsWithin (wsV RL 78 RX1 yX1_collisionsWithin wsX1_collisionsWithin) := goodIn_app (goodIn_of _ (by decide +kernel)) ggL_collisionsWithin_X1_collisionsWithin
theorem dL_collisionsWithin_0 : decode cL_collisionsWithin 0 = .ok (.aload 4, 2) := by decide +kernel
theorem dL_collisionsWithin_2 : decode cL_collisionsWithin 2 = .ok (.iconst 0, 1) := by decide +kernel
theorem dL_collisionsWithin_3 : decode cL_collisionsWithin 3 = .ok (.aload_n 0, 1) := by decide +kernel
theorem dL_collisionsWithin_4 : decode cL_collisionsWithin 4 = .ok (.iload_n 1, 1) := by decide +kernel
theorem dL_collisionsWithin_5 : decode cL_collisionsWithin 5 = .ok (.iload_n 2, 1) := by decide +kernel
theorem dL_collisionsWithin_6 : decode cL_collisionsWithin 6 = .ok (.iload_n 3, 1) := by decide +kernel
theorem dL_collisionsWithin_7 : decode cL_collisionsWithin 7 = .ok (.invokevirtual 78, 3) := by decide +kernel
theorem dL_collisionsWithin_10 : decode cL_collisionsWithin 10 = .ok (.i2l, 1) := by decide +kernel
theorem dL_collisionsWithin_11 : decode cL_collisionsWithin 11 = .ok (.lastore, 1) := by decide +kernel
theorem dL_collisionsWithin_12 : decode cL_collisionsWithin 12 = .ok (.goto 11, 3) := by decide +kernel
theorem dL_collisionsWithin_15 : decode cL_collisionsWithin 15 = .ok (.astore 5, 2) := by decide +kernel
theorem dL_collisionsWithin_17 : decode cL_collisionsWithin 17 = .ok (.iconst 1, 1) := by decide +kernel
theorem dL_collisionsWithin_18 : decode cL_collisionsWithin 18 = .ok (.ireturn, 1) := by decide +kernel
theorem dL_collisionsWithin_19 : decode cL_collisionsWithin 19 = .ok (.astore 5, 2) := by decide +kernel
theorem dL_collisionsWithin_21 : decode cL_collisionsWithin 21 = .ok (.iconst 2, 1) := by decide +kernel
theorem dL_collisionsWithin_22 : decode cL_collisionsWithin 22 = .ok (.ireturn, 1) := by decide +kernel
theorem dL_collisionsWithin_23 : decode cL_collisionsWithin 23 = .ok (.iconst 0, 1) := by decide +kernel
theorem dL_collisionsWithin_24 : decode cL_collisionsWithin 24 = .ok (.ireturn, 1) := by decide +kernel
set_option maxRecDepth 20000 in
theorem ggL_momentsUntilToldApart_X1_momentsUntilToldApart : GoodIn wsL_momentsUntilToldApart wsX1_momentsUntilToldApart := goodIn_ca (goodIn_ca (goodIn_r _ [7, 8, 9, 10, 11, 12, 13, 6, 14, 15, 16, 17, 18, 19, 20, 21, 22, 23, 24, 25, 26, 27, 28, 29, 30, 31, 32, 33, 34, 35, 36, 37, 38, 39, 40, 41, 42, 43, 44, 45, 46, 47, 48, 49, 50, 51, 52, 53, 54, 55, 56, 57, 58, 59, 60, 61, 62, 63, 64, 65, 66, 67, 68, 69, 70, 71, 72, 73, 74, 75, 76, 77, 78, 79, 80] (by decide +kernel) (by decide +kernel)) (goodIn_sub (fun _ h => List.mem_cons_of_mem _ (List.mem_append_left _ (List.mem_append_right _ h))) (by decide +kernel))) (goodIn_sub (fun _ h => List.mem_cons_of_mem _ (List.mem_append_right _ h)) (by decide +kernel))
set_option maxRecDepth 20000 in
theorem gL_momentsUntilToldApart_X1_momentsUntilToldApart : GoodIn wsL_momentsUntilToldApart (wsV RL 81 RX1 yX1_momentsUntilToldApart wsX1_momentsUntilToldApart) := goodIn_app (goodIn_of _ (by decide +kernel)) ggL_momentsUntilToldApart_X1_momentsUntilToldApart
theorem dL_momentsUntilToldApart_0 : decode cL_momentsUntilToldApart 0 = .ok (.aload_n 3, 1) := by decide +kernel
theorem dL_momentsUntilToldApart_1 : decode cL_momentsUntilToldApart 1 = .ok (.iconst 0, 1) := by decide +kernel
theorem dL_momentsUntilToldApart_2 : decode cL_momentsUntilToldApart 2 = .ok (.aload_n 0, 1) := by decide +kernel
theorem dL_momentsUntilToldApart_3 : decode cL_momentsUntilToldApart 3 = .ok (.iload_n 1, 1) := by decide +kernel
theorem dL_momentsUntilToldApart_4 : decode cL_momentsUntilToldApart 4 = .ok (.iload_n 2, 1) := by decide +kernel
theorem dL_momentsUntilToldApart_5 : decode cL_momentsUntilToldApart 5 = .ok (.invokevirtual 81, 3) := by decide +kernel
theorem dL_momentsUntilToldApart_8 : decode cL_momentsUntilToldApart 8 = .ok (.i2l, 1) := by decide +kernel
theorem dL_momentsUntilToldApart_9 : decode cL_momentsUntilToldApart 9 = .ok (.lastore, 1) := by decide +kernel
theorem dL_momentsUntilToldApart_10 : decode cL_momentsUntilToldApart 10 = .ok (.goto 11, 3) := by decide +kernel
theorem dL_momentsUntilToldApart_13 : decode cL_momentsUntilToldApart 13 = .ok (.astore 4, 2) := by decide +kernel
theorem dL_momentsUntilToldApart_15 : decode cL_momentsUntilToldApart 15 = .ok (.iconst 1, 1) := by decide +kernel
theorem dL_momentsUntilToldApart_16 : decode cL_momentsUntilToldApart 16 = .ok (.ireturn, 1) := by decide +kernel
theorem dL_momentsUntilToldApart_17 : decode cL_momentsUntilToldApart 17 = .ok (.astore 4, 2) := by decide +kernel
theorem dL_momentsUntilToldApart_19 : decode cL_momentsUntilToldApart 19 = .ok (.iconst 2, 1) := by decide +kernel
theorem dL_momentsUntilToldApart_20 : decode cL_momentsUntilToldApart 20 = .ok (.ireturn, 1) := by decide +kernel
theorem dL_momentsUntilToldApart_21 : decode cL_momentsUntilToldApart 21 = .ok (.iconst 0, 1) := by decide +kernel
theorem dL_momentsUntilToldApart_22 : decode cL_momentsUntilToldApart 22 = .ok (.ireturn, 1) := by decide +kernel
set_option maxRecDepth 20000 in
theorem ggL_darkWithin_X1_darkWithin : GoodIn wsL_darkWithin wsX1_darkWithin := goodIn_ca (goodIn_r _ [6, 7, 8, 5, 9, 10, 11, 12, 13, 14, 15, 16, 17, 18, 19, 20, 21, 22, 23, 24, 25, 26, 27, 28, 29, 30, 31, 32, 33, 34, 35, 36, 37, 38, 39, 40, 41, 42, 43, 44, 45, 46, 47, 48, 49, 50, 51, 52] (by decide +kernel) (by decide +kernel)) (goodIn_sub (fun _ h => List.mem_cons_of_mem _ (List.mem_append_right _ h)) (by decide +kernel))
set_option maxRecDepth 20000 in
theorem gL_darkWithin_X1_darkWithin : GoodIn wsL_darkWithin (wsV RL 84 RX1 yX1_darkWithin wsX1_darkWithin) := goodIn_app (goodIn_of _ (by decide +kernel)) ggL_darkWithin_X1_darkWithin
theorem dL_darkWithin_0 : decode cL_darkWithin 0 = .ok (.aload_n 2, 1) := by decide +kernel
theorem dL_darkWithin_1 : decode cL_darkWithin 1 = .ok (.iconst 0, 1) := by decide +kernel
theorem dL_darkWithin_2 : decode cL_darkWithin 2 = .ok (.aload_n 0, 1) := by decide +kernel
theorem dL_darkWithin_3 : decode cL_darkWithin 3 = .ok (.iload_n 1, 1) := by decide +kernel
theorem dL_darkWithin_4 : decode cL_darkWithin 4 = .ok (.invokevirtual 84, 3) := by decide +kernel
theorem dL_darkWithin_7 : decode cL_darkWithin 7 = .ok (.i2l, 1) := by decide +kernel
theorem dL_darkWithin_8 : decode cL_darkWithin 8 = .ok (.lastore, 1) := by decide +kernel
theorem dL_darkWithin_9 : decode cL_darkWithin 9 = .ok (.goto 6, 3) := by decide +kernel
theorem dL_darkWithin_12 : decode cL_darkWithin 12 = .ok (.astore_n 3, 1) := by decide +kernel
theorem dL_darkWithin_13 : decode cL_darkWithin 13 = .ok (.iconst 1, 1) := by decide +kernel
theorem dL_darkWithin_14 : decode cL_darkWithin 14 = .ok (.ireturn, 1) := by decide +kernel
theorem dL_darkWithin_15 : decode cL_darkWithin 15 = .ok (.iconst 0, 1) := by decide +kernel
theorem dL_darkWithin_16 : decode cL_darkWithin 16 = .ok (.ireturn, 1) := by decide +kernel
set_option maxRecDepth 20000 in
theorem ggL_brightestWithin_X1_brightestWithin : GoodIn wsL_brightestWithin wsX1_brightestWithin := goodIn_ca (goodIn_r _ [6, 7, 8, 9, 5, 10, 11, 12, 13, 14, 15, 16, 17, 18, 19, 20, 21, 22, 23, 24, 25, 26, 27, 28, 29, 30, 31, 32, 33, 34, 35, 36, 37, 38, 39, 40, 41, 42, 43, 44, 45, 46, 47, 48] (by decide +kernel) (by decide +kernel)) (goodIn_sub (fun _ h => List.mem_cons_of_mem _ (List.mem_append_right _ h)) (by decide +kernel))
set_option maxRecDepth 20000 in
theorem gL_brightestWithin_X1_brightestWithin : GoodIn wsL_brightestWithin (wsV RL 87 RX1 yX1_brightestWithin wsX1_brightestWithin) := goodIn_app (goodIn_of _ (by decide +kernel)) ggL_brightestWithin_X1_brightestWithin
theorem dL_brightestWithin_0 : decode cL_brightestWithin 0 = .ok (.aload_n 2, 1) := by decide +kernel
theorem dL_brightestWithin_1 : decode cL_brightestWithin 1 = .ok (.iconst 0, 1) := by decide +kernel
theorem dL_brightestWithin_2 : decode cL_brightestWithin 2 = .ok (.aload_n 0, 1) := by decide +kernel
theorem dL_brightestWithin_3 : decode cL_brightestWithin 3 = .ok (.iload_n 1, 1) := by decide +kernel
theorem dL_brightestWithin_4 : decode cL_brightestWithin 4 = .ok (.invokevirtual 87, 3) := by decide +kernel
theorem dL_brightestWithin_7 : decode cL_brightestWithin 7 = .ok (.i2l, 1) := by decide +kernel
theorem dL_brightestWithin_8 : decode cL_brightestWithin 8 = .ok (.lastore, 1) := by decide +kernel
theorem dL_brightestWithin_9 : decode cL_brightestWithin 9 = .ok (.goto 6, 3) := by decide +kernel
theorem dL_brightestWithin_12 : decode cL_brightestWithin 12 = .ok (.astore_n 3, 1) := by decide +kernel
theorem dL_brightestWithin_13 : decode cL_brightestWithin 13 = .ok (.iconst 1, 1) := by decide +kernel
theorem dL_brightestWithin_14 : decode cL_brightestWithin 14 = .ok (.ireturn, 1) := by decide +kernel
theorem dL_brightestWithin_15 : decode cL_brightestWithin 15 = .ok (.iconst 0, 1) := by decide +kernel
theorem dL_brightestWithin_16 : decode cL_brightestWithin 16 = .ok (.ireturn, 1) := by decide +kernel
set_option maxRecDepth 20000 in
theorem ggL_bestCover_X1_bestCover : GoodIn wsL_bestCover wsX1_bestCover := goodIn_ca (goodIn_r _ [6, 7, 8, 9, 10, 5, 11, 12, 13, 14, 15, 16, 17, 18, 19, 20, 21, 22, 23, 24, 25, 26, 27, 28, 29, 30, 31, 32, 33, 34, 35, 36, 37, 38, 39, 40, 41, 42, 43, 44, 45, 46, 47, 48, 49, 50, 51, 52] (by decide +kernel) (by decide +kernel)) (goodIn_sub (fun _ h => List.mem_cons_of_mem _ (List.mem_append_right _ h)) (by decide +kernel))
set_option maxRecDepth 20000 in
theorem gL_bestCover_X1_bestCover : GoodIn wsL_bestCover (wsV RL 90 RX1 yX1_bestCover wsX1_bestCover) := goodIn_app (goodIn_of _ (by decide +kernel)) ggL_bestCover_X1_bestCover
theorem dL_bestCover_0 : decode cL_bestCover 0 = .ok (.aload_n 2, 1) := by decide +kernel
theorem dL_bestCover_1 : decode cL_bestCover 1 = .ok (.iconst 0, 1) := by decide +kernel
theorem dL_bestCover_2 : decode cL_bestCover 2 = .ok (.aload_n 0, 1) := by decide +kernel
theorem dL_bestCover_3 : decode cL_bestCover 3 = .ok (.iload_n 1, 1) := by decide +kernel
theorem dL_bestCover_4 : decode cL_bestCover 4 = .ok (.invokevirtual 90, 3) := by decide +kernel
theorem dL_bestCover_7 : decode cL_bestCover 7 = .ok (.i2l, 1) := by decide +kernel
theorem dL_bestCover_8 : decode cL_bestCover 8 = .ok (.lastore, 1) := by decide +kernel
theorem dL_bestCover_9 : decode cL_bestCover 9 = .ok (.goto 6, 3) := by decide +kernel
theorem dL_bestCover_12 : decode cL_bestCover 12 = .ok (.astore_n 3, 1) := by decide +kernel
theorem dL_bestCover_13 : decode cL_bestCover 13 = .ok (.iconst 1, 1) := by decide +kernel
theorem dL_bestCover_14 : decode cL_bestCover 14 = .ok (.ireturn, 1) := by decide +kernel
theorem dL_bestCover_15 : decode cL_bestCover 15 = .ok (.iconst 0, 1) := by decide +kernel
theorem dL_bestCover_16 : decode cL_bestCover 16 = .ok (.ireturn, 1) := by decide +kernel
set_option maxRecDepth 20000 in
theorem ggL_law_X1_init : GoodIn wsL_law wsX1_init := goodIn_r _ [9, 10, 11, 12, 13, 14, 15, 16, 17, 18, 19, 20, 21, 22, 23, 578, 579, 580, 581, 582, 592, 593, 594, 595, 596] (by decide +kernel) (by decide +kernel)
set_option maxRecDepth 20000 in
theorem gL_law_X1_init : GoodIn wsL_law (wsX1_init) := ggL_law_X1_init
set_option maxRecDepth 20000 in
theorem ggL_law_X2_init : GoodIn wsL_law wsX2_init := goodIn_r _ [26, 27, 11, 12, 28, 29, 30, 21, 31, 32, 33, 583, 584, 585, 586, 587, 588, 589, 590, 591] (by decide +kernel) (by decide +kernel)
set_option maxRecDepth 20000 in
theorem gL_law_X2_init : GoodIn wsL_law (wsX2_init) := ggL_law_X2_init
set_option maxRecDepth 20000 in
theorem ggL_law_L_addLamp : GoodIn wsL_law wsL_addLamp := goodIn_ca (goodIn_r _ [37, 38, 39, 40, 41, 2, 42, 43, 44, 45, 14, 578, 579, 580, 581, 582, 592, 593, 594, 595, 596] (by decide +kernel) (by decide +kernel)) (goodIn_sub (fun _ h => List.mem_append_left _ (List.mem_append_left _ (List.mem_append_right _ h))) (by decide +kernel))
set_option maxRecDepth 20000 in
theorem gL_law_L_addLamp : GoodIn wsL_law (va_wsS RL 97 yL_addLamp wsL_addLamp) := goodIn_app (goodIn_of _ (by decide +kernel)) ggL_law_L_addLamp
set_option maxRecDepth 20000 in
theorem ggL_law_X2_addLamp : GoodIn wsL_law wsX2_addLamp := goodIn_r _ [49, 50, 51, 29, 52, 53, 54, 5, 55, 583, 584, 585, 586, 587, 588, 589, 590, 591] (by decide +kernel) (by decide +kernel)
set_option maxRecDepth 20000 in
theorem gL_law_X2_addLamp : GoodIn wsL_law (wsV RL 102 RX2 yX2_addLamp wsX2_addLamp) := goodIn_app (goodIn_of _ (by decide +kernel)) ggL_law_X2_addLamp
set_option maxRecDepth 20000 in
theorem ggL_law_X2_thrown : GoodIn wsL_law wsX2_thrown := goodIn_r _ [59, 50, 583, 584, 585, 586, 587, 588, 589, 590, 591] (by decide +kernel) (by decide +kernel)
set_option maxRecDepth 20000 in
theorem gL_law_X2_thrown : GoodIn wsL_law (wsV RL 103 RX2 yX2_thrown wsX2_thrown) := goodIn_app (goodIn_of _ (by decide +kernel)) ggL_law_X2_thrown
set_option maxRecDepth 20000 in
theorem ggL_law_L_addBeat : GoodIn wsL_law wsL_addBeat := goodIn_ca (goodIn_ca (goodIn_ca (goodIn_r _ [62, 63, 64, 38, 65, 66, 67, 2, 68, 43, 44, 14, 69, 70, 71, 72, 73, 74, 45, 75, 76, 77, 78, 79, 80, 81, 82, 83, 84, 85, 86, 16, 87, 88, 22, 23, 578, 579, 580, 581, 582, 592, 593, 594, 595, 596] (by decide +kernel) (by decide +kernel)) (goodIn_sub (fun _ h => List.mem_append_left _ (List.mem_append_left _ (List.mem_append_right _ h))) (by decide +kernel))) (goodIn_sub (fun _ h => List.mem_append_left _ (List.mem_append_right _ h)) (by decide +kernel))) (goodIn_sub (fun _ h => List.mem_append_right _ h) (by decide +kernel))
set_option maxRecDepth 20000 in
theorem gL_law_L_addBeat : GoodIn wsL_law (va_wsS RL 107 yL_addBeat wsL_addBeat) := goodIn_app (goodIn_of _ (by decide +kernel)) ggL_law_L_addBeat
set_option maxRecDepth 20000 in
theorem ggL_law_X2_addBeat : GoodIn wsL_law wsX2_addBeat := goodIn_r _ [92, 50, 31, 32, 33, 93, 94, 95, 5, 96, 51, 97, 98, 99, 52, 53, 54, 55, 100, 101, 102, 583, 584, 585, 586, 587, 588, 589, 590, 591] (by decide +kernel) (by decide +kernel)
set_option maxRecDepth 20000 in
theorem gL_law_X2_addBeat : GoodIn wsL_law (wsV RL 110 RX2 yX2_addBeat wsX2_addBeat) := goodIn_app (goodIn_of _ (by decide +kernel)) ggL_law_X2_addBeat
set_option maxRecDepth 20000 in
theorem ggL_law_L_moveBeat : GoodIn wsL_law wsL_moveBeat := goodIn_ca (goodIn_ca (goodIn_r _ [105, 63, 64, 106, 107, 108, 2, 109, 14, 110, 111, 112, 113, 73, 74, 69, 70, 71, 72, 45, 81, 82, 83, 78, 79, 578, 579, 580, 581, 582, 592, 593, 594, 595, 596] (by decide +kernel) (by decide +kernel)) (goodIn_sub (fun _ h => List.mem_append_left _ (List.mem_append_right _ h)) (by decide +kernel))) (goodIn_sub (fun _ h => List.mem_append_right _ h) (by decide +kernel))
set_option maxRecDepth 20000 in
theorem gL_law_L_moveBeat : GoodIn wsL_law (va_wsS RL 111 yL_moveBeat wsL_moveBeat) := goodIn_app (goodIn_of _ (by decide +kernel)) ggL_law_L_moveBeat
set_option maxRecDepth 20000 in
theorem ggL_law_X2_moveBeat : GoodIn wsL_law wsX2_moveBeat := goodIn_r _ [117, 50, 32, 33, 118, 119, 120, 5, 121, 31, 93, 94, 95, 96, 51, 97, 98, 99, 52, 53, 54, 55, 583, 584, 585, 586, 587, 588, 589, 590, 591] (by decide +kernel) (by decide +kernel)
set_option maxRecDepth 20000 in
theorem gL_law_X2_moveBeat : GoodIn wsL_law (wsV RL 113 RX2 yX2_moveBeat wsX2_moveBeat) := goodIn_app (goodIn_of _ (by decide +kernel)) ggL_law_X2_moveBeat
set_option maxRecDepth 20000 in
theorem ggL_law_L_takeBeat : GoodIn wsL_law wsL_takeBeat := goodIn_ca (goodIn_r _ [124, 63, 125, 126, 127, 2, 128, 14, 110, 111, 112, 113, 73, 74, 69, 70, 71, 72, 45, 129, 130, 131, 16, 132, 88, 22, 23, 578, 579, 580, 581, 582, 592, 593, 594, 595, 596] (by decide +kernel) (by decide +kernel)) (goodIn_sub (fun _ h => List.mem_append_left _ (List.mem_append_right _ h)) (by decide +kernel))
set_option maxRecDepth 20000 in
theorem gL_law_L_takeBeat : GoodIn wsL_law (va_wsS RL 114 yL_takeBeat wsL_takeBeat) := goodIn_app (goodIn_of _ (by decide +kernel)) ggL_law_L_takeBeat
set_option maxRecDepth 20000 in
theorem ggL_law_X2_takeBeat : GoodIn wsL_law wsX2_takeBeat := goodIn_r _ [136, 50, 31, 32, 33, 118, 119, 120, 5, 121, 93, 94, 95, 96, 51, 97, 98, 99, 52, 53, 54, 55, 583, 584, 585, 586, 587, 588, 589, 590, 591] (by decide +kernel) (by decide +kernel)
set_option maxRecDepth 20000 in
theorem gL_law_X2_takeBeat : GoodIn wsL_law (wsV RL 117 RX2 yX2_takeBeat wsX2_takeBeat) := goodIn_app (goodIn_of _ (by decide +kernel)) ggL_law_X2_takeBeat
set_option maxRecDepth 20000 in
theorem ggL_law_L_turnShutter : GoodIn wsL_law wsL_turnShutter := goodIn_ca (goodIn_r _ [139, 63, 140, 141, 142, 2, 143, 14, 69, 70, 71, 72, 73, 74, 45, 578, 579, 580, 581, 582, 592, 593, 594, 595, 596] (by decide +kernel) (by decide +kernel)) (goodIn_sub (fun _ h => List.mem_append_left _ (List.mem_append_right _ h)) (by decide +kernel))
set_option maxRecDepth 20000 in
theorem gL_law_L_turnShutter : GoodIn wsL_law (va_wsS RL 118 yL_turnShutter wsL_turnShutter) := goodIn_app (goodIn_of _ (by decide +kernel)) ggL_law_L_turnShutter
set_option maxRecDepth 20000 in
theorem ggL_law_X2_turnShutter : GoodIn wsL_law wsX2_turnShutter := goodIn_r _ [147, 50, 30, 93, 94, 95, 5, 96, 51, 97, 98, 99, 148, 149, 150, 151, 583, 584, 585, 586, 587, 588, 589, 590, 591] (by decide +kernel) (by decide +kernel)
set_option maxRecDepth 20000 in
theorem gL_law_X2_turnShutter : GoodIn wsL_law (wsV RL 121 RX2 yX2_turnShutter wsX2_turnShutter) := goodIn_app (goodIn_of _ (by decide +kernel)) ggL_law_X2_turnShutter
set_option maxRecDepth 20000 in
theorem ggL_law_L_pass : GoodIn wsL_law wsL_pass := goodIn_ca (goodIn_r _ [154, 64, 155, 156, 157, 2, 158, 159, 160, 161, 162, 163, 78, 79, 164, 165, 166, 167, 45, 14, 168, 169, 170, 16, 171, 172, 173, 174, 175, 88, 22, 23, 176, 177, 178, 578, 579, 580, 581, 582, 592, 593, 594, 595, 596] (by decide +kernel) (by decide +kernel)) (goodIn_sub (fun _ h => List.mem_append_right _ h) (by decide +kernel))
set_option maxRecDepth 20000 in
theorem gL_law_L_pass : GoodIn wsL_law (va_wsS RL 122 yL_pass wsL_pass) := goodIn_app (goodIn_of _ (by decide +kernel)) ggL_law_L_pass
set_option maxRecDepth 20000 in
theorem ggL_law_X2_pass : GoodIn wsL_law wsX2_pass := goodIn_r _ [182, 50, 183, 184, 51, 97, 98, 5, 99, 52, 53, 54, 55, 185, 186, 187, 188, 189, 190, 191, 192, 31, 32, 33, 583, 584, 585, 586, 587, 588, 589, 590, 591] (by decide +kernel) (by decide +kernel)
set_option maxRecDepth 20000 in
theorem gL_law_X2_pass : GoodIn wsL_law (wsV RL 124 RX2 yX2_pass wsX2_pass) := goodIn_app (goodIn_of _ (by decide +kernel)) ggL_law_X2_pass
set_option maxRecDepth 20000 in
theorem ggL_law_X1_lamps : GoodIn wsL_law wsX1_lamps := goodIn_r _ [196, 45, 578, 579, 580, 581, 582] (by decide +kernel) (by decide +kernel)
set_option maxRecDepth 20000 in
theorem gL_law_X1_lamps : GoodIn wsL_law (wsV RL 125 RX1 yX1_lamps wsX1_lamps) := goodIn_app (goodIn_of _ (by decide +kernel)) ggL_law_X1_lamps
set_option maxRecDepth 20000 in
theorem ggL_law_X2_lamps : GoodIn wsL_law wsX2_lamps := goodIn_r _ [200, 50, 51, 583, 584, 585, 586, 587, 588, 589, 590, 591] (by decide +kernel) (by decide +kernel)
set_option maxRecDepth 20000 in
theorem gL_law_X2_lamps : GoodIn wsL_law (wsV RL 128 RX2 yX2_lamps wsX2_lamps) := goodIn_app (goodIn_of _ (by decide +kernel)) ggL_law_X2_lamps
set_option maxRecDepth 20000 in
theorem ggL_law_X1_now : GoodIn wsL_law wsX1_now := goodIn_r _ [204, 159, 578, 579, 580, 581, 582] (by decide +kernel) (by decide +kernel)
set_option maxRecDepth 20000 in
theorem gL_law_X1_now : GoodIn wsL_law (wsV RL 129 RX1 yX1_now wsX1_now) := goodIn_app (goodIn_of _ (by decide +kernel)) ggL_law_X1_now
set_option maxRecDepth 20000 in
theorem ggL_law_X2_now : GoodIn wsL_law wsX2_now := goodIn_r _ [208, 50, 184, 583, 584, 585, 586, 587, 588, 589, 590, 591] (by decide +kernel) (by decide +kernel)
set_option maxRecDepth 20000 in
theorem gL_law_X2_now : GoodIn wsL_law (wsV RL 132 RX2 yX2_now wsX2_now) := goodIn_app (goodIn_of _ (by decide +kernel)) ggL_law_X2_now
set_option maxRecDepth 20000 in
theorem ggL_law_X1_changesSeen : GoodIn wsL_law wsX1_changesSeen := goodIn_r _ [212, 160, 578, 579, 580, 581, 582] (by decide +kernel) (by decide +kernel)
set_option maxRecDepth 20000 in
theorem gL_law_X1_changesSeen : GoodIn wsL_law (wsV RL 133 RX1 yX1_changesSeen wsX1_changesSeen) := goodIn_app (goodIn_of _ (by decide +kernel)) ggL_law_X1_changesSeen
set_option maxRecDepth 20000 in
theorem ggL_law_X2_changesSeen : GoodIn wsL_law wsX2_changesSeen := goodIn_r _ [216, 50, 183, 583, 584, 585, 586, 587, 588, 589, 590, 591] (by decide +kernel) (by decide +kernel)
set_option maxRecDepth 20000 in
theorem gL_law_X2_changesSeen : GoodIn wsL_law (wsV RL 136 RX2 yX2_changesSeen wsX2_changesSeen) := goodIn_app (goodIn_of _ (by decide +kernel)) ggL_law_X2_changesSeen
set_option maxRecDepth 20000 in
theorem ggL_law_L_beatsOf : GoodIn wsL_law wsL_beatsOf := goodIn_ca (goodIn_r _ [219, 63, 220, 221, 222, 2, 223, 14, 69, 70, 71, 72, 73, 74, 45, 578, 579, 580, 581, 582, 592, 593, 594, 595, 596] (by decide +kernel) (by decide +kernel)) (goodIn_sub (fun _ h => List.mem_append_left _ (List.mem_append_right _ h)) (by decide +kernel))
set_option maxRecDepth 20000 in
theorem gL_law_L_beatsOf : GoodIn wsL_law (va_wsS RL 137 yL_beatsOf wsL_beatsOf) := goodIn_app (goodIn_of _ (by decide +kernel)) ggL_law_L_beatsOf
set_option maxRecDepth 20000 in
theorem ggL_law_X2_beatsOf : GoodIn wsL_law wsX2_beatsOf := goodIn_r _ [227, 50, 31, 93, 94, 95, 5, 96, 51, 97, 98, 99, 52, 53, 54, 55, 583, 584, 585, 586, 587, 588, 589, 590, 591] (by decide +kernel) (by decide +kernel)
set_option maxRecDepth 20000 in
theorem gL_law_X2_beatsOf : GoodIn wsL_law (wsV RL 139 RX2 yX2_beatsOf wsX2_beatsOf) := goodIn_app (goodIn_of _ (by decide +kernel)) ggL_law_X2_beatsOf
set_option maxRecDepth 20000 in
theorem ggL_law_L_numberOf : GoodIn wsL_law wsL_numberOf := goodIn_ca (goodIn_r _ [230, 63, 231, 232, 233, 2, 234, 14, 110, 111, 112, 113, 73, 74, 69, 70, 71, 72, 45, 578, 579, 580, 581, 582, 592, 593, 594, 595, 596] (by decide +kernel) (by decide +kernel)) (goodIn_sub (fun _ h => List.mem_append_left _ (List.mem_append_right _ h)) (by decide +kernel))
set_option maxRecDepth 20000 in
theorem gL_law_L_numberOf : GoodIn wsL_law (va_wsS RL 140 yL_numberOf wsL_numberOf) := goodIn_app (goodIn_of _ (by decide +kernel)) ggL_law_L_numberOf
set_option maxRecDepth 20000 in
theorem ggL_law_X2_numberOf : GoodIn wsL_law wsX2_numberOf := goodIn_r _ [238, 50, 32, 118, 119, 120, 5, 121, 31, 93, 94, 95, 96, 51, 97, 98, 99, 52, 53, 54, 55, 583, 584, 585, 586, 587, 588, 589, 590, 591] (by decide +kernel) (by decide +kernel)
set_option maxRecDepth 20000 in
theorem gL_law_X2_numberOf : GoodIn wsL_law (wsV RL 142 RX2 yX2_numberOf wsX2_numberOf) := goodIn_app (goodIn_of _ (by decide +kernel)) ggL_law_X2_numberOf
set_option maxRecDepth 20000 in
theorem ggL_law_L_offsetOf : GoodIn wsL_law wsL_offsetOf := goodIn_ca (goodIn_r _ [241, 63, 242, 243, 244, 2, 245, 14, 110, 111, 112, 113, 73, 74, 69, 70, 71, 72, 45, 578, 579, 580, 581, 582, 592, 593, 594, 595, 596] (by decide +kernel) (by decide +kernel)) (goodIn_sub (fun _ h => List.mem_append_left _ (List.mem_append_right _ h)) (by decide +kernel))
set_option maxRecDepth 20000 in
theorem gL_law_L_offsetOf : GoodIn wsL_law (va_wsS RL 143 yL_offsetOf wsL_offsetOf) := goodIn_app (goodIn_of _ (by decide +kernel)) ggL_law_L_offsetOf
set_option maxRecDepth 20000 in
theorem ggL_law_X2_offsetOf : GoodIn wsL_law wsX2_offsetOf := goodIn_r _ [249, 50, 33, 118, 119, 120, 5, 121, 31, 93, 94, 95, 96, 51, 97, 98, 99, 52, 53, 54, 55, 583, 584, 585, 586, 587, 588, 589, 590, 591] (by decide +kernel) (by decide +kernel)
set_option maxRecDepth 20000 in
theorem gL_law_X2_offsetOf : GoodIn wsL_law (wsV RL 145 RX2 yX2_offsetOf wsX2_offsetOf) := goodIn_app (goodIn_of _ (by decide +kernel)) ggL_law_X2_offsetOf
set_option maxRecDepth 20000 in
theorem ggL_law_L_isCovered : GoodIn wsL_law wsL_isCovered := goodIn_ca (goodIn_r _ [252, 63, 253, 254, 255, 2, 256, 14, 69, 70, 71, 72, 73, 74, 45, 578, 579, 580, 581, 582, 592, 593, 594, 595, 596] (by decide +kernel) (by decide +kernel)) (goodIn_sub (fun _ h => List.mem_append_left _ (List.mem_append_right _ h)) (by decide +kernel))
set_option maxRecDepth 20000 in
theorem gL_law_L_isCovered : GoodIn wsL_law (va_wsS RL 146 yL_isCovered wsL_isCovered) := goodIn_app (goodIn_of _ (by decide +kernel)) ggL_law_L_isCovered
set_option maxRecDepth 20000 in
theorem ggL_law_X2_isCovered : GoodIn wsL_law wsX2_isCovered := goodIn_r _ [260, 50, 30, 93, 94, 95, 5, 96, 51, 97, 98, 99, 148, 149, 150, 151, 583, 584, 585, 586, 587, 588, 589, 590, 591] (by decide +kernel) (by decide +kernel)
set_option maxRecDepth 20000 in
theorem gL_law_X2_isCovered : GoodIn wsL_law (wsV RL 148 RX2 yX2_isCovered wsX2_isCovered) := goodIn_app (goodIn_of _ (by decide +kernel)) ggL_law_X2_isCovered
set_option maxRecDepth 20000 in
theorem ggL_law_L_isOn : GoodIn wsL_law wsL_isOn := goodIn_ca (goodIn_r _ [263, 63, 264, 265, 266, 2, 267, 14, 159, 69, 70, 71, 72, 73, 74, 45, 268, 269, 270, 16, 271, 88, 22, 23, 272, 273, 274, 275, 176, 177, 178, 578, 579, 580, 581, 582, 592, 593, 594, 595, 596] (by decide +kernel) (by decide +kernel)) (goodIn_sub (fun _ h => List.mem_append_left _ (List.mem_append_right _ h)) (by decide +kernel))
set_option maxRecDepth 20000 in
theorem gL_law_L_isOn : GoodIn wsL_law (va_wsS RL 149 yL_isOn wsL_isOn) := goodIn_app (goodIn_of _ (by decide +kernel)) ggL_law_L_isOn
set_option maxRecDepth 20000 in
theorem ggL_law_X2_isOn : GoodIn wsL_law wsX2_isOn := goodIn_r _ [279, 50, 184, 93, 94, 95, 5, 96, 51, 97, 98, 99, 280, 281, 282, 283, 29, 31, 32, 33, 148, 149, 150, 151, 583, 584, 585, 586, 587, 588, 589, 590, 591] (by decide +kernel) (by decide +kernel)
set_option maxRecDepth 20000 in
theorem gL_law_X2_isOn : GoodIn wsL_law (wsV RL 151 RX2 yX2_isOn wsX2_isOn) := goodIn_app (goodIn_of _ (by decide +kernel)) ggL_law_X2_isOn
set_option maxRecDepth 20000 in
theorem ggL_law_L_isLit : GoodIn wsL_law wsL_isLit := goodIn_ca (goodIn_r _ [286, 63, 287, 288, 289, 2, 290, 14, 159, 69, 70, 71, 72, 73, 74, 45, 291, 292, 293, 16, 294, 295, 296, 269, 270, 271, 88, 22, 23, 272, 273, 274, 275, 176, 177, 178, 578, 579, 580, 581, 582, 592, 593, 594, 595, 596] (by decide +kernel) (by decide +kernel)) (goodIn_sub (fun _ h => List.mem_append_left _ (List.mem_append_right _ h)) (by decide +kernel))
set_option maxRecDepth 20000 in
theorem gL_law_L_isLit : GoodIn wsL_law (va_wsS RL 152 yL_isLit wsL_isLit) := goodIn_app (goodIn_of _ (by decide +kernel)) ggL_law_L_isLit
set_option maxRecDepth 20000 in
theorem ggL_law_X2_isLit : GoodIn wsL_law wsX2_isLit := goodIn_r _ [300, 50, 30, 184, 93, 94, 95, 5, 96, 51, 97, 98, 99, 280, 281, 282, 283, 29, 31, 32, 33, 148, 149, 150, 151, 583, 584, 585, 586, 587, 588, 589, 590, 591] (by decide +kernel) (by decide +kernel)
set_option maxRecDepth 20000 in
theorem gL_law_X2_isLit : GoodIn wsL_law (wsV RL 154 RX2 yX2_isLit wsX2_isLit) := goodIn_app (goodIn_of _ (by decide +kernel)) ggL_law_X2_isLit
set_option maxRecDepth 20000 in
theorem ggL_law_X1_litLamps : GoodIn wsL_law wsX1_litLamps := goodIn_r _ [304, 159, 305, 306, 307, 2, 308, 45, 14, 291, 292, 293, 16, 294, 295, 296, 269, 270, 271, 88, 22, 23, 272, 273, 274, 275, 176, 177, 178, 578, 579, 580, 581, 582, 592, 593, 594, 595, 596] (by decide +kernel) (by decide +kernel)
set_option maxRecDepth 20000 in
theorem gL_law_X1_litLamps : GoodIn wsL_law (wsV RL 155 RX1 yX1_litLamps wsX1_litLamps) := goodIn_app (goodIn_of _ (by decide +kernel)) ggL_law_X1_litLamps
set_option maxRecDepth 20000 in
theorem ggL_law_X2_litLamps : GoodIn wsL_law wsX2_litLamps := goodIn_r _ [312, 50, 184, 313, 314, 315, 5, 316, 51, 30, 280, 281, 282, 283, 29, 31, 32, 33, 583, 584, 585, 586, 587, 588, 589, 590, 591] (by decide +kernel) (by decide +kernel)
set_option maxRecDepth 20000 in
theorem gL_law_X2_litLamps : GoodIn wsL_law (wsV RL 158 RX2 yX2_litLamps wsX2_litLamps) := goodIn_app (goodIn_of _ (by decide +kernel)) ggL_law_X2_litLamps
set_option maxRecDepth 20000 in
theorem ggL_law_X1_isDark : GoodIn wsL_law wsX1_isDark := goodIn_r _ [320, 159, 321, 322, 323, 2, 324, 45, 14, 291, 292, 293, 16, 294, 295, 296, 269, 270, 271, 88, 22, 23, 272, 273, 274, 275, 176, 177, 178, 578, 579, 580, 581, 582, 592, 593, 594, 595, 596] (by decide +kernel) (by decide +kernel)
set_option maxRecDepth 20000 in
theorem gL_law_X1_isDark : GoodIn wsL_law (wsV RL 159 RX1 yX1_isDark wsX1_isDark) := goodIn_app (goodIn_of _ (by decide +kernel)) ggL_law_X1_isDark
set_option maxRecDepth 20000 in
theorem ggL_law_X2_isDark : GoodIn wsL_law wsX2_isDark := goodIn_r _ [328, 50, 184, 313, 314, 315, 5, 316, 51, 30, 280, 281, 282, 283, 29, 31, 32, 33, 583, 584, 585, 586, 587, 588, 589, 590, 591] (by decide +kernel) (by decide +kernel)
set_option maxRecDepth 20000 in
theorem gL_law_X2_isDark : GoodIn wsL_law (wsV RL 163 RX2 yX2_isDark wsX2_isDark) := goodIn_app (goodIn_of _ (by decide +kernel)) ggL_law_X2_isDark
set_option maxRecDepth 20000 in
theorem ggL_law_L_isOnAt : GoodIn wsL_law wsL_isOnAt := goodIn_ca (goodIn_ca (goodIn_r _ [331, 63, 64, 332, 333, 334, 2, 335, 14, 69, 70, 71, 72, 73, 74, 45, 336, 337, 338, 78, 79, 339, 268, 269, 270, 16, 271, 88, 22, 23, 272, 273, 274, 275, 176, 177, 178, 578, 579, 580, 581, 582, 592, 593, 594, 595, 596] (by decide +kernel) (by decide +kernel)) (goodIn_sub (fun _ h => List.mem_append_left _ (List.mem_append_right _ h)) (by decide +kernel))) (goodIn_sub (fun _ h => List.mem_append_right _ h) (by decide +kernel))
set_option maxRecDepth 20000 in
theorem gL_law_L_isOnAt : GoodIn wsL_law (va_wsS RL 164 yL_isOnAt wsL_isOnAt) := goodIn_app (goodIn_of _ (by decide +kernel)) ggL_law_L_isOnAt
set_option maxRecDepth 20000 in
theorem ggL_law_X2_isOnAt : GoodIn wsL_law wsX2_isOnAt := goodIn_r _ [343, 50, 344, 93, 94, 95, 5, 96, 51, 97, 98, 99, 148, 149, 150, 151, 280, 281, 282, 283, 29, 31, 32, 33, 583, 584, 585, 586, 587, 588, 589, 590, 591] (by decide +kernel) (by decide +kernel)
set_option maxRecDepth 20000 in
theorem gL_law_X2_isOnAt : GoodIn wsL_law (wsV RL 166 RX2 yX2_isOnAt wsX2_isOnAt) := goodIn_app (goodIn_of _ (by decide +kernel)) ggL_law_X2_isOnAt
set_option maxRecDepth 20000 in
theorem ggL_law_L_strikesAt : GoodIn wsL_law wsL_strikesAt := goodIn_ca (goodIn_ca (goodIn_r _ [347, 63, 64, 348, 349, 350, 2, 351, 14, 69, 70, 71, 72, 73, 74, 45, 336, 337, 338, 78, 79, 339, 352, 173, 174, 16, 175, 88, 22, 23, 578, 579, 580, 581, 582, 592, 593, 594, 595, 596] (by decide +kernel) (by decide +kernel)) (goodIn_sub (fun _ h => List.mem_append_left _ (List.mem_append_right _ h)) (by decide +kernel))) (goodIn_sub (fun _ h => List.mem_append_right _ h) (by decide +kernel))
set_option maxRecDepth 20000 in
theorem gL_law_L_strikesAt : GoodIn wsL_law (va_wsS RL 167 yL_strikesAt wsL_strikesAt) := goodIn_app (goodIn_of _ (by decide +kernel)) ggL_law_L_strikesAt
set_option maxRecDepth 20000 in
theorem ggL_law_X2_strikesAt : GoodIn wsL_law wsX2_strikesAt := goodIn_r _ [356, 50, 344, 93, 94, 95, 5, 96, 51, 97, 98, 99, 52, 53, 54, 55, 189, 190, 191, 192, 31, 32, 33, 583, 584, 585, 586, 587, 588, 589, 590, 591] (by decide +kernel) (by decide +kernel)
set_option maxRecDepth 20000 in
theorem gL_law_X2_strikesAt : GoodIn wsL_law (wsV RL 169 RX2 yX2_strikesAt wsX2_strikesAt) := goodIn_app (goodIn_of _ (by decide +kernel)) ggL_law_X2_strikesAt
set_option maxRecDepth 20000 in
theorem ggL_law_L_isSteady : GoodIn wsL_law wsL_isSteady := goodIn_ca (goodIn_r _ [359, 63, 360, 361, 362, 2, 363, 14, 69, 70, 71, 72, 73, 74, 45, 364, 365, 366, 16, 367, 368, 369, 370, 371, 272, 372, 373, 374, 375, 376, 377, 378, 379, 88, 22, 23, 296, 269, 270, 271, 273, 274, 275, 176, 177, 178, 578, 579, 580, 581, 582, 592, 593, 594, 595, 596] (by decide +kernel) (by decide +kernel)) (goodIn_sub (fun _ h => List.mem_append_left _ (List.mem_append_right _ h)) (by decide +kernel))
set_option maxRecDepth 20000 in
theorem gL_law_L_isSteady : GoodIn wsL_law (va_wsS RL 170 yL_isSteady wsL_isSteady) := goodIn_app (goodIn_of _ (by decide +kernel)) ggL_law_L_isSteady
set_option maxRecDepth 20000 in
theorem ggL_law_X2_isSteady : GoodIn wsL_law wsX2_isSteady := goodIn_r _ [383, 50, 93, 94, 95, 5, 96, 51, 97, 98, 99, 384, 385, 386, 387, 388, 389, 390, 391, 31, 32, 185, 186, 187, 188, 189, 190, 191, 192, 33, 148, 149, 150, 151, 583, 584, 585, 586, 587, 588, 589, 590, 591] (by decide +kernel) (by decide +kernel)
set_option maxRecDepth 20000 in
theorem gL_law_X2_isSteady : GoodIn wsL_law (wsV RL 172 RX2 yX2_isSteady wsX2_isSteady) := goodIn_app (goodIn_of _ (by decide +kernel)) ggL_law_X2_isSteady
set_option maxRecDepth 20000 in
theorem ggL_law_L_cycleOf : GoodIn wsL_law wsL_cycleOf := goodIn_ca (goodIn_r _ [394, 63, 395, 396, 397, 2, 398, 14, 69, 70, 71, 72, 73, 74, 45, 399, 369, 370, 16, 371, 272, 372, 373, 374, 375, 376, 377, 378, 379, 88, 22, 23, 296, 269, 270, 271, 273, 274, 275, 176, 177, 178, 578, 579, 580, 581, 582, 592, 593, 594, 595, 596] (by decide +kernel) (by decide +kernel)) (goodIn_sub (fun _ h => List.mem_append_left _ (List.mem_append_right _ h)) (by decide +kernel))
set_option maxRecDepth 20000 in
theorem gL_law_L_cycleOf : GoodIn wsL_law (va_wsS RL 173 yL_cycleOf wsL_cycleOf) := goodIn_app (goodIn_of _ (by decide +kernel)) ggL_law_L_cycleOf
set_option maxRecDepth 20000 in
theorem ggL_law_X2_cycleOf : GoodIn wsL_law wsX2_cycleOf := goodIn_r _ [403, 50, 93, 94, 95, 5, 96, 51, 97, 98, 99, 404, 405, 406, 407, 388, 389, 390, 391, 31, 32, 408, 409, 410, 411, 280, 281, 282, 283, 29, 33, 185, 186, 187, 188, 189, 190, 191, 192, 52, 53, 54, 55, 583, 584, 585, 586, 587, 588, 589, 590, 591] (by decide +kernel) (by decide +kernel)
set_option maxRecDepth 20000 in
theorem gL_law_X2_cycleOf : GoodIn wsL_law (wsV RL 175 RX2 yX2_cycleOf wsX2_cycleOf) := goodIn_app (goodIn_of _ (by decide +kernel)) ggL_law_X2_cycleOf
set_option maxRecDepth 20000 in
theorem ggL_law_L_momentsUntilChange : GoodIn wsL_law wsL_momentsUntilChange := goodIn_ca (goodIn_r _ [414, 63, 415, 416, 417, 2, 418, 14, 159, 69, 70, 71, 72, 73, 74, 45, 419, 420, 421, 16, 422, 372, 373, 374, 375, 376, 377, 378, 379, 88, 22, 23, 423, 169, 170, 171, 172, 173, 174, 175, 176, 177, 178, 578, 579, 580, 581, 582, 592, 593, 594, 595, 596] (by decide +kernel) (by decide +kernel)) (goodIn_sub (fun _ h => List.mem_append_left _ (List.mem_append_right _ h)) (by decide +kernel))
set_option maxRecDepth 20000 in
theorem gL_law_L_momentsUntilChange : GoodIn wsL_law (va_wsS RL 176 yL_momentsUntilChange wsL_momentsUntilChange) := goodIn_app (goodIn_of _ (by decide +kernel)) ggL_law_L_momentsUntilChange
set_option maxRecDepth 20000 in
theorem ggL_law_X2_momentsUntilChange : GoodIn wsL_law wsX2_momentsUntilChange := goodIn_r _ [427, 50, 93, 94, 95, 5, 96, 51, 97, 98, 99, 428, 429, 430, 431, 184, 388, 389, 390, 391, 31, 32, 185, 186, 187, 188, 189, 190, 191, 192, 33, 52, 53, 54, 55, 583, 584, 585, 586, 587, 588, 589, 590, 591] (by decide +kernel) (by decide +kernel)
set_option maxRecDepth 20000 in
theorem gL_law_X2_momentsUntilChange : GoodIn wsL_law (wsV RL 178 RX2 yX2_momentsUntilChange wsX2_momentsUntilChange) := goodIn_app (goodIn_of _ (by decide +kernel)) ggL_law_X2_momentsUntilChange
set_option maxRecDepth 20000 in
theorem ggL_law_L_shows : GoodIn wsL_law wsL_shows := goodIn_ca (goodIn_ca (goodIn_r _ [434, 63, 64, 435, 436, 437, 2, 438, 14, 159, 69, 70, 71, 72, 73, 74, 45, 161, 162, 163, 78, 79, 268, 269, 270, 16, 271, 88, 22, 23, 272, 273, 274, 275, 176, 177, 178, 578, 579, 580, 581, 582, 592, 593, 594, 595, 596] (by decide +kernel) (by decide +kernel)) (goodIn_sub (fun _ h => List.mem_append_left _ (List.mem_append_right _ h)) (by decide +kernel))) (goodIn_sub (fun _ h => List.mem_append_right _ h) (by decide +kernel))
set_option maxRecDepth 20000 in
theorem gL_law_L_shows : GoodIn wsL_law (va_wsS RL 179 yL_shows wsL_shows) := goodIn_app (goodIn_of _ (by decide +kernel)) ggL_law_L_shows
set_option maxRecDepth 20000 in
theorem ggL_law_X2_shows : GoodIn wsL_law wsX2_shows := goodIn_r _ [442, 50, 184, 93, 94, 95, 5, 96, 51, 97, 98, 99, 52, 53, 54, 55, 280, 281, 282, 283, 29, 31, 32, 33, 583, 584, 585, 586, 587, 588, 589, 590, 591] (by decide +kernel) (by decide +kernel)
set_option maxRecDepth 20000 in
theorem gL_law_X2_shows : GoodIn wsL_law (wsV RL 181 RX2 yX2_shows wsX2_shows) := goodIn_app (goodIn_of _ (by decide +kernel)) ggL_law_X2_shows
set_option maxRecDepth 20000 in
theorem ggL_law_L_momentsUntilCollision : GoodIn wsL_law wsL_momentsUntilCollision := goodIn_ca (goodIn_ca (goodIn_r _ [445, 63, 64, 446, 447, 448, 2, 449, 159, 450, 451, 452, 453, 78, 79, 69, 70, 71, 72, 73, 74, 45, 454, 455, 456, 457, 14, 168, 169, 170, 16, 171, 172, 173, 174, 175, 88, 22, 23, 176, 177, 178, 578, 579, 580, 581, 582, 592, 593, 594, 595, 596] (by decide +kernel) (by decide +kernel)) (goodIn_sub (fun _ h => List.mem_append_right _ h) (by decide +kernel))) (goodIn_sub (fun _ h => List.mem_append_left _ (List.mem_append_right _ h)) (by decide +kernel))
set_option maxRecDepth 20000 in
theorem gL_law_L_momentsUntilCollision : GoodIn wsL_law (va_wsS RL 182 yL_momentsUntilCollision wsL_momentsUntilCollision) := goodIn_app (goodIn_of _ (by decide +kernel)) ggL_law_L_momentsUntilCollision
set_option maxRecDepth 20000 in
theorem ggL_law_X2_momentsUntilCollision : GoodIn wsL_law wsX2_momentsUntilCollision := goodIn_r _ [461, 50, 184, 462, 463, 464, 5, 465, 93, 94, 95, 96, 51, 97, 98, 99, 466, 467, 468, 469, 185, 186, 187, 188, 189, 190, 191, 192, 31, 32, 33, 583, 584, 585, 586, 587, 588, 589, 590, 591] (by decide +kernel) (by decide +kernel)
set_option maxRecDepth 20000 in
theorem gL_law_X2_momentsUntilCollision : GoodIn wsL_law (wsV RL 184 RX2 yX2_momentsUntilCollision wsX2_momentsUntilCollision) := goodIn_app (goodIn_of _ (by decide +kernel)) ggL_law_X2_momentsUntilCollision
set_option maxRecDepth 20000 in
theorem ggL_law_L_collisionsWithin : GoodIn wsL_law wsL_collisionsWithin := goodIn_ca (goodIn_ca (goodIn_r _ [472, 63, 64, 473, 474, 475, 2, 476, 159, 450, 451, 452, 453, 78, 79, 69, 70, 71, 72, 73, 74, 45, 161, 162, 163, 454, 455, 456, 457, 14, 168, 169, 170, 16, 171, 172, 173, 174, 175, 88, 22, 23, 176, 177, 178, 578, 579, 580, 581, 582, 592, 593, 594, 595, 596] (by decide +kernel) (by decide +kernel)) (goodIn_sub (fun _ h => List.mem_append_right _ h) (by decide +kernel))) (goodIn_sub (fun _ h => List.mem_append_left _ (List.mem_append_right _ h)) (by decide +kernel))
set_option maxRecDepth 20000 in
theorem gL_law_L_collisionsWithin : GoodIn wsL_law (va_wsS RL 185 yL_collisionsWithin wsL_collisionsWithin) := goodIn_app (goodIn_of _ (by decide +kernel)) ggL_law_L_collisionsWithin
set_option maxRecDepth 20000 in
theorem ggL_law_X2_collisionsWithin : GoodIn wsL_law wsX2_collisionsWithin := goodIn_r _ [480, 50, 184, 462, 463, 464, 5, 465, 93, 94, 95, 96, 51, 97, 98, 99, 52, 53, 54, 55, 466, 467, 468, 469, 185, 186, 187, 188, 189, 190, 191, 192, 31, 32, 33, 583, 584, 585, 586, 587, 588, 589, 590, 591] (by decide +kernel) (by decide +kernel)
set_option maxRecDepth 20000 in
theorem gL_law_X2_collisionsWithin : GoodIn wsL_law (wsV RL 187 RX2 yX2_collisionsWithin wsX2_collisionsWithin) := goodIn_app (goodIn_of _ (by decide +kernel)) ggL_law_X2_collisionsWithin
set_option maxRecDepth 20000 in
theorem ggL_law_L_momentsUntilToldApart : GoodIn wsL_law wsL_momentsUntilToldApart := goodIn_ca (goodIn_ca (goodIn_r _ [483, 63, 64, 484, 485, 486, 2, 487, 17, 14, 159, 450, 451, 452, 453, 78, 79, 69, 70, 71, 72, 73, 74, 45, 488, 489, 490, 16, 491, 272, 88, 492, 493, 494, 495, 22, 23, 496, 85, 86, 87, 268, 269, 270, 271, 273, 274, 275, 176, 177, 178, 419, 420, 421, 422, 372, 373, 374, 375, 376, 377, 378, 379, 423, 169, 170, 171, 172, 173, 174, 175, 578, 579, 580, 581, 582, 592, 593, 594, 595, 596] (by decide +kernel) (by decide +kernel)) (goodIn_sub (fun _ h => List.mem_append_right _ h) (by decide +kernel))) (goodIn_sub (fun _ h => List.mem_append_left _ (List.mem_append_right _ h)) (by decide +kernel))
set_option maxRecDepth 20000 in
theorem gL_law_L_momentsUntilToldApart : GoodIn wsL_law (va_wsS RL 188 yL_momentsUntilToldApart wsL_momentsUntilToldApart) := goodIn_app (goodIn_of _ (by decide +kernel)) ggL_law_L_momentsUntilToldApart
set_option maxRecDepth 20000 in
theorem ggL_law_X2_momentsUntilToldApart : GoodIn wsL_law wsX2_momentsUntilToldApart := goodIn_r _ [500, 50, 501, 184, 462, 463, 464, 5, 465, 93, 94, 95, 96, 51, 97, 98, 99, 280, 281, 282, 283, 29, 31, 32, 33, 583, 584, 585, 586, 587, 588, 589, 590, 591] (by decide +kernel) (by decide +kernel)
set_option maxRecDepth 20000 in
theorem gL_law_X2_momentsUntilToldApart : GoodIn wsL_law (wsV RL 190 RX2 yX2_momentsUntilToldApart wsX2_momentsUntilToldApart) := goodIn_app (goodIn_of _ (by decide +kernel)) ggL_law_X2_momentsUntilToldApart
set_option maxRecDepth 20000 in
theorem ggL_law_X1_momentsUntilDark : GoodIn wsL_law wsX1_momentsUntilDark := goodIn_r _ [505, 159, 321, 322, 323, 2, 324, 45, 14, 291, 292, 293, 16, 294, 295, 296, 269, 270, 271, 88, 22, 23, 272, 273, 274, 275, 176, 177, 178, 578, 579, 580, 581, 582, 592, 593, 594, 595, 596] (by decide +kernel) (by decide +kernel)
set_option maxRecDepth 20000 in
theorem gL_law_X1_momentsUntilDark : GoodIn wsL_law (wsV RL 191 RX1 yX1_momentsUntilDark wsX1_momentsUntilDark) := goodIn_app (goodIn_of _ (by decide +kernel)) ggL_law_X1_momentsUntilDark
set_option maxRecDepth 20000 in
theorem ggL_law_X2_momentsUntilDark : GoodIn wsL_law wsX2_momentsUntilDark := goodIn_r _ [509, 50, 184, 313, 314, 315, 5, 316, 51, 30, 280, 281, 282, 283, 29, 31, 32, 33, 583, 584, 585, 586, 587, 588, 589, 590, 591] (by decide +kernel) (by decide +kernel)
set_option maxRecDepth 20000 in
theorem gL_law_X2_momentsUntilDark : GoodIn wsL_law (wsV RL 194 RX2 yX2_momentsUntilDark wsX2_momentsUntilDark) := goodIn_app (goodIn_of _ (by decide +kernel)) ggL_law_X2_momentsUntilDark
set_option maxRecDepth 20000 in
theorem ggL_law_L_darkWithin : GoodIn wsL_law wsL_darkWithin := goodIn_ca (goodIn_r _ [512, 64, 513, 514, 515, 2, 516, 161, 162, 163, 78, 79, 517, 518, 519, 520, 159, 321, 322, 323, 324, 45, 14, 291, 292, 293, 16, 294, 295, 296, 269, 270, 271, 88, 22, 23, 272, 273, 274, 275, 176, 177, 178, 578, 579, 580, 581, 582, 592, 593, 594, 595, 596] (by decide +kernel) (by decide +kernel)) (goodIn_sub (fun _ h => List.mem_append_right _ h) (by decide +kernel))
set_option maxRecDepth 20000 in
theorem gL_law_L_darkWithin : GoodIn wsL_law (va_wsS RL 195 yL_darkWithin wsL_darkWithin) := goodIn_app (goodIn_of _ (by decide +kernel)) ggL_law_L_darkWithin
set_option maxRecDepth 20000 in
theorem ggL_law_X2_darkWithin : GoodIn wsL_law wsX2_darkWithin := goodIn_r _ [524, 50, 97, 98, 5, 99, 525, 526, 527, 528, 184, 313, 314, 315, 316, 51, 30, 280, 281, 282, 283, 29, 31, 32, 33, 52, 53, 54, 55, 583, 584, 585, 586, 587, 588, 589, 590, 591] (by decide +kernel) (by decide +kernel)
set_option maxRecDepth 20000 in
theorem gL_law_X2_darkWithin : GoodIn wsL_law (wsV RL 197 RX2 yX2_darkWithin wsX2_darkWithin) := goodIn_app (goodIn_of _ (by decide +kernel)) ggL_law_X2_darkWithin
set_option maxRecDepth 20000 in
theorem ggL_law_L_brightestWithin : GoodIn wsL_law wsL_brightestWithin := goodIn_ca (goodIn_r _ [531, 64, 532, 533, 534, 2, 535, 159, 161, 162, 163, 78, 79, 305, 306, 307, 308, 45, 14, 291, 292, 293, 16, 294, 295, 296, 269, 270, 271, 88, 22, 23, 272, 273, 274, 275, 176, 177, 178, 578, 579, 580, 581, 582, 592, 593, 594, 595, 596] (by decide +kernel) (by decide +kernel)) (goodIn_sub (fun _ h => List.mem_append_right _ h) (by decide +kernel))
set_option maxRecDepth 20000 in
theorem gL_law_L_brightestWithin : GoodIn wsL_law (va_wsS RL 198 yL_brightestWithin wsL_brightestWithin) := goodIn_app (goodIn_of _ (by decide +kernel)) ggL_law_L_brightestWithin
set_option maxRecDepth 20000 in
theorem ggL_law_X2_brightestWithin : GoodIn wsL_law wsX2_brightestWithin := goodIn_r _ [539, 50, 184, 97, 98, 5, 99, 52, 53, 54, 55, 313, 314, 315, 316, 51, 30, 280, 281, 282, 283, 29, 31, 32, 33, 583, 584, 585, 586, 587, 588, 589, 590, 591] (by decide +kernel) (by decide +kernel)
set_option maxRecDepth 20000 in
theorem gL_law_X2_brightestWithin : GoodIn wsL_law (wsV RL 200 RX2 yX2_brightestWithin wsX2_brightestWithin) := goodIn_app (goodIn_of _ (by decide +kernel)) ggL_law_X2_brightestWithin
set_option maxRecDepth 20000 in
theorem ggL_law_L_bestCover : GoodIn wsL_law wsL_bestCover := goodIn_ca (goodIn_r _ [542, 64, 543, 544, 545, 2, 546, 45, 14, 161, 162, 163, 78, 79, 517, 518, 519, 520, 159, 321, 322, 323, 324, 291, 292, 293, 16, 294, 295, 296, 269, 270, 271, 88, 22, 23, 272, 273, 274, 275, 176, 177, 178, 578, 579, 580, 581, 582, 592, 593, 594, 595, 596] (by decide +kernel) (by decide +kernel)) (goodIn_sub (fun _ h => List.mem_append_right _ h) (by decide +kernel))
set_option maxRecDepth 20000 in
theorem gL_law_L_bestCover : GoodIn wsL_law (va_wsS RL 201 yL_bestCover wsL_bestCover) := goodIn_app (goodIn_of _ (by decide +kernel)) ggL_law_L_bestCover
set_option maxRecDepth 20000 in
theorem ggL_law_X2_bestCover : GoodIn wsL_law wsX2_bestCover := goodIn_r _ [550, 50, 51, 30, 97, 98, 5, 99, 52, 53, 54, 55, 525, 526, 527, 528, 184, 313, 314, 315, 316, 280, 281, 282, 283, 29, 31, 32, 33, 583, 584, 585, 586, 587, 588, 589, 590, 591] (by decide +kernel) (by decide +kernel)
set_option maxRecDepth 20000 in
theorem gL_law_X2_bestCover : GoodIn wsL_law (wsV RL 203 RX2 yX2_bestCover wsX2_bestCover) := goodIn_app (goodIn_of _ (by decide +kernel)) ggL_law_X2_bestCover
set_option maxRecDepth 20000 in
theorem ggL_law_X1_meanBeats : GoodIn wsL_law wsX1_meanBeats := goodIn_r _ [554, 45, 14, 578, 579, 580, 581, 582, 592, 593, 594, 595, 596] (by decide +kernel) (by decide +kernel)
set_option maxRecDepth 20000 in
theorem gL_law_X1_meanBeats : GoodIn wsL_law (wsV RL 204 RX1 yX1_meanBeats wsX1_meanBeats) := goodIn_app (goodIn_of _ (by decide +kernel)) ggL_law_X1_meanBeats
set_option maxRecDepth 20000 in
theorem ggL_law_X2_meanBeats : GoodIn wsL_law wsX2_meanBeats := goodIn_r _ [558, 50, 51, 31, 583, 584, 585, 586, 587, 588, 589, 590, 591] (by decide +kernel) (by decide +kernel)
set_option maxRecDepth 20000 in
theorem gL_law_X2_meanBeats : GoodIn wsL_law (wsV RL 208 RX2 yX2_meanBeats wsX2_meanBeats) := goodIn_app (goodIn_of _ (by decide +kernel)) ggL_law_X2_meanBeats
set_option maxRecDepth 20000 in
theorem ggL_law_X1_digest : GoodIn wsL_law wsX1_digest := goodIn_r _ [562, 563, 45, 159, 160, 14, 564, 565, 2, 566, 567, 305, 306, 307, 308, 291, 292, 293, 16, 294, 295, 296, 269, 270, 271, 88, 22, 23, 272, 273, 274, 275, 176, 177, 178, 568, 569, 570, 571, 268, 364, 365, 366, 367, 368, 369, 370, 371, 372, 373, 374, 375, 376, 377, 378, 379, 399, 419, 420, 421, 422, 423, 169, 170, 171, 172, 173, 174, 175, 578, 579, 580, 581, 582, 592, 593, 594, 595, 596] (by decide +kernel) (by decide +kernel)
set_option maxRecDepth 20000 in
theorem gL_law_X1_digest : GoodIn wsL_law (wsV RL 209 RX1 yX1_digest wsX1_digest) := goodIn_app (goodIn_of _ (by decide +kernel)) ggL_law_X1_digest
set_option maxRecDepth 20000 in
theorem ggL_law_X2_digest : GoodIn wsL_law wsX2_digest := goodIn_r _ [575, 50, 576, 51, 577, 184, 183, 31, 30, 32, 33, 313, 314, 315, 5, 316, 280, 281, 282, 283, 29, 384, 385, 386, 387, 388, 389, 390, 391, 185, 186, 187, 188, 189, 190, 191, 192, 404, 405, 406, 407, 408, 409, 410, 411, 428, 429, 430, 431, 583, 584, 585, 586, 587, 588, 589, 590, 591] (by decide +kernel) (by decide +kernel)
set_option maxRecDepth 20000 in
theorem gL_law_X2_digest : GoodIn wsL_law (wsV RL 213 RX2 yX2_digest wsX2_digest) := goodIn_app (goodIn_of _ (by decide +kernel)) ggL_law_X2_digest
theorem dL_law_0 : decode cL_law 0 = .ok (.new 8, 3) := by decide +kernel
theorem dL_law_3 : decode cL_law 3 = .ok (.dup, 1) := by decide +kernel
theorem dL_law_4 : decode cL_law 4 = .ok (.invokespecial 93, 3) := by decide +kernel
theorem dL_law_7 : decode cL_law 7 = .ok (.astore_n 1, 1) := by decide +kernel
theorem dL_law_8 : decode cL_law 8 = .ok (.new 94, 3) := by decide +kernel
theorem dL_law_11 : decode cL_law 11 = .ok (.dup, 1) := by decide +kernel
theorem dL_law_12 : decode cL_law 12 = .ok (.invokespecial 96, 3) := by decide +kernel
theorem dL_law_15 : decode cL_law 15 = .ok (.astore_n 2, 1) := by decide +kernel
theorem dL_law_16 : decode cL_law 16 = .ok (.iconst 1, 1) := by decide +kernel
theorem dL_law_17 : decode cL_law 17 = .ok (.newarray .long, 2) := by decide +kernel
theorem dL_law_19 : decode cL_law 19 = .ok (.astore_n 3, 1) := by decide +kernel
theorem dL_law_20 : decode cL_law 20 = .ok (.iconst 0, 1) := by decide +kernel
theorem dL_law_21 : decode cL_law 21 = .ok (.istore 4, 2) := by decide +kernel
theorem dL_law_23 : decode cL_law 23 = .ok (.iload 4, 2) := by decide +kernel
theorem dL_law_25 : decode cL_law 25 = .ok (.aload_n 0, 1) := by decide +kernel
theorem dL_law_26 : decode cL_law 26 = .ok (.arraylength, 1) := by decide +kernel
theorem dL_law_27 : decode cL_law 27 = .ok (.iconst 4, 1) := by decide +kernel
theorem dL_law_28 : decode cL_law 28 = .ok (.isub, 1) := by decide +kernel
theorem dL_law_29 : decode cL_law 29 = .ok (.if_icmp .gt 1860, 3) := by decide +kernel
theorem dL_law_32 : decode cL_law 32 = .ok (.aload_n 0, 1) := by decide +kernel
theorem dL_law_33 : decode cL_law 33 = .ok (.iload 4, 2) := by decide +kernel
theorem dL_law_35 : decode cL_law 35 = .ok (.iaload, 1) := by decide +kernel
theorem dL_law_36 : decode cL_law 36 = .ok (.bipush 31, 2) := by decide +kernel
theorem dL_law_38 : decode cL_law 38 = .ok (.iand, 1) := by decide +kernel
theorem dL_law_39 : decode cL_law 39 = .ok (.tableswitch 1844 0 31 #[141, 213, 293, 373, 441, 504, 560, 573, 586, 599, 655, 723, 791, 854, 917, 980, 993, 1006, 1081, 1149, 1212, 1268, 1324, 1392, 1460, 1540, 1608, 1621, 1677, 1733, 1789, 1830], 141) := by decide +kernel
theorem dL_law_180 : decode cL_law 180 = .ok (.aload_n 1, 1) := by decide +kernel
theorem dL_law_181 : decode cL_law 181 = .ok (.aload_n 0, 1) := by decide +kernel
theorem dL_law_182 : decode cL_law 182 = .ok (.iload 4, 2) := by decide +kernel
theorem dL_law_184 : decode cL_law 184 = .ok (.iconst 1, 1) := by decide +kernel
theorem dL_law_185 : decode cL_law 185 = .ok (.iadd, 1) := by decide +kernel
theorem dL_law_186 : decode cL_law 186 = .ok (.iaload, 1) := by decide +kernel
theorem dL_law_187 : decode cL_law 187 = .ok (.ifCond .eq 7, 3) := by decide +kernel
theorem dL_law_190 : decode cL_law 190 = .ok (.iconst 1, 1) := by decide +kernel
theorem dL_law_191 : decode cL_law 191 = .ok (.goto 4, 3) := by decide +kernel
theorem dL_law_194 : decode cL_law 194 = .ok (.iconst 0, 1) := by decide +kernel
theorem dL_law_195 : decode cL_law 195 = .ok (.aload_n 3, 1) := by decide +kernel
theorem dL_law_196 : decode cL_law 196 = .ok (.invokestatic 97, 3) := by decide +kernel
theorem dL_law_199 : decode cL_law 199 = .ok (.istore 5, 2) := by decide +kernel
theorem dL_law_201 : decode cL_law 201 = .ok (.aload_n 2, 1) := by decide +kernel
theorem dL_law_202 : decode cL_law 202 = .ok (.aload_n 0, 1) := by decide +kernel
theorem dL_law_203 : decode cL_law 203 = .ok (.iload 4, 2) := by decide +kernel
theorem dL_law_205 : decode cL_law 205 = .ok (.iconst 1, 1) := by decide +kernel
theorem dL_law_206 : decode cL_law 206 = .ok (.iadd, 1) := by decide +kernel
theorem dL_law_207 : decode cL_law 207 = .ok (.iaload, 1) := by decide +kernel
theorem dL_law_208 : decode cL_law 208 = .ok (.ifCond .eq 7, 3) := by decide +kernel
theorem dL_law_211 : decode cL_law 211 = .ok (.iconst 1, 1) := by decide +kernel
theorem dL_law_212 : decode cL_law 212 = .ok (.goto 4, 3) := by decide +kernel
theorem dL_law_215 : decode cL_law 215 = .ok (.iconst 0, 1) := by decide +kernel
theorem dL_law_216 : decode cL_law 216 = .ok (.invokevirtual 102, 3) := by decide +kernel
theorem dL_law_219 : decode cL_law 219 = .ok (.istore 6, 2) := by decide +kernel
theorem dL_law_221 : decode cL_law 221 = .ok (.aload_n 2, 1) := by decide +kernel
theorem dL_law_222 : decode cL_law 222 = .ok (.invokevirtual 103, 3) := by decide +kernel
theorem dL_law_225 : decode cL_law 225 = .ok (.iload 5, 2) := by decide +kernel
theorem dL_law_227 : decode cL_law 227 = .ok (.if_icmp .eq 5, 3) := by decide +kernel
theorem dL_law_230 : decode cL_law 230 = .ok (.iconst 0, 1) := by decide +kernel
theorem dL_law_231 : decode cL_law 231 = .ok (.ireturn, 1) := by decide +kernel
theorem dL_law_232 : decode cL_law 232 = .ok (.iload 5, 2) := by decide +kernel
theorem dL_law_234 : decode cL_law 234 = .ok (.ifCond .ne 15, 3) := by decide +kernel
theorem dL_law_237 : decode cL_law 237 = .ok (.aload_n 3, 1) := by decide +kernel
theorem dL_law_238 : decode cL_law 238 = .ok (.iconst 0, 1) := by decide +kernel
theorem dL_law_239 : decode cL_law 239 = .ok (.laload, 1) := by decide +kernel
theorem dL_law_240 : decode cL_law 240 = .ok (.iload 6, 2) := by decide +kernel
theorem dL_law_242 : decode cL_law 242 = .ok (.i2l, 1) := by decide +kernel
theorem dL_law_243 : decode cL_law 243 = .ok (.lcmp, 1) := by decide +kernel
theorem dL_law_244 : decode cL_law 244 = .ok (.ifCond .eq 5, 3) := by decide +kernel
theorem dL_law_247 : decode cL_law 247 = .ok (.iconst 0, 1) := by decide +kernel
theorem dL_law_248 : decode cL_law 248 = .ok (.ireturn, 1) := by decide +kernel
theorem dL_law_249 : decode cL_law 249 = .ok (.goto 1634, 3) := by decide +kernel
theorem dL_law_252 : decode cL_law 252 = .ok (.aload_n 1, 1) := by decide +kernel
theorem dL_law_253 : decode cL_law 253 = .ok (.aload_n 0, 1) := by decide +kernel
theorem dL_law_254 : decode cL_law 254 = .ok (.iload 4, 2) := by decide +kernel
theorem dL_law_256 : decode cL_law 256 = .ok (.iconst 1, 1) := by decide +kernel
theorem dL_law_257 : decode cL_law 257 = .ok (.iadd, 1) := by decide +kernel
theorem dL_law_258 : decode cL_law 258 = .ok (.iaload, 1) := by decide +kernel
theorem dL_law_259 : decode cL_law 259 = .ok (.aload_n 0, 1) := by decide +kernel
theorem dL_law_260 : decode cL_law 260 = .ok (.iload 4, 2) := by decide +kernel
theorem dL_law_262 : decode cL_law 262 = .ok (.iconst 2, 1) := by decide +kernel
theorem dL_law_263 : decode cL_law 263 = .ok (.iadd, 1) := by decide +kernel
theorem dL_law_264 : decode cL_law 264 = .ok (.iaload, 1) := by decide +kernel
theorem dL_law_265 : decode cL_law 265 = .ok (.aload_n 0, 1) := by decide +kernel
theorem dL_law_266 : decode cL_law 266 = .ok (.iload 4, 2) := by decide +kernel
theorem dL_law_268 : decode cL_law 268 = .ok (.iconst 3, 1) := by decide +kernel
theorem dL_law_269 : decode cL_law 269 = .ok (.iadd, 1) := by decide +kernel
theorem dL_law_270 : decode cL_law 270 = .ok (.iaload, 1) := by decide +kernel
theorem dL_law_271 : decode cL_law 271 = .ok (.aload_n 3, 1) := by decide +kernel
theorem dL_law_272 : decode cL_law 272 = .ok (.invokestatic 107, 3) := by decide +kernel
theorem dL_law_275 : decode cL_law 275 = .ok (.istore 5, 2) := by decide +kernel
theorem dL_law_277 : decode cL_law 277 = .ok (.aload_n 2, 1) := by decide +kernel
theorem dL_law_278 : decode cL_law 278 = .ok (.aload_n 0, 1) := by decide +kernel
theorem dL_law_279 : decode cL_law 279 = .ok (.iload 4, 2) := by decide +kernel
theorem dL_law_281 : decode cL_law 281 = .ok (.iconst 1, 1) := by decide +kernel
theorem dL_law_282 : decode cL_law 282 = .ok (.iadd, 1) := by decide +kernel
theorem dL_law_283 : decode cL_law 283 = .ok (.iaload, 1) := by decide +kernel
theorem dL_law_284 : decode cL_law 284 = .ok (.aload_n 0, 1) := by decide +kernel
theorem dL_law_285 : decode cL_law 285 = .ok (.iload 4, 2) := by decide +kernel
theorem dL_law_287 : decode cL_law 287 = .ok (.iconst 2, 1) := by decide +kernel
theorem dL_law_288 : decode cL_law 288 = .ok (.iadd, 1) := by decide +kernel
theorem dL_law_289 : decode cL_law 289 = .ok (.iaload, 1) := by decide +kernel
theorem dL_law_290 : decode cL_law 290 = .ok (.aload_n 0, 1) := by decide +kernel
theorem dL_law_291 : decode cL_law 291 = .ok (.iload 4, 2) := by decide +kernel
theorem dL_law_293 : decode cL_law 293 = .ok (.iconst 3, 1) := by decide +kernel
theorem dL_law_294 : decode cL_law 294 = .ok (.iadd, 1) := by decide +kernel
theorem dL_law_295 : decode cL_law 295 = .ok (.iaload, 1) := by decide +kernel
theorem dL_law_296 : decode cL_law 296 = .ok (.invokevirtual 110, 3) := by decide +kernel
theorem dL_law_299 : decode cL_law 299 = .ok (.istore 6, 2) := by decide +kernel
theorem dL_law_301 : decode cL_law 301 = .ok (.aload_n 2, 1) := by decide +kernel
theorem dL_law_302 : decode cL_law 302 = .ok (.invokevirtual 103, 3) := by decide +kernel
theorem dL_law_305 : decode cL_law 305 = .ok (.iload 5, 2) := by decide +kernel
theorem dL_law_307 : decode cL_law 307 = .ok (.if_icmp .eq 5, 3) := by decide +kernel
theorem dL_law_310 : decode cL_law 310 = .ok (.iconst 0, 1) := by decide +kernel
theorem dL_law_311 : decode cL_law 311 = .ok (.ireturn, 1) := by decide +kernel
theorem dL_law_312 : decode cL_law 312 = .ok (.iload 5, 2) := by decide +kernel
theorem dL_law_314 : decode cL_law 314 = .ok (.ifCond .ne 15, 3) := by decide +kernel
theorem dL_law_317 : decode cL_law 317 = .ok (.aload_n 3, 1) := by decide +kernel
theorem dL_law_318 : decode cL_law 318 = .ok (.iconst 0, 1) := by decide +kernel
theorem dL_law_319 : decode cL_law 319 = .ok (.laload, 1) := by decide +kernel
theorem dL_law_320 : decode cL_law 320 = .ok (.iload 6, 2) := by decide +kernel
theorem dL_law_322 : decode cL_law 322 = .ok (.i2l, 1) := by decide +kernel
theorem dL_law_323 : decode cL_law 323 = .ok (.lcmp, 1) := by decide +kernel
theorem dL_law_324 : decode cL_law 324 = .ok (.ifCond .eq 5, 3) := by decide +kernel
theorem dL_law_327 : decode cL_law 327 = .ok (.iconst 0, 1) := by decide +kernel
theorem dL_law_328 : decode cL_law 328 = .ok (.ireturn, 1) := by decide +kernel
theorem dL_law_329 : decode cL_law 329 = .ok (.goto 1554, 3) := by decide +kernel
theorem dL_law_332 : decode cL_law 332 = .ok (.aload_n 1, 1) := by decide +kernel
theorem dL_law_333 : decode cL_law 333 = .ok (.aload_n 0, 1) := by decide +kernel
theorem dL_law_334 : decode cL_law 334 = .ok (.iload 4, 2) := by decide +kernel
theorem dL_law_336 : decode cL_law 336 = .ok (.iconst 1, 1) := by decide +kernel
theorem dL_law_337 : decode cL_law 337 = .ok (.iadd, 1) := by decide +kernel
theorem dL_law_338 : decode cL_law 338 = .ok (.iaload, 1) := by decide +kernel
theorem dL_law_339 : decode cL_law 339 = .ok (.aload_n 0, 1) := by decide +kernel
theorem dL_law_340 : decode cL_law 340 = .ok (.iload 4, 2) := by decide +kernel
theorem dL_law_342 : decode cL_law 342 = .ok (.iconst 2, 1) := by decide +kernel
theorem dL_law_343 : decode cL_law 343 = .ok (.iadd, 1) := by decide +kernel
theorem dL_law_344 : decode cL_law 344 = .ok (.iaload, 1) := by decide +kernel
theorem dL_law_345 : decode cL_law 345 = .ok (.aload_n 0, 1) := by decide +kernel
theorem dL_law_346 : decode cL_law 346 = .ok (.iload 4, 2) := by decide +kernel
theorem dL_law_348 : decode cL_law 348 = .ok (.iconst 3, 1) := by decide +kernel
theorem dL_law_349 : decode cL_law 349 = .ok (.iadd, 1) := by decide +kernel
theorem dL_law_350 : decode cL_law 350 = .ok (.iaload, 1) := by decide +kernel
theorem dL_law_351 : decode cL_law 351 = .ok (.aload_n 3, 1) := by decide +kernel
theorem dL_law_352 : decode cL_law 352 = .ok (.invokestatic 111, 3) := by decide +kernel
theorem dL_law_355 : decode cL_law 355 = .ok (.istore 5, 2) := by decide +kernel
theorem dL_law_357 : decode cL_law 357 = .ok (.aload_n 2, 1) := by decide +kernel
theorem dL_law_358 : decode cL_law 358 = .ok (.aload_n 0, 1) := by decide +kernel
theorem dL_law_359 : decode cL_law 359 = .ok (.iload 4, 2) := by decide +kernel
theorem dL_law_361 : decode cL_law 361 = .ok (.iconst 1, 1) := by decide +kernel
theorem dL_law_362 : decode cL_law 362 = .ok (.iadd, 1) := by decide +kernel
theorem dL_law_363 : decode cL_law 363 = .ok (.iaload, 1) := by decide +kernel
theorem dL_law_364 : decode cL_law 364 = .ok (.aload_n 0, 1) := by decide +kernel
theorem dL_law_365 : decode cL_law 365 = .ok (.iload 4, 2) := by decide +kernel
theorem dL_law_367 : decode cL_law 367 = .ok (.iconst 2, 1) := by decide +kernel
theorem dL_law_368 : decode cL_law 368 = .ok (.iadd, 1) := by decide +kernel
theorem dL_law_369 : decode cL_law 369 = .ok (.iaload, 1) := by decide +kernel
theorem dL_law_370 : decode cL_law 370 = .ok (.aload_n 0, 1) := by decide +kernel
theorem dL_law_371 : decode cL_law 371 = .ok (.iload 4, 2) := by decide +kernel
theorem dL_law_373 : decode cL_law 373 = .ok (.iconst 3, 1) := by decide +kernel
theorem dL_law_374 : decode cL_law 374 = .ok (.iadd, 1) := by decide +kernel
theorem dL_law_375 : decode cL_law 375 = .ok (.iaload, 1) := by decide +kernel
theorem dL_law_376 : decode cL_law 376 = .ok (.invokevirtual 113, 3) := by decide +kernel
theorem dL_law_379 : decode cL_law 379 = .ok (.istore 6, 2) := by decide +kernel
theorem dL_law_381 : decode cL_law 381 = .ok (.aload_n 2, 1) := by decide +kernel
theorem dL_law_382 : decode cL_law 382 = .ok (.invokevirtual 103, 3) := by decide +kernel
theorem dL_law_385 : decode cL_law 385 = .ok (.iload 5, 2) := by decide +kernel
theorem dL_law_387 : decode cL_law 387 = .ok (.if_icmp .eq 5, 3) := by decide +kernel
theorem dL_law_390 : decode cL_law 390 = .ok (.iconst 0, 1) := by decide +kernel
theorem dL_law_391 : decode cL_law 391 = .ok (.ireturn, 1) := by decide +kernel
theorem dL_law_392 : decode cL_law 392 = .ok (.iload 5, 2) := by decide +kernel
theorem dL_law_394 : decode cL_law 394 = .ok (.ifCond .ne 15, 3) := by decide +kernel
theorem dL_law_397 : decode cL_law 397 = .ok (.aload_n 3, 1) := by decide +kernel
theorem dL_law_398 : decode cL_law 398 = .ok (.iconst 0, 1) := by decide +kernel
theorem dL_law_399 : decode cL_law 399 = .ok (.laload, 1) := by decide +kernel
theorem dL_law_400 : decode cL_law 400 = .ok (.iload 6, 2) := by decide +kernel
theorem dL_law_402 : decode cL_law 402 = .ok (.i2l, 1) := by decide +kernel
theorem dL_law_403 : decode cL_law 403 = .ok (.lcmp, 1) := by decide +kernel
theorem dL_law_404 : decode cL_law 404 = .ok (.ifCond .eq 5, 3) := by decide +kernel
theorem dL_law_407 : decode cL_law 407 = .ok (.iconst 0, 1) := by decide +kernel
theorem dL_law_408 : decode cL_law 408 = .ok (.ireturn, 1) := by decide +kernel
theorem dL_law_409 : decode cL_law 409 = .ok (.goto 1474, 3) := by decide +kernel
theorem dL_law_412 : decode cL_law 412 = .ok (.aload_n 1, 1) := by decide +kernel
theorem dL_law_413 : decode cL_law 413 = .ok (.aload_n 0, 1) := by decide +kernel
theorem dL_law_414 : decode cL_law 414 = .ok (.iload 4, 2) := by decide +kernel
theorem dL_law_416 : decode cL_law 416 = .ok (.iconst 1, 1) := by decide +kernel
theorem dL_law_417 : decode cL_law 417 = .ok (.iadd, 1) := by decide +kernel
theorem dL_law_418 : decode cL_law 418 = .ok (.iaload, 1) := by decide +kernel
theorem dL_law_419 : decode cL_law 419 = .ok (.aload_n 0, 1) := by decide +kernel
theorem dL_law_420 : decode cL_law 420 = .ok (.iload 4, 2) := by decide +kernel
theorem dL_law_422 : decode cL_law 422 = .ok (.iconst 2, 1) := by decide +kernel
theorem dL_law_423 : decode cL_law 423 = .ok (.iadd, 1) := by decide +kernel
theorem dL_law_424 : decode cL_law 424 = .ok (.iaload, 1) := by decide +kernel
theorem dL_law_425 : decode cL_law 425 = .ok (.aload_n 3, 1) := by decide +kernel
theorem dL_law_426 : decode cL_law 426 = .ok (.invokestatic 114, 3) := by decide +kernel
theorem dL_law_429 : decode cL_law 429 = .ok (.istore 5, 2) := by decide +kernel
theorem dL_law_431 : decode cL_law 431 = .ok (.aload_n 2, 1) := by decide +kernel
theorem dL_law_432 : decode cL_law 432 = .ok (.aload_n 0, 1) := by decide +kernel
theorem dL_law_433 : decode cL_law 433 = .ok (.iload 4, 2) := by decide +kernel
theorem dL_law_435 : decode cL_law 435 = .ok (.iconst 1, 1) := by decide +kernel
theorem dL_law_436 : decode cL_law 436 = .ok (.iadd, 1) := by decide +kernel
theorem dL_law_437 : decode cL_law 437 = .ok (.iaload, 1) := by decide +kernel
theorem dL_law_438 : decode cL_law 438 = .ok (.aload_n 0, 1) := by decide +kernel
theorem dL_law_439 : decode cL_law 439 = .ok (.iload 4, 2) := by decide +kernel
theorem dL_law_441 : decode cL_law 441 = .ok (.iconst 2, 1) := by decide +kernel
theorem dL_law_442 : decode cL_law 442 = .ok (.iadd, 1) := by decide +kernel
theorem dL_law_443 : decode cL_law 443 = .ok (.iaload, 1) := by decide +kernel
theorem dL_law_444 : decode cL_law 444 = .ok (.invokevirtual 117, 3) := by decide +kernel
theorem dL_law_447 : decode cL_law 447 = .ok (.istore 6, 2) := by decide +kernel
theorem dL_law_449 : decode cL_law 449 = .ok (.aload_n 2, 1) := by decide +kernel
theorem dL_law_450 : decode cL_law 450 = .ok (.invokevirtual 103, 3) := by decide +kernel
theorem dL_law_453 : decode cL_law 453 = .ok (.iload 5, 2) := by decide +kernel
theorem dL_law_455 : decode cL_law 455 = .ok (.if_icmp .eq 5, 3) := by decide +kernel
theorem dL_law_458 : decode cL_law 458 = .ok (.iconst 0, 1) := by decide +kernel
theorem dL_law_459 : decode cL_law 459 = .ok (.ireturn, 1) := by decide +kernel
theorem dL_law_460 : decode cL_law 460 = .ok (.iload 5, 2) := by decide +kernel
theorem dL_law_462 : decode cL_law 462 = .ok (.ifCond .ne 15, 3) := by decide +kernel
theorem dL_law_465 : decode cL_law 465 = .ok (.aload_n 3, 1) := by decide +kernel
theorem dL_law_466 : decode cL_law 466 = .ok (.iconst 0, 1) := by decide +kernel
theorem dL_law_467 : decode cL_law 467 = .ok (.laload, 1) := by decide +kernel
theorem dL_law_468 : decode cL_law 468 = .ok (.iload 6, 2) := by decide +kernel
theorem dL_law_470 : decode cL_law 470 = .ok (.i2l, 1) := by decide +kernel
theorem dL_law_471 : decode cL_law 471 = .ok (.lcmp, 1) := by decide +kernel
theorem dL_law_472 : decode cL_law 472 = .ok (.ifCond .eq 5, 3) := by decide +kernel
theorem dL_law_475 : decode cL_law 475 = .ok (.iconst 0, 1) := by decide +kernel
theorem dL_law_476 : decode cL_law 476 = .ok (.ireturn, 1) := by decide +kernel
theorem dL_law_477 : decode cL_law 477 = .ok (.goto 1406, 3) := by decide +kernel
theorem dL_law_480 : decode cL_law 480 = .ok (.aload_n 1, 1) := by decide +kernel
theorem dL_law_481 : decode cL_law 481 = .ok (.aload_n 0, 1) := by decide +kernel
theorem dL_law_482 : decode cL_law 482 = .ok (.iload 4, 2) := by decide +kernel
theorem dL_law_484 : decode cL_law 484 = .ok (.iconst 1, 1) := by decide +kernel
theorem dL_law_485 : decode cL_law 485 = .ok (.iadd, 1) := by decide +kernel
theorem dL_law_486 : decode cL_law 486 = .ok (.iaload, 1) := by decide +kernel
theorem dL_law_487 : decode cL_law 487 = .ok (.aload_n 3, 1) := by decide +kernel
theorem dL_law_488 : decode cL_law 488 = .ok (.invokestatic 118, 3) := by decide +kernel
theorem dL_law_491 : decode cL_law 491 = .ok (.istore 5, 2) := by decide +kernel
theorem dL_law_493 : decode cL_law 493 = .ok (.aload_n 2, 1) := by decide +kernel
theorem dL_law_494 : decode cL_law 494 = .ok (.aload_n 0, 1) := by decide +kernel
theorem dL_law_495 : decode cL_law 495 = .ok (.iload 4, 2) := by decide +kernel
theorem dL_law_497 : decode cL_law 497 = .ok (.iconst 1, 1) := by decide +kernel
theorem dL_law_498 : decode cL_law 498 = .ok (.iadd, 1) := by decide +kernel
theorem dL_law_499 : decode cL_law 499 = .ok (.iaload, 1) := by decide +kernel
theorem dL_law_500 : decode cL_law 500 = .ok (.invokevirtual 121, 3) := by decide +kernel
theorem dL_law_503 : decode cL_law 503 = .ok (.istore 6, 2) := by decide +kernel
theorem dL_law_505 : decode cL_law 505 = .ok (.aload_n 2, 1) := by decide +kernel
theorem dL_law_506 : decode cL_law 506 = .ok (.invokevirtual 103, 3) := by decide +kernel
theorem dL_law_509 : decode cL_law 509 = .ok (.iload 5, 2) := by decide +kernel
theorem dL_law_511 : decode cL_law 511 = .ok (.if_icmp .eq 5, 3) := by decide +kernel
theorem dL_law_514 : decode cL_law 514 = .ok (.iconst 0, 1) := by decide +kernel
theorem dL_law_515 : decode cL_law 515 = .ok (.ireturn, 1) := by decide +kernel
theorem dL_law_516 : decode cL_law 516 = .ok (.iload 5, 2) := by decide +kernel
theorem dL_law_518 : decode cL_law 518 = .ok (.ifCond .ne 22, 3) := by decide +kernel
theorem dL_law_521 : decode cL_law 521 = .ok (.aload_n 3, 1) := by decide +kernel
theorem dL_law_522 : decode cL_law 522 = .ok (.iconst 0, 1) := by decide +kernel
theorem dL_law_523 : decode cL_law 523 = .ok (.laload, 1) := by decide +kernel
theorem dL_law_524 : decode cL_law 524 = .ok (.iload 6, 2) := by decide +kernel
theorem dL_law_526 : decode cL_law 526 = .ok (.ifCond .eq 7, 3) := by decide +kernel
theorem dL_law_529 : decode cL_law 529 = .ok (.lconst 1, 1) := by decide +kernel
theorem dL_law_530 : decode cL_law 530 = .ok (.goto 4, 3) := by decide +kernel
theorem dL_law_533 : decode cL_law 533 = .ok (.lconst 0, 1) := by decide +kernel
theorem dL_law_534 : decode cL_law 534 = .ok (.lcmp, 1) := by decide +kernel
theorem dL_law_535 : decode cL_law 535 = .ok (.ifCond .eq 5, 3) := by decide +kernel
theorem dL_law_538 : decode cL_law 538 = .ok (.iconst 0, 1) := by decide +kernel
theorem dL_law_539 : decode cL_law 539 = .ok (.ireturn, 1) := by decide +kernel
theorem dL_law_540 : decode cL_law 540 = .ok (.goto 1343, 3) := by decide +kernel
theorem dL_law_543 : decode cL_law 543 = .ok (.aload_n 1, 1) := by decide +kernel
theorem dL_law_544 : decode cL_law 544 = .ok (.aload_n 0, 1) := by decide +kernel
theorem dL_law_545 : decode cL_law 545 = .ok (.iload 4, 2) := by decide +kernel
theorem dL_law_547 : decode cL_law 547 = .ok (.iconst 1, 1) := by decide +kernel
theorem dL_law_548 : decode cL_law 548 = .ok (.iadd, 1) := by decide +kernel
theorem dL_law_549 : decode cL_law 549 = .ok (.iaload, 1) := by decide +kernel
theorem dL_law_550 : decode cL_law 550 = .ok (.aload_n 3, 1) := by decide +kernel
theorem dL_law_551 : decode cL_law 551 = .ok (.invokestatic 122, 3) := by decide +kernel
theorem dL_law_554 : decode cL_law 554 = .ok (.istore 5, 2) := by decide +kernel
theorem dL_law_556 : decode cL_law 556 = .ok (.aload_n 2, 1) := by decide +kernel
theorem dL_law_557 : decode cL_law 557 = .ok (.aload_n 0, 1) := by decide +kernel
theorem dL_law_558 : decode cL_law 558 = .ok (.iload 4, 2) := by decide +kernel
theorem dL_law_560 : decode cL_law 560 = .ok (.iconst 1, 1) := by decide +kernel
theorem dL_law_561 : decode cL_law 561 = .ok (.iadd, 1) := by decide +kernel
theorem dL_law_562 : decode cL_law 562 = .ok (.iaload, 1) := by decide +kernel
theorem dL_law_563 : decode cL_law 563 = .ok (.invokevirtual 124, 3) := by decide +kernel
theorem dL_law_566 : decode cL_law 566 = .ok (.istore 6, 2) := by decide +kernel
theorem dL_law_568 : decode cL_law 568 = .ok (.aload_n 2, 1) := by decide +kernel
theorem dL_law_569 : decode cL_law 569 = .ok (.invokevirtual 103, 3) := by decide +kernel
theorem dL_law_572 : decode cL_law 572 = .ok (.iload 5, 2) := by decide +kernel
theorem dL_law_574 : decode cL_law 574 = .ok (.if_icmp .eq 5, 3) := by decide +kernel
theorem dL_law_577 : decode cL_law 577 = .ok (.iconst 0, 1) := by decide +kernel
theorem dL_law_578 : decode cL_law 578 = .ok (.ireturn, 1) := by decide +kernel
theorem dL_law_579 : decode cL_law 579 = .ok (.iload 5, 2) := by decide +kernel
theorem dL_law_581 : decode cL_law 581 = .ok (.ifCond .ne 15, 3) := by decide +kernel
theorem dL_law_584 : decode cL_law 584 = .ok (.aload_n 3, 1) := by decide +kernel
theorem dL_law_585 : decode cL_law 585 = .ok (.iconst 0, 1) := by decide +kernel
theorem dL_law_586 : decode cL_law 586 = .ok (.laload, 1) := by decide +kernel
theorem dL_law_587 : decode cL_law 587 = .ok (.iload 6, 2) := by decide +kernel
theorem dL_law_589 : decode cL_law 589 = .ok (.i2l, 1) := by decide +kernel
theorem dL_law_590 : decode cL_law 590 = .ok (.lcmp, 1) := by decide +kernel
theorem dL_law_591 : decode cL_law 591 = .ok (.ifCond .eq 5, 3) := by decide +kernel
theorem dL_law_594 : decode cL_law 594 = .ok (.iconst 0, 1) := by decide +kernel
theorem dL_law_595 : decode cL_law 595 = .ok (.ireturn, 1) := by decide +kernel
theorem dL_law_596 : decode cL_law 596 = .ok (.goto 1287, 3) := by decide +kernel
theorem dL_law_599 : decode cL_law 599 = .ok (.aload_n 1, 1) := by decide +kernel
theorem dL_law_600 : decode cL_law 600 = .ok (.invokevirtual 125, 3) := by decide +kernel
theorem dL_law_603 : decode cL_law 603 = .ok (.aload_n 2, 1) := by decide +kernel
theorem dL_law_604 : decode cL_law 604 = .ok (.invokevirtual 128, 3) := by decide +kernel
theorem dL_law_607 : decode cL_law 607 = .ok (.if_icmp .eq 1276, 3) := by decide +kernel
theorem dL_law_610 : decode cL_law 610 = .ok (.iconst 0, 1) := by decide +kernel
theorem dL_law_611 : decode cL_law 611 = .ok (.ireturn, 1) := by decide +kernel
theorem dL_law_612 : decode cL_law 612 = .ok (.aload_n 1, 1) := by decide +kernel
theorem dL_law_613 : decode cL_law 613 = .ok (.invokevirtual 129, 3) := by decide +kernel
theorem dL_law_616 : decode cL_law 616 = .ok (.aload_n 2, 1) := by decide +kernel
theorem dL_law_617 : decode cL_law 617 = .ok (.invokevirtual 132, 3) := by decide +kernel
theorem dL_law_620 : decode cL_law 620 = .ok (.if_icmp .eq 1263, 3) := by decide +kernel
theorem dL_law_623 : decode cL_law 623 = .ok (.iconst 0, 1) := by decide +kernel
theorem dL_law_624 : decode cL_law 624 = .ok (.ireturn, 1) := by decide +kernel
theorem dL_law_625 : decode cL_law 625 = .ok (.aload_n 1, 1) := by decide +kernel
theorem dL_law_626 : decode cL_law 626 = .ok (.invokevirtual 133, 3) := by decide +kernel
theorem dL_law_629 : decode cL_law 629 = .ok (.aload_n 2, 1) := by decide +kernel
theorem dL_law_630 : decode cL_law 630 = .ok (.invokevirtual 136, 3) := by decide +kernel
theorem dL_law_633 : decode cL_law 633 = .ok (.if_icmp .eq 1250, 3) := by decide +kernel
theorem dL_law_636 : decode cL_law 636 = .ok (.iconst 0, 1) := by decide +kernel
theorem dL_law_637 : decode cL_law 637 = .ok (.ireturn, 1) := by decide +kernel
theorem dL_law_638 : decode cL_law 638 = .ok (.aload_n 1, 1) := by decide +kernel
theorem dL_law_639 : decode cL_law 639 = .ok (.aload_n 0, 1) := by decide +kernel
theorem dL_law_640 : decode cL_law 640 = .ok (.iload 4, 2) := by decide +kernel
theorem dL_law_642 : decode cL_law 642 = .ok (.iconst 1, 1) := by decide +kernel
theorem dL_law_643 : decode cL_law 643 = .ok (.iadd, 1) := by decide +kernel
theorem dL_law_644 : decode cL_law 644 = .ok (.iaload, 1) := by decide +kernel
theorem dL_law_645 : decode cL_law 645 = .ok (.aload_n 3, 1) := by decide +kernel
theorem dL_law_646 : decode cL_law 646 = .ok (.invokestatic 137, 3) := by decide +kernel
theorem dL_law_649 : decode cL_law 649 = .ok (.istore 5, 2) := by decide +kernel
theorem dL_law_651 : decode cL_law 651 = .ok (.aload_n 2, 1) := by decide +kernel
theorem dL_law_652 : decode cL_law 652 = .ok (.aload_n 0, 1) := by decide +kernel
theorem dL_law_653 : decode cL_law 653 = .ok (.iload 4, 2) := by decide +kernel
theorem dL_law_655 : decode cL_law 655 = .ok (.iconst 1, 1) := by decide +kernel
theorem dL_law_656 : decode cL_law 656 = .ok (.iadd, 1) := by decide +kernel
theorem dL_law_657 : decode cL_law 657 = .ok (.iaload, 1) := by decide +kernel
theorem dL_law_658 : decode cL_law 658 = .ok (.invokevirtual 139, 3) := by decide +kernel
theorem dL_law_661 : decode cL_law 661 = .ok (.istore 6, 2) := by decide +kernel
theorem dL_law_663 : decode cL_law 663 = .ok (.aload_n 2, 1) := by decide +kernel
theorem dL_law_664 : decode cL_law 664 = .ok (.invokevirtual 103, 3) := by decide +kernel
theorem dL_law_667 : decode cL_law 667 = .ok (.iload 5, 2) := by decide +kernel
theorem dL_law_669 : decode cL_law 669 = .ok (.if_icmp .eq 5, 3) := by decide +kernel
theorem dL_law_672 : decode cL_law 672 = .ok (.iconst 0, 1) := by decide +kernel
theorem dL_law_673 : decode cL_law 673 = .ok (.ireturn, 1) := by decide +kernel
theorem dL_law_674 : decode cL_law 674 = .ok (.iload 5, 2) := by decide +kernel
theorem dL_law_676 : decode cL_law 676 = .ok (.ifCond .ne 15, 3) := by decide +kernel
theorem dL_law_679 : decode cL_law 679 = .ok (.aload_n 3, 1) := by decide +kernel
theorem dL_law_680 : decode cL_law 680 = .ok (.iconst 0, 1) := by decide +kernel
theorem dL_law_681 : decode cL_law 681 = .ok (.laload, 1) := by decide +kernel
theorem dL_law_682 : decode cL_law 682 = .ok (.iload 6, 2) := by decide +kernel
theorem dL_law_684 : decode cL_law 684 = .ok (.i2l, 1) := by decide +kernel
theorem dL_law_685 : decode cL_law 685 = .ok (.lcmp, 1) := by decide +kernel
theorem dL_law_686 : decode cL_law 686 = .ok (.ifCond .eq 5, 3) := by decide +kernel
theorem dL_law_689 : decode cL_law 689 = .ok (.iconst 0, 1) := by decide +kernel
theorem dL_law_690 : decode cL_law 690 = .ok (.ireturn, 1) := by decide +kernel
theorem dL_law_691 : decode cL_law 691 = .ok (.goto 1192, 3) := by decide +kernel
theorem dL_law_694 : decode cL_law 694 = .ok (.aload_n 1, 1) := by decide +kernel
theorem dL_law_695 : decode cL_law 695 = .ok (.aload_n 0, 1) := by decide +kernel
theorem dL_law_696 : decode cL_law 696 = .ok (.iload 4, 2) := by decide +kernel
theorem dL_law_698 : decode cL_law 698 = .ok (.iconst 1, 1) := by decide +kernel
theorem dL_law_699 : decode cL_law 699 = .ok (.iadd, 1) := by decide +kernel
theorem dL_law_700 : decode cL_law 700 = .ok (.iaload, 1) := by decide +kernel
theorem dL_law_701 : decode cL_law 701 = .ok (.aload_n 0, 1) := by decide +kernel
theorem dL_law_702 : decode cL_law 702 = .ok (.iload 4, 2) := by decide +kernel
theorem dL_law_704 : decode cL_law 704 = .ok (.iconst 2, 1) := by decide +kernel
theorem dL_law_705 : decode cL_law 705 = .ok (.iadd, 1) := by decide +kernel
theorem dL_law_706 : decode cL_law 706 = .ok (.iaload, 1) := by decide +kernel
theorem dL_law_707 : decode cL_law 707 = .ok (.aload_n 3, 1) := by decide +kernel
theorem dL_law_708 : decode cL_law 708 = .ok (.invokestatic 140, 3) := by decide +kernel
theorem dL_law_711 : decode cL_law 711 = .ok (.istore 5, 2) := by decide +kernel
theorem dL_law_713 : decode cL_law 713 = .ok (.aload_n 2, 1) := by decide +kernel
theorem dL_law_714 : decode cL_law 714 = .ok (.aload_n 0, 1) := by decide +kernel
theorem dL_law_715 : decode cL_law 715 = .ok (.iload 4, 2) := by decide +kernel
theorem dL_law_717 : decode cL_law 717 = .ok (.iconst 1, 1) := by decide +kernel
theorem dL_law_718 : decode cL_law 718 = .ok (.iadd, 1) := by decide +kernel
theorem dL_law_719 : decode cL_law 719 = .ok (.iaload, 1) := by decide +kernel
theorem dL_law_720 : decode cL_law 720 = .ok (.aload_n 0, 1) := by decide +kernel
theorem dL_law_721 : decode cL_law 721 = .ok (.iload 4, 2) := by decide +kernel
theorem dL_law_723 : decode cL_law 723 = .ok (.iconst 2, 1) := by decide +kernel
theorem dL_law_724 : decode cL_law 724 = .ok (.iadd, 1) := by decide +kernel
theorem dL_law_725 : decode cL_law 725 = .ok (.iaload, 1) := by decide +kernel
theorem dL_law_726 : decode cL_law 726 = .ok (.invokevirtual 142, 3) := by decide +kernel
theorem dL_law_729 : decode cL_law 729 = .ok (.istore 6, 2) := by decide +kernel
theorem dL_law_731 : decode cL_law 731 = .ok (.aload_n 2, 1) := by decide +kernel
theorem dL_law_732 : decode cL_law 732 = .ok (.invokevirtual 103, 3) := by decide +kernel
theorem dL_law_735 : decode cL_law 735 = .ok (.iload 5, 2) := by decide +kernel
theorem dL_law_737 : decode cL_law 737 = .ok (.if_icmp .eq 5, 3) := by decide +kernel
theorem dL_law_740 : decode cL_law 740 = .ok (.iconst 0, 1) := by decide +kernel
theorem dL_law_741 : decode cL_law 741 = .ok (.ireturn, 1) := by decide +kernel
theorem dL_law_742 : decode cL_law 742 = .ok (.iload 5, 2) := by decide +kernel
theorem dL_law_744 : decode cL_law 744 = .ok (.ifCond .ne 15, 3) := by decide +kernel
theorem dL_law_747 : decode cL_law 747 = .ok (.aload_n 3, 1) := by decide +kernel
theorem dL_law_748 : decode cL_law 748 = .ok (.iconst 0, 1) := by decide +kernel
theorem dL_law_749 : decode cL_law 749 = .ok (.laload, 1) := by decide +kernel
theorem dL_law_750 : decode cL_law 750 = .ok (.iload 6, 2) := by decide +kernel
theorem dL_law_752 : decode cL_law 752 = .ok (.i2l, 1) := by decide +kernel
theorem dL_law_753 : decode cL_law 753 = .ok (.lcmp, 1) := by decide +kernel
theorem dL_law_754 : decode cL_law 754 = .ok (.ifCond .eq 5, 3) := by decide +kernel
theorem dL_law_757 : decode cL_law 757 = .ok (.iconst 0, 1) := by decide +kernel
theorem dL_law_758 : decode cL_law 758 = .ok (.ireturn, 1) := by decide +kernel
theorem dL_law_759 : decode cL_law 759 = .ok (.goto 1124, 3) := by decide +kernel
theorem dL_law_762 : decode cL_law 762 = .ok (.aload_n 1, 1) := by decide +kernel
theorem dL_law_763 : decode cL_law 763 = .ok (.aload_n 0, 1) := by decide +kernel
theorem dL_law_764 : decode cL_law 764 = .ok (.iload 4, 2) := by decide +kernel
theorem dL_law_766 : decode cL_law 766 = .ok (.iconst 1, 1) := by decide +kernel
theorem dL_law_767 : decode cL_law 767 = .ok (.iadd, 1) := by decide +kernel
theorem dL_law_768 : decode cL_law 768 = .ok (.iaload, 1) := by decide +kernel
theorem dL_law_769 : decode cL_law 769 = .ok (.aload_n 0, 1) := by decide +kernel
theorem dL_law_770 : decode cL_law 770 = .ok (.iload 4, 2) := by decide +kernel
theorem dL_law_772 : decode cL_law 772 = .ok (.iconst 2, 1) := by decide +kernel
theorem dL_law_773 : decode cL_law 773 = .ok (.iadd, 1) := by decide +kernel
theorem dL_law_774 : decode cL_law 774 = .ok (.iaload, 1) := by decide +kernel
theorem dL_law_775 : decode cL_law 775 = .ok (.aload_n 3, 1) := by decide +kernel
theorem dL_law_776 : decode cL_law 776 = .ok (.invokestatic 143, 3) := by decide +kernel
theorem dL_law_779 : decode cL_law 779 = .ok (.istore 5, 2) := by decide +kernel
theorem dL_law_781 : decode cL_law 781 = .ok (.aload_n 2, 1) := by decide +kernel
theorem dL_law_782 : decode cL_law 782 = .ok (.aload_n 0, 1) := by decide +kernel
theorem dL_law_783 : decode cL_law 783 = .ok (.iload 4, 2) := by decide +kernel
theorem dL_law_785 : decode cL_law 785 = .ok (.iconst 1, 1) := by decide +kernel
theorem dL_law_786 : decode cL_law 786 = .ok (.iadd, 1) := by decide +kernel
theorem dL_law_787 : decode cL_law 787 = .ok (.iaload, 1) := by decide +kernel
theorem dL_law_788 : decode cL_law 788 = .ok (.aload_n 0, 1) := by decide +kernel
theorem dL_law_789 : decode cL_law 789 = .ok (.iload 4, 2) := by decide +kernel
theorem dL_law_791 : decode cL_law 791 = .ok (.iconst 2, 1) := by decide +kernel
theorem dL_law_792 : decode cL_law 792 = .ok (.iadd, 1) := by decide +kernel
theorem dL_law_793 : decode cL_law 793 = .ok (.iaload, 1) := by decide +kernel
theorem dL_law_794 : decode cL_law 794 = .ok (.invokevirtual 145, 3) := by decide +kernel
theorem dL_law_797 : decode cL_law 797 = .ok (.istore 6, 2) := by decide +kernel
theorem dL_law_799 : decode cL_law 799 = .ok (.aload_n 2, 1) := by decide +kernel
theorem dL_law_800 : decode cL_law 800 = .ok (.invokevirtual 103, 3) := by decide +kernel
theorem dL_law_803 : decode cL_law 803 = .ok (.iload 5, 2) := by decide +kernel
theorem dL_law_805 : decode cL_law 805 = .ok (.if_icmp .eq 5, 3) := by decide +kernel
theorem dL_law_808 : decode cL_law 808 = .ok (.iconst 0, 1) := by decide +kernel
theorem dL_law_809 : decode cL_law 809 = .ok (.ireturn, 1) := by decide +kernel
theorem dL_law_810 : decode cL_law 810 = .ok (.iload 5, 2) := by decide +kernel
theorem dL_law_812 : decode cL_law 812 = .ok (.ifCond .ne 15, 3) := by decide +kernel
theorem dL_law_815 : decode cL_law 815 = .ok (.aload_n 3, 1) := by decide +kernel
theorem dL_law_816 : decode cL_law 816 = .ok (.iconst 0, 1) := by decide +kernel
theorem dL_law_817 : decode cL_law 817 = .ok (.laload, 1) := by decide +kernel
theorem dL_law_818 : decode cL_law 818 = .ok (.iload 6, 2) := by decide +kernel
theorem dL_law_820 : decode cL_law 820 = .ok (.i2l, 1) := by decide +kernel
theorem dL_law_821 : decode cL_law 821 = .ok (.lcmp, 1) := by decide +kernel
theorem dL_law_822 : decode cL_law 822 = .ok (.ifCond .eq 5, 3) := by decide +kernel
theorem dL_law_825 : decode cL_law 825 = .ok (.iconst 0, 1) := by decide +kernel
theorem dL_law_826 : decode cL_law 826 = .ok (.ireturn, 1) := by decide +kernel
theorem dL_law_827 : decode cL_law 827 = .ok (.goto 1056, 3) := by decide +kernel
theorem dL_law_830 : decode cL_law 830 = .ok (.aload_n 1, 1) := by decide +kernel
theorem dL_law_831 : decode cL_law 831 = .ok (.aload_n 0, 1) := by decide +kernel
theorem dL_law_832 : decode cL_law 832 = .ok (.iload 4, 2) := by decide +kernel
theorem dL_law_834 : decode cL_law 834 = .ok (.iconst 1, 1) := by decide +kernel
theorem dL_law_835 : decode cL_law 835 = .ok (.iadd, 1) := by decide +kernel
theorem dL_law_836 : decode cL_law 836 = .ok (.iaload, 1) := by decide +kernel
theorem dL_law_837 : decode cL_law 837 = .ok (.aload_n 3, 1) := by decide +kernel
theorem dL_law_838 : decode cL_law 838 = .ok (.invokestatic 146, 3) := by decide +kernel
theorem dL_law_841 : decode cL_law 841 = .ok (.istore 5, 2) := by decide +kernel
theorem dL_law_843 : decode cL_law 843 = .ok (.aload_n 2, 1) := by decide +kernel
theorem dL_law_844 : decode cL_law 844 = .ok (.aload_n 0, 1) := by decide +kernel
theorem dL_law_845 : decode cL_law 845 = .ok (.iload 4, 2) := by decide +kernel
theorem dL_law_847 : decode cL_law 847 = .ok (.iconst 1, 1) := by decide +kernel
theorem dL_law_848 : decode cL_law 848 = .ok (.iadd, 1) := by decide +kernel
theorem dL_law_849 : decode cL_law 849 = .ok (.iaload, 1) := by decide +kernel
theorem dL_law_850 : decode cL_law 850 = .ok (.invokevirtual 148, 3) := by decide +kernel
theorem dL_law_853 : decode cL_law 853 = .ok (.istore 6, 2) := by decide +kernel
theorem dL_law_855 : decode cL_law 855 = .ok (.aload_n 2, 1) := by decide +kernel
theorem dL_law_856 : decode cL_law 856 = .ok (.invokevirtual 103, 3) := by decide +kernel
theorem dL_law_859 : decode cL_law 859 = .ok (.iload 5, 2) := by decide +kernel
theorem dL_law_861 : decode cL_law 861 = .ok (.if_icmp .eq 5, 3) := by decide +kernel
theorem dL_law_864 : decode cL_law 864 = .ok (.iconst 0, 1) := by decide +kernel
theorem dL_law_865 : decode cL_law 865 = .ok (.ireturn, 1) := by decide +kernel
theorem dL_law_866 : decode cL_law 866 = .ok (.iload 5, 2) := by decide +kernel
theorem dL_law_868 : decode cL_law 868 = .ok (.ifCond .ne 22, 3) := by decide +kernel
theorem dL_law_871 : decode cL_law 871 = .ok (.aload_n 3, 1) := by decide +kernel
theorem dL_law_872 : decode cL_law 872 = .ok (.iconst 0, 1) := by decide +kernel
theorem dL_law_873 : decode cL_law 873 = .ok (.laload, 1) := by decide +kernel
theorem dL_law_874 : decode cL_law 874 = .ok (.iload 6, 2) := by decide +kernel
theorem dL_law_876 : decode cL_law 876 = .ok (.ifCond .eq 7, 3) := by decide +kernel
theorem dL_law_879 : decode cL_law 879 = .ok (.lconst 1, 1) := by decide +kernel
theorem dL_law_880 : decode cL_law 880 = .ok (.goto 4, 3) := by decide +kernel
theorem dL_law_883 : decode cL_law 883 = .ok (.lconst 0, 1) := by decide +kernel
theorem dL_law_884 : decode cL_law 884 = .ok (.lcmp, 1) := by decide +kernel
theorem dL_law_885 : decode cL_law 885 = .ok (.ifCond .eq 5, 3) := by decide +kernel
theorem dL_law_888 : decode cL_law 888 = .ok (.iconst 0, 1) := by decide +kernel
theorem dL_law_889 : decode cL_law 889 = .ok (.ireturn, 1) := by decide +kernel
theorem dL_law_890 : decode cL_law 890 = .ok (.goto 993, 3) := by decide +kernel
theorem dL_law_893 : decode cL_law 893 = .ok (.aload_n 1, 1) := by decide +kernel
theorem dL_law_894 : decode cL_law 894 = .ok (.aload_n 0, 1) := by decide +kernel
theorem dL_law_895 : decode cL_law 895 = .ok (.iload 4, 2) := by decide +kernel
theorem dL_law_897 : decode cL_law 897 = .ok (.iconst 1, 1) := by decide +kernel
theorem dL_law_898 : decode cL_law 898 = .ok (.iadd, 1) := by decide +kernel
theorem dL_law_899 : decode cL_law 899 = .ok (.iaload, 1) := by decide +kernel
theorem dL_law_900 : decode cL_law 900 = .ok (.aload_n 3, 1) := by decide +kernel
theorem dL_law_901 : decode cL_law 901 = .ok (.invokestatic 149, 3) := by decide +kernel
theorem dL_law_904 : decode cL_law 904 = .ok (.istore 5, 2) := by decide +kernel
theorem dL_law_906 : decode cL_law 906 = .ok (.aload_n 2, 1) := by decide +kernel
theorem dL_law_907 : decode cL_law 907 = .ok (.aload_n 0, 1) := by decide +kernel
theorem dL_law_908 : decode cL_law 908 = .ok (.iload 4, 2) := by decide +kernel
theorem dL_law_910 : decode cL_law 910 = .ok (.iconst 1, 1) := by decide +kernel
theorem dL_law_911 : decode cL_law 911 = .ok (.iadd, 1) := by decide +kernel
theorem dL_law_912 : decode cL_law 912 = .ok (.iaload, 1) := by decide +kernel
theorem dL_law_913 : decode cL_law 913 = .ok (.invokevirtual 151, 3) := by decide +kernel
theorem dL_law_916 : decode cL_law 916 = .ok (.istore 6, 2) := by decide +kernel
theorem dL_law_918 : decode cL_law 918 = .ok (.aload_n 2, 1) := by decide +kernel
theorem dL_law_919 : decode cL_law 919 = .ok (.invokevirtual 103, 3) := by decide +kernel
theorem dL_law_922 : decode cL_law 922 = .ok (.iload 5, 2) := by decide +kernel
theorem dL_law_924 : decode cL_law 924 = .ok (.if_icmp .eq 5, 3) := by decide +kernel
theorem dL_law_927 : decode cL_law 927 = .ok (.iconst 0, 1) := by decide +kernel
theorem dL_law_928 : decode cL_law 928 = .ok (.ireturn, 1) := by decide +kernel
theorem dL_law_929 : decode cL_law 929 = .ok (.iload 5, 2) := by decide +kernel
theorem dL_law_931 : decode cL_law 931 = .ok (.ifCond .ne 22, 3) := by decide +kernel
theorem dL_law_934 : decode cL_law 934 = .ok (.aload_n 3, 1) := by decide +kernel
theorem dL_law_935 : decode cL_law 935 = .ok (.iconst 0, 1) := by decide +kernel
theorem dL_law_936 : decode cL_law 936 = .ok (.laload, 1) := by decide +kernel
theorem dL_law_937 : decode cL_law 937 = .ok (.iload 6, 2) := by decide +kernel
theorem dL_law_939 : decode cL_law 939 = .ok (.ifCond .eq 7, 3) := by decide +kernel
theorem dL_law_942 : decode cL_law 942 = .ok (.lconst 1, 1) := by decide +kernel
theorem dL_law_943 : decode cL_law 943 = .ok (.goto 4, 3) := by decide +kernel
theorem dL_law_946 : decode cL_law 946 = .ok (.lconst 0, 1) := by decide +kernel
theorem dL_law_947 : decode cL_law 947 = .ok (.lcmp, 1) := by decide +kernel
theorem dL_law_948 : decode cL_law 948 = .ok (.ifCond .eq 5, 3) := by decide +kernel
theorem dL_law_951 : decode cL_law 951 = .ok (.iconst 0, 1) := by decide +kernel
theorem dL_law_952 : decode cL_law 952 = .ok (.ireturn, 1) := by decide +kernel
theorem dL_law_953 : decode cL_law 953 = .ok (.goto 930, 3) := by decide +kernel
theorem dL_law_956 : decode cL_law 956 = .ok (.aload_n 1, 1) := by decide +kernel
theorem dL_law_957 : decode cL_law 957 = .ok (.aload_n 0, 1) := by decide +kernel
theorem dL_law_958 : decode cL_law 958 = .ok (.iload 4, 2) := by decide +kernel
theorem dL_law_960 : decode cL_law 960 = .ok (.iconst 1, 1) := by decide +kernel
theorem dL_law_961 : decode cL_law 961 = .ok (.iadd, 1) := by decide +kernel
theorem dL_law_962 : decode cL_law 962 = .ok (.iaload, 1) := by decide +kernel
theorem dL_law_963 : decode cL_law 963 = .ok (.aload_n 3, 1) := by decide +kernel
theorem dL_law_964 : decode cL_law 964 = .ok (.invokestatic 152, 3) := by decide +kernel
theorem dL_law_967 : decode cL_law 967 = .ok (.istore 5, 2) := by decide +kernel
theorem dL_law_969 : decode cL_law 969 = .ok (.aload_n 2, 1) := by decide +kernel
theorem dL_law_970 : decode cL_law 970 = .ok (.aload_n 0, 1) := by decide +kernel
theorem dL_law_971 : decode cL_law 971 = .ok (.iload 4, 2) := by decide +kernel
theorem dL_law_973 : decode cL_law 973 = .ok (.iconst 1, 1) := by decide +kernel
theorem dL_law_974 : decode cL_law 974 = .ok (.iadd, 1) := by decide +kernel
theorem dL_law_975 : decode cL_law 975 = .ok (.iaload, 1) := by decide +kernel
theorem dL_law_976 : decode cL_law 976 = .ok (.invokevirtual 154, 3) := by decide +kernel
theorem dL_law_979 : decode cL_law 979 = .ok (.istore 6, 2) := by decide +kernel
theorem dL_law_981 : decode cL_law 981 = .ok (.aload_n 2, 1) := by decide +kernel
theorem dL_law_982 : decode cL_law 982 = .ok (.invokevirtual 103, 3) := by decide +kernel
theorem dL_law_985 : decode cL_law 985 = .ok (.iload 5, 2) := by decide +kernel
theorem dL_law_987 : decode cL_law 987 = .ok (.if_icmp .eq 5, 3) := by decide +kernel
theorem dL_law_990 : decode cL_law 990 = .ok (.iconst 0, 1) := by decide +kernel
theorem dL_law_991 : decode cL_law 991 = .ok (.ireturn, 1) := by decide +kernel
theorem dL_law_992 : decode cL_law 992 = .ok (.iload 5, 2) := by decide +kernel
theorem dL_law_994 : decode cL_law 994 = .ok (.ifCond .ne 22, 3) := by decide +kernel
theorem dL_law_997 : decode cL_law 997 = .ok (.aload_n 3, 1) := by decide +kernel
theorem dL_law_998 : decode cL_law 998 = .ok (.iconst 0, 1) := by decide +kernel
theorem dL_law_999 : decode cL_law 999 = .ok (.laload, 1) := by decide +kernel
theorem dL_law_1000 : decode cL_law 1000 = .ok (.iload 6, 2) := by decide +kernel
theorem dL_law_1002 : decode cL_law 1002 = .ok (.ifCond .eq 7, 3) := by decide +kernel
theorem dL_law_1005 : decode cL_law 1005 = .ok (.lconst 1, 1) := by decide +kernel
theorem dL_law_1006 : decode cL_law 1006 = .ok (.goto 4, 3) := by decide +kernel
theorem dL_law_1009 : decode cL_law 1009 = .ok (.lconst 0, 1) := by decide +kernel
theorem dL_law_1010 : decode cL_law 1010 = .ok (.lcmp, 1) := by decide +kernel
theorem dL_law_1011 : decode cL_law 1011 = .ok (.ifCond .eq 5, 3) := by decide +kernel
theorem dL_law_1014 : decode cL_law 1014 = .ok (.iconst 0, 1) := by decide +kernel
theorem dL_law_1015 : decode cL_law 1015 = .ok (.ireturn, 1) := by decide +kernel
theorem dL_law_1016 : decode cL_law 1016 = .ok (.goto 867, 3) := by decide +kernel
theorem dL_law_1019 : decode cL_law 1019 = .ok (.aload_n 1, 1) := by decide +kernel
theorem dL_law_1020 : decode cL_law 1020 = .ok (.invokevirtual 155, 3) := by decide +kernel
theorem dL_law_1023 : decode cL_law 1023 = .ok (.aload_n 2, 1) := by decide +kernel
theorem dL_law_1024 : decode cL_law 1024 = .ok (.invokevirtual 158, 3) := by decide +kernel
theorem dL_law_1027 : decode cL_law 1027 = .ok (.if_icmp .eq 856, 3) := by decide +kernel
theorem dL_law_1030 : decode cL_law 1030 = .ok (.iconst 0, 1) := by decide +kernel
theorem dL_law_1031 : decode cL_law 1031 = .ok (.ireturn, 1) := by decide +kernel
theorem dL_law_1032 : decode cL_law 1032 = .ok (.aload_n 1, 1) := by decide +kernel
theorem dL_law_1033 : decode cL_law 1033 = .ok (.invokevirtual 159, 3) := by decide +kernel
theorem dL_law_1036 : decode cL_law 1036 = .ok (.aload_n 2, 1) := by decide +kernel
theorem dL_law_1037 : decode cL_law 1037 = .ok (.invokevirtual 163, 3) := by decide +kernel
theorem dL_law_1040 : decode cL_law 1040 = .ok (.if_icmp .eq 843, 3) := by decide +kernel
theorem dL_law_1043 : decode cL_law 1043 = .ok (.iconst 0, 1) := by decide +kernel
theorem dL_law_1044 : decode cL_law 1044 = .ok (.ireturn, 1) := by decide +kernel
theorem dL_law_1045 : decode cL_law 1045 = .ok (.aload_n 1, 1) := by decide +kernel
theorem dL_law_1046 : decode cL_law 1046 = .ok (.aload_n 0, 1) := by decide +kernel
theorem dL_law_1047 : decode cL_law 1047 = .ok (.iload 4, 2) := by decide +kernel
theorem dL_law_1049 : decode cL_law 1049 = .ok (.iconst 1, 1) := by decide +kernel
theorem dL_law_1050 : decode cL_law 1050 = .ok (.iadd, 1) := by decide +kernel
theorem dL_law_1051 : decode cL_law 1051 = .ok (.iaload, 1) := by decide +kernel
theorem dL_law_1052 : decode cL_law 1052 = .ok (.aload_n 0, 1) := by decide +kernel
theorem dL_law_1053 : decode cL_law 1053 = .ok (.iload 4, 2) := by decide +kernel
theorem dL_law_1055 : decode cL_law 1055 = .ok (.iconst 2, 1) := by decide +kernel
theorem dL_law_1056 : decode cL_law 1056 = .ok (.iadd, 1) := by decide +kernel
theorem dL_law_1057 : decode cL_law 1057 = .ok (.iaload, 1) := by decide +kernel
theorem dL_law_1058 : decode cL_law 1058 = .ok (.aload_n 3, 1) := by decide +kernel
theorem dL_law_1059 : decode cL_law 1059 = .ok (.invokestatic 164, 3) := by decide +kernel
theorem dL_law_1062 : decode cL_law 1062 = .ok (.istore 5, 2) := by decide +kernel
theorem dL_law_1064 : decode cL_law 1064 = .ok (.aload_n 2, 1) := by decide +kernel
theorem dL_law_1065 : decode cL_law 1065 = .ok (.aload_n 0, 1) := by decide +kernel
theorem dL_law_1066 : decode cL_law 1066 = .ok (.iload 4, 2) := by decide +kernel
theorem dL_law_1068 : decode cL_law 1068 = .ok (.iconst 1, 1) := by decide +kernel
theorem dL_law_1069 : decode cL_law 1069 = .ok (.iadd, 1) := by decide +kernel
theorem dL_law_1070 : decode cL_law 1070 = .ok (.iaload, 1) := by decide +kernel
theorem dL_law_1071 : decode cL_law 1071 = .ok (.aload_n 0, 1) := by decide +kernel
theorem dL_law_1072 : decode cL_law 1072 = .ok (.iload 4, 2) := by decide +kernel
theorem dL_law_1074 : decode cL_law 1074 = .ok (.iconst 2, 1) := by decide +kernel
theorem dL_law_1075 : decode cL_law 1075 = .ok (.iadd, 1) := by decide +kernel
theorem dL_law_1076 : decode cL_law 1076 = .ok (.iaload, 1) := by decide +kernel
theorem dL_law_1077 : decode cL_law 1077 = .ok (.invokevirtual 166, 3) := by decide +kernel
theorem dL_law_1080 : decode cL_law 1080 = .ok (.istore 6, 2) := by decide +kernel
theorem dL_law_1082 : decode cL_law 1082 = .ok (.aload_n 2, 1) := by decide +kernel
theorem dL_law_1083 : decode cL_law 1083 = .ok (.invokevirtual 103, 3) := by decide +kernel
theorem dL_law_1086 : decode cL_law 1086 = .ok (.iload 5, 2) := by decide +kernel
theorem dL_law_1088 : decode cL_law 1088 = .ok (.if_icmp .eq 5, 3) := by decide +kernel
theorem dL_law_1091 : decode cL_law 1091 = .ok (.iconst 0, 1) := by decide +kernel
theorem dL_law_1092 : decode cL_law 1092 = .ok (.ireturn, 1) := by decide +kernel
theorem dL_law_1093 : decode cL_law 1093 = .ok (.iload 5, 2) := by decide +kernel
theorem dL_law_1095 : decode cL_law 1095 = .ok (.ifCond .ne 22, 3) := by decide +kernel
theorem dL_law_1098 : decode cL_law 1098 = .ok (.aload_n 3, 1) := by decide +kernel
theorem dL_law_1099 : decode cL_law 1099 = .ok (.iconst 0, 1) := by decide +kernel
theorem dL_law_1100 : decode cL_law 1100 = .ok (.laload, 1) := by decide +kernel
theorem dL_law_1101 : decode cL_law 1101 = .ok (.iload 6, 2) := by decide +kernel
theorem dL_law_1103 : decode cL_law 1103 = .ok (.ifCond .eq 7, 3) := by decide +kernel
theorem dL_law_1106 : decode cL_law 1106 = .ok (.lconst 1, 1) := by decide +kernel
theorem dL_law_1107 : decode cL_law 1107 = .ok (.goto 4, 3) := by decide +kernel
theorem dL_law_1110 : decode cL_law 1110 = .ok (.lconst 0, 1) := by decide +kernel
theorem dL_law_1111 : decode cL_law 1111 = .ok (.lcmp, 1) := by decide +kernel
theorem dL_law_1112 : decode cL_law 1112 = .ok (.ifCond .eq 5, 3) := by decide +kernel
theorem dL_law_1115 : decode cL_law 1115 = .ok (.iconst 0, 1) := by decide +kernel
theorem dL_law_1116 : decode cL_law 1116 = .ok (.ireturn, 1) := by decide +kernel
theorem dL_law_1117 : decode cL_law 1117 = .ok (.goto 766, 3) := by decide +kernel
theorem dL_law_1120 : decode cL_law 1120 = .ok (.aload_n 1, 1) := by decide +kernel
theorem dL_law_1121 : decode cL_law 1121 = .ok (.aload_n 0, 1) := by decide +kernel
theorem dL_law_1122 : decode cL_law 1122 = .ok (.iload 4, 2) := by decide +kernel
theorem dL_law_1124 : decode cL_law 1124 = .ok (.iconst 1, 1) := by decide +kernel
theorem dL_law_1125 : decode cL_law 1125 = .ok (.iadd, 1) := by decide +kernel
theorem dL_law_1126 : decode cL_law 1126 = .ok (.iaload, 1) := by decide +kernel
theorem dL_law_1127 : decode cL_law 1127 = .ok (.aload_n 0, 1) := by decide +kernel
theorem dL_law_1128 : decode cL_law 1128 = .ok (.iload 4, 2) := by decide +kernel
theorem dL_law_1130 : decode cL_law 1130 = .ok (.iconst 2, 1) := by decide +kernel
theorem dL_law_1131 : decode cL_law 1131 = .ok (.iadd, 1) := by decide +kernel
theorem dL_law_1132 : decode cL_law 1132 = .ok (.iaload, 1) := by decide +kernel
theorem dL_law_1133 : decode cL_law 1133 = .ok (.aload_n 3, 1) := by decide +kernel
theorem dL_law_1134 : decode cL_law 1134 = .ok (.invokestatic 167, 3) := by decide +kernel
theorem dL_law_1137 : decode cL_law 1137 = .ok (.istore 5, 2) := by decide +kernel
theorem dL_law_1139 : decode cL_law 1139 = .ok (.aload_n 2, 1) := by decide +kernel
theorem dL_law_1140 : decode cL_law 1140 = .ok (.aload_n 0, 1) := by decide +kernel
theorem dL_law_1141 : decode cL_law 1141 = .ok (.iload 4, 2) := by decide +kernel
theorem dL_law_1143 : decode cL_law 1143 = .ok (.iconst 1, 1) := by decide +kernel
theorem dL_law_1144 : decode cL_law 1144 = .ok (.iadd, 1) := by decide +kernel
theorem dL_law_1145 : decode cL_law 1145 = .ok (.iaload, 1) := by decide +kernel
theorem dL_law_1146 : decode cL_law 1146 = .ok (.aload_n 0, 1) := by decide +kernel
theorem dL_law_1147 : decode cL_law 1147 = .ok (.iload 4, 2) := by decide +kernel
theorem dL_law_1149 : decode cL_law 1149 = .ok (.iconst 2, 1) := by decide +kernel
theorem dL_law_1150 : decode cL_law 1150 = .ok (.iadd, 1) := by decide +kernel
theorem dL_law_1151 : decode cL_law 1151 = .ok (.iaload, 1) := by decide +kernel
theorem dL_law_1152 : decode cL_law 1152 = .ok (.invokevirtual 169, 3) := by decide +kernel
theorem dL_law_1155 : decode cL_law 1155 = .ok (.istore 6, 2) := by decide +kernel
theorem dL_law_1157 : decode cL_law 1157 = .ok (.aload_n 2, 1) := by decide +kernel
theorem dL_law_1158 : decode cL_law 1158 = .ok (.invokevirtual 103, 3) := by decide +kernel
theorem dL_law_1161 : decode cL_law 1161 = .ok (.iload 5, 2) := by decide +kernel
theorem dL_law_1163 : decode cL_law 1163 = .ok (.if_icmp .eq 5, 3) := by decide +kernel
theorem dL_law_1166 : decode cL_law 1166 = .ok (.iconst 0, 1) := by decide +kernel
theorem dL_law_1167 : decode cL_law 1167 = .ok (.ireturn, 1) := by decide +kernel
theorem dL_law_1168 : decode cL_law 1168 = .ok (.iload 5, 2) := by decide +kernel
theorem dL_law_1170 : decode cL_law 1170 = .ok (.ifCond .ne 15, 3) := by decide +kernel
theorem dL_law_1173 : decode cL_law 1173 = .ok (.aload_n 3, 1) := by decide +kernel
theorem dL_law_1174 : decode cL_law 1174 = .ok (.iconst 0, 1) := by decide +kernel
theorem dL_law_1175 : decode cL_law 1175 = .ok (.laload, 1) := by decide +kernel
theorem dL_law_1176 : decode cL_law 1176 = .ok (.iload 6, 2) := by decide +kernel
theorem dL_law_1178 : decode cL_law 1178 = .ok (.i2l, 1) := by decide +kernel
theorem dL_law_1179 : decode cL_law 1179 = .ok (.lcmp, 1) := by decide +kernel
theorem dL_law_1180 : decode cL_law 1180 = .ok (.ifCond .eq 5, 3) := by decide +kernel
theorem dL_law_1183 : decode cL_law 1183 = .ok (.iconst 0, 1) := by decide +kernel
theorem dL_law_1184 : decode cL_law 1184 = .ok (.ireturn, 1) := by decide +kernel
theorem dL_law_1185 : decode cL_law 1185 = .ok (.goto 698, 3) := by decide +kernel
theorem dL_law_1188 : decode cL_law 1188 = .ok (.aload_n 1, 1) := by decide +kernel
theorem dL_law_1189 : decode cL_law 1189 = .ok (.aload_n 0, 1) := by decide +kernel
theorem dL_law_1190 : decode cL_law 1190 = .ok (.iload 4, 2) := by decide +kernel
theorem dL_law_1192 : decode cL_law 1192 = .ok (.iconst 1, 1) := by decide +kernel
theorem dL_law_1193 : decode cL_law 1193 = .ok (.iadd, 1) := by decide +kernel
theorem dL_law_1194 : decode cL_law 1194 = .ok (.iaload, 1) := by decide +kernel
theorem dL_law_1195 : decode cL_law 1195 = .ok (.aload_n 3, 1) := by decide +kernel
theorem dL_law_1196 : decode cL_law 1196 = .ok (.invokestatic 170, 3) := by decide +kernel
theorem dL_law_1199 : decode cL_law 1199 = .ok (.istore 5, 2) := by decide +kernel
theorem dL_law_1201 : decode cL_law 1201 = .ok (.aload_n 2, 1) := by decide +kernel
theorem dL_law_1202 : decode cL_law 1202 = .ok (.aload_n 0, 1) := by decide +kernel
theorem dL_law_1203 : decode cL_law 1203 = .ok (.iload 4, 2) := by decide +kernel
theorem dL_law_1205 : decode cL_law 1205 = .ok (.iconst 1, 1) := by decide +kernel
theorem dL_law_1206 : decode cL_law 1206 = .ok (.iadd, 1) := by decide +kernel
theorem dL_law_1207 : decode cL_law 1207 = .ok (.iaload, 1) := by decide +kernel
theorem dL_law_1208 : decode cL_law 1208 = .ok (.invokevirtual 172, 3) := by decide +kernel
theorem dL_law_1211 : decode cL_law 1211 = .ok (.istore 6, 2) := by decide +kernel
theorem dL_law_1213 : decode cL_law 1213 = .ok (.aload_n 2, 1) := by decide +kernel
theorem dL_law_1214 : decode cL_law 1214 = .ok (.invokevirtual 103, 3) := by decide +kernel
theorem dL_law_1217 : decode cL_law 1217 = .ok (.iload 5, 2) := by decide +kernel
theorem dL_law_1219 : decode cL_law 1219 = .ok (.if_icmp .eq 5, 3) := by decide +kernel
theorem dL_law_1222 : decode cL_law 1222 = .ok (.iconst 0, 1) := by decide +kernel
theorem dL_law_1223 : decode cL_law 1223 = .ok (.ireturn, 1) := by decide +kernel
theorem dL_law_1224 : decode cL_law 1224 = .ok (.iload 5, 2) := by decide +kernel
theorem dL_law_1226 : decode cL_law 1226 = .ok (.ifCond .ne 22, 3) := by decide +kernel
theorem dL_law_1229 : decode cL_law 1229 = .ok (.aload_n 3, 1) := by decide +kernel
theorem dL_law_1230 : decode cL_law 1230 = .ok (.iconst 0, 1) := by decide +kernel
theorem dL_law_1231 : decode cL_law 1231 = .ok (.laload, 1) := by decide +kernel
theorem dL_law_1232 : decode cL_law 1232 = .ok (.iload 6, 2) := by decide +kernel
theorem dL_law_1234 : decode cL_law 1234 = .ok (.ifCond .eq 7, 3) := by decide +kernel
theorem dL_law_1237 : decode cL_law 1237 = .ok (.lconst 1, 1) := by decide +kernel
theorem dL_law_1238 : decode cL_law 1238 = .ok (.goto 4, 3) := by decide +kernel
theorem dL_law_1241 : decode cL_law 1241 = .ok (.lconst 0, 1) := by decide +kernel
theorem dL_law_1242 : decode cL_law 1242 = .ok (.lcmp, 1) := by decide +kernel
theorem dL_law_1243 : decode cL_law 1243 = .ok (.ifCond .eq 5, 3) := by decide +kernel
theorem dL_law_1246 : decode cL_law 1246 = .ok (.iconst 0, 1) := by decide +kernel
theorem dL_law_1247 : decode cL_law 1247 = .ok (.ireturn, 1) := by decide +kernel
theorem dL_law_1248 : decode cL_law 1248 = .ok (.goto 635, 3) := by decide +kernel
theorem dL_law_1251 : decode cL_law 1251 = .ok (.aload_n 1, 1) := by decide +kernel
theorem dL_law_1252 : decode cL_law 1252 = .ok (.aload_n 0, 1) := by decide +kernel
theorem dL_law_1253 : decode cL_law 1253 = .ok (.iload 4, 2) := by decide +kernel
theorem dL_law_1255 : decode cL_law 1255 = .ok (.iconst 1, 1) := by decide +kernel
theorem dL_law_1256 : decode cL_law 1256 = .ok (.iadd, 1) := by decide +kernel
theorem dL_law_1257 : decode cL_law 1257 = .ok (.iaload, 1) := by decide +kernel
theorem dL_law_1258 : decode cL_law 1258 = .ok (.aload_n 3, 1) := by decide +kernel
theorem dL_law_1259 : decode cL_law 1259 = .ok (.invokestatic 173, 3) := by decide +kernel
theorem dL_law_1262 : decode cL_law 1262 = .ok (.istore 5, 2) := by decide +kernel
theorem dL_law_1264 : decode cL_law 1264 = .ok (.aload_n 2, 1) := by decide +kernel
theorem dL_law_1265 : decode cL_law 1265 = .ok (.aload_n 0, 1) := by decide +kernel
theorem dL_law_1266 : decode cL_law 1266 = .ok (.iload 4, 2) := by decide +kernel
theorem dL_law_1268 : decode cL_law 1268 = .ok (.iconst 1, 1) := by decide +kernel
theorem dL_law_1269 : decode cL_law 1269 = .ok (.iadd, 1) := by decide +kernel
theorem dL_law_1270 : decode cL_law 1270 = .ok (.iaload, 1) := by decide +kernel
theorem dL_law_1271 : decode cL_law 1271 = .ok (.invokevirtual 175, 3) := by decide +kernel
theorem dL_law_1274 : decode cL_law 1274 = .ok (.istore 6, 2) := by decide +kernel
theorem dL_law_1276 : decode cL_law 1276 = .ok (.aload_n 2, 1) := by decide +kernel
theorem dL_law_1277 : decode cL_law 1277 = .ok (.invokevirtual 103, 3) := by decide +kernel
theorem dL_law_1280 : decode cL_law 1280 = .ok (.iload 5, 2) := by decide +kernel
theorem dL_law_1282 : decode cL_law 1282 = .ok (.if_icmp .eq 5, 3) := by decide +kernel
theorem dL_law_1285 : decode cL_law 1285 = .ok (.iconst 0, 1) := by decide +kernel
theorem dL_law_1286 : decode cL_law 1286 = .ok (.ireturn, 1) := by decide +kernel
theorem dL_law_1287 : decode cL_law 1287 = .ok (.iload 5, 2) := by decide +kernel
theorem dL_law_1289 : decode cL_law 1289 = .ok (.ifCond .ne 15, 3) := by decide +kernel
theorem dL_law_1292 : decode cL_law 1292 = .ok (.aload_n 3, 1) := by decide +kernel
theorem dL_law_1293 : decode cL_law 1293 = .ok (.iconst 0, 1) := by decide +kernel
theorem dL_law_1294 : decode cL_law 1294 = .ok (.laload, 1) := by decide +kernel
theorem dL_law_1295 : decode cL_law 1295 = .ok (.iload 6, 2) := by decide +kernel
theorem dL_law_1297 : decode cL_law 1297 = .ok (.i2l, 1) := by decide +kernel
theorem dL_law_1298 : decode cL_law 1298 = .ok (.lcmp, 1) := by decide +kernel
theorem dL_law_1299 : decode cL_law 1299 = .ok (.ifCond .eq 5, 3) := by decide +kernel
theorem dL_law_1302 : decode cL_law 1302 = .ok (.iconst 0, 1) := by decide +kernel
theorem dL_law_1303 : decode cL_law 1303 = .ok (.ireturn, 1) := by decide +kernel
theorem dL_law_1304 : decode cL_law 1304 = .ok (.goto 579, 3) := by decide +kernel
theorem dL_law_1307 : decode cL_law 1307 = .ok (.aload_n 1, 1) := by decide +kernel
theorem dL_law_1308 : decode cL_law 1308 = .ok (.aload_n 0, 1) := by decide +kernel
theorem dL_law_1309 : decode cL_law 1309 = .ok (.iload 4, 2) := by decide +kernel
theorem dL_law_1311 : decode cL_law 1311 = .ok (.iconst 1, 1) := by decide +kernel
theorem dL_law_1312 : decode cL_law 1312 = .ok (.iadd, 1) := by decide +kernel
theorem dL_law_1313 : decode cL_law 1313 = .ok (.iaload, 1) := by decide +kernel
theorem dL_law_1314 : decode cL_law 1314 = .ok (.aload_n 3, 1) := by decide +kernel
theorem dL_law_1315 : decode cL_law 1315 = .ok (.invokestatic 176, 3) := by decide +kernel
theorem dL_law_1318 : decode cL_law 1318 = .ok (.istore 5, 2) := by decide +kernel
theorem dL_law_1320 : decode cL_law 1320 = .ok (.aload_n 2, 1) := by decide +kernel
theorem dL_law_1321 : decode cL_law 1321 = .ok (.aload_n 0, 1) := by decide +kernel
theorem dL_law_1322 : decode cL_law 1322 = .ok (.iload 4, 2) := by decide +kernel
theorem dL_law_1324 : decode cL_law 1324 = .ok (.iconst 1, 1) := by decide +kernel
theorem dL_law_1325 : decode cL_law 1325 = .ok (.iadd, 1) := by decide +kernel
theorem dL_law_1326 : decode cL_law 1326 = .ok (.iaload, 1) := by decide +kernel
theorem dL_law_1327 : decode cL_law 1327 = .ok (.invokevirtual 178, 3) := by decide +kernel
theorem dL_law_1330 : decode cL_law 1330 = .ok (.istore 6, 2) := by decide +kernel
theorem dL_law_1332 : decode cL_law 1332 = .ok (.aload_n 2, 1) := by decide +kernel
theorem dL_law_1333 : decode cL_law 1333 = .ok (.invokevirtual 103, 3) := by decide +kernel
theorem dL_law_1336 : decode cL_law 1336 = .ok (.iload 5, 2) := by decide +kernel
theorem dL_law_1338 : decode cL_law 1338 = .ok (.if_icmp .eq 5, 3) := by decide +kernel
theorem dL_law_1341 : decode cL_law 1341 = .ok (.iconst 0, 1) := by decide +kernel
theorem dL_law_1342 : decode cL_law 1342 = .ok (.ireturn, 1) := by decide +kernel
theorem dL_law_1343 : decode cL_law 1343 = .ok (.iload 5, 2) := by decide +kernel
theorem dL_law_1345 : decode cL_law 1345 = .ok (.ifCond .ne 15, 3) := by decide +kernel
theorem dL_law_1348 : decode cL_law 1348 = .ok (.aload_n 3, 1) := by decide +kernel
theorem dL_law_1349 : decode cL_law 1349 = .ok (.iconst 0, 1) := by decide +kernel
theorem dL_law_1350 : decode cL_law 1350 = .ok (.laload, 1) := by decide +kernel
theorem dL_law_1351 : decode cL_law 1351 = .ok (.iload 6, 2) := by decide +kernel
theorem dL_law_1353 : decode cL_law 1353 = .ok (.i2l, 1) := by decide +kernel
theorem dL_law_1354 : decode cL_law 1354 = .ok (.lcmp, 1) := by decide +kernel
theorem dL_law_1355 : decode cL_law 1355 = .ok (.ifCond .eq 5, 3) := by decide +kernel
theorem dL_law_1358 : decode cL_law 1358 = .ok (.iconst 0, 1) := by decide +kernel
theorem dL_law_1359 : decode cL_law 1359 = .ok (.ireturn, 1) := by decide +kernel
theorem dL_law_1360 : decode cL_law 1360 = .ok (.goto 523, 3) := by decide +kernel
theorem dL_law_1363 : decode cL_law 1363 = .ok (.aload_n 1, 1) := by decide +kernel
theorem dL_law_1364 : decode cL_law 1364 = .ok (.aload_n 0, 1) := by decide +kernel
theorem dL_law_1365 : decode cL_law 1365 = .ok (.iload 4, 2) := by decide +kernel
theorem dL_law_1367 : decode cL_law 1367 = .ok (.iconst 1, 1) := by decide +kernel
theorem dL_law_1368 : decode cL_law 1368 = .ok (.iadd, 1) := by decide +kernel
theorem dL_law_1369 : decode cL_law 1369 = .ok (.iaload, 1) := by decide +kernel
theorem dL_law_1370 : decode cL_law 1370 = .ok (.aload_n 0, 1) := by decide +kernel
theorem dL_law_1371 : decode cL_law 1371 = .ok (.iload 4, 2) := by decide +kernel
theorem dL_law_1373 : decode cL_law 1373 = .ok (.iconst 2, 1) := by decide +kernel
theorem dL_law_1374 : decode cL_law 1374 = .ok (.iadd, 1) := by decide +kernel
theorem dL_law_1375 : decode cL_law 1375 = .ok (.iaload, 1) := by decide +kernel
theorem dL_law_1376 : decode cL_law 1376 = .ok (.aload_n 3, 1) := by decide +kernel
theorem dL_law_1377 : decode cL_law 1377 = .ok (.invokestatic 179, 3) := by decide +kernel
theorem dL_law_1380 : decode cL_law 1380 = .ok (.istore 5, 2) := by decide +kernel
theorem dL_law_1382 : decode cL_law 1382 = .ok (.aload_n 2, 1) := by decide +kernel
theorem dL_law_1383 : decode cL_law 1383 = .ok (.aload_n 0, 1) := by decide +kernel
theorem dL_law_1384 : decode cL_law 1384 = .ok (.iload 4, 2) := by decide +kernel
theorem dL_law_1386 : decode cL_law 1386 = .ok (.iconst 1, 1) := by decide +kernel
theorem dL_law_1387 : decode cL_law 1387 = .ok (.iadd, 1) := by decide +kernel
theorem dL_law_1388 : decode cL_law 1388 = .ok (.iaload, 1) := by decide +kernel
theorem dL_law_1389 : decode cL_law 1389 = .ok (.aload_n 0, 1) := by decide +kernel
theorem dL_law_1390 : decode cL_law 1390 = .ok (.iload 4, 2) := by decide +kernel
theorem dL_law_1392 : decode cL_law 1392 = .ok (.iconst 2, 1) := by decide +kernel
theorem dL_law_1393 : decode cL_law 1393 = .ok (.iadd, 1) := by decide +kernel
theorem dL_law_1394 : decode cL_law 1394 = .ok (.iaload, 1) := by decide +kernel
theorem dL_law_1395 : decode cL_law 1395 = .ok (.invokevirtual 181, 3) := by decide +kernel
theorem dL_law_1398 : decode cL_law 1398 = .ok (.istore 6, 2) := by decide +kernel
theorem dL_law_1400 : decode cL_law 1400 = .ok (.aload_n 2, 1) := by decide +kernel
theorem dL_law_1401 : decode cL_law 1401 = .ok (.invokevirtual 103, 3) := by decide +kernel
theorem dL_law_1404 : decode cL_law 1404 = .ok (.iload 5, 2) := by decide +kernel
theorem dL_law_1406 : decode cL_law 1406 = .ok (.if_icmp .eq 5, 3) := by decide +kernel
theorem dL_law_1409 : decode cL_law 1409 = .ok (.iconst 0, 1) := by decide +kernel
theorem dL_law_1410 : decode cL_law 1410 = .ok (.ireturn, 1) := by decide +kernel
theorem dL_law_1411 : decode cL_law 1411 = .ok (.iload 5, 2) := by decide +kernel
theorem dL_law_1413 : decode cL_law 1413 = .ok (.ifCond .ne 15, 3) := by decide +kernel
theorem dL_law_1416 : decode cL_law 1416 = .ok (.aload_n 3, 1) := by decide +kernel
theorem dL_law_1417 : decode cL_law 1417 = .ok (.iconst 0, 1) := by decide +kernel
theorem dL_law_1418 : decode cL_law 1418 = .ok (.laload, 1) := by decide +kernel
theorem dL_law_1419 : decode cL_law 1419 = .ok (.iload 6, 2) := by decide +kernel
theorem dL_law_1421 : decode cL_law 1421 = .ok (.i2l, 1) := by decide +kernel
theorem dL_law_1422 : decode cL_law 1422 = .ok (.lcmp, 1) := by decide +kernel
theorem dL_law_1423 : decode cL_law 1423 = .ok (.ifCond .eq 5, 3) := by decide +kernel
theorem dL_law_1426 : decode cL_law 1426 = .ok (.iconst 0, 1) := by decide +kernel
theorem dL_law_1427 : decode cL_law 1427 = .ok (.ireturn, 1) := by decide +kernel
theorem dL_law_1428 : decode cL_law 1428 = .ok (.goto 455, 3) := by decide +kernel
theorem dL_law_1431 : decode cL_law 1431 = .ok (.aload_n 1, 1) := by decide +kernel
theorem dL_law_1432 : decode cL_law 1432 = .ok (.aload_n 0, 1) := by decide +kernel
theorem dL_law_1433 : decode cL_law 1433 = .ok (.iload 4, 2) := by decide +kernel
theorem dL_law_1435 : decode cL_law 1435 = .ok (.iconst 1, 1) := by decide +kernel
theorem dL_law_1436 : decode cL_law 1436 = .ok (.iadd, 1) := by decide +kernel
theorem dL_law_1437 : decode cL_law 1437 = .ok (.iaload, 1) := by decide +kernel
theorem dL_law_1438 : decode cL_law 1438 = .ok (.aload_n 0, 1) := by decide +kernel
theorem dL_law_1439 : decode cL_law 1439 = .ok (.iload 4, 2) := by decide +kernel
theorem dL_law_1441 : decode cL_law 1441 = .ok (.iconst 2, 1) := by decide +kernel
theorem dL_law_1442 : decode cL_law 1442 = .ok (.iadd, 1) := by decide +kernel
theorem dL_law_1443 : decode cL_law 1443 = .ok (.iaload, 1) := by decide +kernel
theorem dL_law_1444 : decode cL_law 1444 = .ok (.aload_n 3, 1) := by decide +kernel
theorem dL_law_1445 : decode cL_law 1445 = .ok (.invokestatic 182, 3) := by decide +kernel
theorem dL_law_1448 : decode cL_law 1448 = .ok (.istore 5, 2) := by decide +kernel
theorem dL_law_1450 : decode cL_law 1450 = .ok (.aload_n 2, 1) := by decide +kernel
theorem dL_law_1451 : decode cL_law 1451 = .ok (.aload_n 0, 1) := by decide +kernel
theorem dL_law_1452 : decode cL_law 1452 = .ok (.iload 4, 2) := by decide +kernel
theorem dL_law_1454 : decode cL_law 1454 = .ok (.iconst 1, 1) := by decide +kernel
theorem dL_law_1455 : decode cL_law 1455 = .ok (.iadd, 1) := by decide +kernel
theorem dL_law_1456 : decode cL_law 1456 = .ok (.iaload, 1) := by decide +kernel
theorem dL_law_1457 : decode cL_law 1457 = .ok (.aload_n 0, 1) := by decide +kernel
theorem dL_law_1458 : decode cL_law 1458 = .ok (.iload 4, 2) := by decide +kernel
theorem dL_law_1460 : decode cL_law 1460 = .ok (.iconst 2, 1) := by decide +kernel
theorem dL_law_1461 : decode cL_law 1461 = .ok (.iadd, 1) := by decide +kernel
theorem dL_law_1462 : decode cL_law 1462 = .ok (.iaload, 1) := by decide +kernel
theorem dL_law_1463 : decode cL_law 1463 = .ok (.invokevirtual 184, 3) := by decide +kernel
theorem dL_law_1466 : decode cL_law 1466 = .ok (.istore 6, 2) := by decide +kernel
theorem dL_law_1468 : decode cL_law 1468 = .ok (.aload_n 2, 1) := by decide +kernel
theorem dL_law_1469 : decode cL_law 1469 = .ok (.invokevirtual 103, 3) := by decide +kernel
theorem dL_law_1472 : decode cL_law 1472 = .ok (.iload 5, 2) := by decide +kernel
theorem dL_law_1474 : decode cL_law 1474 = .ok (.if_icmp .eq 5, 3) := by decide +kernel
theorem dL_law_1477 : decode cL_law 1477 = .ok (.iconst 0, 1) := by decide +kernel
theorem dL_law_1478 : decode cL_law 1478 = .ok (.ireturn, 1) := by decide +kernel
theorem dL_law_1479 : decode cL_law 1479 = .ok (.iload 5, 2) := by decide +kernel
theorem dL_law_1481 : decode cL_law 1481 = .ok (.ifCond .ne 15, 3) := by decide +kernel
theorem dL_law_1484 : decode cL_law 1484 = .ok (.aload_n 3, 1) := by decide +kernel
theorem dL_law_1485 : decode cL_law 1485 = .ok (.iconst 0, 1) := by decide +kernel
theorem dL_law_1486 : decode cL_law 1486 = .ok (.laload, 1) := by decide +kernel
theorem dL_law_1487 : decode cL_law 1487 = .ok (.iload 6, 2) := by decide +kernel
theorem dL_law_1489 : decode cL_law 1489 = .ok (.i2l, 1) := by decide +kernel
theorem dL_law_1490 : decode cL_law 1490 = .ok (.lcmp, 1) := by decide +kernel
theorem dL_law_1491 : decode cL_law 1491 = .ok (.ifCond .eq 5, 3) := by decide +kernel
theorem dL_law_1494 : decode cL_law 1494 = .ok (.iconst 0, 1) := by decide +kernel
theorem dL_law_1495 : decode cL_law 1495 = .ok (.ireturn, 1) := by decide +kernel
theorem dL_law_1496 : decode cL_law 1496 = .ok (.goto 387, 3) := by decide +kernel
theorem dL_law_1499 : decode cL_law 1499 = .ok (.aload_n 1, 1) := by decide +kernel
theorem dL_law_1500 : decode cL_law 1500 = .ok (.aload_n 0, 1) := by decide +kernel
theorem dL_law_1501 : decode cL_law 1501 = .ok (.iload 4, 2) := by decide +kernel
theorem dL_law_1503 : decode cL_law 1503 = .ok (.iconst 1, 1) := by decide +kernel
theorem dL_law_1504 : decode cL_law 1504 = .ok (.iadd, 1) := by decide +kernel
theorem dL_law_1505 : decode cL_law 1505 = .ok (.iaload, 1) := by decide +kernel
theorem dL_law_1506 : decode cL_law 1506 = .ok (.aload_n 0, 1) := by decide +kernel
theorem dL_law_1507 : decode cL_law 1507 = .ok (.iload 4, 2) := by decide +kernel
theorem dL_law_1509 : decode cL_law 1509 = .ok (.iconst 2, 1) := by decide +kernel
theorem dL_law_1510 : decode cL_law 1510 = .ok (.iadd, 1) := by decide +kernel
theorem dL_law_1511 : decode cL_law 1511 = .ok (.iaload, 1) := by decide +kernel
theorem dL_law_1512 : decode cL_law 1512 = .ok (.aload_n 0, 1) := by decide +kernel
theorem dL_law_1513 : decode cL_law 1513 = .ok (.iload 4, 2) := by decide +kernel
theorem dL_law_1515 : decode cL_law 1515 = .ok (.iconst 3, 1) := by decide +kernel
theorem dL_law_1516 : decode cL_law 1516 = .ok (.iadd, 1) := by decide +kernel
theorem dL_law_1517 : decode cL_law 1517 = .ok (.iaload, 1) := by decide +kernel
theorem dL_law_1518 : decode cL_law 1518 = .ok (.aload_n 3, 1) := by decide +kernel
theorem dL_law_1519 : decode cL_law 1519 = .ok (.invokestatic 185, 3) := by decide +kernel
theorem dL_law_1522 : decode cL_law 1522 = .ok (.istore 5, 2) := by decide +kernel
theorem dL_law_1524 : decode cL_law 1524 = .ok (.aload_n 2, 1) := by decide +kernel
theorem dL_law_1525 : decode cL_law 1525 = .ok (.aload_n 0, 1) := by decide +kernel
theorem dL_law_1526 : decode cL_law 1526 = .ok (.iload 4, 2) := by decide +kernel
theorem dL_law_1528 : decode cL_law 1528 = .ok (.iconst 1, 1) := by decide +kernel
theorem dL_law_1529 : decode cL_law 1529 = .ok (.iadd, 1) := by decide +kernel
theorem dL_law_1530 : decode cL_law 1530 = .ok (.iaload, 1) := by decide +kernel
theorem dL_law_1531 : decode cL_law 1531 = .ok (.aload_n 0, 1) := by decide +kernel
theorem dL_law_1532 : decode cL_law 1532 = .ok (.iload 4, 2) := by decide +kernel
theorem dL_law_1534 : decode cL_law 1534 = .ok (.iconst 2, 1) := by decide +kernel
theorem dL_law_1535 : decode cL_law 1535 = .ok (.iadd, 1) := by decide +kernel
theorem dL_law_1536 : decode cL_law 1536 = .ok (.iaload, 1) := by decide +kernel
theorem dL_law_1537 : decode cL_law 1537 = .ok (.aload_n 0, 1) := by decide +kernel
theorem dL_law_1538 : decode cL_law 1538 = .ok (.iload 4, 2) := by decide +kernel
theorem dL_law_1540 : decode cL_law 1540 = .ok (.iconst 3, 1) := by decide +kernel
theorem dL_law_1541 : decode cL_law 1541 = .ok (.iadd, 1) := by decide +kernel
theorem dL_law_1542 : decode cL_law 1542 = .ok (.iaload, 1) := by decide +kernel
theorem dL_law_1543 : decode cL_law 1543 = .ok (.invokevirtual 187, 3) := by decide +kernel
theorem dL_law_1546 : decode cL_law 1546 = .ok (.istore 6, 2) := by decide +kernel
theorem dL_law_1548 : decode cL_law 1548 = .ok (.aload_n 2, 1) := by decide +kernel
theorem dL_law_1549 : decode cL_law 1549 = .ok (.invokevirtual 103, 3) := by decide +kernel
theorem dL_law_1552 : decode cL_law 1552 = .ok (.iload 5, 2) := by decide +kernel
theorem dL_law_1554 : decode cL_law 1554 = .ok (.if_icmp .eq 5, 3) := by decide +kernel
theorem dL_law_1557 : decode cL_law 1557 = .ok (.iconst 0, 1) := by decide +kernel
theorem dL_law_1558 : decode cL_law 1558 = .ok (.ireturn, 1) := by decide +kernel
theorem dL_law_1559 : decode cL_law 1559 = .ok (.iload 5, 2) := by decide +kernel
theorem dL_law_1561 : decode cL_law 1561 = .ok (.ifCond .ne 15, 3) := by decide +kernel
theorem dL_law_1564 : decode cL_law 1564 = .ok (.aload_n 3, 1) := by decide +kernel
theorem dL_law_1565 : decode cL_law 1565 = .ok (.iconst 0, 1) := by decide +kernel
theorem dL_law_1566 : decode cL_law 1566 = .ok (.laload, 1) := by decide +kernel
theorem dL_law_1567 : decode cL_law 1567 = .ok (.iload 6, 2) := by decide +kernel
theorem dL_law_1569 : decode cL_law 1569 = .ok (.i2l, 1) := by decide +kernel
theorem dL_law_1570 : decode cL_law 1570 = .ok (.lcmp, 1) := by decide +kernel
theorem dL_law_1571 : decode cL_law 1571 = .ok (.ifCond .eq 5, 3) := by decide +kernel
theorem dL_law_1574 : decode cL_law 1574 = .ok (.iconst 0, 1) := by decide +kernel
theorem dL_law_1575 : decode cL_law 1575 = .ok (.ireturn, 1) := by decide +kernel
theorem dL_law_1576 : decode cL_law 1576 = .ok (.goto 307, 3) := by decide +kernel
theorem dL_law_1579 : decode cL_law 1579 = .ok (.aload_n 1, 1) := by decide +kernel
theorem dL_law_1580 : decode cL_law 1580 = .ok (.aload_n 0, 1) := by decide +kernel
theorem dL_law_1581 : decode cL_law 1581 = .ok (.iload 4, 2) := by decide +kernel
theorem dL_law_1583 : decode cL_law 1583 = .ok (.iconst 1, 1) := by decide +kernel
theorem dL_law_1584 : decode cL_law 1584 = .ok (.iadd, 1) := by decide +kernel
theorem dL_law_1585 : decode cL_law 1585 = .ok (.iaload, 1) := by decide +kernel
theorem dL_law_1586 : decode cL_law 1586 = .ok (.aload_n 0, 1) := by decide +kernel
theorem dL_law_1587 : decode cL_law 1587 = .ok (.iload 4, 2) := by decide +kernel
theorem dL_law_1589 : decode cL_law 1589 = .ok (.iconst 2, 1) := by decide +kernel
theorem dL_law_1590 : decode cL_law 1590 = .ok (.iadd, 1) := by decide +kernel
theorem dL_law_1591 : decode cL_law 1591 = .ok (.iaload, 1) := by decide +kernel
theorem dL_law_1592 : decode cL_law 1592 = .ok (.aload_n 3, 1) := by decide +kernel
theorem dL_law_1593 : decode cL_law 1593 = .ok (.invokestatic 188, 3) := by decide +kernel
theorem dL_law_1596 : decode cL_law 1596 = .ok (.istore 5, 2) := by decide +kernel
theorem dL_law_1598 : decode cL_law 1598 = .ok (.aload_n 2, 1) := by decide +kernel
theorem dL_law_1599 : decode cL_law 1599 = .ok (.aload_n 0, 1) := by decide +kernel
theorem dL_law_1600 : decode cL_law 1600 = .ok (.iload 4, 2) := by decide +kernel
theorem dL_law_1602 : decode cL_law 1602 = .ok (.iconst 1, 1) := by decide +kernel
theorem dL_law_1603 : decode cL_law 1603 = .ok (.iadd, 1) := by decide +kernel
theorem dL_law_1604 : decode cL_law 1604 = .ok (.iaload, 1) := by decide +kernel
theorem dL_law_1605 : decode cL_law 1605 = .ok (.aload_n 0, 1) := by decide +kernel
theorem dL_law_1606 : decode cL_law 1606 = .ok (.iload 4, 2) := by decide +kernel
theorem dL_law_1608 : decode cL_law 1608 = .ok (.iconst 2, 1) := by decide +kernel
theorem dL_law_1609 : decode cL_law 1609 = .ok (.iadd, 1) := by decide +kernel
theorem dL_law_1610 : decode cL_law 1610 = .ok (.iaload, 1) := by decide +kernel
theorem dL_law_1611 : decode cL_law 1611 = .ok (.invokevirtual 190, 3) := by decide +kernel
theorem dL_law_1614 : decode cL_law 1614 = .ok (.istore 6, 2) := by decide +kernel
theorem dL_law_1616 : decode cL_law 1616 = .ok (.aload_n 2, 1) := by decide +kernel
theorem dL_law_1617 : decode cL_law 1617 = .ok (.invokevirtual 103, 3) := by decide +kernel
theorem dL_law_1620 : decode cL_law 1620 = .ok (.iload 5, 2) := by decide +kernel
theorem dL_law_1622 : decode cL_law 1622 = .ok (.if_icmp .eq 5, 3) := by decide +kernel
theorem dL_law_1625 : decode cL_law 1625 = .ok (.iconst 0, 1) := by decide +kernel
theorem dL_law_1626 : decode cL_law 1626 = .ok (.ireturn, 1) := by decide +kernel
theorem dL_law_1627 : decode cL_law 1627 = .ok (.iload 5, 2) := by decide +kernel
theorem dL_law_1629 : decode cL_law 1629 = .ok (.ifCond .ne 15, 3) := by decide +kernel
theorem dL_law_1632 : decode cL_law 1632 = .ok (.aload_n 3, 1) := by decide +kernel
theorem dL_law_1633 : decode cL_law 1633 = .ok (.iconst 0, 1) := by decide +kernel
theorem dL_law_1634 : decode cL_law 1634 = .ok (.laload, 1) := by decide +kernel
theorem dL_law_1635 : decode cL_law 1635 = .ok (.iload 6, 2) := by decide +kernel
theorem dL_law_1637 : decode cL_law 1637 = .ok (.i2l, 1) := by decide +kernel
theorem dL_law_1638 : decode cL_law 1638 = .ok (.lcmp, 1) := by decide +kernel
theorem dL_law_1639 : decode cL_law 1639 = .ok (.ifCond .eq 5, 3) := by decide +kernel
theorem dL_law_1642 : decode cL_law 1642 = .ok (.iconst 0, 1) := by decide +kernel
theorem dL_law_1643 : decode cL_law 1643 = .ok (.ireturn, 1) := by decide +kernel
theorem dL_law_1644 : decode cL_law 1644 = .ok (.goto 239, 3) := by decide +kernel
theorem dL_law_1647 : decode cL_law 1647 = .ok (.aload_n 1, 1) := by decide +kernel
theorem dL_law_1648 : decode cL_law 1648 = .ok (.invokevirtual 191, 3) := by decide +kernel
theorem dL_law_1651 : decode cL_law 1651 = .ok (.aload_n 2, 1) := by decide +kernel
theorem dL_law_1652 : decode cL_law 1652 = .ok (.invokevirtual 194, 3) := by decide +kernel
theorem dL_law_1655 : decode cL_law 1655 = .ok (.if_icmp .eq 228, 3) := by decide +kernel
theorem dL_law_1658 : decode cL_law 1658 = .ok (.iconst 0, 1) := by decide +kernel
theorem dL_law_1659 : decode cL_law 1659 = .ok (.ireturn, 1) := by decide +kernel
theorem dL_law_1660 : decode cL_law 1660 = .ok (.aload_n 1, 1) := by decide +kernel
theorem dL_law_1661 : decode cL_law 1661 = .ok (.aload_n 0, 1) := by decide +kernel
theorem dL_law_1662 : decode cL_law 1662 = .ok (.iload 4, 2) := by decide +kernel
theorem dL_law_1664 : decode cL_law 1664 = .ok (.iconst 1, 1) := by decide +kernel
theorem dL_law_1665 : decode cL_law 1665 = .ok (.iadd, 1) := by decide +kernel
theorem dL_law_1666 : decode cL_law 1666 = .ok (.iaload, 1) := by decide +kernel
theorem dL_law_1667 : decode cL_law 1667 = .ok (.aload_n 3, 1) := by decide +kernel
theorem dL_law_1668 : decode cL_law 1668 = .ok (.invokestatic 195, 3) := by decide +kernel
theorem dL_law_1671 : decode cL_law 1671 = .ok (.istore 5, 2) := by decide +kernel
theorem dL_law_1673 : decode cL_law 1673 = .ok (.aload_n 2, 1) := by decide +kernel
theorem dL_law_1674 : decode cL_law 1674 = .ok (.aload_n 0, 1) := by decide +kernel
theorem dL_law_1675 : decode cL_law 1675 = .ok (.iload 4, 2) := by decide +kernel
theorem dL_law_1677 : decode cL_law 1677 = .ok (.iconst 1, 1) := by decide +kernel
theorem dL_law_1678 : decode cL_law 1678 = .ok (.iadd, 1) := by decide +kernel
theorem dL_law_1679 : decode cL_law 1679 = .ok (.iaload, 1) := by decide +kernel
theorem dL_law_1680 : decode cL_law 1680 = .ok (.invokevirtual 197, 3) := by decide +kernel
theorem dL_law_1683 : decode cL_law 1683 = .ok (.istore 6, 2) := by decide +kernel
theorem dL_law_1685 : decode cL_law 1685 = .ok (.aload_n 2, 1) := by decide +kernel
theorem dL_law_1686 : decode cL_law 1686 = .ok (.invokevirtual 103, 3) := by decide +kernel
theorem dL_law_1689 : decode cL_law 1689 = .ok (.iload 5, 2) := by decide +kernel
theorem dL_law_1691 : decode cL_law 1691 = .ok (.if_icmp .eq 5, 3) := by decide +kernel
theorem dL_law_1694 : decode cL_law 1694 = .ok (.iconst 0, 1) := by decide +kernel
theorem dL_law_1695 : decode cL_law 1695 = .ok (.ireturn, 1) := by decide +kernel
theorem dL_law_1696 : decode cL_law 1696 = .ok (.iload 5, 2) := by decide +kernel
theorem dL_law_1698 : decode cL_law 1698 = .ok (.ifCond .ne 15, 3) := by decide +kernel
theorem dL_law_1701 : decode cL_law 1701 = .ok (.aload_n 3, 1) := by decide +kernel
theorem dL_law_1702 : decode cL_law 1702 = .ok (.iconst 0, 1) := by decide +kernel
theorem dL_law_1703 : decode cL_law 1703 = .ok (.laload, 1) := by decide +kernel
theorem dL_law_1704 : decode cL_law 1704 = .ok (.iload 6, 2) := by decide +kernel
theorem dL_law_1706 : decode cL_law 1706 = .ok (.i2l, 1) := by decide +kernel
theorem dL_law_1707 : decode cL_law 1707 = .ok (.lcmp, 1) := by decide +kernel
theorem dL_law_1708 : decode cL_law 1708 = .ok (.ifCond .eq 5, 3) := by decide +kernel
theorem dL_law_1711 : decode cL_law 1711 = .ok (.iconst 0, 1) := by decide +kernel
theorem dL_law_1712 : decode cL_law 1712 = .ok (.ireturn, 1) := by decide +kernel
theorem dL_law_1713 : decode cL_law 1713 = .ok (.goto 170, 3) := by decide +kernel
theorem dL_law_1716 : decode cL_law 1716 = .ok (.aload_n 1, 1) := by decide +kernel
theorem dL_law_1717 : decode cL_law 1717 = .ok (.aload_n 0, 1) := by decide +kernel
theorem dL_law_1718 : decode cL_law 1718 = .ok (.iload 4, 2) := by decide +kernel
theorem dL_law_1720 : decode cL_law 1720 = .ok (.iconst 1, 1) := by decide +kernel
theorem dL_law_1721 : decode cL_law 1721 = .ok (.iadd, 1) := by decide +kernel
theorem dL_law_1722 : decode cL_law 1722 = .ok (.iaload, 1) := by decide +kernel
theorem dL_law_1723 : decode cL_law 1723 = .ok (.aload_n 3, 1) := by decide +kernel
theorem dL_law_1724 : decode cL_law 1724 = .ok (.invokestatic 198, 3) := by decide +kernel
theorem dL_law_1727 : decode cL_law 1727 = .ok (.istore 5, 2) := by decide +kernel
theorem dL_law_1729 : decode cL_law 1729 = .ok (.aload_n 2, 1) := by decide +kernel
theorem dL_law_1730 : decode cL_law 1730 = .ok (.aload_n 0, 1) := by decide +kernel
theorem dL_law_1731 : decode cL_law 1731 = .ok (.iload 4, 2) := by decide +kernel
theorem dL_law_1733 : decode cL_law 1733 = .ok (.iconst 1, 1) := by decide +kernel
theorem dL_law_1734 : decode cL_law 1734 = .ok (.iadd, 1) := by decide +kernel
theorem dL_law_1735 : decode cL_law 1735 = .ok (.iaload, 1) := by decide +kernel
theorem dL_law_1736 : decode cL_law 1736 = .ok (.invokevirtual 200, 3) := by decide +kernel
theorem dL_law_1739 : decode cL_law 1739 = .ok (.istore 6, 2) := by decide +kernel
theorem dL_law_1741 : decode cL_law 1741 = .ok (.aload_n 2, 1) := by decide +kernel
theorem dL_law_1742 : decode cL_law 1742 = .ok (.invokevirtual 103, 3) := by decide +kernel
theorem dL_law_1745 : decode cL_law 1745 = .ok (.iload 5, 2) := by decide +kernel
theorem dL_law_1747 : decode cL_law 1747 = .ok (.if_icmp .eq 5, 3) := by decide +kernel
theorem dL_law_1750 : decode cL_law 1750 = .ok (.iconst 0, 1) := by decide +kernel
theorem dL_law_1751 : decode cL_law 1751 = .ok (.ireturn, 1) := by decide +kernel
theorem dL_law_1752 : decode cL_law 1752 = .ok (.iload 5, 2) := by decide +kernel
theorem dL_law_1754 : decode cL_law 1754 = .ok (.ifCond .ne 15, 3) := by decide +kernel
theorem dL_law_1757 : decode cL_law 1757 = .ok (.aload_n 3, 1) := by decide +kernel
theorem dL_law_1758 : decode cL_law 1758 = .ok (.iconst 0, 1) := by decide +kernel
theorem dL_law_1759 : decode cL_law 1759 = .ok (.laload, 1) := by decide +kernel
theorem dL_law_1760 : decode cL_law 1760 = .ok (.iload 6, 2) := by decide +kernel
theorem dL_law_1762 : decode cL_law 1762 = .ok (.i2l, 1) := by decide +kernel
theorem dL_law_1763 : decode cL_law 1763 = .ok (.lcmp, 1) := by decide +kernel
theorem dL_law_1764 : decode cL_law 1764 = .ok (.ifCond .eq 5, 3) := by decide +kernel
theorem dL_law_1767 : decode cL_law 1767 = .ok (.iconst 0, 1) := by decide +kernel
theorem dL_law_1768 : decode cL_law 1768 = .ok (.ireturn, 1) := by decide +kernel
theorem dL_law_1769 : decode cL_law 1769 = .ok (.goto 114, 3) := by decide +kernel
theorem dL_law_1772 : decode cL_law 1772 = .ok (.aload_n 1, 1) := by decide +kernel
theorem dL_law_1773 : decode cL_law 1773 = .ok (.aload_n 0, 1) := by decide +kernel
theorem dL_law_1774 : decode cL_law 1774 = .ok (.iload 4, 2) := by decide +kernel
theorem dL_law_1776 : decode cL_law 1776 = .ok (.iconst 1, 1) := by decide +kernel
theorem dL_law_1777 : decode cL_law 1777 = .ok (.iadd, 1) := by decide +kernel
theorem dL_law_1778 : decode cL_law 1778 = .ok (.iaload, 1) := by decide +kernel
theorem dL_law_1779 : decode cL_law 1779 = .ok (.aload_n 3, 1) := by decide +kernel
theorem dL_law_1780 : decode cL_law 1780 = .ok (.invokestatic 201, 3) := by decide +kernel
theorem dL_law_1783 : decode cL_law 1783 = .ok (.istore 5, 2) := by decide +kernel
theorem dL_law_1785 : decode cL_law 1785 = .ok (.aload_n 2, 1) := by decide +kernel
theorem dL_law_1786 : decode cL_law 1786 = .ok (.aload_n 0, 1) := by decide +kernel
theorem dL_law_1787 : decode cL_law 1787 = .ok (.iload 4, 2) := by decide +kernel
theorem dL_law_1789 : decode cL_law 1789 = .ok (.iconst 1, 1) := by decide +kernel
theorem dL_law_1790 : decode cL_law 1790 = .ok (.iadd, 1) := by decide +kernel
theorem dL_law_1791 : decode cL_law 1791 = .ok (.iaload, 1) := by decide +kernel
theorem dL_law_1792 : decode cL_law 1792 = .ok (.invokevirtual 203, 3) := by decide +kernel
theorem dL_law_1795 : decode cL_law 1795 = .ok (.istore 6, 2) := by decide +kernel
theorem dL_law_1797 : decode cL_law 1797 = .ok (.aload_n 2, 1) := by decide +kernel
theorem dL_law_1798 : decode cL_law 1798 = .ok (.invokevirtual 103, 3) := by decide +kernel
theorem dL_law_1801 : decode cL_law 1801 = .ok (.iload 5, 2) := by decide +kernel
theorem dL_law_1803 : decode cL_law 1803 = .ok (.if_icmp .eq 5, 3) := by decide +kernel
theorem dL_law_1806 : decode cL_law 1806 = .ok (.iconst 0, 1) := by decide +kernel
theorem dL_law_1807 : decode cL_law 1807 = .ok (.ireturn, 1) := by decide +kernel
theorem dL_law_1808 : decode cL_law 1808 = .ok (.iload 5, 2) := by decide +kernel
theorem dL_law_1810 : decode cL_law 1810 = .ok (.ifCond .ne 15, 3) := by decide +kernel
theorem dL_law_1813 : decode cL_law 1813 = .ok (.aload_n 3, 1) := by decide +kernel
theorem dL_law_1814 : decode cL_law 1814 = .ok (.iconst 0, 1) := by decide +kernel
theorem dL_law_1815 : decode cL_law 1815 = .ok (.laload, 1) := by decide +kernel
theorem dL_law_1816 : decode cL_law 1816 = .ok (.iload 6, 2) := by decide +kernel
theorem dL_law_1818 : decode cL_law 1818 = .ok (.i2l, 1) := by decide +kernel
theorem dL_law_1819 : decode cL_law 1819 = .ok (.lcmp, 1) := by decide +kernel
theorem dL_law_1820 : decode cL_law 1820 = .ok (.ifCond .eq 5, 3) := by decide +kernel
theorem dL_law_1823 : decode cL_law 1823 = .ok (.iconst 0, 1) := by decide +kernel
theorem dL_law_1824 : decode cL_law 1824 = .ok (.ireturn, 1) := by decide +kernel
theorem dL_law_1825 : decode cL_law 1825 = .ok (.goto 58, 3) := by decide +kernel
theorem dL_law_1828 : decode cL_law 1828 = .ok (.aload_n 1, 1) := by decide +kernel
theorem dL_law_1829 : decode cL_law 1829 = .ok (.invokevirtual 204, 3) := by decide +kernel
theorem dL_law_1832 : decode cL_law 1832 = .ok (.dstore 5, 2) := by decide +kernel
theorem dL_law_1834 : decode cL_law 1834 = .ok (.aload_n 2, 1) := by decide +kernel
theorem dL_law_1835 : decode cL_law 1835 = .ok (.invokevirtual 208, 3) := by decide +kernel
theorem dL_law_1838 : decode cL_law 1838 = .ok (.dstore 7, 2) := by decide +kernel
theorem dL_law_1840 : decode cL_law 1840 = .ok (.dload 5, 2) := by decide +kernel
theorem dL_law_1842 : decode cL_law 1842 = .ok (.dload 7, 2) := by decide +kernel
theorem dL_law_1844 : decode cL_law 1844 = .ok (.dcmp .l, 1) := by decide +kernel
theorem dL_law_1845 : decode cL_law 1845 = .ok (.ifCond .eq 21, 3) := by decide +kernel
theorem dL_law_1848 : decode cL_law 1848 = .ok (.dload 5, 2) := by decide +kernel
theorem dL_law_1850 : decode cL_law 1850 = .ok (.dload 5, 2) := by decide +kernel
theorem dL_law_1852 : decode cL_law 1852 = .ok (.dcmp .l, 1) := by decide +kernel
theorem dL_law_1853 : decode cL_law 1853 = .ok (.ifCond .eq 11, 3) := by decide +kernel
theorem dL_law_1856 : decode cL_law 1856 = .ok (.dload 7, 2) := by decide +kernel
theorem dL_law_1858 : decode cL_law 1858 = .ok (.dload 7, 2) := by decide +kernel
theorem dL_law_1860 : decode cL_law 1860 = .ok (.dcmp .l, 1) := by decide +kernel
theorem dL_law_1861 : decode cL_law 1861 = .ok (.ifCond .ne 5, 3) := by decide +kernel
theorem dL_law_1864 : decode cL_law 1864 = .ok (.iconst 0, 1) := by decide +kernel
theorem dL_law_1865 : decode cL_law 1865 = .ok (.ireturn, 1) := by decide +kernel
theorem dL_law_1866 : decode cL_law 1866 = .ok (.goto 17, 3) := by decide +kernel
theorem dL_law_1869 : decode cL_law 1869 = .ok (.aload_n 1, 1) := by decide +kernel
theorem dL_law_1870 : decode cL_law 1870 = .ok (.invokevirtual 209, 3) := by decide +kernel
theorem dL_law_1873 : decode cL_law 1873 = .ok (.aload_n 2, 1) := by decide +kernel
theorem dL_law_1874 : decode cL_law 1874 = .ok (.invokevirtual 213, 3) := by decide +kernel
theorem dL_law_1877 : decode cL_law 1877 = .ok (.lcmp, 1) := by decide +kernel
theorem dL_law_1878 : decode cL_law 1878 = .ok (.ifCond .eq 5, 3) := by decide +kernel
theorem dL_law_1881 : decode cL_law 1881 = .ok (.iconst 0, 1) := by decide +kernel
theorem dL_law_1882 : decode cL_law 1882 = .ok (.ireturn, 1) := by decide +kernel
theorem dL_law_1883 : decode cL_law 1883 = .ok (.iinc 4 4, 3) := by decide +kernel
theorem dL_law_1886 : decode cL_law 1886 = .ok (.goto (-1863), 3) := by decide +kernel
theorem dL_law_1889 : decode cL_law 1889 = .ok (.iconst 1, 1) := by decide +kernel
theorem dL_law_1890 : decode cL_law 1890 = .ok (.ireturn, 1) := by decide +kernel
abbrev vwCl : List vw_C := [(RX0, TX0, 5), (RX1, TX1, 5), (RX2, TX2, 9)]
