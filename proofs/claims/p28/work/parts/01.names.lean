/-! names, out of claim/NAMES.whole.lean.txt; then my own tables -/
def RX0 : String := "LettersOnStrike$Contracts"
def TX0 : u_T := fun k => match k with
  | 0 => ("LettersOnStrike$Contracts", "saying", "[I", true)
  | 1 => ("LettersOnStrike$Contracts", "day", "[I", true)
  | 2 => ("LettersOnStrike$Contracts", "words", "[I", true)
  | _ => ("LettersOnStrike$Contracts", "word", "[I", true)
def tyX0 : Nat → FieldType := fun k => match k with
  | 0 => .array .int
  | 1 => .array .int
  | 2 => .array .int
  | _ => .array .int
abbrev wsX00 : List Cond := u_ws RX0 TX0 4
theorem nmX0 : ∀ a, a < 4 → ∀ b, b < 4 → a ≠ b → (TX0 a).2.1 ≠ (TX0 b).2.1 := by decide +kernel
theorem tyX0_ok : ∀ k, k < 4 → parseFieldDescriptor (TX0 k).2.2.1 = some (tyX0 k) := by decide +kernel
abbrev cX0_init : ByteArray := prog_2_method_1_code
def yX0_init : MethodName := ⟨RX0, "<init>", "()V"⟩
abbrev cX0_copyFrom : ByteArray := prog_2_method_2_code
def yX0_copyFrom : MethodName := ⟨RX0, "copyFrom", "(LLettersOnStrike$Contracts;)V"⟩
abbrev cX0_wordAt : ByteArray := prog_2_method_3_code
def yX0_wordAt : MethodName := ⟨RX0, "wordAt", "(II)I"⟩
def RX1 : String := "LettersOnStrike$Deeds"
def TX1 : u_T := fun k => match k with
  | 0 => ("LettersOnStrike$Deeds", "empire", "LLettersOnStrike$Empire;", true)
  | 1 => ("LettersOnStrike$Deeds", "standing", "LLettersOnStrike$Standing;", true)
  | _ => ("LettersOnStrike$Deeds", "judge", "LLettersOnStrike$Judge;", true)
def tyX1 : Nat → FieldType := fun k => match k with
  | 0 => .object "LettersOnStrike$Empire"
  | 1 => .object "LettersOnStrike$Standing"
  | _ => .object "LettersOnStrike$Judge"
abbrev wsX10 : List Cond := u_ws RX1 TX1 3
theorem nmX1 : ∀ a, a < 3 → ∀ b, b < 3 → a ≠ b → (TX1 a).2.1 ≠ (TX1 b).2.1 := by decide +kernel
theorem tyX1_ok : ∀ k, k < 3 → parseFieldDescriptor (TX1 k).2.2.1 = some (tyX1 k) := by decide +kernel
abbrev cX1_init : ByteArray := prog_3_method_1_code
def yX1_init : MethodName := ⟨RX1, "<init>", "(LLettersOnStrike$Empire;LLettersOnStrike$Judge;)V"⟩
abbrev cX1_passMornings : ByteArray := prog_3_method_2_code
def yX1_passMornings : MethodName := ⟨RX1, "passMornings", "(I)I"⟩
abbrev cX1_dawn : ByteArray := prog_3_method_3_code
def yX1_dawn : MethodName := ⟨RX1, "dawn", "(Z)V"⟩
abbrev cX1_callOut : ByteArray := prog_3_method_4_code
def yX1_callOut : MethodName := ⟨RX1, "callOut", "(I)I"⟩
abbrev cX1_callBack : ByteArray := prog_3_method_5_code
def yX1_callBack : MethodName := ⟨RX1, "callBack", "(I)I"⟩
abbrev cX1_call : ByteArray := prog_3_method_6_code
def yX1_call : MethodName := ⟨RX1, "call", "(I)I"⟩
abbrev cX1_setWage : ByteArray := prog_3_method_7_code
def yX1_setWage : MethodName := ⟨RX1, "setWage", "(II)Z"⟩
abbrev cX1_putSign : ByteArray := prog_3_method_8_code
def yX1_putSign : MethodName := ⟨RX1, "putSign", "(II)Z"⟩
abbrev cX1_conclude : ByteArray := prog_3_method_9_code
def yX1_conclude : MethodName := ⟨RX1, "conclude", "(I)I"⟩
abbrev cX1_liveYear : ByteArray := prog_3_method_10_code
def yX1_liveYear : MethodName := ⟨RX1, "liveYear", "(II)V"⟩
abbrev cX1_drawX : ByteArray := prog_3_method_11_code
def yX1_drawX : MethodName := ⟨RX1, "drawX", "()V"⟩
abbrev cX1_befall : ByteArray := prog_3_method_12_code
def yX1_befall : MethodName := ⟨RX1, "befall", "(I)V"⟩
abbrev cX1_play : ByteArray := prog_3_method_13_code
def yX1_play : MethodName := ⟨RX1, "play", "(LLettersOnStrike$Text;)I"⟩
abbrev cX1_playClause : ByteArray := prog_3_method_14_code
def yX1_playClause : MethodName := ⟨RX1, "playClause", "(LLettersOnStrike$Text;I)Z"⟩
abbrev cX1_raiseAll : ByteArray := prog_3_method_15_code
def yX1_raiseAll : MethodName := ⟨RX1, "raiseAll", "(II)Z"⟩
abbrev cX1_signAll : ByteArray := prog_3_method_16_code
def yX1_signAll : MethodName := ⟨RX1, "signAll", "(II)Z"⟩
def RX2 : String := "LettersOnStrike$Empire"
def TX2 : u_T := fun k => match k with
  | 0 => ("LettersOnStrike$Empire", "lexicon", "LLettersOnStrike$Lexicon;", true)
  | 1 => ("LettersOnStrike$Empire", "standing", "LLettersOnStrike$Standing;", true)
  | 2 => ("LettersOnStrike$Empire", "history", "LLettersOnStrike$History;", true)
  | 3 => ("LettersOnStrike$Empire", "contracts", "LLettersOnStrike$Contracts;", true)
  | 4 => ("LettersOnStrike$Empire", "ties", "[I", true)
  | 5 => ("LettersOnStrike$Empire", "texts", "I", false)
  | 6 => ("LettersOnStrike$Empire", "ruling", "I", false)
  | 7 => ("LettersOnStrike$Empire", "parties", "I", false)
  | 8 => ("LettersOnStrike$Empire", "party", "[I", true)
  | 9 => ("LettersOnStrike$Empire", "prints", "I", false)
  | 10 => ("LettersOnStrike$Empire", "printWord", "[I", true)
  | 11 => ("LettersOnStrike$Empire", "printDay", "[I", true)
  | _ => ("LettersOnStrike$Empire", "printWas", "[I", true)
def tyX2 : Nat → FieldType := fun k => match k with
  | 0 => .object "LettersOnStrike$Lexicon"
  | 1 => .object "LettersOnStrike$Standing"
  | 2 => .object "LettersOnStrike$History"
  | 3 => .object "LettersOnStrike$Contracts"
  | 4 => .array .int
  | 5 => .int
  | 6 => .int
  | 7 => .int
  | 8 => .array .int
  | 9 => .int
  | 10 => .array .int
  | 11 => .array .int
  | _ => .array .int
abbrev wsX20 : List Cond := u_ws RX2 TX2 13
theorem nmX2 : ∀ a, a < 13 → ∀ b, b < 13 → a ≠ b → (TX2 a).2.1 ≠ (TX2 b).2.1 := by decide +kernel
theorem tyX2_ok : ∀ k, k < 13 → parseFieldDescriptor (TX2 k).2.2.1 = some (tyX2 k) := by decide +kernel
abbrev cX2_init : ByteArray := prog_4_method_1_code
def yX2_init : MethodName := ⟨RX2, "<init>", "()V"⟩
abbrev cX2_copyFrom : ByteArray := prog_4_method_2_code
def yX2_copyFrom : MethodName := ⟨RX2, "copyFrom", "(LLettersOnStrike$Empire;)V"⟩
abbrev cX2_tieAll : ByteArray := prog_4_method_3_code
def yX2_tieAll : MethodName := ⟨RX2, "tieAll", "(II)Z"⟩
def RX3 : String := "LettersOnStrike$History"
def TX3 : u_T := fun k => match k with
  | 0 => ("LettersOnStrike$History", "count", "I", false)
  | 1 => ("LettersOnStrike$History", "eldest", "I", false)
  | _ => ("LettersOnStrike$History", "steps", "[LLettersOnStrike$Standing;", true)
def tyX3 : Nat → FieldType := fun k => match k with
  | 0 => .int
  | 1 => .int
  | _ => .array (.object "LettersOnStrike$Standing")
abbrev wsX30 : List Cond := u_ws RX3 TX3 3
theorem nmX3 : ∀ a, a < 3 → ∀ b, b < 3 → a ≠ b → (TX3 a).2.1 ≠ (TX3 b).2.1 := by decide +kernel
theorem tyX3_ok : ∀ k, k < 3 → parseFieldDescriptor (TX3 k).2.2.1 = some (tyX3 k) := by decide +kernel
abbrev cX3_init : ByteArray := prog_5_method_1_code
def yX3_init : MethodName := ⟨RX3, "<init>", "()V"⟩
abbrev cX3_copyFrom : ByteArray := prog_5_method_2_code
def yX3_copyFrom : MethodName := ⟨RX3, "copyFrom", "(LLettersOnStrike$History;)V"⟩
abbrev cX3_keep : ByteArray := prog_5_method_3_code
def yX3_keep : MethodName := ⟨RX3, "keep", "(LLettersOnStrike$Standing;)V"⟩
abbrev cX3_takeBack : ByteArray := prog_5_method_4_code
def yX3_takeBack : MethodName := ⟨RX3, "takeBack", "(LLettersOnStrike$Standing;)Z"⟩
def RX4 : String := "LettersOnStrike$Judge"
def TX4 : u_T := fun k => match k with
  | 0 => ("LettersOnStrike$Judge", "empire", "LLettersOnStrike$Empire;", true)
  | 1 => ("LettersOnStrike$Judge", "texts", "[LLettersOnStrike$Text;", true)
  | 2 => ("LettersOnStrike$Judge", "named", "[I", true)
  | _ => ("LettersOnStrike$Judge", "stack", "[I", true)
def tyX4 : Nat → FieldType := fun k => match k with
  | 0 => .object "LettersOnStrike$Empire"
  | 1 => .array (.object "LettersOnStrike$Text")
  | 2 => .array .int
  | _ => .array .int
abbrev wsX40 : List Cond := u_ws RX4 TX4 4
theorem nmX4 : ∀ a, a < 4 → ∀ b, b < 4 → a ≠ b → (TX4 a).2.1 ≠ (TX4 b).2.1 := by decide +kernel
theorem tyX4_ok : ∀ k, k < 4 → parseFieldDescriptor (TX4 k).2.2.1 = some (tyX4 k) := by decide +kernel
abbrev cX4_init : ByteArray := prog_6_method_1_code
def yX4_init : MethodName := ⟨RX4, "<init>", "(LLettersOnStrike$Empire;[LLettersOnStrike$Text;)V"⟩
abbrev cX4_isNameOf : ByteArray := prog_6_method_2_code
def yX4_isNameOf : MethodName := ⟨RX4, "isNameOf", "(II)Z"⟩
abbrev cX4_moves : ByteArray := prog_6_method_3_code
def yX4_moves : MethodName := ⟨RX4, "moves", "(I)Z"⟩
abbrev cX4_price : ByteArray := prog_6_method_4_code
def yX4_price : MethodName := ⟨RX4, "price", "(I)I"⟩
abbrev cX4_binds : ByteArray := prog_6_method_5_code
def yX4_binds : MethodName := ⟨RX4, "binds", "(II)Z"⟩
abbrev cX4_broken : ByteArray := prog_6_method_6_code
def yX4_broken : MethodName := ⟨RX4, "broken", "(II)I"⟩
abbrev cX4_loophole : ByteArray := prog_6_method_7_code
def yX4_loophole : MethodName := ⟨RX4, "loophole", "(I)I"⟩
abbrev cX4_ruling : ByteArray := prog_6_method_8_code
def yX4_ruling : MethodName := ⟨RX4, "ruling", "(I)LLettersOnStrike$Text;"⟩
abbrev cX4_nameForAll : ByteArray := prog_6_method_9_code
def yX4_nameForAll : MethodName := ⟨RX4, "nameForAll", "(I)V"⟩
abbrev cX4_run : ByteArray := prog_6_method_10_code
def yX4_run : MethodName := ⟨RX4, "run", "(LLettersOnStrike$Text;I)I"⟩
abbrev cX4_outcome : ByteArray := prog_6_method_11_code
def yX4_outcome : MethodName := ⟨RX4, "outcome", "(IJJ)J"⟩
abbrev cX4_limited : ByteArray := prog_6_method_12_code
def yX4_limited : MethodName := ⟨RX4, "limited", "(J)I"⟩
def RX5 : String := "LettersOnStrike$Lexicon"
def TX5 : u_T := fun k => match k with
  | 0 => ("LettersOnStrike$Lexicon", "words", "I", false)
  | 1 => ("LettersOnStrike$Lexicon", "sayings", "I", false)
  | 2 => ("LettersOnStrike$Lexicon", "length", "[I", true)
  | 3 => ("LettersOnStrike$Lexicon", "sense", "[I", true)
  | 4 => ("LettersOnStrike$Lexicon", "mask", "[I", true)
  | 5 => ("LettersOnStrike$Lexicon", "spelling", "[I", true)
  | 6 => ("LettersOnStrike$Lexicon", "senses", "[I", true)
  | 7 => ("LettersOnStrike$Lexicon", "wanted", "[I", true)
  | _ => ("LettersOnStrike$Lexicon", "order", "[I", true)
def tyX5 : Nat → FieldType := fun k => match k with
  | 0 => .int
  | 1 => .int
  | 2 => .array .int
  | 3 => .array .int
  | 4 => .array .int
  | 5 => .array .int
  | 6 => .array .int
  | 7 => .array .int
  | _ => .array .int
abbrev wsX50 : List Cond := u_ws RX5 TX5 9
theorem nmX5 : ∀ a, a < 9 → ∀ b, b < 9 → a ≠ b → (TX5 a).2.1 ≠ (TX5 b).2.1 := by decide +kernel
theorem tyX5_ok : ∀ k, k < 9 → parseFieldDescriptor (TX5 k).2.2.1 = some (tyX5 k) := by decide +kernel
abbrev cX5_init : ByteArray := prog_7_method_1_code
def yX5_init : MethodName := ⟨RX5, "<init>", "()V"⟩
abbrev cX5_copyFrom : ByteArray := prog_7_method_2_code
def yX5_copyFrom : MethodName := ⟨RX5, "copyFrom", "(LLettersOnStrike$Lexicon;)V"⟩
abbrev cX5_isWord : ByteArray := prog_7_method_3_code
def yX5_isWord : MethodName := ⟨RX5, "isWord", "(I)Z"⟩
abbrev cX5_isSaying : ByteArray := prog_7_method_4_code
def yX5_isSaying : MethodName := ⟨RX5, "isSaying", "(I)Z"⟩
abbrev cX5_letterAt : ByteArray := prog_7_method_5_code
def yX5_letterAt : MethodName := ⟨RX5, "letterAt", "(II)I"⟩
abbrev cX5_senseAt : ByteArray := prog_7_method_6_code
def yX5_senseAt : MethodName := ⟨RX5, "senseAt", "(II)I"⟩
abbrev cX5_tellWord : ByteArray := prog_7_method_7_code
def yX5_tellWord : MethodName := ⟨RX5, "tellWord", "([IIII)I"⟩
abbrev cX5_isTold : ByteArray := prog_7_method_8_code
def yX5_isTold : MethodName := ⟨RX5, "isTold", "([III)Z"⟩
abbrev cX5_tellSaying : ByteArray := prog_7_method_9_code
def yX5_tellSaying : MethodName := ⟨RX5, "tellSaying", "([III)I"⟩
abbrev cX5_uses : ByteArray := prog_7_method_10_code
def yX5_uses : MethodName := ⟨RX5, "uses", "(I)I"⟩
abbrev cX5_wordFor : ByteArray := prog_7_method_11_code
def yX5_wordFor : MethodName := ⟨RX5, "wordFor", "(II)I"⟩
abbrev cX5_wordSaid : ByteArray := prog_7_method_12_code
def yX5_wordSaid : MethodName := ⟨RX5, "wordSaid", "(III)I"⟩
abbrev cX5_lettersSaid : ByteArray := prog_7_method_13_code
def yX5_lettersSaid : MethodName := ⟨RX5, "lettersSaid", "(II)I"⟩
abbrev cX5_sensesLeft : ByteArray := prog_7_method_14_code
def yX5_sensesLeft : MethodName := ⟨RX5, "sensesLeft", "(I)I"⟩
abbrev cX5_canSay : ByteArray := prog_7_method_15_code
def yX5_canSay : MethodName := ⟨RX5, "canSay", "(II)Z"⟩
abbrev cX5_unsaid : ByteArray := prog_7_method_16_code
def yX5_unsaid : MethodName := ⟨RX5, "unsaid", "(I)I"⟩
abbrev cX5_lettersFor : ByteArray := prog_7_method_17_code
def yX5_lettersFor : MethodName := ⟨RX5, "lettersFor", "(I)I"⟩
abbrev cX5_placesUnlike : ByteArray := prog_7_method_18_code
def yX5_placesUnlike : MethodName := ⟨RX5, "placesUnlike", "(II)I"⟩
def RX6 : String := "LettersOnStrike$Plans"
def TX6 : u_T := fun k => match k with
  | 0 => ("LettersOnStrike$Plans", "empire", "LLettersOnStrike$Empire;", true)
  | 1 => ("LettersOnStrike$Plans", "shares", "[I", true)
  | 2 => ("LettersOnStrike$Plans", "worths", "[I", true)
  | 3 => ("LettersOnStrike$Plans", "member", "[I", true)
  | 4 => ("LettersOnStrike$Plans", "members", "I", false)
  | 5 => ("LettersOnStrike$Plans", "sayable", "[Z", true)
  | _ => ("LettersOnStrike$Plans", "wins", "[Z", true)
def tyX6 : Nat → FieldType := fun k => match k with
  | 0 => .object "LettersOnStrike$Empire"
  | 1 => .array .int
  | 2 => .array .int
  | 3 => .array .int
  | 4 => .int
  | 5 => .array .boolean
  | _ => .array .boolean
abbrev wsX60 : List Cond := u_ws RX6 TX6 7
theorem nmX6 : ∀ a, a < 7 → ∀ b, b < 7 → a ≠ b → (TX6 a).2.1 ≠ (TX6 b).2.1 := by decide +kernel
theorem tyX6_ok : ∀ k, k < 7 → parseFieldDescriptor (TX6 k).2.2.1 = some (tyX6 k) := by decide +kernel
abbrev cX6_init : ByteArray := prog_8_method_1_code
def yX6_init : MethodName := ⟨RX6, "<init>", "(LLettersOnStrike$Empire;)V"⟩
abbrev cX6_fewestStopping : ByteArray := prog_8_method_2_code
def yX6_fewestStopping : MethodName := ⟨RX6, "fewestStopping", "(I)I"⟩
abbrev cX6_stopping : ByteArray := prog_8_method_3_code
def yX6_stopping : MethodName := ⟨RX6, "stopping", "(LLettersOnStrike$Lexicon;IIII)I"⟩
abbrev cX6_orders : ByteArray := prog_8_method_4_code
def yX6_orders : MethodName := ⟨RX6, "orders", "(I)I"⟩
abbrev cX6_pivotalOrders : ByteArray := prog_8_method_5_code
def yX6_pivotalOrders : MethodName := ⟨RX6, "pivotalOrders", "(III)I"⟩
abbrev cX6_tryGroup : ByteArray := prog_8_method_6_code
def yX6_tryGroup : MethodName := ⟨RX6, "tryGroup", "(II)V"⟩
abbrev cX6_winningCall : ByteArray := prog_8_method_7_code
def yX6_winningCall : MethodName := ⟨RX6, "winningCall", "(II)I"⟩
abbrev cX6_goodCall : ByteArray := prog_8_method_8_code
def yX6_goodCall : MethodName := ⟨RX6, "goodCall", "(I)I"⟩
abbrev cX6_worthOf : ByteArray := prog_8_method_9_code
def yX6_worthOf : MethodName := ⟨RX6, "worthOf", "(I)I"⟩
abbrev cX6_findCore : ByteArray := prog_8_method_10_code
def yX6_findCore : MethodName := ⟨RX6, "findCore", "(I)Z"⟩
abbrev cX6_share : ByteArray := prog_8_method_11_code
def yX6_share : MethodName := ⟨RX6, "share", "(II)Z"⟩
abbrev cX6_nobodyLeaves : ByteArray := prog_8_method_12_code
def yX6_nobodyLeaves : MethodName := ⟨RX6, "nobodyLeaves", "()Z"⟩
def RX7 : String := "LettersOnStrike$Puzzles"
def TX7 : u_T := fun k => match k with
  | 0 => ("LettersOnStrike$Puzzles", "empire", "LLettersOnStrike$Empire;", true)
  | 1 => ("LettersOnStrike$Puzzles", "look", "[I", true)
  | 2 => ("LettersOnStrike$Puzzles", "settled", "[I", true)
  | 3 => ("LettersOnStrike$Puzzles", "chosen", "[I", true)
  | 4 => ("LettersOnStrike$Puzzles", "fewestLetters", "I", false)
  | 5 => ("LettersOnStrike$Puzzles", "mostWords", "I", false)
  | 6 => ("LettersOnStrike$Puzzles", "bestLetters", "I", false)
  | 7 => ("LettersOnStrike$Puzzles", "printedLetters", "[I", true)
  | 8 => ("LettersOnStrike$Puzzles", "daysOut", "I", false)
  | _ => ("LettersOnStrike$Puzzles", "daysIn", "I", false)
def tyX7 : Nat → FieldType := fun k => match k with
  | 0 => .object "LettersOnStrike$Empire"
  | 1 => .array .int
  | 2 => .array .int
  | 3 => .array .int
  | 4 => .int
  | 5 => .int
  | 6 => .int
  | 7 => .array .int
  | 8 => .int
  | _ => .int
abbrev wsX70 : List Cond := u_ws RX7 TX7 10
theorem nmX7 : ∀ a, a < 10 → ∀ b, b < 10 → a ≠ b → (TX7 a).2.1 ≠ (TX7 b).2.1 := by decide +kernel
theorem tyX7_ok : ∀ k, k < 10 → parseFieldDescriptor (TX7 k).2.2.1 = some (tyX7 k) := by decide +kernel
abbrev cX7_init : ByteArray := prog_9_method_1_code
def yX7_init : MethodName := ⟨RX7, "<init>", "(LLettersOnStrike$Empire;)V"⟩
abbrev cX7_alikeNow : ByteArray := prog_9_method_2_code
def yX7_alikeNow : MethodName := ⟨RX7, "alikeNow", "(II)Z"⟩
abbrev cX7_alike : ByteArray := prog_9_method_3_code
def yX7_alike : MethodName := ⟨RX7, "alike", "(II)Z"⟩
abbrev cX7_fewestSigns : ByteArray := prog_9_method_4_code
def yX7_fewestSigns : MethodName := ⟨RX7, "fewestSigns", "(I)I"⟩
abbrev cX7_putSigns : ByteArray := prog_9_method_5_code
def yX7_putSigns : MethodName := ⟨RX7, "putSigns", "(IIII)Z"⟩
abbrev cX7_nothingMistaken : ByteArray := prog_9_method_6_code
def yX7_nothingMistaken : MethodName := ⟨RX7, "nothingMistaken", "()Z"⟩
abbrev cX7_settle : ByteArray := prog_9_method_7_code
def yX7_settle : MethodName := ⟨RX7, "settle", "(I)I"⟩
abbrev cX7_settleWith : ByteArray := prog_9_method_8_code
def yX7_settleWith : MethodName := ⟨RX7, "settleWith", "(IIII)V"⟩
abbrev cX7_learnFirst : ByteArray := prog_9_method_9_code
def yX7_learnFirst : MethodName := ⟨RX7, "learnFirst", "(I)V"⟩
abbrev cX7_learnMore : ByteArray := prog_9_method_10_code
def yX7_learnMore : MethodName := ⟨RX7, "learnMore", "(III)V"⟩
abbrev cX7_wordsOf : ByteArray := prog_9_method_11_code
def yX7_wordsOf : MethodName := ⟨RX7, "wordsOf", "(I)I"⟩
abbrev cX7_spell : ByteArray := prog_9_method_12_code
def yX7_spell : MethodName := ⟨RX7, "spell", "(II)I"⟩
abbrev cX7_weighPrints : ByteArray := prog_9_method_13_code
def yX7_weighPrints : MethodName := ⟨RX7, "weighPrints", "(I)Z"⟩
abbrev cX7_gatherPrinted : ByteArray := prog_9_method_14_code
def yX7_gatherPrinted : MethodName := ⟨RX7, "gatherPrinted", "(I)V"⟩
def RX8 : String := "LettersOnStrike$Reader"
def TX8 : u_T := fun k => match k with
  | 0 => ("LettersOnStrike$Reader", "tape", "LLettersOnStrike$Tape;", true)
  | 1 => ("LettersOnStrike$Reader", "text", "LLettersOnStrike$Text;", false)
  | 2 => ("LettersOnStrike$Reader", "at", "I", false)
  | 3 => ("LettersOnStrike$Reader", "kind", "I", false)
  | 4 => ("LettersOnStrike$Reader", "value", "I", false)
  | 5 => ("LettersOnStrike$Reader", "start", "I", false)
  | 6 => ("LettersOnStrike$Reader", "clause", "I", false)
  | 7 => ("LettersOnStrike$Reader", "hasRead", "Z", false)
  | 8 => ("LettersOnStrike$Reader", "fault", "I", false)
  | _ => ("LettersOnStrike$Reader", "place", "I", false)
def tyX8 : Nat → FieldType := fun k => match k with
  | 0 => .object "LettersOnStrike$Tape"
  | 1 => .object "LettersOnStrike$Text"
  | 2 => .int
  | 3 => .int
  | 4 => .int
  | 5 => .int
  | 6 => .int
  | 7 => .boolean
  | 8 => .int
  | _ => .int
abbrev wsX80 : List Cond := u_ws RX8 TX8 10
theorem nmX8 : ∀ a, a < 10 → ∀ b, b < 10 → a ≠ b → (TX8 a).2.1 ≠ (TX8 b).2.1 := by decide +kernel
theorem tyX8_ok : ∀ k, k < 10 → parseFieldDescriptor (TX8 k).2.2.1 = some (tyX8 k) := by decide +kernel
abbrev cX8_init : ByteArray := prog_10_method_1_code
def yX8_init : MethodName := ⟨RX8, "<init>", "(LLettersOnStrike$Tape;)V"⟩
abbrev cX8_read : ByteArray := prog_10_method_2_code
def yX8_read : MethodName := ⟨RX8, "read", "(LLettersOnStrike$Text;)Z"⟩
abbrev cX8_fail : ByteArray := prog_10_method_3_code
def yX8_fail : MethodName := ⟨RX8, "fail", "(I)I"⟩
abbrev cX8_next : ByteArray := prog_10_method_4_code
def yX8_next : MethodName := ⟨RX8, "next", "()V"⟩
abbrev cX8_isKey : ByteArray := prog_10_method_5_code
def yX8_isKey : MethodName := ⟨RX8, "isKey", "(I)Z"⟩
abbrev cX8_isSymbol : ByteArray := prog_10_method_6_code
def yX8_isSymbol : MethodName := ⟨RX8, "isSymbol", "(I)Z"⟩
abbrev cX8_takeKey : ByteArray := prog_10_method_7_code
def yX8_takeKey : MethodName := ⟨RX8, "takeKey", "(I)V"⟩
abbrev cX8_takeSymbol : ByteArray := prog_10_method_8_code
def yX8_takeSymbol : MethodName := ⟨RX8, "takeSymbol", "(I)V"⟩
abbrev cX8_readClause : ByteArray := prog_10_method_9_code
def yX8_readClause : MethodName := ⟨RX8, "readClause", "()V"⟩
abbrev cX8_readDeed : ByteArray := prog_10_method_10_code
def yX8_readDeed : MethodName := ⟨RX8, "readDeed", "(I)V"⟩
abbrev cX8_readBehindLetters : ByteArray := prog_10_method_11_code
def yX8_readBehindLetters : MethodName := ⟨RX8, "readBehindLetters", "(I)V"⟩
abbrev cX8_readSenses : ByteArray := prog_10_method_12_code
def yX8_readSenses : MethodName := ⟨RX8, "readSenses", "()V"⟩
abbrev cX8_takeSense : ByteArray := prog_10_method_13_code
def yX8_takeSense : MethodName := ⟨RX8, "takeSense", "(I)I"⟩
abbrev cX8_takeNumber : ByteArray := prog_10_method_14_code
def yX8_takeNumber : MethodName := ⟨RX8, "takeNumber", "(II)I"⟩
abbrev cX8_takeLetters : ByteArray := prog_10_method_15_code
def yX8_takeLetters : MethodName := ⟨RX8, "takeLetters", "(Z)I"⟩
abbrev cX8_readEither : ByteArray := prog_10_method_16_code
def yX8_readEither : MethodName := ⟨RX8, "readEither", "(I)V"⟩
abbrev cX8_readAsk : ByteArray := prog_10_method_17_code
def yX8_readAsk : MethodName := ⟨RX8, "readAsk", "(II)V"⟩
abbrev cX8_comparison : ByteArray := prog_10_method_18_code
def yX8_comparison : MethodName := ⟨RX8, "comparison", "()I"⟩
abbrev cX8_readSum : ByteArray := prog_10_method_19_code
def yX8_readSum : MethodName := ⟨RX8, "readSum", "(II)V"⟩
abbrev cX8_readProduct : ByteArray := prog_10_method_20_code
def yX8_readProduct : MethodName := ⟨RX8, "readProduct", "(II)V"⟩
abbrev cX8_readOne : ByteArray := prog_10_method_21_code
def yX8_readOne : MethodName := ⟨RX8, "readOne", "(II)V"⟩
abbrev cX8_readName : ByteArray := prog_10_method_22_code
def yX8_readName : MethodName := ⟨RX8, "readName", "(I)V"⟩
def RX9 : String := "LettersOnStrike$Standing"
def TX9 : u_T := fun k => match k with
  | 0 => ("LettersOnStrike$Standing", "out", "I", false)
  | 1 => ("LettersOnStrike$Standing", "day", "I", false)
  | 2 => ("LettersOnStrike$Standing", "x", "I", false)
  | 3 => ("LettersOnStrike$Standing", "contracts", "I", false)
  | 4 => ("LettersOnStrike$Standing", "wage", "[I", true)
  | 5 => ("LettersOnStrike$Standing", "since", "[I", true)
  | _ => ("LettersOnStrike$Standing", "sign", "[I", true)
def tyX9 : Nat → FieldType := fun k => match k with
  | 0 => .int
  | 1 => .int
  | 2 => .int
  | 3 => .int
  | 4 => .array .int
  | 5 => .array .int
  | _ => .array .int
abbrev wsX90 : List Cond := u_ws RX9 TX9 7
theorem nmX9 : ∀ a, a < 7 → ∀ b, b < 7 → a ≠ b → (TX9 a).2.1 ≠ (TX9 b).2.1 := by decide +kernel
theorem tyX9_ok : ∀ k, k < 7 → parseFieldDescriptor (TX9 k).2.2.1 = some (tyX9 k) := by decide +kernel
abbrev cX9_init : ByteArray := prog_11_method_1_code
def yX9_init : MethodName := ⟨RX9, "<init>", "()V"⟩
abbrev cX9_copyFrom : ByteArray := prog_11_method_2_code
def yX9_copyFrom : MethodName := ⟨RX9, "copyFrom", "(LLettersOnStrike$Standing;)V"⟩
abbrev cX9_isOut : ByteArray := prog_11_method_3_code
def yX9_isOut : MethodName := ⟨RX9, "isOut", "(I)Z"⟩
abbrev cX9_outs : ByteArray := prog_11_method_4_code
def yX9_outs : MethodName := ⟨RX9, "outs", "()I"⟩
abbrev cX9_missing : ByteArray := prog_11_method_5_code
def yX9_missing : MethodName := ⟨RX9, "missing", "()I"⟩
abbrev cX9_move : ByteArray := prog_11_method_6_code
def yX9_move : MethodName := ⟨RX9, "move", "(I)V"⟩
def RX10 : String := "LettersOnStrike$Tape"
def TX10 : u_T := fun k => match k with
  | 0 => ("LettersOnStrike$Tape", "size", "I", false)
  | 1 => ("LettersOnStrike$Tape", "bytes", "[I", true)
  | 2 => ("LettersOnStrike$Tape", "tokens", "I", false)
  | 3 => ("LettersOnStrike$Tape", "kind", "[I", true)
  | 4 => ("LettersOnStrike$Tape", "place", "[I", true)
  | 5 => ("LettersOnStrike$Tape", "length", "[I", true)
  | _ => ("LettersOnStrike$Tape", "value", "[I", true)
def tyX10 : Nat → FieldType := fun k => match k with
  | 0 => .int
  | 1 => .array .int
  | 2 => .int
  | 3 => .array .int
  | 4 => .array .int
  | 5 => .array .int
  | _ => .array .int
abbrev wsX100 : List Cond := u_ws RX10 TX10 7
theorem nmX10 : ∀ a, a < 7 → ∀ b, b < 7 → a ≠ b → (TX10 a).2.1 ≠ (TX10 b).2.1 := by decide +kernel
theorem tyX10_ok : ∀ k, k < 7 → parseFieldDescriptor (TX10 k).2.2.1 = some (tyX10 k) := by decide +kernel
abbrev cX10_init : ByteArray := prog_12_method_1_code
def yX10_init : MethodName := ⟨RX10, "<init>", "()V"⟩
abbrev cX10_hasRoom : ByteArray := prog_12_method_2_code
def yX10_hasRoom : MethodName := ⟨RX10, "hasRoom", "(I)Z"⟩
abbrev cX10_put : ByteArray := prog_12_method_3_code
def yX10_put : MethodName := ⟨RX10, "put", "(I)V"⟩
abbrev cX10_cut : ByteArray := prog_12_method_4_code
def yX10_cut : MethodName := ⟨RX10, "cut", "()V"⟩
abbrev cX10_cutOne : ByteArray := prog_12_method_5_code
def yX10_cutOne : MethodName := ⟨RX10, "cutOne", "(I)I"⟩
abbrev cX10_add : ByteArray := prog_12_method_6_code
def yX10_add : MethodName := ⟨RX10, "add", "(IIII)V"⟩
abbrev cX10_keyOf : ByteArray := prog_12_method_7_code
def yX10_keyOf : MethodName := ⟨RX10, "keyOf", "(II)I"⟩
abbrev cX10_isLetterByte : ByteArray := prog_12_method_8_code
def yX10_isLetterByte : MethodName := ⟨RX10, "isLetterByte", "(I)Z"⟩
abbrev cX10_isDigit : ByteArray := prog_12_method_9_code
def yX10_isDigit : MethodName := ⟨RX10, "isDigit", "(I)Z"⟩
def RX11 : String := "LettersOnStrike$Text"
def TX11 : u_T := fun k => match k with
  | 0 => ("LettersOnStrike$Text", "clauses", "I", false)
  | 1 => ("LettersOnStrike$Text", "kind", "[I", true)
  | 2 => ("LettersOnStrike$Text", "letters", "[I", true)
  | 3 => ("LettersOnStrike$Text", "others", "[I", true)
  | 4 => ("LettersOnStrike$Text", "number", "[I", true)
  | 5 => ("LettersOnStrike$Text", "rowLength", "[I", true)
  | 6 => ("LettersOnStrike$Text", "row", "[I", true)
  | 7 => ("LettersOnStrike$Text", "lawFrom", "[I", true)
  | 8 => ("LettersOnStrike$Text", "lawEnd", "[I", true)
  | 9 => ("LettersOnStrike$Text", "codes", "I", false)
  | _ => ("LettersOnStrike$Text", "code", "[I", true)
def tyX11 : Nat → FieldType := fun k => match k with
  | 0 => .int
  | 1 => .array .int
  | 2 => .array .int
  | 3 => .array .int
  | 4 => .array .int
  | 5 => .array .int
  | 6 => .array .int
  | 7 => .array .int
  | 8 => .array .int
  | 9 => .int
  | _ => .array .int
abbrev wsX110 : List Cond := u_ws RX11 TX11 11
theorem nmX11 : ∀ a, a < 11 → ∀ b, b < 11 → a ≠ b → (TX11 a).2.1 ≠ (TX11 b).2.1 := by decide +kernel
theorem tyX11_ok : ∀ k, k < 11 → parseFieldDescriptor (TX11 k).2.2.1 = some (tyX11 k) := by decide +kernel
abbrev cX11_init : ByteArray := prog_13_method_1_code
def yX11_init : MethodName := ⟨RX11, "<init>", "()V"⟩
abbrev cX11_clear : ByteArray := prog_13_method_2_code
def yX11_clear : MethodName := ⟨RX11, "clear", "()V"⟩
abbrev cX11_has : ByteArray := prog_13_method_3_code
def yX11_has : MethodName := ⟨RX11, "has", "(I)Z"⟩
abbrev cX11_begin : ByteArray := prog_13_method_4_code
def yX11_begin : MethodName := ⟨RX11, "begin", "(I)V"⟩
abbrev cX11_emit : ByteArray := prog_13_method_5_code
def yX11_emit : MethodName := ⟨RX11, "emit", "(I)V"⟩
abbrev cX11_addToRow : ByteArray := prog_13_method_6_code
def yX11_addToRow : MethodName := ⟨RX11, "addToRow", "(II)V"⟩
def RX12 : String := "LettersOnStrike"
def TX12 : u_T := fun k => match k with
  | 0 => ("LettersOnStrike", "now", "LLettersOnStrike$Empire;", true)
  | 1 => ("LettersOnStrike", "kept", "LLettersOnStrike$Empire;", true)
  | 2 => ("LettersOnStrike", "texts", "[LLettersOnStrike$Text;", true)
  | 3 => ("LettersOnStrike", "tape", "LLettersOnStrike$Tape;", true)
  | 4 => ("LettersOnStrike", "reader", "LLettersOnStrike$Reader;", true)
  | 5 => ("LettersOnStrike", "judge", "LLettersOnStrike$Judge;", true)
  | 6 => ("LettersOnStrike", "deeds", "LLettersOnStrike$Deeds;", true)
  | 7 => ("LettersOnStrike", "plans", "LLettersOnStrike$Plans;", true)
  | 8 => ("LettersOnStrike", "puzzles", "LLettersOnStrike$Puzzles;", true)
  | _ => ("LettersOnStrike", "row", "[I", true)
def tyX12 : Nat → FieldType := fun k => match k with
  | 0 => .object "LettersOnStrike$Empire"
  | 1 => .object "LettersOnStrike$Empire"
  | 2 => .array (.object "LettersOnStrike$Text")
  | 3 => .object "LettersOnStrike$Tape"
  | 4 => .object "LettersOnStrike$Reader"
  | 5 => .object "LettersOnStrike$Judge"
  | 6 => .object "LettersOnStrike$Deeds"
  | 7 => .object "LettersOnStrike$Plans"
  | 8 => .object "LettersOnStrike$Puzzles"
  | _ => .array .int
abbrev wsX120 : List Cond := u_ws RX12 TX12 10
theorem nmX12 : ∀ a, a < 10 → ∀ b, b < 10 → a ≠ b → (TX12 a).2.1 ≠ (TX12 b).2.1 := by decide +kernel
theorem tyX12_ok : ∀ k, k < 10 → parseFieldDescriptor (TX12 k).2.2.1 = some (tyX12 k) := by decide +kernel
abbrev cX12_init : ByteArray := prog_1_method_1_code
def yX12_init : MethodName := ⟨RX12, "<init>", "()V"⟩
abbrev cX12_tie : ByteArray := prog_1_method_2_code
def yX12_tie : MethodName := ⟨RX12, "tie", "(II)Z"⟩
abbrev cX12_word : ByteArray := prog_1_method_3_code
def yX12_word : MethodName := ⟨RX12, "word", "(III)I"⟩
abbrev cX12_saying : ByteArray := prog_1_method_4_code
def yX12_saying : MethodName := ⟨RX12, "saying", "(I)I"⟩
abbrev cX12_feed : ByteArray := prog_1_method_5_code
def yX12_feed : MethodName := ⟨RX12, "feed", "(IIIII)I"⟩
abbrev cX12_end : ByteArray := prog_1_method_6_code
def yX12_end : MethodName := ⟨RX12, "end", "(I)I"⟩
abbrev cX12_text : ByteArray := prog_1_method_7_code
def yX12_text : MethodName := ⟨RX12, "text", "()I"⟩
abbrev cX12_fault : ByteArray := prog_1_method_8_code
def yX12_fault : MethodName := ⟨RX12, "fault", "(I)I"⟩
abbrev cX12_by : ByteArray := prog_1_method_9_code
def yX12_by : MethodName := ⟨RX12, "by", "(I)Z"⟩
abbrev cX12_morning : ByteArray := prog_1_method_10_code
def yX12_morning : MethodName := ⟨RX12, "morning", "(I)I"⟩
abbrev cX12_strike : ByteArray := prog_1_method_11_code
def yX12_strike : MethodName := ⟨RX12, "strike", "(I)I"⟩
abbrev cX12_comeBack : ByteArray := prog_1_method_12_code
def yX12_comeBack : MethodName := ⟨RX12, "comeBack", "(I)I"⟩
abbrev cX12_raise : ByteArray := prog_1_method_13_code
def yX12_raise : MethodName := ⟨RX12, "raise", "(II)Z"⟩
abbrev cX12_sign : ByteArray := prog_1_method_14_code
def yX12_sign : MethodName := ⟨RX12, "sign", "(II)Z"⟩
abbrev cX12_contract : ByteArray := prog_1_method_15_code
def yX12_contract : MethodName := ⟨RX12, "contract", "(I)I"⟩
abbrev cX12_played : ByteArray := prog_1_method_16_code
def yX12_played : MethodName := ⟨RX12, "played", "(I)I"⟩
abbrev cX12_year : ByteArray := prog_1_method_17_code
def yX12_year : MethodName := ⟨RX12, "year", "(II)I"⟩
abbrev cX12_undo : ByteArray := prog_1_method_18_code
def yX12_undo : MethodName := ⟨RX12, "undo", "()I"⟩
abbrev cX12_of : ByteArray := prog_1_method_19_code
def yX12_of : MethodName := ⟨RX12, "of", "(II)I"⟩
abbrev cX12_ofWord : ByteArray := prog_1_method_20_code
def yX12_ofWord : MethodName := ⟨RX12, "ofWord", "(II)I"⟩
abbrev cX12_ofSaying : ByteArray := prog_1_method_21_code
def yX12_ofSaying : MethodName := ⟨RX12, "ofSaying", "(II)I"⟩
abbrev cX12_mistaken : ByteArray := prog_1_method_22_code
def yX12_mistaken : MethodName := ⟨RX12, "mistaken", "(II)Z"⟩
abbrev cX12_said : ByteArray := prog_1_method_23_code
def yX12_said : MethodName := ⟨RX12, "said", "(III)I"⟩
abbrev cX12_dear : ByteArray := prog_1_method_24_code
def yX12_dear : MethodName := ⟨RX12, "dear", "(I)I"⟩
abbrev cX12_stop : ByteArray := prog_1_method_25_code
def yX12_stop : MethodName := ⟨RX12, "stop", "(I)I"⟩
abbrev cX12_spared : ByteArray := prog_1_method_26_code
def yX12_spared : MethodName := ⟨RX12, "spared", "(Z)I"⟩
abbrev cX12_power : ByteArray := prog_1_method_27_code
def yX12_power : MethodName := ⟨RX12, "power", "(IIIZ)I"⟩
abbrev cX12_party : ByteArray := prog_1_method_28_code
def yX12_party : MethodName := ⟨RX12, "party", "(I)I"⟩
abbrev cX12_worth : ByteArray := prog_1_method_29_code
def yX12_worth : MethodName := ⟨RX12, "worth", "(I)I"⟩
abbrev cX12_core : ByteArray := prog_1_method_30_code
def yX12_core : MethodName := ⟨RX12, "core", "(II)I"⟩
abbrev cX12_game : ByteArray := prog_1_method_31_code
def yX12_game : MethodName := ⟨RX12, "game", "(IIZ)I"⟩
abbrev cX12_signsFor : ByteArray := prog_1_method_32_code
def yX12_signsFor : MethodName := ⟨RX12, "signsFor", "(II)I"⟩
abbrev cX12_settlement : ByteArray := prog_1_method_33_code
def yX12_settlement : MethodName := ⟨RX12, "settlement", "(II)I"⟩
abbrev cX12_learn : ByteArray := prog_1_method_34_code
def yX12_learn : MethodName := ⟨RX12, "learn", "(IZ)I"⟩
abbrev cX12_hair : ByteArray := prog_1_method_35_code
def yX12_hair : MethodName := ⟨RX12, "hair", "(II)I"⟩
abbrev cX12_printed : ByteArray := prog_1_method_36_code
def yX12_printed : MethodName := ⟨RX12, "printed", "(IIZ)I"⟩
abbrev cX12_spells : ByteArray := prog_1_method_37_code
def yX12_spells : MethodName := ⟨RX12, "spells", "(II)I"⟩
abbrev cX12_signed : ByteArray := prog_1_method_38_code
def yX12_signed : MethodName := ⟨RX12, "signed", "(II)I"⟩
abbrev cX12_image : ByteArray := prog_1_method_39_code
def yX12_image : MethodName := ⟨RX12, "image", "()I"⟩
abbrev cX12_back : ByteArray := prog_1_method_40_code
def yX12_back : MethodName := ⟨RX12, "back", "()I"⟩
abbrev cX12_about : ByteArray := prog_1_method_41_code
def yX12_about : MethodName := ⟨RX12, "about", "(I)I"⟩
abbrev cX12_isText : ByteArray := prog_1_method_42_code
def yX12_isText : MethodName := ⟨RX12, "isText", "(I)Z"⟩
abbrev cX12_isLetter : ByteArray := prog_1_method_43_code
def yX12_isLetter : MethodName := ⟨RX12, "isLetter", "(I)Z"⟩
abbrev cX12_isSet : ByteArray := prog_1_method_44_code
def yX12_isSet : MethodName := ⟨RX12, "isSet", "(I)Z"⟩
abbrev cX12_greatestDivisor : ByteArray := prog_1_method_45_code
def yX12_greatestDivisor : MethodName := ⟨RX12, "greatestDivisor", "(II)I"⟩
def RX13 : String := "LettersOnStrikeModel"
def TX13 : u_T := fun k => match k with
  | 0 => ("LettersOnStrikeModel", "a", "[I", true)
  | 1 => ("LettersOnStrikeModel", "image", "[I", true)
  | 2 => ("LettersOnStrikeModel", "texts", "[I", true)
  | 3 => ("LettersOnStrikeModel", "told", "[I", true)
  | 4 => ("LettersOnStrikeModel", "many", "I", false)
  | 5 => ("LettersOnStrikeModel", "senses", "[I", true)
  | 6 => ("LettersOnStrikeModel", "senseCount", "I", false)
  | 7 => ("LettersOnStrikeModel", "tape", "[I", true)
  | 8 => ("LettersOnStrikeModel", "taped", "I", false)
  | 9 => ("LettersOnStrikeModel", "fault", "I", false)
  | 10 => ("LettersOnStrikeModel", "faultPlace", "I", false)
  | 11 => ("LettersOnStrikeModel", "at", "I", false)
  | 12 => ("LettersOnStrikeModel", "place", "I", false)
  | 13 => ("LettersOnStrikeModel", "token", "I", false)
  | 14 => ("LettersOnStrikeModel", "number", "I", false)
  | 15 => ("LettersOnStrikeModel", "word", "J", false)
  | 16 => ("LettersOnStrikeModel", "text0", "I", false)
  | 17 => ("LettersOnStrikeModel", "clauses", "I", false)
  | 18 => ("LettersOnStrikeModel", "written", "I", false)
  | 19 => ("LettersOnStrikeModel", "came", "I", false)
  | 20 => ("LettersOnStrikeModel", "pile", "[I", true)
  | 21 => ("LettersOnStrikeModel", "piled", "I", false)
  | 22 => ("LettersOnStrikeModel", "opens", "I", false)
  | 23 => ("LettersOnStrikeModel", "isWhole", "Z", false)
  | 24 => ("LettersOnStrikeModel", "sort0", "I", false)
  | 25 => ("LettersOnStrikeModel", "once", "I", false)
  | 26 => ("LettersOnStrikeModel", "named", "[I", true)
  | 27 => ("LettersOnStrikeModel", "values", "[J", true)
  | 28 => ("LettersOnStrikeModel", "truth", "[Z", true)
  | 29 => ("LettersOnStrikeModel", "row", "[I", true)
  | 30 => ("LettersOnStrikeModel", "member", "[I", true)
  | 31 => ("LettersOnStrikeModel", "mute", "[Z", true)
  | 32 => ("LettersOnStrikeModel", "wins", "[Z", true)
  | 33 => ("LettersOnStrikeModel", "members", "I", false)
  | 34 => ("LettersOnStrikeModel", "share", "[I", true)
  | 35 => ("LettersOnStrikeModel", "worths", "[I", true)
  | 36 => ("LettersOnStrikeModel", "signOf", "[I", true)
  | 37 => ("LettersOnStrikeModel", "best", "[I", true)
  | 38 => ("LettersOnStrikeModel", "bestLong", "I", false)
  | _ => ("LettersOnStrikeModel", "bestMany", "I", false)
def tyX13 : Nat → FieldType := fun k => match k with
  | 0 => .array .int
  | 1 => .array .int
  | 2 => .array .int
  | 3 => .array .int
  | 4 => .int
  | 5 => .array .int
  | 6 => .int
  | 7 => .array .int
  | 8 => .int
  | 9 => .int
  | 10 => .int
  | 11 => .int
  | 12 => .int
  | 13 => .int
  | 14 => .int
  | 15 => .long
  | 16 => .int
  | 17 => .int
  | 18 => .int
  | 19 => .int
  | 20 => .array .int
  | 21 => .int
  | 22 => .int
  | 23 => .boolean
  | 24 => .int
  | 25 => .int
  | 26 => .array .int
  | 27 => .array .long
  | 28 => .array .boolean
  | 29 => .array .int
  | 30 => .array .int
  | 31 => .array .boolean
  | 32 => .array .boolean
  | 33 => .int
  | 34 => .array .int
  | 35 => .array .int
  | 36 => .array .int
  | 37 => .array .int
  | 38 => .int
  | _ => .int
abbrev wsX130 : List Cond := u_ws RX13 TX13 40
theorem nmX13 : ∀ a, a < 40 → ∀ b, b < 40 → a ≠ b → (TX13 a).2.1 ≠ (TX13 b).2.1 := by decide +kernel
theorem tyX13_ok : ∀ k, k < 40 → parseFieldDescriptor (TX13 k).2.2.1 = some (tyX13 k) := by decide +kernel
abbrev cX13_init : ByteArray := prog_15_method_1_code
def yX13_init : MethodName := ⟨RX13, "<init>", "()V"⟩
abbrev cX13_copy : ByteArray := prog_15_method_2_code
def yX13_copy : MethodName := ⟨RX13, "copy", "([I[I)V"⟩
abbrev cX13_isIn : ByteArray := prog_15_method_3_code
def yX13_isIn : MethodName := ⟨RX13, "isIn", "(III)Z"⟩
abbrev cX13_has : ByteArray := prog_15_method_4_code
def yX13_has : MethodName := ⟨RX13, "has", "(II)Z"⟩
abbrev cX13_bits : ByteArray := prog_15_method_5_code
def yX13_bits : MethodName := ⟨RX13, "bits", "(I)I"⟩
abbrev cX13_isLetter0 : ByteArray := prog_15_method_6_code
def yX13_isLetter0 : MethodName := ⟨RX13, "isLetter0", "(I)Z"⟩
abbrev cX13_isSet : ByteArray := prog_15_method_7_code
def yX13_isSet : MethodName := ⟨RX13, "isSet", "(I)Z"⟩
abbrev cX13_isWord0 : ByteArray := prog_15_method_8_code
def yX13_isWord0 : MethodName := ⟨RX13, "isWord0", "(I)Z"⟩
abbrev cX13_isSaying : ByteArray := prog_15_method_9_code
def yX13_isSaying : MethodName := ⟨RX13, "isSaying", "(I)Z"⟩
abbrev cX13_isOut : ByteArray := prog_15_method_10_code
def yX13_isOut : MethodName := ⟨RX13, "isOut", "(I)Z"⟩
abbrev cX13_letterOf : ByteArray := prog_15_method_11_code
def yX13_letterOf : MethodName := ⟨RX13, "letterOf", "(II)I"⟩
abbrev cX13_lengthOf : ByteArray := prog_15_method_12_code
def yX13_lengthOf : MethodName := ⟨RX13, "lengthOf", "(I)I"⟩
abbrev cX13_senseOf : ByteArray := prog_15_method_13_code
def yX13_senseOf : MethodName := ⟨RX13, "senseOf", "(I)I"⟩
abbrev cX13_setOf : ByteArray := prog_15_method_14_code
def yX13_setOf : MethodName := ⟨RX13, "setOf", "(I)I"⟩
abbrev cX13_usesOf : ByteArray := prog_15_method_15_code
def yX13_usesOf : MethodName := ⟨RX13, "usesOf", "(I)I"⟩
abbrev cX13_tie : ByteArray := prog_15_method_16_code
def yX13_tie : MethodName := ⟨RX13, "tie", "(II)Z"⟩
abbrev cX13_isTold : ByteArray := prog_15_method_17_code
def yX13_isTold : MethodName := ⟨RX13, "isTold", "()Z"⟩
abbrev cX13_wordNow : ByteArray := prog_15_method_18_code
def yX13_wordNow : MethodName := ⟨RX13, "wordNow", "(I)I"⟩
abbrev cX13_take : ByteArray := prog_15_method_19_code
def yX13_take : MethodName := ⟨RX13, "take", "(II)Z"⟩
abbrev cX13_word : ByteArray := prog_15_method_20_code
def yX13_word : MethodName := ⟨RX13, "word", "(III)I"⟩
abbrev cX13_sayNow : ByteArray := prog_15_method_21_code
def yX13_sayNow : MethodName := ⟨RX13, "sayNow", "()I"⟩
abbrev cX13_saying : ByteArray := prog_15_method_22_code
def yX13_saying : MethodName := ⟨RX13, "saying", "(I)I"⟩
abbrev cX13_sensesOf : ByteArray := prog_15_method_23_code
def yX13_sensesOf : MethodName := ⟨RX13, "sensesOf", "(I)I"⟩
abbrev cX13_senseAt : ByteArray := prog_15_method_24_code
def yX13_senseAt : MethodName := ⟨RX13, "senseAt", "(II)I"⟩
abbrev cX13_four : ByteArray := prog_15_method_25_code
def yX13_four : MethodName := ⟨RX13, "four", "(I)V"⟩
abbrev cX13_feed : ByteArray := prog_15_method_26_code
def yX13_feed : MethodName := ⟨RX13, "feed", "(IIIII)I"⟩
abbrev cX13_end : ByteArray := prog_15_method_27_code
def yX13_end : MethodName := ⟨RX13, "end", "(I)I"⟩
abbrev cX13_byteAt : ByteArray := prog_15_method_28_code
def yX13_byteAt : MethodName := ⟨RX13, "byteAt", "(I)I"⟩
abbrev cX13_isLetter : ByteArray := prog_15_method_29_code
def yX13_isLetter : MethodName := ⟨RX13, "isLetter", "(I)Z"⟩
abbrev cX13_isDigit : ByteArray := prog_15_method_30_code
def yX13_isDigit : MethodName := ⟨RX13, "isDigit", "(I)Z"⟩
abbrev cX13_nextToken : ByteArray := prog_15_method_31_code
def yX13_nextToken : MethodName := ⟨RX13, "nextToken", "()V"⟩
abbrev cX13_w3 : ByteArray := prog_15_method_32_code
def yX13_w3 : MethodName := ⟨RX13, "w3", "(III)J"⟩
abbrev cX13_w5 : ByteArray := prog_15_method_33_code
def yX13_w5 : MethodName := ⟨RX13, "w5", "(IIIII)J"⟩
abbrev cX13_w4 : ByteArray := prog_15_method_34_code
def yX13_w4 : MethodName := ⟨RX13, "w4", "(IIII)J"⟩
abbrev cX13_w6 : ByteArray := prog_15_method_35_code
def yX13_w6 : MethodName := ⟨RX13, "w6", "(IIIIII)J"⟩
abbrev cX13_isWord : ByteArray := prog_15_method_36_code
def yX13_isWord : MethodName := ⟨RX13, "isWord", "(J)Z"⟩
abbrev cX13_emit : ByteArray := prog_15_method_37_code
def yX13_emit : MethodName := ⟨RX13, "emit", "(II)V"⟩
abbrev cX13_push : ByteArray := prog_15_method_38_code
def yX13_push : MethodName := ⟨RX13, "push", "(I)V"⟩
abbrev cX13_whole : ByteArray := prog_15_method_39_code
def yX13_whole : MethodName := ⟨RX13, "whole", "()V"⟩
abbrev cX13_settle : ByteArray := prog_15_method_40_code
def yX13_settle : MethodName := ⟨RX13, "settle", "(I)V"⟩
abbrev cX13_lawName : ByteArray := prog_15_method_41_code
def yX13_lawName : MethodName := ⟨RX13, "lawName", "()I"⟩
abbrev cX13_nameOf : ByteArray := prog_15_method_42_code
def yX13_nameOf : MethodName := ⟨RX13, "nameOf", "()I"⟩
abbrev cX13_isBarred : ByteArray := prog_15_method_43_code
def yX13_isBarred : MethodName := ⟨RX13, "isBarred", "(I)Z"⟩
abbrev cX13_beginOne : ByteArray := prog_15_method_44_code
def yX13_beginOne : MethodName := ⟨RX13, "beginOne", "()I"⟩
abbrev cX13_hasParen : ByteArray := prog_15_method_45_code
def yX13_hasParen : MethodName := ⟨RX13, "hasParen", "()Z"⟩
abbrev cX13_goesOn : ByteArray := prog_15_method_46_code
def yX13_goesOn : MethodName := ⟨RX13, "goesOn", "()Z"⟩
abbrev cX13_behindOne : ByteArray := prog_15_method_47_code
def yX13_behindOne : MethodName := ⟨RX13, "behindOne", "()I"⟩
abbrev cX13_summed : ByteArray := prog_15_method_48_code
def yX13_summed : MethodName := ⟨RX13, "summed", "()I"⟩
abbrev cX13_compareOf : ByteArray := prog_15_method_49_code
def yX13_compareOf : MethodName := ⟨RX13, "compareOf", "()I"⟩
abbrev cX13_asks : ByteArray := prog_15_method_50_code
def yX13_asks : MethodName := ⟨RX13, "asks", "()I"⟩
abbrev cX13_either : ByteArray := prog_15_method_51_code
def yX13_either : MethodName := ⟨RX13, "either", "()I"⟩
abbrev cX13_sortOf : ByteArray := prog_15_method_52_code
def yX13_sortOf : MethodName := ⟨RX13, "sortOf", "()I"⟩
abbrev cX13_isAct : ByteArray := prog_15_method_53_code
def yX13_isAct : MethodName := ⟨RX13, "isAct", "()I"⟩
abbrev cX13_figure : ByteArray := prog_15_method_54_code
def yX13_figure : MethodName := ⟨RX13, "figure", "(III)I"⟩
abbrev cX13_letters : ByteArray := prog_15_method_55_code
def yX13_letters : MethodName := ⟨RX13, "letters", "(I)I"⟩
abbrev cX13_need : ByteArray := prog_15_method_56_code
def yX13_need : MethodName := ⟨RX13, "need", "(J)I"⟩
abbrev cX13_wordClause : ByteArray := prog_15_method_57_code
def yX13_wordClause : MethodName := ⟨RX13, "wordClause", "(I)I"⟩
abbrev cX13_sayClause : ByteArray := prog_15_method_58_code
def yX13_sayClause : MethodName := ⟨RX13, "sayClause", "(I)I"⟩
abbrev cX13_signClause : ByteArray := prog_15_method_59_code
def yX13_signClause : MethodName := ⟨RX13, "signClause", "(I)I"⟩
abbrev cX13_tieClause : ByteArray := prog_15_method_60_code
def yX13_tieClause : MethodName := ⟨RX13, "tieClause", "(I)I"⟩
abbrev cX13_raiseClause : ByteArray := prog_15_method_61_code
def yX13_raiseClause : MethodName := ⟨RX13, "raiseClause", "(I)I"⟩
abbrev cX13_lawClause : ByteArray := prog_15_method_62_code
def yX13_lawClause : MethodName := ⟨RX13, "lawClause", "(II)I"⟩
abbrev cX13_body : ByteArray := prog_15_method_63_code
def yX13_body : MethodName := ⟨RX13, "body", "(II)I"⟩
abbrev cX13_clause : ByteArray := prog_15_method_64_code
def yX13_clause : MethodName := ⟨RX13, "clause", "()I"⟩
abbrev cX13_readText : ByteArray := prog_15_method_65_code
def yX13_readText : MethodName := ⟨RX13, "readText", "()I"⟩
abbrev cX13_text : ByteArray := prog_15_method_66_code
def yX13_text : MethodName := ⟨RX13, "text", "()I"⟩
abbrev cX13_fault : ByteArray := prog_15_method_67_code
def yX13_fault : MethodName := ⟨RX13, "fault", "(I)I"⟩
abbrev cX13_by : ByteArray := prog_15_method_68_code
def yX13_by : MethodName := ⟨RX13, "by", "(I)Z"⟩
abbrev cX13_clip : ByteArray := prog_15_method_69_code
def yX13_clip : MethodName := ⟨RX13, "clip", "(J)J"⟩
abbrev cX13_two : ByteArray := prog_15_method_70_code
def yX13_two : MethodName := ⟨RX13, "two", "(IJJ)J"⟩
abbrev cX13_isAsked : ByteArray := prog_15_method_71_code
def yX13_isAsked : MethodName := ⟨RX13, "isAsked", "(IJJ)Z"⟩
abbrev cX13_work : ByteArray := prog_15_method_72_code
def yX13_work : MethodName := ⟨RX13, "work", "(I)V"⟩
abbrev cX13_clauseOf : ByteArray := prog_15_method_73_code
def yX13_clauseOf : MethodName := ⟨RX13, "clauseOf", "(I)I"⟩
abbrev cX13_isVowel : ByteArray := prog_15_method_74_code
def yX13_isVowel : MethodName := ⟨RX13, "isVowel", "(I)Z"⟩
abbrev cX13_wouldChange : ByteArray := prog_15_method_75_code
def yX13_wouldChange : MethodName := ⟨RX13, "wouldChange", "(I)Z"⟩
abbrev cX13_keep : ByteArray := prog_15_method_76_code
def yX13_keep : MethodName := ⟨RX13, "keep", "()V"⟩
abbrev cX13_undo : ByteArray := prog_15_method_77_code
def yX13_undo : MethodName := ⟨RX13, "undo", "()I"⟩
abbrev cX13_dawn : ByteArray := prog_15_method_78_code
def yX13_dawn : MethodName := ⟨RX13, "dawn", "()V"⟩
abbrev cX13_isMorning : ByteArray := prog_15_method_79_code
def yX13_isMorning : MethodName := ⟨RX13, "isMorning", "()Z"⟩
abbrev cX13_morning : ByteArray := prog_15_method_80_code
def yX13_morning : MethodName := ⟨RX13, "morning", "(I)I"⟩
abbrev cX13_call : ByteArray := prog_15_method_81_code
def yX13_call : MethodName := ⟨RX13, "call", "(I)I"⟩
abbrev cX13_strike : ByteArray := prog_15_method_82_code
def yX13_strike : MethodName := ⟨RX13, "strike", "(I)I"⟩
abbrev cX13_comeBack : ByteArray := prog_15_method_83_code
def yX13_comeBack : MethodName := ⟨RX13, "comeBack", "(I)I"⟩
abbrev cX13_raise : ByteArray := prog_15_method_84_code
def yX13_raise : MethodName := ⟨RX13, "raise", "(II)Z"⟩
abbrev cX13_sign : ByteArray := prog_15_method_85_code
def yX13_sign : MethodName := ⟨RX13, "sign", "(II)Z"⟩
abbrev cX13_isWritten : ByteArray := prog_15_method_86_code
def yX13_isWritten : MethodName := ⟨RX13, "isWritten", "(I)Z"⟩
abbrev cX13_wordFor : ByteArray := prog_15_method_87_code
def yX13_wordFor : MethodName := ⟨RX13, "wordFor", "(IIZ)I"⟩
abbrev cX13_canSay : ByteArray := prog_15_method_88_code
def yX13_canSay : MethodName := ⟨RX13, "canSay", "(IIZ)Z"⟩
abbrev cX13_contract : ByteArray := prog_15_method_89_code
def yX13_contract : MethodName := ⟨RX13, "contract", "(I)I"⟩
abbrev cX13_areTied : ByteArray := prog_15_method_90_code
def yX13_areTied : MethodName := ⟨RX13, "areTied", "(II)Z"⟩
abbrev cX13_areRaised : ByteArray := prog_15_method_91_code
def yX13_areRaised : MethodName := ⟨RX13, "areRaised", "(II)Z"⟩
abbrev cX13_areSigned : ByteArray := prog_15_method_92_code
def yX13_areSigned : MethodName := ⟨RX13, "areSigned", "(II)Z"⟩
abbrev cX13_areMornings : ByteArray := prog_15_method_93_code
def yX13_areMornings : MethodName := ⟨RX13, "areMornings", "(I)Z"⟩
abbrev cX13_isTaught : ByteArray := prog_15_method_94_code
def yX13_isTaught : MethodName := ⟨RX13, "isTaught", "(I)Z"⟩
abbrev cX13_isSpoken : ByteArray := prog_15_method_95_code
def yX13_isSpoken : MethodName := ⟨RX13, "isSpoken", "(I)Z"⟩
abbrev cX13_isPlayed : ByteArray := prog_15_method_96_code
def yX13_isPlayed : MethodName := ⟨RX13, "isPlayed", "(I)Z"⟩
abbrev cX13_played : ByteArray := prog_15_method_97_code
def yX13_played : MethodName := ⟨RX13, "played", "(I)I"⟩
abbrev cX13_anew : ByteArray := prog_15_method_98_code
def yX13_anew : MethodName := ⟨RX13, "anew", "(I)I"⟩
abbrev cX13_happens : ByteArray := prog_15_method_99_code
def yX13_happens : MethodName := ⟨RX13, "happens", "(II)V"⟩
abbrev cX13_year : ByteArray := prog_15_method_100_code
def yX13_year : MethodName := ⟨RX13, "year", "(II)I"⟩
abbrev cX13_of : ByteArray := prog_15_method_101_code
def yX13_of : MethodName := ⟨RX13, "of", "(II)I"⟩
abbrev cX13_ofWord : ByteArray := prog_15_method_102_code
def yX13_ofWord : MethodName := ⟨RX13, "ofWord", "(II)I"⟩
abbrev cX13_ofSaying : ByteArray := prog_15_method_103_code
def yX13_ofSaying : MethodName := ⟨RX13, "ofSaying", "(II)I"⟩
abbrev cX13_written : ByteArray := prog_15_method_104_code
def yX13_written : MethodName := ⟨RX13, "written", "(I)I"⟩
abbrev cX13_mistaken : ByteArray := prog_15_method_105_code
def yX13_mistaken : MethodName := ⟨RX13, "mistaken", "(II)Z"⟩
abbrev cX13_said : ByteArray := prog_15_method_106_code
def yX13_said : MethodName := ⟨RX13, "said", "(III)I"⟩
abbrev cX13_priceOf : ByteArray := prog_15_method_107_code
def yX13_priceOf : MethodName := ⟨RX13, "priceOf", "(I)I"⟩
abbrev cX13_dear : ByteArray := prog_15_method_108_code
def yX13_dear : MethodName := ⟨RX13, "dear", "(I)I"⟩
abbrev cX13_firstRow : ByteArray := prog_15_method_109_code
def yX13_firstRow : MethodName := ⟨RX13, "firstRow", "(I)V"⟩
abbrev cX13_nextRow : ByteArray := prog_15_method_110_code
def yX13_nextRow : MethodName := ⟨RX13, "nextRow", "(II)Z"⟩
abbrev cX13_setOfRow : ByteArray := prog_15_method_111_code
def yX13_setOfRow : MethodName := ⟨RX13, "setOfRow", "(I)I"⟩
abbrev cX13_stop : ByteArray := prog_15_method_112_code
def yX13_stop : MethodName := ⟨RX13, "stop", "(I)I"⟩
abbrev cX13_silenced : ByteArray := prog_15_method_113_code
def yX13_silenced : MethodName := ⟨RX13, "silenced", "(I)I"⟩
abbrev cX13_spared : ByteArray := prog_15_method_114_code
def yX13_spared : MethodName := ⟨RX13, "spared", "(Z)I"⟩
abbrev cX13_layGroup : ByteArray := prog_15_method_115_code
def yX13_layGroup : MethodName := ⟨RX13, "layGroup", "(II)Z"⟩
abbrev cX13_factorial : ByteArray := prog_15_method_116_code
def yX13_factorial : MethodName := ⟨RX13, "factorial", "(I)J"⟩
abbrev cX13_common : ByteArray := prog_15_method_117_code
def yX13_common : MethodName := ⟨RX13, "common", "(JJ)J"⟩
abbrev cX13_power : ByteArray := prog_15_method_118_code
def yX13_power : MethodName := ⟨RX13, "power", "(IIIZ)I"⟩
abbrev cX13_party : ByteArray := prog_15_method_119_code
def yX13_party : MethodName := ⟨RX13, "party", "(I)I"⟩
abbrev cX13_worthOf : ByteArray := prog_15_method_120_code
def yX13_worthOf : MethodName := ⟨RX13, "worthOf", "(I)I"⟩
abbrev cX13_worth : ByteArray := prog_15_method_121_code
def yX13_worth : MethodName := ⟨RX13, "worth", "(I)I"⟩
abbrev cX13_areContent : ByteArray := prog_15_method_122_code
def yX13_areContent : MethodName := ⟨RX13, "areContent", "()Z"⟩
abbrev cX13_nextShares : ByteArray := prog_15_method_123_code
def yX13_nextShares : MethodName := ⟨RX13, "nextShares", "(I)Z"⟩
abbrev cX13_core : ByteArray := prog_15_method_124_code
def yX13_core : MethodName := ⟨RX13, "core", "(II)I"⟩
abbrev cX13_isGood : ByteArray := prog_15_method_125_code
def yX13_isGood : MethodName := ⟨RX13, "isGood", "(II)Z"⟩
abbrev cX13_game : ByteArray := prog_15_method_126_code
def yX13_game : MethodName := ⟨RX13, "game", "(IIZ)I"⟩
abbrev cX13_areAlike : ByteArray := prog_15_method_127_code
def yX13_areAlike : MethodName := ⟨RX13, "areAlike", "(II)Z"⟩
abbrev cX13_isClear : ByteArray := prog_15_method_128_code
def yX13_isClear : MethodName := ⟨RX13, "isClear", "()Z"⟩
abbrev cX13_unlike : ByteArray := prog_15_method_129_code
def yX13_unlike : MethodName := ⟨RX13, "unlike", "(I)I"⟩
abbrev cX13_nextSigns : ByteArray := prog_15_method_130_code
def yX13_nextSigns : MethodName := ⟨RX13, "nextSigns", "(I)Z"⟩
abbrev cX13_areEnough : ByteArray := prog_15_method_131_code
def yX13_areEnough : MethodName := ⟨RX13, "areEnough", "(II)Z"⟩
abbrev cX13_signsFor : ByteArray := prog_15_method_132_code
def yX13_signsFor : MethodName := ⟨RX13, "signsFor", "(II)I"⟩
abbrev cX13_weigh : ByteArray := prog_15_method_133_code
def yX13_weigh : MethodName := ⟨RX13, "weigh", "(II)V"⟩
abbrev cX13_settlement : ByteArray := prog_15_method_134_code
def yX13_settlement : MethodName := ⟨RX13, "settlement", "(II)I"⟩
abbrev cX13_writtenWith : ByteArray := prog_15_method_135_code
def yX13_writtenWith : MethodName := ⟨RX13, "writtenWith", "(I)I"⟩
abbrev cX13_learn : ByteArray := prog_15_method_136_code
def yX13_learn : MethodName := ⟨RX13, "learn", "(IZ)I"⟩
abbrev cX13_isHair : ByteArray := prog_15_method_137_code
def yX13_isHair : MethodName := ⟨RX13, "isHair", "(II)Z"⟩
abbrev cX13_hair : ByteArray := prog_15_method_138_code
def yX13_hair : MethodName := ⟨RX13, "hair", "(II)I"⟩
abbrev cX13_printed : ByteArray := prog_15_method_139_code
def yX13_printed : MethodName := ⟨RX13, "printed", "(IIZ)I"⟩
abbrev cX13_setThere : ByteArray := prog_15_method_140_code
def yX13_setThere : MethodName := ⟨RX13, "setThere", "(I)I"⟩
abbrev cX13_canBe : ByteArray := prog_15_method_141_code
def yX13_canBe : MethodName := ⟨RX13, "canBe", "(III)Z"⟩
abbrev cX13_spells : ByteArray := prog_15_method_142_code
def yX13_spells : MethodName := ⟨RX13, "spells", "(II)I"⟩
abbrev cX13_brokenOf : ByteArray := prog_15_method_143_code
def yX13_brokenOf : MethodName := ⟨RX13, "brokenOf", "(I)I"⟩
abbrev cX13_binds : ByteArray := prog_15_method_144_code
def yX13_binds : MethodName := ⟨RX13, "binds", "(I)Z"⟩
abbrev cX13_loophole : ByteArray := prog_15_method_145_code
def yX13_loophole : MethodName := ⟨RX13, "loophole", "(I)I"⟩
abbrev cX13_signed : ByteArray := prog_15_method_146_code
def yX13_signed : MethodName := ⟨RX13, "signed", "(II)I"⟩
abbrev cX13_image : ByteArray := prog_15_method_147_code
def yX13_image : MethodName := ⟨RX13, "image", "()I"⟩
abbrev cX13_back : ByteArray := prog_15_method_148_code
def yX13_back : MethodName := ⟨RX13, "back", "()I"⟩
abbrev cX13_about : ByteArray := prog_15_method_149_code
def yX13_about : MethodName := ⟨RX13, "about", "(I)I"⟩
def RJ6 : String := "java/lang/Integer"
abbrev cJ6_bitCount_0f7a4 : ByteArray := prog_17_method_49_code
def yJ6_bitCount_0f7a4 : MethodName := ⟨RJ6, "bitCount", "(I)I"⟩
def RJ9 : String := "java/lang/Math"
abbrev cJ9_max_7cf53 : ByteArray := prog_18_method_65_code
def yJ9_max_7cf53 : MethodName := ⟨RJ9, "max", "(II)I"⟩
abbrev cJ9_min_7cf53 : ByteArray := prog_18_method_69_code
def yJ9_min_7cf53 : MethodName := ⟨RJ9, "min", "(II)I"⟩
def RJ0 : String := "java/lang/String"
abbrev cJ0_length_8abf5 : ByteArray := prog_19_method_54_code
def yJ0_length_8abf5 : MethodName := ⟨RJ0, "length", "()I"⟩
abbrev cJ0_charAt_5068e : ByteArray := prog_19_method_56_code
def yJ0_charAt_5068e : MethodName := ⟨RJ0, "charAt", "(I)C"⟩
abbrev cJ0_indexOf_0f7a4 : ByteArray := prog_19_method_79_code
def yJ0_indexOf_0f7a4 : MethodName := ⟨RJ0, "indexOf", "(I)I"⟩
abbrev cJ0_indexOf_7cf53 : ByteArray := prog_19_method_80_code
def yJ0_indexOf_7cf53 : MethodName := ⟨RJ0, "indexOf", "(II)I"⟩
abbrev cJ0_coder_7d493 : ByteArray := prog_19_method_152_code
def yJ0_coder_7d493 : MethodName := ⟨RJ0, "coder", "()B"⟩
abbrev cJ0_isLatin1_aae02 : ByteArray := prog_19_method_154_code
def yJ0_isLatin1_aae02 : MethodName := ⟨RJ0, "isLatin1", "()Z"⟩
abbrev cJ0_checkIndex_df160 : ByteArray := prog_19_method_155_code
def yJ0_checkIndex_df160 : MethodName := ⟨RJ0, "checkIndex", "(II)V"⟩
def RJ1 : String := "java/lang/StringLatin1"
abbrev cJ1_charAt_3b067 : ByteArray := prog_20_method_2_code
def yJ1_charAt_3b067 : MethodName := ⟨RJ1, "charAt", "([BI)C"⟩
abbrev cJ1_canEncode_9a6ad : ByteArray := prog_20_method_4_code
def yJ1_canEncode_9a6ad : MethodName := ⟨RJ1, "canEncode", "(I)Z"⟩
abbrev cJ1_indexOf_4cfef : ByteArray := prog_20_method_22_code
def yJ1_indexOf_4cfef : MethodName := ⟨RJ1, "indexOf", "([BIII)I"⟩
abbrev cJ1_indexOfChar_4cfef : ByteArray := prog_20_method_23_code
def yJ1_indexOfChar_4cfef : MethodName := ⟨RJ1, "indexOfChar", "([BIII)I"⟩
def RJ3 : String := "jdk/internal/util/Preconditions"
abbrev cJ3_checkIndex_8e157 : ByteArray := prog_23_method_11_code
def yJ3_checkIndex_8e157 : MethodName := ⟨RJ3, "checkIndex", "(IILjava/util/function/BiFunction;)I"⟩
def RL : String := "LettersOnStrikeLaw"
abbrev cL_law : ByteArray := code
def yL_law : MethodName := ⟨RL, "law", "([I)Z"⟩
abbrev vwCl : List vw_C := [(RX0, TX0, 4), (RX1, TX1, 3), (RX2, TX2, 13), (RX3, TX3, 3), (RX4, TX4, 4), (RX5, TX5, 9), (RX6, TX6, 7), (RX7, TX7, 10), (RX8, TX8, 10), (RX9, TX9, 7), (RX10, TX10, 7), (RX11, TX11, 11), (RX12, TX12, 10), (RX13, TX13, 40)]
def lOwn : List String := [RX0, RX1, RX2, RX3, RX4, RX5, RX6, RX7, RX8, RX9, RX10, RX11, RX12, RX13, RL, RJ6, RJ9, RJ0, RJ1, RJ3]
def lFres : List (List (Nat × Nat × Nat)) := [[(11, (0, 0)), (15, (0, 1)), (18, (0, 2)), (23, (0, 3))],
  [(9, (1, 0)), (15, (2, 1)), (21, (1, 1)), (22, (1, 2)), (26, (9, 1)), (42, (2, 2)), (58, (9, 5)), (66, (9, 0)), (78, (9, 4)), (81, (9, 6)), (84, (2, 0)), (88, (2, 3)), (92, (9, 3)), (106, (0, 0)), (109, (0, 1)), (111, (0, 2)), (114, (5, 6)), (117, (0, 3)), (124, (9, 2)), (136, (11, 0)), (141, (11, 1)), (148, (11, 2)), (151, (11, 4)), (154, (11, 6)), (157, (11, 5)), (168, (11, 3))],
  [(12, (2, 0)), (21, (2, 1)), (28, (2, 2)), (35, (2, 3)), (39, (2, 4)), (43, (2, 6)), (47, (2, 8)), (50, (2, 10)), (53, (2, 11)), (56, (2, 12)), (78, (2, 5)), (81, (2, 7)), (84, (2, 9))],
  [(11, (3, 2)), (16, (3, 0)), (20, (3, 1))],
  [(13, (4, 2)), (17, (4, 3)), (20, (4, 0)), (24, (4, 1)), (28, (2, 1)), (34, (2, 4)), (37, (9, 0)), (57, (9, 4)), (60, (9, 5)), (72, (2, 0)), (88, (5, 2)), (95, (5, 3)), (112, (9, 6)), (118, (2, 3)), (122, (0, 2)), (127, (9, 1)), (130, (0, 1)), (135, (5, 4)), (142, (2, 6)), (147, (11, 7)), (150, (11, 8)), (153, (11, 10))],
  [(11, (5, 2)), (15, (5, 3)), (18, (5, 4)), (21, (5, 5)), (24, (5, 6)), (27, (5, 7)), (30, (5, 8)), (33, (5, 0)), (37, (5, 1))],
  [(11, (6, 1)), (17, (6, 2)), (20, (6, 3)), (23, (6, 5)), (27, (6, 6)), (30, (6, 0)), (34, (2, 0)), (38, (5, 7)), (67, (6, 4)), (74, (2, 7)), (77, (2, 8))],
  [(9, (7, 1)), (15, (7, 2)), (18, (7, 3)), (21, (7, 7)), (24, (7, 0)), (28, (2, 1)), (40, (9, 6)), (47, (2, 0)), (51, (5, 2)), (73, (5, 0)), (77, (7, 4)), (93, (5, 4)), (96, (7, 5)), (99, (7, 6)), (118, (7, 8)), (121, (7, 9)), (128, (2, 9)), (131, (2, 12)), (134, (2, 11)), (137, (2, 10))],
  [(9, (8, 0)), (15, (8, 1)), (24, (8, 7)), (28, (8, 8)), (32, (8, 9)), (40, (8, 2)), (46, (8, 3)), (52, (8, 5)), (55, (10, 2)), (58, (10, 3)), (61, (10, 6)), (64, (8, 4)), (66, (10, 4)), (82, (11, 0)), (85, (8, 6)), (95, (11, 7)), (98, (11, 9)), (110, (11, 8)), (119, (11, 4)), (128, (11, 2)), (141, (11, 3)), (150, (10, 5)), (153, (10, 0)), (156, (10, 1))],
  [(9, (9, 2)), (15, (9, 4)), (19, (9, 5)), (22, (9, 6)), (25, (9, 0)), (28, (9, 1)), (31, (9, 3))],
  [(11, (10, 1)), (15, (10, 3)), (18, (10, 4)), (21, (10, 5)), (24, (10, 6)), (27, (10, 0)), (31, (10, 2))],
  [(11, (11, 1)), (15, (11, 2)), (18, (11, 3)), (21, (11, 4)), (24, (11, 5)), (29, (11, 6)), (32, (11, 7)), (35, (11, 8)), (40, (11, 10)), (43, (11, 0)), (47, (11, 9))],
  [(10, (12, 0)), (16, (12, 1)), (21, (12, 2)), (29, (12, 3)), (38, (12, 4)), (47, (12, 5)), (56, (12, 6)), (65, (12, 7)), (72, (12, 8)), (78, (12, 9)), (90, (2, 0)), (110, (10, 0)), (114, (2, 5)), (120, (8, 7)), (124, (8, 8)), (127, (8, 9)), (133, (2, 6)), (136, (2, 1)), (140, (9, 1)), (179, (2, 2)), (189, (3, 0)), (192, (9, 4)), (195, (9, 5)), (201, (9, 6)), (204, (2, 4)), (216, (5, 2)), (219, (5, 3)), (222, (5, 4)), (235, (5, 6)), (277, (2, 7)), (280, (2, 8)), (289, (6, 1)), (298, (7, 1)), (304, (7, 2)), (310, (7, 5)), (313, (7, 6)), (316, (5, 0)), (322, (2, 9)), (325, (2, 10)), (328, (2, 11)), (331, (2, 12)), (337, (9, 3)), (342, (2, 3)), (345, (0, 0)), (348, (0, 1)), (350, (0, 2)), (367, (5, 1)), (370, (9, 2)), (373, (9, 0))],
  [(7, (13, 0)), (13, (13, 1)), (16, (13, 2)), (19, (13, 3)), (22, (13, 5)), (25, (13, 7)), (28, (13, 9)), (32, (13, 10)), (35, (13, 20)), (38, (13, 26)), (41, (13, 27)), (45, (13, 28)), (49, (13, 29)), (52, (13, 30)), (55, (13, 31)), (58, (13, 32)), (61, (13, 34)), (64, (13, 35)), (67, (13, 36)), (70, (13, 37)), (101, (13, 4)), (114, (13, 6)), (122, (13, 8)), (129, (13, 11)), (135, (13, 12)), (138, (13, 13)), (144, (13, 14)), (151, (13, 15)), (163, (13, 16)), (166, (13, 18)), (169, (13, 21)), (172, (13, 23)), (176, (13, 22)), (194, (13, 24)), (286, (13, 25)), (440, (13, 33)), (481, (13, 38)), (484, (13, 39))],
  [],
  [],
  [],
  [],
  [],
  []]
def lMres : List (List (Nat × Nat × Nat)) := [[(3, (3, 0)), (26, (5, 0))],
  [(3, (3, 0)), (32, (1, 321)), (38, (0, 5)), (46, (0, 24)), (52, (0, 28)), (62, (0, 109)), (69, (0, 8)), (73, (1, 319)), (94, (0, 108)), (100, (0, 52)), (120, (0, 49)), (127, (0, 13)), (130, (0, 14)), (133, (4, 167)), (144, (0, 16)), (160, (0, 44)), (164, (0, 46)), (171, (0, 21)), (174, (0, 6)), (177, (0, 7)), (180, (0, 17)), (183, (0, 18)), (186, (0, 11)), (189, (0, 4)), (192, (0, 9)), (195, (0, 10))],
  [(3, (3, 0)), (11, (2, 38)), (20, (2, 104)), (27, (2, 22)), (34, (2, 0)), (59, (0, 39)), (63, (0, 105)), (66, (0, 23)), (69, (0, 1)), (72, (5, 0))],
  [(1, (3, 0)), (15, (2, 104)), (23, (0, 105))],
  [(5, (3, 0)), (43, (1, 319)), (49, (0, 106)), (53, (0, 33)), (63, (0, 107)), (67, (0, 34)), (76, (0, 47)), (81, (0, 35)), (85, (0, 40)), (91, (0, 42)), (98, (1, 321)), (103, (1, 320)), (106, (0, 108)), (109, (4, 167)), (115, (0, 31)), (132, (0, 2)), (138, (0, 30)), (144, (0, 121)), (156, (1, 36)), (160, (1, 37))],
  [(3, (3, 0)), (40, (5, 0)), (46, (0, 40)), (50, (0, 41)), (53, (0, 45)), (57, (0, 42)), (61, (0, 43)), (64, (0, 48)), (67, (0, 49)), (71, (0, 51))],
  [(3, (3, 0)), (43, (0, 54)), (47, (1, 58)), (51, (0, 52)), (55, (1, 319)), (63, (0, 61)), (71, (0, 63)), (80, (0, 53)), (83, (0, 64)), (86, (0, 66)), (89, (0, 67))],
  [(3, (3, 0)), (34, (0, 106)), (43, (0, 70)), (56, (0, 42)), (60, (0, 72)), (64, (0, 73)), (68, (1, 320)), (80, (0, 75)), (84, (1, 321)), (87, (5, 0)), (102, (1, 319)), (108, (0, 77)), (112, (0, 78)), (115, (0, 80)), (124, (0, 81))],
  [(3, (3, 0)), (19, (0, 120)), (35, (0, 113)), (43, (0, 85)), (49, (0, 90)), (68, (0, 86)), (72, (0, 84)), (76, (0, 87)), (79, (0, 121)), (88, (0, 122)), (92, (0, 91)), (103, (0, 100)), (107, (0, 97)), (113, (0, 89)), (116, (0, 93)), (124, (0, 95)), (131, (0, 96)), (135, (0, 92)), (138, (0, 88)), (144, (0, 94)), (147, (0, 124)), (159, (4, 167)), (162, (1, 319)), (167, (0, 98)), (170, (0, 123)), (173, (0, 99)), (177, (0, 101)), (180, (0, 102)), (183, (0, 103)), (186, (1, 27))],
  [(3, (3, 0)), (34, (5, 0)), (40, (1, 319))],
  [(3, (3, 0)), (34, (0, 114)), (38, (0, 115)), (42, (1, 117)), (46, (0, 116)), (50, (1, 118)), (53, (1, 321)), (60, (0, 325)), (67, (0, 323)), (70, (0, 324))],
  [(3, (3, 0))],
  [(1, (3, 0)), (9, (2, 19)), (25, (2, 119)), (28, (2, 110)), (35, (2, 82)), (44, (2, 26)), (53, (2, 3)), (62, (2, 56)), (71, (2, 68)), (82, (1, 167)), (86, (0, 21)), (94, (0, 44)), (99, (0, 46)), (103, (0, 111)), (106, (0, 112)), (116, (0, 83)), (130, (0, 166)), (145, (0, 4)), (149, (0, 107)), (153, (1, 168)), (156, (0, 6)), (159, (0, 7)), (162, (0, 9)), (165, (0, 10)), (168, (0, 11)), (171, (0, 15)), (175, (0, 12)), (183, (0, 25)), (198, (0, 106)), (207, (0, 47)), (210, (0, 28)), (213, (0, 40)), (225, (0, 108)), (228, (0, 42)), (232, (0, 41)), (238, (0, 43)), (241, (0, 69)), (244, (0, 52)), (247, (0, 50)), (250, (0, 49)), (254, (0, 29)), (257, (0, 57)), (260, (0, 53)), (263, (1, 319)), (268, (0, 60)), (271, (0, 59)), (274, (1, 169)), (283, (0, 64)), (286, (0, 65)), (292, (0, 62)), (295, (0, 71)), (301, (0, 74)), (307, (0, 76)), (319, (0, 55)), (334, (0, 79)), (352, (0, 30)), (355, (0, 31)), (358, (0, 32)), (361, (0, 2)), (364, (0, 20))],
  [(1, (3, 0)), (73, (1, 171)), (77, (1, 172)), (82, (1, 173)), (86, (0, 181)), (90, (0, 180)), (94, (0, 183)), (97, (1, 175)), (104, (0, 186)), (108, (0, 188)), (111, (0, 187)), (118, (0, 190)), (125, (0, 194)), (132, (0, 197)), (141, (1, 199)), (148, (1, 198)), (155, (1, 201)), (159, (1, 202)), (179, (0, 206)), (183, (1, 203)), (187, (1, 204)), (191, (0, 210)), (197, (0, 200)), (200, (0, 208)), (203, (0, 211)), (206, (0, 212)), (209, (0, 207)), (212, (0, 214)), (215, (0, 209)), (218, (0, 215)), (221, (0, 216)), (224, (0, 213)), (227, (0, 205)), (231, (0, 217)), (234, (0, 218)), (237, (0, 219)), (242, (0, 222)), (245, (0, 224)), (248, (0, 225)), (252, (0, 223)), (262, (0, 220)), (265, (0, 226)), (268, (0, 227)), (271, (0, 229)), (274, (0, 230)), (277, (0, 228)), (280, (0, 231)), (283, (0, 221)), (289, (0, 232)), (292, (0, 233)), (295, (0, 234)), (302, (1, 238)), (306, (1, 239)), (310, (1, 240)), (314, (0, 179)), (317, (0, 242)), (320, (1, 174)), (323, (1, 243)), (326, (0, 184)), (329, (0, 241)), (332, (0, 244)), (335, (0, 245)), (338, (0, 247)), (341, (0, 248)), (344, (1, 176)), (347, (0, 250)), (350, (0, 182)), (353, (0, 255)), (356, (0, 192)), (359, (0, 193)), (362, (0, 256)), (366, (0, 178)), (369, (0, 257)), (373, (0, 185)), (376, (0, 253)), (379, (0, 254)), (382, (0, 263)), (385, (0, 264)), (388, (0, 259)), (391, (0, 251)), (394, (0, 252)), (397, (0, 260)), (400, (0, 261)), (403, (0, 258)), (406, (0, 262)), (409, (0, 265)), (412, (1, 267)), (415, (0, 268)), (418, (0, 177)), (421, (0, 273)), (425, (0, 276)), (428, (0, 278)), (431, (0, 280)), (434, (0, 279)), (437, (0, 282)), (443, (0, 284)), (446, (1, 285)), (450, (1, 286)), (454, (0, 289)), (457, (0, 291)), (460, (0, 292)), (463, (0, 294)), (466, (0, 296)), (469, (0, 298)), (472, (0, 297)), (475, (0, 299)), (478, (0, 300)), (488, (0, 302)), (491, (0, 304)), (494, (0, 306)), (497, (0, 309)), (500, (0, 310)), (503, (0, 312)), (506, (0, 313)), (509, (0, 314))],
  [(9, (2, 125)), (12, (2, 170)), (13, (0, 126)), (17, (0, 185)), (18, (0, 127)), (22, (0, 189)), (23, (0, 128)), (27, (0, 191)), (28, (0, 129)), (32, (0, 195)), (33, (0, 130)), (36, (0, 196)), (37, (0, 131)), (41, (0, 235)), (42, (0, 132)), (45, (0, 236)), (46, (0, 133)), (50, (0, 237)), (51, (0, 134)), (54, (0, 249)), (55, (0, 135)), (58, (0, 251)), (59, (0, 136)), (62, (0, 252)), (63, (0, 137)), (66, (0, 253)), (67, (0, 138)), (70, (0, 254)), (71, (0, 139)), (74, (0, 258)), (75, (0, 140)), (78, (0, 266)), (79, (0, 141)), (83, (0, 269)), (84, (0, 142)), (87, (0, 246)), (88, (0, 143)), (91, (0, 270)), (92, (0, 144)), (95, (0, 271)), (96, (0, 145)), (99, (0, 272)), (100, (0, 146)), (103, (0, 274)), (104, (0, 147)), (107, (0, 275)), (108, (0, 148)), (111, (0, 277)), (112, (0, 149)), (115, (0, 281)), (116, (0, 150)), (120, (0, 283)), (121, (0, 151)), (125, (0, 287)), (126, (0, 152)), (129, (0, 288)), (130, (0, 153)), (133, (0, 290)), (134, (0, 154)), (137, (0, 293)), (138, (0, 155)), (142, (0, 295)), (143, (0, 156)), (146, (0, 301)), (147, (0, 157)), (150, (0, 303)), (151, (0, 158)), (155, (0, 305)), (156, (0, 159)), (159, (0, 307)), (160, (0, 160)), (163, (0, 308)), (164, (0, 161)), (167, (0, 311)), (168, (0, 162)), (171, (0, 315)), (172, (0, 163)), (175, (0, 316)), (176, (0, 164)), (179, (0, 317)), (180, (0, 165)), (183, (0, 318))],
  [],
  [],
  [(335, (0, 327)), (492, (0, 328)), (495, (1, 330)), (505, (0, 323)), (633, (0, 326)), (637, (1, 332)), (1059, (1, 334))],
  [(9, (1, 329)), (38, (1, 321)), (88, (1, 331)), (92, (1, 320)), (95, (1, 333))],
  []]
def lCres : List (List (Nat × Nat)) := [[],
  [],
  [(9, 5), (18, 9), (25, 3), (32, 0)],
  [(9, 9)],
  [],
  [],
  [],
  [],
  [],
  [],
  [],
  [],
  [(7, 2), (19, 11), (26, 10), (33, 8), (42, 4), (51, 1), (60, 6), (69, 7)],
  [],
  [(7, 12), (10, 13)],
  [],
  [],
  [],
  [],
  []]
def lKon : List (List (Nat × Int32)) := [[],
  [],
  [],
  [],
  [(71, 1065233), (166, 1000000), (169, (-1000000))],
  [],
  [],
  [],
  [],
  [],
  [],
  [],
  [(98, 199999999), (376, 67108864)],
  [(81, 67108863), (117, 199999999), (147, 100000), (487, 1000000)],
  [],
  [(265, 1431655765), (266, 858993459), (267, 252645135)],
  [],
  [],
  [],
  []]
def lKonL : List (List (Nat × Int64)) := [[],
  [],
  [],
  [],
  [(164, 1000000), (167, (-1000000))],
  [],
  [],
  [],
  [],
  [],
  [],
  [],
  [],
  [(240, 28530), (256, 24947), (258, 29807), (260, 25209), (298, 1000000), (300, (-1000000)), (423, 999)],
  [],
  [],
  [],
  [],
  [],
  []]
abbrev lMT : Type := Nat × MethodName × ByteArray × Nat × Option FieldType
def lMtab0 : List lMT := [(0, yX0_init, cX0_init, 1, none),
  (0, yX0_copyFrom, cX0_copyFrom, 2, none),
  (0, yX0_wordAt, cX0_wordAt, 3, (some .int)),
  (1, yX1_init, cX1_init, 3, none),
  (1, yX1_passMornings, cX1_passMornings, 4, (some .int)),
  (1, yX1_dawn, cX1_dawn, 4, none),
  (1, yX1_callOut, cX1_callOut, 2, (some .int)),
  (1, yX1_callBack, cX1_callBack, 2, (some .int)),
  (1, yX1_call, cX1_call, 2, (some .int)),
  (1, yX1_setWage, cX1_setWage, 3, (some .boolean)),
  (1, yX1_putSign, cX1_putSign, 3, (some .boolean)),
  (1, yX1_conclude, cX1_conclude, 7, (some .int)),
  (1, yX1_liveYear, cX1_liveYear, 5, none),
  (1, yX1_drawX, cX1_drawX, 1, none),
  (1, yX1_befall, cX1_befall, 2, none),
  (1, yX1_play, cX1_play, 3, (some .int)),
  (1, yX1_playClause, cX1_playClause, 6, (some .boolean)),
  (1, yX1_raiseAll, cX1_raiseAll, 5, (some .boolean)),
  (1, yX1_signAll, cX1_signAll, 5, (some .boolean)),
  (2, yX2_init, cX2_init, 1, none)]
def lMtab1 : List lMT := [(2, yX2_copyFrom, cX2_copyFrom, 2, none),
  (2, yX2_tieAll, cX2_tieAll, 6, (some .boolean)),
  (3, yX3_init, cX3_init, 2, none),
  (3, yX3_copyFrom, cX3_copyFrom, 3, none),
  (3, yX3_keep, cX3_keep, 2, none),
  (3, yX3_takeBack, cX3_takeBack, 2, (some .boolean)),
  (4, yX4_init, cX4_init, 3, none),
  (4, yX4_isNameOf, cX4_isNameOf, 2, (some .boolean)),
  (4, yX4_moves, cX4_moves, 6, (some .boolean)),
  (4, yX4_price, cX4_price, 6, (some .int)),
  (4, yX4_binds, cX4_binds, 8, (some .boolean)),
  (4, yX4_broken, cX4_broken, 6, (some .int)),
  (4, yX4_loophole, cX4_loophole, 3, (some .int)),
  (4, yX4_ruling, cX4_ruling, 4, (some (.object "LettersOnStrike$Text"))),
  (4, yX4_nameForAll, cX4_nameForAll, 2, none),
  (4, yX4_run, cX4_run, 6, (some .int)),
  (4, yX4_outcome, cX4_outcome, 5, (some .long)),
  (4, yX4_limited, cX4_limited, 2, (some .int)),
  (5, yX5_init, cX5_init, 1, none),
  (5, yX5_copyFrom, cX5_copyFrom, 2, none)]
def lMtab2 : List lMT := [(5, yX5_isWord, cX5_isWord, 2, (some .boolean)),
  (5, yX5_isSaying, cX5_isSaying, 2, (some .boolean)),
  (5, yX5_letterAt, cX5_letterAt, 3, (some .int)),
  (5, yX5_senseAt, cX5_senseAt, 3, (some .int)),
  (5, yX5_tellWord, cX5_tellWord, 7, (some .int)),
  (5, yX5_isTold, cX5_isTold, 7, (some .boolean)),
  (5, yX5_tellSaying, cX5_tellSaying, 6, (some .int)),
  (5, yX5_uses, cX5_uses, 4, (some .int)),
  (5, yX5_wordFor, cX5_wordFor, 5, (some .int)),
  (5, yX5_wordSaid, cX5_wordSaid, 5, (some .int)),
  (5, yX5_lettersSaid, cX5_lettersSaid, 6, (some .int)),
  (5, yX5_sensesLeft, cX5_sensesLeft, 4, (some .int)),
  (5, yX5_canSay, cX5_canSay, 3, (some .boolean)),
  (5, yX5_unsaid, cX5_unsaid, 5, (some .int)),
  (5, yX5_lettersFor, cX5_lettersFor, 4, (some .int)),
  (5, yX5_placesUnlike, cX5_placesUnlike, 5, (some .int)),
  (6, yX6_init, cX6_init, 2, none),
  (6, yX6_fewestStopping, cX6_fewestStopping, 5, (some .int)),
  (6, yX6_stopping, cX6_stopping, 8, (some .int)),
  (6, yX6_orders, cX6_orders, 3, (some .int))]
def lMtab3 : List lMT := [(6, yX6_pivotalOrders, cX6_pivotalOrders, 9, (some .int)),
  (6, yX6_tryGroup, cX6_tryGroup, 6, none),
  (6, yX6_winningCall, cX6_winningCall, 5, (some .int)),
  (6, yX6_goodCall, cX6_goodCall, 4, (some .int)),
  (6, yX6_worthOf, cX6_worthOf, 4, (some .int)),
  (6, yX6_findCore, cX6_findCore, 3, (some .boolean)),
  (6, yX6_share, cX6_share, 4, (some .boolean)),
  (6, yX6_nobodyLeaves, cX6_nobodyLeaves, 4, (some .boolean)),
  (7, yX7_init, cX7_init, 2, none),
  (7, yX7_alikeNow, cX7_alikeNow, 6, (some .boolean)),
  (7, yX7_alike, cX7_alike, 5, (some .boolean)),
  (7, yX7_fewestSigns, cX7_fewestSigns, 3, (some .int)),
  (7, yX7_putSigns, cX7_putSigns, 7, (some .boolean)),
  (7, yX7_nothingMistaken, cX7_nothingMistaken, 3, (some .boolean)),
  (7, yX7_settle, cX7_settle, 3, (some .int)),
  (7, yX7_settleWith, cX7_settleWith, 7, none),
  (7, yX7_learnFirst, cX7_learnFirst, 4, none),
  (7, yX7_learnMore, cX7_learnMore, 6, none),
  (7, yX7_wordsOf, cX7_wordsOf, 4, (some .int)),
  (7, yX7_spell, cX7_spell, 7, (some .int))]
def lMtab4 : List lMT := [(7, yX7_weighPrints, cX7_weighPrints, 5, (some .boolean)),
  (7, yX7_gatherPrinted, cX7_gatherPrinted, 4, none),
  (8, yX8_init, cX8_init, 2, none),
  (8, yX8_read, cX8_read, 3, (some .boolean)),
  (8, yX8_fail, cX8_fail, 2, (some .int)),
  (8, yX8_next, cX8_next, 1, none),
  (8, yX8_isKey, cX8_isKey, 2, (some .boolean)),
  (8, yX8_isSymbol, cX8_isSymbol, 2, (some .boolean)),
  (8, yX8_takeKey, cX8_takeKey, 2, none),
  (8, yX8_takeSymbol, cX8_takeSymbol, 2, none),
  (8, yX8_readClause, cX8_readClause, 2, none),
  (8, yX8_readDeed, cX8_readDeed, 2, none),
  (8, yX8_readBehindLetters, cX8_readBehindLetters, 2, none),
  (8, yX8_readSenses, cX8_readSenses, 3, none),
  (8, yX8_takeSense, cX8_takeSense, 3, (some .int)),
  (8, yX8_takeNumber, cX8_takeNumber, 4, (some .int)),
  (8, yX8_takeLetters, cX8_takeLetters, 6, (some .int)),
  (8, yX8_readEither, cX8_readEither, 5, none),
  (8, yX8_readAsk, cX8_readAsk, 4, none),
  (8, yX8_comparison, cX8_comparison, 1, (some .int))]
def lMtab5 : List lMT := [(8, yX8_readSum, cX8_readSum, 5, none),
  (8, yX8_readProduct, cX8_readProduct, 5, none),
  (8, yX8_readOne, cX8_readOne, 3, none),
  (8, yX8_readName, cX8_readName, 3, none),
  (9, yX9_init, cX9_init, 2, none),
  (9, yX9_copyFrom, cX9_copyFrom, 2, none),
  (9, yX9_isOut, cX9_isOut, 2, (some .boolean)),
  (9, yX9_outs, cX9_outs, 1, (some .int)),
  (9, yX9_missing, cX9_missing, 3, (some .int)),
  (9, yX9_move, cX9_move, 3, none),
  (10, yX10_init, cX10_init, 1, none),
  (10, yX10_hasRoom, cX10_hasRoom, 2, (some .boolean)),
  (10, yX10_put, cX10_put, 3, none),
  (10, yX10_cut, cX10_cut, 3, none),
  (10, yX10_cutOne, cX10_cutOne, 5, (some .int)),
  (10, yX10_add, cX10_add, 5, none),
  (10, yX10_keyOf, cX10_keyOf, 8, (some .int)),
  (10, yX10_isLetterByte, cX10_isLetterByte, 1, (some .boolean)),
  (10, yX10_isDigit, cX10_isDigit, 1, (some .boolean)),
  (11, yX11_init, cX11_init, 1, none)]
def lMtab6 : List lMT := [(11, yX11_clear, cX11_clear, 2, none),
  (11, yX11_has, cX11_has, 2, (some .boolean)),
  (11, yX11_begin, cX11_begin, 2, none),
  (11, yX11_emit, cX11_emit, 2, none),
  (11, yX11_addToRow, cX11_addToRow, 3, none),
  (12, yX12_init, cX12_init, 2, none),
  (12, yX12_tie, cX12_tie, 3, (some .boolean)),
  (12, yX12_word, cX12_word, 8, (some .int)),
  (12, yX12_saying, cX12_saying, 6, (some .int)),
  (12, yX12_feed, cX12_feed, 6, (some .int)),
  (12, yX12_end, cX12_end, 2, (some .int)),
  (12, yX12_text, cX12_text, 2, (some .int)),
  (12, yX12_fault, cX12_fault, 2, (some .int)),
  (12, yX12_by, cX12_by, 2, (some .boolean)),
  (12, yX12_morning, cX12_morning, 2, (some .int)),
  (12, yX12_strike, cX12_strike, 3, (some .int)),
  (12, yX12_comeBack, cX12_comeBack, 3, (some .int)),
  (12, yX12_raise, cX12_raise, 3, (some .boolean)),
  (12, yX12_sign, cX12_sign, 3, (some .boolean)),
  (12, yX12_contract, cX12_contract, 2, (some .int))]
def lMtab7 : List lMT := [(12, yX12_played, cX12_played, 2, (some .int)),
  (12, yX12_year, cX12_year, 3, (some .int)),
  (12, yX12_undo, cX12_undo, 1, (some .int)),
  (12, yX12_of, cX12_of, 3, (some .int)),
  (12, yX12_ofWord, cX12_ofWord, 3, (some .int)),
  (12, yX12_ofSaying, cX12_ofSaying, 3, (some .int)),
  (12, yX12_mistaken, cX12_mistaken, 4, (some .boolean)),
  (12, yX12_said, cX12_said, 7, (some .int)),
  (12, yX12_dear, cX12_dear, 5, (some .int)),
  (12, yX12_stop, cX12_stop, 2, (some .int)),
  (12, yX12_spared, cX12_spared, 6, (some .int)),
  (12, yX12_power, cX12_power, 8, (some .int)),
  (12, yX12_party, cX12_party, 2, (some .int)),
  (12, yX12_worth, cX12_worth, 2, (some .int)),
  (12, yX12_core, cX12_core, 3, (some .int)),
  (12, yX12_game, cX12_game, 5, (some .int)),
  (12, yX12_signsFor, cX12_signsFor, 4, (some .int)),
  (12, yX12_settlement, cX12_settlement, 4, (some .int)),
  (12, yX12_learn, cX12_learn, 3, (some .int)),
  (12, yX12_hair, cX12_hair, 5, (some .int))]
def lMtab8 : List lMT := [(12, yX12_printed, cX12_printed, 4, (some .int)),
  (12, yX12_spells, cX12_spells, 3, (some .int)),
  (12, yX12_signed, cX12_signed, 5, (some .int)),
  (12, yX12_image, cX12_image, 1, (some .int)),
  (12, yX12_back, cX12_back, 1, (some .int)),
  (12, yX12_about, cX12_about, 2, (some .int)),
  (12, yX12_isText, cX12_isText, 2, (some .boolean)),
  (12, yX12_isLetter, cX12_isLetter, 1, (some .boolean)),
  (12, yX12_isSet, cX12_isSet, 1, (some .boolean)),
  (12, yX12_greatestDivisor, cX12_greatestDivisor, 6, (some .int)),
  (13, yX13_init, cX13_init, 2, none),
  (13, yX13_copy, cX13_copy, 3, none),
  (13, yX13_isIn, cX13_isIn, 3, (some .boolean)),
  (13, yX13_has, cX13_has, 2, (some .boolean)),
  (13, yX13_bits, cX13_bits, 3, (some .int)),
  (13, yX13_isLetter0, cX13_isLetter0, 1, (some .boolean)),
  (13, yX13_isSet, cX13_isSet, 1, (some .boolean)),
  (13, yX13_isWord0, cX13_isWord0, 2, (some .boolean)),
  (13, yX13_isSaying, cX13_isSaying, 2, (some .boolean)),
  (13, yX13_isOut, cX13_isOut, 2, (some .boolean))]
def lMtab9 : List lMT := [(13, yX13_letterOf, cX13_letterOf, 3, (some .int)),
  (13, yX13_lengthOf, cX13_lengthOf, 2, (some .int)),
  (13, yX13_senseOf, cX13_senseOf, 2, (some .int)),
  (13, yX13_setOf, cX13_setOf, 4, (some .int)),
  (13, yX13_usesOf, cX13_usesOf, 4, (some .int)),
  (13, yX13_tie, cX13_tie, 3, (some .boolean)),
  (13, yX13_isTold, cX13_isTold, 4, (some .boolean)),
  (13, yX13_wordNow, cX13_wordNow, 4, (some .int)),
  (13, yX13_take, cX13_take, 5, (some .boolean)),
  (13, yX13_word, cX13_word, 4, (some .int)),
  (13, yX13_sayNow, cX13_sayNow, 3, (some .int)),
  (13, yX13_saying, cX13_saying, 5, (some .int)),
  (13, yX13_sensesOf, cX13_sensesOf, 2, (some .int)),
  (13, yX13_senseAt, cX13_senseAt, 3, (some .int)),
  (13, yX13_four, cX13_four, 3, none),
  (13, yX13_feed, cX13_feed, 6, (some .int)),
  (13, yX13_end, cX13_end, 2, (some .int)),
  (13, yX13_byteAt, cX13_byteAt, 2, (some .int)),
  (13, yX13_isLetter, cX13_isLetter, 1, (some .boolean)),
  (13, yX13_isDigit, cX13_isDigit, 1, (some .boolean))]
def lMtab10 : List lMT := [(13, yX13_nextToken, cX13_nextToken, 3, none),
  (13, yX13_w3, cX13_w3, 3, (some .long)),
  (13, yX13_w5, cX13_w5, 5, (some .long)),
  (13, yX13_w4, cX13_w4, 4, (some .long)),
  (13, yX13_w6, cX13_w6, 6, (some .long)),
  (13, yX13_isWord, cX13_isWord, 3, (some .boolean)),
  (13, yX13_emit, cX13_emit, 3, none),
  (13, yX13_push, cX13_push, 2, none),
  (13, yX13_whole, cX13_whole, 1, none),
  (13, yX13_settle, cX13_settle, 2, none),
  (13, yX13_lawName, cX13_lawName, 1, (some .int)),
  (13, yX13_nameOf, cX13_nameOf, 1, (some .int)),
  (13, yX13_isBarred, cX13_isBarred, 2, (some .boolean)),
  (13, yX13_beginOne, cX13_beginOne, 2, (some .int)),
  (13, yX13_hasParen, cX13_hasParen, 2, (some .boolean)),
  (13, yX13_goesOn, cX13_goesOn, 1, (some .boolean)),
  (13, yX13_behindOne, cX13_behindOne, 2, (some .int)),
  (13, yX13_summed, cX13_summed, 2, (some .int)),
  (13, yX13_compareOf, cX13_compareOf, 1, (some .int)),
  (13, yX13_asks, cX13_asks, 5, (some .int))]
def lMtab11 : List lMT := [(13, yX13_either, cX13_either, 6, (some .int)),
  (13, yX13_sortOf, cX13_sortOf, 1, (some .int)),
  (13, yX13_isAct, cX13_isAct, 2, (some .int)),
  (13, yX13_figure, cX13_figure, 4, (some .int)),
  (13, yX13_letters, cX13_letters, 5, (some .int)),
  (13, yX13_need, cX13_need, 3, (some .int)),
  (13, yX13_wordClause, cX13_wordClause, 4, (some .int)),
  (13, yX13_sayClause, cX13_sayClause, 4, (some .int)),
  (13, yX13_signClause, cX13_signClause, 3, (some .int)),
  (13, yX13_tieClause, cX13_tieClause, 3, (some .int)),
  (13, yX13_raiseClause, cX13_raiseClause, 3, (some .int)),
  (13, yX13_lawClause, cX13_lawClause, 4, (some .int)),
  (13, yX13_body, cX13_body, 3, (some .int)),
  (13, yX13_clause, cX13_clause, 5, (some .int)),
  (13, yX13_readText, cX13_readText, 2, (some .int)),
  (13, yX13_text, cX13_text, 1, (some .int)),
  (13, yX13_fault, cX13_fault, 2, (some .int)),
  (13, yX13_by, cX13_by, 2, (some .boolean)),
  (13, yX13_clip, cX13_clip, 2, (some .long)),
  (13, yX13_two, cX13_two, 5, (some .long))]
def lMtab12 : List lMT := [(13, yX13_isAsked, cX13_isAsked, 5, (some .boolean)),
  (13, yX13_work, cX13_work, 9, none),
  (13, yX13_clauseOf, cX13_clauseOf, 3, (some .int)),
  (13, yX13_isVowel, cX13_isVowel, 1, (some .boolean)),
  (13, yX13_wouldChange, cX13_wouldChange, 5, (some .boolean)),
  (13, yX13_keep, cX13_keep, 3, none),
  (13, yX13_undo, cX13_undo, 3, (some .int)),
  (13, yX13_dawn, cX13_dawn, 3, none),
  (13, yX13_isMorning, cX13_isMorning, 1, (some .boolean)),
  (13, yX13_morning, cX13_morning, 4, (some .int)),
  (13, yX13_call, cX13_call, 3, (some .int)),
  (13, yX13_strike, cX13_strike, 2, (some .int)),
  (13, yX13_comeBack, cX13_comeBack, 2, (some .int)),
  (13, yX13_raise, cX13_raise, 3, (some .boolean)),
  (13, yX13_sign, cX13_sign, 3, (some .boolean)),
  (13, yX13_isWritten, cX13_isWritten, 3, (some .boolean)),
  (13, yX13_wordFor, cX13_wordFor, 7, (some .int)),
  (13, yX13_canSay, cX13_canSay, 5, (some .boolean)),
  (13, yX13_contract, cX13_contract, 4, (some .int)),
  (13, yX13_areTied, cX13_areTied, 6, (some .boolean))]
def lMtab13 : List lMT := [(13, yX13_areRaised, cX13_areRaised, 5, (some .boolean)),
  (13, yX13_areSigned, cX13_areSigned, 5, (some .boolean)),
  (13, yX13_areMornings, cX13_areMornings, 3, (some .boolean)),
  (13, yX13_isTaught, cX13_isTaught, 2, (some .boolean)),
  (13, yX13_isSpoken, cX13_isSpoken, 3, (some .boolean)),
  (13, yX13_isPlayed, cX13_isPlayed, 4, (some .boolean)),
  (13, yX13_played, cX13_played, 3, (some .int)),
  (13, yX13_anew, cX13_anew, 1, (some .int)),
  (13, yX13_happens, cX13_happens, 3, none),
  (13, yX13_year, cX13_year, 6, (some .int)),
  (13, yX13_of, cX13_of, 3, (some .int)),
  (13, yX13_ofWord, cX13_ofWord, 3, (some .int)),
  (13, yX13_ofSaying, cX13_ofSaying, 3, (some .int)),
  (13, yX13_written, cX13_written, 2, (some .int)),
  (13, yX13_mistaken, cX13_mistaken, 4, (some .boolean)),
  (13, yX13_said, cX13_said, 6, (some .int)),
  (13, yX13_priceOf, cX13_priceOf, 5, (some .int)),
  (13, yX13_dear, cX13_dear, 4, (some .int)),
  (13, yX13_firstRow, cX13_firstRow, 3, none),
  (13, yX13_nextRow, cX13_nextRow, 5, (some .boolean))]
def lMtab14 : List lMT := [(13, yX13_setOfRow, cX13_setOfRow, 4, (some .int)),
  (13, yX13_stop, cX13_stop, 4, (some .int)),
  (13, yX13_silenced, cX13_silenced, 4, (some .int)),
  (13, yX13_spared, cX13_spared, 4, (some .int)),
  (13, yX13_layGroup, cX13_layGroup, 6, (some .boolean)),
  (13, yX13_factorial, cX13_factorial, 4, (some .long)),
  (13, yX13_common, cX13_common, 10, (some .long)),
  (13, yX13_power, cX13_power, 10, (some .int)),
  (13, yX13_party, cX13_party, 2, (some .int)),
  (13, yX13_worthOf, cX13_worthOf, 4, (some .int)),
  (13, yX13_worth, cX13_worth, 2, (some .int)),
  (13, yX13_areContent, cX13_areContent, 4, (some .boolean)),
  (13, yX13_nextShares, cX13_nextShares, 6, (some .boolean)),
  (13, yX13_core, cX13_core, 4, (some .int)),
  (13, yX13_isGood, cX13_isGood, 3, (some .boolean)),
  (13, yX13_game, cX13_game, 7, (some .int)),
  (13, yX13_areAlike, cX13_areAlike, 6, (some .boolean)),
  (13, yX13_isClear, cX13_isClear, 3, (some .boolean)),
  (13, yX13_unlike, cX13_unlike, 4, (some .int)),
  (13, yX13_nextSigns, cX13_nextSigns, 4, (some .boolean))]
def lMtab15 : List lMT := [(13, yX13_areEnough, cX13_areEnough, 5, (some .boolean)),
  (13, yX13_signsFor, cX13_signsFor, 5, (some .int)),
  (13, yX13_weigh, cX13_weigh, 6, none),
  (13, yX13_settlement, cX13_settlement, 5, (some .int)),
  (13, yX13_writtenWith, cX13_writtenWith, 4, (some .int)),
  (13, yX13_learn, cX13_learn, 10, (some .int)),
  (13, yX13_isHair, cX13_isHair, 5, (some .boolean)),
  (13, yX13_hair, cX13_hair, 5, (some .int)),
  (13, yX13_printed, cX13_printed, 5, (some .int)),
  (13, yX13_setThere, cX13_setThere, 4, (some .int)),
  (13, yX13_canBe, cX13_canBe, 9, (some .boolean)),
  (13, yX13_spells, cX13_spells, 6, (some .int)),
  (13, yX13_brokenOf, cX13_brokenOf, 5, (some .int)),
  (13, yX13_binds, cX13_binds, 4, (some .boolean)),
  (13, yX13_loophole, cX13_loophole, 5, (some .int)),
  (13, yX13_signed, cX13_signed, 4, (some .int)),
  (13, yX13_image, cX13_image, 1, (some .int)),
  (13, yX13_back, cX13_back, 1, (some .int)),
  (13, yX13_about, cX13_about, 2, (some .int)),
  (15, yJ6_bitCount_0f7a4, cJ6_bitCount_0f7a4, 1, (some .int))]
def lMtab16 : List lMT := [(16, yJ9_max_7cf53, cJ9_max_7cf53, 2, (some .int)),
  (16, yJ9_min_7cf53, cJ9_min_7cf53, 2, (some .int)),
  (14, yL_law, cL_law, 4, (some .boolean)),
  (17, yJ0_length_8abf5, cJ0_length_8abf5, 1, (some .int)),
  (17, yJ0_charAt_5068e, cJ0_charAt_5068e, 2, (some .char)),
  (17, yJ0_indexOf_0f7a4, cJ0_indexOf_0f7a4, 2, (some .int)),
  (17, yJ0_indexOf_7cf53, cJ0_indexOf_7cf53, 3, (some .int)),
  (17, yJ0_coder_7d493, cJ0_coder_7d493, 1, (some .byte)),
  (17, yJ0_isLatin1_aae02, cJ0_isLatin1_aae02, 1, (some .boolean)),
  (17, yJ0_checkIndex_df160, cJ0_checkIndex_df160, 2, none),
  (18, yJ1_charAt_3b067, cJ1_charAt_3b067, 2, (some .char)),
  (18, yJ1_canEncode_9a6ad, cJ1_canEncode_9a6ad, 1, (some .boolean)),
  (18, yJ1_indexOf_4cfef, cJ1_indexOf_4cfef, 4, (some .int)),
  (18, yJ1_indexOfChar_4cfef, cJ1_indexOfChar_4cfef, 6, (some .int)),
  (19, yJ3_checkIndex_8e157, cJ3_checkIndex_8e157, 3, (some .int))]
def lMtab : List lMT := lMtab0 ++ (lMtab1 ++ (lMtab2 ++ (lMtab3 ++ (lMtab4 ++ (lMtab5 ++ (lMtab6 ++ (lMtab7 ++ (lMtab8 ++ (lMtab9 ++ (lMtab10 ++ (lMtab11 ++ (lMtab12 ++ (lMtab13 ++ (lMtab14 ++ (lMtab15 ++ (lMtab16))))))))))))))))
abbrev jX0_init : Nat := 0
abbrev jX0_copyFrom : Nat := 1
abbrev jX0_wordAt : Nat := 2
abbrev jX1_init : Nat := 3
abbrev jX1_passMornings : Nat := 4
abbrev jX1_dawn : Nat := 5
abbrev jX1_callOut : Nat := 6
abbrev jX1_callBack : Nat := 7
abbrev jX1_call : Nat := 8
abbrev jX1_setWage : Nat := 9
abbrev jX1_putSign : Nat := 10
abbrev jX1_conclude : Nat := 11
abbrev jX1_liveYear : Nat := 12
abbrev jX1_drawX : Nat := 13
abbrev jX1_befall : Nat := 14
abbrev jX1_play : Nat := 15
abbrev jX1_playClause : Nat := 16
abbrev jX1_raiseAll : Nat := 17
abbrev jX1_signAll : Nat := 18
abbrev jX2_init : Nat := 19
abbrev jX2_copyFrom : Nat := 20
abbrev jX2_tieAll : Nat := 21
abbrev jX3_init : Nat := 22
abbrev jX3_copyFrom : Nat := 23
abbrev jX3_keep : Nat := 24
abbrev jX3_takeBack : Nat := 25
abbrev jX4_init : Nat := 26
abbrev jX4_isNameOf : Nat := 27
abbrev jX4_moves : Nat := 28
abbrev jX4_price : Nat := 29
abbrev jX4_binds : Nat := 30
abbrev jX4_broken : Nat := 31
abbrev jX4_loophole : Nat := 32
abbrev jX4_ruling : Nat := 33
abbrev jX4_nameForAll : Nat := 34
abbrev jX4_run : Nat := 35
abbrev jX4_outcome : Nat := 36
abbrev jX4_limited : Nat := 37
abbrev jX5_init : Nat := 38
abbrev jX5_copyFrom : Nat := 39
abbrev jX5_isWord : Nat := 40
abbrev jX5_isSaying : Nat := 41
abbrev jX5_letterAt : Nat := 42
abbrev jX5_senseAt : Nat := 43
abbrev jX5_tellWord : Nat := 44
abbrev jX5_isTold : Nat := 45
abbrev jX5_tellSaying : Nat := 46
abbrev jX5_uses : Nat := 47
abbrev jX5_wordFor : Nat := 48
abbrev jX5_wordSaid : Nat := 49
abbrev jX5_lettersSaid : Nat := 50
abbrev jX5_sensesLeft : Nat := 51
abbrev jX5_canSay : Nat := 52
abbrev jX5_unsaid : Nat := 53
abbrev jX5_lettersFor : Nat := 54
abbrev jX5_placesUnlike : Nat := 55
abbrev jX6_init : Nat := 56
abbrev jX6_fewestStopping : Nat := 57
abbrev jX6_stopping : Nat := 58
abbrev jX6_orders : Nat := 59
abbrev jX6_pivotalOrders : Nat := 60
abbrev jX6_tryGroup : Nat := 61
abbrev jX6_winningCall : Nat := 62
abbrev jX6_goodCall : Nat := 63
abbrev jX6_worthOf : Nat := 64
abbrev jX6_findCore : Nat := 65
abbrev jX6_share : Nat := 66
abbrev jX6_nobodyLeaves : Nat := 67
abbrev jX7_init : Nat := 68
abbrev jX7_alikeNow : Nat := 69
abbrev jX7_alike : Nat := 70
abbrev jX7_fewestSigns : Nat := 71
abbrev jX7_putSigns : Nat := 72
abbrev jX7_nothingMistaken : Nat := 73
abbrev jX7_settle : Nat := 74
abbrev jX7_settleWith : Nat := 75
abbrev jX7_learnFirst : Nat := 76
abbrev jX7_learnMore : Nat := 77
abbrev jX7_wordsOf : Nat := 78
abbrev jX7_spell : Nat := 79
abbrev jX7_weighPrints : Nat := 80
abbrev jX7_gatherPrinted : Nat := 81
abbrev jX8_init : Nat := 82
abbrev jX8_read : Nat := 83
abbrev jX8_fail : Nat := 84
abbrev jX8_next : Nat := 85
abbrev jX8_isKey : Nat := 86
abbrev jX8_isSymbol : Nat := 87
abbrev jX8_takeKey : Nat := 88
abbrev jX8_takeSymbol : Nat := 89
abbrev jX8_readClause : Nat := 90
abbrev jX8_readDeed : Nat := 91
abbrev jX8_readBehindLetters : Nat := 92
abbrev jX8_readSenses : Nat := 93
abbrev jX8_takeSense : Nat := 94
abbrev jX8_takeNumber : Nat := 95
abbrev jX8_takeLetters : Nat := 96
abbrev jX8_readEither : Nat := 97
abbrev jX8_readAsk : Nat := 98
abbrev jX8_comparison : Nat := 99
abbrev jX8_readSum : Nat := 100
abbrev jX8_readProduct : Nat := 101
abbrev jX8_readOne : Nat := 102
abbrev jX8_readName : Nat := 103
abbrev jX9_init : Nat := 104
abbrev jX9_copyFrom : Nat := 105
abbrev jX9_isOut : Nat := 106
abbrev jX9_outs : Nat := 107
abbrev jX9_missing : Nat := 108
abbrev jX9_move : Nat := 109
abbrev jX10_init : Nat := 110
abbrev jX10_hasRoom : Nat := 111
abbrev jX10_put : Nat := 112
abbrev jX10_cut : Nat := 113
abbrev jX10_cutOne : Nat := 114
abbrev jX10_add : Nat := 115
abbrev jX10_keyOf : Nat := 116
abbrev jX10_isLetterByte : Nat := 117
abbrev jX10_isDigit : Nat := 118
abbrev jX11_init : Nat := 119
abbrev jX11_clear : Nat := 120
abbrev jX11_has : Nat := 121
abbrev jX11_begin : Nat := 122
abbrev jX11_emit : Nat := 123
abbrev jX11_addToRow : Nat := 124
abbrev jX12_init : Nat := 125
abbrev jX12_tie : Nat := 126
abbrev jX12_word : Nat := 127
abbrev jX12_saying : Nat := 128
abbrev jX12_feed : Nat := 129
abbrev jX12_end : Nat := 130
abbrev jX12_text : Nat := 131
abbrev jX12_fault : Nat := 132
abbrev jX12_by : Nat := 133
abbrev jX12_morning : Nat := 134
abbrev jX12_strike : Nat := 135
abbrev jX12_comeBack : Nat := 136
abbrev jX12_raise : Nat := 137
abbrev jX12_sign : Nat := 138
abbrev jX12_contract : Nat := 139
abbrev jX12_played : Nat := 140
abbrev jX12_year : Nat := 141
abbrev jX12_undo : Nat := 142
abbrev jX12_of : Nat := 143
abbrev jX12_ofWord : Nat := 144
abbrev jX12_ofSaying : Nat := 145
abbrev jX12_mistaken : Nat := 146
abbrev jX12_said : Nat := 147
abbrev jX12_dear : Nat := 148
abbrev jX12_stop : Nat := 149
abbrev jX12_spared : Nat := 150
abbrev jX12_power : Nat := 151
abbrev jX12_party : Nat := 152
abbrev jX12_worth : Nat := 153
abbrev jX12_core : Nat := 154
abbrev jX12_game : Nat := 155
abbrev jX12_signsFor : Nat := 156
abbrev jX12_settlement : Nat := 157
abbrev jX12_learn : Nat := 158
abbrev jX12_hair : Nat := 159
abbrev jX12_printed : Nat := 160
abbrev jX12_spells : Nat := 161
abbrev jX12_signed : Nat := 162
abbrev jX12_image : Nat := 163
abbrev jX12_back : Nat := 164
abbrev jX12_about : Nat := 165
abbrev jX12_isText : Nat := 166
abbrev jX12_isLetter : Nat := 167
abbrev jX12_isSet : Nat := 168
abbrev jX12_greatestDivisor : Nat := 169
abbrev jX13_init : Nat := 170
abbrev jX13_copy : Nat := 171
abbrev jX13_isIn : Nat := 172
abbrev jX13_has : Nat := 173
abbrev jX13_bits : Nat := 174
abbrev jX13_isLetter0 : Nat := 175
abbrev jX13_isSet : Nat := 176
abbrev jX13_isWord0 : Nat := 177
abbrev jX13_isSaying : Nat := 178
abbrev jX13_isOut : Nat := 179
abbrev jX13_letterOf : Nat := 180
abbrev jX13_lengthOf : Nat := 181
abbrev jX13_senseOf : Nat := 182
abbrev jX13_setOf : Nat := 183
abbrev jX13_usesOf : Nat := 184
abbrev jX13_tie : Nat := 185
abbrev jX13_isTold : Nat := 186
abbrev jX13_wordNow : Nat := 187
abbrev jX13_take : Nat := 188
abbrev jX13_word : Nat := 189
abbrev jX13_sayNow : Nat := 190
abbrev jX13_saying : Nat := 191
abbrev jX13_sensesOf : Nat := 192
abbrev jX13_senseAt : Nat := 193
abbrev jX13_four : Nat := 194
abbrev jX13_feed : Nat := 195
abbrev jX13_end : Nat := 196
abbrev jX13_byteAt : Nat := 197
abbrev jX13_isLetter : Nat := 198
abbrev jX13_isDigit : Nat := 199
abbrev jX13_nextToken : Nat := 200
abbrev jX13_w3 : Nat := 201
abbrev jX13_w5 : Nat := 202
abbrev jX13_w4 : Nat := 203
abbrev jX13_w6 : Nat := 204
abbrev jX13_isWord : Nat := 205
abbrev jX13_emit : Nat := 206
abbrev jX13_push : Nat := 207
abbrev jX13_whole : Nat := 208
abbrev jX13_settle : Nat := 209
abbrev jX13_lawName : Nat := 210
abbrev jX13_nameOf : Nat := 211
abbrev jX13_isBarred : Nat := 212
abbrev jX13_beginOne : Nat := 213
abbrev jX13_hasParen : Nat := 214
abbrev jX13_goesOn : Nat := 215
abbrev jX13_behindOne : Nat := 216
abbrev jX13_summed : Nat := 217
abbrev jX13_compareOf : Nat := 218
abbrev jX13_asks : Nat := 219
abbrev jX13_either : Nat := 220
abbrev jX13_sortOf : Nat := 221
abbrev jX13_isAct : Nat := 222
abbrev jX13_figure : Nat := 223
abbrev jX13_letters : Nat := 224
abbrev jX13_need : Nat := 225
abbrev jX13_wordClause : Nat := 226
abbrev jX13_sayClause : Nat := 227
abbrev jX13_signClause : Nat := 228
abbrev jX13_tieClause : Nat := 229
abbrev jX13_raiseClause : Nat := 230
abbrev jX13_lawClause : Nat := 231
abbrev jX13_body : Nat := 232
abbrev jX13_clause : Nat := 233
abbrev jX13_readText : Nat := 234
abbrev jX13_text : Nat := 235
abbrev jX13_fault : Nat := 236
abbrev jX13_by : Nat := 237
abbrev jX13_clip : Nat := 238
abbrev jX13_two : Nat := 239
abbrev jX13_isAsked : Nat := 240
abbrev jX13_work : Nat := 241
abbrev jX13_clauseOf : Nat := 242
abbrev jX13_isVowel : Nat := 243
abbrev jX13_wouldChange : Nat := 244
abbrev jX13_keep : Nat := 245
abbrev jX13_undo : Nat := 246
abbrev jX13_dawn : Nat := 247
abbrev jX13_isMorning : Nat := 248
abbrev jX13_morning : Nat := 249
abbrev jX13_call : Nat := 250
abbrev jX13_strike : Nat := 251
abbrev jX13_comeBack : Nat := 252
abbrev jX13_raise : Nat := 253
abbrev jX13_sign : Nat := 254
abbrev jX13_isWritten : Nat := 255
abbrev jX13_wordFor : Nat := 256
abbrev jX13_canSay : Nat := 257
abbrev jX13_contract : Nat := 258
abbrev jX13_areTied : Nat := 259
abbrev jX13_areRaised : Nat := 260
abbrev jX13_areSigned : Nat := 261
abbrev jX13_areMornings : Nat := 262
abbrev jX13_isTaught : Nat := 263
abbrev jX13_isSpoken : Nat := 264
abbrev jX13_isPlayed : Nat := 265
abbrev jX13_played : Nat := 266
abbrev jX13_anew : Nat := 267
abbrev jX13_happens : Nat := 268
abbrev jX13_year : Nat := 269
abbrev jX13_of : Nat := 270
abbrev jX13_ofWord : Nat := 271
abbrev jX13_ofSaying : Nat := 272
abbrev jX13_written : Nat := 273
abbrev jX13_mistaken : Nat := 274
abbrev jX13_said : Nat := 275
abbrev jX13_priceOf : Nat := 276
abbrev jX13_dear : Nat := 277
abbrev jX13_firstRow : Nat := 278
abbrev jX13_nextRow : Nat := 279
abbrev jX13_setOfRow : Nat := 280
abbrev jX13_stop : Nat := 281
abbrev jX13_silenced : Nat := 282
abbrev jX13_spared : Nat := 283
abbrev jX13_layGroup : Nat := 284
abbrev jX13_factorial : Nat := 285
abbrev jX13_common : Nat := 286
abbrev jX13_power : Nat := 287
abbrev jX13_party : Nat := 288
abbrev jX13_worthOf : Nat := 289
abbrev jX13_worth : Nat := 290
abbrev jX13_areContent : Nat := 291
abbrev jX13_nextShares : Nat := 292
abbrev jX13_core : Nat := 293
abbrev jX13_isGood : Nat := 294
abbrev jX13_game : Nat := 295
abbrev jX13_areAlike : Nat := 296
abbrev jX13_isClear : Nat := 297
abbrev jX13_unlike : Nat := 298
abbrev jX13_nextSigns : Nat := 299
abbrev jX13_areEnough : Nat := 300
abbrev jX13_signsFor : Nat := 301
abbrev jX13_weigh : Nat := 302
abbrev jX13_settlement : Nat := 303
abbrev jX13_writtenWith : Nat := 304
abbrev jX13_learn : Nat := 305
abbrev jX13_isHair : Nat := 306
abbrev jX13_hair : Nat := 307
abbrev jX13_printed : Nat := 308
abbrev jX13_setThere : Nat := 309
abbrev jX13_canBe : Nat := 310
abbrev jX13_spells : Nat := 311
abbrev jX13_brokenOf : Nat := 312
abbrev jX13_binds : Nat := 313
abbrev jX13_loophole : Nat := 314
abbrev jX13_signed : Nat := 315
abbrev jX13_image : Nat := 316
abbrev jX13_back : Nat := 317
abbrev jX13_about : Nat := 318
abbrev jJ6_bitCount_0f7a4 : Nat := 319
abbrev jJ9_max_7cf53 : Nat := 320
abbrev jJ9_min_7cf53 : Nat := 321
abbrev jL_law : Nat := 322
abbrev jJ0_length_8abf5 : Nat := 323
abbrev jJ0_charAt_5068e : Nat := 324
abbrev jJ0_indexOf_0f7a4 : Nat := 325
abbrev jJ0_indexOf_7cf53 : Nat := 326
abbrev jJ0_coder_7d493 : Nat := 327
abbrev jJ0_isLatin1_aae02 : Nat := 328
abbrev jJ0_checkIndex_df160 : Nat := 329
abbrev jJ1_charAt_3b067 : Nat := 330
abbrev jJ1_canEncode_9a6ad : Nat := 331
abbrev jJ1_indexOf_4cfef : Nat := 332
abbrev jJ1_indexOfChar_4cfef : Nat := 333
abbrev jJ3_checkIndex_8e157 : Nat := 334
