/-! ===== BEGIN printed: names, fields, word lists, decode rows ===== -/
def RX0 : String := "SureCount$Draws"
def TX0 : u_T := fun k => match k with
  | 0 => ("SureCount$Draws", "paperOf", "[I", true)
  | 1 => ("SureCount$Draws", "size", "I", false)
  | _ => ("SureCount$Draws", "dice", "J", false)
def tyX0 : Nat → FieldType := fun k => match k with
  | 0 => .array .int
  | 1 => .int
  | _ => .long
abbrev wsX00 : List Cond := u_ws RX0 TX0 3
theorem nmX0 : ∀ a, a < 3 → ∀ b, b < 3 → a ≠ b → (TX0 a).2.1 ≠ (TX0 b).2.1 := by decide +kernel
theorem tyX0_ok : ∀ k, k < 3 → parseFieldDescriptor (TX0 k).2.2.1 = some (tyX0 k) := by decide +kernel
abbrev cX0_init : ByteArray := prog_2_method_1_code
def yX0_init : MethodName := ⟨RX0, "<init>", "()V"⟩
abbrev cX0_begin : ByteArray := prog_2_method_2_code
def yX0_begin : MethodName := ⟨RX0, "begin", "(J)V"⟩
abbrev cX0_has : ByteArray := prog_2_method_3_code
def yX0_has : MethodName := ⟨RX0, "has", "(I)Z"⟩
abbrev cX0_addOne : ByteArray := prog_2_method_4_code
def yX0_addOne : MethodName := ⟨RX0, "addOne", "(I)I"⟩
abbrev cX0_settled : ByteArray := prog_2_method_5_code
def yX0_settled : MethodName := ⟨RX0, "settled", "(LSureCount$Papers;)I"⟩
def RX1 : String := "SureCount$Papers"
def TX1 : u_T := fun k => match k with
  | 0 => ("SureCount$Papers", "boxOf", "[I", true)
  | 1 => ("SureCount$Papers", "wordOf", "[I", true)
  | 2 => ("SureCount$Papers", "isLost", "[Z", true)
  | 3 => ("SureCount$Papers", "wasDrawn", "[Z", true)
  | 4 => ("SureCount$Papers", "handsOf", "[I", true)
  | 5 => ("SureCount$Papers", "handWords", "[I", true)
  | _ => ("SureCount$Papers", "size", "I", false)
def tyX1 : Nat → FieldType := fun k => match k with
  | 0 => .array .int
  | 1 => .array .int
  | 2 => .array .boolean
  | 3 => .array .boolean
  | 4 => .array .int
  | 5 => .array .int
  | _ => .int
abbrev wsX10 : List Cond := u_ws RX1 TX1 7
theorem nmX1 : ∀ a, a < 7 → ∀ b, b < 7 → a ≠ b → (TX1 a).2.1 ≠ (TX1 b).2.1 := by decide +kernel
theorem tyX1_ok : ∀ k, k < 7 → parseFieldDescriptor (TX1 k).2.2.1 = some (tyX1 k) := by decide +kernel
abbrev cX1_init : ByteArray := prog_3_method_1_code
def yX1_init : MethodName := ⟨RX1, "<init>", "()V"⟩
abbrev cX1_has : ByteArray := prog_3_method_2_code
def yX1_has : MethodName := ⟨RX1, "has", "(I)Z"⟩
abbrev cX1_add : ByteArray := prog_3_method_3_code
def yX1_add : MethodName := ⟨RX1, "add", "(II)I"⟩
abbrev cX1_keepHandWord : ByteArray := prog_3_method_4_code
def yX1_keepHandWord : MethodName := ⟨RX1, "keepHandWord", "(III)V"⟩
abbrev cX1_isReadBy : ByteArray := prog_3_method_5_code
def yX1_isReadBy : MethodName := ⟨RX1, "isReadBy", "(II)Z"⟩
abbrev cX1_isReadByHand : ByteArray := prog_3_method_6_code
def yX1_isReadByHand : MethodName := ⟨RX1, "isReadByHand", "(I)Z"⟩
abbrev cX1_isSettled : ByteArray := prog_3_method_7_code
def yX1_isSettled : MethodName := ⟨RX1, "isSettled", "(I)Z"⟩
abbrev cX1_wordMark : ByteArray := prog_3_method_8_code
def yX1_wordMark : MethodName := ⟨RX1, "wordMark", "(II)I"⟩
abbrev cX1_handsMark : ByteArray := prog_3_method_9_code
def yX1_handsMark : MethodName := ⟨RX1, "handsMark", "(II)I"⟩
abbrev cX1_handMark : ByteArray := prog_3_method_10_code
def yX1_handMark : MethodName := ⟨RX1, "handMark", "(III)I"⟩
abbrev cX1_wholeMark : ByteArray := prog_3_method_11_code
def yX1_wholeMark : MethodName := ⟨RX1, "wholeMark", "(II)I"⟩
abbrev cX1_lostOnes : ByteArray := prog_3_method_12_code
def yX1_lostOnes : MethodName := ⟨RX1, "lostOnes", "()I"⟩
abbrev cX1_readOnes : ByteArray := prog_3_method_13_code
def yX1_readOnes : MethodName := ⟨RX1, "readOnes", "()I"⟩
def RX2 : String := "SureCount$Race"
def TX2 : u_T := fun k => match k with
  | 0 => ("SureCount$Race", "wordTally", "LSureCount$Tally;", true)
  | 1 => ("SureCount$Race", "winsByWord", "[Z", true)
  | 2 => ("SureCount$Race", "pairWinner", "[I", true)
  | 3 => ("SureCount$Race", "pairLoser", "[I", true)
  | 4 => ("SureCount$Race", "pairMargin", "[I", true)
  | 5 => ("SureCount$Race", "pairs", "I", false)
  | 6 => ("SureCount$Race", "candidates", "I", false)
  | 7 => ("SureCount$Race", "seats", "I", false)
  | 8 => ("SureCount$Race", "size", "I", false)
  | _ => ("SureCount$Race", "margin", "I", false)
def tyX2 : Nat → FieldType := fun k => match k with
  | 0 => .object "SureCount$Tally"
  | 1 => .array .boolean
  | 2 => .array .int
  | 3 => .array .int
  | 4 => .array .int
  | 5 => .int
  | 6 => .int
  | 7 => .int
  | 8 => .int
  | _ => .int
abbrev wsX20 : List Cond := u_ws RX2 TX2 10
theorem nmX2 : ∀ a, a < 10 → ∀ b, b < 10 → a ≠ b → (TX2 a).2.1 ≠ (TX2 b).2.1 := by decide +kernel
theorem tyX2_ok : ∀ k, k < 10 → parseFieldDescriptor (TX2 k).2.2.1 = some (tyX2 k) := by decide +kernel
abbrev cX2_init : ByteArray := prog_4_method_1_code
def yX2_init : MethodName := ⟨RX2, "<init>", "()V"⟩
abbrev cX2_open : ByteArray := prog_4_method_2_code
def yX2_open : MethodName := ⟨RX2, "open", "(II)V"⟩
abbrev cX2_addWord : ByteArray := prog_4_method_3_code
def yX2_addWord : MethodName := ⟨RX2, "addWord", "(I)V"⟩
abbrev cX2_hasCandidate : ByteArray := prog_4_method_4_code
def yX2_hasCandidate : MethodName := ⟨RX2, "hasCandidate", "(I)Z"⟩
abbrev cX2_allows : ByteArray := prog_4_method_5_code
def yX2_allows : MethodName := ⟨RX2, "allows", "(I)Z"⟩
abbrev cX2_isWinner : ByteArray := prog_4_method_6_code
def yX2_isWinner : MethodName := ⟨RX2, "isWinner", "(ILSureCount$Tally;)Z"⟩
abbrev cX2_pairUp : ByteArray := prog_4_method_7_code
def yX2_pairUp : MethodName := ⟨RX2, "pairUp", "()V"⟩
abbrev cX2_pairWithLosers : ByteArray := prog_4_method_8_code
def yX2_pairWithLosers : MethodName := ⟨RX2, "pairWithLosers", "(I)V"⟩
abbrev cX2_carryOn : ByteArray := prog_4_method_9_code
def yX2_carryOn : MethodName := ⟨RX2, "carryOn", "(III)I"⟩
abbrev cX2_cleanDrawsUntil : ByteArray := prog_4_method_10_code
def yX2_cleanDrawsUntil : MethodName := ⟨RX2, "cleanDrawsUntil", "(II)I"⟩
def RX3 : String := "SureCount$Tally"
def TX3 : u_T := fun k => match k with
  | _ => ("SureCount$Tally", "papersOf", "[I", true)
def tyX3 : Nat → FieldType := fun k => match k with
  | _ => .array .int
abbrev wsX30 : List Cond := u_ws RX3 TX3 1
theorem nmX3 : ∀ a, a < 1 → ∀ b, b < 1 → a ≠ b → (TX3 a).2.1 ≠ (TX3 b).2.1 := by decide +kernel
theorem tyX3_ok : ∀ k, k < 1 → parseFieldDescriptor (TX3 k).2.2.1 = some (tyX3 k) := by decide +kernel
abbrev cX3_init : ByteArray := prog_5_method_1_code
def yX3_init : MethodName := ⟨RX3, "<init>", "()V"⟩
abbrev cX3_clear : ByteArray := prog_5_method_2_code
def yX3_clear : MethodName := ⟨RX3, "clear", "()V"⟩
abbrev cX3_add : ByteArray := prog_5_method_3_code
def yX3_add : MethodName := ⟨RX3, "add", "(I)V"⟩
abbrev cX3_papersWith : ByteArray := prog_5_method_4_code
def yX3_papersWith : MethodName := ⟨RX3, "papersWith", "(I)I"⟩
def RX4 : String := "SureCount$Walk"
def TX4 : u_T := fun k => match k with
  | 0 => ("SureCount$Walk", "worstGap", "[I", true)
  | 1 => ("SureCount$Walk", "worstMargin", "[I", true)
  | 2 => ("SureCount$Walk", "riskReached", "I", false)
  | _ => ("SureCount$Walk", "drawsTaken", "I", false)
def tyX4 : Nat → FieldType := fun k => match k with
  | 0 => .array .int
  | 1 => .array .int
  | 2 => .int
  | _ => .int
abbrev wsX40 : List Cond := u_ws RX4 TX4 4
theorem nmX4 : ∀ a, a < 4 → ∀ b, b < 4 → a ≠ b → (TX4 a).2.1 ≠ (TX4 b).2.1 := by decide +kernel
theorem tyX4_ok : ∀ k, k < 4 → parseFieldDescriptor (TX4 k).2.2.1 = some (tyX4 k) := by decide +kernel
abbrev cX4_init : ByteArray := prog_6_method_1_code
def yX4_init : MethodName := ⟨RX4, "<init>", "()V"⟩
abbrev cX4_follow : ByteArray := prog_6_method_2_code
def yX4_follow : MethodName := ⟨RX4, "follow", "(ILSureCount$Race;LSureCount$Papers;LSureCount$Draws;)V"⟩
abbrev cX4_weigh : ByteArray := prog_6_method_3_code
def yX4_weigh : MethodName := ⟨RX4, "weigh", "(IILSureCount$Race;LSureCount$Papers;)V"⟩
abbrev cX4_isTaken : ByteArray := prog_6_method_4_code
def yX4_isTaken : MethodName := ⟨RX4, "isTaken", "(IIZ)Z"⟩
abbrev cX4_lead : ByteArray := prog_6_method_5_code
def yX4_lead : MethodName := ⟨RX4, "lead", "(III)I"⟩
def RX5 : String := "SureCount"
def TX5 : u_T := fun k => match k with
  | 0 => ("SureCount", "races", "[LSureCount$Race;", true)
  | 1 => ("SureCount", "papers", "LSureCount$Papers;", true)
  | 2 => ("SureCount", "draws", "LSureCount$Draws;", true)
  | 3 => ("SureCount", "walk", "LSureCount$Walk;", true)
  | 4 => ("SureCount", "handTally", "LSureCount$Tally;", true)
  | 5 => ("SureCount", "raceCount", "I", false)
  | 6 => ("SureCount", "boxCount", "I", false)
  | _ => ("SureCount", "isSealed", "Z", false)
def tyX5 : Nat → FieldType := fun k => match k with
  | 0 => .array (.object "SureCount$Race")
  | 1 => .object "SureCount$Papers"
  | 2 => .object "SureCount$Draws"
  | 3 => .object "SureCount$Walk"
  | 4 => .object "SureCount$Tally"
  | 5 => .int
  | 6 => .int
  | _ => .boolean
abbrev wsX50 : List Cond := u_ws RX5 TX5 8
theorem nmX5 : ∀ a, a < 8 → ∀ b, b < 8 → a ≠ b → (TX5 a).2.1 ≠ (TX5 b).2.1 := by decide +kernel
theorem tyX5_ok : ∀ k, k < 8 → parseFieldDescriptor (TX5 k).2.2.1 = some (tyX5 k) := by decide +kernel
abbrev cX5_init : ByteArray := prog_1_method_1_code
def yX5_init : MethodName := ⟨RX5, "<init>", "()V"⟩
abbrev cX5_race : ByteArray := prog_1_method_2_code
def yX5_race : MethodName := ⟨RX5, "race", "(II)I"⟩
abbrev cX5_box : ByteArray := prog_1_method_3_code
def yX5_box : MethodName := ⟨RX5, "box", "()I"⟩
abbrev cX5_paper : ByteArray := prog_1_method_4_code
def yX5_paper : MethodName := ⟨RX5, "paper", "(II)I"⟩
abbrev cX5_lose : ByteArray := prog_1_method_5_code
def yX5_lose : MethodName := ⟨RX5, "lose", "(IZ)Z"⟩
abbrev cX5_seal : ByteArray := prog_1_method_6_code
def yX5_seal : MethodName := ⟨RX5, "seal", "(J)Z"⟩
abbrev cX5_votes : ByteArray := prog_1_method_7_code
def yX5_votes : MethodName := ⟨RX5, "votes", "(III)I"⟩
abbrev cX5_wins : ByteArray := prog_1_method_8_code
def yX5_wins : MethodName := ⟨RX5, "wins", "(III)Z"⟩
abbrev cX5_about : ByteArray := prog_1_method_9_code
def yX5_about : MethodName := ⟨RX5, "about", "(II)I"⟩
abbrev cX5_draw : ByteArray := prog_1_method_10_code
def yX5_draw : MethodName := ⟨RX5, "draw", "(I)I"⟩
abbrev cX5_drawn : ByteArray := prog_1_method_11_code
def yX5_drawn : MethodName := ⟨RX5, "drawn", "(I)I"⟩
abbrev cX5_waits : ByteArray := prog_1_method_12_code
def yX5_waits : MethodName := ⟨RX5, "waits", "()I"⟩
abbrev cX5_pulled : ByteArray := prog_1_method_13_code
def yX5_pulled : MethodName := ⟨RX5, "pulled", "(I)I"⟩
abbrev cX5_read : ByteArray := prog_1_method_14_code
def yX5_read : MethodName := ⟨RX5, "read", "(III)Z"⟩
abbrev cX5_reading : ByteArray := prog_1_method_15_code
def yX5_reading : MethodName := ⟨RX5, "reading", "(II)I"⟩
abbrev cX5_risk : ByteArray := prog_1_method_16_code
def yX5_risk : MethodName := ⟨RX5, "risk", "(I)I"⟩
abbrev cX5_taken : ByteArray := prog_1_method_17_code
def yX5_taken : MethodName := ⟨RX5, "taken", "(I)I"⟩
abbrev cX5_taint : ByteArray := prog_1_method_18_code
def yX5_taint : MethodName := ⟨RX5, "taint", "(II)I"⟩
abbrev cX5_need : ByteArray := prog_1_method_19_code
def yX5_need : MethodName := ⟨RX5, "need", "(II)I"⟩
abbrev cX5_count : ByteArray := prog_1_method_20_code
def yX5_count : MethodName := ⟨RX5, "count", "(I)I"⟩
abbrev cX5_hasRace : ByteArray := prog_1_method_21_code
def yX5_hasRace : MethodName := ⟨RX5, "hasRace", "(I)Z"⟩
abbrev cX5_hasBox : ByteArray := prog_1_method_22_code
def yX5_hasBox : MethodName := ⟨RX5, "hasBox", "(I)Z"⟩
abbrev cX5_canTally : ByteArray := prog_1_method_23_code
def yX5_canTally : MethodName := ⟨RX5, "canTally", "(III)Z"⟩
abbrev cX5_hasRisk : ByteArray := prog_1_method_24_code
def yX5_hasRisk : MethodName := ⟨RX5, "hasRisk", "(I)Z"⟩
abbrev cX5_isPossible : ByteArray := prog_1_method_25_code
def yX5_isPossible : MethodName := ⟨RX5, "isPossible", "(I)Z"⟩
abbrev cX5_tallyOf : ByteArray := prog_1_method_26_code
def yX5_tallyOf : MethodName := ⟨RX5, "tallyOf", "(II)LSureCount$Tally;"⟩
abbrev cX5_markOf : ByteArray := prog_1_method_27_code
def yX5_markOf : MethodName := ⟨RX5, "markOf", "(II)I"⟩
def RX6 : String := "SureCountModel"
def TX6 : u_T := fun k => match k with
  | 0 => ("SureCountModel", "thrown", "I", false)
  | 1 => ("SureCountModel", "races", "I", false)
  | 2 => ("SureCountModel", "boxes", "I", false)
  | 3 => ("SureCountModel", "papers", "I", false)
  | 4 => ("SureCountModel", "draws", "I", false)
  | 5 => ("SureCountModel", "candidates", "[I", true)
  | 6 => ("SureCountModel", "winners", "[I", true)
  | 7 => ("SureCountModel", "boxOf", "[I", true)
  | 8 => ("SureCountModel", "word", "[I", true)
  | 9 => ("SureCountModel", "drawn", "[I", true)
  | 10 => ("SureCountModel", "isLost", "[Z", true)
  | 11 => ("SureCountModel", "hasRead", "[Z", true)
  | 12 => ("SureCountModel", "hand", "[I", true)
  | 13 => ("SureCountModel", "isSealed", "Z", false)
  | 14 => ("SureCountModel", "state", "J", false)
  | 15 => ("SureCountModel", "votes", "[I", true)
  | 16 => ("SureCountModel", "isWinner", "[Z", true)
  | 17 => ("SureCountModel", "margin", "I", false)
  | 18 => ("SureCountModel", "having", "I", false)
  | 19 => ("SureCountModel", "x", "I", false)
  | 20 => ("SureCountModel", "m", "I", false)
  | _ => ("SureCountModel", "took", "I", false)
def tyX6 : Nat → FieldType := fun k => match k with
  | 0 => .int
  | 1 => .int
  | 2 => .int
  | 3 => .int
  | 4 => .int
  | 5 => .array .int
  | 6 => .array .int
  | 7 => .array .int
  | 8 => .array .int
  | 9 => .array .int
  | 10 => .array .boolean
  | 11 => .array .boolean
  | 12 => .array .int
  | 13 => .boolean
  | 14 => .long
  | 15 => .array .int
  | 16 => .array .boolean
  | 17 => .int
  | 18 => .int
  | 19 => .int
  | 20 => .int
  | _ => .int
abbrev wsX60 : List Cond := u_ws RX6 TX6 22
theorem nmX6 : ∀ a, a < 22 → ∀ b, b < 22 → a ≠ b → (TX6 a).2.1 ≠ (TX6 b).2.1 := by decide +kernel
theorem tyX6_ok : ∀ k, k < 22 → parseFieldDescriptor (TX6 k).2.2.1 = some (tyX6 k) := by decide +kernel
abbrev cX6_init : ByteArray := prog_8_method_1_code
def yX6_init : MethodName := ⟨RX6, "<init>", "()V"⟩
abbrev cX6_thrown : ByteArray := prog_8_method_2_code
def yX6_thrown : MethodName := ⟨RX6, "thrown", "()I"⟩
abbrev cX6_right : ByteArray := prog_8_method_3_code
def yX6_right : MethodName := ⟨RX6, "right", "(ZI)Z"⟩
abbrev cX6_race : ByteArray := prog_8_method_4_code
def yX6_race : MethodName := ⟨RX6, "race", "(II)I"⟩
abbrev cX6_box : ByteArray := prog_8_method_5_code
def yX6_box : MethodName := ⟨RX6, "box", "()I"⟩
abbrev cX6_of : ByteArray := prog_8_method_6_code
def yX6_of : MethodName := ⟨RX6, "of", "(II)I"⟩
abbrev cX6_isWord : ByteArray := prog_8_method_7_code
def yX6_isWord : MethodName := ⟨RX6, "isWord", "(I)Z"⟩
abbrev cX6_paper : ByteArray := prog_8_method_8_code
def yX6_paper : MethodName := ⟨RX6, "paper", "(II)I"⟩
abbrev cX6_isPaper : ByteArray := prog_8_method_9_code
def yX6_isPaper : MethodName := ⟨RX6, "isPaper", "(I)Z"⟩
abbrev cX6_isRead : ByteArray := prog_8_method_10_code
def yX6_isRead : MethodName := ⟨RX6, "isRead", "(I)Z"⟩
abbrev cX6_lose : ByteArray := prog_8_method_11_code
def yX6_lose : MethodName := ⟨RX6, "lose", "(IZ)Z"⟩
abbrev cX6_seal : ByteArray := prog_8_method_12_code
def yX6_seal : MethodName := ⟨RX6, "seal", "(J)Z"⟩
abbrev cX6_isRace : ByteArray := prog_8_method_13_code
def yX6_isRace : MethodName := ⟨RX6, "isRace", "(I)Z"⟩
abbrev cX6_says : ByteArray := prog_8_method_14_code
def yX6_says : MethodName := ⟨RX6, "says", "(III)I"⟩
abbrev cX6_votesOf : ByteArray := prog_8_method_15_code
def yX6_votesOf : MethodName := ⟨RX6, "votesOf", "(III)I"⟩
abbrev cX6_winsBy : ByteArray := prog_8_method_16_code
def yX6_winsBy : MethodName := ⟨RX6, "winsBy", "(III)Z"⟩
abbrev cX6_isAsked : ByteArray := prog_8_method_17_code
def yX6_isAsked : MethodName := ⟨RX6, "isAsked", "(III)Z"⟩
abbrev cX6_votes : ByteArray := prog_8_method_18_code
def yX6_votes : MethodName := ⟨RX6, "votes", "(III)I"⟩
abbrev cX6_wins : ByteArray := prog_8_method_19_code
def yX6_wins : MethodName := ⟨RX6, "wins", "(III)Z"⟩
abbrev cX6_knows : ByteArray := prog_8_method_20_code
def yX6_knows : MethodName := ⟨RX6, "knows", "(I)V"⟩
abbrev cX6_about : ByteArray := prog_8_method_21_code
def yX6_about : MethodName := ⟨RX6, "about", "(II)I"⟩
abbrev cX6_draw : ByteArray := prog_8_method_22_code
def yX6_draw : MethodName := ⟨RX6, "draw", "(I)I"⟩
abbrev cX6_drawn : ByteArray := prog_8_method_23_code
def yX6_drawn : MethodName := ⟨RX6, "drawn", "(I)I"⟩
abbrev cX6_isKnown : ByteArray := prog_8_method_24_code
def yX6_isKnown : MethodName := ⟨RX6, "isKnown", "(I)Z"⟩
abbrev cX6_waits : ByteArray := prog_8_method_25_code
def yX6_waits : MethodName := ⟨RX6, "waits", "()I"⟩
abbrev cX6_isDrawn : ByteArray := prog_8_method_26_code
def yX6_isDrawn : MethodName := ⟨RX6, "isDrawn", "(I)Z"⟩
abbrev cX6_pulled : ByteArray := prog_8_method_27_code
def yX6_pulled : MethodName := ⟨RX6, "pulled", "(I)I"⟩
abbrev cX6_read : ByteArray := prog_8_method_28_code
def yX6_read : MethodName := ⟨RX6, "read", "(III)Z"⟩
abbrev cX6_readingOf : ByteArray := prog_8_method_29_code
def yX6_readingOf : MethodName := ⟨RX6, "readingOf", "(II)I"⟩
abbrev cX6_reading : ByteArray := prog_8_method_30_code
def yX6_reading : MethodName := ⟨RX6, "reading", "(II)I"⟩
abbrev cX6_gives : ByteArray := prog_8_method_31_code
def yX6_gives : MethodName := ⟨RX6, "gives", "(III)I"⟩
abbrev cX6_isTaken : ByteArray := prog_8_method_32_code
def yX6_isTaken : MethodName := ⟨RX6, "isTaken", "(II)Z"⟩
abbrev cX6_taints : ByteArray := prog_8_method_33_code
def yX6_taints : MethodName := ⟨RX6, "taints", "(II)V"⟩
abbrev cX6_divides : ByteArray := prog_8_method_34_code
def yX6_divides : MethodName := ⟨RX6, "divides", "(JJ)J"⟩
abbrev cX6_riskOf : ByteArray := prog_8_method_35_code
def yX6_riskOf : MethodName := ⟨RX6, "riskOf", "(I)I"⟩
abbrev cX6_risk : ByteArray := prog_8_method_36_code
def yX6_risk : MethodName := ⟨RX6, "risk", "(I)I"⟩
abbrev cX6_taken : ByteArray := prog_8_method_37_code
def yX6_taken : MethodName := ⟨RX6, "taken", "(I)I"⟩
abbrev cX6_taint : ByteArray := prog_8_method_38_code
def yX6_taint : MethodName := ⟨RX6, "taint", "(II)I"⟩
abbrev cX6_need : ByteArray := prog_8_method_39_code
def yX6_need : MethodName := ⟨RX6, "need", "(II)I"⟩
abbrev cX6_count : ByteArray := prog_8_method_40_code
def yX6_count : MethodName := ⟨RX6, "count", "(I)I"⟩
def RJ6 : String := "java/lang/Integer"
def TJ6 : u_T := fun k => match k with
  | _ => ("", "", "", false)
def tyJ6 : Nat → FieldType := fun k => match k with
  | _ => .int
abbrev wsJ60 : List Cond := u_ws RJ6 TJ6 0
theorem nmJ6 : ∀ a, a < 0 → ∀ b, b < 0 → a ≠ b → (TJ6 a).2.1 ≠ (TJ6 b).2.1 := by decide +kernel
theorem tyJ6_ok : ∀ k, k < 0 → parseFieldDescriptor (TJ6 k).2.2.1 = some (tyJ6 k) := by decide +kernel
abbrev cJ6_bitCount_0f7a4 : ByteArray := prog_12_method_49_code
def yJ6_bitCount_0f7a4 : MethodName := ⟨RJ6, "bitCount", "(I)I"⟩
def RJ9 : String := "java/lang/Math"
def TJ9 : u_T := fun k => match k with
  | _ => ("", "", "", false)
def tyJ9 : Nat → FieldType := fun k => match k with
  | _ => .int
abbrev wsJ90 : List Cond := u_ws RJ9 TJ9 0
theorem nmJ9 : ∀ a, a < 0 → ∀ b, b < 0 → a ≠ b → (TJ9 a).2.1 ≠ (TJ9 b).2.1 := by decide +kernel
theorem tyJ9_ok : ∀ k, k < 0 → parseFieldDescriptor (TJ9 k).2.2.1 = some (tyJ9 k) := by decide +kernel
abbrev cJ9_max_7cf53 : ByteArray := prog_13_method_65_code
def yJ9_max_7cf53 : MethodName := ⟨RJ9, "max", "(II)I"⟩
abbrev cJ9_min_7cf53 : ByteArray := prog_13_method_69_code
def yJ9_min_7cf53 : MethodName := ⟨RJ9, "min", "(II)I"⟩
abbrev cJ9_min_f86c9 : ByteArray := prog_13_method_70_code
def yJ9_min_f86c9 : MethodName := ⟨RJ9, "min", "(JJ)J"⟩
def RJ0 : String := "java/lang/String"
def TJ0 : u_T := fun k => match k with
  | _ => ("", "", "", false)
def tyJ0 : Nat → FieldType := fun k => match k with
  | _ => .int
abbrev wsJ00 : List Cond := u_ws RJ0 TJ0 0
theorem nmJ0 : ∀ a, a < 0 → ∀ b, b < 0 → a ≠ b → (TJ0 a).2.1 ≠ (TJ0 b).2.1 := by decide +kernel
theorem tyJ0_ok : ∀ k, k < 0 → parseFieldDescriptor (TJ0 k).2.2.1 = some (tyJ0 k) := by decide +kernel
def RJ7 : String := "java/util/Arrays"
def TJ7 : u_T := fun k => match k with
  | _ => ("", "", "", false)
def tyJ7 : Nat → FieldType := fun k => match k with
  | _ => .int
abbrev wsJ70 : List Cond := u_ws RJ7 TJ7 0
theorem nmJ7 : ∀ a, a < 0 → ∀ b, b < 0 → a ≠ b → (TJ7 a).2.1 ≠ (TJ7 b).2.1 := by decide +kernel
theorem tyJ7_ok : ∀ k, k < 0 → parseFieldDescriptor (TJ7 k).2.2.1 = some (tyJ7 k) := by decide +kernel
abbrev cJ7_fill_53178 : ByteArray := prog_17_method_103_code
def yJ7_fill_53178 : MethodName := ⟨RJ7, "fill", "([II)V"⟩
def RL : String := "SureCountLaw"
abbrev cL_paper : ByteArray := method_3_code
def yL_paper : MethodName := ⟨RL, "paper", "(LSureCount;II[J)I"⟩
abbrev cL_lose : ByteArray := method_4_code
def yL_lose : MethodName := ⟨RL, "lose", "(LSureCount;IZ[J)I"⟩
abbrev cL_votes : ByteArray := method_5_code
def yL_votes : MethodName := ⟨RL, "votes", "(LSureCount;III[J)I"⟩
abbrev cL_wins : ByteArray := method_6_code
def yL_wins : MethodName := ⟨RL, "wins", "(LSureCount;III[J)I"⟩
abbrev cL_about : ByteArray := method_7_code
def yL_about : MethodName := ⟨RL, "about", "(LSureCount;II[J)I"⟩
abbrev cL_draw : ByteArray := method_8_code
def yL_draw : MethodName := ⟨RL, "draw", "(LSureCount;I[J)I"⟩
abbrev cL_drawn : ByteArray := method_9_code
def yL_drawn : MethodName := ⟨RL, "drawn", "(LSureCount;I[J)I"⟩
abbrev cL_pulled : ByteArray := method_10_code
def yL_pulled : MethodName := ⟨RL, "pulled", "(LSureCount;I[J)I"⟩
abbrev cL_read : ByteArray := method_11_code
def yL_read : MethodName := ⟨RL, "read", "(LSureCount;III[J)I"⟩
abbrev cL_reading : ByteArray := method_12_code
def yL_reading : MethodName := ⟨RL, "reading", "(LSureCount;II[J)I"⟩
abbrev cL_risk : ByteArray := method_13_code
def yL_risk : MethodName := ⟨RL, "risk", "(LSureCount;I[J)I"⟩
abbrev cL_taken : ByteArray := method_14_code
def yL_taken : MethodName := ⟨RL, "taken", "(LSureCount;I[J)I"⟩
abbrev cL_taint : ByteArray := method_15_code
def yL_taint : MethodName := ⟨RL, "taint", "(LSureCount;II[J)I"⟩
abbrev cL_need : ByteArray := method_16_code
def yL_need : MethodName := ⟨RL, "need", "(LSureCount;II[J)I"⟩
abbrev cL_count : ByteArray := method_17_code
def yL_count : MethodName := ⟨RL, "count", "(LSureCount;I[J)I"⟩
abbrev cL_law : ByteArray := code
def yL_law : MethodName := ⟨RL, "law", "([I)Z"⟩
def wsX0_init : List Cond := .code yX0_init cX0_init 1 none :: ([.methodLink RX0 3 objectInit, .instanceMethod objectInit, .code objectInit ⟨#[0xb1]⟩ 1 none, .arrayClass .int, .fieldLink RX0 9 "SureCount$Draws" "paperOf" "[I", .fieldLink RX0 15 "SureCount$Draws" "size" "I", .fieldLink RX0 19 "SureCount$Draws" "dice" "J"] ++ wsX00)
def wsX0_begin : List Cond := .code yX0_begin cX0_begin 3 none :: ([.fieldLink RX0 19 "SureCount$Draws" "dice" "J"] ++ wsX00)
def wsX0_has : List Cond := .code yX0_has cX0_has 2 (some .boolean) :: ([.fieldLink RX0 15 "SureCount$Draws" "size" "I"] ++ wsX00)
def wsX0_addOne : List Cond := .code yX0_addOne cX0_addOne 3 (some .int) :: ([.fieldLink RX0 15 "SureCount$Draws" "size" "I", .fieldLink RX0 19 "SureCount$Draws" "dice" "J", .constantLong RX0 23 (6364136223846793005), .constantLong RX0 25 (1442695040888963407), .fieldLink RX0 9 "SureCount$Draws" "paperOf" "[I"] ++ wsX00)
def wsX1_isReadByHand : List Cond := .code yX1_isReadByHand cX1_isReadByHand 2 (some .boolean) :: ([.fieldLink RX1 25 "SureCount$Papers" "handsOf" "[I"] ++ wsX10)
def wsX1_isSettled : List Cond := .code yX1_isSettled cX1_isSettled 2 (some .boolean) :: ([.fieldLink RX1 18 "SureCount$Papers" "isLost" "[Z", .methodLink RX1 35 yX1_isReadByHand, .instanceMethod yX1_isReadByHand, .selects RX1 yX1_isReadByHand yX1_isReadByHand, .initialized RX1, .code yX1_isReadByHand cX1_isReadByHand 2 (some .boolean), .fieldLink RX1 25 "SureCount$Papers" "handsOf" "[I"] ++ wsX10)
def wsX0_settled : List Cond := .code yX0_settled cX0_settled 3 (some .int) :: ([.fieldLink RX0 15 "SureCount$Draws" "size" "I", .fieldLink RX0 9 "SureCount$Draws" "paperOf" "[I", .methodLink RX0 27 yX1_isSettled, .instanceMethod yX1_isSettled, .selects RX1 yX1_isSettled yX1_isSettled, .initialized RX1, .code yX1_isSettled cX1_isSettled 2 (some .boolean), .fieldLink RX1 18 "SureCount$Papers" "isLost" "[Z", .methodLink RX1 35 yX1_isReadByHand, .instanceMethod yX1_isReadByHand, .selects RX1 yX1_isReadByHand yX1_isReadByHand, .code yX1_isReadByHand cX1_isReadByHand 2 (some .boolean), .fieldLink RX1 25 "SureCount$Papers" "handsOf" "[I"] ++ wsX00 ++ wsX10)
def wsX1_init : List Cond := .code yX1_init cX1_init 1 none :: ([.methodLink RX1 3 objectInit, .instanceMethod objectInit, .code objectInit ⟨#[0xb1]⟩ 1 none, .arrayClass .int, .fieldLink RX1 9 "SureCount$Papers" "boxOf" "[I", .fieldLink RX1 15 "SureCount$Papers" "wordOf" "[I", .arrayClass .boolean, .fieldLink RX1 18 "SureCount$Papers" "isLost" "[Z", .fieldLink RX1 22 "SureCount$Papers" "wasDrawn" "[Z", .fieldLink RX1 25 "SureCount$Papers" "handsOf" "[I", .fieldLink RX1 28 "SureCount$Papers" "handWords" "[I", .fieldLink RX1 31 "SureCount$Papers" "size" "I"] ++ wsX10)
def wsX1_has : List Cond := .code yX1_has cX1_has 2 (some .boolean) :: ([.fieldLink RX1 31 "SureCount$Papers" "size" "I"] ++ wsX10)
def wsX1_add : List Cond := .code yX1_add cX1_add 3 (some .int) :: ([.fieldLink RX1 9 "SureCount$Papers" "boxOf" "[I", .fieldLink RX1 31 "SureCount$Papers" "size" "I", .fieldLink RX1 15 "SureCount$Papers" "wordOf" "[I"] ++ wsX10)
def wsX1_keepHandWord : List Cond := .code yX1_keepHandWord cX1_keepHandWord 4 none :: ([.fieldLink RX1 28 "SureCount$Papers" "handWords" "[I", .fieldLink RX1 25 "SureCount$Papers" "handsOf" "[I"] ++ wsX10)
def wsX1_isReadBy : List Cond := .code yX1_isReadBy cX1_isReadBy 3 (some .boolean) :: ([.fieldLink RX1 25 "SureCount$Papers" "handsOf" "[I"] ++ wsX10)
def wsX5_markOf : List Cond := .code yX5_markOf cX5_markOf 2 (some .int) :: ([])
def wsX1_wordMark : List Cond := .code yX1_wordMark cX1_wordMark 3 (some .int) :: ([.fieldLink RX1 15 "SureCount$Papers" "wordOf" "[I", .static yX5_markOf, .initialized RX5, .code yX5_markOf cX5_markOf 2 (some .int)] ++ wsX10)
def wsX1_handMark : List Cond := .code yX1_handMark cX1_handMark 4 (some .int) :: ([.fieldLink RX1 28 "SureCount$Papers" "handWords" "[I", .methodLink RX1 58 yX1_isReadBy, .instanceMethod yX1_isReadBy, .selects RX1 yX1_isReadBy yX1_isReadBy, .initialized RX1, .code yX1_isReadBy cX1_isReadBy 3 (some .boolean), .fieldLink RX1 25 "SureCount$Papers" "handsOf" "[I", .static yX5_markOf, .initialized RX5, .code yX5_markOf cX5_markOf 2 (some .int)] ++ wsX10)
def wsJ6_bitCount_0f7a4 : List Cond := .code yJ6_bitCount_0f7a4 cJ6_bitCount_0f7a4 1 (some .int) :: ([.constant RJ6 265 (1431655765), .constant RJ6 266 (858993459), .constant RJ6 267 (252645135)])
def wsX1_handsMark_r1 : List Cond := [Cond.fieldLink RX1 25 "SureCount$Papers" "handsOf" "[I", Cond.methodLink RX1 53 Lib.Math.max.name, Cond.static Lib.Math.max.name, Cond.initialized "java/lang/Math", Cond.code Lib.Math.max.name Lib.Math.max.code 2 (some .int), Cond.methodLink RX1 43 yX1_handMark, Cond.instanceMethod yX1_handMark, Cond.selects RX1 yX1_handMark yX1_handMark, Cond.initialized RX1, Cond.code yX1_handMark cX1_handMark 4 (some .int), Cond.fieldLink RX1 28 "SureCount$Papers" "handWords" "[I", Cond.methodLink RX1 58 yX1_isReadBy, Cond.instanceMethod yX1_isReadBy, Cond.selects RX1 yX1_isReadBy yX1_isReadBy, Cond.code yX1_isReadBy cX1_isReadBy 3 (some .boolean), Cond.static yX5_markOf, Cond.initialized RX5, Cond.code yX5_markOf cX5_markOf 2 (some .int), Cond.methodLink RX1 47 yJ6_bitCount_0f7a4, Cond.static yJ6_bitCount_0f7a4, Cond.initialized RJ6, Cond.code yJ6_bitCount_0f7a4 cJ6_bitCount_0f7a4 1 (some .int), Cond.constant RJ6 265 (1431655765), Cond.constant RJ6 266 (858993459)]
def wsX1_handsMark_r2 : List Cond := [Cond.constant RJ6 267 (252645135)]
def wsX1_handsMark : List Cond := .code yX1_handsMark cX1_handsMark 6 (some .int) :: ((wsX1_handsMark_r1 ++ wsX1_handsMark_r2) ++ wsX10)
def wsX1_wholeMark_r1 : List Cond := [Cond.methodLink RX1 35 yX1_isReadByHand, Cond.instanceMethod yX1_isReadByHand, Cond.selects RX1 yX1_isReadByHand yX1_isReadByHand, Cond.initialized RX1, Cond.code yX1_isReadByHand cX1_isReadByHand 2 (some .boolean), Cond.fieldLink RX1 25 "SureCount$Papers" "handsOf" "[I", Cond.methodLink RX1 62 yX1_handsMark, Cond.instanceMethod yX1_handsMark, Cond.selects RX1 yX1_handsMark yX1_handsMark, Cond.code yX1_handsMark cX1_handsMark 6 (some .int), Cond.methodLink RX1 53 Lib.Math.max.name, Cond.static Lib.Math.max.name, Cond.initialized "java/lang/Math", Cond.code Lib.Math.max.name Lib.Math.max.code 2 (some .int), Cond.methodLink RX1 43 yX1_handMark, Cond.instanceMethod yX1_handMark, Cond.selects RX1 yX1_handMark yX1_handMark, Cond.code yX1_handMark cX1_handMark 4 (some .int), Cond.fieldLink RX1 28 "SureCount$Papers" "handWords" "[I", Cond.methodLink RX1 58 yX1_isReadBy, Cond.instanceMethod yX1_isReadBy, Cond.selects RX1 yX1_isReadBy yX1_isReadBy, Cond.code yX1_isReadBy cX1_isReadBy 3 (some .boolean), Cond.static yX5_markOf]
def wsX1_wholeMark_r2 : List Cond := [Cond.initialized RX5, Cond.code yX5_markOf cX5_markOf 2 (some .int), Cond.methodLink RX1 47 yJ6_bitCount_0f7a4, Cond.static yJ6_bitCount_0f7a4, Cond.initialized RJ6, Cond.code yJ6_bitCount_0f7a4 cJ6_bitCount_0f7a4 1 (some .int), Cond.constant RJ6 265 (1431655765), Cond.constant RJ6 266 (858993459), Cond.constant RJ6 267 (252645135), Cond.methodLink RX1 65 yX1_wordMark, Cond.instanceMethod yX1_wordMark, Cond.selects RX1 yX1_wordMark yX1_wordMark, Cond.code yX1_wordMark cX1_wordMark 3 (some .int), Cond.fieldLink RX1 15 "SureCount$Papers" "wordOf" "[I"]
def wsX1_wholeMark : List Cond := .code yX1_wholeMark cX1_wholeMark 3 (some .int) :: ((wsX1_wholeMark_r1 ++ wsX1_wholeMark_r2) ++ wsX10)
def wsX1_lostOnes : List Cond := .code yX1_lostOnes cX1_lostOnes 3 (some .int) :: ([.fieldLink RX1 31 "SureCount$Papers" "size" "I", .fieldLink RX1 18 "SureCount$Papers" "isLost" "[Z"] ++ wsX10)
def wsX1_readOnes : List Cond := .code yX1_readOnes cX1_readOnes 3 (some .int) :: ([.fieldLink RX1 31 "SureCount$Papers" "size" "I", .methodLink RX1 35 yX1_isReadByHand, .instanceMethod yX1_isReadByHand, .selects RX1 yX1_isReadByHand yX1_isReadByHand, .initialized RX1, .code yX1_isReadByHand cX1_isReadByHand 2 (some .boolean), .fieldLink RX1 25 "SureCount$Papers" "handsOf" "[I"] ++ wsX10)
def wsX3_init : List Cond := .code yX3_init cX3_init 1 none :: ([.methodLink RX3 3 objectInit, .instanceMethod objectInit, .code objectInit ⟨#[0xb1]⟩ 1 none, .arrayClass .int, .fieldLink RX3 9 "SureCount$Tally" "papersOf" "[I"] ++ wsX30)
def wsX2_init : List Cond := .code yX2_init cX2_init 1 none :: ([.methodLink RX2 3 objectInit, .instanceMethod objectInit, .code objectInit ⟨#[0xb1]⟩ 1 none, .classLink RX2 9 RX3, .instantiable RX3 1, .initialized RX3, .fieldLink RX2 12 "SureCount$Race" "wordTally" "LSureCount$Tally;", .arrayClass .boolean, .fieldLink RX2 18 "SureCount$Race" "winsByWord" "[Z", .arrayClass .int, .fieldLink RX2 22 "SureCount$Race" "pairWinner" "[I", .fieldLink RX2 26 "SureCount$Race" "pairLoser" "[I", .fieldLink RX2 29 "SureCount$Race" "pairMargin" "[I", .fieldLink RX2 32 "SureCount$Race" "pairs" "I", .fieldLink RX2 36 "SureCount$Race" "candidates" "I", .fieldLink RX2 39 "SureCount$Race" "seats" "I", .fieldLink RX2 42 "SureCount$Race" "size" "I", .fieldLink RX2 45 "SureCount$Race" "margin" "I", .instanceMethod yX3_init, .code yX3_init cX3_init 1 none, .methodLink RX3 3 objectInit, .fieldLink RX3 9 "SureCount$Tally" "papersOf" "[I"] ++ wsX30 ++ wsX20)
def wsX3_papersWith : List Cond := .code yX3_papersWith cX3_papersWith 2 (some .int) :: ([.fieldLink RX3 9 "SureCount$Tally" "papersOf" "[I"] ++ wsX30)
def wsX2_isWinner : List Cond := .code yX2_isWinner cX2_isWinner 7 (some .boolean) :: ([.fieldLink RX2 36 "SureCount$Race" "candidates" "I", .fieldLink RX2 39 "SureCount$Race" "seats" "I", .methodLink RX2 55 yX3_papersWith, .instanceMethod yX3_papersWith, .selects RX3 yX3_papersWith yX3_papersWith, .initialized RX3, .code yX3_papersWith cX3_papersWith 2 (some .int), .fieldLink RX3 9 "SureCount$Tally" "papersOf" "[I"] ++ wsX20 ++ wsX30)
def wsX2_pairWithLosers : List Cond := .code yX2_pairWithLosers cX2_pairWithLosers 3 none :: ([.fieldLink RX2 36 "SureCount$Race" "candidates" "I", .fieldLink RX2 32 "SureCount$Race" "pairs" "I", .fieldLink RX2 18 "SureCount$Race" "winsByWord" "[Z", .fieldLink RX2 22 "SureCount$Race" "pairWinner" "[I", .fieldLink RX2 26 "SureCount$Race" "pairLoser" "[I", .fieldLink RX2 29 "SureCount$Race" "pairMargin" "[I", .fieldLink RX2 12 "SureCount$Race" "wordTally" "LSureCount$Tally;", .methodLink RX2 55 yX3_papersWith, .instanceMethod yX3_papersWith, .selects RX3 yX3_papersWith yX3_papersWith, .initialized RX3, .code yX3_papersWith cX3_papersWith 2 (some .int), .fieldLink RX3 9 "SureCount$Tally" "papersOf" "[I"] ++ wsX20 ++ wsX30)
def wsX2_pairUp_r1 : List Cond := [Cond.fieldLink RX2 36 "SureCount$Race" "candidates" "I", Cond.fieldLink RX2 18 "SureCount$Race" "winsByWord" "[Z", Cond.fieldLink RX2 12 "SureCount$Race" "wordTally" "LSureCount$Tally;", Cond.fieldLink RX2 32 "SureCount$Race" "pairs" "I", Cond.fieldLink RX2 29 "SureCount$Race" "pairMargin" "[I", Cond.fieldLink RX2 45 "SureCount$Race" "margin" "I", Cond.methodLink RX2 66 Lib.Math.min.name, Cond.static Lib.Math.min.name, Cond.initialized "java/lang/Math", Cond.code Lib.Math.min.name Lib.Math.min.code 2 (some .int), Cond.methodLink RX2 59 yX2_isWinner, Cond.instanceMethod yX2_isWinner, Cond.selects RX2 yX2_isWinner yX2_isWinner, Cond.initialized RX2, Cond.code yX2_isWinner cX2_isWinner 7 (some .boolean), Cond.fieldLink RX2 39 "SureCount$Race" "seats" "I", Cond.methodLink RX2 55 yX3_papersWith, Cond.instanceMethod yX3_papersWith, Cond.selects RX3 yX3_papersWith yX3_papersWith, Cond.initialized RX3, Cond.code yX3_papersWith cX3_papersWith 2 (some .int), Cond.fieldLink RX3 9 "SureCount$Tally" "papersOf" "[I", Cond.methodLink RX2 63 yX2_pairWithLosers, Cond.instanceMethod yX2_pairWithLosers]
def wsX2_pairUp_r2 : List Cond := [Cond.selects RX2 yX2_pairWithLosers yX2_pairWithLosers, Cond.code yX2_pairWithLosers cX2_pairWithLosers 3 none, Cond.fieldLink RX2 22 "SureCount$Race" "pairWinner" "[I", Cond.fieldLink RX2 26 "SureCount$Race" "pairLoser" "[I"]
def wsX2_pairUp : List Cond := .code yX2_pairUp cX2_pairUp 2 none :: ((wsX2_pairUp_r1 ++ wsX2_pairUp_r2) ++ wsX20 ++ wsX30)
def wsX2_open_r1 : List Cond := [Cond.fieldLink RX2 36 "SureCount$Race" "candidates" "I", Cond.fieldLink RX2 39 "SureCount$Race" "seats" "I", Cond.methodLink RX2 48 yX2_pairUp, Cond.instanceMethod yX2_pairUp, Cond.selects RX2 yX2_pairUp yX2_pairUp, Cond.initialized RX2, Cond.code yX2_pairUp cX2_pairUp 2 none, Cond.fieldLink RX2 18 "SureCount$Race" "winsByWord" "[Z", Cond.fieldLink RX2 12 "SureCount$Race" "wordTally" "LSureCount$Tally;", Cond.fieldLink RX2 32 "SureCount$Race" "pairs" "I", Cond.fieldLink RX2 29 "SureCount$Race" "pairMargin" "[I", Cond.fieldLink RX2 45 "SureCount$Race" "margin" "I", Cond.methodLink RX2 66 Lib.Math.min.name, Cond.static Lib.Math.min.name, Cond.initialized "java/lang/Math", Cond.code Lib.Math.min.name Lib.Math.min.code 2 (some .int), Cond.methodLink RX2 59 yX2_isWinner, Cond.instanceMethod yX2_isWinner, Cond.selects RX2 yX2_isWinner yX2_isWinner, Cond.code yX2_isWinner cX2_isWinner 7 (some .boolean), Cond.methodLink RX2 55 yX3_papersWith, Cond.instanceMethod yX3_papersWith, Cond.selects RX3 yX3_papersWith yX3_papersWith, Cond.initialized RX3]
def wsX2_open_r2 : List Cond := [Cond.code yX3_papersWith cX3_papersWith 2 (some .int), Cond.fieldLink RX3 9 "SureCount$Tally" "papersOf" "[I", Cond.methodLink RX2 63 yX2_pairWithLosers, Cond.instanceMethod yX2_pairWithLosers, Cond.selects RX2 yX2_pairWithLosers yX2_pairWithLosers, Cond.code yX2_pairWithLosers cX2_pairWithLosers 3 none, Cond.fieldLink RX2 22 "SureCount$Race" "pairWinner" "[I", Cond.fieldLink RX2 26 "SureCount$Race" "pairLoser" "[I"]
def wsX2_open : List Cond := .code yX2_open cX2_open 3 none :: ((wsX2_open_r1 ++ wsX2_open_r2) ++ wsX20 ++ wsX30)
def wsX3_add : List Cond := .code yX3_add cX3_add 2 none :: ([.fieldLink RX3 9 "SureCount$Tally" "papersOf" "[I"] ++ wsX30)
def wsX2_addWord_r1 : List Cond := [Cond.fieldLink RX2 12 "SureCount$Race" "wordTally" "LSureCount$Tally;", Cond.fieldLink RX2 42 "SureCount$Race" "size" "I", Cond.methodLink RX2 51 yX3_add, Cond.instanceMethod yX3_add, Cond.selects RX3 yX3_add yX3_add, Cond.initialized RX3, Cond.code yX3_add cX3_add 2 none, Cond.fieldLink RX3 9 "SureCount$Tally" "papersOf" "[I", Cond.methodLink RX2 48 yX2_pairUp, Cond.instanceMethod yX2_pairUp, Cond.selects RX2 yX2_pairUp yX2_pairUp, Cond.initialized RX2, Cond.code yX2_pairUp cX2_pairUp 2 none, Cond.fieldLink RX2 36 "SureCount$Race" "candidates" "I", Cond.fieldLink RX2 18 "SureCount$Race" "winsByWord" "[Z", Cond.fieldLink RX2 32 "SureCount$Race" "pairs" "I", Cond.fieldLink RX2 29 "SureCount$Race" "pairMargin" "[I", Cond.fieldLink RX2 45 "SureCount$Race" "margin" "I", Cond.methodLink RX2 66 Lib.Math.min.name, Cond.static Lib.Math.min.name, Cond.initialized "java/lang/Math", Cond.code Lib.Math.min.name Lib.Math.min.code 2 (some .int), Cond.methodLink RX2 59 yX2_isWinner, Cond.instanceMethod yX2_isWinner]
def wsX2_addWord_r2 : List Cond := [Cond.selects RX2 yX2_isWinner yX2_isWinner, Cond.code yX2_isWinner cX2_isWinner 7 (some .boolean), Cond.fieldLink RX2 39 "SureCount$Race" "seats" "I", Cond.methodLink RX2 55 yX3_papersWith, Cond.instanceMethod yX3_papersWith, Cond.selects RX3 yX3_papersWith yX3_papersWith, Cond.code yX3_papersWith cX3_papersWith 2 (some .int), Cond.methodLink RX2 63 yX2_pairWithLosers, Cond.instanceMethod yX2_pairWithLosers, Cond.selects RX2 yX2_pairWithLosers yX2_pairWithLosers, Cond.code yX2_pairWithLosers cX2_pairWithLosers 3 none, Cond.fieldLink RX2 22 "SureCount$Race" "pairWinner" "[I", Cond.fieldLink RX2 26 "SureCount$Race" "pairLoser" "[I"]
def wsX2_addWord : List Cond := .code yX2_addWord cX2_addWord 2 none :: ((wsX2_addWord_r1 ++ wsX2_addWord_r2) ++ wsX20 ++ wsX30)
def wsX2_hasCandidate : List Cond := .code yX2_hasCandidate cX2_hasCandidate 2 (some .boolean) :: ([.fieldLink RX2 36 "SureCount$Race" "candidates" "I"] ++ wsX20)
def wsX2_allows : List Cond := .code yX2_allows cX2_allows 2 (some .boolean) :: ([.fieldLink RX2 36 "SureCount$Race" "candidates" "I"] ++ wsX20)
def wsX2_carryOn : List Cond := .code yX2_carryOn cX2_carryOn 8 (some .int) :: ([.constantLong RX2 72 (22), .fieldLink RX2 42 "SureCount$Race" "size" "I", .constantLong RX2 74 (10), .fieldLink RX2 45 "SureCount$Race" "margin" "I", .constant RX2 76 (1000000000), .constantLong RX2 77 (1000000000), .methodLink RX2 79 Lib.MathLoose.min_long.x, .static Lib.MathLoose.min_long.x, .initialized "java/lang/Math", .code Lib.MathLoose.min_long.x Lib.MathLoose.min_long.code 4 (some .long)] ++ wsX20)
def wsX2_cleanDrawsUntil : List Cond := .code yX2_cleanDrawsUntil cX2_cleanDrawsUntil 6 (some .int) :: ([.constant RX2 82 (100000), .fieldLink RX2 45 "SureCount$Race" "margin" "I", .methodLink RX2 83 yX2_carryOn, .instanceMethod yX2_carryOn, .selects RX2 yX2_carryOn yX2_carryOn, .initialized RX2, .code yX2_carryOn cX2_carryOn 8 (some .int), .constantLong RX2 72 (22), .fieldLink RX2 42 "SureCount$Race" "size" "I", .constantLong RX2 74 (10), .constant RX2 76 (1000000000), .constantLong RX2 77 (1000000000), .methodLink RX2 79 Lib.MathLoose.min_long.x, .static Lib.MathLoose.min_long.x, .initialized "java/lang/Math", .code Lib.MathLoose.min_long.x Lib.MathLoose.min_long.code 4 (some .long)] ++ wsX20)
def wsJ7_fill_53178 : List Cond := .code yJ7_fill_53178 cJ7_fill_53178 4 none :: ([])
def wsX3_clear : List Cond := .code yX3_clear cX3_clear 1 none :: ([.fieldLink RX3 9 "SureCount$Tally" "papersOf" "[I", .methodLink RX3 15 yJ7_fill_53178, .static yJ7_fill_53178, .initialized RJ7, .code yJ7_fill_53178 cJ7_fill_53178 4 none] ++ wsX30)
def wsX4_init : List Cond := .code yX4_init cX4_init 1 none :: ([.methodLink RX4 3 objectInit, .instanceMethod objectInit, .code objectInit ⟨#[0xb1]⟩ 1 none, .arrayClass .int, .fieldLink RX4 9 "SureCount$Walk" "worstGap" "[I", .fieldLink RX4 15 "SureCount$Walk" "worstMargin" "[I", .constant RX4 18 (1000000000), .fieldLink RX4 19 "SureCount$Walk" "riskReached" "I", .fieldLink RX4 23 "SureCount$Walk" "drawsTaken" "I"] ++ wsX40)
def wsX4_isTaken : List Cond := .code yX4_isTaken cX4_isTaken 3 (some .boolean) :: ([])
def wsX4_lead : List Cond := .code yX4_lead cX4_lead 3 (some .int) :: ([])
def wsX4_weigh_r1 : List Cond := [Cond.fieldLink RX4 9 "SureCount$Walk" "worstGap" "[I", Cond.fieldLink RX4 15 "SureCount$Walk" "worstMargin" "[I", Cond.methodLink RX4 50 yX1_wordMark, Cond.instanceMethod yX1_wordMark, Cond.selects RX1 yX1_wordMark yX1_wordMark, Cond.initialized RX1, Cond.code yX1_wordMark cX1_wordMark 3 (some .int), Cond.fieldLink RX1 15 "SureCount$Papers" "wordOf" "[I", Cond.static yX5_markOf, Cond.initialized RX5, Cond.code yX5_markOf cX5_markOf 2 (some .int), Cond.methodLink RX4 54 yX1_handsMark, Cond.instanceMethod yX1_handsMark, Cond.selects RX1 yX1_handsMark yX1_handsMark, Cond.code yX1_handsMark cX1_handsMark 6 (some .int), Cond.fieldLink RX1 25 "SureCount$Papers" "handsOf" "[I", Cond.methodLink RX1 53 Lib.Math.max.name, Cond.static Lib.Math.max.name, Cond.initialized "java/lang/Math", Cond.code Lib.Math.max.name Lib.Math.max.code 2 (some .int), Cond.methodLink RX1 43 yX1_handMark, Cond.instanceMethod yX1_handMark, Cond.selects RX1 yX1_handMark yX1_handMark, Cond.code yX1_handMark cX1_handMark 4 (some .int)]
def wsX4_weigh_r2 : List Cond := [Cond.fieldLink RX1 28 "SureCount$Papers" "handWords" "[I", Cond.methodLink RX1 58 yX1_isReadBy, Cond.instanceMethod yX1_isReadBy, Cond.selects RX1 yX1_isReadBy yX1_isReadBy, Cond.code yX1_isReadBy cX1_isReadBy 3 (some .boolean), Cond.methodLink RX1 47 yJ6_bitCount_0f7a4, Cond.static yJ6_bitCount_0f7a4, Cond.initialized RJ6, Cond.code yJ6_bitCount_0f7a4 cJ6_bitCount_0f7a4 1 (some .int), Cond.constant RJ6 265 (1431655765), Cond.constant RJ6 266 (858993459), Cond.constant RJ6 267 (252645135), Cond.methodLink RX4 61 yX4_isTaken, Cond.static yX4_isTaken, Cond.initialized RX4, Cond.code yX4_isTaken cX4_isTaken 3 (some .boolean), Cond.methodLink RX4 77 yX4_lead, Cond.static yX4_lead, Cond.code yX4_lead cX4_lead 3 (some .int)]
def wsX4_weigh : List Cond := .code yX4_weigh cX4_weigh 12 none :: ((wsX4_weigh_r1 ++ wsX4_weigh_r2) ++ wsX10 ++ wsX40 ++ wsX20)
def wsX4_follow_r1 : List Cond := [Cond.constant RX4 18 (1000000000), Cond.fieldLink RX4 19 "SureCount$Walk" "riskReached" "I", Cond.fieldLink RX4 23 "SureCount$Walk" "drawsTaken" "I", Cond.fieldLink RX4 9 "SureCount$Walk" "worstGap" "[I", Cond.fieldLink RX4 15 "SureCount$Walk" "worstMargin" "[I", Cond.methodLink RX4 31 yX4_weigh, Cond.instanceMethod yX4_weigh, Cond.selects RX4 yX4_weigh yX4_weigh, Cond.initialized RX4, Cond.code yX4_weigh cX4_weigh 12 none, Cond.methodLink RX4 50 yX1_wordMark, Cond.instanceMethod yX1_wordMark, Cond.selects RX1 yX1_wordMark yX1_wordMark, Cond.initialized RX1, Cond.code yX1_wordMark cX1_wordMark 3 (some .int), Cond.fieldLink RX1 15 "SureCount$Papers" "wordOf" "[I", Cond.static yX5_markOf, Cond.initialized RX5, Cond.code yX5_markOf cX5_markOf 2 (some .int), Cond.methodLink RX4 54 yX1_handsMark, Cond.instanceMethod yX1_handsMark, Cond.selects RX1 yX1_handsMark yX1_handsMark, Cond.code yX1_handsMark cX1_handsMark 6 (some .int), Cond.fieldLink RX1 25 "SureCount$Papers" "handsOf" "[I"]
def wsX4_follow_r2 : List Cond := [Cond.methodLink RX1 53 Lib.Math.max.name, Cond.static Lib.Math.max.name, Cond.initialized "java/lang/Math", Cond.code Lib.Math.max.name Lib.Math.max.code 2 (some .int), Cond.methodLink RX1 43 yX1_handMark, Cond.instanceMethod yX1_handMark, Cond.selects RX1 yX1_handMark yX1_handMark, Cond.code yX1_handMark cX1_handMark 4 (some .int), Cond.fieldLink RX1 28 "SureCount$Papers" "handWords" "[I", Cond.methodLink RX1 58 yX1_isReadBy, Cond.instanceMethod yX1_isReadBy, Cond.selects RX1 yX1_isReadBy yX1_isReadBy, Cond.code yX1_isReadBy cX1_isReadBy 3 (some .boolean), Cond.methodLink RX1 47 yJ6_bitCount_0f7a4, Cond.static yJ6_bitCount_0f7a4, Cond.initialized RJ6, Cond.code yJ6_bitCount_0f7a4 cJ6_bitCount_0f7a4 1 (some .int), Cond.constant RJ6 265 (1431655765), Cond.constant RJ6 266 (858993459), Cond.constant RJ6 267 (252645135), Cond.methodLink RX4 61 yX4_isTaken, Cond.static yX4_isTaken, Cond.code yX4_isTaken cX4_isTaken 3 (some .boolean), Cond.methodLink RX4 77 yX4_lead]
def wsX4_follow_r3 : List Cond := [Cond.static yX4_lead, Cond.code yX4_lead cX4_lead 3 (some .int), Cond.methodLink RX4 35 yX0_settled, Cond.instanceMethod yX0_settled, Cond.selects RX0 yX0_settled yX0_settled, Cond.initialized RX0, Cond.code yX0_settled cX0_settled 3 (some .int), Cond.fieldLink RX0 15 "SureCount$Draws" "size" "I", Cond.fieldLink RX0 9 "SureCount$Draws" "paperOf" "[I", Cond.methodLink RX0 27 yX1_isSettled, Cond.instanceMethod yX1_isSettled, Cond.selects RX1 yX1_isSettled yX1_isSettled, Cond.code yX1_isSettled cX1_isSettled 2 (some .boolean), Cond.fieldLink RX1 18 "SureCount$Papers" "isLost" "[Z", Cond.methodLink RX1 35 yX1_isReadByHand, Cond.instanceMethod yX1_isReadByHand, Cond.selects RX1 yX1_isReadByHand yX1_isReadByHand, Cond.code yX1_isReadByHand cX1_isReadByHand 2 (some .boolean), Cond.methodLink RX4 44 yX2_carryOn, Cond.instanceMethod yX2_carryOn, Cond.selects RX2 yX2_carryOn yX2_carryOn, Cond.initialized RX2, Cond.code yX2_carryOn cX2_carryOn 8 (some .int), Cond.constantLong RX2 72 (22)]
def wsX4_follow_r4 : List Cond := [Cond.fieldLink RX2 42 "SureCount$Race" "size" "I", Cond.constantLong RX2 74 (10), Cond.fieldLink RX2 45 "SureCount$Race" "margin" "I", Cond.constant RX2 76 (1000000000), Cond.constantLong RX2 77 (1000000000), Cond.methodLink RX2 79 Lib.MathLoose.min_long.x, Cond.static Lib.MathLoose.min_long.x, Cond.code Lib.MathLoose.min_long.x Lib.MathLoose.min_long.code 4 (some .long)]
def wsX4_follow : List Cond := .code yX4_follow cX4_follow 8 none :: ((wsX4_follow_r1 ++ (wsX4_follow_r2 ++ (wsX4_follow_r3 ++ wsX4_follow_r4))) ++ wsX10 ++ wsX40 ++ wsX00 ++ wsX20)
def wsX5_init_r1 : List Cond := [Cond.methodLink RX5 3 objectInit, Cond.instanceMethod objectInit, Cond.code objectInit ⟨#[0xb1]⟩ 1 none, Cond.classLink RX5 9 RX2, Cond.fieldLink RX5 11 "SureCount" "races" "[LSureCount$Race;", Cond.instantiable RX2 10, Cond.initialized RX2, Cond.classLink RX5 16 RX1, Cond.instantiable RX1 7, Cond.initialized RX1, Cond.fieldLink RX5 19 "SureCount" "papers" "LSureCount$Papers;", Cond.classLink RX5 23 RX0, Cond.instantiable RX0 3, Cond.initialized RX0, Cond.fieldLink RX5 26 "SureCount" "draws" "LSureCount$Draws;", Cond.classLink RX5 30 RX4, Cond.instantiable RX4 4, Cond.initialized RX4, Cond.fieldLink RX5 33 "SureCount" "walk" "LSureCount$Walk;", Cond.classLink RX5 37 RX3, Cond.instantiable RX3 1, Cond.initialized RX3, Cond.fieldLink RX5 40 "SureCount" "handTally" "LSureCount$Tally;", Cond.fieldLink RX5 44 "SureCount" "raceCount" "I"]
def wsX5_init_r2 : List Cond := [Cond.fieldLink RX5 48 "SureCount" "boxCount" "I", Cond.fieldLink RX5 51 "SureCount" "isSealed" "Z", Cond.instanceMethod yX2_init, Cond.code yX2_init cX2_init 1 none, Cond.methodLink RX2 3 objectInit, Cond.classLink RX2 9 RX3, Cond.fieldLink RX2 12 "SureCount$Race" "wordTally" "LSureCount$Tally;", Cond.arrayClass .boolean, Cond.fieldLink RX2 18 "SureCount$Race" "winsByWord" "[Z", Cond.arrayClass .int, Cond.fieldLink RX2 22 "SureCount$Race" "pairWinner" "[I", Cond.fieldLink RX2 26 "SureCount$Race" "pairLoser" "[I", Cond.fieldLink RX2 29 "SureCount$Race" "pairMargin" "[I", Cond.fieldLink RX2 32 "SureCount$Race" "pairs" "I", Cond.fieldLink RX2 36 "SureCount$Race" "candidates" "I", Cond.fieldLink RX2 39 "SureCount$Race" "seats" "I", Cond.fieldLink RX2 42 "SureCount$Race" "size" "I", Cond.fieldLink RX2 45 "SureCount$Race" "margin" "I", Cond.instanceMethod yX3_init, Cond.code yX3_init cX3_init 1 none, Cond.methodLink RX3 3 objectInit, Cond.fieldLink RX3 9 "SureCount$Tally" "papersOf" "[I", Cond.instanceMethod yX1_init, Cond.code yX1_init cX1_init 1 none]
def wsX5_init_r3 : List Cond := [Cond.methodLink RX1 3 objectInit, Cond.fieldLink RX1 9 "SureCount$Papers" "boxOf" "[I", Cond.fieldLink RX1 15 "SureCount$Papers" "wordOf" "[I", Cond.fieldLink RX1 18 "SureCount$Papers" "isLost" "[Z", Cond.fieldLink RX1 22 "SureCount$Papers" "wasDrawn" "[Z", Cond.fieldLink RX1 25 "SureCount$Papers" "handsOf" "[I", Cond.fieldLink RX1 28 "SureCount$Papers" "handWords" "[I", Cond.fieldLink RX1 31 "SureCount$Papers" "size" "I", Cond.instanceMethod yX0_init, Cond.code yX0_init cX0_init 1 none, Cond.methodLink RX0 3 objectInit, Cond.fieldLink RX0 9 "SureCount$Draws" "paperOf" "[I", Cond.fieldLink RX0 15 "SureCount$Draws" "size" "I", Cond.fieldLink RX0 19 "SureCount$Draws" "dice" "J", Cond.instanceMethod yX4_init, Cond.code yX4_init cX4_init 1 none, Cond.methodLink RX4 3 objectInit, Cond.fieldLink RX4 9 "SureCount$Walk" "worstGap" "[I", Cond.fieldLink RX4 15 "SureCount$Walk" "worstMargin" "[I", Cond.constant RX4 18 (1000000000), Cond.fieldLink RX4 19 "SureCount$Walk" "riskReached" "I", Cond.fieldLink RX4 23 "SureCount$Walk" "drawsTaken" "I"]
def wsX5_init : List Cond := .code yX5_init cX5_init 2 none :: ((wsX5_init_r1 ++ (wsX5_init_r2 ++ wsX5_init_r3)) ++ wsX50 ++ wsX20 ++ wsX10 ++ wsX00 ++ wsX40 ++ wsX30)
def wsX5_race_r1 : List Cond := [Cond.fieldLink RX5 44 "SureCount" "raceCount" "I", Cond.fieldLink RX5 19 "SureCount" "papers" "LSureCount$Papers;", Cond.fieldLink RX5 11 "SureCount" "races" "[LSureCount$Race;", Cond.methodLink RX5 58 yX2_open, Cond.instanceMethod yX2_open, Cond.selects RX2 yX2_open yX2_open, Cond.initialized RX2, Cond.code yX2_open cX2_open 3 none, Cond.fieldLink RX2 36 "SureCount$Race" "candidates" "I", Cond.fieldLink RX2 39 "SureCount$Race" "seats" "I", Cond.methodLink RX2 48 yX2_pairUp, Cond.instanceMethod yX2_pairUp, Cond.selects RX2 yX2_pairUp yX2_pairUp, Cond.code yX2_pairUp cX2_pairUp 2 none, Cond.fieldLink RX2 18 "SureCount$Race" "winsByWord" "[Z", Cond.fieldLink RX2 12 "SureCount$Race" "wordTally" "LSureCount$Tally;", Cond.fieldLink RX2 32 "SureCount$Race" "pairs" "I", Cond.fieldLink RX2 29 "SureCount$Race" "pairMargin" "[I", Cond.fieldLink RX2 45 "SureCount$Race" "margin" "I", Cond.methodLink RX2 66 Lib.Math.min.name, Cond.static Lib.Math.min.name, Cond.initialized "java/lang/Math", Cond.code Lib.Math.min.name Lib.Math.min.code 2 (some .int), Cond.methodLink RX2 59 yX2_isWinner]
def wsX5_race_r2 : List Cond := [Cond.instanceMethod yX2_isWinner, Cond.selects RX2 yX2_isWinner yX2_isWinner, Cond.code yX2_isWinner cX2_isWinner 7 (some .boolean), Cond.methodLink RX2 55 yX3_papersWith, Cond.instanceMethod yX3_papersWith, Cond.selects RX3 yX3_papersWith yX3_papersWith, Cond.initialized RX3, Cond.code yX3_papersWith cX3_papersWith 2 (some .int), Cond.fieldLink RX3 9 "SureCount$Tally" "papersOf" "[I", Cond.methodLink RX2 63 yX2_pairWithLosers, Cond.instanceMethod yX2_pairWithLosers, Cond.selects RX2 yX2_pairWithLosers yX2_pairWithLosers, Cond.code yX2_pairWithLosers cX2_pairWithLosers 3 none, Cond.fieldLink RX2 22 "SureCount$Race" "pairWinner" "[I", Cond.fieldLink RX2 26 "SureCount$Race" "pairLoser" "[I"]
def wsX5_race : List Cond := .code yX5_race cX5_race 3 (some .int) :: ((wsX5_race_r1 ++ wsX5_race_r2) ++ wsX50 ++ wsX10 ++ wsX20 ++ wsX30)
def wsX5_box : List Cond := .code yX5_box cX5_box 1 (some .int) :: ([.fieldLink RX5 48 "SureCount" "boxCount" "I", .fieldLink RX5 51 "SureCount" "isSealed" "Z"] ++ wsX50)
def wsX5_hasBox : List Cond := .code yX5_hasBox cX5_hasBox 2 (some .boolean) :: ([.fieldLink RX5 48 "SureCount" "boxCount" "I"] ++ wsX50)
def wsX5_isPossible : List Cond := .code yX5_isPossible cX5_isPossible 3 (some .boolean) :: ([.fieldLink RX5 44 "SureCount" "raceCount" "I", .fieldLink RX5 11 "SureCount" "races" "[LSureCount$Race;", .methodLink RX5 76 yX5_markOf, .static yX5_markOf, .initialized RX5, .code yX5_markOf cX5_markOf 2 (some .int), .methodLink RX5 220 yX2_allows, .instanceMethod yX2_allows, .selects RX2 yX2_allows yX2_allows, .initialized RX2, .code yX2_allows cX2_allows 2 (some .boolean), .fieldLink RX2 36 "SureCount$Race" "candidates" "I"] ++ wsX50 ++ wsX20)
def wsX5_paper_r1 : List Cond := [Cond.classLink RX5 66 "java/util/NoSuchElementException", Cond.initialized "java/util/NoSuchElementException", Cond.fieldLink RX5 19 "SureCount" "papers" "LSureCount$Papers;", Cond.fieldLink RX5 51 "SureCount" "isSealed" "Z", Cond.fieldLink RX5 44 "SureCount" "raceCount" "I", Cond.fieldLink RX5 11 "SureCount" "races" "[LSureCount$Race;", Cond.methodLink RX5 62 yX5_hasBox, Cond.instanceMethod yX5_hasBox, Cond.selects RX5 yX5_hasBox yX5_hasBox, Cond.initialized RX5, Cond.code yX5_hasBox cX5_hasBox 2 (some .boolean), Cond.fieldLink RX5 48 "SureCount" "boxCount" "I", Cond.methodLink RX5 73 yX5_isPossible, Cond.instanceMethod yX5_isPossible, Cond.selects RX5 yX5_isPossible yX5_isPossible, Cond.code yX5_isPossible cX5_isPossible 3 (some .boolean), Cond.methodLink RX5 76 yX5_markOf, Cond.static yX5_markOf, Cond.code yX5_markOf cX5_markOf 2 (some .int), Cond.methodLink RX5 220 yX2_allows, Cond.instanceMethod yX2_allows, Cond.selects RX2 yX2_allows yX2_allows, Cond.initialized RX2, Cond.code yX2_allows cX2_allows 2 (some .boolean)]
def wsX5_paper_r2 : List Cond := [Cond.fieldLink RX2 36 "SureCount$Race" "candidates" "I", Cond.methodLink RX5 80 yX2_addWord, Cond.instanceMethod yX2_addWord, Cond.selects RX2 yX2_addWord yX2_addWord, Cond.code yX2_addWord cX2_addWord 2 none, Cond.fieldLink RX2 12 "SureCount$Race" "wordTally" "LSureCount$Tally;", Cond.fieldLink RX2 42 "SureCount$Race" "size" "I", Cond.methodLink RX2 51 yX3_add, Cond.instanceMethod yX3_add, Cond.selects RX3 yX3_add yX3_add, Cond.initialized RX3, Cond.code yX3_add cX3_add 2 none, Cond.fieldLink RX3 9 "SureCount$Tally" "papersOf" "[I", Cond.methodLink RX2 48 yX2_pairUp, Cond.instanceMethod yX2_pairUp, Cond.selects RX2 yX2_pairUp yX2_pairUp, Cond.code yX2_pairUp cX2_pairUp 2 none, Cond.fieldLink RX2 18 "SureCount$Race" "winsByWord" "[Z", Cond.fieldLink RX2 32 "SureCount$Race" "pairs" "I", Cond.fieldLink RX2 29 "SureCount$Race" "pairMargin" "[I", Cond.fieldLink RX2 45 "SureCount$Race" "margin" "I", Cond.methodLink RX2 66 Lib.Math.min.name, Cond.static Lib.Math.min.name, Cond.initialized "java/lang/Math"]
def wsX5_paper_r3 : List Cond := [Cond.code Lib.Math.min.name Lib.Math.min.code 2 (some .int), Cond.methodLink RX2 59 yX2_isWinner, Cond.instanceMethod yX2_isWinner, Cond.selects RX2 yX2_isWinner yX2_isWinner, Cond.code yX2_isWinner cX2_isWinner 7 (some .boolean), Cond.fieldLink RX2 39 "SureCount$Race" "seats" "I", Cond.methodLink RX2 55 yX3_papersWith, Cond.instanceMethod yX3_papersWith, Cond.selects RX3 yX3_papersWith yX3_papersWith, Cond.code yX3_papersWith cX3_papersWith 2 (some .int), Cond.methodLink RX2 63 yX2_pairWithLosers, Cond.instanceMethod yX2_pairWithLosers, Cond.selects RX2 yX2_pairWithLosers yX2_pairWithLosers, Cond.code yX2_pairWithLosers cX2_pairWithLosers 3 none, Cond.fieldLink RX2 22 "SureCount$Race" "pairWinner" "[I", Cond.fieldLink RX2 26 "SureCount$Race" "pairLoser" "[I", Cond.methodLink RX5 84 yX1_add, Cond.instanceMethod yX1_add, Cond.selects RX1 yX1_add yX1_add, Cond.initialized RX1, Cond.code yX1_add cX1_add 3 (some .int), Cond.fieldLink RX1 9 "SureCount$Papers" "boxOf" "[I", Cond.fieldLink RX1 31 "SureCount$Papers" "size" "I", Cond.fieldLink RX1 15 "SureCount$Papers" "wordOf" "[I"]
def wsX5_paper : List Cond := .code yX5_paper cX5_paper 4 (some .int) :: ((wsX5_paper_r1 ++ (wsX5_paper_r2 ++ wsX5_paper_r3)) ++ wsX50 ++ wsX10 ++ wsX20 ++ wsX30 ++ (sx_atX RX5 70 "java/util/NoSuchElementException" 13 sx_rx13 "java/lang/RuntimeException" ["java/lang/Exception"]).filter goodWord)
def wsX5_lose : List Cond := .code yX5_lose cX5_lose 4 (some .boolean) :: ([.classLink RX5 66 "java/util/NoSuchElementException", .initialized "java/util/NoSuchElementException", .classLink RX5 95 "java/lang/IllegalStateException", .initialized "java/lang/IllegalStateException", .fieldLink RX5 19 "SureCount" "papers" "LSureCount$Papers;", .methodLink RX5 87 yX1_has, .instanceMethod yX1_has, .selects RX1 yX1_has yX1_has, .initialized RX1, .code yX1_has cX1_has 2 (some .boolean), .fieldLink RX1 31 "SureCount$Papers" "size" "I", .methodLink RX5 92 yX1_isReadByHand, .instanceMethod yX1_isReadByHand, .selects RX1 yX1_isReadByHand yX1_isReadByHand, .code yX1_isReadByHand cX1_isReadByHand 2 (some .boolean), .fieldLink RX1 25 "SureCount$Papers" "handsOf" "[I"] ++ wsX50 ++ wsX10 ++ (sx_atX RX5 70 "java/util/NoSuchElementException" 13 sx_rx13 "java/lang/RuntimeException" ["java/lang/Exception"]).filter goodWord ++ (vx_atS RX5 99 "java/lang/IllegalStateException" ["java/lang/RuntimeException", "java/lang/Exception"]).filter goodWord)
def wsX5_seal : List Cond := .code yX5_seal cX5_seal 3 (some .boolean) :: ([.fieldLink RX5 51 "SureCount" "isSealed" "Z", .fieldLink RX5 19 "SureCount" "papers" "LSureCount$Papers;", .fieldLink RX5 26 "SureCount" "draws" "LSureCount$Draws;", .methodLink RX5 104 yX0_begin, .instanceMethod yX0_begin, .selects RX0 yX0_begin yX0_begin, .initialized RX0, .code yX0_begin cX0_begin 3 none, .fieldLink RX0 19 "SureCount$Draws" "dice" "J"] ++ wsX50 ++ wsX10 ++ wsX00)
def wsX5_hasRace : List Cond := .code yX5_hasRace cX5_hasRace 2 (some .boolean) :: ([.fieldLink RX5 44 "SureCount" "raceCount" "I"] ++ wsX50)
def wsX5_canTally : List Cond := .code yX5_canTally cX5_canTally 4 (some .boolean) :: ([.fieldLink RX5 11 "SureCount" "races" "[LSureCount$Race;", .methodLink RX5 126 yX5_hasRace, .instanceMethod yX5_hasRace, .selects RX5 yX5_hasRace yX5_hasRace, .initialized RX5, .code yX5_hasRace cX5_hasRace 2 (some .boolean), .fieldLink RX5 44 "SureCount" "raceCount" "I", .methodLink RX5 217 yX2_hasCandidate, .instanceMethod yX2_hasCandidate, .selects RX2 yX2_hasCandidate yX2_hasCandidate, .initialized RX2, .code yX2_hasCandidate cX2_hasCandidate 2 (some .boolean), .fieldLink RX2 36 "SureCount$Race" "candidates" "I"] ++ wsX50 ++ wsX20)
def wsX5_tallyOf_r1 : List Cond := [Cond.fieldLink RX5 11 "SureCount" "races" "[LSureCount$Race;", Cond.fieldLink RX5 40 "SureCount" "handTally" "LSureCount$Tally;", Cond.fieldLink RX5 19 "SureCount" "papers" "LSureCount$Papers;", Cond.methodLink RX5 226 yX3_clear, Cond.instanceMethod yX3_clear, Cond.selects RX3 yX3_clear yX3_clear, Cond.initialized RX3, Cond.code yX3_clear cX3_clear 1 none, Cond.fieldLink RX3 9 "SureCount$Tally" "papersOf" "[I", Cond.methodLink RX3 15 yJ7_fill_53178, Cond.static yJ7_fill_53178, Cond.initialized RJ7, Cond.code yJ7_fill_53178 cJ7_fill_53178 4 none, Cond.methodLink RX5 229 yX1_wholeMark, Cond.instanceMethod yX1_wholeMark, Cond.selects RX1 yX1_wholeMark yX1_wholeMark, Cond.initialized RX1, Cond.code yX1_wholeMark cX1_wholeMark 3 (some .int), Cond.methodLink RX1 35 yX1_isReadByHand, Cond.instanceMethod yX1_isReadByHand, Cond.selects RX1 yX1_isReadByHand yX1_isReadByHand, Cond.code yX1_isReadByHand cX1_isReadByHand 2 (some .boolean), Cond.fieldLink RX1 25 "SureCount$Papers" "handsOf" "[I", Cond.methodLink RX1 62 yX1_handsMark]
def wsX5_tallyOf_r2 : List Cond := [Cond.instanceMethod yX1_handsMark, Cond.selects RX1 yX1_handsMark yX1_handsMark, Cond.code yX1_handsMark cX1_handsMark 6 (some .int), Cond.methodLink RX1 53 Lib.Math.max.name, Cond.static Lib.Math.max.name, Cond.initialized "java/lang/Math", Cond.code Lib.Math.max.name Lib.Math.max.code 2 (some .int), Cond.methodLink RX1 43 yX1_handMark, Cond.instanceMethod yX1_handMark, Cond.selects RX1 yX1_handMark yX1_handMark, Cond.code yX1_handMark cX1_handMark 4 (some .int), Cond.fieldLink RX1 28 "SureCount$Papers" "handWords" "[I", Cond.methodLink RX1 58 yX1_isReadBy, Cond.instanceMethod yX1_isReadBy, Cond.selects RX1 yX1_isReadBy yX1_isReadBy, Cond.code yX1_isReadBy cX1_isReadBy 3 (some .boolean), Cond.static yX5_markOf, Cond.initialized RX5, Cond.code yX5_markOf cX5_markOf 2 (some .int), Cond.methodLink RX1 47 yJ6_bitCount_0f7a4, Cond.static yJ6_bitCount_0f7a4, Cond.initialized RJ6, Cond.code yJ6_bitCount_0f7a4 cJ6_bitCount_0f7a4 1 (some .int), Cond.constant RJ6 265 (1431655765)]
def wsX5_tallyOf_r3 : List Cond := [Cond.constant RJ6 266 (858993459), Cond.constant RJ6 267 (252645135), Cond.methodLink RX1 65 yX1_wordMark, Cond.instanceMethod yX1_wordMark, Cond.selects RX1 yX1_wordMark yX1_wordMark, Cond.code yX1_wordMark cX1_wordMark 3 (some .int), Cond.fieldLink RX1 15 "SureCount$Papers" "wordOf" "[I", Cond.methodLink RX5 232 yX3_add, Cond.instanceMethod yX3_add, Cond.selects RX3 yX3_add yX3_add, Cond.code yX3_add cX3_add 2 none]
def wsX5_tallyOf : List Cond := .code yX5_tallyOf cX5_tallyOf 4 (some (.object "SureCount$Tally")) :: ((wsX5_tallyOf_r1 ++ (wsX5_tallyOf_r2 ++ wsX5_tallyOf_r3)) ++ wsX50 ++ wsX20 ++ wsX10 ++ wsX30)
def wsX5_votes_r1 : List Cond := [Cond.classLink RX5 66 "java/util/NoSuchElementException", Cond.initialized "java/util/NoSuchElementException", Cond.methodLink RX5 108 yX5_canTally, Cond.instanceMethod yX5_canTally, Cond.selects RX5 yX5_canTally yX5_canTally, Cond.initialized RX5, Cond.code yX5_canTally cX5_canTally 4 (some .boolean), Cond.fieldLink RX5 11 "SureCount" "races" "[LSureCount$Race;", Cond.methodLink RX5 126 yX5_hasRace, Cond.instanceMethod yX5_hasRace, Cond.selects RX5 yX5_hasRace yX5_hasRace, Cond.code yX5_hasRace cX5_hasRace 2 (some .boolean), Cond.fieldLink RX5 44 "SureCount" "raceCount" "I", Cond.methodLink RX5 217 yX2_hasCandidate, Cond.instanceMethod yX2_hasCandidate, Cond.selects RX2 yX2_hasCandidate yX2_hasCandidate, Cond.initialized RX2, Cond.code yX2_hasCandidate cX2_hasCandidate 2 (some .boolean), Cond.fieldLink RX2 36 "SureCount$Race" "candidates" "I", Cond.methodLink RX5 114 yX5_tallyOf, Cond.instanceMethod yX5_tallyOf, Cond.selects RX5 yX5_tallyOf yX5_tallyOf, Cond.code yX5_tallyOf cX5_tallyOf 4 (some (.object "SureCount$Tally")), Cond.fieldLink RX5 40 "SureCount" "handTally" "LSureCount$Tally;"]
def wsX5_votes_r2 : List Cond := [Cond.fieldLink RX5 19 "SureCount" "papers" "LSureCount$Papers;", Cond.methodLink RX5 226 yX3_clear, Cond.instanceMethod yX3_clear, Cond.selects RX3 yX3_clear yX3_clear, Cond.initialized RX3, Cond.code yX3_clear cX3_clear 1 none, Cond.fieldLink RX3 9 "SureCount$Tally" "papersOf" "[I", Cond.methodLink RX3 15 yJ7_fill_53178, Cond.static yJ7_fill_53178, Cond.initialized RJ7, Cond.code yJ7_fill_53178 cJ7_fill_53178 4 none, Cond.methodLink RX5 229 yX1_wholeMark, Cond.instanceMethod yX1_wholeMark, Cond.selects RX1 yX1_wholeMark yX1_wholeMark, Cond.initialized RX1, Cond.code yX1_wholeMark cX1_wholeMark 3 (some .int), Cond.methodLink RX1 35 yX1_isReadByHand, Cond.instanceMethod yX1_isReadByHand, Cond.selects RX1 yX1_isReadByHand yX1_isReadByHand, Cond.code yX1_isReadByHand cX1_isReadByHand 2 (some .boolean), Cond.fieldLink RX1 25 "SureCount$Papers" "handsOf" "[I", Cond.methodLink RX1 62 yX1_handsMark, Cond.instanceMethod yX1_handsMark, Cond.selects RX1 yX1_handsMark yX1_handsMark]
def wsX5_votes_r3 : List Cond := [Cond.code yX1_handsMark cX1_handsMark 6 (some .int), Cond.methodLink RX1 53 Lib.Math.max.name, Cond.static Lib.Math.max.name, Cond.initialized "java/lang/Math", Cond.code Lib.Math.max.name Lib.Math.max.code 2 (some .int), Cond.methodLink RX1 43 yX1_handMark, Cond.instanceMethod yX1_handMark, Cond.selects RX1 yX1_handMark yX1_handMark, Cond.code yX1_handMark cX1_handMark 4 (some .int), Cond.fieldLink RX1 28 "SureCount$Papers" "handWords" "[I", Cond.methodLink RX1 58 yX1_isReadBy, Cond.instanceMethod yX1_isReadBy, Cond.selects RX1 yX1_isReadBy yX1_isReadBy, Cond.code yX1_isReadBy cX1_isReadBy 3 (some .boolean), Cond.static yX5_markOf, Cond.code yX5_markOf cX5_markOf 2 (some .int), Cond.methodLink RX1 47 yJ6_bitCount_0f7a4, Cond.static yJ6_bitCount_0f7a4, Cond.initialized RJ6, Cond.code yJ6_bitCount_0f7a4 cJ6_bitCount_0f7a4 1 (some .int), Cond.constant RJ6 265 (1431655765), Cond.constant RJ6 266 (858993459), Cond.constant RJ6 267 (252645135), Cond.methodLink RX1 65 yX1_wordMark]
def wsX5_votes_r4 : List Cond := [Cond.instanceMethod yX1_wordMark, Cond.selects RX1 yX1_wordMark yX1_wordMark, Cond.code yX1_wordMark cX1_wordMark 3 (some .int), Cond.fieldLink RX1 15 "SureCount$Papers" "wordOf" "[I", Cond.methodLink RX5 232 yX3_add, Cond.instanceMethod yX3_add, Cond.selects RX3 yX3_add yX3_add, Cond.code yX3_add cX3_add 2 none, Cond.methodLink RX5 118 yX3_papersWith, Cond.instanceMethod yX3_papersWith, Cond.selects RX3 yX3_papersWith yX3_papersWith, Cond.code yX3_papersWith cX3_papersWith 2 (some .int)]
def wsX5_votes : List Cond := .code yX5_votes cX5_votes 4 (some .int) :: ((wsX5_votes_r1 ++ (wsX5_votes_r2 ++ (wsX5_votes_r3 ++ wsX5_votes_r4))) ++ wsX50 ++ wsX20 ++ wsX10 ++ wsX30 ++ (sx_atX RX5 70 "java/util/NoSuchElementException" 13 sx_rx13 "java/lang/RuntimeException" ["java/lang/Exception"]).filter goodWord)
def wsX5_wins_r1 : List Cond := [Cond.classLink RX5 66 "java/util/NoSuchElementException", Cond.initialized "java/util/NoSuchElementException", Cond.fieldLink RX5 11 "SureCount" "races" "[LSureCount$Race;", Cond.methodLink RX5 108 yX5_canTally, Cond.instanceMethod yX5_canTally, Cond.selects RX5 yX5_canTally yX5_canTally, Cond.initialized RX5, Cond.code yX5_canTally cX5_canTally 4 (some .boolean), Cond.methodLink RX5 126 yX5_hasRace, Cond.instanceMethod yX5_hasRace, Cond.selects RX5 yX5_hasRace yX5_hasRace, Cond.code yX5_hasRace cX5_hasRace 2 (some .boolean), Cond.fieldLink RX5 44 "SureCount" "raceCount" "I", Cond.methodLink RX5 217 yX2_hasCandidate, Cond.instanceMethod yX2_hasCandidate, Cond.selects RX2 yX2_hasCandidate yX2_hasCandidate, Cond.initialized RX2, Cond.code yX2_hasCandidate cX2_hasCandidate 2 (some .boolean), Cond.fieldLink RX2 36 "SureCount$Race" "candidates" "I", Cond.methodLink RX5 114 yX5_tallyOf, Cond.instanceMethod yX5_tallyOf, Cond.selects RX5 yX5_tallyOf yX5_tallyOf, Cond.code yX5_tallyOf cX5_tallyOf 4 (some (.object "SureCount$Tally")), Cond.fieldLink RX5 40 "SureCount" "handTally" "LSureCount$Tally;"]
def wsX5_wins_r2 : List Cond := [Cond.fieldLink RX5 19 "SureCount" "papers" "LSureCount$Papers;", Cond.methodLink RX5 226 yX3_clear, Cond.instanceMethod yX3_clear, Cond.selects RX3 yX3_clear yX3_clear, Cond.initialized RX3, Cond.code yX3_clear cX3_clear 1 none, Cond.fieldLink RX3 9 "SureCount$Tally" "papersOf" "[I", Cond.methodLink RX3 15 yJ7_fill_53178, Cond.static yJ7_fill_53178, Cond.initialized RJ7, Cond.code yJ7_fill_53178 cJ7_fill_53178 4 none, Cond.methodLink RX5 229 yX1_wholeMark, Cond.instanceMethod yX1_wholeMark, Cond.selects RX1 yX1_wholeMark yX1_wholeMark, Cond.initialized RX1, Cond.code yX1_wholeMark cX1_wholeMark 3 (some .int), Cond.methodLink RX1 35 yX1_isReadByHand, Cond.instanceMethod yX1_isReadByHand, Cond.selects RX1 yX1_isReadByHand yX1_isReadByHand, Cond.code yX1_isReadByHand cX1_isReadByHand 2 (some .boolean), Cond.fieldLink RX1 25 "SureCount$Papers" "handsOf" "[I", Cond.methodLink RX1 62 yX1_handsMark, Cond.instanceMethod yX1_handsMark, Cond.selects RX1 yX1_handsMark yX1_handsMark]
def wsX5_wins_r3 : List Cond := [Cond.code yX1_handsMark cX1_handsMark 6 (some .int), Cond.methodLink RX1 53 Lib.Math.max.name, Cond.static Lib.Math.max.name, Cond.initialized "java/lang/Math", Cond.code Lib.Math.max.name Lib.Math.max.code 2 (some .int), Cond.methodLink RX1 43 yX1_handMark, Cond.instanceMethod yX1_handMark, Cond.selects RX1 yX1_handMark yX1_handMark, Cond.code yX1_handMark cX1_handMark 4 (some .int), Cond.fieldLink RX1 28 "SureCount$Papers" "handWords" "[I", Cond.methodLink RX1 58 yX1_isReadBy, Cond.instanceMethod yX1_isReadBy, Cond.selects RX1 yX1_isReadBy yX1_isReadBy, Cond.code yX1_isReadBy cX1_isReadBy 3 (some .boolean), Cond.static yX5_markOf, Cond.code yX5_markOf cX5_markOf 2 (some .int), Cond.methodLink RX1 47 yJ6_bitCount_0f7a4, Cond.static yJ6_bitCount_0f7a4, Cond.initialized RJ6, Cond.code yJ6_bitCount_0f7a4 cJ6_bitCount_0f7a4 1 (some .int), Cond.constant RJ6 265 (1431655765), Cond.constant RJ6 266 (858993459), Cond.constant RJ6 267 (252645135), Cond.methodLink RX1 65 yX1_wordMark]
def wsX5_wins_r4 : List Cond := [Cond.instanceMethod yX1_wordMark, Cond.selects RX1 yX1_wordMark yX1_wordMark, Cond.code yX1_wordMark cX1_wordMark 3 (some .int), Cond.fieldLink RX1 15 "SureCount$Papers" "wordOf" "[I", Cond.methodLink RX5 232 yX3_add, Cond.instanceMethod yX3_add, Cond.selects RX3 yX3_add yX3_add, Cond.code yX3_add cX3_add 2 none, Cond.methodLink RX5 122 yX2_isWinner, Cond.instanceMethod yX2_isWinner, Cond.selects RX2 yX2_isWinner yX2_isWinner, Cond.code yX2_isWinner cX2_isWinner 7 (some .boolean), Cond.fieldLink RX2 39 "SureCount$Race" "seats" "I", Cond.methodLink RX2 55 yX3_papersWith, Cond.instanceMethod yX3_papersWith, Cond.selects RX3 yX3_papersWith yX3_papersWith, Cond.code yX3_papersWith cX3_papersWith 2 (some .int)]
def wsX5_wins : List Cond := .code yX5_wins cX5_wins 4 (some .boolean) :: ((wsX5_wins_r1 ++ (wsX5_wins_r2 ++ (wsX5_wins_r3 ++ wsX5_wins_r4))) ++ wsX50 ++ wsX20 ++ wsX10 ++ wsX30 ++ (sx_atX RX5 70 "java/util/NoSuchElementException" 13 sx_rx13 "java/lang/RuntimeException" ["java/lang/Exception"]).filter goodWord)
def wsX5_about : List Cond := .code yX5_about cX5_about 3 (some .int) :: ([.classLink RX5 66 "java/util/NoSuchElementException", .initialized "java/util/NoSuchElementException", .fieldLink RX5 11 "SureCount" "races" "[LSureCount$Race;", .methodLink RX5 126 yX5_hasRace, .instanceMethod yX5_hasRace, .selects RX5 yX5_hasRace yX5_hasRace, .initialized RX5, .code yX5_hasRace cX5_hasRace 2 (some .boolean), .fieldLink RX5 44 "SureCount" "raceCount" "I"] ++ wsX50 ++ wsX20 ++ (sx_atX RX5 70 "java/util/NoSuchElementException" 13 sx_rx13 "java/lang/RuntimeException" ["java/lang/Exception"]).filter goodWord)
def wsX5_draw : List Cond := .code yX5_draw cX5_draw 3 (some .int) :: ([.classLink RX5 143 "java/lang/IllegalArgumentException", .initialized "java/lang/IllegalArgumentException", .fieldLink RX5 51 "SureCount" "isSealed" "Z", .fieldLink RX5 26 "SureCount" "draws" "LSureCount$Draws;", .fieldLink RX5 19 "SureCount" "papers" "LSureCount$Papers;", .methodLink RX5 152 yX0_addOne, .instanceMethod yX0_addOne, .selects RX0 yX0_addOne yX0_addOne, .initialized RX0, .code yX0_addOne cX0_addOne 3 (some .int), .fieldLink RX0 15 "SureCount$Draws" "size" "I", .fieldLink RX0 19 "SureCount$Draws" "dice" "J", .constantLong RX0 23 (6364136223846793005), .constantLong RX0 25 (1442695040888963407), .fieldLink RX0 9 "SureCount$Draws" "paperOf" "[I"] ++ wsX50 ++ wsX00 ++ wsX10 ++ (vx_atS RX5 147 "java/lang/IllegalArgumentException" ["java/lang/RuntimeException", "java/lang/Exception"]).filter goodWord)
def wsX5_drawn : List Cond := .code yX5_drawn cX5_drawn 2 (some .int) :: ([.classLink RX5 66 "java/util/NoSuchElementException", .initialized "java/util/NoSuchElementException", .fieldLink RX5 26 "SureCount" "draws" "LSureCount$Draws;", .methodLink RX5 155 yX0_has, .instanceMethod yX0_has, .selects RX0 yX0_has yX0_has, .initialized RX0, .code yX0_has cX0_has 2 (some .boolean), .fieldLink RX0 15 "SureCount$Draws" "size" "I"] ++ wsX50 ++ wsX00 ++ (sx_atX RX5 70 "java/util/NoSuchElementException" 13 sx_rx13 "java/lang/RuntimeException" ["java/lang/Exception"]).filter goodWord)
def wsX5_waits : List Cond := .code yX5_waits cX5_waits 2 (some .int) :: ([.fieldLink RX5 26 "SureCount" "draws" "LSureCount$Draws;", .fieldLink RX5 19 "SureCount" "papers" "LSureCount$Papers;", .methodLink RX5 162 yX0_settled, .instanceMethod yX0_settled, .selects RX0 yX0_settled yX0_settled, .initialized RX0, .code yX0_settled cX0_settled 3 (some .int), .fieldLink RX0 15 "SureCount$Draws" "size" "I", .fieldLink RX0 9 "SureCount$Draws" "paperOf" "[I", .methodLink RX0 27 yX1_isSettled, .instanceMethod yX1_isSettled, .selects RX1 yX1_isSettled yX1_isSettled, .initialized RX1, .code yX1_isSettled cX1_isSettled 2 (some .boolean), .fieldLink RX1 18 "SureCount$Papers" "isLost" "[Z", .methodLink RX1 35 yX1_isReadByHand, .instanceMethod yX1_isReadByHand, .selects RX1 yX1_isReadByHand yX1_isReadByHand, .code yX1_isReadByHand cX1_isReadByHand 2 (some .boolean), .fieldLink RX1 25 "SureCount$Papers" "handsOf" "[I"] ++ wsX50 ++ wsX00 ++ wsX10)
def wsX5_pulled : List Cond := .code yX5_pulled cX5_pulled 4 (some .int) :: ([.classLink RX5 66 "java/util/NoSuchElementException", .initialized "java/util/NoSuchElementException", .fieldLink RX5 19 "SureCount" "papers" "LSureCount$Papers;", .methodLink RX5 62 yX5_hasBox, .instanceMethod yX5_hasBox, .selects RX5 yX5_hasBox yX5_hasBox, .initialized RX5, .code yX5_hasBox cX5_hasBox 2 (some .boolean), .fieldLink RX5 48 "SureCount" "boxCount" "I"] ++ wsX50 ++ wsX10 ++ (sx_atX RX5 70 "java/util/NoSuchElementException" 13 sx_rx13 "java/lang/RuntimeException" ["java/lang/Exception"]).filter goodWord)
def wsX5_read_r1 : List Cond := [Cond.classLink RX5 66 "java/util/NoSuchElementException", Cond.initialized "java/util/NoSuchElementException", Cond.fieldLink RX5 19 "SureCount" "papers" "LSureCount$Papers;", Cond.fieldLink RX5 51 "SureCount" "isSealed" "Z", Cond.methodLink RX5 87 yX1_has, Cond.instanceMethod yX1_has, Cond.selects RX1 yX1_has yX1_has, Cond.initialized RX1, Cond.code yX1_has cX1_has 2 (some .boolean), Cond.fieldLink RX1 31 "SureCount$Papers" "size" "I", Cond.methodLink RX5 171 yX1_isReadBy, Cond.instanceMethod yX1_isReadBy, Cond.selects RX1 yX1_isReadBy yX1_isReadBy, Cond.code yX1_isReadBy cX1_isReadBy 3 (some .boolean), Cond.fieldLink RX1 25 "SureCount$Papers" "handsOf" "[I", Cond.methodLink RX5 73 yX5_isPossible, Cond.instanceMethod yX5_isPossible, Cond.selects RX5 yX5_isPossible yX5_isPossible, Cond.initialized RX5, Cond.code yX5_isPossible cX5_isPossible 3 (some .boolean), Cond.fieldLink RX5 44 "SureCount" "raceCount" "I", Cond.fieldLink RX5 11 "SureCount" "races" "[LSureCount$Race;", Cond.methodLink RX5 76 yX5_markOf, Cond.static yX5_markOf]
def wsX5_read_r2 : List Cond := [Cond.code yX5_markOf cX5_markOf 2 (some .int), Cond.methodLink RX5 220 yX2_allows, Cond.instanceMethod yX2_allows, Cond.selects RX2 yX2_allows yX2_allows, Cond.initialized RX2, Cond.code yX2_allows cX2_allows 2 (some .boolean), Cond.fieldLink RX2 36 "SureCount$Race" "candidates" "I", Cond.methodLink RX5 175 yX1_keepHandWord, Cond.instanceMethod yX1_keepHandWord, Cond.selects RX1 yX1_keepHandWord yX1_keepHandWord, Cond.code yX1_keepHandWord cX1_keepHandWord 4 none, Cond.fieldLink RX1 28 "SureCount$Papers" "handWords" "[I"]
def wsX5_read : List Cond := .code yX5_read cX5_read 4 (some .boolean) :: ((wsX5_read_r1 ++ wsX5_read_r2) ++ wsX50 ++ wsX10 ++ wsX20 ++ (sx_atX RX5 70 "java/util/NoSuchElementException" 13 sx_rx13 "java/lang/RuntimeException" ["java/lang/Exception"]).filter goodWord)
def wsX5_reading_r1 : List Cond := [Cond.classLink RX5 66 "java/util/NoSuchElementException", Cond.initialized "java/util/NoSuchElementException", Cond.fieldLink RX5 19 "SureCount" "papers" "LSureCount$Papers;", Cond.methodLink RX5 87 yX1_has, Cond.instanceMethod yX1_has, Cond.selects RX1 yX1_has yX1_has, Cond.initialized RX1, Cond.code yX1_has cX1_has 2 (some .boolean), Cond.fieldLink RX1 31 "SureCount$Papers" "size" "I", Cond.methodLink RX5 126 yX5_hasRace, Cond.instanceMethod yX5_hasRace, Cond.selects RX5 yX5_hasRace yX5_hasRace, Cond.initialized RX5, Cond.code yX5_hasRace cX5_hasRace 2 (some .boolean), Cond.fieldLink RX5 44 "SureCount" "raceCount" "I", Cond.methodLink RX5 179 yX1_handsMark, Cond.instanceMethod yX1_handsMark, Cond.selects RX1 yX1_handsMark yX1_handsMark, Cond.code yX1_handsMark cX1_handsMark 6 (some .int), Cond.fieldLink RX1 25 "SureCount$Papers" "handsOf" "[I", Cond.methodLink RX1 53 Lib.Math.max.name, Cond.static Lib.Math.max.name, Cond.initialized "java/lang/Math", Cond.code Lib.Math.max.name Lib.Math.max.code 2 (some .int)]
def wsX5_reading_r2 : List Cond := [Cond.methodLink RX1 43 yX1_handMark, Cond.instanceMethod yX1_handMark, Cond.selects RX1 yX1_handMark yX1_handMark, Cond.code yX1_handMark cX1_handMark 4 (some .int), Cond.fieldLink RX1 28 "SureCount$Papers" "handWords" "[I", Cond.methodLink RX1 58 yX1_isReadBy, Cond.instanceMethod yX1_isReadBy, Cond.selects RX1 yX1_isReadBy yX1_isReadBy, Cond.code yX1_isReadBy cX1_isReadBy 3 (some .boolean), Cond.static yX5_markOf, Cond.code yX5_markOf cX5_markOf 2 (some .int), Cond.methodLink RX1 47 yJ6_bitCount_0f7a4, Cond.static yJ6_bitCount_0f7a4, Cond.initialized RJ6, Cond.code yJ6_bitCount_0f7a4 cJ6_bitCount_0f7a4 1 (some .int), Cond.constant RJ6 265 (1431655765), Cond.constant RJ6 266 (858993459), Cond.constant RJ6 267 (252645135)]
def wsX5_reading : List Cond := .code yX5_reading cX5_reading 3 (some .int) :: ((wsX5_reading_r1 ++ wsX5_reading_r2) ++ wsX50 ++ wsX10 ++ (sx_atX RX5 70 "java/util/NoSuchElementException" 13 sx_rx13 "java/lang/RuntimeException" ["java/lang/Exception"]).filter goodWord)
def wsX5_hasRisk : List Cond := .code yX5_hasRisk cX5_hasRisk 2 (some .boolean) :: ([.fieldLink RX5 51 "SureCount" "isSealed" "Z", .fieldLink RX5 11 "SureCount" "races" "[LSureCount$Race;"] ++ wsX50 ++ wsX20)
def wsX5_risk_r1 : List Cond := [Cond.classLink RX5 66 "java/util/NoSuchElementException", Cond.initialized "java/util/NoSuchElementException", Cond.fieldLink RX5 33 "SureCount" "walk" "LSureCount$Walk;", Cond.fieldLink RX5 11 "SureCount" "races" "[LSureCount$Race;", Cond.fieldLink RX5 19 "SureCount" "papers" "LSureCount$Papers;", Cond.fieldLink RX5 26 "SureCount" "draws" "LSureCount$Draws;", Cond.methodLink RX5 126 yX5_hasRace, Cond.instanceMethod yX5_hasRace, Cond.selects RX5 yX5_hasRace yX5_hasRace, Cond.initialized RX5, Cond.code yX5_hasRace cX5_hasRace 2 (some .boolean), Cond.fieldLink RX5 44 "SureCount" "raceCount" "I", Cond.methodLink RX5 182 yX5_hasRisk, Cond.instanceMethod yX5_hasRisk, Cond.selects RX5 yX5_hasRisk yX5_hasRisk, Cond.code yX5_hasRisk cX5_hasRisk 2 (some .boolean), Cond.fieldLink RX5 51 "SureCount" "isSealed" "Z", Cond.methodLink RX5 185 yX4_follow, Cond.instanceMethod yX4_follow, Cond.selects RX4 yX4_follow yX4_follow, Cond.initialized RX4, Cond.code yX4_follow cX4_follow 8 none, Cond.constant RX4 18 (1000000000), Cond.fieldLink RX4 19 "SureCount$Walk" "riskReached" "I"]
def wsX5_risk_r2 : List Cond := [Cond.fieldLink RX4 23 "SureCount$Walk" "drawsTaken" "I", Cond.fieldLink RX4 9 "SureCount$Walk" "worstGap" "[I", Cond.fieldLink RX4 15 "SureCount$Walk" "worstMargin" "[I", Cond.methodLink RX4 31 yX4_weigh, Cond.instanceMethod yX4_weigh, Cond.selects RX4 yX4_weigh yX4_weigh, Cond.code yX4_weigh cX4_weigh 12 none, Cond.methodLink RX4 50 yX1_wordMark, Cond.instanceMethod yX1_wordMark, Cond.selects RX1 yX1_wordMark yX1_wordMark, Cond.initialized RX1, Cond.code yX1_wordMark cX1_wordMark 3 (some .int), Cond.fieldLink RX1 15 "SureCount$Papers" "wordOf" "[I", Cond.static yX5_markOf, Cond.code yX5_markOf cX5_markOf 2 (some .int), Cond.methodLink RX4 54 yX1_handsMark, Cond.instanceMethod yX1_handsMark, Cond.selects RX1 yX1_handsMark yX1_handsMark, Cond.code yX1_handsMark cX1_handsMark 6 (some .int), Cond.fieldLink RX1 25 "SureCount$Papers" "handsOf" "[I", Cond.methodLink RX1 53 Lib.Math.max.name, Cond.static Lib.Math.max.name, Cond.initialized "java/lang/Math", Cond.code Lib.Math.max.name Lib.Math.max.code 2 (some .int)]
def wsX5_risk_r3 : List Cond := [Cond.methodLink RX1 43 yX1_handMark, Cond.instanceMethod yX1_handMark, Cond.selects RX1 yX1_handMark yX1_handMark, Cond.code yX1_handMark cX1_handMark 4 (some .int), Cond.fieldLink RX1 28 "SureCount$Papers" "handWords" "[I", Cond.methodLink RX1 58 yX1_isReadBy, Cond.instanceMethod yX1_isReadBy, Cond.selects RX1 yX1_isReadBy yX1_isReadBy, Cond.code yX1_isReadBy cX1_isReadBy 3 (some .boolean), Cond.methodLink RX1 47 yJ6_bitCount_0f7a4, Cond.static yJ6_bitCount_0f7a4, Cond.initialized RJ6, Cond.code yJ6_bitCount_0f7a4 cJ6_bitCount_0f7a4 1 (some .int), Cond.constant RJ6 265 (1431655765), Cond.constant RJ6 266 (858993459), Cond.constant RJ6 267 (252645135), Cond.methodLink RX4 61 yX4_isTaken, Cond.static yX4_isTaken, Cond.code yX4_isTaken cX4_isTaken 3 (some .boolean), Cond.methodLink RX4 77 yX4_lead, Cond.static yX4_lead, Cond.code yX4_lead cX4_lead 3 (some .int), Cond.methodLink RX4 35 yX0_settled, Cond.instanceMethod yX0_settled]
def wsX5_risk_r4 : List Cond := [Cond.selects RX0 yX0_settled yX0_settled, Cond.initialized RX0, Cond.code yX0_settled cX0_settled 3 (some .int), Cond.fieldLink RX0 15 "SureCount$Draws" "size" "I", Cond.fieldLink RX0 9 "SureCount$Draws" "paperOf" "[I", Cond.methodLink RX0 27 yX1_isSettled, Cond.instanceMethod yX1_isSettled, Cond.selects RX1 yX1_isSettled yX1_isSettled, Cond.code yX1_isSettled cX1_isSettled 2 (some .boolean), Cond.fieldLink RX1 18 "SureCount$Papers" "isLost" "[Z", Cond.methodLink RX1 35 yX1_isReadByHand, Cond.instanceMethod yX1_isReadByHand, Cond.selects RX1 yX1_isReadByHand yX1_isReadByHand, Cond.code yX1_isReadByHand cX1_isReadByHand 2 (some .boolean), Cond.methodLink RX4 44 yX2_carryOn, Cond.instanceMethod yX2_carryOn, Cond.selects RX2 yX2_carryOn yX2_carryOn, Cond.initialized RX2, Cond.code yX2_carryOn cX2_carryOn 8 (some .int), Cond.constantLong RX2 72 (22), Cond.fieldLink RX2 42 "SureCount$Race" "size" "I", Cond.constantLong RX2 74 (10), Cond.fieldLink RX2 45 "SureCount$Race" "margin" "I", Cond.constant RX2 76 (1000000000)]
def wsX5_risk_r5 : List Cond := [Cond.constantLong RX2 77 (1000000000), Cond.methodLink RX2 79 Lib.MathLoose.min_long.x, Cond.static Lib.MathLoose.min_long.x, Cond.code Lib.MathLoose.min_long.x Lib.MathLoose.min_long.code 4 (some .long)]
def wsX5_risk : List Cond := .code yX5_risk cX5_risk 2 (some .int) :: ((wsX5_risk_r1 ++ (wsX5_risk_r2 ++ (wsX5_risk_r3 ++ (wsX5_risk_r4 ++ wsX5_risk_r5)))) ++ wsX50 ++ wsX40 ++ wsX20 ++ wsX10 ++ wsX00 ++ (sx_atX RX5 70 "java/util/NoSuchElementException" 13 sx_rx13 "java/lang/RuntimeException" ["java/lang/Exception"]).filter goodWord)
def wsX5_taken_r1 : List Cond := [Cond.classLink RX5 66 "java/util/NoSuchElementException", Cond.initialized "java/util/NoSuchElementException", Cond.fieldLink RX5 33 "SureCount" "walk" "LSureCount$Walk;", Cond.fieldLink RX5 11 "SureCount" "races" "[LSureCount$Race;", Cond.fieldLink RX5 19 "SureCount" "papers" "LSureCount$Papers;", Cond.fieldLink RX5 26 "SureCount" "draws" "LSureCount$Draws;", Cond.methodLink RX5 126 yX5_hasRace, Cond.instanceMethod yX5_hasRace, Cond.selects RX5 yX5_hasRace yX5_hasRace, Cond.initialized RX5, Cond.code yX5_hasRace cX5_hasRace 2 (some .boolean), Cond.fieldLink RX5 44 "SureCount" "raceCount" "I", Cond.methodLink RX5 182 yX5_hasRisk, Cond.instanceMethod yX5_hasRisk, Cond.selects RX5 yX5_hasRisk yX5_hasRisk, Cond.code yX5_hasRisk cX5_hasRisk 2 (some .boolean), Cond.fieldLink RX5 51 "SureCount" "isSealed" "Z", Cond.methodLink RX5 185 yX4_follow, Cond.instanceMethod yX4_follow, Cond.selects RX4 yX4_follow yX4_follow, Cond.initialized RX4, Cond.code yX4_follow cX4_follow 8 none, Cond.constant RX4 18 (1000000000), Cond.fieldLink RX4 19 "SureCount$Walk" "riskReached" "I"]
def wsX5_taken_r2 : List Cond := [Cond.fieldLink RX4 23 "SureCount$Walk" "drawsTaken" "I", Cond.fieldLink RX4 9 "SureCount$Walk" "worstGap" "[I", Cond.fieldLink RX4 15 "SureCount$Walk" "worstMargin" "[I", Cond.methodLink RX4 31 yX4_weigh, Cond.instanceMethod yX4_weigh, Cond.selects RX4 yX4_weigh yX4_weigh, Cond.code yX4_weigh cX4_weigh 12 none, Cond.methodLink RX4 50 yX1_wordMark, Cond.instanceMethod yX1_wordMark, Cond.selects RX1 yX1_wordMark yX1_wordMark, Cond.initialized RX1, Cond.code yX1_wordMark cX1_wordMark 3 (some .int), Cond.fieldLink RX1 15 "SureCount$Papers" "wordOf" "[I", Cond.static yX5_markOf, Cond.code yX5_markOf cX5_markOf 2 (some .int), Cond.methodLink RX4 54 yX1_handsMark, Cond.instanceMethod yX1_handsMark, Cond.selects RX1 yX1_handsMark yX1_handsMark, Cond.code yX1_handsMark cX1_handsMark 6 (some .int), Cond.fieldLink RX1 25 "SureCount$Papers" "handsOf" "[I", Cond.methodLink RX1 53 Lib.Math.max.name, Cond.static Lib.Math.max.name, Cond.initialized "java/lang/Math", Cond.code Lib.Math.max.name Lib.Math.max.code 2 (some .int)]
def wsX5_taken_r3 : List Cond := [Cond.methodLink RX1 43 yX1_handMark, Cond.instanceMethod yX1_handMark, Cond.selects RX1 yX1_handMark yX1_handMark, Cond.code yX1_handMark cX1_handMark 4 (some .int), Cond.fieldLink RX1 28 "SureCount$Papers" "handWords" "[I", Cond.methodLink RX1 58 yX1_isReadBy, Cond.instanceMethod yX1_isReadBy, Cond.selects RX1 yX1_isReadBy yX1_isReadBy, Cond.code yX1_isReadBy cX1_isReadBy 3 (some .boolean), Cond.methodLink RX1 47 yJ6_bitCount_0f7a4, Cond.static yJ6_bitCount_0f7a4, Cond.initialized RJ6, Cond.code yJ6_bitCount_0f7a4 cJ6_bitCount_0f7a4 1 (some .int), Cond.constant RJ6 265 (1431655765), Cond.constant RJ6 266 (858993459), Cond.constant RJ6 267 (252645135), Cond.methodLink RX4 61 yX4_isTaken, Cond.static yX4_isTaken, Cond.code yX4_isTaken cX4_isTaken 3 (some .boolean), Cond.methodLink RX4 77 yX4_lead, Cond.static yX4_lead, Cond.code yX4_lead cX4_lead 3 (some .int), Cond.methodLink RX4 35 yX0_settled, Cond.instanceMethod yX0_settled]
def wsX5_taken_r4 : List Cond := [Cond.selects RX0 yX0_settled yX0_settled, Cond.initialized RX0, Cond.code yX0_settled cX0_settled 3 (some .int), Cond.fieldLink RX0 15 "SureCount$Draws" "size" "I", Cond.fieldLink RX0 9 "SureCount$Draws" "paperOf" "[I", Cond.methodLink RX0 27 yX1_isSettled, Cond.instanceMethod yX1_isSettled, Cond.selects RX1 yX1_isSettled yX1_isSettled, Cond.code yX1_isSettled cX1_isSettled 2 (some .boolean), Cond.fieldLink RX1 18 "SureCount$Papers" "isLost" "[Z", Cond.methodLink RX1 35 yX1_isReadByHand, Cond.instanceMethod yX1_isReadByHand, Cond.selects RX1 yX1_isReadByHand yX1_isReadByHand, Cond.code yX1_isReadByHand cX1_isReadByHand 2 (some .boolean), Cond.methodLink RX4 44 yX2_carryOn, Cond.instanceMethod yX2_carryOn, Cond.selects RX2 yX2_carryOn yX2_carryOn, Cond.initialized RX2, Cond.code yX2_carryOn cX2_carryOn 8 (some .int), Cond.constantLong RX2 72 (22), Cond.fieldLink RX2 42 "SureCount$Race" "size" "I", Cond.constantLong RX2 74 (10), Cond.fieldLink RX2 45 "SureCount$Race" "margin" "I", Cond.constant RX2 76 (1000000000)]
def wsX5_taken_r5 : List Cond := [Cond.constantLong RX2 77 (1000000000), Cond.methodLink RX2 79 Lib.MathLoose.min_long.x, Cond.static Lib.MathLoose.min_long.x, Cond.code Lib.MathLoose.min_long.x Lib.MathLoose.min_long.code 4 (some .long)]
def wsX5_taken : List Cond := .code yX5_taken cX5_taken 2 (some .int) :: ((wsX5_taken_r1 ++ (wsX5_taken_r2 ++ (wsX5_taken_r3 ++ (wsX5_taken_r4 ++ wsX5_taken_r5)))) ++ wsX50 ++ wsX40 ++ wsX20 ++ wsX10 ++ wsX00 ++ (sx_atX RX5 70 "java/util/NoSuchElementException" 13 sx_rx13 "java/lang/RuntimeException" ["java/lang/Exception"]).filter goodWord)
def wsX5_taint_r1 : List Cond := [Cond.classLink RX5 66 "java/util/NoSuchElementException", Cond.initialized "java/util/NoSuchElementException", Cond.fieldLink RX5 26 "SureCount" "draws" "LSureCount$Draws;", Cond.fieldLink RX5 19 "SureCount" "papers" "LSureCount$Papers;", Cond.fieldLink RX5 33 "SureCount" "walk" "LSureCount$Walk;", Cond.fieldLink RX5 11 "SureCount" "races" "[LSureCount$Race;", Cond.methodLink RX5 126 yX5_hasRace, Cond.instanceMethod yX5_hasRace, Cond.selects RX5 yX5_hasRace yX5_hasRace, Cond.initialized RX5, Cond.code yX5_hasRace cX5_hasRace 2 (some .boolean), Cond.fieldLink RX5 44 "SureCount" "raceCount" "I", Cond.methodLink RX5 155 yX0_has, Cond.instanceMethod yX0_has, Cond.selects RX0 yX0_has yX0_has, Cond.initialized RX0, Cond.code yX0_has cX0_has 2 (some .boolean), Cond.fieldLink RX0 15 "SureCount$Draws" "size" "I", Cond.methodLink RX5 182 yX5_hasRisk, Cond.instanceMethod yX5_hasRisk, Cond.selects RX5 yX5_hasRisk yX5_hasRisk, Cond.code yX5_hasRisk cX5_hasRisk 2 (some .boolean), Cond.fieldLink RX5 51 "SureCount" "isSealed" "Z", Cond.methodLink RX5 162 yX0_settled]
def wsX5_taint_r2 : List Cond := [Cond.instanceMethod yX0_settled, Cond.selects RX0 yX0_settled yX0_settled, Cond.code yX0_settled cX0_settled 3 (some .int), Cond.fieldLink RX0 9 "SureCount$Draws" "paperOf" "[I", Cond.methodLink RX0 27 yX1_isSettled, Cond.instanceMethod yX1_isSettled, Cond.selects RX1 yX1_isSettled yX1_isSettled, Cond.initialized RX1, Cond.code yX1_isSettled cX1_isSettled 2 (some .boolean), Cond.fieldLink RX1 18 "SureCount$Papers" "isLost" "[Z", Cond.methodLink RX1 35 yX1_isReadByHand, Cond.instanceMethod yX1_isReadByHand, Cond.selects RX1 yX1_isReadByHand yX1_isReadByHand, Cond.code yX1_isReadByHand cX1_isReadByHand 2 (some .boolean), Cond.fieldLink RX1 25 "SureCount$Papers" "handsOf" "[I", Cond.methodLink RX5 195 yX4_weigh, Cond.instanceMethod yX4_weigh, Cond.selects RX4 yX4_weigh yX4_weigh, Cond.initialized RX4, Cond.code yX4_weigh cX4_weigh 12 none, Cond.fieldLink RX4 9 "SureCount$Walk" "worstGap" "[I", Cond.fieldLink RX4 15 "SureCount$Walk" "worstMargin" "[I", Cond.methodLink RX4 50 yX1_wordMark, Cond.instanceMethod yX1_wordMark]
def wsX5_taint_r3 : List Cond := [Cond.selects RX1 yX1_wordMark yX1_wordMark, Cond.code yX1_wordMark cX1_wordMark 3 (some .int), Cond.fieldLink RX1 15 "SureCount$Papers" "wordOf" "[I", Cond.static yX5_markOf, Cond.code yX5_markOf cX5_markOf 2 (some .int), Cond.methodLink RX4 54 yX1_handsMark, Cond.instanceMethod yX1_handsMark, Cond.selects RX1 yX1_handsMark yX1_handsMark, Cond.code yX1_handsMark cX1_handsMark 6 (some .int), Cond.methodLink RX1 53 Lib.Math.max.name, Cond.static Lib.Math.max.name, Cond.initialized "java/lang/Math", Cond.code Lib.Math.max.name Lib.Math.max.code 2 (some .int), Cond.methodLink RX1 43 yX1_handMark, Cond.instanceMethod yX1_handMark, Cond.selects RX1 yX1_handMark yX1_handMark, Cond.code yX1_handMark cX1_handMark 4 (some .int), Cond.fieldLink RX1 28 "SureCount$Papers" "handWords" "[I", Cond.methodLink RX1 58 yX1_isReadBy, Cond.instanceMethod yX1_isReadBy, Cond.selects RX1 yX1_isReadBy yX1_isReadBy, Cond.code yX1_isReadBy cX1_isReadBy 3 (some .boolean), Cond.methodLink RX1 47 yJ6_bitCount_0f7a4, Cond.static yJ6_bitCount_0f7a4]
def wsX5_taint_r4 : List Cond := [Cond.initialized RJ6, Cond.code yJ6_bitCount_0f7a4 cJ6_bitCount_0f7a4 1 (some .int), Cond.constant RJ6 265 (1431655765), Cond.constant RJ6 266 (858993459), Cond.constant RJ6 267 (252645135), Cond.methodLink RX4 61 yX4_isTaken, Cond.static yX4_isTaken, Cond.code yX4_isTaken cX4_isTaken 3 (some .boolean), Cond.methodLink RX4 77 yX4_lead, Cond.static yX4_lead, Cond.code yX4_lead cX4_lead 3 (some .int)]
def wsX5_taint : List Cond := .code yX5_taint cX5_taint 4 (some .int) :: ((wsX5_taint_r1 ++ (wsX5_taint_r2 ++ (wsX5_taint_r3 ++ wsX5_taint_r4))) ++ wsX50 ++ wsX00 ++ wsX40 ++ wsX20 ++ wsX10 ++ (sx_atX RX5 70 "java/util/NoSuchElementException" 13 sx_rx13 "java/lang/RuntimeException" ["java/lang/Exception"]).filter goodWord)
def wsX5_need_r1 : List Cond := [Cond.classLink RX5 66 "java/util/NoSuchElementException", Cond.initialized "java/util/NoSuchElementException", Cond.classLink RX5 143 "java/lang/IllegalArgumentException", Cond.initialized "java/lang/IllegalArgumentException", Cond.constant RX5 202 (1000000000), Cond.fieldLink RX5 33 "SureCount" "walk" "LSureCount$Walk;", Cond.fieldLink RX5 11 "SureCount" "races" "[LSureCount$Race;", Cond.fieldLink RX5 19 "SureCount" "papers" "LSureCount$Papers;", Cond.fieldLink RX5 26 "SureCount" "draws" "LSureCount$Draws;", Cond.methodLink RX5 126 yX5_hasRace, Cond.instanceMethod yX5_hasRace, Cond.selects RX5 yX5_hasRace yX5_hasRace, Cond.initialized RX5, Cond.code yX5_hasRace cX5_hasRace 2 (some .boolean), Cond.fieldLink RX5 44 "SureCount" "raceCount" "I", Cond.methodLink RX5 182 yX5_hasRisk, Cond.instanceMethod yX5_hasRisk, Cond.selects RX5 yX5_hasRisk yX5_hasRisk, Cond.code yX5_hasRisk cX5_hasRisk 2 (some .boolean), Cond.fieldLink RX5 51 "SureCount" "isSealed" "Z", Cond.methodLink RX5 185 yX4_follow, Cond.instanceMethod yX4_follow, Cond.selects RX4 yX4_follow yX4_follow, Cond.initialized RX4]
def wsX5_need_r2 : List Cond := [Cond.code yX4_follow cX4_follow 8 none, Cond.constant RX4 18 (1000000000), Cond.fieldLink RX4 19 "SureCount$Walk" "riskReached" "I", Cond.fieldLink RX4 23 "SureCount$Walk" "drawsTaken" "I", Cond.fieldLink RX4 9 "SureCount$Walk" "worstGap" "[I", Cond.fieldLink RX4 15 "SureCount$Walk" "worstMargin" "[I", Cond.methodLink RX4 31 yX4_weigh, Cond.instanceMethod yX4_weigh, Cond.selects RX4 yX4_weigh yX4_weigh, Cond.code yX4_weigh cX4_weigh 12 none, Cond.methodLink RX4 50 yX1_wordMark, Cond.instanceMethod yX1_wordMark, Cond.selects RX1 yX1_wordMark yX1_wordMark, Cond.initialized RX1, Cond.code yX1_wordMark cX1_wordMark 3 (some .int), Cond.fieldLink RX1 15 "SureCount$Papers" "wordOf" "[I", Cond.static yX5_markOf, Cond.code yX5_markOf cX5_markOf 2 (some .int), Cond.methodLink RX4 54 yX1_handsMark, Cond.instanceMethod yX1_handsMark, Cond.selects RX1 yX1_handsMark yX1_handsMark, Cond.code yX1_handsMark cX1_handsMark 6 (some .int), Cond.fieldLink RX1 25 "SureCount$Papers" "handsOf" "[I", Cond.methodLink RX1 53 Lib.Math.max.name]
def wsX5_need_r3 : List Cond := [Cond.static Lib.Math.max.name, Cond.initialized "java/lang/Math", Cond.code Lib.Math.max.name Lib.Math.max.code 2 (some .int), Cond.methodLink RX1 43 yX1_handMark, Cond.instanceMethod yX1_handMark, Cond.selects RX1 yX1_handMark yX1_handMark, Cond.code yX1_handMark cX1_handMark 4 (some .int), Cond.fieldLink RX1 28 "SureCount$Papers" "handWords" "[I", Cond.methodLink RX1 58 yX1_isReadBy, Cond.instanceMethod yX1_isReadBy, Cond.selects RX1 yX1_isReadBy yX1_isReadBy, Cond.code yX1_isReadBy cX1_isReadBy 3 (some .boolean), Cond.methodLink RX1 47 yJ6_bitCount_0f7a4, Cond.static yJ6_bitCount_0f7a4, Cond.initialized RJ6, Cond.code yJ6_bitCount_0f7a4 cJ6_bitCount_0f7a4 1 (some .int), Cond.constant RJ6 265 (1431655765), Cond.constant RJ6 266 (858993459), Cond.constant RJ6 267 (252645135), Cond.methodLink RX4 61 yX4_isTaken, Cond.static yX4_isTaken, Cond.code yX4_isTaken cX4_isTaken 3 (some .boolean), Cond.methodLink RX4 77 yX4_lead, Cond.static yX4_lead]
def wsX5_need_r4 : List Cond := [Cond.code yX4_lead cX4_lead 3 (some .int), Cond.methodLink RX4 35 yX0_settled, Cond.instanceMethod yX0_settled, Cond.selects RX0 yX0_settled yX0_settled, Cond.initialized RX0, Cond.code yX0_settled cX0_settled 3 (some .int), Cond.fieldLink RX0 15 "SureCount$Draws" "size" "I", Cond.fieldLink RX0 9 "SureCount$Draws" "paperOf" "[I", Cond.methodLink RX0 27 yX1_isSettled, Cond.instanceMethod yX1_isSettled, Cond.selects RX1 yX1_isSettled yX1_isSettled, Cond.code yX1_isSettled cX1_isSettled 2 (some .boolean), Cond.fieldLink RX1 18 "SureCount$Papers" "isLost" "[Z", Cond.methodLink RX1 35 yX1_isReadByHand, Cond.instanceMethod yX1_isReadByHand, Cond.selects RX1 yX1_isReadByHand yX1_isReadByHand, Cond.code yX1_isReadByHand cX1_isReadByHand 2 (some .boolean), Cond.methodLink RX4 44 yX2_carryOn, Cond.instanceMethod yX2_carryOn, Cond.selects RX2 yX2_carryOn yX2_carryOn, Cond.initialized RX2, Cond.code yX2_carryOn cX2_carryOn 8 (some .int), Cond.constantLong RX2 72 (22), Cond.fieldLink RX2 42 "SureCount$Race" "size" "I"]
def wsX5_need_r5 : List Cond := [Cond.constantLong RX2 74 (10), Cond.fieldLink RX2 45 "SureCount$Race" "margin" "I", Cond.constant RX2 76 (1000000000), Cond.constantLong RX2 77 (1000000000), Cond.methodLink RX2 79 Lib.MathLoose.min_long.x, Cond.static Lib.MathLoose.min_long.x, Cond.code Lib.MathLoose.min_long.x Lib.MathLoose.min_long.code 4 (some .long), Cond.methodLink RX5 205 yX2_cleanDrawsUntil, Cond.instanceMethod yX2_cleanDrawsUntil, Cond.selects RX2 yX2_cleanDrawsUntil yX2_cleanDrawsUntil, Cond.code yX2_cleanDrawsUntil cX2_cleanDrawsUntil 6 (some .int), Cond.constant RX2 82 (100000), Cond.methodLink RX2 83 yX2_carryOn]
def wsX5_need : List Cond := .code yX5_need cX5_need 3 (some .int) :: ((wsX5_need_r1 ++ (wsX5_need_r2 ++ (wsX5_need_r3 ++ (wsX5_need_r4 ++ wsX5_need_r5)))) ++ wsX50 ++ wsX40 ++ wsX20 ++ wsX10 ++ wsX00 ++ (sx_atX RX5 70 "java/util/NoSuchElementException" 13 sx_rx13 "java/lang/RuntimeException" ["java/lang/Exception"]).filter goodWord ++ (vx_atS RX5 147 "java/lang/IllegalArgumentException" ["java/lang/RuntimeException", "java/lang/Exception"]).filter goodWord)
def wsX5_count : List Cond := .code yX5_count cX5_count 2 (some .int) :: ([.classLink RX5 66 "java/util/NoSuchElementException", .initialized "java/util/NoSuchElementException", .fieldLink RX5 44 "SureCount" "raceCount" "I", .fieldLink RX5 48 "SureCount" "boxCount" "I", .fieldLink RX5 19 "SureCount" "papers" "LSureCount$Papers;", .fieldLink RX5 26 "SureCount" "draws" "LSureCount$Draws;", .fieldLink RX5 51 "SureCount" "isSealed" "Z", .methodLink RX5 208 yX1_lostOnes, .instanceMethod yX1_lostOnes, .selects RX1 yX1_lostOnes yX1_lostOnes, .initialized RX1, .code yX1_lostOnes cX1_lostOnes 3 (some .int), .fieldLink RX1 31 "SureCount$Papers" "size" "I", .fieldLink RX1 18 "SureCount$Papers" "isLost" "[Z", .methodLink RX5 212 yX1_readOnes, .instanceMethod yX1_readOnes, .selects RX1 yX1_readOnes yX1_readOnes, .code yX1_readOnes cX1_readOnes 3 (some .int), .methodLink RX1 35 yX1_isReadByHand, .instanceMethod yX1_isReadByHand, .selects RX1 yX1_isReadByHand yX1_isReadByHand, .code yX1_isReadByHand cX1_isReadByHand 2 (some .boolean), .fieldLink RX1 25 "SureCount$Papers" "handsOf" "[I"] ++ wsX50 ++ wsX10 ++ wsX00 ++ (sx_atX RX5 70 "java/util/NoSuchElementException" 13 sx_rx13 "java/lang/RuntimeException" ["java/lang/Exception"]).filter goodWord)
def wsX6_init : List Cond := .code yX6_init cX6_init 1 none :: ([.methodLink RX6 1 objectInit, .instanceMethod objectInit, .code objectInit ⟨#[0xb1]⟩ 1 none, .arrayClass .int, .fieldLink RX6 7 "SureCountModel" "candidates" "[I", .fieldLink RX6 13 "SureCountModel" "winners" "[I", .fieldLink RX6 16 "SureCountModel" "boxOf" "[I", .fieldLink RX6 19 "SureCountModel" "word" "[I", .fieldLink RX6 22 "SureCountModel" "drawn" "[I", .arrayClass .boolean, .fieldLink RX6 25 "SureCountModel" "isLost" "[Z", .fieldLink RX6 29 "SureCountModel" "hasRead" "[Z", .fieldLink RX6 32 "SureCountModel" "hand" "[I", .fieldLink RX6 35 "SureCountModel" "votes" "[I", .fieldLink RX6 38 "SureCountModel" "isWinner" "[Z"] ++ wsX60)
def wsX6_thrown : List Cond := .code yX6_thrown cX6_thrown 1 (some .int) :: ([.fieldLink RX6 41 "SureCountModel" "thrown" "I"] ++ wsX60)
def wsX6_right : List Cond := .code yX6_right cX6_right 3 (some .boolean) :: ([.fieldLink RX6 41 "SureCountModel" "thrown" "I"] ++ wsX60)
def wsX6_race : List Cond := .code yX6_race cX6_race 3 (some .int) :: ([.fieldLink RX6 41 "SureCountModel" "thrown" "I", .fieldLink RX6 45 "SureCountModel" "races" "I", .fieldLink RX6 48 "SureCountModel" "papers" "I", .fieldLink RX6 7 "SureCountModel" "candidates" "[I", .fieldLink RX6 13 "SureCountModel" "winners" "[I"] ++ wsX60)
def wsX6_box : List Cond := .code yX6_box cX6_box 1 (some .int) :: ([.fieldLink RX6 41 "SureCountModel" "thrown" "I", .fieldLink RX6 51 "SureCountModel" "boxes" "I", .fieldLink RX6 54 "SureCountModel" "isSealed" "Z"] ++ wsX60)
def wsX6_of : List Cond := .code yX6_of cX6_of 2 (some .int) :: ([])
def wsX6_isWord : List Cond := .code yX6_isWord cX6_isWord 4 (some .boolean) :: ([.fieldLink RX6 45 "SureCountModel" "races" "I", .fieldLink RX6 7 "SureCountModel" "candidates" "[I", .methodLink RX6 58 yX6_of, .static yX6_of, .initialized RX6, .code yX6_of cX6_of 2 (some .int)] ++ wsX60)
def wsX6_paper : List Cond := .code yX6_paper cX6_paper 3 (some .int) :: ([.fieldLink RX6 41 "SureCountModel" "thrown" "I", .fieldLink RX6 51 "SureCountModel" "boxes" "I", .fieldLink RX6 48 "SureCountModel" "papers" "I", .fieldLink RX6 54 "SureCountModel" "isSealed" "Z", .fieldLink RX6 16 "SureCountModel" "boxOf" "[I", .fieldLink RX6 19 "SureCountModel" "word" "[I", .methodLink RX6 62 yX6_right, .instanceMethod yX6_right, .selects RX6 yX6_right yX6_right, .initialized RX6, .code yX6_right cX6_right 3 (some .boolean), .methodLink RX6 66 yX6_isWord, .instanceMethod yX6_isWord, .selects RX6 yX6_isWord yX6_isWord, .code yX6_isWord cX6_isWord 4 (some .boolean), .fieldLink RX6 45 "SureCountModel" "races" "I", .fieldLink RX6 7 "SureCountModel" "candidates" "[I", .methodLink RX6 58 yX6_of, .static yX6_of, .code yX6_of cX6_of 2 (some .int)] ++ wsX60)
def wsX6_isPaper : List Cond := .code yX6_isPaper cX6_isPaper 2 (some .boolean) :: ([.fieldLink RX6 41 "SureCountModel" "thrown" "I", .fieldLink RX6 48 "SureCountModel" "papers" "I", .methodLink RX6 62 yX6_right, .instanceMethod yX6_right, .selects RX6 yX6_right yX6_right, .initialized RX6, .code yX6_right cX6_right 3 (some .boolean)] ++ wsX60)
def wsX6_isRead : List Cond := .code yX6_isRead cX6_isRead 2 (some .boolean) :: ([.fieldLink RX6 29 "SureCountModel" "hasRead" "[Z"] ++ wsX60)
def wsX6_lose : List Cond := .code yX6_lose cX6_lose 4 (some .boolean) :: ([.fieldLink RX6 25 "SureCountModel" "isLost" "[Z", .methodLink RX6 70 yX6_isPaper, .instanceMethod yX6_isPaper, .selects RX6 yX6_isPaper yX6_isPaper, .initialized RX6, .code yX6_isPaper cX6_isPaper 2 (some .boolean), .fieldLink RX6 41 "SureCountModel" "thrown" "I", .fieldLink RX6 48 "SureCountModel" "papers" "I", .methodLink RX6 62 yX6_right, .instanceMethod yX6_right, .selects RX6 yX6_right yX6_right, .code yX6_right cX6_right 3 (some .boolean), .methodLink RX6 73 yX6_isRead, .instanceMethod yX6_isRead, .selects RX6 yX6_isRead yX6_isRead, .code yX6_isRead cX6_isRead 2 (some .boolean), .fieldLink RX6 29 "SureCountModel" "hasRead" "[Z"] ++ wsX60)
def wsX6_seal : List Cond := .code yX6_seal cX6_seal 3 (some .boolean) :: ([.fieldLink RX6 41 "SureCountModel" "thrown" "I", .fieldLink RX6 54 "SureCountModel" "isSealed" "Z", .fieldLink RX6 48 "SureCountModel" "papers" "I", .fieldLink RX6 76 "SureCountModel" "state" "J"] ++ wsX60)
def wsX6_isRace : List Cond := .code yX6_isRace cX6_isRace 2 (some .boolean) :: ([.fieldLink RX6 41 "SureCountModel" "thrown" "I", .fieldLink RX6 45 "SureCountModel" "races" "I", .methodLink RX6 62 yX6_right, .instanceMethod yX6_right, .selects RX6 yX6_right yX6_right, .initialized RX6, .code yX6_right cX6_right 3 (some .boolean)] ++ wsX60)
def wsX6_readingOf : List Cond := .code yX6_readingOf cX6_readingOf 8 (some .int) :: ([.fieldLink RX6 29 "SureCountModel" "hasRead" "[Z", .fieldLink RX6 32 "SureCountModel" "hand" "[I", .methodLink RX6 58 yX6_of, .static yX6_of, .initialized RX6, .code yX6_of cX6_of 2 (some .int)] ++ wsX60)
def wsX6_says : List Cond := .code yX6_says cX6_says 4 (some .int) :: ([.fieldLink RX6 25 "SureCountModel" "isLost" "[Z", .fieldLink RX6 19 "SureCountModel" "word" "[I", .methodLink RX6 73 yX6_isRead, .instanceMethod yX6_isRead, .selects RX6 yX6_isRead yX6_isRead, .initialized RX6, .code yX6_isRead cX6_isRead 2 (some .boolean), .fieldLink RX6 29 "SureCountModel" "hasRead" "[Z", .methodLink RX6 58 yX6_of, .static yX6_of, .code yX6_of cX6_of 2 (some .int), .methodLink RX6 80 yX6_readingOf, .instanceMethod yX6_readingOf, .selects RX6 yX6_readingOf yX6_readingOf, .code yX6_readingOf cX6_readingOf 8 (some .int), .fieldLink RX6 32 "SureCountModel" "hand" "[I"] ++ wsX60)
def wsX6_votesOf : List Cond := .code yX6_votesOf cX6_votesOf 6 (some .int) :: ([.fieldLink RX6 48 "SureCountModel" "papers" "I", .methodLink RX6 83 yX6_says, .instanceMethod yX6_says, .selects RX6 yX6_says yX6_says, .initialized RX6, .code yX6_says cX6_says 4 (some .int), .fieldLink RX6 25 "SureCountModel" "isLost" "[Z", .fieldLink RX6 19 "SureCountModel" "word" "[I", .methodLink RX6 73 yX6_isRead, .instanceMethod yX6_isRead, .selects RX6 yX6_isRead yX6_isRead, .code yX6_isRead cX6_isRead 2 (some .boolean), .fieldLink RX6 29 "SureCountModel" "hasRead" "[Z", .methodLink RX6 58 yX6_of, .static yX6_of, .code yX6_of cX6_of 2 (some .int), .methodLink RX6 80 yX6_readingOf, .instanceMethod yX6_readingOf, .selects RX6 yX6_readingOf yX6_readingOf, .code yX6_readingOf cX6_readingOf 8 (some .int), .fieldLink RX6 32 "SureCountModel" "hand" "[I"] ++ wsX60)
def wsX6_winsBy_r1 : List Cond := [Cond.fieldLink RX6 7 "SureCountModel" "candidates" "[I", Cond.fieldLink RX6 13 "SureCountModel" "winners" "[I", Cond.methodLink RX6 87 yX6_votesOf, Cond.instanceMethod yX6_votesOf, Cond.selects RX6 yX6_votesOf yX6_votesOf, Cond.initialized RX6, Cond.code yX6_votesOf cX6_votesOf 6 (some .int), Cond.fieldLink RX6 48 "SureCountModel" "papers" "I", Cond.methodLink RX6 83 yX6_says, Cond.instanceMethod yX6_says, Cond.selects RX6 yX6_says yX6_says, Cond.code yX6_says cX6_says 4 (some .int), Cond.fieldLink RX6 25 "SureCountModel" "isLost" "[Z", Cond.fieldLink RX6 19 "SureCountModel" "word" "[I", Cond.methodLink RX6 73 yX6_isRead, Cond.instanceMethod yX6_isRead, Cond.selects RX6 yX6_isRead yX6_isRead, Cond.code yX6_isRead cX6_isRead 2 (some .boolean), Cond.fieldLink RX6 29 "SureCountModel" "hasRead" "[Z", Cond.methodLink RX6 58 yX6_of, Cond.static yX6_of, Cond.code yX6_of cX6_of 2 (some .int), Cond.methodLink RX6 80 yX6_readingOf, Cond.instanceMethod yX6_readingOf]
def wsX6_winsBy_r2 : List Cond := [Cond.selects RX6 yX6_readingOf yX6_readingOf, Cond.code yX6_readingOf cX6_readingOf 8 (some .int), Cond.fieldLink RX6 32 "SureCountModel" "hand" "[I"]
def wsX6_winsBy : List Cond := .code yX6_winsBy cX6_winsBy 8 (some .boolean) :: ((wsX6_winsBy_r1 ++ wsX6_winsBy_r2) ++ wsX60)
def wsX6_isAsked : List Cond := .code yX6_isAsked cX6_isAsked 4 (some .boolean) :: ([.fieldLink RX6 7 "SureCountModel" "candidates" "[I", .methodLink RX6 90 yX6_isRace, .instanceMethod yX6_isRace, .selects RX6 yX6_isRace yX6_isRace, .initialized RX6, .code yX6_isRace cX6_isRace 2 (some .boolean), .fieldLink RX6 41 "SureCountModel" "thrown" "I", .fieldLink RX6 45 "SureCountModel" "races" "I", .methodLink RX6 62 yX6_right, .instanceMethod yX6_right, .selects RX6 yX6_right yX6_right, .code yX6_right cX6_right 3 (some .boolean)] ++ wsX60)
def wsX6_votes_r1 : List Cond := [Cond.methodLink RX6 93 yX6_isAsked, Cond.instanceMethod yX6_isAsked, Cond.selects RX6 yX6_isAsked yX6_isAsked, Cond.initialized RX6, Cond.code yX6_isAsked cX6_isAsked 4 (some .boolean), Cond.fieldLink RX6 7 "SureCountModel" "candidates" "[I", Cond.methodLink RX6 90 yX6_isRace, Cond.instanceMethod yX6_isRace, Cond.selects RX6 yX6_isRace yX6_isRace, Cond.code yX6_isRace cX6_isRace 2 (some .boolean), Cond.fieldLink RX6 41 "SureCountModel" "thrown" "I", Cond.fieldLink RX6 45 "SureCountModel" "races" "I", Cond.methodLink RX6 62 yX6_right, Cond.instanceMethod yX6_right, Cond.selects RX6 yX6_right yX6_right, Cond.code yX6_right cX6_right 3 (some .boolean), Cond.methodLink RX6 87 yX6_votesOf, Cond.instanceMethod yX6_votesOf, Cond.selects RX6 yX6_votesOf yX6_votesOf, Cond.code yX6_votesOf cX6_votesOf 6 (some .int), Cond.fieldLink RX6 48 "SureCountModel" "papers" "I", Cond.methodLink RX6 83 yX6_says, Cond.instanceMethod yX6_says, Cond.selects RX6 yX6_says yX6_says]
def wsX6_votes_r2 : List Cond := [Cond.code yX6_says cX6_says 4 (some .int), Cond.fieldLink RX6 25 "SureCountModel" "isLost" "[Z", Cond.fieldLink RX6 19 "SureCountModel" "word" "[I", Cond.methodLink RX6 73 yX6_isRead, Cond.instanceMethod yX6_isRead, Cond.selects RX6 yX6_isRead yX6_isRead, Cond.code yX6_isRead cX6_isRead 2 (some .boolean), Cond.fieldLink RX6 29 "SureCountModel" "hasRead" "[Z", Cond.methodLink RX6 58 yX6_of, Cond.static yX6_of, Cond.code yX6_of cX6_of 2 (some .int), Cond.methodLink RX6 80 yX6_readingOf, Cond.instanceMethod yX6_readingOf, Cond.selects RX6 yX6_readingOf yX6_readingOf, Cond.code yX6_readingOf cX6_readingOf 8 (some .int), Cond.fieldLink RX6 32 "SureCountModel" "hand" "[I"]
def wsX6_votes : List Cond := .code yX6_votes cX6_votes 4 (some .int) :: ((wsX6_votes_r1 ++ wsX6_votes_r2) ++ wsX60)
def wsX6_wins_r1 : List Cond := [Cond.methodLink RX6 93 yX6_isAsked, Cond.instanceMethod yX6_isAsked, Cond.selects RX6 yX6_isAsked yX6_isAsked, Cond.initialized RX6, Cond.code yX6_isAsked cX6_isAsked 4 (some .boolean), Cond.fieldLink RX6 7 "SureCountModel" "candidates" "[I", Cond.methodLink RX6 90 yX6_isRace, Cond.instanceMethod yX6_isRace, Cond.selects RX6 yX6_isRace yX6_isRace, Cond.code yX6_isRace cX6_isRace 2 (some .boolean), Cond.fieldLink RX6 41 "SureCountModel" "thrown" "I", Cond.fieldLink RX6 45 "SureCountModel" "races" "I", Cond.methodLink RX6 62 yX6_right, Cond.instanceMethod yX6_right, Cond.selects RX6 yX6_right yX6_right, Cond.code yX6_right cX6_right 3 (some .boolean), Cond.methodLink RX6 97 yX6_winsBy, Cond.instanceMethod yX6_winsBy, Cond.selects RX6 yX6_winsBy yX6_winsBy, Cond.code yX6_winsBy cX6_winsBy 8 (some .boolean), Cond.fieldLink RX6 13 "SureCountModel" "winners" "[I", Cond.methodLink RX6 87 yX6_votesOf, Cond.instanceMethod yX6_votesOf, Cond.selects RX6 yX6_votesOf yX6_votesOf]
def wsX6_wins_r2 : List Cond := [Cond.code yX6_votesOf cX6_votesOf 6 (some .int), Cond.fieldLink RX6 48 "SureCountModel" "papers" "I", Cond.methodLink RX6 83 yX6_says, Cond.instanceMethod yX6_says, Cond.selects RX6 yX6_says yX6_says, Cond.code yX6_says cX6_says 4 (some .int), Cond.fieldLink RX6 25 "SureCountModel" "isLost" "[Z", Cond.fieldLink RX6 19 "SureCountModel" "word" "[I", Cond.methodLink RX6 73 yX6_isRead, Cond.instanceMethod yX6_isRead, Cond.selects RX6 yX6_isRead yX6_isRead, Cond.code yX6_isRead cX6_isRead 2 (some .boolean), Cond.fieldLink RX6 29 "SureCountModel" "hasRead" "[Z", Cond.methodLink RX6 58 yX6_of, Cond.static yX6_of, Cond.code yX6_of cX6_of 2 (some .int), Cond.methodLink RX6 80 yX6_readingOf, Cond.instanceMethod yX6_readingOf, Cond.selects RX6 yX6_readingOf yX6_readingOf, Cond.code yX6_readingOf cX6_readingOf 8 (some .int), Cond.fieldLink RX6 32 "SureCountModel" "hand" "[I"]
def wsX6_wins : List Cond := .code yX6_wins cX6_wins 4 (some .boolean) :: ((wsX6_wins_r1 ++ wsX6_wins_r2) ++ wsX60)
def wsX6_knows_r1 : List Cond := [Cond.fieldLink RX6 48 "SureCountModel" "papers" "I", Cond.fieldLink RX6 100 "SureCountModel" "having" "I", Cond.fieldLink RX6 7 "SureCountModel" "candidates" "[I", Cond.fieldLink RX6 35 "SureCountModel" "votes" "[I", Cond.fieldLink RX6 38 "SureCountModel" "isWinner" "[Z", Cond.constant RX6 103 (1000000000), Cond.fieldLink RX6 104 "SureCountModel" "margin" "I", Cond.methodLink RX6 87 yX6_votesOf, Cond.instanceMethod yX6_votesOf, Cond.selects RX6 yX6_votesOf yX6_votesOf, Cond.initialized RX6, Cond.code yX6_votesOf cX6_votesOf 6 (some .int), Cond.methodLink RX6 83 yX6_says, Cond.instanceMethod yX6_says, Cond.selects RX6 yX6_says yX6_says, Cond.code yX6_says cX6_says 4 (some .int), Cond.fieldLink RX6 25 "SureCountModel" "isLost" "[Z", Cond.fieldLink RX6 19 "SureCountModel" "word" "[I", Cond.methodLink RX6 73 yX6_isRead, Cond.instanceMethod yX6_isRead, Cond.selects RX6 yX6_isRead yX6_isRead, Cond.code yX6_isRead cX6_isRead 2 (some .boolean), Cond.fieldLink RX6 29 "SureCountModel" "hasRead" "[Z", Cond.methodLink RX6 58 yX6_of]
def wsX6_knows_r2 : List Cond := [Cond.static yX6_of, Cond.code yX6_of cX6_of 2 (some .int), Cond.methodLink RX6 80 yX6_readingOf, Cond.instanceMethod yX6_readingOf, Cond.selects RX6 yX6_readingOf yX6_readingOf, Cond.code yX6_readingOf cX6_readingOf 8 (some .int), Cond.fieldLink RX6 32 "SureCountModel" "hand" "[I", Cond.methodLink RX6 97 yX6_winsBy, Cond.instanceMethod yX6_winsBy, Cond.selects RX6 yX6_winsBy yX6_winsBy, Cond.code yX6_winsBy cX6_winsBy 8 (some .boolean), Cond.fieldLink RX6 13 "SureCountModel" "winners" "[I"]
def wsX6_knows : List Cond := .code yX6_knows cX6_knows 4 none :: ((wsX6_knows_r1 ++ wsX6_knows_r2) ++ wsX60)
def wsX6_about_r1 : List Cond := [Cond.fieldLink RX6 100 "SureCountModel" "having" "I", Cond.fieldLink RX6 104 "SureCountModel" "margin" "I", Cond.fieldLink RX6 7 "SureCountModel" "candidates" "[I", Cond.fieldLink RX6 13 "SureCountModel" "winners" "[I", Cond.methodLink RX6 90 yX6_isRace, Cond.instanceMethod yX6_isRace, Cond.selects RX6 yX6_isRace yX6_isRace, Cond.initialized RX6, Cond.code yX6_isRace cX6_isRace 2 (some .boolean), Cond.fieldLink RX6 41 "SureCountModel" "thrown" "I", Cond.fieldLink RX6 45 "SureCountModel" "races" "I", Cond.methodLink RX6 62 yX6_right, Cond.instanceMethod yX6_right, Cond.selects RX6 yX6_right yX6_right, Cond.code yX6_right cX6_right 3 (some .boolean), Cond.methodLink RX6 107 yX6_knows, Cond.instanceMethod yX6_knows, Cond.selects RX6 yX6_knows yX6_knows, Cond.code yX6_knows cX6_knows 4 none, Cond.fieldLink RX6 48 "SureCountModel" "papers" "I", Cond.fieldLink RX6 35 "SureCountModel" "votes" "[I", Cond.fieldLink RX6 38 "SureCountModel" "isWinner" "[Z", Cond.constant RX6 103 (1000000000), Cond.methodLink RX6 87 yX6_votesOf]
def wsX6_about_r2 : List Cond := [Cond.instanceMethod yX6_votesOf, Cond.selects RX6 yX6_votesOf yX6_votesOf, Cond.code yX6_votesOf cX6_votesOf 6 (some .int), Cond.methodLink RX6 83 yX6_says, Cond.instanceMethod yX6_says, Cond.selects RX6 yX6_says yX6_says, Cond.code yX6_says cX6_says 4 (some .int), Cond.fieldLink RX6 25 "SureCountModel" "isLost" "[Z", Cond.fieldLink RX6 19 "SureCountModel" "word" "[I", Cond.methodLink RX6 73 yX6_isRead, Cond.instanceMethod yX6_isRead, Cond.selects RX6 yX6_isRead yX6_isRead, Cond.code yX6_isRead cX6_isRead 2 (some .boolean), Cond.fieldLink RX6 29 "SureCountModel" "hasRead" "[Z", Cond.methodLink RX6 58 yX6_of, Cond.static yX6_of, Cond.code yX6_of cX6_of 2 (some .int), Cond.methodLink RX6 80 yX6_readingOf, Cond.instanceMethod yX6_readingOf, Cond.selects RX6 yX6_readingOf yX6_readingOf, Cond.code yX6_readingOf cX6_readingOf 8 (some .int), Cond.fieldLink RX6 32 "SureCountModel" "hand" "[I", Cond.methodLink RX6 97 yX6_winsBy, Cond.instanceMethod yX6_winsBy]
def wsX6_about_r3 : List Cond := [Cond.selects RX6 yX6_winsBy yX6_winsBy, Cond.code yX6_winsBy cX6_winsBy 8 (some .boolean)]
def wsX6_about : List Cond := .code yX6_about cX6_about 3 (some .int) :: ((wsX6_about_r1 ++ (wsX6_about_r2 ++ wsX6_about_r3)) ++ wsX60)
def wsX6_draw : List Cond := .code yX6_draw cX6_draw 3 (some .int) :: ([.fieldLink RX6 41 "SureCountModel" "thrown" "I", .fieldLink RX6 54 "SureCountModel" "isSealed" "Z", .fieldLink RX6 111 "SureCountModel" "draws" "I", .fieldLink RX6 76 "SureCountModel" "state" "J", .constantLong RX6 114 (6364136223846793005), .constantLong RX6 116 (1442695040888963407), .fieldLink RX6 22 "SureCountModel" "drawn" "[I", .fieldLink RX6 48 "SureCountModel" "papers" "I", .methodLink RX6 62 yX6_right, .instanceMethod yX6_right, .selects RX6 yX6_right yX6_right, .initialized RX6, .code yX6_right cX6_right 3 (some .boolean)] ++ wsX60)
def wsX6_drawn : List Cond := .code yX6_drawn cX6_drawn 2 (some .int) :: ([.fieldLink RX6 41 "SureCountModel" "thrown" "I", .fieldLink RX6 111 "SureCountModel" "draws" "I", .fieldLink RX6 22 "SureCountModel" "drawn" "[I", .methodLink RX6 62 yX6_right, .instanceMethod yX6_right, .selects RX6 yX6_right yX6_right, .initialized RX6, .code yX6_right cX6_right 3 (some .boolean)] ++ wsX60)
def wsX6_isKnown : List Cond := .code yX6_isKnown cX6_isKnown 2 (some .boolean) :: ([.fieldLink RX6 25 "SureCountModel" "isLost" "[Z", .methodLink RX6 73 yX6_isRead, .instanceMethod yX6_isRead, .selects RX6 yX6_isRead yX6_isRead, .initialized RX6, .code yX6_isRead cX6_isRead 2 (some .boolean), .fieldLink RX6 29 "SureCountModel" "hasRead" "[Z"] ++ wsX60)
def wsX6_waits : List Cond := .code yX6_waits cX6_waits 2 (some .int) :: ([.fieldLink RX6 41 "SureCountModel" "thrown" "I", .fieldLink RX6 111 "SureCountModel" "draws" "I", .fieldLink RX6 22 "SureCountModel" "drawn" "[I", .methodLink RX6 118 yX6_isKnown, .instanceMethod yX6_isKnown, .selects RX6 yX6_isKnown yX6_isKnown, .initialized RX6, .code yX6_isKnown cX6_isKnown 2 (some .boolean), .fieldLink RX6 25 "SureCountModel" "isLost" "[Z", .methodLink RX6 73 yX6_isRead, .instanceMethod yX6_isRead, .selects RX6 yX6_isRead yX6_isRead, .code yX6_isRead cX6_isRead 2 (some .boolean), .fieldLink RX6 29 "SureCountModel" "hasRead" "[Z"] ++ wsX60)
def wsX6_isDrawn : List Cond := .code yX6_isDrawn cX6_isDrawn 3 (some .boolean) :: ([.fieldLink RX6 111 "SureCountModel" "draws" "I", .fieldLink RX6 22 "SureCountModel" "drawn" "[I"] ++ wsX60)
def wsX6_pulled : List Cond := .code yX6_pulled cX6_pulled 4 (some .int) :: ([.fieldLink RX6 41 "SureCountModel" "thrown" "I", .fieldLink RX6 51 "SureCountModel" "boxes" "I", .fieldLink RX6 48 "SureCountModel" "papers" "I", .fieldLink RX6 16 "SureCountModel" "boxOf" "[I", .methodLink RX6 62 yX6_right, .instanceMethod yX6_right, .selects RX6 yX6_right yX6_right, .initialized RX6, .code yX6_right cX6_right 3 (some .boolean), .methodLink RX6 121 yX6_isDrawn, .instanceMethod yX6_isDrawn, .selects RX6 yX6_isDrawn yX6_isDrawn, .code yX6_isDrawn cX6_isDrawn 3 (some .boolean), .fieldLink RX6 111 "SureCountModel" "draws" "I", .fieldLink RX6 22 "SureCountModel" "drawn" "[I"] ++ wsX60)
def wsX6_read : List Cond := .code yX6_read cX6_read 4 (some .boolean) :: ([.fieldLink RX6 54 "SureCountModel" "isSealed" "Z", .fieldLink RX6 25 "SureCountModel" "isLost" "[Z", .fieldLink RX6 29 "SureCountModel" "hasRead" "[Z", .fieldLink RX6 32 "SureCountModel" "hand" "[I", .methodLink RX6 70 yX6_isPaper, .instanceMethod yX6_isPaper, .selects RX6 yX6_isPaper yX6_isPaper, .initialized RX6, .code yX6_isPaper cX6_isPaper 2 (some .boolean), .fieldLink RX6 41 "SureCountModel" "thrown" "I", .fieldLink RX6 48 "SureCountModel" "papers" "I", .methodLink RX6 62 yX6_right, .instanceMethod yX6_right, .selects RX6 yX6_right yX6_right, .code yX6_right cX6_right 3 (some .boolean), .methodLink RX6 66 yX6_isWord, .instanceMethod yX6_isWord, .selects RX6 yX6_isWord yX6_isWord, .code yX6_isWord cX6_isWord 4 (some .boolean), .fieldLink RX6 45 "SureCountModel" "races" "I", .fieldLink RX6 7 "SureCountModel" "candidates" "[I", .methodLink RX6 58 yX6_of, .static yX6_of, .code yX6_of cX6_of 2 (some .int)] ++ wsX60)
def wsX6_reading_r1 : List Cond := [Cond.fieldLink RX6 45 "SureCountModel" "races" "I", Cond.methodLink RX6 70 yX6_isPaper, Cond.instanceMethod yX6_isPaper, Cond.selects RX6 yX6_isPaper yX6_isPaper, Cond.initialized RX6, Cond.code yX6_isPaper cX6_isPaper 2 (some .boolean), Cond.fieldLink RX6 41 "SureCountModel" "thrown" "I", Cond.fieldLink RX6 48 "SureCountModel" "papers" "I", Cond.methodLink RX6 62 yX6_right, Cond.instanceMethod yX6_right, Cond.selects RX6 yX6_right yX6_right, Cond.code yX6_right cX6_right 3 (some .boolean), Cond.methodLink RX6 73 yX6_isRead, Cond.instanceMethod yX6_isRead, Cond.selects RX6 yX6_isRead yX6_isRead, Cond.code yX6_isRead cX6_isRead 2 (some .boolean), Cond.fieldLink RX6 29 "SureCountModel" "hasRead" "[Z", Cond.methodLink RX6 80 yX6_readingOf, Cond.instanceMethod yX6_readingOf, Cond.selects RX6 yX6_readingOf yX6_readingOf, Cond.code yX6_readingOf cX6_readingOf 8 (some .int), Cond.fieldLink RX6 32 "SureCountModel" "hand" "[I", Cond.methodLink RX6 58 yX6_of, Cond.static yX6_of]
def wsX6_reading_r2 : List Cond := [Cond.code yX6_of cX6_of 2 (some .int)]
def wsX6_reading : List Cond := .code yX6_reading cX6_reading 3 (some .int) :: ((wsX6_reading_r1 ++ wsX6_reading_r2) ++ wsX60)
def wsX6_gives : List Cond := .code yX6_gives cX6_gives 3 (some .int) :: ([])
def wsX6_isTaken : List Cond := .code yX6_isTaken cX6_isTaken 3 (some .boolean) :: ([.fieldLink RX6 19 "SureCountModel" "word" "[I", .fieldLink RX6 25 "SureCountModel" "isLost" "[Z", .methodLink RX6 58 yX6_of, .static yX6_of, .initialized RX6, .code yX6_of cX6_of 2 (some .int), .methodLink RX6 80 yX6_readingOf, .instanceMethod yX6_readingOf, .selects RX6 yX6_readingOf yX6_readingOf, .code yX6_readingOf cX6_readingOf 8 (some .int), .fieldLink RX6 29 "SureCountModel" "hasRead" "[Z", .fieldLink RX6 32 "SureCountModel" "hand" "[I"] ++ wsX60)
def wsX6_taints : List Cond := .code yX6_taints cX6_taints 7 none :: ([.fieldLink RX6 124 "SureCountModel" "m" "I", .fieldLink RX6 7 "SureCountModel" "candidates" "[I", .fieldLink RX6 38 "SureCountModel" "isWinner" "[Z", .fieldLink RX6 19 "SureCountModel" "word" "[I", .fieldLink RX6 25 "SureCountModel" "isLost" "[Z", .fieldLink RX6 35 "SureCountModel" "votes" "[I", .fieldLink RX6 130 "SureCountModel" "x" "I", .methodLink RX6 58 yX6_of, .static yX6_of, .initialized RX6, .code yX6_of cX6_of 2 (some .int), .methodLink RX6 127 yX6_gives, .static yX6_gives, .code yX6_gives cX6_gives 3 (some .int), .methodLink RX6 80 yX6_readingOf, .instanceMethod yX6_readingOf, .selects RX6 yX6_readingOf yX6_readingOf, .code yX6_readingOf cX6_readingOf 8 (some .int), .fieldLink RX6 29 "SureCountModel" "hasRead" "[Z", .fieldLink RX6 32 "SureCountModel" "hand" "[I"] ++ wsX60)
def wsX6_divides : List Cond := .code yX6_divides cX6_divides 5 (some .long) :: ([])
def wsX6_riskOf_r1 : List Cond := [Cond.fieldLink RX6 133 "SureCountModel" "took" "I", Cond.fieldLink RX6 54 "SureCountModel" "isSealed" "Z", Cond.fieldLink RX6 104 "SureCountModel" "margin" "I", Cond.constantLong RX6 136 (1000000000), Cond.fieldLink RX6 111 "SureCountModel" "draws" "I", Cond.fieldLink RX6 22 "SureCountModel" "drawn" "[I", Cond.constantLong RX6 146 (22), Cond.fieldLink RX6 100 "SureCountModel" "having" "I", Cond.constantLong RX6 148 (10), Cond.fieldLink RX6 124 "SureCountModel" "m" "I", Cond.fieldLink RX6 130 "SureCountModel" "x" "I", Cond.methodLink RX6 107 yX6_knows, Cond.instanceMethod yX6_knows, Cond.selects RX6 yX6_knows yX6_knows, Cond.initialized RX6, Cond.code yX6_knows cX6_knows 4 none, Cond.fieldLink RX6 48 "SureCountModel" "papers" "I", Cond.fieldLink RX6 7 "SureCountModel" "candidates" "[I", Cond.fieldLink RX6 35 "SureCountModel" "votes" "[I", Cond.fieldLink RX6 38 "SureCountModel" "isWinner" "[Z", Cond.constant RX6 103 (1000000000), Cond.methodLink RX6 87 yX6_votesOf, Cond.instanceMethod yX6_votesOf, Cond.selects RX6 yX6_votesOf yX6_votesOf]
def wsX6_riskOf_r2 : List Cond := [Cond.code yX6_votesOf cX6_votesOf 6 (some .int), Cond.methodLink RX6 83 yX6_says, Cond.instanceMethod yX6_says, Cond.selects RX6 yX6_says yX6_says, Cond.code yX6_says cX6_says 4 (some .int), Cond.fieldLink RX6 25 "SureCountModel" "isLost" "[Z", Cond.fieldLink RX6 19 "SureCountModel" "word" "[I", Cond.methodLink RX6 73 yX6_isRead, Cond.instanceMethod yX6_isRead, Cond.selects RX6 yX6_isRead yX6_isRead, Cond.code yX6_isRead cX6_isRead 2 (some .boolean), Cond.fieldLink RX6 29 "SureCountModel" "hasRead" "[Z", Cond.methodLink RX6 58 yX6_of, Cond.static yX6_of, Cond.code yX6_of cX6_of 2 (some .int), Cond.methodLink RX6 80 yX6_readingOf, Cond.instanceMethod yX6_readingOf, Cond.selects RX6 yX6_readingOf yX6_readingOf, Cond.code yX6_readingOf cX6_readingOf 8 (some .int), Cond.fieldLink RX6 32 "SureCountModel" "hand" "[I", Cond.methodLink RX6 97 yX6_winsBy, Cond.instanceMethod yX6_winsBy, Cond.selects RX6 yX6_winsBy yX6_winsBy, Cond.code yX6_winsBy cX6_winsBy 8 (some .boolean)]
def wsX6_riskOf_r3 : List Cond := [Cond.fieldLink RX6 13 "SureCountModel" "winners" "[I", Cond.methodLink RX6 118 yX6_isKnown, Cond.instanceMethod yX6_isKnown, Cond.selects RX6 yX6_isKnown yX6_isKnown, Cond.code yX6_isKnown cX6_isKnown 2 (some .boolean), Cond.methodLink RX6 138 yX6_isTaken, Cond.instanceMethod yX6_isTaken, Cond.selects RX6 yX6_isTaken yX6_isTaken, Cond.code yX6_isTaken cX6_isTaken 3 (some .boolean), Cond.methodLink RX6 142 yX6_taints, Cond.instanceMethod yX6_taints, Cond.selects RX6 yX6_taints yX6_taints, Cond.code yX6_taints cX6_taints 7 none, Cond.methodLink RX6 127 yX6_gives, Cond.static yX6_gives, Cond.code yX6_gives cX6_gives 3 (some .int), Cond.methodLink RX6 150 yX6_divides, Cond.instanceMethod yX6_divides, Cond.selects RX6 yX6_divides yX6_divides, Cond.code yX6_divides cX6_divides 5 (some .long)]
def wsX6_riskOf : List Cond := .code yX6_riskOf cX6_riskOf 7 (some .int) :: ((wsX6_riskOf_r1 ++ (wsX6_riskOf_r2 ++ wsX6_riskOf_r3)) ++ wsX60)
def wsX6_risk_r1 : List Cond := [Cond.methodLink RX6 90 yX6_isRace, Cond.instanceMethod yX6_isRace, Cond.selects RX6 yX6_isRace yX6_isRace, Cond.initialized RX6, Cond.code yX6_isRace cX6_isRace 2 (some .boolean), Cond.fieldLink RX6 41 "SureCountModel" "thrown" "I", Cond.fieldLink RX6 45 "SureCountModel" "races" "I", Cond.methodLink RX6 62 yX6_right, Cond.instanceMethod yX6_right, Cond.selects RX6 yX6_right yX6_right, Cond.code yX6_right cX6_right 3 (some .boolean), Cond.methodLink RX6 154 yX6_riskOf, Cond.instanceMethod yX6_riskOf, Cond.selects RX6 yX6_riskOf yX6_riskOf, Cond.code yX6_riskOf cX6_riskOf 7 (some .int), Cond.fieldLink RX6 133 "SureCountModel" "took" "I", Cond.fieldLink RX6 54 "SureCountModel" "isSealed" "Z", Cond.fieldLink RX6 104 "SureCountModel" "margin" "I", Cond.constantLong RX6 136 (1000000000), Cond.fieldLink RX6 111 "SureCountModel" "draws" "I", Cond.fieldLink RX6 22 "SureCountModel" "drawn" "[I", Cond.constantLong RX6 146 (22), Cond.fieldLink RX6 100 "SureCountModel" "having" "I", Cond.constantLong RX6 148 (10)]
def wsX6_risk_r2 : List Cond := [Cond.fieldLink RX6 124 "SureCountModel" "m" "I", Cond.fieldLink RX6 130 "SureCountModel" "x" "I", Cond.methodLink RX6 107 yX6_knows, Cond.instanceMethod yX6_knows, Cond.selects RX6 yX6_knows yX6_knows, Cond.code yX6_knows cX6_knows 4 none, Cond.fieldLink RX6 48 "SureCountModel" "papers" "I", Cond.fieldLink RX6 7 "SureCountModel" "candidates" "[I", Cond.fieldLink RX6 35 "SureCountModel" "votes" "[I", Cond.fieldLink RX6 38 "SureCountModel" "isWinner" "[Z", Cond.constant RX6 103 (1000000000), Cond.methodLink RX6 87 yX6_votesOf, Cond.instanceMethod yX6_votesOf, Cond.selects RX6 yX6_votesOf yX6_votesOf, Cond.code yX6_votesOf cX6_votesOf 6 (some .int), Cond.methodLink RX6 83 yX6_says, Cond.instanceMethod yX6_says, Cond.selects RX6 yX6_says yX6_says, Cond.code yX6_says cX6_says 4 (some .int), Cond.fieldLink RX6 25 "SureCountModel" "isLost" "[Z", Cond.fieldLink RX6 19 "SureCountModel" "word" "[I", Cond.methodLink RX6 73 yX6_isRead, Cond.instanceMethod yX6_isRead, Cond.selects RX6 yX6_isRead yX6_isRead]
def wsX6_risk_r3 : List Cond := [Cond.code yX6_isRead cX6_isRead 2 (some .boolean), Cond.fieldLink RX6 29 "SureCountModel" "hasRead" "[Z", Cond.methodLink RX6 58 yX6_of, Cond.static yX6_of, Cond.code yX6_of cX6_of 2 (some .int), Cond.methodLink RX6 80 yX6_readingOf, Cond.instanceMethod yX6_readingOf, Cond.selects RX6 yX6_readingOf yX6_readingOf, Cond.code yX6_readingOf cX6_readingOf 8 (some .int), Cond.fieldLink RX6 32 "SureCountModel" "hand" "[I", Cond.methodLink RX6 97 yX6_winsBy, Cond.instanceMethod yX6_winsBy, Cond.selects RX6 yX6_winsBy yX6_winsBy, Cond.code yX6_winsBy cX6_winsBy 8 (some .boolean), Cond.fieldLink RX6 13 "SureCountModel" "winners" "[I", Cond.methodLink RX6 118 yX6_isKnown, Cond.instanceMethod yX6_isKnown, Cond.selects RX6 yX6_isKnown yX6_isKnown, Cond.code yX6_isKnown cX6_isKnown 2 (some .boolean), Cond.methodLink RX6 138 yX6_isTaken, Cond.instanceMethod yX6_isTaken, Cond.selects RX6 yX6_isTaken yX6_isTaken, Cond.code yX6_isTaken cX6_isTaken 3 (some .boolean), Cond.methodLink RX6 142 yX6_taints]
def wsX6_risk_r4 : List Cond := [Cond.instanceMethod yX6_taints, Cond.selects RX6 yX6_taints yX6_taints, Cond.code yX6_taints cX6_taints 7 none, Cond.methodLink RX6 127 yX6_gives, Cond.static yX6_gives, Cond.code yX6_gives cX6_gives 3 (some .int), Cond.methodLink RX6 150 yX6_divides, Cond.instanceMethod yX6_divides, Cond.selects RX6 yX6_divides yX6_divides, Cond.code yX6_divides cX6_divides 5 (some .long)]
def wsX6_risk : List Cond := .code yX6_risk cX6_risk 2 (some .int) :: ((wsX6_risk_r1 ++ (wsX6_risk_r2 ++ (wsX6_risk_r3 ++ wsX6_risk_r4))) ++ wsX60)
def wsX6_taken_r1 : List Cond := [Cond.fieldLink RX6 133 "SureCountModel" "took" "I", Cond.methodLink RX6 90 yX6_isRace, Cond.instanceMethod yX6_isRace, Cond.selects RX6 yX6_isRace yX6_isRace, Cond.initialized RX6, Cond.code yX6_isRace cX6_isRace 2 (some .boolean), Cond.fieldLink RX6 41 "SureCountModel" "thrown" "I", Cond.fieldLink RX6 45 "SureCountModel" "races" "I", Cond.methodLink RX6 62 yX6_right, Cond.instanceMethod yX6_right, Cond.selects RX6 yX6_right yX6_right, Cond.code yX6_right cX6_right 3 (some .boolean), Cond.methodLink RX6 154 yX6_riskOf, Cond.instanceMethod yX6_riskOf, Cond.selects RX6 yX6_riskOf yX6_riskOf, Cond.code yX6_riskOf cX6_riskOf 7 (some .int), Cond.fieldLink RX6 54 "SureCountModel" "isSealed" "Z", Cond.fieldLink RX6 104 "SureCountModel" "margin" "I", Cond.constantLong RX6 136 (1000000000), Cond.fieldLink RX6 111 "SureCountModel" "draws" "I", Cond.fieldLink RX6 22 "SureCountModel" "drawn" "[I", Cond.constantLong RX6 146 (22), Cond.fieldLink RX6 100 "SureCountModel" "having" "I", Cond.constantLong RX6 148 (10)]
def wsX6_taken_r2 : List Cond := [Cond.fieldLink RX6 124 "SureCountModel" "m" "I", Cond.fieldLink RX6 130 "SureCountModel" "x" "I", Cond.methodLink RX6 107 yX6_knows, Cond.instanceMethod yX6_knows, Cond.selects RX6 yX6_knows yX6_knows, Cond.code yX6_knows cX6_knows 4 none, Cond.fieldLink RX6 48 "SureCountModel" "papers" "I", Cond.fieldLink RX6 7 "SureCountModel" "candidates" "[I", Cond.fieldLink RX6 35 "SureCountModel" "votes" "[I", Cond.fieldLink RX6 38 "SureCountModel" "isWinner" "[Z", Cond.constant RX6 103 (1000000000), Cond.methodLink RX6 87 yX6_votesOf, Cond.instanceMethod yX6_votesOf, Cond.selects RX6 yX6_votesOf yX6_votesOf, Cond.code yX6_votesOf cX6_votesOf 6 (some .int), Cond.methodLink RX6 83 yX6_says, Cond.instanceMethod yX6_says, Cond.selects RX6 yX6_says yX6_says, Cond.code yX6_says cX6_says 4 (some .int), Cond.fieldLink RX6 25 "SureCountModel" "isLost" "[Z", Cond.fieldLink RX6 19 "SureCountModel" "word" "[I", Cond.methodLink RX6 73 yX6_isRead, Cond.instanceMethod yX6_isRead, Cond.selects RX6 yX6_isRead yX6_isRead]
def wsX6_taken_r3 : List Cond := [Cond.code yX6_isRead cX6_isRead 2 (some .boolean), Cond.fieldLink RX6 29 "SureCountModel" "hasRead" "[Z", Cond.methodLink RX6 58 yX6_of, Cond.static yX6_of, Cond.code yX6_of cX6_of 2 (some .int), Cond.methodLink RX6 80 yX6_readingOf, Cond.instanceMethod yX6_readingOf, Cond.selects RX6 yX6_readingOf yX6_readingOf, Cond.code yX6_readingOf cX6_readingOf 8 (some .int), Cond.fieldLink RX6 32 "SureCountModel" "hand" "[I", Cond.methodLink RX6 97 yX6_winsBy, Cond.instanceMethod yX6_winsBy, Cond.selects RX6 yX6_winsBy yX6_winsBy, Cond.code yX6_winsBy cX6_winsBy 8 (some .boolean), Cond.fieldLink RX6 13 "SureCountModel" "winners" "[I", Cond.methodLink RX6 118 yX6_isKnown, Cond.instanceMethod yX6_isKnown, Cond.selects RX6 yX6_isKnown yX6_isKnown, Cond.code yX6_isKnown cX6_isKnown 2 (some .boolean), Cond.methodLink RX6 138 yX6_isTaken, Cond.instanceMethod yX6_isTaken, Cond.selects RX6 yX6_isTaken yX6_isTaken, Cond.code yX6_isTaken cX6_isTaken 3 (some .boolean), Cond.methodLink RX6 142 yX6_taints]
def wsX6_taken_r4 : List Cond := [Cond.instanceMethod yX6_taints, Cond.selects RX6 yX6_taints yX6_taints, Cond.code yX6_taints cX6_taints 7 none, Cond.methodLink RX6 127 yX6_gives, Cond.static yX6_gives, Cond.code yX6_gives cX6_gives 3 (some .int), Cond.methodLink RX6 150 yX6_divides, Cond.instanceMethod yX6_divides, Cond.selects RX6 yX6_divides yX6_divides, Cond.code yX6_divides cX6_divides 5 (some .long)]
def wsX6_taken : List Cond := .code yX6_taken cX6_taken 2 (some .int) :: ((wsX6_taken_r1 ++ (wsX6_taken_r2 ++ (wsX6_taken_r3 ++ wsX6_taken_r4))) ++ wsX60)
def wsX6_taint_r1 : List Cond := [Cond.fieldLink RX6 111 "SureCountModel" "draws" "I", Cond.fieldLink RX6 22 "SureCountModel" "drawn" "[I", Cond.fieldLink RX6 130 "SureCountModel" "x" "I", Cond.methodLink RX6 90 yX6_isRace, Cond.instanceMethod yX6_isRace, Cond.selects RX6 yX6_isRace yX6_isRace, Cond.initialized RX6, Cond.code yX6_isRace cX6_isRace 2 (some .boolean), Cond.fieldLink RX6 41 "SureCountModel" "thrown" "I", Cond.fieldLink RX6 45 "SureCountModel" "races" "I", Cond.methodLink RX6 62 yX6_right, Cond.instanceMethod yX6_right, Cond.selects RX6 yX6_right yX6_right, Cond.code yX6_right cX6_right 3 (some .boolean), Cond.methodLink RX6 154 yX6_riskOf, Cond.instanceMethod yX6_riskOf, Cond.selects RX6 yX6_riskOf yX6_riskOf, Cond.code yX6_riskOf cX6_riskOf 7 (some .int), Cond.fieldLink RX6 133 "SureCountModel" "took" "I", Cond.fieldLink RX6 54 "SureCountModel" "isSealed" "Z", Cond.fieldLink RX6 104 "SureCountModel" "margin" "I", Cond.constantLong RX6 136 (1000000000), Cond.constantLong RX6 146 (22), Cond.fieldLink RX6 100 "SureCountModel" "having" "I"]
def wsX6_taint_r2 : List Cond := [Cond.constantLong RX6 148 (10), Cond.fieldLink RX6 124 "SureCountModel" "m" "I", Cond.methodLink RX6 107 yX6_knows, Cond.instanceMethod yX6_knows, Cond.selects RX6 yX6_knows yX6_knows, Cond.code yX6_knows cX6_knows 4 none, Cond.fieldLink RX6 48 "SureCountModel" "papers" "I", Cond.fieldLink RX6 7 "SureCountModel" "candidates" "[I", Cond.fieldLink RX6 35 "SureCountModel" "votes" "[I", Cond.fieldLink RX6 38 "SureCountModel" "isWinner" "[Z", Cond.constant RX6 103 (1000000000), Cond.methodLink RX6 87 yX6_votesOf, Cond.instanceMethod yX6_votesOf, Cond.selects RX6 yX6_votesOf yX6_votesOf, Cond.code yX6_votesOf cX6_votesOf 6 (some .int), Cond.methodLink RX6 83 yX6_says, Cond.instanceMethod yX6_says, Cond.selects RX6 yX6_says yX6_says, Cond.code yX6_says cX6_says 4 (some .int), Cond.fieldLink RX6 25 "SureCountModel" "isLost" "[Z", Cond.fieldLink RX6 19 "SureCountModel" "word" "[I", Cond.methodLink RX6 73 yX6_isRead, Cond.instanceMethod yX6_isRead, Cond.selects RX6 yX6_isRead yX6_isRead]
def wsX6_taint_r3 : List Cond := [Cond.code yX6_isRead cX6_isRead 2 (some .boolean), Cond.fieldLink RX6 29 "SureCountModel" "hasRead" "[Z", Cond.methodLink RX6 58 yX6_of, Cond.static yX6_of, Cond.code yX6_of cX6_of 2 (some .int), Cond.methodLink RX6 80 yX6_readingOf, Cond.instanceMethod yX6_readingOf, Cond.selects RX6 yX6_readingOf yX6_readingOf, Cond.code yX6_readingOf cX6_readingOf 8 (some .int), Cond.fieldLink RX6 32 "SureCountModel" "hand" "[I", Cond.methodLink RX6 97 yX6_winsBy, Cond.instanceMethod yX6_winsBy, Cond.selects RX6 yX6_winsBy yX6_winsBy, Cond.code yX6_winsBy cX6_winsBy 8 (some .boolean), Cond.fieldLink RX6 13 "SureCountModel" "winners" "[I", Cond.methodLink RX6 118 yX6_isKnown, Cond.instanceMethod yX6_isKnown, Cond.selects RX6 yX6_isKnown yX6_isKnown, Cond.code yX6_isKnown cX6_isKnown 2 (some .boolean), Cond.methodLink RX6 138 yX6_isTaken, Cond.instanceMethod yX6_isTaken, Cond.selects RX6 yX6_isTaken yX6_isTaken, Cond.code yX6_isTaken cX6_isTaken 3 (some .boolean), Cond.methodLink RX6 142 yX6_taints]
def wsX6_taint_r4 : List Cond := [Cond.instanceMethod yX6_taints, Cond.selects RX6 yX6_taints yX6_taints, Cond.code yX6_taints cX6_taints 7 none, Cond.methodLink RX6 127 yX6_gives, Cond.static yX6_gives, Cond.code yX6_gives cX6_gives 3 (some .int), Cond.methodLink RX6 150 yX6_divides, Cond.instanceMethod yX6_divides, Cond.selects RX6 yX6_divides yX6_divides, Cond.code yX6_divides cX6_divides 5 (some .long)]
def wsX6_taint : List Cond := .code yX6_taint cX6_taint 5 (some .int) :: ((wsX6_taint_r1 ++ (wsX6_taint_r2 ++ (wsX6_taint_r3 ++ wsX6_taint_r4))) ++ wsX60)
def wsX6_need_r1 : List Cond := [Cond.constant RX6 103 (1000000000), Cond.constantLong RX6 158 (-1), Cond.constant RX6 160 (100000), Cond.constantLong RX6 146 (22), Cond.fieldLink RX6 100 "SureCountModel" "having" "I", Cond.constantLong RX6 148 (10), Cond.fieldLink RX6 104 "SureCountModel" "margin" "I", Cond.methodLink RX6 90 yX6_isRace, Cond.instanceMethod yX6_isRace, Cond.selects RX6 yX6_isRace yX6_isRace, Cond.initialized RX6, Cond.code yX6_isRace cX6_isRace 2 (some .boolean), Cond.fieldLink RX6 41 "SureCountModel" "thrown" "I", Cond.fieldLink RX6 45 "SureCountModel" "races" "I", Cond.methodLink RX6 62 yX6_right, Cond.instanceMethod yX6_right, Cond.selects RX6 yX6_right yX6_right, Cond.code yX6_right cX6_right 3 (some .boolean), Cond.methodLink RX6 154 yX6_riskOf, Cond.instanceMethod yX6_riskOf, Cond.selects RX6 yX6_riskOf yX6_riskOf, Cond.code yX6_riskOf cX6_riskOf 7 (some .int), Cond.fieldLink RX6 133 "SureCountModel" "took" "I", Cond.fieldLink RX6 54 "SureCountModel" "isSealed" "Z"]
def wsX6_need_r2 : List Cond := [Cond.constantLong RX6 136 (1000000000), Cond.fieldLink RX6 111 "SureCountModel" "draws" "I", Cond.fieldLink RX6 22 "SureCountModel" "drawn" "[I", Cond.fieldLink RX6 124 "SureCountModel" "m" "I", Cond.fieldLink RX6 130 "SureCountModel" "x" "I", Cond.methodLink RX6 107 yX6_knows, Cond.instanceMethod yX6_knows, Cond.selects RX6 yX6_knows yX6_knows, Cond.code yX6_knows cX6_knows 4 none, Cond.fieldLink RX6 48 "SureCountModel" "papers" "I", Cond.fieldLink RX6 7 "SureCountModel" "candidates" "[I", Cond.fieldLink RX6 35 "SureCountModel" "votes" "[I", Cond.fieldLink RX6 38 "SureCountModel" "isWinner" "[Z", Cond.methodLink RX6 87 yX6_votesOf, Cond.instanceMethod yX6_votesOf, Cond.selects RX6 yX6_votesOf yX6_votesOf, Cond.code yX6_votesOf cX6_votesOf 6 (some .int), Cond.methodLink RX6 83 yX6_says, Cond.instanceMethod yX6_says, Cond.selects RX6 yX6_says yX6_says, Cond.code yX6_says cX6_says 4 (some .int), Cond.fieldLink RX6 25 "SureCountModel" "isLost" "[Z", Cond.fieldLink RX6 19 "SureCountModel" "word" "[I", Cond.methodLink RX6 73 yX6_isRead]
def wsX6_need_r3 : List Cond := [Cond.instanceMethod yX6_isRead, Cond.selects RX6 yX6_isRead yX6_isRead, Cond.code yX6_isRead cX6_isRead 2 (some .boolean), Cond.fieldLink RX6 29 "SureCountModel" "hasRead" "[Z", Cond.methodLink RX6 58 yX6_of, Cond.static yX6_of, Cond.code yX6_of cX6_of 2 (some .int), Cond.methodLink RX6 80 yX6_readingOf, Cond.instanceMethod yX6_readingOf, Cond.selects RX6 yX6_readingOf yX6_readingOf, Cond.code yX6_readingOf cX6_readingOf 8 (some .int), Cond.fieldLink RX6 32 "SureCountModel" "hand" "[I", Cond.methodLink RX6 97 yX6_winsBy, Cond.instanceMethod yX6_winsBy, Cond.selects RX6 yX6_winsBy yX6_winsBy, Cond.code yX6_winsBy cX6_winsBy 8 (some .boolean), Cond.fieldLink RX6 13 "SureCountModel" "winners" "[I", Cond.methodLink RX6 118 yX6_isKnown, Cond.instanceMethod yX6_isKnown, Cond.selects RX6 yX6_isKnown yX6_isKnown, Cond.code yX6_isKnown cX6_isKnown 2 (some .boolean), Cond.methodLink RX6 138 yX6_isTaken, Cond.instanceMethod yX6_isTaken, Cond.selects RX6 yX6_isTaken yX6_isTaken]
def wsX6_need_r4 : List Cond := [Cond.code yX6_isTaken cX6_isTaken 3 (some .boolean), Cond.methodLink RX6 142 yX6_taints, Cond.instanceMethod yX6_taints, Cond.selects RX6 yX6_taints yX6_taints, Cond.code yX6_taints cX6_taints 7 none, Cond.methodLink RX6 127 yX6_gives, Cond.static yX6_gives, Cond.code yX6_gives cX6_gives 3 (some .int), Cond.methodLink RX6 150 yX6_divides, Cond.instanceMethod yX6_divides, Cond.selects RX6 yX6_divides yX6_divides, Cond.code yX6_divides cX6_divides 5 (some .long)]
def wsX6_need : List Cond := .code yX6_need cX6_need 6 (some .int) :: ((wsX6_need_r1 ++ (wsX6_need_r2 ++ (wsX6_need_r3 ++ wsX6_need_r4))) ++ wsX60)
def wsX6_count : List Cond := .code yX6_count cX6_count 4 (some .int) :: ([.fieldLink RX6 41 "SureCountModel" "thrown" "I", .fieldLink RX6 45 "SureCountModel" "races" "I", .fieldLink RX6 51 "SureCountModel" "boxes" "I", .fieldLink RX6 48 "SureCountModel" "papers" "I", .fieldLink RX6 25 "SureCountModel" "isLost" "[Z", .fieldLink RX6 111 "SureCountModel" "draws" "I", .fieldLink RX6 54 "SureCountModel" "isSealed" "Z", .methodLink RX6 62 yX6_right, .instanceMethod yX6_right, .selects RX6 yX6_right yX6_right, .initialized RX6, .code yX6_right cX6_right 3 (some .boolean), .methodLink RX6 73 yX6_isRead, .instanceMethod yX6_isRead, .selects RX6 yX6_isRead yX6_isRead, .code yX6_isRead cX6_isRead 2 (some .boolean), .fieldLink RX6 29 "SureCountModel" "hasRead" "[Z"] ++ wsX60)
def wsJ9_max_7cf53 : List Cond := .code yJ9_max_7cf53 cJ9_max_7cf53 2 (some .int) :: ([])
def wsJ9_min_7cf53 : List Cond := .code yJ9_min_7cf53 cJ9_min_7cf53 2 (some .int) :: ([])
def wsJ9_min_f86c9 : List Cond := .code yJ9_min_f86c9 cJ9_min_f86c9 4 (some .long) :: ([])
def wsL_paper_r1 : List Cond := [Cond.classLink RL 13 "java/util/NoSuchElementException", Cond.methodLink RL 7 yX5_paper, Cond.instanceMethod yX5_paper, Cond.selects RX5 yX5_paper yX5_paper, Cond.initialized RX5, Cond.code yX5_paper cX5_paper 4 (some .int), Cond.classLink RX5 66 "java/util/NoSuchElementException", Cond.initialized "java/util/NoSuchElementException", Cond.fieldLink RX5 19 "SureCount" "papers" "LSureCount$Papers;", Cond.fieldLink RX5 51 "SureCount" "isSealed" "Z", Cond.fieldLink RX5 44 "SureCount" "raceCount" "I", Cond.fieldLink RX5 11 "SureCount" "races" "[LSureCount$Race;", Cond.methodLink RX5 62 yX5_hasBox, Cond.instanceMethod yX5_hasBox, Cond.selects RX5 yX5_hasBox yX5_hasBox, Cond.code yX5_hasBox cX5_hasBox 2 (some .boolean), Cond.fieldLink RX5 48 "SureCount" "boxCount" "I", Cond.methodLink RX5 73 yX5_isPossible, Cond.instanceMethod yX5_isPossible, Cond.selects RX5 yX5_isPossible yX5_isPossible, Cond.code yX5_isPossible cX5_isPossible 3 (some .boolean), Cond.methodLink RX5 76 yX5_markOf, Cond.static yX5_markOf, Cond.code yX5_markOf cX5_markOf 2 (some .int)]
def wsL_paper_r2 : List Cond := [Cond.methodLink RX5 220 yX2_allows, Cond.instanceMethod yX2_allows, Cond.selects RX2 yX2_allows yX2_allows, Cond.initialized RX2, Cond.code yX2_allows cX2_allows 2 (some .boolean), Cond.fieldLink RX2 36 "SureCount$Race" "candidates" "I", Cond.methodLink RX5 80 yX2_addWord, Cond.instanceMethod yX2_addWord, Cond.selects RX2 yX2_addWord yX2_addWord, Cond.code yX2_addWord cX2_addWord 2 none, Cond.fieldLink RX2 12 "SureCount$Race" "wordTally" "LSureCount$Tally;", Cond.fieldLink RX2 42 "SureCount$Race" "size" "I", Cond.methodLink RX2 51 yX3_add, Cond.instanceMethod yX3_add, Cond.selects RX3 yX3_add yX3_add, Cond.initialized RX3, Cond.code yX3_add cX3_add 2 none, Cond.fieldLink RX3 9 "SureCount$Tally" "papersOf" "[I", Cond.methodLink RX2 48 yX2_pairUp, Cond.instanceMethod yX2_pairUp, Cond.selects RX2 yX2_pairUp yX2_pairUp, Cond.code yX2_pairUp cX2_pairUp 2 none, Cond.fieldLink RX2 18 "SureCount$Race" "winsByWord" "[Z", Cond.fieldLink RX2 32 "SureCount$Race" "pairs" "I"]
def wsL_paper_r3 : List Cond := [Cond.fieldLink RX2 29 "SureCount$Race" "pairMargin" "[I", Cond.fieldLink RX2 45 "SureCount$Race" "margin" "I", Cond.methodLink RX2 66 Lib.Math.min.name, Cond.static Lib.Math.min.name, Cond.initialized "java/lang/Math", Cond.code Lib.Math.min.name Lib.Math.min.code 2 (some .int), Cond.methodLink RX2 59 yX2_isWinner, Cond.instanceMethod yX2_isWinner, Cond.selects RX2 yX2_isWinner yX2_isWinner, Cond.code yX2_isWinner cX2_isWinner 7 (some .boolean), Cond.fieldLink RX2 39 "SureCount$Race" "seats" "I", Cond.methodLink RX2 55 yX3_papersWith, Cond.instanceMethod yX3_papersWith, Cond.selects RX3 yX3_papersWith yX3_papersWith, Cond.code yX3_papersWith cX3_papersWith 2 (some .int), Cond.methodLink RX2 63 yX2_pairWithLosers, Cond.instanceMethod yX2_pairWithLosers, Cond.selects RX2 yX2_pairWithLosers yX2_pairWithLosers, Cond.code yX2_pairWithLosers cX2_pairWithLosers 3 none, Cond.fieldLink RX2 22 "SureCount$Race" "pairWinner" "[I", Cond.fieldLink RX2 26 "SureCount$Race" "pairLoser" "[I", Cond.methodLink RX5 84 yX1_add, Cond.instanceMethod yX1_add, Cond.selects RX1 yX1_add yX1_add]
def wsL_paper_r4 : List Cond := [Cond.initialized RX1, Cond.code yX1_add cX1_add 3 (some .int), Cond.fieldLink RX1 9 "SureCount$Papers" "boxOf" "[I", Cond.fieldLink RX1 31 "SureCount$Papers" "size" "I", Cond.fieldLink RX1 15 "SureCount$Papers" "wordOf" "[I"]
def wsL_paper : List Cond := .codeWith yL_paper cL_paper 5 (some .int) [(0, 10, 13, 13)] :: ((wsL_paper_r1 ++ (wsL_paper_r2 ++ (wsL_paper_r3 ++ wsL_paper_r4))) ++ wsX50 ++ wsX10 ++ wsX20 ++ wsX30 ++ (sx_atX RX5 70 "java/util/NoSuchElementException" 13 sx_rx13 "java/lang/RuntimeException" ["java/lang/Exception"]).filter goodWord)
def wsL_lose : List Cond := .codeWith yL_lose cL_lose 5 (some .int) [(0, 17, 20, 13), (0, 17, 24, 19)] :: ([.classLink RL 13 "java/util/NoSuchElementException", .classLink RL 19 "java/lang/IllegalStateException", .methodLink RL 15 yX5_lose, .instanceMethod yX5_lose, .selects RX5 yX5_lose yX5_lose, .initialized RX5, .code yX5_lose cX5_lose 4 (some .boolean), .classLink RX5 66 "java/util/NoSuchElementException", .initialized "java/util/NoSuchElementException", .classLink RX5 95 "java/lang/IllegalStateException", .initialized "java/lang/IllegalStateException", .fieldLink RX5 19 "SureCount" "papers" "LSureCount$Papers;", .methodLink RX5 87 yX1_has, .instanceMethod yX1_has, .selects RX1 yX1_has yX1_has, .initialized RX1, .code yX1_has cX1_has 2 (some .boolean), .fieldLink RX1 31 "SureCount$Papers" "size" "I", .methodLink RX5 92 yX1_isReadByHand, .instanceMethod yX1_isReadByHand, .selects RX1 yX1_isReadByHand yX1_isReadByHand, .code yX1_isReadByHand cX1_isReadByHand 2 (some .boolean), .fieldLink RX1 25 "SureCount$Papers" "handsOf" "[I"] ++ wsX50 ++ wsX10 ++ (sx_atX RX5 70 "java/util/NoSuchElementException" 13 sx_rx13 "java/lang/RuntimeException" ["java/lang/Exception"]).filter goodWord ++ (vx_atS RX5 99 "java/lang/IllegalStateException" ["java/lang/RuntimeException", "java/lang/Exception"]).filter goodWord)
def wsL_votes_r1 : List Cond := [Cond.classLink RL 13 "java/util/NoSuchElementException", Cond.methodLink RL 21 yX5_votes, Cond.instanceMethod yX5_votes, Cond.selects RX5 yX5_votes yX5_votes, Cond.initialized RX5, Cond.code yX5_votes cX5_votes 4 (some .int), Cond.classLink RX5 66 "java/util/NoSuchElementException", Cond.initialized "java/util/NoSuchElementException", Cond.methodLink RX5 108 yX5_canTally, Cond.instanceMethod yX5_canTally, Cond.selects RX5 yX5_canTally yX5_canTally, Cond.code yX5_canTally cX5_canTally 4 (some .boolean), Cond.fieldLink RX5 11 "SureCount" "races" "[LSureCount$Race;", Cond.methodLink RX5 126 yX5_hasRace, Cond.instanceMethod yX5_hasRace, Cond.selects RX5 yX5_hasRace yX5_hasRace, Cond.code yX5_hasRace cX5_hasRace 2 (some .boolean), Cond.fieldLink RX5 44 "SureCount" "raceCount" "I", Cond.methodLink RX5 217 yX2_hasCandidate, Cond.instanceMethod yX2_hasCandidate, Cond.selects RX2 yX2_hasCandidate yX2_hasCandidate, Cond.initialized RX2, Cond.code yX2_hasCandidate cX2_hasCandidate 2 (some .boolean), Cond.fieldLink RX2 36 "SureCount$Race" "candidates" "I"]
def wsL_votes_r2 : List Cond := [Cond.methodLink RX5 114 yX5_tallyOf, Cond.instanceMethod yX5_tallyOf, Cond.selects RX5 yX5_tallyOf yX5_tallyOf, Cond.code yX5_tallyOf cX5_tallyOf 4 (some (.object "SureCount$Tally")), Cond.fieldLink RX5 40 "SureCount" "handTally" "LSureCount$Tally;", Cond.fieldLink RX5 19 "SureCount" "papers" "LSureCount$Papers;", Cond.methodLink RX5 226 yX3_clear, Cond.instanceMethod yX3_clear, Cond.selects RX3 yX3_clear yX3_clear, Cond.initialized RX3, Cond.code yX3_clear cX3_clear 1 none, Cond.fieldLink RX3 9 "SureCount$Tally" "papersOf" "[I", Cond.methodLink RX3 15 yJ7_fill_53178, Cond.static yJ7_fill_53178, Cond.initialized RJ7, Cond.code yJ7_fill_53178 cJ7_fill_53178 4 none, Cond.methodLink RX5 229 yX1_wholeMark, Cond.instanceMethod yX1_wholeMark, Cond.selects RX1 yX1_wholeMark yX1_wholeMark, Cond.initialized RX1, Cond.code yX1_wholeMark cX1_wholeMark 3 (some .int), Cond.methodLink RX1 35 yX1_isReadByHand, Cond.instanceMethod yX1_isReadByHand, Cond.selects RX1 yX1_isReadByHand yX1_isReadByHand]
def wsL_votes_r3 : List Cond := [Cond.code yX1_isReadByHand cX1_isReadByHand 2 (some .boolean), Cond.fieldLink RX1 25 "SureCount$Papers" "handsOf" "[I", Cond.methodLink RX1 62 yX1_handsMark, Cond.instanceMethod yX1_handsMark, Cond.selects RX1 yX1_handsMark yX1_handsMark, Cond.code yX1_handsMark cX1_handsMark 6 (some .int), Cond.methodLink RX1 53 Lib.Math.max.name, Cond.static Lib.Math.max.name, Cond.initialized "java/lang/Math", Cond.code Lib.Math.max.name Lib.Math.max.code 2 (some .int), Cond.methodLink RX1 43 yX1_handMark, Cond.instanceMethod yX1_handMark, Cond.selects RX1 yX1_handMark yX1_handMark, Cond.code yX1_handMark cX1_handMark 4 (some .int), Cond.fieldLink RX1 28 "SureCount$Papers" "handWords" "[I", Cond.methodLink RX1 58 yX1_isReadBy, Cond.instanceMethod yX1_isReadBy, Cond.selects RX1 yX1_isReadBy yX1_isReadBy, Cond.code yX1_isReadBy cX1_isReadBy 3 (some .boolean), Cond.static yX5_markOf, Cond.code yX5_markOf cX5_markOf 2 (some .int), Cond.methodLink RX1 47 yJ6_bitCount_0f7a4, Cond.static yJ6_bitCount_0f7a4, Cond.initialized RJ6]
def wsL_votes_r4 : List Cond := [Cond.code yJ6_bitCount_0f7a4 cJ6_bitCount_0f7a4 1 (some .int), Cond.constant RJ6 265 (1431655765), Cond.constant RJ6 266 (858993459), Cond.constant RJ6 267 (252645135), Cond.methodLink RX1 65 yX1_wordMark, Cond.instanceMethod yX1_wordMark, Cond.selects RX1 yX1_wordMark yX1_wordMark, Cond.code yX1_wordMark cX1_wordMark 3 (some .int), Cond.fieldLink RX1 15 "SureCount$Papers" "wordOf" "[I", Cond.methodLink RX5 232 yX3_add, Cond.instanceMethod yX3_add, Cond.selects RX3 yX3_add yX3_add, Cond.code yX3_add cX3_add 2 none, Cond.methodLink RX5 118 yX3_papersWith, Cond.instanceMethod yX3_papersWith, Cond.selects RX3 yX3_papersWith yX3_papersWith, Cond.code yX3_papersWith cX3_papersWith 2 (some .int)]
def wsL_votes : List Cond := .codeWith yL_votes cL_votes 6 (some .int) [(0, 12, 15, 13)] :: ((wsL_votes_r1 ++ (wsL_votes_r2 ++ (wsL_votes_r3 ++ wsL_votes_r4))) ++ wsX50 ++ wsX20 ++ wsX10 ++ wsX30 ++ (sx_atX RX5 70 "java/util/NoSuchElementException" 13 sx_rx13 "java/lang/RuntimeException" ["java/lang/Exception"]).filter goodWord)
def wsL_wins_r1 : List Cond := [Cond.classLink RL 13 "java/util/NoSuchElementException", Cond.methodLink RL 25 yX5_wins, Cond.instanceMethod yX5_wins, Cond.selects RX5 yX5_wins yX5_wins, Cond.initialized RX5, Cond.code yX5_wins cX5_wins 4 (some .boolean), Cond.classLink RX5 66 "java/util/NoSuchElementException", Cond.initialized "java/util/NoSuchElementException", Cond.fieldLink RX5 11 "SureCount" "races" "[LSureCount$Race;", Cond.methodLink RX5 108 yX5_canTally, Cond.instanceMethod yX5_canTally, Cond.selects RX5 yX5_canTally yX5_canTally, Cond.code yX5_canTally cX5_canTally 4 (some .boolean), Cond.methodLink RX5 126 yX5_hasRace, Cond.instanceMethod yX5_hasRace, Cond.selects RX5 yX5_hasRace yX5_hasRace, Cond.code yX5_hasRace cX5_hasRace 2 (some .boolean), Cond.fieldLink RX5 44 "SureCount" "raceCount" "I", Cond.methodLink RX5 217 yX2_hasCandidate, Cond.instanceMethod yX2_hasCandidate, Cond.selects RX2 yX2_hasCandidate yX2_hasCandidate, Cond.initialized RX2, Cond.code yX2_hasCandidate cX2_hasCandidate 2 (some .boolean), Cond.fieldLink RX2 36 "SureCount$Race" "candidates" "I"]
def wsL_wins_r2 : List Cond := [Cond.methodLink RX5 114 yX5_tallyOf, Cond.instanceMethod yX5_tallyOf, Cond.selects RX5 yX5_tallyOf yX5_tallyOf, Cond.code yX5_tallyOf cX5_tallyOf 4 (some (.object "SureCount$Tally")), Cond.fieldLink RX5 40 "SureCount" "handTally" "LSureCount$Tally;", Cond.fieldLink RX5 19 "SureCount" "papers" "LSureCount$Papers;", Cond.methodLink RX5 226 yX3_clear, Cond.instanceMethod yX3_clear, Cond.selects RX3 yX3_clear yX3_clear, Cond.initialized RX3, Cond.code yX3_clear cX3_clear 1 none, Cond.fieldLink RX3 9 "SureCount$Tally" "papersOf" "[I", Cond.methodLink RX3 15 yJ7_fill_53178, Cond.static yJ7_fill_53178, Cond.initialized RJ7, Cond.code yJ7_fill_53178 cJ7_fill_53178 4 none, Cond.methodLink RX5 229 yX1_wholeMark, Cond.instanceMethod yX1_wholeMark, Cond.selects RX1 yX1_wholeMark yX1_wholeMark, Cond.initialized RX1, Cond.code yX1_wholeMark cX1_wholeMark 3 (some .int), Cond.methodLink RX1 35 yX1_isReadByHand, Cond.instanceMethod yX1_isReadByHand, Cond.selects RX1 yX1_isReadByHand yX1_isReadByHand]
def wsL_wins_r3 : List Cond := [Cond.code yX1_isReadByHand cX1_isReadByHand 2 (some .boolean), Cond.fieldLink RX1 25 "SureCount$Papers" "handsOf" "[I", Cond.methodLink RX1 62 yX1_handsMark, Cond.instanceMethod yX1_handsMark, Cond.selects RX1 yX1_handsMark yX1_handsMark, Cond.code yX1_handsMark cX1_handsMark 6 (some .int), Cond.methodLink RX1 53 Lib.Math.max.name, Cond.static Lib.Math.max.name, Cond.initialized "java/lang/Math", Cond.code Lib.Math.max.name Lib.Math.max.code 2 (some .int), Cond.methodLink RX1 43 yX1_handMark, Cond.instanceMethod yX1_handMark, Cond.selects RX1 yX1_handMark yX1_handMark, Cond.code yX1_handMark cX1_handMark 4 (some .int), Cond.fieldLink RX1 28 "SureCount$Papers" "handWords" "[I", Cond.methodLink RX1 58 yX1_isReadBy, Cond.instanceMethod yX1_isReadBy, Cond.selects RX1 yX1_isReadBy yX1_isReadBy, Cond.code yX1_isReadBy cX1_isReadBy 3 (some .boolean), Cond.static yX5_markOf, Cond.code yX5_markOf cX5_markOf 2 (some .int), Cond.methodLink RX1 47 yJ6_bitCount_0f7a4, Cond.static yJ6_bitCount_0f7a4, Cond.initialized RJ6]
def wsL_wins_r4 : List Cond := [Cond.code yJ6_bitCount_0f7a4 cJ6_bitCount_0f7a4 1 (some .int), Cond.constant RJ6 265 (1431655765), Cond.constant RJ6 266 (858993459), Cond.constant RJ6 267 (252645135), Cond.methodLink RX1 65 yX1_wordMark, Cond.instanceMethod yX1_wordMark, Cond.selects RX1 yX1_wordMark yX1_wordMark, Cond.code yX1_wordMark cX1_wordMark 3 (some .int), Cond.fieldLink RX1 15 "SureCount$Papers" "wordOf" "[I", Cond.methodLink RX5 232 yX3_add, Cond.instanceMethod yX3_add, Cond.selects RX3 yX3_add yX3_add, Cond.code yX3_add cX3_add 2 none, Cond.methodLink RX5 122 yX2_isWinner, Cond.instanceMethod yX2_isWinner, Cond.selects RX2 yX2_isWinner yX2_isWinner, Cond.code yX2_isWinner cX2_isWinner 7 (some .boolean), Cond.fieldLink RX2 39 "SureCount$Race" "seats" "I", Cond.methodLink RX2 55 yX3_papersWith, Cond.instanceMethod yX3_papersWith, Cond.selects RX3 yX3_papersWith yX3_papersWith, Cond.code yX3_papersWith cX3_papersWith 2 (some .int)]
def wsL_wins : List Cond := .codeWith yL_wins cL_wins 6 (some .int) [(0, 19, 22, 13)] :: ((wsL_wins_r1 ++ (wsL_wins_r2 ++ (wsL_wins_r3 ++ wsL_wins_r4))) ++ wsX50 ++ wsX20 ++ wsX10 ++ wsX30 ++ (sx_atX RX5 70 "java/util/NoSuchElementException" 13 sx_rx13 "java/lang/RuntimeException" ["java/lang/Exception"]).filter goodWord)
def wsL_about : List Cond := .codeWith yL_about cL_about 5 (some .int) [(0, 10, 13, 13)] :: ([.classLink RL 13 "java/util/NoSuchElementException", .methodLink RL 29 yX5_about, .instanceMethod yX5_about, .selects RX5 yX5_about yX5_about, .initialized RX5, .code yX5_about cX5_about 3 (some .int), .classLink RX5 66 "java/util/NoSuchElementException", .initialized "java/util/NoSuchElementException", .fieldLink RX5 11 "SureCount" "races" "[LSureCount$Race;", .methodLink RX5 126 yX5_hasRace, .instanceMethod yX5_hasRace, .selects RX5 yX5_hasRace yX5_hasRace, .code yX5_hasRace cX5_hasRace 2 (some .boolean), .fieldLink RX5 44 "SureCount" "raceCount" "I"] ++ wsX50 ++ wsX20 ++ (sx_atX RX5 70 "java/util/NoSuchElementException" 13 sx_rx13 "java/lang/RuntimeException" ["java/lang/Exception"]).filter goodWord)
def wsL_draw : List Cond := .codeWith yL_draw cL_draw 4 (some .int) [(0, 9, 12, 36)] :: ([.classLink RL 36 "java/lang/IllegalArgumentException", .methodLink RL 32 yX5_draw, .instanceMethod yX5_draw, .selects RX5 yX5_draw yX5_draw, .initialized RX5, .code yX5_draw cX5_draw 3 (some .int), .classLink RX5 143 "java/lang/IllegalArgumentException", .initialized "java/lang/IllegalArgumentException", .fieldLink RX5 51 "SureCount" "isSealed" "Z", .fieldLink RX5 26 "SureCount" "draws" "LSureCount$Draws;", .fieldLink RX5 19 "SureCount" "papers" "LSureCount$Papers;", .methodLink RX5 152 yX0_addOne, .instanceMethod yX0_addOne, .selects RX0 yX0_addOne yX0_addOne, .initialized RX0, .code yX0_addOne cX0_addOne 3 (some .int), .fieldLink RX0 15 "SureCount$Draws" "size" "I", .fieldLink RX0 19 "SureCount$Draws" "dice" "J", .constantLong RX0 23 (6364136223846793005), .constantLong RX0 25 (1442695040888963407), .fieldLink RX0 9 "SureCount$Draws" "paperOf" "[I"] ++ wsX50 ++ wsX00 ++ wsX10 ++ (vx_atS RX5 147 "java/lang/IllegalArgumentException" ["java/lang/RuntimeException", "java/lang/Exception"]).filter goodWord)
def wsL_drawn : List Cond := .codeWith yL_drawn cL_drawn 4 (some .int) [(0, 9, 12, 13)] :: ([.classLink RL 13 "java/util/NoSuchElementException", .methodLink RL 38 yX5_drawn, .instanceMethod yX5_drawn, .selects RX5 yX5_drawn yX5_drawn, .initialized RX5, .code yX5_drawn cX5_drawn 2 (some .int), .classLink RX5 66 "java/util/NoSuchElementException", .initialized "java/util/NoSuchElementException", .fieldLink RX5 26 "SureCount" "draws" "LSureCount$Draws;", .methodLink RX5 155 yX0_has, .instanceMethod yX0_has, .selects RX0 yX0_has yX0_has, .initialized RX0, .code yX0_has cX0_has 2 (some .boolean), .fieldLink RX0 15 "SureCount$Draws" "size" "I"] ++ wsX50 ++ wsX00 ++ (sx_atX RX5 70 "java/util/NoSuchElementException" 13 sx_rx13 "java/lang/RuntimeException" ["java/lang/Exception"]).filter goodWord)
def wsL_pulled : List Cond := .codeWith yL_pulled cL_pulled 4 (some .int) [(0, 9, 12, 13)] :: ([.classLink RL 13 "java/util/NoSuchElementException", .methodLink RL 41 yX5_pulled, .instanceMethod yX5_pulled, .selects RX5 yX5_pulled yX5_pulled, .initialized RX5, .code yX5_pulled cX5_pulled 4 (some .int), .classLink RX5 66 "java/util/NoSuchElementException", .initialized "java/util/NoSuchElementException", .fieldLink RX5 19 "SureCount" "papers" "LSureCount$Papers;", .methodLink RX5 62 yX5_hasBox, .instanceMethod yX5_hasBox, .selects RX5 yX5_hasBox yX5_hasBox, .code yX5_hasBox cX5_hasBox 2 (some .boolean), .fieldLink RX5 48 "SureCount" "boxCount" "I"] ++ wsX50 ++ wsX10 ++ (sx_atX RX5 70 "java/util/NoSuchElementException" 13 sx_rx13 "java/lang/RuntimeException" ["java/lang/Exception"]).filter goodWord)
def wsL_read_r1 : List Cond := [Cond.classLink RL 13 "java/util/NoSuchElementException", Cond.methodLink RL 44 yX5_read, Cond.instanceMethod yX5_read, Cond.selects RX5 yX5_read yX5_read, Cond.initialized RX5, Cond.code yX5_read cX5_read 4 (some .boolean), Cond.classLink RX5 66 "java/util/NoSuchElementException", Cond.initialized "java/util/NoSuchElementException", Cond.fieldLink RX5 19 "SureCount" "papers" "LSureCount$Papers;", Cond.fieldLink RX5 51 "SureCount" "isSealed" "Z", Cond.methodLink RX5 87 yX1_has, Cond.instanceMethod yX1_has, Cond.selects RX1 yX1_has yX1_has, Cond.initialized RX1, Cond.code yX1_has cX1_has 2 (some .boolean), Cond.fieldLink RX1 31 "SureCount$Papers" "size" "I", Cond.methodLink RX5 171 yX1_isReadBy, Cond.instanceMethod yX1_isReadBy, Cond.selects RX1 yX1_isReadBy yX1_isReadBy, Cond.code yX1_isReadBy cX1_isReadBy 3 (some .boolean), Cond.fieldLink RX1 25 "SureCount$Papers" "handsOf" "[I", Cond.methodLink RX5 73 yX5_isPossible, Cond.instanceMethod yX5_isPossible, Cond.selects RX5 yX5_isPossible yX5_isPossible]
def wsL_read_r2 : List Cond := [Cond.code yX5_isPossible cX5_isPossible 3 (some .boolean), Cond.fieldLink RX5 44 "SureCount" "raceCount" "I", Cond.fieldLink RX5 11 "SureCount" "races" "[LSureCount$Race;", Cond.methodLink RX5 76 yX5_markOf, Cond.static yX5_markOf, Cond.code yX5_markOf cX5_markOf 2 (some .int), Cond.methodLink RX5 220 yX2_allows, Cond.instanceMethod yX2_allows, Cond.selects RX2 yX2_allows yX2_allows, Cond.initialized RX2, Cond.code yX2_allows cX2_allows 2 (some .boolean), Cond.fieldLink RX2 36 "SureCount$Race" "candidates" "I", Cond.methodLink RX5 175 yX1_keepHandWord, Cond.instanceMethod yX1_keepHandWord, Cond.selects RX1 yX1_keepHandWord yX1_keepHandWord, Cond.code yX1_keepHandWord cX1_keepHandWord 4 none, Cond.fieldLink RX1 28 "SureCount$Papers" "handWords" "[I"]
def wsL_read : List Cond := .codeWith yL_read cL_read 6 (some .int) [(0, 19, 22, 13)] :: ((wsL_read_r1 ++ wsL_read_r2) ++ wsX50 ++ wsX10 ++ wsX20 ++ (sx_atX RX5 70 "java/util/NoSuchElementException" 13 sx_rx13 "java/lang/RuntimeException" ["java/lang/Exception"]).filter goodWord)
def wsL_reading_r1 : List Cond := [Cond.classLink RL 13 "java/util/NoSuchElementException", Cond.methodLink RL 47 yX5_reading, Cond.instanceMethod yX5_reading, Cond.selects RX5 yX5_reading yX5_reading, Cond.initialized RX5, Cond.code yX5_reading cX5_reading 3 (some .int), Cond.classLink RX5 66 "java/util/NoSuchElementException", Cond.initialized "java/util/NoSuchElementException", Cond.fieldLink RX5 19 "SureCount" "papers" "LSureCount$Papers;", Cond.methodLink RX5 87 yX1_has, Cond.instanceMethod yX1_has, Cond.selects RX1 yX1_has yX1_has, Cond.initialized RX1, Cond.code yX1_has cX1_has 2 (some .boolean), Cond.fieldLink RX1 31 "SureCount$Papers" "size" "I", Cond.methodLink RX5 126 yX5_hasRace, Cond.instanceMethod yX5_hasRace, Cond.selects RX5 yX5_hasRace yX5_hasRace, Cond.code yX5_hasRace cX5_hasRace 2 (some .boolean), Cond.fieldLink RX5 44 "SureCount" "raceCount" "I", Cond.methodLink RX5 179 yX1_handsMark, Cond.instanceMethod yX1_handsMark, Cond.selects RX1 yX1_handsMark yX1_handsMark, Cond.code yX1_handsMark cX1_handsMark 6 (some .int)]
def wsL_reading_r2 : List Cond := [Cond.fieldLink RX1 25 "SureCount$Papers" "handsOf" "[I", Cond.methodLink RX1 53 Lib.Math.max.name, Cond.static Lib.Math.max.name, Cond.initialized "java/lang/Math", Cond.code Lib.Math.max.name Lib.Math.max.code 2 (some .int), Cond.methodLink RX1 43 yX1_handMark, Cond.instanceMethod yX1_handMark, Cond.selects RX1 yX1_handMark yX1_handMark, Cond.code yX1_handMark cX1_handMark 4 (some .int), Cond.fieldLink RX1 28 "SureCount$Papers" "handWords" "[I", Cond.methodLink RX1 58 yX1_isReadBy, Cond.instanceMethod yX1_isReadBy, Cond.selects RX1 yX1_isReadBy yX1_isReadBy, Cond.code yX1_isReadBy cX1_isReadBy 3 (some .boolean), Cond.static yX5_markOf, Cond.code yX5_markOf cX5_markOf 2 (some .int), Cond.methodLink RX1 47 yJ6_bitCount_0f7a4, Cond.static yJ6_bitCount_0f7a4, Cond.initialized RJ6, Cond.code yJ6_bitCount_0f7a4 cJ6_bitCount_0f7a4 1 (some .int), Cond.constant RJ6 265 (1431655765), Cond.constant RJ6 266 (858993459), Cond.constant RJ6 267 (252645135)]
def wsL_reading : List Cond := .codeWith yL_reading cL_reading 5 (some .int) [(0, 10, 13, 13)] :: ((wsL_reading_r1 ++ wsL_reading_r2) ++ wsX50 ++ wsX10 ++ (sx_atX RX5 70 "java/util/NoSuchElementException" 13 sx_rx13 "java/lang/RuntimeException" ["java/lang/Exception"]).filter goodWord)
def wsL_risk_r1 : List Cond := [Cond.classLink RL 13 "java/util/NoSuchElementException", Cond.methodLink RL 50 yX5_risk, Cond.instanceMethod yX5_risk, Cond.selects RX5 yX5_risk yX5_risk, Cond.initialized RX5, Cond.code yX5_risk cX5_risk 2 (some .int), Cond.classLink RX5 66 "java/util/NoSuchElementException", Cond.initialized "java/util/NoSuchElementException", Cond.fieldLink RX5 33 "SureCount" "walk" "LSureCount$Walk;", Cond.fieldLink RX5 11 "SureCount" "races" "[LSureCount$Race;", Cond.fieldLink RX5 19 "SureCount" "papers" "LSureCount$Papers;", Cond.fieldLink RX5 26 "SureCount" "draws" "LSureCount$Draws;", Cond.methodLink RX5 126 yX5_hasRace, Cond.instanceMethod yX5_hasRace, Cond.selects RX5 yX5_hasRace yX5_hasRace, Cond.code yX5_hasRace cX5_hasRace 2 (some .boolean), Cond.fieldLink RX5 44 "SureCount" "raceCount" "I", Cond.methodLink RX5 182 yX5_hasRisk, Cond.instanceMethod yX5_hasRisk, Cond.selects RX5 yX5_hasRisk yX5_hasRisk, Cond.code yX5_hasRisk cX5_hasRisk 2 (some .boolean), Cond.fieldLink RX5 51 "SureCount" "isSealed" "Z", Cond.methodLink RX5 185 yX4_follow, Cond.instanceMethod yX4_follow]
def wsL_risk_r2 : List Cond := [Cond.selects RX4 yX4_follow yX4_follow, Cond.initialized RX4, Cond.code yX4_follow cX4_follow 8 none, Cond.constant RX4 18 (1000000000), Cond.fieldLink RX4 19 "SureCount$Walk" "riskReached" "I", Cond.fieldLink RX4 23 "SureCount$Walk" "drawsTaken" "I", Cond.fieldLink RX4 9 "SureCount$Walk" "worstGap" "[I", Cond.fieldLink RX4 15 "SureCount$Walk" "worstMargin" "[I", Cond.methodLink RX4 31 yX4_weigh, Cond.instanceMethod yX4_weigh, Cond.selects RX4 yX4_weigh yX4_weigh, Cond.code yX4_weigh cX4_weigh 12 none, Cond.methodLink RX4 50 yX1_wordMark, Cond.instanceMethod yX1_wordMark, Cond.selects RX1 yX1_wordMark yX1_wordMark, Cond.initialized RX1, Cond.code yX1_wordMark cX1_wordMark 3 (some .int), Cond.fieldLink RX1 15 "SureCount$Papers" "wordOf" "[I", Cond.static yX5_markOf, Cond.code yX5_markOf cX5_markOf 2 (some .int), Cond.methodLink RX4 54 yX1_handsMark, Cond.instanceMethod yX1_handsMark, Cond.selects RX1 yX1_handsMark yX1_handsMark, Cond.code yX1_handsMark cX1_handsMark 6 (some .int)]
def wsL_risk_r3 : List Cond := [Cond.fieldLink RX1 25 "SureCount$Papers" "handsOf" "[I", Cond.methodLink RX1 53 Lib.Math.max.name, Cond.static Lib.Math.max.name, Cond.initialized "java/lang/Math", Cond.code Lib.Math.max.name Lib.Math.max.code 2 (some .int), Cond.methodLink RX1 43 yX1_handMark, Cond.instanceMethod yX1_handMark, Cond.selects RX1 yX1_handMark yX1_handMark, Cond.code yX1_handMark cX1_handMark 4 (some .int), Cond.fieldLink RX1 28 "SureCount$Papers" "handWords" "[I", Cond.methodLink RX1 58 yX1_isReadBy, Cond.instanceMethod yX1_isReadBy, Cond.selects RX1 yX1_isReadBy yX1_isReadBy, Cond.code yX1_isReadBy cX1_isReadBy 3 (some .boolean), Cond.methodLink RX1 47 yJ6_bitCount_0f7a4, Cond.static yJ6_bitCount_0f7a4, Cond.initialized RJ6, Cond.code yJ6_bitCount_0f7a4 cJ6_bitCount_0f7a4 1 (some .int), Cond.constant RJ6 265 (1431655765), Cond.constant RJ6 266 (858993459), Cond.constant RJ6 267 (252645135), Cond.methodLink RX4 61 yX4_isTaken, Cond.static yX4_isTaken, Cond.code yX4_isTaken cX4_isTaken 3 (some .boolean)]
def wsL_risk_r4 : List Cond := [Cond.methodLink RX4 77 yX4_lead, Cond.static yX4_lead, Cond.code yX4_lead cX4_lead 3 (some .int), Cond.methodLink RX4 35 yX0_settled, Cond.instanceMethod yX0_settled, Cond.selects RX0 yX0_settled yX0_settled, Cond.initialized RX0, Cond.code yX0_settled cX0_settled 3 (some .int), Cond.fieldLink RX0 15 "SureCount$Draws" "size" "I", Cond.fieldLink RX0 9 "SureCount$Draws" "paperOf" "[I", Cond.methodLink RX0 27 yX1_isSettled, Cond.instanceMethod yX1_isSettled, Cond.selects RX1 yX1_isSettled yX1_isSettled, Cond.code yX1_isSettled cX1_isSettled 2 (some .boolean), Cond.fieldLink RX1 18 "SureCount$Papers" "isLost" "[Z", Cond.methodLink RX1 35 yX1_isReadByHand, Cond.instanceMethod yX1_isReadByHand, Cond.selects RX1 yX1_isReadByHand yX1_isReadByHand, Cond.code yX1_isReadByHand cX1_isReadByHand 2 (some .boolean), Cond.methodLink RX4 44 yX2_carryOn, Cond.instanceMethod yX2_carryOn, Cond.selects RX2 yX2_carryOn yX2_carryOn, Cond.initialized RX2, Cond.code yX2_carryOn cX2_carryOn 8 (some .int)]
def wsL_risk_r5 : List Cond := [Cond.constantLong RX2 72 (22), Cond.fieldLink RX2 42 "SureCount$Race" "size" "I", Cond.constantLong RX2 74 (10), Cond.fieldLink RX2 45 "SureCount$Race" "margin" "I", Cond.constant RX2 76 (1000000000), Cond.constantLong RX2 77 (1000000000), Cond.methodLink RX2 79 Lib.MathLoose.min_long.x, Cond.static Lib.MathLoose.min_long.x, Cond.code Lib.MathLoose.min_long.x Lib.MathLoose.min_long.code 4 (some .long)]
def wsL_risk : List Cond := .codeWith yL_risk cL_risk 4 (some .int) [(0, 9, 12, 13)] :: ((wsL_risk_r1 ++ (wsL_risk_r2 ++ (wsL_risk_r3 ++ (wsL_risk_r4 ++ wsL_risk_r5)))) ++ wsX50 ++ wsX40 ++ wsX20 ++ wsX10 ++ wsX00 ++ (sx_atX RX5 70 "java/util/NoSuchElementException" 13 sx_rx13 "java/lang/RuntimeException" ["java/lang/Exception"]).filter goodWord)
def wsL_taken_r1 : List Cond := [Cond.classLink RL 13 "java/util/NoSuchElementException", Cond.methodLink RL 53 yX5_taken, Cond.instanceMethod yX5_taken, Cond.selects RX5 yX5_taken yX5_taken, Cond.initialized RX5, Cond.code yX5_taken cX5_taken 2 (some .int), Cond.classLink RX5 66 "java/util/NoSuchElementException", Cond.initialized "java/util/NoSuchElementException", Cond.fieldLink RX5 33 "SureCount" "walk" "LSureCount$Walk;", Cond.fieldLink RX5 11 "SureCount" "races" "[LSureCount$Race;", Cond.fieldLink RX5 19 "SureCount" "papers" "LSureCount$Papers;", Cond.fieldLink RX5 26 "SureCount" "draws" "LSureCount$Draws;", Cond.methodLink RX5 126 yX5_hasRace, Cond.instanceMethod yX5_hasRace, Cond.selects RX5 yX5_hasRace yX5_hasRace, Cond.code yX5_hasRace cX5_hasRace 2 (some .boolean), Cond.fieldLink RX5 44 "SureCount" "raceCount" "I", Cond.methodLink RX5 182 yX5_hasRisk, Cond.instanceMethod yX5_hasRisk, Cond.selects RX5 yX5_hasRisk yX5_hasRisk, Cond.code yX5_hasRisk cX5_hasRisk 2 (some .boolean), Cond.fieldLink RX5 51 "SureCount" "isSealed" "Z", Cond.methodLink RX5 185 yX4_follow, Cond.instanceMethod yX4_follow]
def wsL_taken_r2 : List Cond := [Cond.selects RX4 yX4_follow yX4_follow, Cond.initialized RX4, Cond.code yX4_follow cX4_follow 8 none, Cond.constant RX4 18 (1000000000), Cond.fieldLink RX4 19 "SureCount$Walk" "riskReached" "I", Cond.fieldLink RX4 23 "SureCount$Walk" "drawsTaken" "I", Cond.fieldLink RX4 9 "SureCount$Walk" "worstGap" "[I", Cond.fieldLink RX4 15 "SureCount$Walk" "worstMargin" "[I", Cond.methodLink RX4 31 yX4_weigh, Cond.instanceMethod yX4_weigh, Cond.selects RX4 yX4_weigh yX4_weigh, Cond.code yX4_weigh cX4_weigh 12 none, Cond.methodLink RX4 50 yX1_wordMark, Cond.instanceMethod yX1_wordMark, Cond.selects RX1 yX1_wordMark yX1_wordMark, Cond.initialized RX1, Cond.code yX1_wordMark cX1_wordMark 3 (some .int), Cond.fieldLink RX1 15 "SureCount$Papers" "wordOf" "[I", Cond.static yX5_markOf, Cond.code yX5_markOf cX5_markOf 2 (some .int), Cond.methodLink RX4 54 yX1_handsMark, Cond.instanceMethod yX1_handsMark, Cond.selects RX1 yX1_handsMark yX1_handsMark, Cond.code yX1_handsMark cX1_handsMark 6 (some .int)]
def wsL_taken_r3 : List Cond := [Cond.fieldLink RX1 25 "SureCount$Papers" "handsOf" "[I", Cond.methodLink RX1 53 Lib.Math.max.name, Cond.static Lib.Math.max.name, Cond.initialized "java/lang/Math", Cond.code Lib.Math.max.name Lib.Math.max.code 2 (some .int), Cond.methodLink RX1 43 yX1_handMark, Cond.instanceMethod yX1_handMark, Cond.selects RX1 yX1_handMark yX1_handMark, Cond.code yX1_handMark cX1_handMark 4 (some .int), Cond.fieldLink RX1 28 "SureCount$Papers" "handWords" "[I", Cond.methodLink RX1 58 yX1_isReadBy, Cond.instanceMethod yX1_isReadBy, Cond.selects RX1 yX1_isReadBy yX1_isReadBy, Cond.code yX1_isReadBy cX1_isReadBy 3 (some .boolean), Cond.methodLink RX1 47 yJ6_bitCount_0f7a4, Cond.static yJ6_bitCount_0f7a4, Cond.initialized RJ6, Cond.code yJ6_bitCount_0f7a4 cJ6_bitCount_0f7a4 1 (some .int), Cond.constant RJ6 265 (1431655765), Cond.constant RJ6 266 (858993459), Cond.constant RJ6 267 (252645135), Cond.methodLink RX4 61 yX4_isTaken, Cond.static yX4_isTaken, Cond.code yX4_isTaken cX4_isTaken 3 (some .boolean)]
def wsL_taken_r4 : List Cond := [Cond.methodLink RX4 77 yX4_lead, Cond.static yX4_lead, Cond.code yX4_lead cX4_lead 3 (some .int), Cond.methodLink RX4 35 yX0_settled, Cond.instanceMethod yX0_settled, Cond.selects RX0 yX0_settled yX0_settled, Cond.initialized RX0, Cond.code yX0_settled cX0_settled 3 (some .int), Cond.fieldLink RX0 15 "SureCount$Draws" "size" "I", Cond.fieldLink RX0 9 "SureCount$Draws" "paperOf" "[I", Cond.methodLink RX0 27 yX1_isSettled, Cond.instanceMethod yX1_isSettled, Cond.selects RX1 yX1_isSettled yX1_isSettled, Cond.code yX1_isSettled cX1_isSettled 2 (some .boolean), Cond.fieldLink RX1 18 "SureCount$Papers" "isLost" "[Z", Cond.methodLink RX1 35 yX1_isReadByHand, Cond.instanceMethod yX1_isReadByHand, Cond.selects RX1 yX1_isReadByHand yX1_isReadByHand, Cond.code yX1_isReadByHand cX1_isReadByHand 2 (some .boolean), Cond.methodLink RX4 44 yX2_carryOn, Cond.instanceMethod yX2_carryOn, Cond.selects RX2 yX2_carryOn yX2_carryOn, Cond.initialized RX2, Cond.code yX2_carryOn cX2_carryOn 8 (some .int)]
def wsL_taken_r5 : List Cond := [Cond.constantLong RX2 72 (22), Cond.fieldLink RX2 42 "SureCount$Race" "size" "I", Cond.constantLong RX2 74 (10), Cond.fieldLink RX2 45 "SureCount$Race" "margin" "I", Cond.constant RX2 76 (1000000000), Cond.constantLong RX2 77 (1000000000), Cond.methodLink RX2 79 Lib.MathLoose.min_long.x, Cond.static Lib.MathLoose.min_long.x, Cond.code Lib.MathLoose.min_long.x Lib.MathLoose.min_long.code 4 (some .long)]
def wsL_taken : List Cond := .codeWith yL_taken cL_taken 4 (some .int) [(0, 9, 12, 13)] :: ((wsL_taken_r1 ++ (wsL_taken_r2 ++ (wsL_taken_r3 ++ (wsL_taken_r4 ++ wsL_taken_r5)))) ++ wsX50 ++ wsX40 ++ wsX20 ++ wsX10 ++ wsX00 ++ (sx_atX RX5 70 "java/util/NoSuchElementException" 13 sx_rx13 "java/lang/RuntimeException" ["java/lang/Exception"]).filter goodWord)
def wsL_taint_r1 : List Cond := [Cond.classLink RL 13 "java/util/NoSuchElementException", Cond.methodLink RL 56 yX5_taint, Cond.instanceMethod yX5_taint, Cond.selects RX5 yX5_taint yX5_taint, Cond.initialized RX5, Cond.code yX5_taint cX5_taint 4 (some .int), Cond.classLink RX5 66 "java/util/NoSuchElementException", Cond.initialized "java/util/NoSuchElementException", Cond.fieldLink RX5 26 "SureCount" "draws" "LSureCount$Draws;", Cond.fieldLink RX5 19 "SureCount" "papers" "LSureCount$Papers;", Cond.fieldLink RX5 33 "SureCount" "walk" "LSureCount$Walk;", Cond.fieldLink RX5 11 "SureCount" "races" "[LSureCount$Race;", Cond.methodLink RX5 126 yX5_hasRace, Cond.instanceMethod yX5_hasRace, Cond.selects RX5 yX5_hasRace yX5_hasRace, Cond.code yX5_hasRace cX5_hasRace 2 (some .boolean), Cond.fieldLink RX5 44 "SureCount" "raceCount" "I", Cond.methodLink RX5 155 yX0_has, Cond.instanceMethod yX0_has, Cond.selects RX0 yX0_has yX0_has, Cond.initialized RX0, Cond.code yX0_has cX0_has 2 (some .boolean), Cond.fieldLink RX0 15 "SureCount$Draws" "size" "I", Cond.methodLink RX5 182 yX5_hasRisk]
def wsL_taint_r2 : List Cond := [Cond.instanceMethod yX5_hasRisk, Cond.selects RX5 yX5_hasRisk yX5_hasRisk, Cond.code yX5_hasRisk cX5_hasRisk 2 (some .boolean), Cond.fieldLink RX5 51 "SureCount" "isSealed" "Z", Cond.methodLink RX5 162 yX0_settled, Cond.instanceMethod yX0_settled, Cond.selects RX0 yX0_settled yX0_settled, Cond.code yX0_settled cX0_settled 3 (some .int), Cond.fieldLink RX0 9 "SureCount$Draws" "paperOf" "[I", Cond.methodLink RX0 27 yX1_isSettled, Cond.instanceMethod yX1_isSettled, Cond.selects RX1 yX1_isSettled yX1_isSettled, Cond.initialized RX1, Cond.code yX1_isSettled cX1_isSettled 2 (some .boolean), Cond.fieldLink RX1 18 "SureCount$Papers" "isLost" "[Z", Cond.methodLink RX1 35 yX1_isReadByHand, Cond.instanceMethod yX1_isReadByHand, Cond.selects RX1 yX1_isReadByHand yX1_isReadByHand, Cond.code yX1_isReadByHand cX1_isReadByHand 2 (some .boolean), Cond.fieldLink RX1 25 "SureCount$Papers" "handsOf" "[I", Cond.methodLink RX5 195 yX4_weigh, Cond.instanceMethod yX4_weigh, Cond.selects RX4 yX4_weigh yX4_weigh, Cond.initialized RX4]
def wsL_taint_r3 : List Cond := [Cond.code yX4_weigh cX4_weigh 12 none, Cond.fieldLink RX4 9 "SureCount$Walk" "worstGap" "[I", Cond.fieldLink RX4 15 "SureCount$Walk" "worstMargin" "[I", Cond.methodLink RX4 50 yX1_wordMark, Cond.instanceMethod yX1_wordMark, Cond.selects RX1 yX1_wordMark yX1_wordMark, Cond.code yX1_wordMark cX1_wordMark 3 (some .int), Cond.fieldLink RX1 15 "SureCount$Papers" "wordOf" "[I", Cond.static yX5_markOf, Cond.code yX5_markOf cX5_markOf 2 (some .int), Cond.methodLink RX4 54 yX1_handsMark, Cond.instanceMethod yX1_handsMark, Cond.selects RX1 yX1_handsMark yX1_handsMark, Cond.code yX1_handsMark cX1_handsMark 6 (some .int), Cond.methodLink RX1 53 Lib.Math.max.name, Cond.static Lib.Math.max.name, Cond.initialized "java/lang/Math", Cond.code Lib.Math.max.name Lib.Math.max.code 2 (some .int), Cond.methodLink RX1 43 yX1_handMark, Cond.instanceMethod yX1_handMark, Cond.selects RX1 yX1_handMark yX1_handMark, Cond.code yX1_handMark cX1_handMark 4 (some .int), Cond.fieldLink RX1 28 "SureCount$Papers" "handWords" "[I", Cond.methodLink RX1 58 yX1_isReadBy]
def wsL_taint_r4 : List Cond := [Cond.instanceMethod yX1_isReadBy, Cond.selects RX1 yX1_isReadBy yX1_isReadBy, Cond.code yX1_isReadBy cX1_isReadBy 3 (some .boolean), Cond.methodLink RX1 47 yJ6_bitCount_0f7a4, Cond.static yJ6_bitCount_0f7a4, Cond.initialized RJ6, Cond.code yJ6_bitCount_0f7a4 cJ6_bitCount_0f7a4 1 (some .int), Cond.constant RJ6 265 (1431655765), Cond.constant RJ6 266 (858993459), Cond.constant RJ6 267 (252645135), Cond.methodLink RX4 61 yX4_isTaken, Cond.static yX4_isTaken, Cond.code yX4_isTaken cX4_isTaken 3 (some .boolean), Cond.methodLink RX4 77 yX4_lead, Cond.static yX4_lead, Cond.code yX4_lead cX4_lead 3 (some .int)]
def wsL_taint : List Cond := .codeWith yL_taint cL_taint 5 (some .int) [(0, 10, 13, 13)] :: ((wsL_taint_r1 ++ (wsL_taint_r2 ++ (wsL_taint_r3 ++ wsL_taint_r4))) ++ wsX50 ++ wsX00 ++ wsX40 ++ wsX20 ++ wsX10 ++ (sx_atX RX5 70 "java/util/NoSuchElementException" 13 sx_rx13 "java/lang/RuntimeException" ["java/lang/Exception"]).filter goodWord)
def wsL_need_r1 : List Cond := [Cond.classLink RL 13 "java/util/NoSuchElementException", Cond.classLink RL 36 "java/lang/IllegalArgumentException", Cond.methodLink RL 59 yX5_need, Cond.instanceMethod yX5_need, Cond.selects RX5 yX5_need yX5_need, Cond.initialized RX5, Cond.code yX5_need cX5_need 3 (some .int), Cond.classLink RX5 66 "java/util/NoSuchElementException", Cond.initialized "java/util/NoSuchElementException", Cond.classLink RX5 143 "java/lang/IllegalArgumentException", Cond.initialized "java/lang/IllegalArgumentException", Cond.constant RX5 202 (1000000000), Cond.fieldLink RX5 33 "SureCount" "walk" "LSureCount$Walk;", Cond.fieldLink RX5 11 "SureCount" "races" "[LSureCount$Race;", Cond.fieldLink RX5 19 "SureCount" "papers" "LSureCount$Papers;", Cond.fieldLink RX5 26 "SureCount" "draws" "LSureCount$Draws;", Cond.methodLink RX5 126 yX5_hasRace, Cond.instanceMethod yX5_hasRace, Cond.selects RX5 yX5_hasRace yX5_hasRace, Cond.code yX5_hasRace cX5_hasRace 2 (some .boolean), Cond.fieldLink RX5 44 "SureCount" "raceCount" "I", Cond.methodLink RX5 182 yX5_hasRisk, Cond.instanceMethod yX5_hasRisk, Cond.selects RX5 yX5_hasRisk yX5_hasRisk]
def wsL_need_r2 : List Cond := [Cond.code yX5_hasRisk cX5_hasRisk 2 (some .boolean), Cond.fieldLink RX5 51 "SureCount" "isSealed" "Z", Cond.methodLink RX5 185 yX4_follow, Cond.instanceMethod yX4_follow, Cond.selects RX4 yX4_follow yX4_follow, Cond.initialized RX4, Cond.code yX4_follow cX4_follow 8 none, Cond.constant RX4 18 (1000000000), Cond.fieldLink RX4 19 "SureCount$Walk" "riskReached" "I", Cond.fieldLink RX4 23 "SureCount$Walk" "drawsTaken" "I", Cond.fieldLink RX4 9 "SureCount$Walk" "worstGap" "[I", Cond.fieldLink RX4 15 "SureCount$Walk" "worstMargin" "[I", Cond.methodLink RX4 31 yX4_weigh, Cond.instanceMethod yX4_weigh, Cond.selects RX4 yX4_weigh yX4_weigh, Cond.code yX4_weigh cX4_weigh 12 none, Cond.methodLink RX4 50 yX1_wordMark, Cond.instanceMethod yX1_wordMark, Cond.selects RX1 yX1_wordMark yX1_wordMark, Cond.initialized RX1, Cond.code yX1_wordMark cX1_wordMark 3 (some .int), Cond.fieldLink RX1 15 "SureCount$Papers" "wordOf" "[I", Cond.static yX5_markOf, Cond.code yX5_markOf cX5_markOf 2 (some .int)]
def wsL_need_r3 : List Cond := [Cond.methodLink RX4 54 yX1_handsMark, Cond.instanceMethod yX1_handsMark, Cond.selects RX1 yX1_handsMark yX1_handsMark, Cond.code yX1_handsMark cX1_handsMark 6 (some .int), Cond.fieldLink RX1 25 "SureCount$Papers" "handsOf" "[I", Cond.methodLink RX1 53 Lib.Math.max.name, Cond.static Lib.Math.max.name, Cond.initialized "java/lang/Math", Cond.code Lib.Math.max.name Lib.Math.max.code 2 (some .int), Cond.methodLink RX1 43 yX1_handMark, Cond.instanceMethod yX1_handMark, Cond.selects RX1 yX1_handMark yX1_handMark, Cond.code yX1_handMark cX1_handMark 4 (some .int), Cond.fieldLink RX1 28 "SureCount$Papers" "handWords" "[I", Cond.methodLink RX1 58 yX1_isReadBy, Cond.instanceMethod yX1_isReadBy, Cond.selects RX1 yX1_isReadBy yX1_isReadBy, Cond.code yX1_isReadBy cX1_isReadBy 3 (some .boolean), Cond.methodLink RX1 47 yJ6_bitCount_0f7a4, Cond.static yJ6_bitCount_0f7a4, Cond.initialized RJ6, Cond.code yJ6_bitCount_0f7a4 cJ6_bitCount_0f7a4 1 (some .int), Cond.constant RJ6 265 (1431655765), Cond.constant RJ6 266 (858993459)]
def wsL_need_r4 : List Cond := [Cond.constant RJ6 267 (252645135), Cond.methodLink RX4 61 yX4_isTaken, Cond.static yX4_isTaken, Cond.code yX4_isTaken cX4_isTaken 3 (some .boolean), Cond.methodLink RX4 77 yX4_lead, Cond.static yX4_lead, Cond.code yX4_lead cX4_lead 3 (some .int), Cond.methodLink RX4 35 yX0_settled, Cond.instanceMethod yX0_settled, Cond.selects RX0 yX0_settled yX0_settled, Cond.initialized RX0, Cond.code yX0_settled cX0_settled 3 (some .int), Cond.fieldLink RX0 15 "SureCount$Draws" "size" "I", Cond.fieldLink RX0 9 "SureCount$Draws" "paperOf" "[I", Cond.methodLink RX0 27 yX1_isSettled, Cond.instanceMethod yX1_isSettled, Cond.selects RX1 yX1_isSettled yX1_isSettled, Cond.code yX1_isSettled cX1_isSettled 2 (some .boolean), Cond.fieldLink RX1 18 "SureCount$Papers" "isLost" "[Z", Cond.methodLink RX1 35 yX1_isReadByHand, Cond.instanceMethod yX1_isReadByHand, Cond.selects RX1 yX1_isReadByHand yX1_isReadByHand, Cond.code yX1_isReadByHand cX1_isReadByHand 2 (some .boolean), Cond.methodLink RX4 44 yX2_carryOn]
def wsL_need_r5 : List Cond := [Cond.instanceMethod yX2_carryOn, Cond.selects RX2 yX2_carryOn yX2_carryOn, Cond.initialized RX2, Cond.code yX2_carryOn cX2_carryOn 8 (some .int), Cond.constantLong RX2 72 (22), Cond.fieldLink RX2 42 "SureCount$Race" "size" "I", Cond.constantLong RX2 74 (10), Cond.fieldLink RX2 45 "SureCount$Race" "margin" "I", Cond.constant RX2 76 (1000000000), Cond.constantLong RX2 77 (1000000000), Cond.methodLink RX2 79 Lib.MathLoose.min_long.x, Cond.static Lib.MathLoose.min_long.x, Cond.code Lib.MathLoose.min_long.x Lib.MathLoose.min_long.code 4 (some .long), Cond.methodLink RX5 205 yX2_cleanDrawsUntil, Cond.instanceMethod yX2_cleanDrawsUntil, Cond.selects RX2 yX2_cleanDrawsUntil yX2_cleanDrawsUntil, Cond.code yX2_cleanDrawsUntil cX2_cleanDrawsUntil 6 (some .int), Cond.constant RX2 82 (100000), Cond.methodLink RX2 83 yX2_carryOn]
def wsL_need : List Cond := .codeWith yL_need cL_need 5 (some .int) [(0, 10, 13, 13), (0, 10, 17, 36)] :: ((wsL_need_r1 ++ (wsL_need_r2 ++ (wsL_need_r3 ++ (wsL_need_r4 ++ wsL_need_r5)))) ++ wsX50 ++ wsX40 ++ wsX20 ++ wsX10 ++ wsX00 ++ (sx_atX RX5 70 "java/util/NoSuchElementException" 13 sx_rx13 "java/lang/RuntimeException" ["java/lang/Exception"]).filter goodWord ++ (vx_atS RX5 147 "java/lang/IllegalArgumentException" ["java/lang/RuntimeException", "java/lang/Exception"]).filter goodWord)
def wsL_count_r1 : List Cond := [Cond.classLink RL 13 "java/util/NoSuchElementException", Cond.methodLink RL 62 yX5_count, Cond.instanceMethod yX5_count, Cond.selects RX5 yX5_count yX5_count, Cond.initialized RX5, Cond.code yX5_count cX5_count 2 (some .int), Cond.classLink RX5 66 "java/util/NoSuchElementException", Cond.initialized "java/util/NoSuchElementException", Cond.fieldLink RX5 44 "SureCount" "raceCount" "I", Cond.fieldLink RX5 48 "SureCount" "boxCount" "I", Cond.fieldLink RX5 19 "SureCount" "papers" "LSureCount$Papers;", Cond.fieldLink RX5 26 "SureCount" "draws" "LSureCount$Draws;", Cond.fieldLink RX5 51 "SureCount" "isSealed" "Z", Cond.methodLink RX5 208 yX1_lostOnes, Cond.instanceMethod yX1_lostOnes, Cond.selects RX1 yX1_lostOnes yX1_lostOnes, Cond.initialized RX1, Cond.code yX1_lostOnes cX1_lostOnes 3 (some .int), Cond.fieldLink RX1 31 "SureCount$Papers" "size" "I", Cond.fieldLink RX1 18 "SureCount$Papers" "isLost" "[Z", Cond.methodLink RX5 212 yX1_readOnes, Cond.instanceMethod yX1_readOnes, Cond.selects RX1 yX1_readOnes yX1_readOnes, Cond.code yX1_readOnes cX1_readOnes 3 (some .int)]
def wsL_count_r2 : List Cond := [Cond.methodLink RX1 35 yX1_isReadByHand, Cond.instanceMethod yX1_isReadByHand, Cond.selects RX1 yX1_isReadByHand yX1_isReadByHand, Cond.code yX1_isReadByHand cX1_isReadByHand 2 (some .boolean), Cond.fieldLink RX1 25 "SureCount$Papers" "handsOf" "[I"]
def wsL_count : List Cond := .codeWith yL_count cL_count 4 (some .int) [(0, 9, 12, 13)] :: ((wsL_count_r1 ++ wsL_count_r2) ++ wsX50 ++ wsX10 ++ wsX00 ++ (sx_atX RX5 70 "java/util/NoSuchElementException" 13 sx_rx13 "java/lang/RuntimeException" ["java/lang/Exception"]).filter goodWord)
def wsL_law0_r1 : List Cond := [Cond.classLink RL 8 RX5, Cond.instantiable RX5 8, Cond.initialized RX5, Cond.classLink RL 66 RX6, Cond.instantiable RX6 22, Cond.initialized RX6, Cond.arrayClass .long, Cond.constantLong RL 91 (4294967295), Cond.methodLink RL 65 yX5_init, Cond.instanceMethod yX5_init, Cond.code yX5_init cX5_init 2 none, Cond.methodLink RX5 3 objectInit, Cond.instanceMethod objectInit, Cond.code objectInit ⟨#[0xb1]⟩ 1 none, Cond.classLink RX5 9 RX2, Cond.fieldLink RX5 11 "SureCount" "races" "[LSureCount$Race;", Cond.instantiable RX2 10, Cond.initialized RX2, Cond.classLink RX5 16 RX1, Cond.instantiable RX1 7, Cond.initialized RX1, Cond.fieldLink RX5 19 "SureCount" "papers" "LSureCount$Papers;", Cond.classLink RX5 23 RX0, Cond.instantiable RX0 3]
def wsL_law0_r2 : List Cond := [Cond.initialized RX0, Cond.fieldLink RX5 26 "SureCount" "draws" "LSureCount$Draws;", Cond.classLink RX5 30 RX4, Cond.instantiable RX4 4, Cond.initialized RX4, Cond.fieldLink RX5 33 "SureCount" "walk" "LSureCount$Walk;", Cond.classLink RX5 37 RX3, Cond.instantiable RX3 1, Cond.initialized RX3, Cond.fieldLink RX5 40 "SureCount" "handTally" "LSureCount$Tally;", Cond.fieldLink RX5 44 "SureCount" "raceCount" "I", Cond.fieldLink RX5 48 "SureCount" "boxCount" "I", Cond.fieldLink RX5 51 "SureCount" "isSealed" "Z", Cond.instanceMethod yX2_init, Cond.code yX2_init cX2_init 1 none, Cond.methodLink RX2 3 objectInit, Cond.classLink RX2 9 RX3, Cond.fieldLink RX2 12 "SureCount$Race" "wordTally" "LSureCount$Tally;", Cond.arrayClass .boolean, Cond.fieldLink RX2 18 "SureCount$Race" "winsByWord" "[Z", Cond.arrayClass .int, Cond.fieldLink RX2 22 "SureCount$Race" "pairWinner" "[I", Cond.fieldLink RX2 26 "SureCount$Race" "pairLoser" "[I", Cond.fieldLink RX2 29 "SureCount$Race" "pairMargin" "[I"]
def wsL_law0_r3 : List Cond := [Cond.fieldLink RX2 32 "SureCount$Race" "pairs" "I", Cond.fieldLink RX2 36 "SureCount$Race" "candidates" "I", Cond.fieldLink RX2 39 "SureCount$Race" "seats" "I", Cond.fieldLink RX2 42 "SureCount$Race" "size" "I", Cond.fieldLink RX2 45 "SureCount$Race" "margin" "I", Cond.instanceMethod yX3_init, Cond.code yX3_init cX3_init 1 none, Cond.methodLink RX3 3 objectInit, Cond.fieldLink RX3 9 "SureCount$Tally" "papersOf" "[I", Cond.instanceMethod yX1_init, Cond.code yX1_init cX1_init 1 none, Cond.methodLink RX1 3 objectInit, Cond.fieldLink RX1 9 "SureCount$Papers" "boxOf" "[I", Cond.fieldLink RX1 15 "SureCount$Papers" "wordOf" "[I", Cond.fieldLink RX1 18 "SureCount$Papers" "isLost" "[Z", Cond.fieldLink RX1 22 "SureCount$Papers" "wasDrawn" "[Z", Cond.fieldLink RX1 25 "SureCount$Papers" "handsOf" "[I", Cond.fieldLink RX1 28 "SureCount$Papers" "handWords" "[I", Cond.fieldLink RX1 31 "SureCount$Papers" "size" "I", Cond.instanceMethod yX0_init, Cond.code yX0_init cX0_init 1 none, Cond.methodLink RX0 3 objectInit, Cond.fieldLink RX0 9 "SureCount$Draws" "paperOf" "[I", Cond.fieldLink RX0 15 "SureCount$Draws" "size" "I"]
def wsL_law0_r4 : List Cond := [Cond.fieldLink RX0 19 "SureCount$Draws" "dice" "J", Cond.instanceMethod yX4_init, Cond.code yX4_init cX4_init 1 none, Cond.methodLink RX4 3 objectInit, Cond.fieldLink RX4 9 "SureCount$Walk" "worstGap" "[I", Cond.fieldLink RX4 15 "SureCount$Walk" "worstMargin" "[I", Cond.constant RX4 18 (1000000000), Cond.fieldLink RX4 19 "SureCount$Walk" "riskReached" "I", Cond.fieldLink RX4 23 "SureCount$Walk" "drawsTaken" "I", Cond.methodLink RL 68 yX6_init, Cond.instanceMethod yX6_init, Cond.code yX6_init cX6_init 1 none, Cond.methodLink RX6 1 objectInit, Cond.fieldLink RX6 7 "SureCountModel" "candidates" "[I", Cond.fieldLink RX6 13 "SureCountModel" "winners" "[I", Cond.fieldLink RX6 16 "SureCountModel" "boxOf" "[I", Cond.fieldLink RX6 19 "SureCountModel" "word" "[I", Cond.fieldLink RX6 22 "SureCountModel" "drawn" "[I", Cond.fieldLink RX6 25 "SureCountModel" "isLost" "[Z", Cond.fieldLink RX6 29 "SureCountModel" "hasRead" "[Z", Cond.fieldLink RX6 32 "SureCountModel" "hand" "[I", Cond.fieldLink RX6 35 "SureCountModel" "votes" "[I", Cond.fieldLink RX6 38 "SureCountModel" "isWinner" "[Z", Cond.methodLink RL 69 yX5_race]
def wsL_law0_r5 : List Cond := [Cond.instanceMethod yX5_race, Cond.selects RX5 yX5_race yX5_race, Cond.code yX5_race cX5_race 3 (some .int), Cond.methodLink RX5 58 yX2_open, Cond.instanceMethod yX2_open, Cond.selects RX2 yX2_open yX2_open, Cond.code yX2_open cX2_open 3 none, Cond.methodLink RX2 48 yX2_pairUp, Cond.instanceMethod yX2_pairUp, Cond.selects RX2 yX2_pairUp yX2_pairUp, Cond.code yX2_pairUp cX2_pairUp 2 none, Cond.methodLink RX2 66 Lib.Math.min.name, Cond.static Lib.Math.min.name, Cond.initialized "java/lang/Math", Cond.code Lib.Math.min.name Lib.Math.min.code 2 (some .int), Cond.methodLink RX2 59 yX2_isWinner, Cond.instanceMethod yX2_isWinner, Cond.selects RX2 yX2_isWinner yX2_isWinner, Cond.code yX2_isWinner cX2_isWinner 7 (some .boolean), Cond.methodLink RX2 55 yX3_papersWith, Cond.instanceMethod yX3_papersWith, Cond.selects RX3 yX3_papersWith yX3_papersWith, Cond.code yX3_papersWith cX3_papersWith 2 (some .int), Cond.methodLink RX2 63 yX2_pairWithLosers]
def wsL_law0_r6 : List Cond := [Cond.instanceMethod yX2_pairWithLosers, Cond.selects RX2 yX2_pairWithLosers yX2_pairWithLosers, Cond.code yX2_pairWithLosers cX2_pairWithLosers 3 none, Cond.methodLink RL 72 yX6_race, Cond.instanceMethod yX6_race, Cond.selects RX6 yX6_race yX6_race, Cond.code yX6_race cX6_race 3 (some .int), Cond.fieldLink RX6 41 "SureCountModel" "thrown" "I", Cond.fieldLink RX6 45 "SureCountModel" "races" "I", Cond.fieldLink RX6 48 "SureCountModel" "papers" "I", Cond.methodLink RL 73 yX5_box, Cond.instanceMethod yX5_box, Cond.selects RX5 yX5_box yX5_box, Cond.code yX5_box cX5_box 1 (some .int), Cond.methodLink RL 77 yX6_box, Cond.instanceMethod yX6_box, Cond.selects RX6 yX6_box yX6_box, Cond.code yX6_box cX6_box 1 (some .int), Cond.fieldLink RX6 51 "SureCountModel" "boxes" "I", Cond.fieldLink RX6 54 "SureCountModel" "isSealed" "Z", Cond.methodLink RL 78 yL_paper, Cond.static yL_paper, Cond.initialized RL, Cond.codeWith yL_paper cL_paper 5 (some .int) [(0, 10, 13, 13)]]
def wsL_law0_r7 : List Cond := [Cond.classLink RL 13 "java/util/NoSuchElementException", Cond.methodLink RL 7 yX5_paper, Cond.instanceMethod yX5_paper, Cond.selects RX5 yX5_paper yX5_paper, Cond.code yX5_paper cX5_paper 4 (some .int), Cond.classLink RX5 66 "java/util/NoSuchElementException", Cond.initialized "java/util/NoSuchElementException", Cond.methodLink RX5 62 yX5_hasBox, Cond.instanceMethod yX5_hasBox, Cond.selects RX5 yX5_hasBox yX5_hasBox, Cond.code yX5_hasBox cX5_hasBox 2 (some .boolean), Cond.methodLink RX5 73 yX5_isPossible, Cond.instanceMethod yX5_isPossible, Cond.selects RX5 yX5_isPossible yX5_isPossible, Cond.code yX5_isPossible cX5_isPossible 3 (some .boolean), Cond.methodLink RX5 76 yX5_markOf, Cond.static yX5_markOf, Cond.code yX5_markOf cX5_markOf 2 (some .int), Cond.methodLink RX5 220 yX2_allows, Cond.instanceMethod yX2_allows, Cond.selects RX2 yX2_allows yX2_allows, Cond.code yX2_allows cX2_allows 2 (some .boolean), Cond.methodLink RX5 80 yX2_addWord, Cond.instanceMethod yX2_addWord]
def wsL_law0_r8 : List Cond := [Cond.selects RX2 yX2_addWord yX2_addWord, Cond.code yX2_addWord cX2_addWord 2 none, Cond.methodLink RX2 51 yX3_add, Cond.instanceMethod yX3_add, Cond.selects RX3 yX3_add yX3_add, Cond.code yX3_add cX3_add 2 none, Cond.methodLink RX5 84 yX1_add, Cond.instanceMethod yX1_add, Cond.selects RX1 yX1_add yX1_add, Cond.code yX1_add cX1_add 3 (some .int), Cond.methodLink RL 83 yX6_paper, Cond.instanceMethod yX6_paper, Cond.selects RX6 yX6_paper yX6_paper, Cond.code yX6_paper cX6_paper 3 (some .int), Cond.methodLink RX6 62 yX6_right, Cond.instanceMethod yX6_right, Cond.selects RX6 yX6_right yX6_right, Cond.code yX6_right cX6_right 3 (some .boolean), Cond.methodLink RX6 66 yX6_isWord, Cond.instanceMethod yX6_isWord, Cond.selects RX6 yX6_isWord yX6_isWord, Cond.code yX6_isWord cX6_isWord 4 (some .boolean), Cond.methodLink RX6 58 yX6_of, Cond.static yX6_of]
def wsL_law0_r9 : List Cond := [Cond.code yX6_of cX6_of 2 (some .int), Cond.methodLink RL 84 yX6_thrown, Cond.instanceMethod yX6_thrown, Cond.selects RX6 yX6_thrown yX6_thrown, Cond.code yX6_thrown cX6_thrown 1 (some .int), Cond.methodLink RL 87 yL_lose, Cond.static yL_lose, Cond.codeWith yL_lose cL_lose 5 (some .int) [(0, 17, 20, 13), (0, 17, 24, 19)], Cond.classLink RL 19 "java/lang/IllegalStateException", Cond.methodLink RL 15 yX5_lose, Cond.instanceMethod yX5_lose, Cond.selects RX5 yX5_lose yX5_lose, Cond.code yX5_lose cX5_lose 4 (some .boolean), Cond.classLink RX5 95 "java/lang/IllegalStateException", Cond.initialized "java/lang/IllegalStateException", Cond.methodLink RX5 87 yX1_has, Cond.instanceMethod yX1_has, Cond.selects RX1 yX1_has yX1_has, Cond.code yX1_has cX1_has 2 (some .boolean), Cond.methodLink RX5 92 yX1_isReadByHand, Cond.instanceMethod yX1_isReadByHand, Cond.selects RX1 yX1_isReadByHand yX1_isReadByHand, Cond.code yX1_isReadByHand cX1_isReadByHand 2 (some .boolean), Cond.methodLink RL 90 yX6_lose]
def wsL_law0_r10 : List Cond := [Cond.instanceMethod yX6_lose, Cond.selects RX6 yX6_lose yX6_lose, Cond.code yX6_lose cX6_lose 4 (some .boolean), Cond.methodLink RX6 70 yX6_isPaper, Cond.instanceMethod yX6_isPaper, Cond.selects RX6 yX6_isPaper yX6_isPaper, Cond.code yX6_isPaper cX6_isPaper 2 (some .boolean), Cond.methodLink RX6 73 yX6_isRead, Cond.instanceMethod yX6_isRead, Cond.selects RX6 yX6_isRead yX6_isRead, Cond.code yX6_isRead cX6_isRead 2 (some .boolean), Cond.methodLink RL 93 yX5_seal, Cond.instanceMethod yX5_seal, Cond.selects RX5 yX5_seal yX5_seal, Cond.code yX5_seal cX5_seal 3 (some .boolean), Cond.methodLink RX5 104 yX0_begin, Cond.instanceMethod yX0_begin, Cond.selects RX0 yX0_begin yX0_begin, Cond.code yX0_begin cX0_begin 3 none, Cond.methodLink RL 97 yX6_seal, Cond.instanceMethod yX6_seal, Cond.selects RX6 yX6_seal yX6_seal, Cond.code yX6_seal cX6_seal 3 (some .boolean), Cond.fieldLink RX6 76 "SureCountModel" "state" "J"]
def wsL_law0_r11 : List Cond := [Cond.methodLink RL 98 yL_votes, Cond.static yL_votes, Cond.codeWith yL_votes cL_votes 6 (some .int) [(0, 12, 15, 13)], Cond.methodLink RL 21 yX5_votes, Cond.instanceMethod yX5_votes, Cond.selects RX5 yX5_votes yX5_votes, Cond.code yX5_votes cX5_votes 4 (some .int), Cond.methodLink RX5 108 yX5_canTally, Cond.instanceMethod yX5_canTally, Cond.selects RX5 yX5_canTally yX5_canTally, Cond.code yX5_canTally cX5_canTally 4 (some .boolean), Cond.methodLink RX5 126 yX5_hasRace, Cond.instanceMethod yX5_hasRace, Cond.selects RX5 yX5_hasRace yX5_hasRace, Cond.code yX5_hasRace cX5_hasRace 2 (some .boolean), Cond.methodLink RX5 217 yX2_hasCandidate, Cond.instanceMethod yX2_hasCandidate, Cond.selects RX2 yX2_hasCandidate yX2_hasCandidate, Cond.code yX2_hasCandidate cX2_hasCandidate 2 (some .boolean), Cond.methodLink RX5 114 yX5_tallyOf, Cond.instanceMethod yX5_tallyOf, Cond.selects RX5 yX5_tallyOf yX5_tallyOf, Cond.code yX5_tallyOf cX5_tallyOf 4 (some (.object "SureCount$Tally")), Cond.methodLink RX5 226 yX3_clear]
def wsL_law0_r12 : List Cond := [Cond.instanceMethod yX3_clear, Cond.selects RX3 yX3_clear yX3_clear, Cond.code yX3_clear cX3_clear 1 none, Cond.methodLink RX3 15 yJ7_fill_53178, Cond.static yJ7_fill_53178, Cond.initialized RJ7, Cond.code yJ7_fill_53178 cJ7_fill_53178 4 none, Cond.methodLink RX5 229 yX1_wholeMark, Cond.instanceMethod yX1_wholeMark, Cond.selects RX1 yX1_wholeMark yX1_wholeMark, Cond.code yX1_wholeMark cX1_wholeMark 3 (some .int), Cond.methodLink RX1 35 yX1_isReadByHand, Cond.methodLink RX1 62 yX1_handsMark, Cond.instanceMethod yX1_handsMark, Cond.selects RX1 yX1_handsMark yX1_handsMark, Cond.code yX1_handsMark cX1_handsMark 6 (some .int), Cond.methodLink RX1 53 Lib.Math.max.name, Cond.static Lib.Math.max.name, Cond.code Lib.Math.max.name Lib.Math.max.code 2 (some .int), Cond.methodLink RX1 43 yX1_handMark, Cond.instanceMethod yX1_handMark, Cond.selects RX1 yX1_handMark yX1_handMark, Cond.code yX1_handMark cX1_handMark 4 (some .int), Cond.methodLink RX1 58 yX1_isReadBy]
def wsL_law0_r13 : List Cond := [Cond.instanceMethod yX1_isReadBy, Cond.selects RX1 yX1_isReadBy yX1_isReadBy, Cond.code yX1_isReadBy cX1_isReadBy 3 (some .boolean), Cond.methodLink RX1 47 yJ6_bitCount_0f7a4, Cond.static yJ6_bitCount_0f7a4, Cond.initialized RJ6, Cond.code yJ6_bitCount_0f7a4 cJ6_bitCount_0f7a4 1 (some .int), Cond.constant RJ6 265 (1431655765), Cond.constant RJ6 266 (858993459), Cond.constant RJ6 267 (252645135), Cond.methodLink RX1 65 yX1_wordMark, Cond.instanceMethod yX1_wordMark, Cond.selects RX1 yX1_wordMark yX1_wordMark, Cond.code yX1_wordMark cX1_wordMark 3 (some .int), Cond.methodLink RX5 232 yX3_add, Cond.methodLink RX5 118 yX3_papersWith, Cond.methodLink RL 101 yX6_votes, Cond.instanceMethod yX6_votes, Cond.selects RX6 yX6_votes yX6_votes, Cond.code yX6_votes cX6_votes 4 (some .int), Cond.methodLink RX6 93 yX6_isAsked, Cond.instanceMethod yX6_isAsked, Cond.selects RX6 yX6_isAsked yX6_isAsked, Cond.code yX6_isAsked cX6_isAsked 4 (some .boolean)]
def wsL_law0_r14 : List Cond := [Cond.methodLink RX6 90 yX6_isRace, Cond.instanceMethod yX6_isRace, Cond.selects RX6 yX6_isRace yX6_isRace, Cond.code yX6_isRace cX6_isRace 2 (some .boolean), Cond.methodLink RX6 87 yX6_votesOf, Cond.instanceMethod yX6_votesOf, Cond.selects RX6 yX6_votesOf yX6_votesOf, Cond.code yX6_votesOf cX6_votesOf 6 (some .int), Cond.methodLink RX6 83 yX6_says, Cond.instanceMethod yX6_says, Cond.selects RX6 yX6_says yX6_says, Cond.code yX6_says cX6_says 4 (some .int), Cond.methodLink RX6 80 yX6_readingOf, Cond.instanceMethod yX6_readingOf, Cond.selects RX6 yX6_readingOf yX6_readingOf, Cond.code yX6_readingOf cX6_readingOf 8 (some .int), Cond.methodLink RL 102 yL_wins, Cond.static yL_wins, Cond.codeWith yL_wins cL_wins 6 (some .int) [(0, 19, 22, 13)], Cond.methodLink RL 25 yX5_wins, Cond.instanceMethod yX5_wins, Cond.selects RX5 yX5_wins yX5_wins, Cond.code yX5_wins cX5_wins 4 (some .boolean), Cond.methodLink RX5 122 yX2_isWinner]
def wsL_law0_r15 : List Cond := [Cond.methodLink RL 104 yX6_wins, Cond.instanceMethod yX6_wins, Cond.selects RX6 yX6_wins yX6_wins, Cond.code yX6_wins cX6_wins 4 (some .boolean), Cond.methodLink RX6 97 yX6_winsBy, Cond.instanceMethod yX6_winsBy, Cond.selects RX6 yX6_winsBy yX6_winsBy, Cond.code yX6_winsBy cX6_winsBy 8 (some .boolean), Cond.methodLink RL 105 yL_about, Cond.static yL_about, Cond.codeWith yL_about cL_about 5 (some .int) [(0, 10, 13, 13)], Cond.methodLink RL 29 yX5_about, Cond.instanceMethod yX5_about, Cond.selects RX5 yX5_about yX5_about, Cond.code yX5_about cX5_about 3 (some .int), Cond.methodLink RL 107 yX6_about, Cond.instanceMethod yX6_about, Cond.selects RX6 yX6_about yX6_about, Cond.code yX6_about cX6_about 3 (some .int), Cond.fieldLink RX6 100 "SureCountModel" "having" "I", Cond.fieldLink RX6 104 "SureCountModel" "margin" "I", Cond.methodLink RX6 107 yX6_knows, Cond.instanceMethod yX6_knows, Cond.selects RX6 yX6_knows yX6_knows]
def wsL_law0_r16 : List Cond := [Cond.code yX6_knows cX6_knows 4 none, Cond.constant RX6 103 (1000000000), Cond.methodLink RL 108 yL_draw, Cond.static yL_draw, Cond.codeWith yL_draw cL_draw 4 (some .int) [(0, 9, 12, 36)], Cond.classLink RL 36 "java/lang/IllegalArgumentException", Cond.methodLink RL 32 yX5_draw, Cond.instanceMethod yX5_draw, Cond.selects RX5 yX5_draw yX5_draw, Cond.code yX5_draw cX5_draw 3 (some .int), Cond.classLink RX5 143 "java/lang/IllegalArgumentException", Cond.initialized "java/lang/IllegalArgumentException", Cond.methodLink RX5 152 yX0_addOne, Cond.instanceMethod yX0_addOne, Cond.selects RX0 yX0_addOne yX0_addOne, Cond.code yX0_addOne cX0_addOne 3 (some .int), Cond.constantLong RX0 23 (6364136223846793005), Cond.constantLong RX0 25 (1442695040888963407), Cond.methodLink RL 111 yX6_draw, Cond.instanceMethod yX6_draw, Cond.selects RX6 yX6_draw yX6_draw, Cond.code yX6_draw cX6_draw 3 (some .int), Cond.fieldLink RX6 111 "SureCountModel" "draws" "I", Cond.constantLong RX6 114 (6364136223846793005)]
def wsL_law0_r17 : List Cond := [Cond.constantLong RX6 116 (1442695040888963407), Cond.methodLink RL 112 yL_drawn, Cond.static yL_drawn, Cond.codeWith yL_drawn cL_drawn 4 (some .int) [(0, 9, 12, 13)], Cond.methodLink RL 38 yX5_drawn, Cond.instanceMethod yX5_drawn, Cond.selects RX5 yX5_drawn yX5_drawn, Cond.code yX5_drawn cX5_drawn 2 (some .int), Cond.methodLink RX5 155 yX0_has, Cond.instanceMethod yX0_has, Cond.selects RX0 yX0_has yX0_has, Cond.code yX0_has cX0_has 2 (some .boolean), Cond.methodLink RL 114 yX6_drawn, Cond.instanceMethod yX6_drawn, Cond.selects RX6 yX6_drawn yX6_drawn, Cond.code yX6_drawn cX6_drawn 2 (some .int), Cond.methodLink RL 115 yX5_waits, Cond.instanceMethod yX5_waits, Cond.selects RX5 yX5_waits yX5_waits, Cond.code yX5_waits cX5_waits 2 (some .int), Cond.methodLink RX5 162 yX0_settled, Cond.instanceMethod yX0_settled, Cond.selects RX0 yX0_settled yX0_settled, Cond.code yX0_settled cX0_settled 3 (some .int)]
def wsL_law0_r18 : List Cond := [Cond.methodLink RX0 27 yX1_isSettled, Cond.instanceMethod yX1_isSettled, Cond.selects RX1 yX1_isSettled yX1_isSettled, Cond.code yX1_isSettled cX1_isSettled 2 (some .boolean), Cond.methodLink RL 118 yX6_waits, Cond.instanceMethod yX6_waits, Cond.selects RX6 yX6_waits yX6_waits, Cond.code yX6_waits cX6_waits 2 (some .int), Cond.methodLink RX6 118 yX6_isKnown, Cond.instanceMethod yX6_isKnown, Cond.selects RX6 yX6_isKnown yX6_isKnown, Cond.code yX6_isKnown cX6_isKnown 2 (some .boolean), Cond.methodLink RL 119 yL_pulled, Cond.static yL_pulled, Cond.codeWith yL_pulled cL_pulled 4 (some .int) [(0, 9, 12, 13)], Cond.methodLink RL 41 yX5_pulled, Cond.instanceMethod yX5_pulled, Cond.selects RX5 yX5_pulled yX5_pulled, Cond.code yX5_pulled cX5_pulled 4 (some .int), Cond.methodLink RL 121 yX6_pulled, Cond.instanceMethod yX6_pulled, Cond.selects RX6 yX6_pulled yX6_pulled, Cond.code yX6_pulled cX6_pulled 4 (some .int), Cond.methodLink RX6 121 yX6_isDrawn]
def wsL_law0_r19 : List Cond := [Cond.instanceMethod yX6_isDrawn, Cond.selects RX6 yX6_isDrawn yX6_isDrawn, Cond.code yX6_isDrawn cX6_isDrawn 3 (some .boolean), Cond.methodLink RL 122 yL_read, Cond.static yL_read, Cond.codeWith yL_read cL_read 6 (some .int) [(0, 19, 22, 13)], Cond.methodLink RL 44 yX5_read, Cond.instanceMethod yX5_read, Cond.selects RX5 yX5_read yX5_read, Cond.code yX5_read cX5_read 4 (some .boolean), Cond.methodLink RX5 171 yX1_isReadBy, Cond.methodLink RX5 175 yX1_keepHandWord, Cond.instanceMethod yX1_keepHandWord, Cond.selects RX1 yX1_keepHandWord yX1_keepHandWord, Cond.code yX1_keepHandWord cX1_keepHandWord 4 none, Cond.methodLink RL 124 yX6_read, Cond.instanceMethod yX6_read, Cond.selects RX6 yX6_read yX6_read, Cond.code yX6_read cX6_read 4 (some .boolean), Cond.methodLink RL 125 yL_reading, Cond.static yL_reading, Cond.codeWith yL_reading cL_reading 5 (some .int) [(0, 10, 13, 13)], Cond.methodLink RL 47 yX5_reading, Cond.instanceMethod yX5_reading]
def wsL_law0_r20 : List Cond := [Cond.selects RX5 yX5_reading yX5_reading, Cond.code yX5_reading cX5_reading 3 (some .int), Cond.methodLink RX5 179 yX1_handsMark, Cond.methodLink RL 127 yX6_reading, Cond.instanceMethod yX6_reading, Cond.selects RX6 yX6_reading yX6_reading, Cond.code yX6_reading cX6_reading 3 (some .int), Cond.methodLink RL 128 yL_risk, Cond.static yL_risk, Cond.codeWith yL_risk cL_risk 4 (some .int) [(0, 9, 12, 13)], Cond.methodLink RL 50 yX5_risk, Cond.instanceMethod yX5_risk, Cond.selects RX5 yX5_risk yX5_risk, Cond.code yX5_risk cX5_risk 2 (some .int), Cond.methodLink RX5 182 yX5_hasRisk, Cond.instanceMethod yX5_hasRisk, Cond.selects RX5 yX5_hasRisk yX5_hasRisk, Cond.code yX5_hasRisk cX5_hasRisk 2 (some .boolean), Cond.methodLink RX5 185 yX4_follow, Cond.instanceMethod yX4_follow, Cond.selects RX4 yX4_follow yX4_follow, Cond.code yX4_follow cX4_follow 8 none, Cond.methodLink RX4 31 yX4_weigh, Cond.instanceMethod yX4_weigh]
def wsL_law0_r21 : List Cond := [Cond.selects RX4 yX4_weigh yX4_weigh, Cond.code yX4_weigh cX4_weigh 12 none, Cond.methodLink RX4 50 yX1_wordMark, Cond.methodLink RX4 54 yX1_handsMark, Cond.methodLink RX4 61 yX4_isTaken, Cond.static yX4_isTaken, Cond.code yX4_isTaken cX4_isTaken 3 (some .boolean), Cond.methodLink RX4 77 yX4_lead, Cond.static yX4_lead, Cond.code yX4_lead cX4_lead 3 (some .int), Cond.methodLink RX4 35 yX0_settled, Cond.methodLink RX4 44 yX2_carryOn, Cond.instanceMethod yX2_carryOn, Cond.selects RX2 yX2_carryOn yX2_carryOn, Cond.code yX2_carryOn cX2_carryOn 8 (some .int), Cond.constantLong RX2 72 (22), Cond.constantLong RX2 74 (10), Cond.constant RX2 76 (1000000000), Cond.constantLong RX2 77 (1000000000), Cond.methodLink RX2 79 Lib.MathLoose.min_long.x, Cond.static Lib.MathLoose.min_long.x, Cond.code Lib.MathLoose.min_long.x Lib.MathLoose.min_long.code 4 (some .long), Cond.methodLink RL 130 yX6_risk, Cond.instanceMethod yX6_risk]
def wsL_law0_r22 : List Cond := [Cond.selects RX6 yX6_risk yX6_risk, Cond.code yX6_risk cX6_risk 2 (some .int), Cond.methodLink RX6 154 yX6_riskOf, Cond.instanceMethod yX6_riskOf, Cond.selects RX6 yX6_riskOf yX6_riskOf, Cond.code yX6_riskOf cX6_riskOf 7 (some .int), Cond.fieldLink RX6 133 "SureCountModel" "took" "I", Cond.constantLong RX6 136 (1000000000), Cond.constantLong RX6 146 (22), Cond.constantLong RX6 148 (10), Cond.fieldLink RX6 124 "SureCountModel" "m" "I", Cond.fieldLink RX6 130 "SureCountModel" "x" "I", Cond.methodLink RX6 138 yX6_isTaken, Cond.instanceMethod yX6_isTaken, Cond.selects RX6 yX6_isTaken yX6_isTaken, Cond.code yX6_isTaken cX6_isTaken 3 (some .boolean), Cond.methodLink RX6 142 yX6_taints, Cond.instanceMethod yX6_taints, Cond.selects RX6 yX6_taints yX6_taints, Cond.code yX6_taints cX6_taints 7 none, Cond.methodLink RX6 127 yX6_gives, Cond.static yX6_gives, Cond.code yX6_gives cX6_gives 3 (some .int), Cond.methodLink RX6 150 yX6_divides]
def wsL_law0_r23 : List Cond := [Cond.instanceMethod yX6_divides, Cond.selects RX6 yX6_divides yX6_divides, Cond.code yX6_divides cX6_divides 5 (some .long), Cond.methodLink RL 131 yL_taken, Cond.static yL_taken, Cond.codeWith yL_taken cL_taken 4 (some .int) [(0, 9, 12, 13)], Cond.methodLink RL 53 yX5_taken, Cond.instanceMethod yX5_taken, Cond.selects RX5 yX5_taken yX5_taken, Cond.code yX5_taken cX5_taken 2 (some .int), Cond.methodLink RL 133 yX6_taken, Cond.instanceMethod yX6_taken, Cond.selects RX6 yX6_taken yX6_taken, Cond.code yX6_taken cX6_taken 2 (some .int), Cond.methodLink RL 134 yL_taint, Cond.static yL_taint, Cond.codeWith yL_taint cL_taint 5 (some .int) [(0, 10, 13, 13)], Cond.methodLink RL 56 yX5_taint, Cond.instanceMethod yX5_taint, Cond.selects RX5 yX5_taint yX5_taint, Cond.code yX5_taint cX5_taint 4 (some .int), Cond.methodLink RX5 195 yX4_weigh, Cond.methodLink RL 136 yX6_taint, Cond.instanceMethod yX6_taint]
def wsL_law0_r24 : List Cond := [Cond.selects RX6 yX6_taint yX6_taint, Cond.code yX6_taint cX6_taint 5 (some .int), Cond.methodLink RL 137 yL_need, Cond.static yL_need, Cond.codeWith yL_need cL_need 5 (some .int) [(0, 10, 13, 13), (0, 10, 17, 36)], Cond.methodLink RL 59 yX5_need, Cond.instanceMethod yX5_need, Cond.selects RX5 yX5_need yX5_need, Cond.code yX5_need cX5_need 3 (some .int), Cond.constant RX5 202 (1000000000), Cond.methodLink RX5 205 yX2_cleanDrawsUntil, Cond.instanceMethod yX2_cleanDrawsUntil, Cond.selects RX2 yX2_cleanDrawsUntil yX2_cleanDrawsUntil, Cond.code yX2_cleanDrawsUntil cX2_cleanDrawsUntil 6 (some .int), Cond.constant RX2 82 (100000), Cond.methodLink RX2 83 yX2_carryOn, Cond.methodLink RL 139 yX6_need, Cond.instanceMethod yX6_need, Cond.selects RX6 yX6_need yX6_need, Cond.code yX6_need cX6_need 6 (some .int), Cond.constantLong RX6 158 (-1), Cond.constant RX6 160 (100000), Cond.methodLink RL 140 yL_count, Cond.static yL_count]
def wsL_law0_r25 : List Cond := [Cond.codeWith yL_count cL_count 4 (some .int) [(0, 9, 12, 13)], Cond.methodLink RL 62 yX5_count, Cond.instanceMethod yX5_count, Cond.selects RX5 yX5_count yX5_count, Cond.code yX5_count cX5_count 2 (some .int), Cond.methodLink RX5 208 yX1_lostOnes, Cond.instanceMethod yX1_lostOnes, Cond.selects RX1 yX1_lostOnes yX1_lostOnes, Cond.code yX1_lostOnes cX1_lostOnes 3 (some .int), Cond.methodLink RX5 212 yX1_readOnes, Cond.instanceMethod yX1_readOnes, Cond.selects RX1 yX1_readOnes yX1_readOnes, Cond.code yX1_readOnes cX1_readOnes 3 (some .int), Cond.methodLink RL 142 yX6_count, Cond.instanceMethod yX6_count, Cond.selects RX6 yX6_count yX6_count, Cond.code yX6_count cX6_count 4 (some .int)]
def wsL_law0 : List Cond := (wsL_law0_r1 ++ (wsL_law0_r2 ++ (wsL_law0_r3 ++ (wsL_law0_r4 ++ (wsL_law0_r5 ++ (wsL_law0_r6 ++ (wsL_law0_r7 ++ (wsL_law0_r8 ++ (wsL_law0_r9 ++ (wsL_law0_r10 ++ (wsL_law0_r11 ++ (wsL_law0_r12 ++ (wsL_law0_r13 ++ (wsL_law0_r14 ++ (wsL_law0_r15 ++ (wsL_law0_r16 ++ (wsL_law0_r17 ++ (wsL_law0_r18 ++ (wsL_law0_r19 ++ (wsL_law0_r20 ++ (wsL_law0_r21 ++ (wsL_law0_r22 ++ (wsL_law0_r23 ++ (wsL_law0_r24 ++ wsL_law0_r25)))))))))))))))))))))))) ++ wsX50 ++ wsX60 ++ wsX20 ++ wsX10 ++ wsX00 ++ wsX40 ++ wsX30 ++ ([] : List Cond)
def wsL_law : List Cond := wsL_law0 ++ (sx_atX RX5 70 "java/util/NoSuchElementException" 13 sx_rx13 "java/lang/RuntimeException" ["java/lang/Exception"]).filter goodWord ++ (vx_atS RX5 99 "java/lang/IllegalStateException" ["java/lang/RuntimeException", "java/lang/Exception"]).filter goodWord ++ (vx_atS RX5 147 "java/lang/IllegalArgumentException" ["java/lang/RuntimeException", "java/lang/Exception"]).filter goodWord
theorem dX0_init_0 : decode cX0_init 0 = .ok (.aload_n 0, 1) := by decide +kernel
theorem dX0_init_1 : decode cX0_init 1 = .ok (.invokespecial 3, 3) := by decide +kernel
theorem dX0_init_4 : decode cX0_init 4 = .ok (.aload_n 0, 1) := by decide +kernel
theorem dX0_init_5 : decode cX0_init 5 = .ok (.sipush 2000, 3) := by decide +kernel
theorem dX0_init_8 : decode cX0_init 8 = .ok (.newarray .int, 2) := by decide +kernel
theorem dX0_init_10 : decode cX0_init 10 = .ok (.putfield 9, 3) := by decide +kernel
theorem dX0_init_13 : decode cX0_init 13 = .ok (.aload_n 0, 1) := by decide +kernel
theorem dX0_init_14 : decode cX0_init 14 = .ok (.iconst 0, 1) := by decide +kernel
theorem dX0_init_15 : decode cX0_init 15 = .ok (.putfield 15, 3) := by decide +kernel
theorem dX0_init_18 : decode cX0_init 18 = .ok (.aload_n 0, 1) := by decide +kernel
theorem dX0_init_19 : decode cX0_init 19 = .ok (.lconst 0, 1) := by decide +kernel
theorem dX0_init_20 : decode cX0_init 20 = .ok (.putfield 19, 3) := by decide +kernel
theorem dX0_init_23 : decode cX0_init 23 = .ok (.return_, 1) := by decide +kernel
theorem dX0_begin_0 : decode cX0_begin 0 = .ok (.aload_n 0, 1) := by decide +kernel
theorem dX0_begin_1 : decode cX0_begin 1 = .ok (.lload_n 1, 1) := by decide +kernel
theorem dX0_begin_2 : decode cX0_begin 2 = .ok (.putfield 19, 3) := by decide +kernel
theorem dX0_begin_5 : decode cX0_begin 5 = .ok (.return_, 1) := by decide +kernel
theorem dX0_has_0 : decode cX0_has 0 = .ok (.iload_n 1, 1) := by decide +kernel
theorem dX0_has_1 : decode cX0_has 1 = .ok (.ifCond .lt 15, 3) := by decide +kernel
theorem dX0_has_4 : decode cX0_has 4 = .ok (.iload_n 1, 1) := by decide +kernel
theorem dX0_has_5 : decode cX0_has 5 = .ok (.aload_n 0, 1) := by decide +kernel
theorem dX0_has_6 : decode cX0_has 6 = .ok (.getfield 15, 3) := by decide +kernel
theorem dX0_has_9 : decode cX0_has 9 = .ok (.if_icmp .ge 7, 3) := by decide +kernel
theorem dX0_has_12 : decode cX0_has 12 = .ok (.iconst 1, 1) := by decide +kernel
theorem dX0_has_13 : decode cX0_has 13 = .ok (.goto 4, 3) := by decide +kernel
theorem dX0_has_16 : decode cX0_has 16 = .ok (.iconst 0, 1) := by decide +kernel
theorem dX0_has_17 : decode cX0_has 17 = .ok (.ireturn, 1) := by decide +kernel
theorem dX0_addOne_0 : decode cX0_addOne 0 = .ok (.iload_n 1, 1) := by decide +kernel
theorem dX0_addOne_1 : decode cX0_addOne 1 = .ok (.ifCond .le 13, 3) := by decide +kernel
theorem dX0_addOne_4 : decode cX0_addOne 4 = .ok (.aload_n 0, 1) := by decide +kernel
theorem dX0_addOne_5 : decode cX0_addOne 5 = .ok (.getfield 15, 3) := by decide +kernel
theorem dX0_addOne_8 : decode cX0_addOne 8 = .ok (.sipush 2000, 3) := by decide +kernel
theorem dX0_addOne_11 : decode cX0_addOne 11 = .ok (.if_icmp .lt 5, 3) := by decide +kernel
theorem dX0_addOne_14 : decode cX0_addOne 14 = .ok (.iconst 0, 1) := by decide +kernel
theorem dX0_addOne_15 : decode cX0_addOne 15 = .ok (.ireturn, 1) := by decide +kernel
theorem dX0_addOne_16 : decode cX0_addOne 16 = .ok (.aload_n 0, 1) := by decide +kernel
theorem dX0_addOne_17 : decode cX0_addOne 17 = .ok (.aload_n 0, 1) := by decide +kernel
theorem dX0_addOne_18 : decode cX0_addOne 18 = .ok (.getfield 19, 3) := by decide +kernel
theorem dX0_addOne_21 : decode cX0_addOne 21 = .ok (.ldc2_w 23, 3) := by decide +kernel
theorem dX0_addOne_24 : decode cX0_addOne 24 = .ok (.lmul, 1) := by decide +kernel
theorem dX0_addOne_25 : decode cX0_addOne 25 = .ok (.ldc2_w 25, 3) := by decide +kernel
theorem dX0_addOne_28 : decode cX0_addOne 28 = .ok (.ladd, 1) := by decide +kernel
theorem dX0_addOne_29 : decode cX0_addOne 29 = .ok (.putfield 19, 3) := by decide +kernel
theorem dX0_addOne_32 : decode cX0_addOne 32 = .ok (.aload_n 0, 1) := by decide +kernel
theorem dX0_addOne_33 : decode cX0_addOne 33 = .ok (.getfield 19, 3) := by decide +kernel
theorem dX0_addOne_36 : decode cX0_addOne 36 = .ok (.bipush 33, 2) := by decide +kernel
theorem dX0_addOne_38 : decode cX0_addOne 38 = .ok (.lushr, 1) := by decide +kernel
theorem dX0_addOne_39 : decode cX0_addOne 39 = .ok (.iload_n 1, 1) := by decide +kernel
theorem dX0_addOne_40 : decode cX0_addOne 40 = .ok (.i2l, 1) := by decide +kernel
theorem dX0_addOne_41 : decode cX0_addOne 41 = .ok (.lrem, 1) := by decide +kernel
theorem dX0_addOne_42 : decode cX0_addOne 42 = .ok (.l2i, 1) := by decide +kernel
theorem dX0_addOne_43 : decode cX0_addOne 43 = .ok (.istore_n 2, 1) := by decide +kernel
theorem dX0_addOne_44 : decode cX0_addOne 44 = .ok (.aload_n 0, 1) := by decide +kernel
theorem dX0_addOne_45 : decode cX0_addOne 45 = .ok (.getfield 9, 3) := by decide +kernel
theorem dX0_addOne_48 : decode cX0_addOne 48 = .ok (.aload_n 0, 1) := by decide +kernel
theorem dX0_addOne_49 : decode cX0_addOne 49 = .ok (.getfield 15, 3) := by decide +kernel
theorem dX0_addOne_52 : decode cX0_addOne 52 = .ok (.iload_n 2, 1) := by decide +kernel
theorem dX0_addOne_53 : decode cX0_addOne 53 = .ok (.iastore, 1) := by decide +kernel
theorem dX0_addOne_54 : decode cX0_addOne 54 = .ok (.aload_n 0, 1) := by decide +kernel
theorem dX0_addOne_55 : decode cX0_addOne 55 = .ok (.dup, 1) := by decide +kernel
theorem dX0_addOne_56 : decode cX0_addOne 56 = .ok (.getfield 15, 3) := by decide +kernel
theorem dX0_addOne_59 : decode cX0_addOne 59 = .ok (.iconst 1, 1) := by decide +kernel
theorem dX0_addOne_60 : decode cX0_addOne 60 = .ok (.iadd, 1) := by decide +kernel
theorem dX0_addOne_61 : decode cX0_addOne 61 = .ok (.putfield 15, 3) := by decide +kernel
theorem dX0_addOne_64 : decode cX0_addOne 64 = .ok (.iload_n 2, 1) := by decide +kernel
theorem dX0_addOne_65 : decode cX0_addOne 65 = .ok (.ireturn, 1) := by decide +kernel
set_option maxRecDepth 20000 in
theorem ggX0_settled_X1_isSettled : GoodIn wsX0_settled wsX1_isSettled := goodIn_r _ [7, 8, 9, 10, 11, 6, 12, 13, 17, 18, 19, 20, 21, 22, 23] (by decide +kernel) (by decide +kernel)
set_option maxRecDepth 20000 in
theorem gX0_settled_X1_isSettled : GoodIn wsX0_settled (wsV RX0 27 RX1 yX1_isSettled wsX1_isSettled) := goodIn_app (goodIn_of _ (by decide +kernel)) ggX0_settled_X1_isSettled
theorem dX0_settled_0 : decode cX0_settled 0 = .ok (.iconst 0, 1) := by decide +kernel
theorem dX0_settled_1 : decode cX0_settled 1 = .ok (.istore_n 2, 1) := by decide +kernel
theorem dX0_settled_2 : decode cX0_settled 2 = .ok (.iload_n 2, 1) := by decide +kernel
theorem dX0_settled_3 : decode cX0_settled 3 = .ok (.aload_n 0, 1) := by decide +kernel
theorem dX0_settled_4 : decode cX0_settled 4 = .ok (.getfield 15, 3) := by decide +kernel
theorem dX0_settled_7 : decode cX0_settled 7 = .ok (.if_icmp .ge 24, 3) := by decide +kernel
theorem dX0_settled_10 : decode cX0_settled 10 = .ok (.aload_n 1, 1) := by decide +kernel
theorem dX0_settled_11 : decode cX0_settled 11 = .ok (.aload_n 0, 1) := by decide +kernel
theorem dX0_settled_12 : decode cX0_settled 12 = .ok (.getfield 9, 3) := by decide +kernel
theorem dX0_settled_15 : decode cX0_settled 15 = .ok (.iload_n 2, 1) := by decide +kernel
theorem dX0_settled_16 : decode cX0_settled 16 = .ok (.iaload, 1) := by decide +kernel
theorem dX0_settled_17 : decode cX0_settled 17 = .ok (.invokevirtual 27, 3) := by decide +kernel
theorem dX0_settled_20 : decode cX0_settled 20 = .ok (.ifCond .ne 5, 3) := by decide +kernel
theorem dX0_settled_23 : decode cX0_settled 23 = .ok (.iload_n 2, 1) := by decide +kernel
theorem dX0_settled_24 : decode cX0_settled 24 = .ok (.ireturn, 1) := by decide +kernel
theorem dX0_settled_25 : decode cX0_settled 25 = .ok (.iinc 2 1, 3) := by decide +kernel
theorem dX0_settled_28 : decode cX0_settled 28 = .ok (.goto (-26), 3) := by decide +kernel
theorem dX0_settled_31 : decode cX0_settled 31 = .ok (.aload_n 0, 1) := by decide +kernel
theorem dX0_settled_32 : decode cX0_settled 32 = .ok (.getfield 15, 3) := by decide +kernel
theorem dX0_settled_35 : decode cX0_settled 35 = .ok (.ireturn, 1) := by decide +kernel
theorem dX1_init_0 : decode cX1_init 0 = .ok (.aload_n 0, 1) := by decide +kernel
theorem dX1_init_1 : decode cX1_init 1 = .ok (.invokespecial 3, 3) := by decide +kernel
theorem dX1_init_4 : decode cX1_init 4 = .ok (.aload_n 0, 1) := by decide +kernel
theorem dX1_init_5 : decode cX1_init 5 = .ok (.sipush 300, 3) := by decide +kernel
theorem dX1_init_8 : decode cX1_init 8 = .ok (.newarray .int, 2) := by decide +kernel
theorem dX1_init_10 : decode cX1_init 10 = .ok (.putfield 9, 3) := by decide +kernel
theorem dX1_init_13 : decode cX1_init 13 = .ok (.aload_n 0, 1) := by decide +kernel
theorem dX1_init_14 : decode cX1_init 14 = .ok (.sipush 300, 3) := by decide +kernel
theorem dX1_init_17 : decode cX1_init 17 = .ok (.newarray .int, 2) := by decide +kernel
theorem dX1_init_19 : decode cX1_init 19 = .ok (.putfield 15, 3) := by decide +kernel
theorem dX1_init_22 : decode cX1_init 22 = .ok (.aload_n 0, 1) := by decide +kernel
theorem dX1_init_23 : decode cX1_init 23 = .ok (.sipush 300, 3) := by decide +kernel
theorem dX1_init_26 : decode cX1_init 26 = .ok (.newarray .boolean, 2) := by decide +kernel
theorem dX1_init_28 : decode cX1_init 28 = .ok (.putfield 18, 3) := by decide +kernel
theorem dX1_init_31 : decode cX1_init 31 = .ok (.aload_n 0, 1) := by decide +kernel
theorem dX1_init_32 : decode cX1_init 32 = .ok (.sipush 300, 3) := by decide +kernel
theorem dX1_init_35 : decode cX1_init 35 = .ok (.newarray .boolean, 2) := by decide +kernel
theorem dX1_init_37 : decode cX1_init 37 = .ok (.putfield 22, 3) := by decide +kernel
theorem dX1_init_40 : decode cX1_init 40 = .ok (.aload_n 0, 1) := by decide +kernel
theorem dX1_init_41 : decode cX1_init 41 = .ok (.sipush 300, 3) := by decide +kernel
theorem dX1_init_44 : decode cX1_init 44 = .ok (.newarray .int, 2) := by decide +kernel
theorem dX1_init_46 : decode cX1_init 46 = .ok (.putfield 25, 3) := by decide +kernel
theorem dX1_init_49 : decode cX1_init 49 = .ok (.aload_n 0, 1) := by decide +kernel
theorem dX1_init_50 : decode cX1_init 50 = .ok (.sipush 900, 3) := by decide +kernel
theorem dX1_init_53 : decode cX1_init 53 = .ok (.newarray .int, 2) := by decide +kernel
theorem dX1_init_55 : decode cX1_init 55 = .ok (.putfield 28, 3) := by decide +kernel
theorem dX1_init_58 : decode cX1_init 58 = .ok (.aload_n 0, 1) := by decide +kernel
theorem dX1_init_59 : decode cX1_init 59 = .ok (.iconst 0, 1) := by decide +kernel
theorem dX1_init_60 : decode cX1_init 60 = .ok (.putfield 31, 3) := by decide +kernel
theorem dX1_init_63 : decode cX1_init 63 = .ok (.return_, 1) := by decide +kernel
theorem dX1_has_0 : decode cX1_has 0 = .ok (.iload_n 1, 1) := by decide +kernel
theorem dX1_has_1 : decode cX1_has 1 = .ok (.ifCond .lt 15, 3) := by decide +kernel
theorem dX1_has_4 : decode cX1_has 4 = .ok (.iload_n 1, 1) := by decide +kernel
theorem dX1_has_5 : decode cX1_has 5 = .ok (.aload_n 0, 1) := by decide +kernel
theorem dX1_has_6 : decode cX1_has 6 = .ok (.getfield 31, 3) := by decide +kernel
theorem dX1_has_9 : decode cX1_has 9 = .ok (.if_icmp .ge 7, 3) := by decide +kernel
theorem dX1_has_12 : decode cX1_has 12 = .ok (.iconst 1, 1) := by decide +kernel
theorem dX1_has_13 : decode cX1_has 13 = .ok (.goto 4, 3) := by decide +kernel
theorem dX1_has_16 : decode cX1_has 16 = .ok (.iconst 0, 1) := by decide +kernel
theorem dX1_has_17 : decode cX1_has 17 = .ok (.ireturn, 1) := by decide +kernel
theorem dX1_add_0 : decode cX1_add 0 = .ok (.aload_n 0, 1) := by decide +kernel
theorem dX1_add_1 : decode cX1_add 1 = .ok (.getfield 9, 3) := by decide +kernel
theorem dX1_add_4 : decode cX1_add 4 = .ok (.aload_n 0, 1) := by decide +kernel
theorem dX1_add_5 : decode cX1_add 5 = .ok (.getfield 31, 3) := by decide +kernel
theorem dX1_add_8 : decode cX1_add 8 = .ok (.iload_n 1, 1) := by decide +kernel
theorem dX1_add_9 : decode cX1_add 9 = .ok (.iastore, 1) := by decide +kernel
theorem dX1_add_10 : decode cX1_add 10 = .ok (.aload_n 0, 1) := by decide +kernel
theorem dX1_add_11 : decode cX1_add 11 = .ok (.getfield 15, 3) := by decide +kernel
theorem dX1_add_14 : decode cX1_add 14 = .ok (.aload_n 0, 1) := by decide +kernel
theorem dX1_add_15 : decode cX1_add 15 = .ok (.getfield 31, 3) := by decide +kernel
theorem dX1_add_18 : decode cX1_add 18 = .ok (.iload_n 2, 1) := by decide +kernel
theorem dX1_add_19 : decode cX1_add 19 = .ok (.iastore, 1) := by decide +kernel
theorem dX1_add_20 : decode cX1_add 20 = .ok (.aload_n 0, 1) := by decide +kernel
theorem dX1_add_21 : decode cX1_add 21 = .ok (.dup, 1) := by decide +kernel
theorem dX1_add_22 : decode cX1_add 22 = .ok (.getfield 31, 3) := by decide +kernel
theorem dX1_add_25 : decode cX1_add 25 = .ok (.iconst 1, 1) := by decide +kernel
theorem dX1_add_26 : decode cX1_add 26 = .ok (.iadd, 1) := by decide +kernel
theorem dX1_add_27 : decode cX1_add 27 = .ok (.putfield 31, 3) := by decide +kernel
theorem dX1_add_30 : decode cX1_add 30 = .ok (.aload_n 0, 1) := by decide +kernel
theorem dX1_add_31 : decode cX1_add 31 = .ok (.getfield 31, 3) := by decide +kernel
theorem dX1_add_34 : decode cX1_add 34 = .ok (.iconst 1, 1) := by decide +kernel
theorem dX1_add_35 : decode cX1_add 35 = .ok (.isub, 1) := by decide +kernel
theorem dX1_add_36 : decode cX1_add 36 = .ok (.ireturn, 1) := by decide +kernel
theorem dX1_keepHandWord_0 : decode cX1_keepHandWord 0 = .ok (.aload_n 0, 1) := by decide +kernel
theorem dX1_keepHandWord_1 : decode cX1_keepHandWord 1 = .ok (.getfield 28, 3) := by decide +kernel
theorem dX1_keepHandWord_4 : decode cX1_keepHandWord 4 = .ok (.iload_n 1, 1) := by decide +kernel
theorem dX1_keepHandWord_5 : decode cX1_keepHandWord 5 = .ok (.iconst 3, 1) := by decide +kernel
theorem dX1_keepHandWord_6 : decode cX1_keepHandWord 6 = .ok (.imul, 1) := by decide +kernel
theorem dX1_keepHandWord_7 : decode cX1_keepHandWord 7 = .ok (.iload_n 2, 1) := by decide +kernel
theorem dX1_keepHandWord_8 : decode cX1_keepHandWord 8 = .ok (.iadd, 1) := by decide +kernel
theorem dX1_keepHandWord_9 : decode cX1_keepHandWord 9 = .ok (.iload_n 3, 1) := by decide +kernel
theorem dX1_keepHandWord_10 : decode cX1_keepHandWord 10 = .ok (.iastore, 1) := by decide +kernel
theorem dX1_keepHandWord_11 : decode cX1_keepHandWord 11 = .ok (.aload_n 0, 1) := by decide +kernel
theorem dX1_keepHandWord_12 : decode cX1_keepHandWord 12 = .ok (.getfield 25, 3) := by decide +kernel
theorem dX1_keepHandWord_15 : decode cX1_keepHandWord 15 = .ok (.iload_n 1, 1) := by decide +kernel
theorem dX1_keepHandWord_16 : decode cX1_keepHandWord 16 = .ok (.dup2, 1) := by decide +kernel
theorem dX1_keepHandWord_17 : decode cX1_keepHandWord 17 = .ok (.iaload, 1) := by decide +kernel
theorem dX1_keepHandWord_18 : decode cX1_keepHandWord 18 = .ok (.iconst 1, 1) := by decide +kernel
theorem dX1_keepHandWord_19 : decode cX1_keepHandWord 19 = .ok (.iload_n 2, 1) := by decide +kernel
theorem dX1_keepHandWord_20 : decode cX1_keepHandWord 20 = .ok (.ishl, 1) := by decide +kernel
theorem dX1_keepHandWord_21 : decode cX1_keepHandWord 21 = .ok (.ior, 1) := by decide +kernel
theorem dX1_keepHandWord_22 : decode cX1_keepHandWord 22 = .ok (.iastore, 1) := by decide +kernel
theorem dX1_keepHandWord_23 : decode cX1_keepHandWord 23 = .ok (.return_, 1) := by decide +kernel
theorem dX1_isReadBy_0 : decode cX1_isReadBy 0 = .ok (.aload_n 0, 1) := by decide +kernel
theorem dX1_isReadBy_1 : decode cX1_isReadBy 1 = .ok (.getfield 25, 3) := by decide +kernel
theorem dX1_isReadBy_4 : decode cX1_isReadBy 4 = .ok (.iload_n 1, 1) := by decide +kernel
theorem dX1_isReadBy_5 : decode cX1_isReadBy 5 = .ok (.iaload, 1) := by decide +kernel
theorem dX1_isReadBy_6 : decode cX1_isReadBy 6 = .ok (.iconst 1, 1) := by decide +kernel
theorem dX1_isReadBy_7 : decode cX1_isReadBy 7 = .ok (.iload_n 2, 1) := by decide +kernel
theorem dX1_isReadBy_8 : decode cX1_isReadBy 8 = .ok (.ishl, 1) := by decide +kernel
theorem dX1_isReadBy_9 : decode cX1_isReadBy 9 = .ok (.iand, 1) := by decide +kernel
theorem dX1_isReadBy_10 : decode cX1_isReadBy 10 = .ok (.ifCond .eq 7, 3) := by decide +kernel
theorem dX1_isReadBy_13 : decode cX1_isReadBy 13 = .ok (.iconst 1, 1) := by decide +kernel
theorem dX1_isReadBy_14 : decode cX1_isReadBy 14 = .ok (.goto 4, 3) := by decide +kernel
theorem dX1_isReadBy_17 : decode cX1_isReadBy 17 = .ok (.iconst 0, 1) := by decide +kernel
theorem dX1_isReadBy_18 : decode cX1_isReadBy 18 = .ok (.ireturn, 1) := by decide +kernel
theorem dX1_isReadByHand_0 : decode cX1_isReadByHand 0 = .ok (.aload_n 0, 1) := by decide +kernel
theorem dX1_isReadByHand_1 : decode cX1_isReadByHand 1 = .ok (.getfield 25, 3) := by decide +kernel
theorem dX1_isReadByHand_4 : decode cX1_isReadByHand 4 = .ok (.iload_n 1, 1) := by decide +kernel
theorem dX1_isReadByHand_5 : decode cX1_isReadByHand 5 = .ok (.iaload, 1) := by decide +kernel
theorem dX1_isReadByHand_6 : decode cX1_isReadByHand 6 = .ok (.ifCond .eq 7, 3) := by decide +kernel
theorem dX1_isReadByHand_9 : decode cX1_isReadByHand 9 = .ok (.iconst 1, 1) := by decide +kernel
theorem dX1_isReadByHand_10 : decode cX1_isReadByHand 10 = .ok (.goto 4, 3) := by decide +kernel
theorem dX1_isReadByHand_13 : decode cX1_isReadByHand 13 = .ok (.iconst 0, 1) := by decide +kernel
theorem dX1_isReadByHand_14 : decode cX1_isReadByHand 14 = .ok (.ireturn, 1) := by decide +kernel
set_option maxRecDepth 20000 in
theorem ggX1_isSettled_X1_isReadByHand : GoodIn wsX1_isSettled wsX1_isReadByHand := goodIn_r _ [6, 7, 8, 9, 10, 11, 12, 13, 14] (by decide +kernel) (by decide +kernel)
set_option maxRecDepth 20000 in
theorem gX1_isSettled_X1_isReadByHand : GoodIn wsX1_isSettled (wsV RX1 35 RX1 yX1_isReadByHand wsX1_isReadByHand) := goodIn_app (goodIn_of _ (by decide +kernel)) ggX1_isSettled_X1_isReadByHand
theorem dX1_isSettled_0 : decode cX1_isSettled 0 = .ok (.aload_n 0, 1) := by decide +kernel
theorem dX1_isSettled_1 : decode cX1_isSettled 1 = .ok (.getfield 18, 3) := by decide +kernel
theorem dX1_isSettled_4 : decode cX1_isSettled 4 = .ok (.iload_n 1, 1) := by decide +kernel
theorem dX1_isSettled_5 : decode cX1_isSettled 5 = .ok (.baload, 1) := by decide +kernel
theorem dX1_isSettled_6 : decode cX1_isSettled 6 = .ok (.ifCond .ne 11, 3) := by decide +kernel
theorem dX1_isSettled_9 : decode cX1_isSettled 9 = .ok (.aload_n 0, 1) := by decide +kernel
theorem dX1_isSettled_10 : decode cX1_isSettled 10 = .ok (.iload_n 1, 1) := by decide +kernel
theorem dX1_isSettled_11 : decode cX1_isSettled 11 = .ok (.invokevirtual 35, 3) := by decide +kernel
theorem dX1_isSettled_14 : decode cX1_isSettled 14 = .ok (.ifCond .eq 7, 3) := by decide +kernel
theorem dX1_isSettled_17 : decode cX1_isSettled 17 = .ok (.iconst 1, 1) := by decide +kernel
theorem dX1_isSettled_18 : decode cX1_isSettled 18 = .ok (.goto 4, 3) := by decide +kernel
theorem dX1_isSettled_21 : decode cX1_isSettled 21 = .ok (.iconst 0, 1) := by decide +kernel
theorem dX1_isSettled_22 : decode cX1_isSettled 22 = .ok (.ireturn, 1) := by decide +kernel
set_option maxRecDepth 20000 in
theorem ggX1_wordMark_X5_markOf : GoodIn wsX1_wordMark wsX5_markOf := goodIn_r _ [4] (by decide +kernel) (by decide +kernel)
set_option maxRecDepth 20000 in
theorem gX1_wordMark_X5_markOf_n39 : GoodIn wsX1_wordMark (wsX5_markOf) := ggX1_wordMark_X5_markOf
theorem dX1_wordMark_0 : decode cX1_wordMark 0 = .ok (.aload_n 0, 1) := by decide +kernel
theorem dX1_wordMark_1 : decode cX1_wordMark 1 = .ok (.getfield 15, 3) := by decide +kernel
theorem dX1_wordMark_4 : decode cX1_wordMark 4 = .ok (.iload_n 1, 1) := by decide +kernel
theorem dX1_wordMark_5 : decode cX1_wordMark 5 = .ok (.iaload, 1) := by decide +kernel
theorem dX1_wordMark_6 : decode cX1_wordMark 6 = .ok (.iload_n 2, 1) := by decide +kernel
theorem dX1_wordMark_7 : decode cX1_wordMark 7 = .ok (.invokestatic 39, 3) := by decide +kernel
theorem dX1_wordMark_10 : decode cX1_wordMark 10 = .ok (.ireturn, 1) := by decide +kernel
set_option maxRecDepth 20000 in
theorem ggX1_handsMark_X1_handMark : GoodIn wsX1_handsMark wsX1_handMark := goodIn_r _ [10, 11, 12, 13, 14, 9, 15, 1, 16, 17, 18, 26, 27, 28, 29, 30, 31, 32] (by decide +kernel) (by decide +kernel)
set_option maxRecDepth 20000 in
theorem gX1_handsMark_X1_handMark : GoodIn wsX1_handsMark (wsV RX1 43 RX1 yX1_handMark wsX1_handMark) := goodIn_app (goodIn_of _ (by decide +kernel)) ggX1_handsMark_X1_handMark
set_option maxRecDepth 20000 in
theorem ggX1_handsMark_J6_bitCount_0f7a4 : GoodIn wsX1_handsMark wsJ6_bitCount_0f7a4 := goodIn_r _ [22, 23, 24, 25] (by decide +kernel) (by decide +kernel)
set_option maxRecDepth 20000 in
theorem gX1_handsMark_J6_bitCount_0f7a4 : GoodIn wsX1_handsMark (va_wsS RX1 47 yJ6_bitCount_0f7a4 wsJ6_bitCount_0f7a4) := goodIn_app (goodIn_of _ (by decide +kernel)) ggX1_handsMark_J6_bitCount_0f7a4
theorem dX1_handsMark_0 : decode cX1_handsMark 0 = .ok (.aload_n 0, 1) := by decide +kernel
theorem dX1_handsMark_1 : decode cX1_handsMark 1 = .ok (.iload_n 1, 1) := by decide +kernel
theorem dX1_handsMark_2 : decode cX1_handsMark 2 = .ok (.iconst 0, 1) := by decide +kernel
theorem dX1_handsMark_3 : decode cX1_handsMark 3 = .ok (.iload_n 2, 1) := by decide +kernel
theorem dX1_handsMark_4 : decode cX1_handsMark 4 = .ok (.invokevirtual 43, 3) := by decide +kernel
theorem dX1_handsMark_7 : decode cX1_handsMark 7 = .ok (.istore_n 3, 1) := by decide +kernel
theorem dX1_handsMark_8 : decode cX1_handsMark 8 = .ok (.aload_n 0, 1) := by decide +kernel
theorem dX1_handsMark_9 : decode cX1_handsMark 9 = .ok (.iload_n 1, 1) := by decide +kernel
theorem dX1_handsMark_10 : decode cX1_handsMark 10 = .ok (.iconst 1, 1) := by decide +kernel
theorem dX1_handsMark_11 : decode cX1_handsMark 11 = .ok (.iload_n 2, 1) := by decide +kernel
theorem dX1_handsMark_12 : decode cX1_handsMark 12 = .ok (.invokevirtual 43, 3) := by decide +kernel
theorem dX1_handsMark_15 : decode cX1_handsMark 15 = .ok (.istore 4, 2) := by decide +kernel
theorem dX1_handsMark_17 : decode cX1_handsMark 17 = .ok (.aload_n 0, 1) := by decide +kernel
theorem dX1_handsMark_18 : decode cX1_handsMark 18 = .ok (.iload_n 1, 1) := by decide +kernel
theorem dX1_handsMark_19 : decode cX1_handsMark 19 = .ok (.iconst 2, 1) := by decide +kernel
theorem dX1_handsMark_20 : decode cX1_handsMark 20 = .ok (.iload_n 2, 1) := by decide +kernel
theorem dX1_handsMark_21 : decode cX1_handsMark 21 = .ok (.invokevirtual 43, 3) := by decide +kernel
theorem dX1_handsMark_24 : decode cX1_handsMark 24 = .ok (.istore 5, 2) := by decide +kernel
theorem dX1_handsMark_26 : decode cX1_handsMark 26 = .ok (.iload_n 3, 1) := by decide +kernel
theorem dX1_handsMark_27 : decode cX1_handsMark 27 = .ok (.iconst (-1), 1) := by decide +kernel
theorem dX1_handsMark_28 : decode cX1_handsMark 28 = .ok (.if_icmp .eq 17, 3) := by decide +kernel
theorem dX1_handsMark_31 : decode cX1_handsMark 31 = .ok (.iload_n 3, 1) := by decide +kernel
theorem dX1_handsMark_32 : decode cX1_handsMark 32 = .ok (.iload 4, 2) := by decide +kernel
theorem dX1_handsMark_34 : decode cX1_handsMark 34 = .ok (.if_icmp .eq 9, 3) := by decide +kernel
theorem dX1_handsMark_37 : decode cX1_handsMark 37 = .ok (.iload_n 3, 1) := by decide +kernel
theorem dX1_handsMark_38 : decode cX1_handsMark 38 = .ok (.iload 5, 2) := by decide +kernel
theorem dX1_handsMark_40 : decode cX1_handsMark 40 = .ok (.if_icmp .ne 5, 3) := by decide +kernel
theorem dX1_handsMark_43 : decode cX1_handsMark 43 = .ok (.iload_n 3, 1) := by decide +kernel
theorem dX1_handsMark_44 : decode cX1_handsMark 44 = .ok (.ireturn, 1) := by decide +kernel
theorem dX1_handsMark_45 : decode cX1_handsMark 45 = .ok (.iload 4, 2) := by decide +kernel
theorem dX1_handsMark_47 : decode cX1_handsMark 47 = .ok (.iconst (-1), 1) := by decide +kernel
theorem dX1_handsMark_48 : decode cX1_handsMark 48 = .ok (.if_icmp .eq 13, 3) := by decide +kernel
theorem dX1_handsMark_51 : decode cX1_handsMark 51 = .ok (.iload 4, 2) := by decide +kernel
theorem dX1_handsMark_53 : decode cX1_handsMark 53 = .ok (.iload 5, 2) := by decide +kernel
theorem dX1_handsMark_55 : decode cX1_handsMark 55 = .ok (.if_icmp .ne 6, 3) := by decide +kernel
theorem dX1_handsMark_58 : decode cX1_handsMark 58 = .ok (.iload 4, 2) := by decide +kernel
theorem dX1_handsMark_60 : decode cX1_handsMark 60 = .ok (.ireturn, 1) := by decide +kernel
theorem dX1_handsMark_61 : decode cX1_handsMark 61 = .ok (.aload_n 0, 1) := by decide +kernel
theorem dX1_handsMark_62 : decode cX1_handsMark 62 = .ok (.getfield 25, 3) := by decide +kernel
theorem dX1_handsMark_65 : decode cX1_handsMark 65 = .ok (.iload_n 1, 1) := by decide +kernel
theorem dX1_handsMark_66 : decode cX1_handsMark 66 = .ok (.iaload, 1) := by decide +kernel
theorem dX1_handsMark_67 : decode cX1_handsMark 67 = .ok (.invokestatic 47, 3) := by decide +kernel
theorem dX1_handsMark_70 : decode cX1_handsMark 70 = .ok (.iconst 1, 1) := by decide +kernel
theorem dX1_handsMark_71 : decode cX1_handsMark 71 = .ok (.if_icmp .le 5, 3) := by decide +kernel
theorem dX1_handsMark_74 : decode cX1_handsMark 74 = .ok (.iconst 0, 1) := by decide +kernel
theorem dX1_handsMark_75 : decode cX1_handsMark 75 = .ok (.ireturn, 1) := by decide +kernel
theorem dX1_handsMark_76 : decode cX1_handsMark 76 = .ok (.iload_n 3, 1) := by decide +kernel
theorem dX1_handsMark_77 : decode cX1_handsMark 77 = .ok (.iload 4, 2) := by decide +kernel
theorem dX1_handsMark_79 : decode cX1_handsMark 79 = .ok (.iload 5, 2) := by decide +kernel
theorem dX1_handsMark_81 : decode cX1_handsMark 81 = .ok (.invokestatic 53, 3) := by decide +kernel
theorem dX1_handsMark_84 : decode cX1_handsMark 84 = .ok (.invokestatic 53, 3) := by decide +kernel
theorem dX1_handsMark_87 : decode cX1_handsMark 87 = .ok (.ireturn, 1) := by decide +kernel
set_option maxRecDepth 20000 in
theorem ggX1_handMark_X1_isReadBy : GoodIn wsX1_handMark wsX1_isReadBy := goodIn_r _ [6, 7, 11, 12, 13, 14, 15, 16, 17] (by decide +kernel) (by decide +kernel)
set_option maxRecDepth 20000 in
theorem gX1_handMark_X1_isReadBy : GoodIn wsX1_handMark (wsV RX1 58 RX1 yX1_isReadBy wsX1_isReadBy) := goodIn_app (goodIn_of _ (by decide +kernel)) ggX1_handMark_X1_isReadBy
set_option maxRecDepth 20000 in
theorem ggX1_handMark_X5_markOf : GoodIn wsX1_handMark wsX5_markOf := goodIn_r _ [10] (by decide +kernel) (by decide +kernel)
set_option maxRecDepth 20000 in
theorem gX1_handMark_X5_markOf_n39 : GoodIn wsX1_handMark (wsX5_markOf) := ggX1_handMark_X5_markOf
theorem dX1_handMark_0 : decode cX1_handMark 0 = .ok (.aload_n 0, 1) := by decide +kernel
theorem dX1_handMark_1 : decode cX1_handMark 1 = .ok (.iload_n 1, 1) := by decide +kernel
theorem dX1_handMark_2 : decode cX1_handMark 2 = .ok (.iload_n 2, 1) := by decide +kernel
theorem dX1_handMark_3 : decode cX1_handMark 3 = .ok (.invokevirtual 58, 3) := by decide +kernel
theorem dX1_handMark_6 : decode cX1_handMark 6 = .ok (.ifCond .eq 20, 3) := by decide +kernel
theorem dX1_handMark_9 : decode cX1_handMark 9 = .ok (.aload_n 0, 1) := by decide +kernel
theorem dX1_handMark_10 : decode cX1_handMark 10 = .ok (.getfield 28, 3) := by decide +kernel
theorem dX1_handMark_13 : decode cX1_handMark 13 = .ok (.iload_n 1, 1) := by decide +kernel
theorem dX1_handMark_14 : decode cX1_handMark 14 = .ok (.iconst 3, 1) := by decide +kernel
theorem dX1_handMark_15 : decode cX1_handMark 15 = .ok (.imul, 1) := by decide +kernel
theorem dX1_handMark_16 : decode cX1_handMark 16 = .ok (.iload_n 2, 1) := by decide +kernel
theorem dX1_handMark_17 : decode cX1_handMark 17 = .ok (.iadd, 1) := by decide +kernel
theorem dX1_handMark_18 : decode cX1_handMark 18 = .ok (.iaload, 1) := by decide +kernel
theorem dX1_handMark_19 : decode cX1_handMark 19 = .ok (.iload_n 3, 1) := by decide +kernel
theorem dX1_handMark_20 : decode cX1_handMark 20 = .ok (.invokestatic 39, 3) := by decide +kernel
theorem dX1_handMark_23 : decode cX1_handMark 23 = .ok (.goto 4, 3) := by decide +kernel
theorem dX1_handMark_26 : decode cX1_handMark 26 = .ok (.iconst (-1), 1) := by decide +kernel
theorem dX1_handMark_27 : decode cX1_handMark 27 = .ok (.ireturn, 1) := by decide +kernel
set_option maxRecDepth 20000 in
theorem ggX1_wholeMark_X1_isReadByHand : GoodIn wsX1_wholeMark wsX1_isReadByHand := goodIn_r _ [5, 6, 39, 40, 41, 42, 43, 44, 45] (by decide +kernel) (by decide +kernel)
set_option maxRecDepth 20000 in
theorem gX1_wholeMark_X1_isReadByHand : GoodIn wsX1_wholeMark (wsV RX1 35 RX1 yX1_isReadByHand wsX1_isReadByHand) := goodIn_app (goodIn_of _ (by decide +kernel)) ggX1_wholeMark_X1_isReadByHand
set_option maxRecDepth 20000 in
theorem ggX1_wholeMark_X1_handsMark : GoodIn wsX1_wholeMark wsX1_handsMark := goodIn_r _ [10, 6, 11, 12, 13, 14, 15, 16, 17, 4, 18, 19, 20, 21, 22, 23, 24, 25, 26, 27, 28, 29, 30, 31, 32, 33, 39, 40, 41, 42, 43, 44, 45] (by decide +kernel) (by decide +kernel)
set_option maxRecDepth 20000 in
theorem gX1_wholeMark_X1_handsMark : GoodIn wsX1_wholeMark (wsV RX1 62 RX1 yX1_handsMark wsX1_handsMark) := goodIn_app (goodIn_of _ (by decide +kernel)) ggX1_wholeMark_X1_handsMark
set_option maxRecDepth 20000 in
theorem ggX1_wholeMark_X1_wordMark : GoodIn wsX1_wholeMark wsX1_wordMark := goodIn_r _ [37, 38, 24, 25, 26, 39, 40, 41, 42, 43, 44, 45] (by decide +kernel) (by decide +kernel)
set_option maxRecDepth 20000 in
theorem gX1_wholeMark_X1_wordMark : GoodIn wsX1_wholeMark (wsV RX1 65 RX1 yX1_wordMark wsX1_wordMark) := goodIn_app (goodIn_of _ (by decide +kernel)) ggX1_wholeMark_X1_wordMark
theorem dX1_wholeMark_0 : decode cX1_wholeMark 0 = .ok (.aload_n 0, 1) := by decide +kernel
theorem dX1_wholeMark_1 : decode cX1_wholeMark 1 = .ok (.iload_n 1, 1) := by decide +kernel
theorem dX1_wholeMark_2 : decode cX1_wholeMark 2 = .ok (.invokevirtual 35, 3) := by decide +kernel
theorem dX1_wholeMark_5 : decode cX1_wholeMark 5 = .ok (.ifCond .eq 12, 3) := by decide +kernel
theorem dX1_wholeMark_8 : decode cX1_wholeMark 8 = .ok (.aload_n 0, 1) := by decide +kernel
theorem dX1_wholeMark_9 : decode cX1_wholeMark 9 = .ok (.iload_n 1, 1) := by decide +kernel
theorem dX1_wholeMark_10 : decode cX1_wholeMark 10 = .ok (.iload_n 2, 1) := by decide +kernel
theorem dX1_wholeMark_11 : decode cX1_wholeMark 11 = .ok (.invokevirtual 62, 3) := by decide +kernel
theorem dX1_wholeMark_14 : decode cX1_wholeMark 14 = .ok (.goto 9, 3) := by decide +kernel
theorem dX1_wholeMark_17 : decode cX1_wholeMark 17 = .ok (.aload_n 0, 1) := by decide +kernel
theorem dX1_wholeMark_18 : decode cX1_wholeMark 18 = .ok (.iload_n 1, 1) := by decide +kernel
theorem dX1_wholeMark_19 : decode cX1_wholeMark 19 = .ok (.iload_n 2, 1) := by decide +kernel
theorem dX1_wholeMark_20 : decode cX1_wholeMark 20 = .ok (.invokevirtual 65, 3) := by decide +kernel
theorem dX1_wholeMark_23 : decode cX1_wholeMark 23 = .ok (.ireturn, 1) := by decide +kernel
theorem dX1_lostOnes_0 : decode cX1_lostOnes 0 = .ok (.iconst 0, 1) := by decide +kernel
theorem dX1_lostOnes_1 : decode cX1_lostOnes 1 = .ok (.istore_n 1, 1) := by decide +kernel
theorem dX1_lostOnes_2 : decode cX1_lostOnes 2 = .ok (.iconst 0, 1) := by decide +kernel
theorem dX1_lostOnes_3 : decode cX1_lostOnes 3 = .ok (.istore_n 2, 1) := by decide +kernel
theorem dX1_lostOnes_4 : decode cX1_lostOnes 4 = .ok (.iload_n 2, 1) := by decide +kernel
theorem dX1_lostOnes_5 : decode cX1_lostOnes 5 = .ok (.aload_n 0, 1) := by decide +kernel
theorem dX1_lostOnes_6 : decode cX1_lostOnes 6 = .ok (.getfield 31, 3) := by decide +kernel
theorem dX1_lostOnes_9 : decode cX1_lostOnes 9 = .ok (.if_icmp .ge 21, 3) := by decide +kernel
theorem dX1_lostOnes_12 : decode cX1_lostOnes 12 = .ok (.aload_n 0, 1) := by decide +kernel
theorem dX1_lostOnes_13 : decode cX1_lostOnes 13 = .ok (.getfield 18, 3) := by decide +kernel
theorem dX1_lostOnes_16 : decode cX1_lostOnes 16 = .ok (.iload_n 2, 1) := by decide +kernel
theorem dX1_lostOnes_17 : decode cX1_lostOnes 17 = .ok (.baload, 1) := by decide +kernel
theorem dX1_lostOnes_18 : decode cX1_lostOnes 18 = .ok (.ifCond .eq 6, 3) := by decide +kernel
theorem dX1_lostOnes_21 : decode cX1_lostOnes 21 = .ok (.iinc 1 1, 3) := by decide +kernel
theorem dX1_lostOnes_24 : decode cX1_lostOnes 24 = .ok (.iinc 2 1, 3) := by decide +kernel
theorem dX1_lostOnes_27 : decode cX1_lostOnes 27 = .ok (.goto (-23), 3) := by decide +kernel
theorem dX1_lostOnes_30 : decode cX1_lostOnes 30 = .ok (.iload_n 1, 1) := by decide +kernel
theorem dX1_lostOnes_31 : decode cX1_lostOnes 31 = .ok (.ireturn, 1) := by decide +kernel
set_option maxRecDepth 20000 in
theorem ggX1_readOnes_X1_isReadByHand : GoodIn wsX1_readOnes wsX1_isReadByHand := goodIn_r _ [6, 7, 8, 9, 10, 11, 12, 13, 14] (by decide +kernel) (by decide +kernel)
set_option maxRecDepth 20000 in
theorem gX1_readOnes_X1_isReadByHand : GoodIn wsX1_readOnes (wsV RX1 35 RX1 yX1_isReadByHand wsX1_isReadByHand) := goodIn_app (goodIn_of _ (by decide +kernel)) ggX1_readOnes_X1_isReadByHand
theorem dX1_readOnes_0 : decode cX1_readOnes 0 = .ok (.iconst 0, 1) := by decide +kernel
theorem dX1_readOnes_1 : decode cX1_readOnes 1 = .ok (.istore_n 1, 1) := by decide +kernel
theorem dX1_readOnes_2 : decode cX1_readOnes 2 = .ok (.iconst 0, 1) := by decide +kernel
theorem dX1_readOnes_3 : decode cX1_readOnes 3 = .ok (.istore_n 2, 1) := by decide +kernel
theorem dX1_readOnes_4 : decode cX1_readOnes 4 = .ok (.iload_n 2, 1) := by decide +kernel
theorem dX1_readOnes_5 : decode cX1_readOnes 5 = .ok (.aload_n 0, 1) := by decide +kernel
theorem dX1_readOnes_6 : decode cX1_readOnes 6 = .ok (.getfield 31, 3) := by decide +kernel
theorem dX1_readOnes_9 : decode cX1_readOnes 9 = .ok (.if_icmp .ge 20, 3) := by decide +kernel
theorem dX1_readOnes_12 : decode cX1_readOnes 12 = .ok (.aload_n 0, 1) := by decide +kernel
theorem dX1_readOnes_13 : decode cX1_readOnes 13 = .ok (.iload_n 2, 1) := by decide +kernel
theorem dX1_readOnes_14 : decode cX1_readOnes 14 = .ok (.invokevirtual 35, 3) := by decide +kernel
theorem dX1_readOnes_17 : decode cX1_readOnes 17 = .ok (.ifCond .eq 6, 3) := by decide +kernel
theorem dX1_readOnes_20 : decode cX1_readOnes 20 = .ok (.iinc 1 1, 3) := by decide +kernel
theorem dX1_readOnes_23 : decode cX1_readOnes 23 = .ok (.iinc 2 1, 3) := by decide +kernel
theorem dX1_readOnes_26 : decode cX1_readOnes 26 = .ok (.goto (-22), 3) := by decide +kernel
theorem dX1_readOnes_29 : decode cX1_readOnes 29 = .ok (.iload_n 1, 1) := by decide +kernel
theorem dX1_readOnes_30 : decode cX1_readOnes 30 = .ok (.ireturn, 1) := by decide +kernel
set_option maxRecDepth 20000 in
theorem ggX2_init_X3_init : GoodIn wsX2_init wsX3_init := goodIn_r _ [20, 21, 2, 3, 10, 22, 23] (by decide +kernel) (by decide +kernel)
set_option maxRecDepth 20000 in
theorem gX2_init_X3_init_n11 : GoodIn wsX2_init (wsX3_init) := ggX2_init_X3_init
theorem dX2_init_0 : decode cX2_init 0 = .ok (.aload_n 0, 1) := by decide +kernel
theorem dX2_init_1 : decode cX2_init 1 = .ok (.invokespecial 3, 3) := by decide +kernel
theorem dX2_init_4 : decode cX2_init 4 = .ok (.aload_n 0, 1) := by decide +kernel
theorem dX2_init_5 : decode cX2_init 5 = .ok (.new 9, 3) := by decide +kernel
theorem dX2_init_8 : decode cX2_init 8 = .ok (.dup, 1) := by decide +kernel
theorem dX2_init_9 : decode cX2_init 9 = .ok (.invokespecial 11, 3) := by decide +kernel
theorem dX2_init_12 : decode cX2_init 12 = .ok (.putfield 12, 3) := by decide +kernel
theorem dX2_init_15 : decode cX2_init 15 = .ok (.aload_n 0, 1) := by decide +kernel
theorem dX2_init_16 : decode cX2_init 16 = .ok (.bipush 8, 2) := by decide +kernel
theorem dX2_init_18 : decode cX2_init 18 = .ok (.newarray .boolean, 2) := by decide +kernel
theorem dX2_init_20 : decode cX2_init 20 = .ok (.putfield 18, 3) := by decide +kernel
theorem dX2_init_23 : decode cX2_init 23 = .ok (.aload_n 0, 1) := by decide +kernel
theorem dX2_init_24 : decode cX2_init 24 = .ok (.bipush 9, 2) := by decide +kernel
theorem dX2_init_26 : decode cX2_init 26 = .ok (.newarray .int, 2) := by decide +kernel
theorem dX2_init_28 : decode cX2_init 28 = .ok (.putfield 22, 3) := by decide +kernel
theorem dX2_init_31 : decode cX2_init 31 = .ok (.aload_n 0, 1) := by decide +kernel
theorem dX2_init_32 : decode cX2_init 32 = .ok (.bipush 9, 2) := by decide +kernel
theorem dX2_init_34 : decode cX2_init 34 = .ok (.newarray .int, 2) := by decide +kernel
theorem dX2_init_36 : decode cX2_init 36 = .ok (.putfield 26, 3) := by decide +kernel
theorem dX2_init_39 : decode cX2_init 39 = .ok (.aload_n 0, 1) := by decide +kernel
theorem dX2_init_40 : decode cX2_init 40 = .ok (.bipush 9, 2) := by decide +kernel
theorem dX2_init_42 : decode cX2_init 42 = .ok (.newarray .int, 2) := by decide +kernel
theorem dX2_init_44 : decode cX2_init 44 = .ok (.putfield 29, 3) := by decide +kernel
theorem dX2_init_47 : decode cX2_init 47 = .ok (.aload_n 0, 1) := by decide +kernel
theorem dX2_init_48 : decode cX2_init 48 = .ok (.iconst 0, 1) := by decide +kernel
theorem dX2_init_49 : decode cX2_init 49 = .ok (.putfield 32, 3) := by decide +kernel
theorem dX2_init_52 : decode cX2_init 52 = .ok (.aload_n 0, 1) := by decide +kernel
theorem dX2_init_53 : decode cX2_init 53 = .ok (.iconst 0, 1) := by decide +kernel
theorem dX2_init_54 : decode cX2_init 54 = .ok (.putfield 36, 3) := by decide +kernel
theorem dX2_init_57 : decode cX2_init 57 = .ok (.aload_n 0, 1) := by decide +kernel
theorem dX2_init_58 : decode cX2_init 58 = .ok (.iconst 0, 1) := by decide +kernel
theorem dX2_init_59 : decode cX2_init 59 = .ok (.putfield 39, 3) := by decide +kernel
theorem dX2_init_62 : decode cX2_init 62 = .ok (.aload_n 0, 1) := by decide +kernel
theorem dX2_init_63 : decode cX2_init 63 = .ok (.iconst 0, 1) := by decide +kernel
theorem dX2_init_64 : decode cX2_init 64 = .ok (.putfield 42, 3) := by decide +kernel
theorem dX2_init_67 : decode cX2_init 67 = .ok (.aload_n 0, 1) := by decide +kernel
theorem dX2_init_68 : decode cX2_init 68 = .ok (.iconst 0, 1) := by decide +kernel
theorem dX2_init_69 : decode cX2_init 69 = .ok (.putfield 45, 3) := by decide +kernel
theorem dX2_init_72 : decode cX2_init 72 = .ok (.return_, 1) := by decide +kernel
set_option maxRecDepth 20000 in
theorem ggX2_open_X2_pairUp : GoodIn wsX2_open wsX2_pairUp := goodIn_r _ [7, 1, 8, 9, 10, 11, 12, 13, 14, 15, 16, 17, 18, 19, 6, 20, 2, 21, 22, 23, 24, 25, 26, 27, 28, 29, 30, 31, 32, 33, 34, 35, 36, 37, 38, 39, 40, 41, 42, 43] (by decide +kernel) (by decide +kernel)
set_option maxRecDepth 20000 in
theorem gX2_open_X2_pairUp : GoodIn wsX2_open (wsV RX2 48 RX2 yX2_pairUp wsX2_pairUp) := goodIn_app (goodIn_of _ (by decide +kernel)) ggX2_open_X2_pairUp
theorem dX2_open_0 : decode cX2_open 0 = .ok (.aload_n 0, 1) := by decide +kernel
theorem dX2_open_1 : decode cX2_open 1 = .ok (.iload_n 1, 1) := by decide +kernel
theorem dX2_open_2 : decode cX2_open 2 = .ok (.putfield 36, 3) := by decide +kernel
theorem dX2_open_5 : decode cX2_open 5 = .ok (.aload_n 0, 1) := by decide +kernel
theorem dX2_open_6 : decode cX2_open 6 = .ok (.iload_n 2, 1) := by decide +kernel
theorem dX2_open_7 : decode cX2_open 7 = .ok (.putfield 39, 3) := by decide +kernel
theorem dX2_open_10 : decode cX2_open 10 = .ok (.aload_n 0, 1) := by decide +kernel
theorem dX2_open_11 : decode cX2_open 11 = .ok (.invokevirtual 48, 3) := by decide +kernel
theorem dX2_open_14 : decode cX2_open 14 = .ok (.return_, 1) := by decide +kernel
set_option maxRecDepth 20000 in
theorem ggX2_addWord_X3_add : GoodIn wsX2_addWord wsX3_add := goodIn_r _ [7, 8, 48] (by decide +kernel) (by decide +kernel)
set_option maxRecDepth 20000 in
theorem gX2_addWord_X3_add : GoodIn wsX2_addWord (wsV RX2 51 RX3 yX3_add wsX3_add) := goodIn_app (goodIn_of _ (by decide +kernel)) ggX2_addWord_X3_add
set_option maxRecDepth 20000 in
theorem ggX2_addWord_X2_pairUp : GoodIn wsX2_addWord wsX2_pairUp := goodIn_r _ [13, 14, 15, 1, 16, 17, 18, 19, 20, 21, 22, 23, 24, 25, 12, 26, 27, 28, 29, 30, 6, 31, 8, 32, 33, 34, 35, 36, 37, 38, 39, 40, 41, 42, 43, 44, 45, 46, 47, 48] (by decide +kernel) (by decide +kernel)
set_option maxRecDepth 20000 in
theorem gX2_addWord_X2_pairUp : GoodIn wsX2_addWord (wsV RX2 48 RX2 yX2_pairUp wsX2_pairUp) := goodIn_app (goodIn_of _ (by decide +kernel)) ggX2_addWord_X2_pairUp
theorem dX2_addWord_0 : decode cX2_addWord 0 = .ok (.aload_n 0, 1) := by decide +kernel
theorem dX2_addWord_1 : decode cX2_addWord 1 = .ok (.getfield 12, 3) := by decide +kernel
theorem dX2_addWord_4 : decode cX2_addWord 4 = .ok (.iload_n 1, 1) := by decide +kernel
theorem dX2_addWord_5 : decode cX2_addWord 5 = .ok (.invokevirtual 51, 3) := by decide +kernel
theorem dX2_addWord_8 : decode cX2_addWord 8 = .ok (.iload_n 1, 1) := by decide +kernel
theorem dX2_addWord_9 : decode cX2_addWord 9 = .ok (.bipush 7, 2) := by decide +kernel
theorem dX2_addWord_11 : decode cX2_addWord 11 = .ok (.if_icmp .eq 13, 3) := by decide +kernel
theorem dX2_addWord_14 : decode cX2_addWord 14 = .ok (.aload_n 0, 1) := by decide +kernel
theorem dX2_addWord_15 : decode cX2_addWord 15 = .ok (.dup, 1) := by decide +kernel
theorem dX2_addWord_16 : decode cX2_addWord 16 = .ok (.getfield 42, 3) := by decide +kernel
theorem dX2_addWord_19 : decode cX2_addWord 19 = .ok (.iconst 1, 1) := by decide +kernel
theorem dX2_addWord_20 : decode cX2_addWord 20 = .ok (.iadd, 1) := by decide +kernel
theorem dX2_addWord_21 : decode cX2_addWord 21 = .ok (.putfield 42, 3) := by decide +kernel
theorem dX2_addWord_24 : decode cX2_addWord 24 = .ok (.aload_n 0, 1) := by decide +kernel
theorem dX2_addWord_25 : decode cX2_addWord 25 = .ok (.invokevirtual 48, 3) := by decide +kernel
theorem dX2_addWord_28 : decode cX2_addWord 28 = .ok (.return_, 1) := by decide +kernel
theorem dX2_hasCandidate_0 : decode cX2_hasCandidate 0 = .ok (.iload_n 1, 1) := by decide +kernel
theorem dX2_hasCandidate_1 : decode cX2_hasCandidate 1 = .ok (.iconst 1, 1) := by decide +kernel
theorem dX2_hasCandidate_2 : decode cX2_hasCandidate 2 = .ok (.if_icmp .lt 15, 3) := by decide +kernel
theorem dX2_hasCandidate_5 : decode cX2_hasCandidate 5 = .ok (.iload_n 1, 1) := by decide +kernel
theorem dX2_hasCandidate_6 : decode cX2_hasCandidate 6 = .ok (.aload_n 0, 1) := by decide +kernel
theorem dX2_hasCandidate_7 : decode cX2_hasCandidate 7 = .ok (.getfield 36, 3) := by decide +kernel
theorem dX2_hasCandidate_10 : decode cX2_hasCandidate 10 = .ok (.if_icmp .gt 7, 3) := by decide +kernel
theorem dX2_hasCandidate_13 : decode cX2_hasCandidate 13 = .ok (.iconst 1, 1) := by decide +kernel
theorem dX2_hasCandidate_14 : decode cX2_hasCandidate 14 = .ok (.goto 4, 3) := by decide +kernel
theorem dX2_hasCandidate_17 : decode cX2_hasCandidate 17 = .ok (.iconst 0, 1) := by decide +kernel
theorem dX2_hasCandidate_18 : decode cX2_hasCandidate 18 = .ok (.ireturn, 1) := by decide +kernel
theorem dX2_allows_0 : decode cX2_allows 0 = .ok (.iload_n 1, 1) := by decide +kernel
theorem dX2_allows_1 : decode cX2_allows 1 = .ok (.bipush 7, 2) := by decide +kernel
theorem dX2_allows_3 : decode cX2_allows 3 = .ok (.if_icmp .eq 11, 3) := by decide +kernel
theorem dX2_allows_6 : decode cX2_allows 6 = .ok (.iload_n 1, 1) := by decide +kernel
theorem dX2_allows_7 : decode cX2_allows 7 = .ok (.aload_n 0, 1) := by decide +kernel
theorem dX2_allows_8 : decode cX2_allows 8 = .ok (.getfield 36, 3) := by decide +kernel
theorem dX2_allows_11 : decode cX2_allows 11 = .ok (.if_icmp .gt 7, 3) := by decide +kernel
theorem dX2_allows_14 : decode cX2_allows 14 = .ok (.iconst 1, 1) := by decide +kernel
theorem dX2_allows_15 : decode cX2_allows 15 = .ok (.goto 4, 3) := by decide +kernel
theorem dX2_allows_18 : decode cX2_allows 18 = .ok (.iconst 0, 1) := by decide +kernel
theorem dX2_allows_19 : decode cX2_allows 19 = .ok (.ireturn, 1) := by decide +kernel
set_option maxRecDepth 20000 in
theorem ggX2_isWinner_X3_papersWith : GoodIn wsX2_isWinner wsX3_papersWith := goodIn_r _ [7, 8, 19] (by decide +kernel) (by decide +kernel)
set_option maxRecDepth 20000 in
theorem gX2_isWinner_X3_papersWith : GoodIn wsX2_isWinner (wsV RX2 55 RX3 yX3_papersWith wsX3_papersWith) := goodIn_app (goodIn_of _ (by decide +kernel)) ggX2_isWinner_X3_papersWith
theorem dX2_isWinner_0 : decode cX2_isWinner 0 = .ok (.aload_n 2, 1) := by decide +kernel
theorem dX2_isWinner_1 : decode cX2_isWinner 1 = .ok (.iload_n 1, 1) := by decide +kernel
theorem dX2_isWinner_2 : decode cX2_isWinner 2 = .ok (.invokevirtual 55, 3) := by decide +kernel
theorem dX2_isWinner_5 : decode cX2_isWinner 5 = .ok (.istore_n 3, 1) := by decide +kernel
theorem dX2_isWinner_6 : decode cX2_isWinner 6 = .ok (.iconst 0, 1) := by decide +kernel
theorem dX2_isWinner_7 : decode cX2_isWinner 7 = .ok (.istore 4, 2) := by decide +kernel
theorem dX2_isWinner_9 : decode cX2_isWinner 9 = .ok (.iconst 1, 1) := by decide +kernel
theorem dX2_isWinner_10 : decode cX2_isWinner 10 = .ok (.istore 5, 2) := by decide +kernel
theorem dX2_isWinner_12 : decode cX2_isWinner 12 = .ok (.iload 5, 2) := by decide +kernel
theorem dX2_isWinner_14 : decode cX2_isWinner 14 = .ok (.aload_n 0, 1) := by decide +kernel
theorem dX2_isWinner_15 : decode cX2_isWinner 15 = .ok (.getfield 36, 3) := by decide +kernel
theorem dX2_isWinner_18 : decode cX2_isWinner 18 = .ok (.if_icmp .gt 38, 3) := by decide +kernel
theorem dX2_isWinner_21 : decode cX2_isWinner 21 = .ok (.aload_n 2, 1) := by decide +kernel
theorem dX2_isWinner_22 : decode cX2_isWinner 22 = .ok (.iload 5, 2) := by decide +kernel
theorem dX2_isWinner_24 : decode cX2_isWinner 24 = .ok (.invokevirtual 55, 3) := by decide +kernel
theorem dX2_isWinner_27 : decode cX2_isWinner 27 = .ok (.istore 6, 2) := by decide +kernel
theorem dX2_isWinner_29 : decode cX2_isWinner 29 = .ok (.iload 6, 2) := by decide +kernel
theorem dX2_isWinner_31 : decode cX2_isWinner 31 = .ok (.iload_n 3, 1) := by decide +kernel
theorem dX2_isWinner_32 : decode cX2_isWinner 32 = .ok (.if_icmp .gt 15, 3) := by decide +kernel
theorem dX2_isWinner_35 : decode cX2_isWinner 35 = .ok (.iload 6, 2) := by decide +kernel
theorem dX2_isWinner_37 : decode cX2_isWinner 37 = .ok (.iload_n 3, 1) := by decide +kernel
theorem dX2_isWinner_38 : decode cX2_isWinner 38 = .ok (.if_icmp .ne 12, 3) := by decide +kernel
theorem dX2_isWinner_41 : decode cX2_isWinner 41 = .ok (.iload 5, 2) := by decide +kernel
theorem dX2_isWinner_43 : decode cX2_isWinner 43 = .ok (.iload_n 1, 1) := by decide +kernel
theorem dX2_isWinner_44 : decode cX2_isWinner 44 = .ok (.if_icmp .ge 6, 3) := by decide +kernel
theorem dX2_isWinner_47 : decode cX2_isWinner 47 = .ok (.iinc 4 1, 3) := by decide +kernel
theorem dX2_isWinner_50 : decode cX2_isWinner 50 = .ok (.iinc 5 1, 3) := by decide +kernel
theorem dX2_isWinner_53 : decode cX2_isWinner 53 = .ok (.goto (-41), 3) := by decide +kernel
theorem dX2_isWinner_56 : decode cX2_isWinner 56 = .ok (.iload 4, 2) := by decide +kernel
theorem dX2_isWinner_58 : decode cX2_isWinner 58 = .ok (.aload_n 0, 1) := by decide +kernel
theorem dX2_isWinner_59 : decode cX2_isWinner 59 = .ok (.getfield 39, 3) := by decide +kernel
theorem dX2_isWinner_62 : decode cX2_isWinner 62 = .ok (.if_icmp .ge 7, 3) := by decide +kernel
theorem dX2_isWinner_65 : decode cX2_isWinner 65 = .ok (.iconst 1, 1) := by decide +kernel
theorem dX2_isWinner_66 : decode cX2_isWinner 66 = .ok (.goto 4, 3) := by decide +kernel
theorem dX2_isWinner_69 : decode cX2_isWinner 69 = .ok (.iconst 0, 1) := by decide +kernel
theorem dX2_isWinner_70 : decode cX2_isWinner 70 = .ok (.ireturn, 1) := by decide +kernel
set_option maxRecDepth 20000 in
theorem ggX2_pairUp_X2_isWinner : GoodIn wsX2_pairUp wsX2_isWinner := goodIn_r _ [15, 1, 16, 17, 18, 19, 20, 21, 22, 29, 30, 31, 32, 33, 34, 35, 36, 37, 38, 39] (by decide +kernel) (by decide +kernel)
set_option maxRecDepth 20000 in
theorem gX2_pairUp_X2_isWinner : GoodIn wsX2_pairUp (wsV RX2 59 RX2 yX2_isWinner wsX2_isWinner) := goodIn_app (goodIn_of _ (by decide +kernel)) ggX2_pairUp_X2_isWinner
set_option maxRecDepth 20000 in
theorem ggX2_pairUp_X2_pairWithLosers : GoodIn wsX2_pairUp wsX2_pairWithLosers := goodIn_r _ [26, 1, 4, 2, 27, 28, 5, 3, 17, 18, 19, 20, 21, 22, 29, 30, 31, 32, 33, 34, 35, 36, 37, 38, 39] (by decide +kernel) (by decide +kernel)
set_option maxRecDepth 20000 in
theorem gX2_pairUp_X2_pairWithLosers : GoodIn wsX2_pairUp (wsV RX2 63 RX2 yX2_pairWithLosers wsX2_pairWithLosers) := goodIn_app (goodIn_of _ (by decide +kernel)) ggX2_pairUp_X2_pairWithLosers
theorem dX2_pairUp_0 : decode cX2_pairUp 0 = .ok (.iconst 1, 1) := by decide +kernel
theorem dX2_pairUp_1 : decode cX2_pairUp 1 = .ok (.istore_n 1, 1) := by decide +kernel
theorem dX2_pairUp_2 : decode cX2_pairUp 2 = .ok (.iload_n 1, 1) := by decide +kernel
theorem dX2_pairUp_3 : decode cX2_pairUp 3 = .ok (.aload_n 0, 1) := by decide +kernel
theorem dX2_pairUp_4 : decode cX2_pairUp 4 = .ok (.getfield 36, 3) := by decide +kernel
theorem dX2_pairUp_7 : decode cX2_pairUp 7 = .ok (.if_icmp .gt 24, 3) := by decide +kernel
theorem dX2_pairUp_10 : decode cX2_pairUp 10 = .ok (.aload_n 0, 1) := by decide +kernel
theorem dX2_pairUp_11 : decode cX2_pairUp 11 = .ok (.getfield 18, 3) := by decide +kernel
theorem dX2_pairUp_14 : decode cX2_pairUp 14 = .ok (.iload_n 1, 1) := by decide +kernel
theorem dX2_pairUp_15 : decode cX2_pairUp 15 = .ok (.aload_n 0, 1) := by decide +kernel
theorem dX2_pairUp_16 : decode cX2_pairUp 16 = .ok (.iload_n 1, 1) := by decide +kernel
theorem dX2_pairUp_17 : decode cX2_pairUp 17 = .ok (.aload_n 0, 1) := by decide +kernel
theorem dX2_pairUp_18 : decode cX2_pairUp 18 = .ok (.getfield 12, 3) := by decide +kernel
theorem dX2_pairUp_21 : decode cX2_pairUp 21 = .ok (.invokevirtual 59, 3) := by decide +kernel
theorem dX2_pairUp_24 : decode cX2_pairUp 24 = .ok (.bastore, 1) := by decide +kernel
theorem dX2_pairUp_25 : decode cX2_pairUp 25 = .ok (.iinc 1 1, 3) := by decide +kernel
theorem dX2_pairUp_28 : decode cX2_pairUp 28 = .ok (.goto (-26), 3) := by decide +kernel
theorem dX2_pairUp_31 : decode cX2_pairUp 31 = .ok (.aload_n 0, 1) := by decide +kernel
theorem dX2_pairUp_32 : decode cX2_pairUp 32 = .ok (.iconst 0, 1) := by decide +kernel
theorem dX2_pairUp_33 : decode cX2_pairUp 33 = .ok (.putfield 32, 3) := by decide +kernel
theorem dX2_pairUp_36 : decode cX2_pairUp 36 = .ok (.iconst 1, 1) := by decide +kernel
theorem dX2_pairUp_37 : decode cX2_pairUp 37 = .ok (.istore_n 1, 1) := by decide +kernel
theorem dX2_pairUp_38 : decode cX2_pairUp 38 = .ok (.iload_n 1, 1) := by decide +kernel
theorem dX2_pairUp_39 : decode cX2_pairUp 39 = .ok (.aload_n 0, 1) := by decide +kernel
theorem dX2_pairUp_40 : decode cX2_pairUp 40 = .ok (.getfield 36, 3) := by decide +kernel
theorem dX2_pairUp_43 : decode cX2_pairUp 43 = .ok (.if_icmp .gt 23, 3) := by decide +kernel
theorem dX2_pairUp_46 : decode cX2_pairUp 46 = .ok (.aload_n 0, 1) := by decide +kernel
theorem dX2_pairUp_47 : decode cX2_pairUp 47 = .ok (.getfield 18, 3) := by decide +kernel
theorem dX2_pairUp_50 : decode cX2_pairUp 50 = .ok (.iload_n 1, 1) := by decide +kernel
theorem dX2_pairUp_51 : decode cX2_pairUp 51 = .ok (.baload, 1) := by decide +kernel
theorem dX2_pairUp_52 : decode cX2_pairUp 52 = .ok (.ifCond .eq 8, 3) := by decide +kernel
theorem dX2_pairUp_55 : decode cX2_pairUp 55 = .ok (.aload_n 0, 1) := by decide +kernel
theorem dX2_pairUp_56 : decode cX2_pairUp 56 = .ok (.iload_n 1, 1) := by decide +kernel
theorem dX2_pairUp_57 : decode cX2_pairUp 57 = .ok (.invokevirtual 63, 3) := by decide +kernel
theorem dX2_pairUp_60 : decode cX2_pairUp 60 = .ok (.iinc 1 1, 3) := by decide +kernel
theorem dX2_pairUp_63 : decode cX2_pairUp 63 = .ok (.goto (-25), 3) := by decide +kernel
theorem dX2_pairUp_66 : decode cX2_pairUp 66 = .ok (.aload_n 0, 1) := by decide +kernel
theorem dX2_pairUp_67 : decode cX2_pairUp 67 = .ok (.aload_n 0, 1) := by decide +kernel
theorem dX2_pairUp_68 : decode cX2_pairUp 68 = .ok (.getfield 32, 3) := by decide +kernel
theorem dX2_pairUp_71 : decode cX2_pairUp 71 = .ok (.ifCond .ne 7, 3) := by decide +kernel
theorem dX2_pairUp_74 : decode cX2_pairUp 74 = .ok (.iconst 0, 1) := by decide +kernel
theorem dX2_pairUp_75 : decode cX2_pairUp 75 = .ok (.goto 9, 3) := by decide +kernel
theorem dX2_pairUp_78 : decode cX2_pairUp 78 = .ok (.aload_n 0, 1) := by decide +kernel
theorem dX2_pairUp_79 : decode cX2_pairUp 79 = .ok (.getfield 29, 3) := by decide +kernel
theorem dX2_pairUp_82 : decode cX2_pairUp 82 = .ok (.iconst 0, 1) := by decide +kernel
theorem dX2_pairUp_83 : decode cX2_pairUp 83 = .ok (.iaload, 1) := by decide +kernel
theorem dX2_pairUp_84 : decode cX2_pairUp 84 = .ok (.putfield 45, 3) := by decide +kernel
theorem dX2_pairUp_87 : decode cX2_pairUp 87 = .ok (.iconst 1, 1) := by decide +kernel
theorem dX2_pairUp_88 : decode cX2_pairUp 88 = .ok (.istore_n 1, 1) := by decide +kernel
theorem dX2_pairUp_89 : decode cX2_pairUp 89 = .ok (.iload_n 1, 1) := by decide +kernel
theorem dX2_pairUp_90 : decode cX2_pairUp 90 = .ok (.aload_n 0, 1) := by decide +kernel
theorem dX2_pairUp_91 : decode cX2_pairUp 91 = .ok (.getfield 32, 3) := by decide +kernel
theorem dX2_pairUp_94 : decode cX2_pairUp 94 = .ok (.if_icmp .ge 26, 3) := by decide +kernel
theorem dX2_pairUp_97 : decode cX2_pairUp 97 = .ok (.aload_n 0, 1) := by decide +kernel
theorem dX2_pairUp_98 : decode cX2_pairUp 98 = .ok (.aload_n 0, 1) := by decide +kernel
theorem dX2_pairUp_99 : decode cX2_pairUp 99 = .ok (.getfield 45, 3) := by decide +kernel
theorem dX2_pairUp_102 : decode cX2_pairUp 102 = .ok (.aload_n 0, 1) := by decide +kernel
theorem dX2_pairUp_103 : decode cX2_pairUp 103 = .ok (.getfield 29, 3) := by decide +kernel
theorem dX2_pairUp_106 : decode cX2_pairUp 106 = .ok (.iload_n 1, 1) := by decide +kernel
theorem dX2_pairUp_107 : decode cX2_pairUp 107 = .ok (.iaload, 1) := by decide +kernel
theorem dX2_pairUp_108 : decode cX2_pairUp 108 = .ok (.invokestatic 66, 3) := by decide +kernel
theorem dX2_pairUp_111 : decode cX2_pairUp 111 = .ok (.putfield 45, 3) := by decide +kernel
theorem dX2_pairUp_114 : decode cX2_pairUp 114 = .ok (.iinc 1 1, 3) := by decide +kernel
theorem dX2_pairUp_117 : decode cX2_pairUp 117 = .ok (.goto (-28), 3) := by decide +kernel
theorem dX2_pairUp_120 : decode cX2_pairUp 120 = .ok (.return_, 1) := by decide +kernel
set_option maxRecDepth 20000 in
theorem ggX2_pairWithLosers_X3_papersWith : GoodIn wsX2_pairWithLosers wsX3_papersWith := goodIn_r _ [12, 13, 24] (by decide +kernel) (by decide +kernel)
set_option maxRecDepth 20000 in
theorem gX2_pairWithLosers_X3_papersWith : GoodIn wsX2_pairWithLosers (wsV RX2 55 RX3 yX3_papersWith wsX3_papersWith) := goodIn_app (goodIn_of _ (by decide +kernel)) ggX2_pairWithLosers_X3_papersWith
theorem dX2_pairWithLosers_0 : decode cX2_pairWithLosers 0 = .ok (.iconst 1, 1) := by decide +kernel
theorem dX2_pairWithLosers_1 : decode cX2_pairWithLosers 1 = .ok (.istore_n 2, 1) := by decide +kernel
theorem dX2_pairWithLosers_2 : decode cX2_pairWithLosers 2 = .ok (.iload_n 2, 1) := by decide +kernel
theorem dX2_pairWithLosers_3 : decode cX2_pairWithLosers 3 = .ok (.aload_n 0, 1) := by decide +kernel
theorem dX2_pairWithLosers_4 : decode cX2_pairWithLosers 4 = .ok (.getfield 36, 3) := by decide +kernel
theorem dX2_pairWithLosers_7 : decode cX2_pairWithLosers 7 = .ok (.if_icmp .gt 83, 3) := by decide +kernel
theorem dX2_pairWithLosers_10 : decode cX2_pairWithLosers 10 = .ok (.aload_n 0, 1) := by decide +kernel
theorem dX2_pairWithLosers_11 : decode cX2_pairWithLosers 11 = .ok (.getfield 32, 3) := by decide +kernel
theorem dX2_pairWithLosers_14 : decode cX2_pairWithLosers 14 = .ok (.bipush 9, 2) := by decide +kernel
theorem dX2_pairWithLosers_16 : decode cX2_pairWithLosers 16 = .ok (.if_icmp .ge 74, 3) := by decide +kernel
theorem dX2_pairWithLosers_19 : decode cX2_pairWithLosers 19 = .ok (.aload_n 0, 1) := by decide +kernel
theorem dX2_pairWithLosers_20 : decode cX2_pairWithLosers 20 = .ok (.getfield 18, 3) := by decide +kernel
theorem dX2_pairWithLosers_23 : decode cX2_pairWithLosers 23 = .ok (.iload_n 2, 1) := by decide +kernel
theorem dX2_pairWithLosers_24 : decode cX2_pairWithLosers 24 = .ok (.baload, 1) := by decide +kernel
theorem dX2_pairWithLosers_25 : decode cX2_pairWithLosers 25 = .ok (.ifCond .ne 59, 3) := by decide +kernel
theorem dX2_pairWithLosers_28 : decode cX2_pairWithLosers 28 = .ok (.aload_n 0, 1) := by decide +kernel
theorem dX2_pairWithLosers_29 : decode cX2_pairWithLosers 29 = .ok (.getfield 22, 3) := by decide +kernel
theorem dX2_pairWithLosers_32 : decode cX2_pairWithLosers 32 = .ok (.aload_n 0, 1) := by decide +kernel
theorem dX2_pairWithLosers_33 : decode cX2_pairWithLosers 33 = .ok (.getfield 32, 3) := by decide +kernel
theorem dX2_pairWithLosers_36 : decode cX2_pairWithLosers 36 = .ok (.iload_n 1, 1) := by decide +kernel
theorem dX2_pairWithLosers_37 : decode cX2_pairWithLosers 37 = .ok (.iastore, 1) := by decide +kernel
theorem dX2_pairWithLosers_38 : decode cX2_pairWithLosers 38 = .ok (.aload_n 0, 1) := by decide +kernel
theorem dX2_pairWithLosers_39 : decode cX2_pairWithLosers 39 = .ok (.getfield 26, 3) := by decide +kernel
theorem dX2_pairWithLosers_42 : decode cX2_pairWithLosers 42 = .ok (.aload_n 0, 1) := by decide +kernel
theorem dX2_pairWithLosers_43 : decode cX2_pairWithLosers 43 = .ok (.getfield 32, 3) := by decide +kernel
theorem dX2_pairWithLosers_46 : decode cX2_pairWithLosers 46 = .ok (.iload_n 2, 1) := by decide +kernel
theorem dX2_pairWithLosers_47 : decode cX2_pairWithLosers 47 = .ok (.iastore, 1) := by decide +kernel
theorem dX2_pairWithLosers_48 : decode cX2_pairWithLosers 48 = .ok (.aload_n 0, 1) := by decide +kernel
theorem dX2_pairWithLosers_49 : decode cX2_pairWithLosers 49 = .ok (.getfield 29, 3) := by decide +kernel
theorem dX2_pairWithLosers_52 : decode cX2_pairWithLosers 52 = .ok (.aload_n 0, 1) := by decide +kernel
theorem dX2_pairWithLosers_53 : decode cX2_pairWithLosers 53 = .ok (.getfield 32, 3) := by decide +kernel
theorem dX2_pairWithLosers_56 : decode cX2_pairWithLosers 56 = .ok (.aload_n 0, 1) := by decide +kernel
theorem dX2_pairWithLosers_57 : decode cX2_pairWithLosers 57 = .ok (.getfield 12, 3) := by decide +kernel
theorem dX2_pairWithLosers_60 : decode cX2_pairWithLosers 60 = .ok (.iload_n 1, 1) := by decide +kernel
theorem dX2_pairWithLosers_61 : decode cX2_pairWithLosers 61 = .ok (.invokevirtual 55, 3) := by decide +kernel
theorem dX2_pairWithLosers_64 : decode cX2_pairWithLosers 64 = .ok (.aload_n 0, 1) := by decide +kernel
theorem dX2_pairWithLosers_65 : decode cX2_pairWithLosers 65 = .ok (.getfield 12, 3) := by decide +kernel
theorem dX2_pairWithLosers_68 : decode cX2_pairWithLosers 68 = .ok (.iload_n 2, 1) := by decide +kernel
theorem dX2_pairWithLosers_69 : decode cX2_pairWithLosers 69 = .ok (.invokevirtual 55, 3) := by decide +kernel
theorem dX2_pairWithLosers_72 : decode cX2_pairWithLosers 72 = .ok (.isub, 1) := by decide +kernel
theorem dX2_pairWithLosers_73 : decode cX2_pairWithLosers 73 = .ok (.iastore, 1) := by decide +kernel
theorem dX2_pairWithLosers_74 : decode cX2_pairWithLosers 74 = .ok (.aload_n 0, 1) := by decide +kernel
theorem dX2_pairWithLosers_75 : decode cX2_pairWithLosers 75 = .ok (.dup, 1) := by decide +kernel
theorem dX2_pairWithLosers_76 : decode cX2_pairWithLosers 76 = .ok (.getfield 32, 3) := by decide +kernel
theorem dX2_pairWithLosers_79 : decode cX2_pairWithLosers 79 = .ok (.iconst 1, 1) := by decide +kernel
theorem dX2_pairWithLosers_80 : decode cX2_pairWithLosers 80 = .ok (.iadd, 1) := by decide +kernel
theorem dX2_pairWithLosers_81 : decode cX2_pairWithLosers 81 = .ok (.putfield 32, 3) := by decide +kernel
theorem dX2_pairWithLosers_84 : decode cX2_pairWithLosers 84 = .ok (.iinc 2 1, 3) := by decide +kernel
theorem dX2_pairWithLosers_87 : decode cX2_pairWithLosers 87 = .ok (.goto (-85), 3) := by decide +kernel
theorem dX2_pairWithLosers_90 : decode cX2_pairWithLosers 90 = .ok (.return_, 1) := by decide +kernel
theorem dX2_carryOn_0 : decode cX2_carryOn 0 = .ok (.iload_n 1, 1) := by decide +kernel
theorem dX2_carryOn_1 : decode cX2_carryOn 1 = .ok (.i2l, 1) := by decide +kernel
theorem dX2_carryOn_2 : decode cX2_carryOn 2 = .ok (.ldc2_w 72, 3) := by decide +kernel
theorem dX2_carryOn_5 : decode cX2_carryOn 5 = .ok (.aload_n 0, 1) := by decide +kernel
theorem dX2_carryOn_6 : decode cX2_carryOn 6 = .ok (.getfield 42, 3) := by decide +kernel
theorem dX2_carryOn_9 : decode cX2_carryOn 9 = .ok (.i2l, 1) := by decide +kernel
theorem dX2_carryOn_10 : decode cX2_carryOn 10 = .ok (.lmul, 1) := by decide +kernel
theorem dX2_carryOn_11 : decode cX2_carryOn 11 = .ok (.ldc2_w 74, 3) := by decide +kernel
theorem dX2_carryOn_14 : decode cX2_carryOn 14 = .ok (.aload_n 0, 1) := by decide +kernel
theorem dX2_carryOn_15 : decode cX2_carryOn 15 = .ok (.getfield 45, 3) := by decide +kernel
theorem dX2_carryOn_18 : decode cX2_carryOn 18 = .ok (.i2l, 1) := by decide +kernel
theorem dX2_carryOn_19 : decode cX2_carryOn 19 = .ok (.lmul, 1) := by decide +kernel
theorem dX2_carryOn_20 : decode cX2_carryOn 20 = .ok (.lsub, 1) := by decide +kernel
theorem dX2_carryOn_21 : decode cX2_carryOn 21 = .ok (.lmul, 1) := by decide +kernel
theorem dX2_carryOn_22 : decode cX2_carryOn 22 = .ok (.ldc2_w 72, 3) := by decide +kernel
theorem dX2_carryOn_25 : decode cX2_carryOn 25 = .ok (.lmul, 1) := by decide +kernel
theorem dX2_carryOn_26 : decode cX2_carryOn 26 = .ok (.iload_n 3, 1) := by decide +kernel
theorem dX2_carryOn_27 : decode cX2_carryOn 27 = .ok (.i2l, 1) := by decide +kernel
theorem dX2_carryOn_28 : decode cX2_carryOn 28 = .ok (.lmul, 1) := by decide +kernel
theorem dX2_carryOn_29 : decode cX2_carryOn 29 = .ok (.lstore 4, 2) := by decide +kernel
theorem dX2_carryOn_31 : decode cX2_carryOn 31 = .ok (.ldc2_w 72, 3) := by decide +kernel
theorem dX2_carryOn_34 : decode cX2_carryOn 34 = .ok (.aload_n 0, 1) := by decide +kernel
theorem dX2_carryOn_35 : decode cX2_carryOn 35 = .ok (.getfield 42, 3) := by decide +kernel
theorem dX2_carryOn_38 : decode cX2_carryOn 38 = .ok (.i2l, 1) := by decide +kernel
theorem dX2_carryOn_39 : decode cX2_carryOn 39 = .ok (.lmul, 1) := by decide +kernel
theorem dX2_carryOn_40 : decode cX2_carryOn 40 = .ok (.ldc2_w 72, 3) := by decide +kernel
theorem dX2_carryOn_43 : decode cX2_carryOn 43 = .ok (.iload_n 3, 1) := by decide +kernel
theorem dX2_carryOn_44 : decode cX2_carryOn 44 = .ok (.i2l, 1) := by decide +kernel
theorem dX2_carryOn_45 : decode cX2_carryOn 45 = .ok (.lmul, 1) := by decide +kernel
theorem dX2_carryOn_46 : decode cX2_carryOn 46 = .ok (.ldc2_w 74, 3) := by decide +kernel
theorem dX2_carryOn_49 : decode cX2_carryOn 49 = .ok (.iload_n 2, 1) := by decide +kernel
theorem dX2_carryOn_50 : decode cX2_carryOn 50 = .ok (.i2l, 1) := by decide +kernel
theorem dX2_carryOn_51 : decode cX2_carryOn 51 = .ok (.lmul, 1) := by decide +kernel
theorem dX2_carryOn_52 : decode cX2_carryOn 52 = .ok (.aload_n 0, 1) := by decide +kernel
theorem dX2_carryOn_53 : decode cX2_carryOn 53 = .ok (.getfield 45, 3) := by decide +kernel
theorem dX2_carryOn_56 : decode cX2_carryOn 56 = .ok (.i2l, 1) := by decide +kernel
theorem dX2_carryOn_57 : decode cX2_carryOn 57 = .ok (.lmul, 1) := by decide +kernel
theorem dX2_carryOn_58 : decode cX2_carryOn 58 = .ok (.lsub, 1) := by decide +kernel
theorem dX2_carryOn_59 : decode cX2_carryOn 59 = .ok (.lmul, 1) := by decide +kernel
theorem dX2_carryOn_60 : decode cX2_carryOn 60 = .ok (.lstore 6, 2) := by decide +kernel
theorem dX2_carryOn_62 : decode cX2_carryOn 62 = .ok (.lload 6, 2) := by decide +kernel
theorem dX2_carryOn_64 : decode cX2_carryOn 64 = .ok (.lconst 0, 1) := by decide +kernel
theorem dX2_carryOn_65 : decode cX2_carryOn 65 = .ok (.lcmp, 1) := by decide +kernel
theorem dX2_carryOn_66 : decode cX2_carryOn 66 = .ok (.ifCond .gt 6, 3) := by decide +kernel
theorem dX2_carryOn_69 : decode cX2_carryOn 69 = .ok (.ldc 76, 2) := by decide +kernel
theorem dX2_carryOn_71 : decode cX2_carryOn 71 = .ok (.ireturn, 1) := by decide +kernel
theorem dX2_carryOn_72 : decode cX2_carryOn 72 = .ok (.lload 4, 2) := by decide +kernel
theorem dX2_carryOn_74 : decode cX2_carryOn 74 = .ok (.lload 6, 2) := by decide +kernel
theorem dX2_carryOn_76 : decode cX2_carryOn 76 = .ok (.ladd, 1) := by decide +kernel
theorem dX2_carryOn_77 : decode cX2_carryOn 77 = .ok (.lconst 1, 1) := by decide +kernel
theorem dX2_carryOn_78 : decode cX2_carryOn 78 = .ok (.lsub, 1) := by decide +kernel
theorem dX2_carryOn_79 : decode cX2_carryOn 79 = .ok (.lload 6, 2) := by decide +kernel
theorem dX2_carryOn_81 : decode cX2_carryOn 81 = .ok (.ldiv, 1) := by decide +kernel
theorem dX2_carryOn_82 : decode cX2_carryOn 82 = .ok (.ldc2_w 77, 3) := by decide +kernel
theorem dX2_carryOn_85 : decode cX2_carryOn 85 = .ok (.invokestatic 79, 3) := by decide +kernel
theorem dX2_carryOn_88 : decode cX2_carryOn 88 = .ok (.l2i, 1) := by decide +kernel
theorem dX2_carryOn_89 : decode cX2_carryOn 89 = .ok (.ireturn, 1) := by decide +kernel
set_option maxRecDepth 20000 in
theorem ggX2_cleanDrawsUntil_X2_carryOn : GoodIn wsX2_cleanDrawsUntil wsX2_carryOn := goodIn_r _ [7, 8, 9, 10, 2, 11, 12, 13, 14, 15, 16, 17, 18, 19, 20, 21, 22, 23, 24, 25, 26] (by decide +kernel) (by decide +kernel)
set_option maxRecDepth 20000 in
theorem gX2_cleanDrawsUntil_X2_carryOn : GoodIn wsX2_cleanDrawsUntil (wsV RX2 83 RX2 yX2_carryOn wsX2_carryOn) := goodIn_app (goodIn_of _ (by decide +kernel)) ggX2_cleanDrawsUntil_X2_carryOn
theorem dX2_cleanDrawsUntil_0 : decode cX2_cleanDrawsUntil 0 = .ok (.iload_n 2, 1) := by decide +kernel
theorem dX2_cleanDrawsUntil_1 : decode cX2_cleanDrawsUntil 1 = .ok (.istore_n 3, 1) := by decide +kernel
theorem dX2_cleanDrawsUntil_2 : decode cX2_cleanDrawsUntil 2 = .ok (.iconst 0, 1) := by decide +kernel
theorem dX2_cleanDrawsUntil_3 : decode cX2_cleanDrawsUntil 3 = .ok (.istore 4, 2) := by decide +kernel
theorem dX2_cleanDrawsUntil_5 : decode cX2_cleanDrawsUntil 5 = .ok (.iload 4, 2) := by decide +kernel
theorem dX2_cleanDrawsUntil_7 : decode cX2_cleanDrawsUntil 7 = .ok (.ldc 82, 2) := by decide +kernel
theorem dX2_cleanDrawsUntil_9 : decode cX2_cleanDrawsUntil 9 = .ok (.if_icmp .gt 40, 3) := by decide +kernel
theorem dX2_cleanDrawsUntil_12 : decode cX2_cleanDrawsUntil 12 = .ok (.iload_n 3, 1) := by decide +kernel
theorem dX2_cleanDrawsUntil_13 : decode cX2_cleanDrawsUntil 13 = .ok (.iload_n 1, 1) := by decide +kernel
theorem dX2_cleanDrawsUntil_14 : decode cX2_cleanDrawsUntil 14 = .ok (.if_icmp .gt 6, 3) := by decide +kernel
theorem dX2_cleanDrawsUntil_17 : decode cX2_cleanDrawsUntil 17 = .ok (.iload 4, 2) := by decide +kernel
theorem dX2_cleanDrawsUntil_19 : decode cX2_cleanDrawsUntil 19 = .ok (.ireturn, 1) := by decide +kernel
theorem dX2_cleanDrawsUntil_20 : decode cX2_cleanDrawsUntil 20 = .ok (.aload_n 0, 1) := by decide +kernel
theorem dX2_cleanDrawsUntil_21 : decode cX2_cleanDrawsUntil 21 = .ok (.iload_n 3, 1) := by decide +kernel
theorem dX2_cleanDrawsUntil_22 : decode cX2_cleanDrawsUntil 22 = .ok (.iconst 0, 1) := by decide +kernel
theorem dX2_cleanDrawsUntil_23 : decode cX2_cleanDrawsUntil 23 = .ok (.aload_n 0, 1) := by decide +kernel
theorem dX2_cleanDrawsUntil_24 : decode cX2_cleanDrawsUntil 24 = .ok (.getfield 45, 3) := by decide +kernel
theorem dX2_cleanDrawsUntil_27 : decode cX2_cleanDrawsUntil 27 = .ok (.invokevirtual 83, 3) := by decide +kernel
theorem dX2_cleanDrawsUntil_30 : decode cX2_cleanDrawsUntil 30 = .ok (.istore 5, 2) := by decide +kernel
theorem dX2_cleanDrawsUntil_32 : decode cX2_cleanDrawsUntil 32 = .ok (.iload 5, 2) := by decide +kernel
theorem dX2_cleanDrawsUntil_34 : decode cX2_cleanDrawsUntil 34 = .ok (.iload_n 3, 1) := by decide +kernel
theorem dX2_cleanDrawsUntil_35 : decode cX2_cleanDrawsUntil 35 = .ok (.if_icmp .ne 5, 3) := by decide +kernel
theorem dX2_cleanDrawsUntil_38 : decode cX2_cleanDrawsUntil 38 = .ok (.iconst (-1), 1) := by decide +kernel
theorem dX2_cleanDrawsUntil_39 : decode cX2_cleanDrawsUntil 39 = .ok (.ireturn, 1) := by decide +kernel
theorem dX2_cleanDrawsUntil_40 : decode cX2_cleanDrawsUntil 40 = .ok (.iload 5, 2) := by decide +kernel
theorem dX2_cleanDrawsUntil_42 : decode cX2_cleanDrawsUntil 42 = .ok (.istore_n 3, 1) := by decide +kernel
theorem dX2_cleanDrawsUntil_43 : decode cX2_cleanDrawsUntil 43 = .ok (.iinc 4 1, 3) := by decide +kernel
theorem dX2_cleanDrawsUntil_46 : decode cX2_cleanDrawsUntil 46 = .ok (.goto (-41), 3) := by decide +kernel
theorem dX2_cleanDrawsUntil_49 : decode cX2_cleanDrawsUntil 49 = .ok (.iconst (-1), 1) := by decide +kernel
theorem dX2_cleanDrawsUntil_50 : decode cX2_cleanDrawsUntil 50 = .ok (.ireturn, 1) := by decide +kernel
theorem dX3_init_0 : decode cX3_init 0 = .ok (.aload_n 0, 1) := by decide +kernel
theorem dX3_init_1 : decode cX3_init 1 = .ok (.invokespecial 3, 3) := by decide +kernel
theorem dX3_init_4 : decode cX3_init 4 = .ok (.aload_n 0, 1) := by decide +kernel
theorem dX3_init_5 : decode cX3_init 5 = .ok (.bipush 8, 2) := by decide +kernel
theorem dX3_init_7 : decode cX3_init 7 = .ok (.newarray .int, 2) := by decide +kernel
theorem dX3_init_9 : decode cX3_init 9 = .ok (.putfield 9, 3) := by decide +kernel
theorem dX3_init_12 : decode cX3_init 12 = .ok (.return_, 1) := by decide +kernel
set_option maxRecDepth 20000 in
theorem ggX3_clear_J7_fill_53178 : GoodIn wsX3_clear wsJ7_fill_53178 := goodIn_r _ [5] (by decide +kernel) (by decide +kernel)
set_option maxRecDepth 20000 in
theorem gX3_clear_J7_fill_53178 : GoodIn wsX3_clear (va_wsS RX3 15 yJ7_fill_53178 wsJ7_fill_53178) := goodIn_app (goodIn_of _ (by decide +kernel)) ggX3_clear_J7_fill_53178
theorem dX3_clear_0 : decode cX3_clear 0 = .ok (.aload_n 0, 1) := by decide +kernel
theorem dX3_clear_1 : decode cX3_clear 1 = .ok (.getfield 9, 3) := by decide +kernel
theorem dX3_clear_4 : decode cX3_clear 4 = .ok (.iconst 0, 1) := by decide +kernel
theorem dX3_clear_5 : decode cX3_clear 5 = .ok (.invokestatic 15, 3) := by decide +kernel
theorem dX3_clear_8 : decode cX3_clear 8 = .ok (.return_, 1) := by decide +kernel
theorem dX3_add_0 : decode cX3_add 0 = .ok (.aload_n 0, 1) := by decide +kernel
theorem dX3_add_1 : decode cX3_add 1 = .ok (.getfield 9, 3) := by decide +kernel
theorem dX3_add_4 : decode cX3_add 4 = .ok (.iload_n 1, 1) := by decide +kernel
theorem dX3_add_5 : decode cX3_add 5 = .ok (.dup2, 1) := by decide +kernel
theorem dX3_add_6 : decode cX3_add 6 = .ok (.iaload, 1) := by decide +kernel
theorem dX3_add_7 : decode cX3_add 7 = .ok (.iconst 1, 1) := by decide +kernel
theorem dX3_add_8 : decode cX3_add 8 = .ok (.iadd, 1) := by decide +kernel
theorem dX3_add_9 : decode cX3_add 9 = .ok (.iastore, 1) := by decide +kernel
theorem dX3_add_10 : decode cX3_add 10 = .ok (.return_, 1) := by decide +kernel
theorem dX3_papersWith_0 : decode cX3_papersWith 0 = .ok (.aload_n 0, 1) := by decide +kernel
theorem dX3_papersWith_1 : decode cX3_papersWith 1 = .ok (.getfield 9, 3) := by decide +kernel
theorem dX3_papersWith_4 : decode cX3_papersWith 4 = .ok (.iload_n 1, 1) := by decide +kernel
theorem dX3_papersWith_5 : decode cX3_papersWith 5 = .ok (.iaload, 1) := by decide +kernel
theorem dX3_papersWith_6 : decode cX3_papersWith 6 = .ok (.ireturn, 1) := by decide +kernel
theorem dX4_init_0 : decode cX4_init 0 = .ok (.aload_n 0, 1) := by decide +kernel
theorem dX4_init_1 : decode cX4_init 1 = .ok (.invokespecial 3, 3) := by decide +kernel
theorem dX4_init_4 : decode cX4_init 4 = .ok (.aload_n 0, 1) := by decide +kernel
theorem dX4_init_5 : decode cX4_init 5 = .ok (.sipush 300, 3) := by decide +kernel
theorem dX4_init_8 : decode cX4_init 8 = .ok (.newarray .int, 2) := by decide +kernel
theorem dX4_init_10 : decode cX4_init 10 = .ok (.putfield 9, 3) := by decide +kernel
theorem dX4_init_13 : decode cX4_init 13 = .ok (.aload_n 0, 1) := by decide +kernel
theorem dX4_init_14 : decode cX4_init 14 = .ok (.sipush 300, 3) := by decide +kernel
theorem dX4_init_17 : decode cX4_init 17 = .ok (.newarray .int, 2) := by decide +kernel
theorem dX4_init_19 : decode cX4_init 19 = .ok (.putfield 15, 3) := by decide +kernel
theorem dX4_init_22 : decode cX4_init 22 = .ok (.aload_n 0, 1) := by decide +kernel
theorem dX4_init_23 : decode cX4_init 23 = .ok (.ldc 18, 2) := by decide +kernel
theorem dX4_init_25 : decode cX4_init 25 = .ok (.putfield 19, 3) := by decide +kernel
theorem dX4_init_28 : decode cX4_init 28 = .ok (.aload_n 0, 1) := by decide +kernel
theorem dX4_init_29 : decode cX4_init 29 = .ok (.iconst 0, 1) := by decide +kernel
theorem dX4_init_30 : decode cX4_init 30 = .ok (.putfield 23, 3) := by decide +kernel
theorem dX4_init_33 : decode cX4_init 33 = .ok (.return_, 1) := by decide +kernel
set_option maxRecDepth 20000 in
theorem ggX4_follow_X4_weigh : GoodIn wsX4_follow wsX4_weigh := goodIn_r _ [10, 4, 5, 11, 12, 13, 14, 15, 16, 17, 18, 19, 20, 21, 22, 23, 24, 25, 26, 27, 28, 29, 30, 31, 32, 33, 34, 35, 36, 37, 38, 39, 40, 41, 42, 43, 44, 45, 46, 9, 47, 48, 49, 50, 81, 82, 83, 84, 85, 86, 87, 88, 89, 90, 91, 95, 96, 97, 98, 99, 100, 101, 102, 103, 104] (by decide +kernel) (by decide +kernel)
set_option maxRecDepth 20000 in
theorem gX4_follow_X4_weigh : GoodIn wsX4_follow (wsV RX4 31 RX4 yX4_weigh wsX4_weigh) := goodIn_app (goodIn_of _ (by decide +kernel)) ggX4_follow_X4_weigh
set_option maxRecDepth 20000 in
theorem ggX4_follow_X0_settled : GoodIn wsX4_follow wsX0_settled := goodIn_r _ [55, 56, 57, 58, 59, 60, 14, 61, 62, 63, 64, 65, 66, 24, 92, 93, 94, 81, 82, 83, 84, 85, 86, 87] (by decide +kernel) (by decide +kernel)
set_option maxRecDepth 20000 in
theorem gX4_follow_X0_settled : GoodIn wsX4_follow (wsV RX4 35 RX0 yX0_settled wsX0_settled) := goodIn_app (goodIn_of _ (by decide +kernel)) ggX4_follow_X0_settled
set_option maxRecDepth 20000 in
theorem ggX4_follow_X2_carryOn : GoodIn wsX4_follow wsX2_carryOn := goodIn_r _ [71, 72, 73, 74, 75, 76, 77, 78, 79, 27, 80, 95, 96, 97, 98, 99, 100, 101, 102, 103, 104] (by decide +kernel) (by decide +kernel)
set_option maxRecDepth 20000 in
theorem gX4_follow_X2_carryOn : GoodIn wsX4_follow (wsV RX4 44 RX2 yX2_carryOn wsX2_carryOn) := goodIn_app (goodIn_of _ (by decide +kernel)) ggX4_follow_X2_carryOn
