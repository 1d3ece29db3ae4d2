section
/-! ===== BEGIN words of one list among another's, by their places ===== -/
theorem goodIn_r {big : List Cond} (ws : List Cond) (ps : List Nat) (hp : ws = ps.filterMap (fun i => big[i]?)) (h : ws.all goodWord = true) : GoodIn big ws := by
  intro w hw
  have h1 := List.all_eq_true.mp h w hw
  rw [hp] at hw
  obtain ⟨i, -, hi⟩ := List.mem_filterMap.mp hw
  have hm : w ∈ big := by first | exact List.mem_of_getElem? hi | exact List.getElem?_mem hi
  exact ⟨hm, good_of_word h1⟩
theorem goodIn_app {big a b : List Cond} (ha : GoodIn big a) (hb : GoodIn big b) : GoodIn big (a ++ b) := fun w h => (List.mem_append.mp h).elim (ha w) (hb w)
theorem goodIn_ca {big a b : List Cond} {c : Cond} (ha : GoodIn big (c :: a)) (hb : GoodIn big b) : GoodIn big (c :: (a ++ b)) := fun w h => (List.mem_cons.mp h).elim (fun e => ha w (List.mem_cons.mpr (Or.inl e))) (fun h => (List.mem_append.mp h).elim (fun h => ha w (List.mem_cons.mpr (Or.inr h))) (hb w))
theorem goodIn_sub {big ws : List Cond} (hm : ∀ w ∈ ws, w ∈ big) (h : ws.all goodWord = true) : GoodIn big ws := fun w hw => ⟨hm w hw, good_of_word (List.all_eq_true.mp h w hw)⟩
/-! ===== END ===== -/

/-! ===== BEGIN printed: names, fields, word lists, decode rows ===== -/
def RX0 : String := "TypoSuggester$Lexicon"
def TX0 : u_T := fun k => match k with
  | 0 => ("TypoSuggester$Lexicon", "letters", "[B", true)
  | 1 => ("TypoSuggester$Lexicon", "starts", "[I", true)
  | 2 => ("TypoSuggester$Lexicon", "weights", "[J", true)
  | _ => ("TypoSuggester$Lexicon", "count", "I", false)
def tyX0 : Nat → FieldType := fun k => match k with
  | 0 => .array .byte
  | 1 => .array .int
  | 2 => .array .long
  | _ => .int
abbrev wsX00 : List Cond := u_ws RX0 TX0 4
theorem nmX0 : ∀ a, a < 4 → ∀ b, b < 4 → a ≠ b → (TX0 a).2.1 ≠ (TX0 b).2.1 := by decide +kernel
theorem tyX0_ok : ∀ k, k < 4 → parseFieldDescriptor (TX0 k).2.2.1 = some (tyX0 k) := by decide +kernel
abbrev cX0_init : ByteArray := prog_2_method_1_code
def yX0_init : MethodName := ⟨RX0, "<init>", "()V"⟩
abbrev cX0_size : ByteArray := prog_2_method_2_code
def yX0_size : MethodName := ⟨RX0, "size", "()I"⟩
abbrev cX0_lengthOf : ByteArray := prog_2_method_3_code
def yX0_lengthOf : MethodName := ⟨RX0, "lengthOf", "(I)I"⟩
abbrev cX0_letterOf : ByteArray := prog_2_method_4_code
def yX0_letterOf : MethodName := ⟨RX0, "letterOf", "(II)I"⟩
abbrev cX0_placeOf : ByteArray := prog_2_method_5_code
def yX0_placeOf : MethodName := ⟨RX0, "placeOf", "(LTypoSuggester$Word;)I"⟩
abbrev cX0_goesBefore : ByteArray := prog_2_method_6_code
def yX0_goesBefore : MethodName := ⟨RX0, "goesBefore", "(ILTypoSuggester$Word;)Z"⟩
abbrev cX0_beginsWith : ByteArray := prog_2_method_7_code
def yX0_beginsWith : MethodName := ⟨RX0, "beginsWith", "(ILTypoSuggester$Word;)Z"⟩
abbrev cX0_standsAt : ByteArray := prog_2_method_8_code
def yX0_standsAt : MethodName := ⟨RX0, "standsAt", "(ILTypoSuggester$Word;)Z"⟩
abbrev cX0_sharedWith : ByteArray := prog_2_method_9_code
def yX0_sharedWith : MethodName := ⟨RX0, "sharedWith", "(ILTypoSuggester$Word;)I"⟩
abbrev cX0_sharedWithNext : ByteArray := prog_2_method_10_code
def yX0_sharedWithNext : MethodName := ⟨RX0, "sharedWithNext", "(I)I"⟩
abbrev cX0_grow : ByteArray := prog_2_method_11_code
def yX0_grow : MethodName := ⟨RX0, "grow", "(LTypoSuggester$Word;I)Z"⟩
abbrev cX0_insert : ByteArray := prog_2_method_12_code
def yX0_insert : MethodName := ⟨RX0, "insert", "(ILTypoSuggester$Word;J)Z"⟩
abbrev cX0_remove : ByteArray := prog_2_method_13_code
def yX0_remove : MethodName := ⟨RX0, "remove", "(I)V"⟩
abbrev cX0_rankOf : ByteArray := prog_2_method_14_code
def yX0_rankOf : MethodName := ⟨RX0, "rankOf", "(I)I"⟩
abbrev cX0_countPrefixes : ByteArray := prog_2_method_15_code
def yX0_countPrefixes : MethodName := ⟨RX0, "countPrefixes", "()I"⟩
def RX1 : String := "TypoSuggester$Measure"
def TX1 : u_T := fun k => match k with
  | _ => ("TypoSuggester$Measure", "row", "[I", true)
def tyX1 : Nat → FieldType := fun k => match k with
  | _ => .array .int
abbrev wsX10 : List Cond := u_ws RX1 TX1 1
theorem nmX1 : ∀ a, a < 1 → ∀ b, b < 1 → a ≠ b → (TX1 a).2.1 ≠ (TX1 b).2.1 := by decide +kernel
theorem tyX1_ok : ∀ k, k < 1 → parseFieldDescriptor (TX1 k).2.2.1 = some (tyX1 k) := by decide +kernel
abbrev cX1_init : ByteArray := prog_3_method_1_code
def yX1_init : MethodName := ⟨RX1, "<init>", "()V"⟩
abbrev cX1_nearness : ByteArray := prog_3_method_2_code
def yX1_nearness : MethodName := ⟨RX1, "nearness", "(LTypoSuggester$Word;LTypoSuggester$Lexicon;II)I"⟩
abbrev cX1_lengthenPrefix : ByteArray := prog_3_method_3_code
def yX1_lengthenPrefix : MethodName := ⟨RX1, "lengthenPrefix", "(LTypoSuggester$Word;I)I"⟩
def RX2 : String := "TypoSuggester$Result"
def TX2 : u_T := fun k => match k with
  | 0 => ("TypoSuggester$Result", "places", "[I", true)
  | 1 => ("TypoSuggester$Result", "weights", "[J", true)
  | 2 => ("TypoSuggester$Result", "nearnesses", "[I", true)
  | 3 => ("TypoSuggester$Result", "lengths", "[I", true)
  | 4 => ("TypoSuggester$Result", "letters", "[B", true)
  | _ => ("TypoSuggester$Result", "count", "I", false)
def tyX2 : Nat → FieldType := fun k => match k with
  | 0 => .array .int
  | 1 => .array .long
  | 2 => .array .int
  | 3 => .array .int
  | 4 => .array .byte
  | _ => .int
abbrev wsX20 : List Cond := u_ws RX2 TX2 6
theorem nmX2 : ∀ a, a < 6 → ∀ b, b < 6 → a ≠ b → (TX2 a).2.1 ≠ (TX2 b).2.1 := by decide +kernel
theorem tyX2_ok : ∀ k, k < 6 → parseFieldDescriptor (TX2 k).2.2.1 = some (tyX2 k) := by decide +kernel
abbrev cX2_init : ByteArray := prog_4_method_1_code
def yX2_init : MethodName := ⟨RX2, "<init>", "()V"⟩
abbrev cX2_offer : ByteArray := prog_4_method_2_code
def yX2_offer : MethodName := ⟨RX2, "offer", "(IJII)V"⟩
abbrev cX2_keepLetters : ByteArray := prog_4_method_3_code
def yX2_keepLetters : MethodName := ⟨RX2, "keepLetters", "(LTypoSuggester$Lexicon;)V"⟩
abbrev cX2_letterOf : ByteArray := prog_4_method_4_code
def yX2_letterOf : MethodName := ⟨RX2, "letterOf", "(II)I"⟩
def RX3 : String := "TypoSuggester$Tape"
def TX3 : u_T := fun k => match k with
  | 0 => ("TypoSuggester$Tape", "bytes", "[B", true)
  | _ => ("TypoSuggester$Tape", "size", "I", false)
def tyX3 : Nat → FieldType := fun k => match k with
  | 0 => .array .byte
  | _ => .int
abbrev wsX30 : List Cond := u_ws RX3 TX3 2
theorem nmX3 : ∀ a, a < 2 → ∀ b, b < 2 → a ≠ b → (TX3 a).2.1 ≠ (TX3 b).2.1 := by decide +kernel
theorem tyX3_ok : ∀ k, k < 2 → parseFieldDescriptor (TX3 k).2.2.1 = some (tyX3 k) := by decide +kernel
abbrev cX3_init : ByteArray := prog_5_method_1_code
def yX3_init : MethodName := ⟨RX3, "<init>", "()V"⟩
abbrev cX3_append : ByteArray := prog_5_method_2_code
def yX3_append : MethodName := ⟨RX3, "append", "(I)Z"⟩
def RX4 : String := "TypoSuggester$Word"
def TX4 : u_T := fun k => match k with
  | 0 => ("TypoSuggester$Word", "letters", "[B", true)
  | _ => ("TypoSuggester$Word", "length", "I", false)
def tyX4 : Nat → FieldType := fun k => match k with
  | 0 => .array .byte
  | _ => .int
abbrev wsX40 : List Cond := u_ws RX4 TX4 2
theorem nmX4 : ∀ a, a < 2 → ∀ b, b < 2 → a ≠ b → (TX4 a).2.1 ≠ (TX4 b).2.1 := by decide +kernel
theorem tyX4_ok : ∀ k, k < 2 → parseFieldDescriptor (TX4 k).2.2.1 = some (tyX4 k) := by decide +kernel
abbrev cX4_init : ByteArray := prog_6_method_1_code
def yX4_init : MethodName := ⟨RX4, "<init>", "()V"⟩
abbrev cX4_append : ByteArray := prog_6_method_2_code
def yX4_append : MethodName := ⟨RX4, "append", "(I)V"⟩
def RX5 : String := "TypoSuggester"
def TX5 : u_T := fun k => match k with
  | 0 => ("TypoSuggester", "tape", "LTypoSuggester$Tape;", true)
  | 1 => ("TypoSuggester", "word", "LTypoSuggester$Word;", true)
  | 2 => ("TypoSuggester", "lexicon", "LTypoSuggester$Lexicon;", true)
  | 3 => ("TypoSuggester", "measure", "LTypoSuggester$Measure;", true)
  | _ => ("TypoSuggester", "result", "LTypoSuggester$Result;", true)
def tyX5 : Nat → FieldType := fun k => match k with
  | 0 => .object "TypoSuggester$Tape"
  | 1 => .object "TypoSuggester$Word"
  | 2 => .object "TypoSuggester$Lexicon"
  | 3 => .object "TypoSuggester$Measure"
  | _ => .object "TypoSuggester$Result"
abbrev wsX50 : List Cond := u_ws RX5 TX5 5
theorem nmX5 : ∀ a, a < 5 → ∀ b, b < 5 → a ≠ b → (TX5 a).2.1 ≠ (TX5 b).2.1 := by decide +kernel
theorem tyX5_ok : ∀ k, k < 5 → parseFieldDescriptor (TX5 k).2.2.1 = some (tyX5 k) := by decide +kernel
abbrev cX5_init : ByteArray := prog_1_method_1_code
def yX5_init : MethodName := ⟨RX5, "<init>", "()V"⟩
abbrev cX5_feed : ByteArray := prog_1_method_2_code
def yX5_feed : MethodName := ⟨RX5, "feed", "(I)I"⟩
abbrev cX5_cut : ByteArray := prog_1_method_3_code
def yX5_cut : MethodName := ⟨RX5, "cut", "(I)I"⟩
abbrev cX5_learn : ByteArray := prog_1_method_4_code
def yX5_learn : MethodName := ⟨RX5, "learn", "(I)I"⟩
abbrev cX5_set : ByteArray := prog_1_method_5_code
def yX5_set : MethodName := ⟨RX5, "set", "(J)I"⟩
abbrev cX5_drop : ByteArray := prog_1_method_6_code
def yX5_drop : MethodName := ⟨RX5, "drop", "()J"⟩
abbrev cX5_weight : ByteArray := prog_1_method_7_code
def yX5_weight : MethodName := ⟨RX5, "weight", "()J"⟩
abbrev cX5_ask : ByteArray := prog_1_method_8_code
def yX5_ask : MethodName := ⟨RX5, "ask", "(II)I"⟩
abbrev cX5_near : ByteArray := prog_1_method_9_code
def yX5_near : MethodName := ⟨RX5, "near", "(I)I"⟩
abbrev cX5_best : ByteArray := prog_1_method_10_code
def yX5_best : MethodName := ⟨RX5, "best", "()J"⟩
abbrev cX5_rank : ByteArray := prog_1_method_11_code
def yX5_rank : MethodName := ⟨RX5, "rank", "()I"⟩
abbrev cX5_found : ByteArray := prog_1_method_12_code
def yX5_found : MethodName := ⟨RX5, "found", "()I"⟩
abbrev cX5_letter : ByteArray := prog_1_method_13_code
def yX5_letter : MethodName := ⟨RX5, "letter", "(II)I"⟩
abbrev cX5_of : ByteArray := prog_1_method_14_code
def yX5_of : MethodName := ⟨RX5, "of", "(II)J"⟩
abbrev cX5_terms : ByteArray := prog_1_method_15_code
def yX5_terms : MethodName := ⟨RX5, "terms", "()I"⟩
abbrev cX5_letters : ByteArray := prog_1_method_16_code
def yX5_letters : MethodName := ⟨RX5, "letters", "()I"⟩
abbrev cX5_term : ByteArray := prog_1_method_17_code
def yX5_term : MethodName := ⟨RX5, "term", "(II)I"⟩
abbrev cX5_prefixes : ByteArray := prog_1_method_18_code
def yX5_prefixes : MethodName := ⟨RX5, "prefixes", "()I"⟩
abbrev cX5_takeLetters : ByteArray := prog_1_method_19_code
def yX5_takeLetters : MethodName := ⟨RX5, "takeLetters", "()Z"⟩
abbrev cX5_takeTerm : ByteArray := prog_1_method_20_code
def yX5_takeTerm : MethodName := ⟨RX5, "takeTerm", "()Z"⟩
abbrev cX5_takePlace : ByteArray := prog_1_method_21_code
def yX5_takePlace : MethodName := ⟨RX5, "takePlace", "()I"⟩
abbrev cX5_takeUse : ByteArray := prog_1_method_22_code
def yX5_takeUse : MethodName := ⟨RX5, "takeUse", "(I)I"⟩
abbrev cX5_isSmallLetter : ByteArray := prog_1_method_23_code
def yX5_isSmallLetter : MethodName := ⟨RX5, "isSmallLetter", "(I)Z"⟩
abbrev cX5_smallLetter : ByteArray := prog_1_method_24_code
def yX5_smallLetter : MethodName := ⟨RX5, "smallLetter", "(I)I"⟩
def RX6 : String := "TypoSuggesterModel"
def TX6 : u_T := fun k => match k with
  | 0 => ("TypoSuggesterModel", "tape", "[B", true)
  | 1 => ("TypoSuggesterModel", "tapeSize", "I", false)
  | 2 => ("TypoSuggesterModel", "count", "I", false)
  | 3 => ("TypoSuggesterModel", "letterCount", "I", false)
  | 4 => ("TypoSuggesterModel", "letters", "[B", true)
  | 5 => ("TypoSuggesterModel", "sizes", "[I", true)
  | 6 => ("TypoSuggesterModel", "weights", "[J", true)
  | 7 => ("TypoSuggesterModel", "results", "I", false)
  | 8 => ("TypoSuggesterModel", "resultLetters", "[B", true)
  | 9 => ("TypoSuggesterModel", "resultSize", "[I", true)
  | 10 => ("TypoSuggesterModel", "resultWeight", "[J", true)
  | 11 => ("TypoSuggesterModel", "resultNear", "[I", true)
  | 12 => ("TypoSuggesterModel", "isTaken", "[Z", true)
  | 13 => ("TypoSuggesterModel", "nearness", "[I", true)
  | _ => ("TypoSuggesterModel", "row", "[I", true)
def tyX6 : Nat → FieldType := fun k => match k with
  | 0 => .array .byte
  | 1 => .int
  | 2 => .int
  | 3 => .int
  | 4 => .array .byte
  | 5 => .array .int
  | 6 => .array .long
  | 7 => .int
  | 8 => .array .byte
  | 9 => .array .int
  | 10 => .array .long
  | 11 => .array .int
  | 12 => .array .boolean
  | 13 => .array .int
  | _ => .array .int
abbrev wsX60 : List Cond := u_ws RX6 TX6 15
theorem nmX6 : ∀ a, a < 15 → ∀ b, b < 15 → a ≠ b → (TX6 a).2.1 ≠ (TX6 b).2.1 := by decide +kernel
theorem tyX6_ok : ∀ k, k < 15 → parseFieldDescriptor (TX6 k).2.2.1 = some (tyX6 k) := by decide +kernel
abbrev cX6_init : ByteArray := prog_8_method_1_code
def yX6_init : MethodName := ⟨RX6, "<init>", "()V"⟩
abbrev cX6_feed : ByteArray := prog_8_method_3_code
def yX6_feed : MethodName := ⟨RX6, "feed", "(I)I"⟩
abbrev cX6_cut : ByteArray := prog_8_method_4_code
def yX6_cut : MethodName := ⟨RX6, "cut", "(I)I"⟩
abbrev cX6_isSmall : ByteArray := prog_8_method_5_code
def yX6_isSmall : MethodName := ⟨RX6, "isSmall", "(I)Z"⟩
abbrev cX6_compare : ByteArray := prog_8_method_6_code
def yX6_compare : MethodName := ⟨RX6, "compare", "(III)I"⟩
abbrev cX6_small : ByteArray := prog_8_method_7_code
def yX6_small : MethodName := ⟨RX6, "small", "(I)I"⟩
abbrev cX6_find : ByteArray := prog_8_method_8_code
def yX6_find : MethodName := ⟨RX6, "find", "(II)I"⟩
abbrev cX6_add : ByteArray := prog_8_method_9_code
def yX6_add : MethodName := ⟨RX6, "add", "(IIJ)I"⟩
abbrev cX6_move : ByteArray := prog_8_method_10_code
def yX6_move : MethodName := ⟨RX6, "move", "(II)V"⟩
abbrev cX6_taken : ByteArray := prog_8_method_11_code
def yX6_taken : MethodName := ⟨RX6, "taken", "(I)I"⟩
abbrev cX6_isLetter : ByteArray := prog_8_method_12_code
def yX6_isLetter : MethodName := ⟨RX6, "isLetter", "(I)Z"⟩
abbrev cX6_learn : ByteArray := prog_8_method_13_code
def yX6_learn : MethodName := ⟨RX6, "learn", "(I)I"⟩
abbrev cX6_set : ByteArray := prog_8_method_14_code
def yX6_set : MethodName := ⟨RX6, "set", "(J)I"⟩
abbrev cX6_drop : ByteArray := prog_8_method_15_code
def yX6_drop : MethodName := ⟨RX6, "drop", "()J"⟩
abbrev cX6_weight : ByteArray := prog_8_method_16_code
def yX6_weight : MethodName := ⟨RX6, "weight", "()J"⟩
abbrev cX6_nearnessOf : ByteArray := prog_8_method_17_code
def yX6_nearnessOf : MethodName := ⟨RX6, "nearnessOf", "(II)I"⟩
abbrev cX6_ask : ByteArray := prog_8_method_18_code
def yX6_ask : MethodName := ⟨RX6, "ask", "(II)I"⟩
abbrev cX6_near : ByteArray := prog_8_method_19_code
def yX6_near : MethodName := ⟨RX6, "near", "(I)I"⟩
abbrev cX6_best : ByteArray := prog_8_method_20_code
def yX6_best : MethodName := ⟨RX6, "best", "()J"⟩
abbrev cX6_rank : ByteArray := prog_8_method_21_code
def yX6_rank : MethodName := ⟨RX6, "rank", "()I"⟩
abbrev cX6_found : ByteArray := prog_8_method_22_code
def yX6_found : MethodName := ⟨RX6, "found", "()I"⟩
abbrev cX6_letter : ByteArray := prog_8_method_23_code
def yX6_letter : MethodName := ⟨RX6, "letter", "(II)I"⟩
abbrev cX6_of : ByteArray := prog_8_method_24_code
def yX6_of : MethodName := ⟨RX6, "of", "(II)J"⟩
abbrev cX6_terms : ByteArray := prog_8_method_25_code
def yX6_terms : MethodName := ⟨RX6, "terms", "()I"⟩
abbrev cX6_letters : ByteArray := prog_8_method_26_code
def yX6_letters : MethodName := ⟨RX6, "letters", "()I"⟩
abbrev cX6_term : ByteArray := prog_8_method_27_code
def yX6_term : MethodName := ⟨RX6, "term", "(II)I"⟩
abbrev cX6_prefixes : ByteArray := prog_8_method_28_code
def yX6_prefixes : MethodName := ⟨RX6, "prefixes", "()I"⟩
def RJ9 : String := "java/lang/Math"
def TJ9 : u_T := fun k => match k with
  | _ => ("", "", "", false)
def tyJ9 : Nat → FieldType := fun k => match k with
  | _ => .int
abbrev wsJ90 : List Cond := u_ws RJ9 TJ9 0
theorem nmJ9 : ∀ a, a < 0 → ∀ b, b < 0 → a ≠ b → (TJ9 a).2.1 ≠ (TJ9 b).2.1 := by decide +kernel
theorem tyJ9_ok : ∀ k, k < 0 → parseFieldDescriptor (TJ9 k).2.2.1 = some (tyJ9 k) := by decide +kernel
abbrev cJ9_max_f86c9 : ByteArray := prog_9_method_66_code
def yJ9_max_f86c9 : MethodName := ⟨RJ9, "max", "(JJ)J"⟩
abbrev cJ9_min_7cf53 : ByteArray := prog_9_method_69_code
def yJ9_min_7cf53 : MethodName := ⟨RJ9, "min", "(II)I"⟩
abbrev cJ9_min_f86c9 : ByteArray := prog_9_method_70_code
def yJ9_min_f86c9 : MethodName := ⟨RJ9, "min", "(JJ)J"⟩
def RJ10 : String := "java/lang/System"
def TJ10 : u_T := fun k => match k with
  | _ => ("", "", "", false)
def tyJ10 : Nat → FieldType := fun k => match k with
  | _ => .int
abbrev wsJ100 : List Cond := u_ws RJ10 TJ10 0
theorem nmJ10 : ∀ a, a < 0 → ∀ b, b < 0 → a ≠ b → (TJ10 a).2.1 ≠ (TJ10 b).2.1 := by decide +kernel
theorem tyJ10_ok : ∀ k, k < 0 → parseFieldDescriptor (TJ10 k).2.2.1 = some (tyJ10 k) := by decide +kernel
def wsX0_init : List Cond := .code yX0_init cX0_init 1 none :: ([.methodLink RX0 3 objectInit, .instanceMethod objectInit, .code objectInit ⟨#[0xb1]⟩ 1 none, .arrayClass .byte, .fieldLink RX0 9 "TypoSuggester$Lexicon" "letters" "[B", .arrayClass .int, .fieldLink RX0 15 "TypoSuggester$Lexicon" "starts" "[I", .arrayClass .long, .fieldLink RX0 19 "TypoSuggester$Lexicon" "weights" "[J"] ++ wsX00)
def wsX0_size : List Cond := .code yX0_size cX0_size 1 (some .int) :: ([.fieldLink RX0 15 "TypoSuggester$Lexicon" "starts" "[I", .fieldLink RX0 23 "TypoSuggester$Lexicon" "count" "I"] ++ wsX00)
def wsX0_lengthOf : List Cond := .code yX0_lengthOf cX0_lengthOf 2 (some .int) :: ([.fieldLink RX0 15 "TypoSuggester$Lexicon" "starts" "[I"] ++ wsX00)
def wsX0_letterOf : List Cond := .code yX0_letterOf cX0_letterOf 3 (some .int) :: ([.fieldLink RX0 23 "TypoSuggester$Lexicon" "count" "I", .fieldLink RX0 9 "TypoSuggester$Lexicon" "letters" "[B", .fieldLink RX0 15 "TypoSuggester$Lexicon" "starts" "[I", .methodLink RX0 27 yX0_lengthOf, .instanceMethod yX0_lengthOf, .selects RX0 yX0_lengthOf yX0_lengthOf, .initialized RX0, .code yX0_lengthOf cX0_lengthOf 2 (some .int)] ++ wsX00)
def wsX0_sharedWith : List Cond := .code yX0_sharedWith cX0_sharedWith 5 (some .int) :: ([.fieldLink RX0 39 "TypoSuggester$Word" "length" "I", .methodLink RX0 48 Lib.Math.min.name, .static Lib.Math.min.name, .initialized "java/lang/Math", .code Lib.Math.min.name Lib.Math.min.code 2 (some .int), .fieldLink RX0 9 "TypoSuggester$Lexicon" "letters" "[B", .fieldLink RX0 15 "TypoSuggester$Lexicon" "starts" "[I", .fieldLink RX0 44 "TypoSuggester$Word" "letters" "[B", .methodLink RX0 27 yX0_lengthOf, .instanceMethod yX0_lengthOf, .selects RX0 yX0_lengthOf yX0_lengthOf, .initialized RX0, .code yX0_lengthOf cX0_lengthOf 2 (some .int)] ++ wsX40 ++ wsX00)
def wsX0_goesBefore : List Cond := .code yX0_goesBefore cX0_goesBefore 4 (some .boolean) :: ([.fieldLink RX0 39 "TypoSuggester$Word" "length" "I", .fieldLink RX0 9 "TypoSuggester$Lexicon" "letters" "[B", .fieldLink RX0 15 "TypoSuggester$Lexicon" "starts" "[I", .fieldLink RX0 44 "TypoSuggester$Word" "letters" "[B", .methodLink RX0 35 yX0_sharedWith, .instanceMethod yX0_sharedWith, .selects RX0 yX0_sharedWith yX0_sharedWith, .initialized RX0, .code yX0_sharedWith cX0_sharedWith 5 (some .int), .methodLink RX0 48 Lib.Math.min.name, .static Lib.Math.min.name, .initialized "java/lang/Math", .code Lib.Math.min.name Lib.Math.min.code 2 (some .int), .methodLink RX0 27 yX0_lengthOf, .instanceMethod yX0_lengthOf, .selects RX0 yX0_lengthOf yX0_lengthOf, .code yX0_lengthOf cX0_lengthOf 2 (some .int)] ++ wsX40 ++ wsX00)
def wsX0_placeOf : List Cond := .code yX0_placeOf cX0_placeOf 5 (some .int) :: ([.fieldLink RX0 23 "TypoSuggester$Lexicon" "count" "I", .methodLink RX0 31 yX0_goesBefore, .instanceMethod yX0_goesBefore, .selects RX0 yX0_goesBefore yX0_goesBefore, .initialized RX0, .code yX0_goesBefore cX0_goesBefore 4 (some .boolean), .fieldLink RX0 39 "TypoSuggester$Word" "length" "I", .fieldLink RX0 9 "TypoSuggester$Lexicon" "letters" "[B", .fieldLink RX0 15 "TypoSuggester$Lexicon" "starts" "[I", .fieldLink RX0 44 "TypoSuggester$Word" "letters" "[B", .methodLink RX0 35 yX0_sharedWith, .instanceMethod yX0_sharedWith, .selects RX0 yX0_sharedWith yX0_sharedWith, .code yX0_sharedWith cX0_sharedWith 5 (some .int), .methodLink RX0 48 Lib.Math.min.name, .static Lib.Math.min.name, .initialized "java/lang/Math", .code Lib.Math.min.name Lib.Math.min.code 2 (some .int), .methodLink RX0 27 yX0_lengthOf, .instanceMethod yX0_lengthOf, .selects RX0 yX0_lengthOf yX0_lengthOf, .code yX0_lengthOf cX0_lengthOf 2 (some .int)] ++ wsX00 ++ wsX40)
def wsX0_beginsWith : List Cond := .code yX0_beginsWith cX0_beginsWith 3 (some .boolean) :: ([.fieldLink RX0 39 "TypoSuggester$Word" "length" "I", .methodLink RX0 35 yX0_sharedWith, .instanceMethod yX0_sharedWith, .selects RX0 yX0_sharedWith yX0_sharedWith, .initialized RX0, .code yX0_sharedWith cX0_sharedWith 5 (some .int), .methodLink RX0 48 Lib.Math.min.name, .static Lib.Math.min.name, .initialized "java/lang/Math", .code Lib.Math.min.name Lib.Math.min.code 2 (some .int), .fieldLink RX0 9 "TypoSuggester$Lexicon" "letters" "[B", .fieldLink RX0 15 "TypoSuggester$Lexicon" "starts" "[I", .fieldLink RX0 44 "TypoSuggester$Word" "letters" "[B", .methodLink RX0 27 yX0_lengthOf, .instanceMethod yX0_lengthOf, .selects RX0 yX0_lengthOf yX0_lengthOf, .code yX0_lengthOf cX0_lengthOf 2 (some .int)] ++ wsX40 ++ wsX00)
def wsX0_standsAt : List Cond := .code yX0_standsAt cX0_standsAt 3 (some .boolean) :: ([.fieldLink RX0 23 "TypoSuggester$Lexicon" "count" "I", .fieldLink RX0 39 "TypoSuggester$Word" "length" "I", .methodLink RX0 27 yX0_lengthOf, .instanceMethod yX0_lengthOf, .selects RX0 yX0_lengthOf yX0_lengthOf, .initialized RX0, .code yX0_lengthOf cX0_lengthOf 2 (some .int), .fieldLink RX0 15 "TypoSuggester$Lexicon" "starts" "[I", .methodLink RX0 45 yX0_beginsWith, .instanceMethod yX0_beginsWith, .selects RX0 yX0_beginsWith yX0_beginsWith, .code yX0_beginsWith cX0_beginsWith 3 (some .boolean), .methodLink RX0 35 yX0_sharedWith, .instanceMethod yX0_sharedWith, .selects RX0 yX0_sharedWith yX0_sharedWith, .code yX0_sharedWith cX0_sharedWith 5 (some .int), .methodLink RX0 48 Lib.Math.min.name, .static Lib.Math.min.name, .initialized "java/lang/Math", .code Lib.Math.min.name Lib.Math.min.code 2 (some .int), .fieldLink RX0 9 "TypoSuggester$Lexicon" "letters" "[B", .fieldLink RX0 44 "TypoSuggester$Word" "letters" "[B"] ++ wsX00 ++ wsX40)
def wsX0_sharedWithNext : List Cond := .code yX0_sharedWithNext cX0_sharedWithNext 4 (some .int) :: ([.methodLink RX0 48 Lib.Math.min.name, .static Lib.Math.min.name, .initialized "java/lang/Math", .code Lib.Math.min.name Lib.Math.min.code 2 (some .int), .fieldLink RX0 9 "TypoSuggester$Lexicon" "letters" "[B", .fieldLink RX0 15 "TypoSuggester$Lexicon" "starts" "[I", .methodLink RX0 27 yX0_lengthOf, .instanceMethod yX0_lengthOf, .selects RX0 yX0_lengthOf yX0_lengthOf, .initialized RX0, .code yX0_lengthOf cX0_lengthOf 2 (some .int)] ++ wsX00)
def wsX0_insert : List Cond := .code yX0_insert cX0_insert 7 (some .boolean) :: ([.fieldLink RX0 23 "TypoSuggester$Lexicon" "count" "I", .fieldLink RX0 39 "TypoSuggester$Word" "length" "I", .fieldLink RX0 15 "TypoSuggester$Lexicon" "starts" "[I", .fieldLink RX0 9 "TypoSuggester$Lexicon" "letters" "[B", .methodLink RX0 74 arraycopyName, .native arraycopyName, .static arraycopyName, .initialized "java/lang/System", .fieldLink RX0 44 "TypoSuggester$Word" "letters" "[B", .fieldLink RX0 19 "TypoSuggester$Lexicon" "weights" "[J", .methodLink RX0 70 yX0_size, .instanceMethod yX0_size, .selects RX0 yX0_size yX0_size, .initialized RX0, .code yX0_size cX0_size 1 (some .int)] ++ wsX00 ++ wsX40)
def wsX0_grow_r1 : List Cond := [Cond.fieldLink RX0 19 "TypoSuggester$Lexicon" "weights" "[J", Cond.constantLong RX0 61 (1000000000000), Cond.methodLink RX0 63 Lib.MathLoose.min_long.x, Cond.static Lib.MathLoose.min_long.x, Cond.initialized "java/lang/Math", Cond.code Lib.MathLoose.min_long.x Lib.MathLoose.min_long.code 4 (some .long), Cond.methodLink RX0 54 yX0_placeOf, Cond.instanceMethod yX0_placeOf, Cond.selects RX0 yX0_placeOf yX0_placeOf, Cond.initialized RX0, Cond.code yX0_placeOf cX0_placeOf 5 (some .int), Cond.fieldLink RX0 23 "TypoSuggester$Lexicon" "count" "I", Cond.methodLink RX0 31 yX0_goesBefore, Cond.instanceMethod yX0_goesBefore, Cond.selects RX0 yX0_goesBefore yX0_goesBefore, Cond.code yX0_goesBefore cX0_goesBefore 4 (some .boolean), Cond.fieldLink RX0 39 "TypoSuggester$Word" "length" "I", Cond.fieldLink RX0 9 "TypoSuggester$Lexicon" "letters" "[B", Cond.fieldLink RX0 15 "TypoSuggester$Lexicon" "starts" "[I", Cond.fieldLink RX0 44 "TypoSuggester$Word" "letters" "[B", Cond.methodLink RX0 35 yX0_sharedWith, Cond.instanceMethod yX0_sharedWith, Cond.selects RX0 yX0_sharedWith yX0_sharedWith, Cond.code yX0_sharedWith cX0_sharedWith 5 (some .int)]
def wsX0_grow_r2 : List Cond := [Cond.methodLink RX0 48 Lib.Math.min.name, Cond.static Lib.Math.min.name, Cond.code Lib.Math.min.name Lib.Math.min.code 2 (some .int), Cond.methodLink RX0 27 yX0_lengthOf, Cond.instanceMethod yX0_lengthOf, Cond.selects RX0 yX0_lengthOf yX0_lengthOf, Cond.code yX0_lengthOf cX0_lengthOf 2 (some .int), Cond.methodLink RX0 58 yX0_standsAt, Cond.instanceMethod yX0_standsAt, Cond.selects RX0 yX0_standsAt yX0_standsAt, Cond.code yX0_standsAt cX0_standsAt 3 (some .boolean), Cond.methodLink RX0 45 yX0_beginsWith, Cond.instanceMethod yX0_beginsWith, Cond.selects RX0 yX0_beginsWith yX0_beginsWith, Cond.code yX0_beginsWith cX0_beginsWith 3 (some .boolean), Cond.methodLink RX0 66 yX0_insert, Cond.instanceMethod yX0_insert, Cond.selects RX0 yX0_insert yX0_insert, Cond.code yX0_insert cX0_insert 7 (some .boolean), Cond.methodLink RX0 74 arraycopyName, Cond.native arraycopyName, Cond.static arraycopyName, Cond.initialized "java/lang/System", Cond.methodLink RX0 70 yX0_size]
def wsX0_grow_r3 : List Cond := [Cond.instanceMethod yX0_size, Cond.selects RX0 yX0_size yX0_size, Cond.code yX0_size cX0_size 1 (some .int)]
def wsX0_grow : List Cond := .code yX0_grow cX0_grow 4 (some .boolean) :: ((wsX0_grow_r1 ++ (wsX0_grow_r2 ++ wsX0_grow_r3)) ++ wsX00 ++ wsX40)
def wsX0_remove : List Cond := .code yX0_remove cX0_remove 5 none :: ([.fieldLink RX0 15 "TypoSuggester$Lexicon" "starts" "[I", .fieldLink RX0 9 "TypoSuggester$Lexicon" "letters" "[B", .methodLink RX0 74 arraycopyName, .native arraycopyName, .static arraycopyName, .initialized "java/lang/System", .fieldLink RX0 19 "TypoSuggester$Lexicon" "weights" "[J", .fieldLink RX0 23 "TypoSuggester$Lexicon" "count" "I", .methodLink RX0 27 yX0_lengthOf, .instanceMethod yX0_lengthOf, .selects RX0 yX0_lengthOf yX0_lengthOf, .initialized RX0, .code yX0_lengthOf cX0_lengthOf 2 (some .int), .methodLink RX0 70 yX0_size, .instanceMethod yX0_size, .selects RX0 yX0_size yX0_size, .code yX0_size cX0_size 1 (some .int)] ++ wsX00)
def wsX0_rankOf : List Cond := .code yX0_rankOf cX0_rankOf 4 (some .int) :: ([.fieldLink RX0 23 "TypoSuggester$Lexicon" "count" "I", .fieldLink RX0 19 "TypoSuggester$Lexicon" "weights" "[J"] ++ wsX00)
def wsX0_countPrefixes : List Cond := .code yX0_countPrefixes cX0_countPrefixes 3 (some .int) :: ([.fieldLink RX0 23 "TypoSuggester$Lexicon" "count" "I", .methodLink RX0 70 yX0_size, .instanceMethod yX0_size, .selects RX0 yX0_size yX0_size, .initialized RX0, .code yX0_size cX0_size 1 (some .int), .fieldLink RX0 15 "TypoSuggester$Lexicon" "starts" "[I", .methodLink RX0 80 yX0_sharedWithNext, .instanceMethod yX0_sharedWithNext, .selects RX0 yX0_sharedWithNext yX0_sharedWithNext, .code yX0_sharedWithNext cX0_sharedWithNext 4 (some .int), .methodLink RX0 48 Lib.Math.min.name, .static Lib.Math.min.name, .initialized "java/lang/Math", .code Lib.Math.min.name Lib.Math.min.code 2 (some .int), .fieldLink RX0 9 "TypoSuggester$Lexicon" "letters" "[B", .methodLink RX0 27 yX0_lengthOf, .instanceMethod yX0_lengthOf, .selects RX0 yX0_lengthOf yX0_lengthOf, .code yX0_lengthOf cX0_lengthOf 2 (some .int)] ++ wsX00)
def wsX1_init : List Cond := .code yX1_init cX1_init 1 none :: ([.methodLink RX1 3 objectInit, .instanceMethod objectInit, .code objectInit ⟨#[0xb1]⟩ 1 none, .arrayClass .int, .fieldLink RX1 9 "TypoSuggester$Measure" "row" "[I"] ++ wsX10)
def wsX1_lengthenPrefix : List Cond := .code yX1_lengthenPrefix cX1_lengthenPrefix 7 (some .int) :: ([.fieldLink RX1 9 "TypoSuggester$Measure" "row" "[I", .fieldLink RX1 15 "TypoSuggester$Word" "length" "I", .fieldLink RX1 40 "TypoSuggester$Word" "letters" "[B", .methodLink RX1 21 Lib.Math.min.name, .static Lib.Math.min.name, .initialized "java/lang/Math", .code Lib.Math.min.name Lib.Math.min.code 2 (some .int)] ++ wsX10 ++ wsX40)
def wsX1_nearness : List Cond := .code yX1_nearness cX1_nearness 9 (some .int) :: ([.fieldLink RX1 15 "TypoSuggester$Word" "length" "I", .fieldLink RX1 9 "TypoSuggester$Measure" "row" "[I", .methodLink RX1 21 Lib.Math.min.name, .static Lib.Math.min.name, .initialized "java/lang/Math", .code Lib.Math.min.name Lib.Math.min.code 2 (some .int), .fieldLink RX1 27 "TypoSuggester$Lexicon" "starts" "[I", .fieldLink RX1 32 "TypoSuggester$Lexicon" "letters" "[B", .methodLink RX1 36 yX1_lengthenPrefix, .instanceMethod yX1_lengthenPrefix, .selects RX1 yX1_lengthenPrefix yX1_lengthenPrefix, .initialized RX1, .code yX1_lengthenPrefix cX1_lengthenPrefix 7 (some .int), .fieldLink RX1 40 "TypoSuggester$Word" "letters" "[B"] ++ wsX40 ++ wsX10 ++ wsX00)
def wsX2_init : List Cond := .code yX2_init cX2_init 1 none :: ([.methodLink RX2 3 objectInit, .instanceMethod objectInit, .code objectInit ⟨#[0xb1]⟩ 1 none, .arrayClass .int, .fieldLink RX2 9 "TypoSuggester$Result" "places" "[I", .arrayClass .long, .fieldLink RX2 15 "TypoSuggester$Result" "weights" "[J", .fieldLink RX2 19 "TypoSuggester$Result" "nearnesses" "[I", .fieldLink RX2 22 "TypoSuggester$Result" "lengths" "[I", .arrayClass .byte, .fieldLink RX2 25 "TypoSuggester$Result" "letters" "[B"] ++ wsX20)
def wsX2_offer : List Cond := .code yX2_offer cX2_offer 8 none :: ([.fieldLink RX2 29 "TypoSuggester$Result" "count" "I", .fieldLink RX2 15 "TypoSuggester$Result" "weights" "[J", .methodLink RX2 33 Lib.Math.min.name, .static Lib.Math.min.name, .initialized "java/lang/Math", .code Lib.Math.min.name Lib.Math.min.code 2 (some .int), .fieldLink RX2 9 "TypoSuggester$Result" "places" "[I", .fieldLink RX2 19 "TypoSuggester$Result" "nearnesses" "[I"] ++ wsX20)
def wsX2_keepLetters : List Cond := .code yX2_keepLetters cX2_keepLetters 4 none :: ([.fieldLink RX2 29 "TypoSuggester$Result" "count" "I", .fieldLink RX2 9 "TypoSuggester$Result" "places" "[I", .fieldLink RX2 22 "TypoSuggester$Result" "lengths" "[I", .fieldLink RX2 45 "TypoSuggester$Lexicon" "letters" "[B", .fieldLink RX2 46 "TypoSuggester$Lexicon" "starts" "[I", .fieldLink RX2 25 "TypoSuggester$Result" "letters" "[B", .methodLink RX2 49 arraycopyName, .native arraycopyName, .static arraycopyName, .initialized "java/lang/System", .methodLink RX2 39 yX0_lengthOf, .instanceMethod yX0_lengthOf, .selects RX0 yX0_lengthOf yX0_lengthOf, .initialized RX0, .code yX0_lengthOf cX0_lengthOf 2 (some .int), .fieldLink RX0 15 "TypoSuggester$Lexicon" "starts" "[I"] ++ wsX20 ++ wsX00)
def wsX2_letterOf : List Cond := .code yX2_letterOf cX2_letterOf 3 (some .int) :: ([.fieldLink RX2 29 "TypoSuggester$Result" "count" "I", .fieldLink RX2 22 "TypoSuggester$Result" "lengths" "[I", .fieldLink RX2 25 "TypoSuggester$Result" "letters" "[B"] ++ wsX20)
def wsX3_init : List Cond := .code yX3_init cX3_init 1 none :: ([.methodLink RX3 3 objectInit, .instanceMethod objectInit, .code objectInit ⟨#[0xb1]⟩ 1 none, .arrayClass .byte, .fieldLink RX3 9 "TypoSuggester$Tape" "bytes" "[B"] ++ wsX30)
def wsX3_append : List Cond := .code yX3_append cX3_append 3 (some .boolean) :: ([.fieldLink RX3 15 "TypoSuggester$Tape" "size" "I", .fieldLink RX3 9 "TypoSuggester$Tape" "bytes" "[B"] ++ wsX30)
def wsX4_init : List Cond := .code yX4_init cX4_init 1 none :: ([.methodLink RX4 3 objectInit, .instanceMethod objectInit, .code objectInit ⟨#[0xb1]⟩ 1 none, .arrayClass .byte, .fieldLink RX4 9 "TypoSuggester$Word" "letters" "[B"] ++ wsX40)
def wsX4_append : List Cond := .code yX4_append cX4_append 2 none :: ([.fieldLink RX4 15 "TypoSuggester$Word" "length" "I", .fieldLink RX4 9 "TypoSuggester$Word" "letters" "[B"] ++ wsX40)
def wsX5_init_r1 : List Cond := [Cond.methodLink RX5 1 objectInit, Cond.instanceMethod objectInit, Cond.code objectInit ⟨#[0xb1]⟩ 1 none, Cond.classLink RX5 7 RX3, Cond.instantiable RX3 2, Cond.initialized RX3, Cond.fieldLink RX5 10 "TypoSuggester" "tape" "LTypoSuggester$Tape;", Cond.classLink RX5 16 RX4, Cond.instantiable RX4 2, Cond.initialized RX4, Cond.fieldLink RX5 19 "TypoSuggester" "word" "LTypoSuggester$Word;", Cond.classLink RX5 23 RX0, Cond.instantiable RX0 4, Cond.initialized RX0, Cond.fieldLink RX5 26 "TypoSuggester" "lexicon" "LTypoSuggester$Lexicon;", Cond.classLink RX5 30 RX1, Cond.instantiable RX1 1, Cond.initialized RX1, Cond.fieldLink RX5 33 "TypoSuggester" "measure" "LTypoSuggester$Measure;", Cond.classLink RX5 37 RX2, Cond.instantiable RX2 6, Cond.initialized RX2, Cond.fieldLink RX5 40 "TypoSuggester" "result" "LTypoSuggester$Result;", Cond.instanceMethod yX3_init]
def wsX5_init_r2 : List Cond := [Cond.code yX3_init cX3_init 1 none, Cond.methodLink RX3 3 objectInit, Cond.arrayClass .byte, Cond.fieldLink RX3 9 "TypoSuggester$Tape" "bytes" "[B", Cond.instanceMethod yX4_init, Cond.code yX4_init cX4_init 1 none, Cond.methodLink RX4 3 objectInit, Cond.fieldLink RX4 9 "TypoSuggester$Word" "letters" "[B", Cond.instanceMethod yX0_init, Cond.code yX0_init cX0_init 1 none, Cond.methodLink RX0 3 objectInit, Cond.fieldLink RX0 9 "TypoSuggester$Lexicon" "letters" "[B", Cond.arrayClass .int, Cond.fieldLink RX0 15 "TypoSuggester$Lexicon" "starts" "[I", Cond.arrayClass .long, Cond.fieldLink RX0 19 "TypoSuggester$Lexicon" "weights" "[J", Cond.instanceMethod yX1_init, Cond.code yX1_init cX1_init 1 none, Cond.methodLink RX1 3 objectInit, Cond.fieldLink RX1 9 "TypoSuggester$Measure" "row" "[I", Cond.instanceMethod yX2_init, Cond.code yX2_init cX2_init 1 none, Cond.methodLink RX2 3 objectInit, Cond.fieldLink RX2 9 "TypoSuggester$Result" "places" "[I"]
def wsX5_init_r3 : List Cond := [Cond.fieldLink RX2 15 "TypoSuggester$Result" "weights" "[J", Cond.fieldLink RX2 19 "TypoSuggester$Result" "nearnesses" "[I", Cond.fieldLink RX2 22 "TypoSuggester$Result" "lengths" "[I", Cond.fieldLink RX2 25 "TypoSuggester$Result" "letters" "[B"]
def wsX5_init : List Cond := .code yX5_init cX5_init 1 none :: ((wsX5_init_r1 ++ (wsX5_init_r2 ++ wsX5_init_r3)) ++ wsX30 ++ wsX50 ++ wsX40 ++ wsX00 ++ wsX10 ++ wsX20)
def wsX5_feed : List Cond := .code yX5_feed cX5_feed 2 (some .int) :: ([.fieldLink RX5 10 "TypoSuggester" "tape" "LTypoSuggester$Tape;", .fieldLink RX5 48 "TypoSuggester$Tape" "size" "I", .methodLink RX5 44 yX3_append, .instanceMethod yX3_append, .selects RX3 yX3_append yX3_append, .initialized RX3, .code yX3_append cX3_append 3 (some .boolean), .fieldLink RX3 15 "TypoSuggester$Tape" "size" "I", .fieldLink RX3 9 "TypoSuggester$Tape" "bytes" "[B"] ++ wsX50 ++ wsX30)
def wsX5_cut : List Cond := .code yX5_cut cX5_cut 3 (some .int) :: ([.fieldLink RX5 10 "TypoSuggester" "tape" "LTypoSuggester$Tape;", .fieldLink RX5 48 "TypoSuggester$Tape" "size" "I"] ++ wsX50 ++ wsX30)
def wsX5_isSmallLetter : List Cond := .code yX5_isSmallLetter cX5_isSmallLetter 1 (some .boolean) :: ([])
def wsX5_smallLetter : List Cond := .code yX5_smallLetter cX5_smallLetter 1 (some .int) :: ([.methodLink RX5 150 yX5_isSmallLetter, .static yX5_isSmallLetter, .initialized RX5, .code yX5_isSmallLetter cX5_isSmallLetter 1 (some .boolean)])
def wsX5_takeUse_r1 : List Cond := [Cond.fieldLink RX5 19 "TypoSuggester" "word" "LTypoSuggester$Word;", Cond.fieldLink RX5 53 "TypoSuggester$Word" "length" "I", Cond.fieldLink RX5 26 "TypoSuggester" "lexicon" "LTypoSuggester$Lexicon;", Cond.methodLink RX5 153 yX0_grow, Cond.instanceMethod yX0_grow, Cond.selects RX0 yX0_grow yX0_grow, Cond.initialized RX0, Cond.code yX0_grow cX0_grow 4 (some .boolean), Cond.fieldLink RX0 19 "TypoSuggester$Lexicon" "weights" "[J", Cond.constantLong RX0 61 (1000000000000), Cond.methodLink RX0 63 Lib.MathLoose.min_long.x, Cond.static Lib.MathLoose.min_long.x, Cond.initialized "java/lang/Math", Cond.code Lib.MathLoose.min_long.x Lib.MathLoose.min_long.code 4 (some .long), Cond.methodLink RX0 54 yX0_placeOf, Cond.instanceMethod yX0_placeOf, Cond.selects RX0 yX0_placeOf yX0_placeOf, Cond.code yX0_placeOf cX0_placeOf 5 (some .int), Cond.fieldLink RX0 23 "TypoSuggester$Lexicon" "count" "I", Cond.methodLink RX0 31 yX0_goesBefore, Cond.instanceMethod yX0_goesBefore, Cond.selects RX0 yX0_goesBefore yX0_goesBefore, Cond.code yX0_goesBefore cX0_goesBefore 4 (some .boolean), Cond.fieldLink RX0 39 "TypoSuggester$Word" "length" "I"]
def wsX5_takeUse_r2 : List Cond := [Cond.fieldLink RX0 9 "TypoSuggester$Lexicon" "letters" "[B", Cond.fieldLink RX0 15 "TypoSuggester$Lexicon" "starts" "[I", Cond.fieldLink RX0 44 "TypoSuggester$Word" "letters" "[B", Cond.methodLink RX0 35 yX0_sharedWith, Cond.instanceMethod yX0_sharedWith, Cond.selects RX0 yX0_sharedWith yX0_sharedWith, Cond.code yX0_sharedWith cX0_sharedWith 5 (some .int), Cond.methodLink RX0 48 Lib.Math.min.name, Cond.static Lib.Math.min.name, Cond.code Lib.Math.min.name Lib.Math.min.code 2 (some .int), Cond.methodLink RX0 27 yX0_lengthOf, Cond.instanceMethod yX0_lengthOf, Cond.selects RX0 yX0_lengthOf yX0_lengthOf, Cond.code yX0_lengthOf cX0_lengthOf 2 (some .int), Cond.methodLink RX0 58 yX0_standsAt, Cond.instanceMethod yX0_standsAt, Cond.selects RX0 yX0_standsAt yX0_standsAt, Cond.code yX0_standsAt cX0_standsAt 3 (some .boolean), Cond.methodLink RX0 45 yX0_beginsWith, Cond.instanceMethod yX0_beginsWith, Cond.selects RX0 yX0_beginsWith yX0_beginsWith, Cond.code yX0_beginsWith cX0_beginsWith 3 (some .boolean), Cond.methodLink RX0 66 yX0_insert, Cond.instanceMethod yX0_insert]
def wsX5_takeUse_r3 : List Cond := [Cond.selects RX0 yX0_insert yX0_insert, Cond.code yX0_insert cX0_insert 7 (some .boolean), Cond.methodLink RX0 74 arraycopyName, Cond.native arraycopyName, Cond.static arraycopyName, Cond.initialized "java/lang/System", Cond.methodLink RX0 70 yX0_size, Cond.instanceMethod yX0_size, Cond.selects RX0 yX0_size yX0_size, Cond.code yX0_size cX0_size 1 (some .int)]
def wsX5_takeUse : List Cond := .code yX5_takeUse cX5_takeUse 3 (some .int) :: ((wsX5_takeUse_r1 ++ (wsX5_takeUse_r2 ++ wsX5_takeUse_r3)) ++ wsX50 ++ wsX40 ++ wsX00)
def wsX5_learn_r1 : List Cond := [Cond.constant RX5 52 (1000000), Cond.fieldLink RX5 19 "TypoSuggester" "word" "LTypoSuggester$Word;", Cond.fieldLink RX5 53 "TypoSuggester$Word" "length" "I", Cond.fieldLink RX5 10 "TypoSuggester" "tape" "LTypoSuggester$Tape;", Cond.fieldLink RX5 48 "TypoSuggester$Tape" "size" "I", Cond.fieldLink RX5 56 "TypoSuggester$Tape" "bytes" "[B", Cond.methodLink RX5 60 yX5_smallLetter, Cond.static yX5_smallLetter, Cond.initialized RX5, Cond.code yX5_smallLetter cX5_smallLetter 1 (some .int), Cond.methodLink RX5 150 yX5_isSmallLetter, Cond.static yX5_isSmallLetter, Cond.code yX5_isSmallLetter cX5_isSmallLetter 1 (some .boolean), Cond.methodLink RX5 64 yX4_append, Cond.instanceMethod yX4_append, Cond.selects RX4 yX4_append yX4_append, Cond.initialized RX4, Cond.code yX4_append cX4_append 2 none, Cond.fieldLink RX4 15 "TypoSuggester$Word" "length" "I", Cond.fieldLink RX4 9 "TypoSuggester$Word" "letters" "[B", Cond.methodLink RX5 67 yX5_takeUse, Cond.instanceMethod yX5_takeUse, Cond.selects RX5 yX5_takeUse yX5_takeUse, Cond.code yX5_takeUse cX5_takeUse 3 (some .int)]
def wsX5_learn_r2 : List Cond := [Cond.fieldLink RX5 26 "TypoSuggester" "lexicon" "LTypoSuggester$Lexicon;", Cond.methodLink RX5 153 yX0_grow, Cond.instanceMethod yX0_grow, Cond.selects RX0 yX0_grow yX0_grow, Cond.initialized RX0, Cond.code yX0_grow cX0_grow 4 (some .boolean), Cond.fieldLink RX0 19 "TypoSuggester$Lexicon" "weights" "[J", Cond.constantLong RX0 61 (1000000000000), Cond.methodLink RX0 63 Lib.MathLoose.min_long.x, Cond.static Lib.MathLoose.min_long.x, Cond.initialized "java/lang/Math", Cond.code Lib.MathLoose.min_long.x Lib.MathLoose.min_long.code 4 (some .long), Cond.methodLink RX0 54 yX0_placeOf, Cond.instanceMethod yX0_placeOf, Cond.selects RX0 yX0_placeOf yX0_placeOf, Cond.code yX0_placeOf cX0_placeOf 5 (some .int), Cond.fieldLink RX0 23 "TypoSuggester$Lexicon" "count" "I", Cond.methodLink RX0 31 yX0_goesBefore, Cond.instanceMethod yX0_goesBefore, Cond.selects RX0 yX0_goesBefore yX0_goesBefore, Cond.code yX0_goesBefore cX0_goesBefore 4 (some .boolean), Cond.fieldLink RX0 39 "TypoSuggester$Word" "length" "I", Cond.fieldLink RX0 9 "TypoSuggester$Lexicon" "letters" "[B", Cond.fieldLink RX0 15 "TypoSuggester$Lexicon" "starts" "[I"]
def wsX5_learn_r3 : List Cond := [Cond.fieldLink RX0 44 "TypoSuggester$Word" "letters" "[B", Cond.methodLink RX0 35 yX0_sharedWith, Cond.instanceMethod yX0_sharedWith, Cond.selects RX0 yX0_sharedWith yX0_sharedWith, Cond.code yX0_sharedWith cX0_sharedWith 5 (some .int), Cond.methodLink RX0 48 Lib.Math.min.name, Cond.static Lib.Math.min.name, Cond.code Lib.Math.min.name Lib.Math.min.code 2 (some .int), Cond.methodLink RX0 27 yX0_lengthOf, Cond.instanceMethod yX0_lengthOf, Cond.selects RX0 yX0_lengthOf yX0_lengthOf, Cond.code yX0_lengthOf cX0_lengthOf 2 (some .int), Cond.methodLink RX0 58 yX0_standsAt, Cond.instanceMethod yX0_standsAt, Cond.selects RX0 yX0_standsAt yX0_standsAt, Cond.code yX0_standsAt cX0_standsAt 3 (some .boolean), Cond.methodLink RX0 45 yX0_beginsWith, Cond.instanceMethod yX0_beginsWith, Cond.selects RX0 yX0_beginsWith yX0_beginsWith, Cond.code yX0_beginsWith cX0_beginsWith 3 (some .boolean), Cond.methodLink RX0 66 yX0_insert, Cond.instanceMethod yX0_insert, Cond.selects RX0 yX0_insert yX0_insert, Cond.code yX0_insert cX0_insert 7 (some .boolean)]
def wsX5_learn_r4 : List Cond := [Cond.methodLink RX0 74 arraycopyName, Cond.native arraycopyName, Cond.static arraycopyName, Cond.initialized "java/lang/System", Cond.methodLink RX0 70 yX0_size, Cond.instanceMethod yX0_size, Cond.selects RX0 yX0_size yX0_size, Cond.code yX0_size cX0_size 1 (some .int)]
def wsX5_learn : List Cond := .code yX5_learn cX5_learn 5 (some .int) :: ((wsX5_learn_r1 ++ (wsX5_learn_r2 ++ (wsX5_learn_r3 ++ wsX5_learn_r4))) ++ wsX50 ++ wsX40 ++ wsX30 ++ wsX00)
def wsX5_takeLetters : List Cond := .code yX5_takeLetters cX5_takeLetters 3 (some .boolean) :: ([.fieldLink RX5 10 "TypoSuggester" "tape" "LTypoSuggester$Tape;", .fieldLink RX5 48 "TypoSuggester$Tape" "size" "I", .fieldLink RX5 19 "TypoSuggester" "word" "LTypoSuggester$Word;", .fieldLink RX5 53 "TypoSuggester$Word" "length" "I", .fieldLink RX5 56 "TypoSuggester$Tape" "bytes" "[B", .methodLink RX5 150 yX5_isSmallLetter, .static yX5_isSmallLetter, .initialized RX5, .code yX5_isSmallLetter cX5_isSmallLetter 1 (some .boolean), .methodLink RX5 64 yX4_append, .instanceMethod yX4_append, .selects RX4 yX4_append yX4_append, .initialized RX4, .code yX4_append cX4_append 2 none, .fieldLink RX4 15 "TypoSuggester$Word" "length" "I", .fieldLink RX4 9 "TypoSuggester$Word" "letters" "[B"] ++ wsX50 ++ wsX30 ++ wsX40)
def wsX5_takeTerm : List Cond := .code yX5_takeTerm cX5_takeTerm 1 (some .boolean) :: ([.fieldLink RX5 19 "TypoSuggester" "word" "LTypoSuggester$Word;", .fieldLink RX5 53 "TypoSuggester$Word" "length" "I", .methodLink RX5 101 yX5_takeLetters, .instanceMethod yX5_takeLetters, .selects RX5 yX5_takeLetters yX5_takeLetters, .initialized RX5, .code yX5_takeLetters cX5_takeLetters 3 (some .boolean), .fieldLink RX5 10 "TypoSuggester" "tape" "LTypoSuggester$Tape;", .fieldLink RX5 48 "TypoSuggester$Tape" "size" "I", .fieldLink RX5 56 "TypoSuggester$Tape" "bytes" "[B", .methodLink RX5 150 yX5_isSmallLetter, .static yX5_isSmallLetter, .code yX5_isSmallLetter cX5_isSmallLetter 1 (some .boolean), .methodLink RX5 64 yX4_append, .instanceMethod yX4_append, .selects RX4 yX4_append yX4_append, .initialized RX4, .code yX4_append cX4_append 2 none, .fieldLink RX4 15 "TypoSuggester$Word" "length" "I", .fieldLink RX4 9 "TypoSuggester$Word" "letters" "[B"] ++ wsX50 ++ wsX40 ++ wsX30)
def wsX5_set_r1 : List Cond := [Cond.constantLong RX5 74 (1000000000000), Cond.fieldLink RX5 26 "TypoSuggester" "lexicon" "LTypoSuggester$Lexicon;", Cond.fieldLink RX5 19 "TypoSuggester" "word" "LTypoSuggester$Word;", Cond.fieldLink RX5 84 "TypoSuggester$Lexicon" "weights" "[J", Cond.methodLink RX5 70 yX5_takeTerm, Cond.instanceMethod yX5_takeTerm, Cond.selects RX5 yX5_takeTerm yX5_takeTerm, Cond.initialized RX5, Cond.code yX5_takeTerm cX5_takeTerm 1 (some .boolean), Cond.fieldLink RX5 53 "TypoSuggester$Word" "length" "I", Cond.methodLink RX5 101 yX5_takeLetters, Cond.instanceMethod yX5_takeLetters, Cond.selects RX5 yX5_takeLetters yX5_takeLetters, Cond.code yX5_takeLetters cX5_takeLetters 3 (some .boolean), Cond.fieldLink RX5 10 "TypoSuggester" "tape" "LTypoSuggester$Tape;", Cond.fieldLink RX5 48 "TypoSuggester$Tape" "size" "I", Cond.fieldLink RX5 56 "TypoSuggester$Tape" "bytes" "[B", Cond.methodLink RX5 150 yX5_isSmallLetter, Cond.static yX5_isSmallLetter, Cond.code yX5_isSmallLetter cX5_isSmallLetter 1 (some .boolean), Cond.methodLink RX5 64 yX4_append, Cond.instanceMethod yX4_append, Cond.selects RX4 yX4_append yX4_append, Cond.initialized RX4]
def wsX5_set_r2 : List Cond := [Cond.code yX4_append cX4_append 2 none, Cond.fieldLink RX4 15 "TypoSuggester$Word" "length" "I", Cond.fieldLink RX4 9 "TypoSuggester$Word" "letters" "[B", Cond.methodLink RX5 76 yX0_placeOf, Cond.instanceMethod yX0_placeOf, Cond.selects RX0 yX0_placeOf yX0_placeOf, Cond.initialized RX0, Cond.code yX0_placeOf cX0_placeOf 5 (some .int), Cond.fieldLink RX0 23 "TypoSuggester$Lexicon" "count" "I", Cond.methodLink RX0 31 yX0_goesBefore, Cond.instanceMethod yX0_goesBefore, Cond.selects RX0 yX0_goesBefore yX0_goesBefore, Cond.code yX0_goesBefore cX0_goesBefore 4 (some .boolean), Cond.fieldLink RX0 39 "TypoSuggester$Word" "length" "I", Cond.fieldLink RX0 9 "TypoSuggester$Lexicon" "letters" "[B", Cond.fieldLink RX0 15 "TypoSuggester$Lexicon" "starts" "[I", Cond.fieldLink RX0 44 "TypoSuggester$Word" "letters" "[B", Cond.methodLink RX0 35 yX0_sharedWith, Cond.instanceMethod yX0_sharedWith, Cond.selects RX0 yX0_sharedWith yX0_sharedWith, Cond.code yX0_sharedWith cX0_sharedWith 5 (some .int), Cond.methodLink RX0 48 Lib.Math.min.name, Cond.static Lib.Math.min.name, Cond.initialized "java/lang/Math"]
def wsX5_set_r3 : List Cond := [Cond.code Lib.Math.min.name Lib.Math.min.code 2 (some .int), Cond.methodLink RX0 27 yX0_lengthOf, Cond.instanceMethod yX0_lengthOf, Cond.selects RX0 yX0_lengthOf yX0_lengthOf, Cond.code yX0_lengthOf cX0_lengthOf 2 (some .int), Cond.methodLink RX5 80 yX0_standsAt, Cond.instanceMethod yX0_standsAt, Cond.selects RX0 yX0_standsAt yX0_standsAt, Cond.code yX0_standsAt cX0_standsAt 3 (some .boolean), Cond.methodLink RX0 45 yX0_beginsWith, Cond.instanceMethod yX0_beginsWith, Cond.selects RX0 yX0_beginsWith yX0_beginsWith, Cond.code yX0_beginsWith cX0_beginsWith 3 (some .boolean), Cond.methodLink RX5 88 yX0_insert, Cond.instanceMethod yX0_insert, Cond.selects RX0 yX0_insert yX0_insert, Cond.code yX0_insert cX0_insert 7 (some .boolean), Cond.methodLink RX0 74 arraycopyName, Cond.native arraycopyName, Cond.static arraycopyName, Cond.initialized "java/lang/System", Cond.fieldLink RX0 19 "TypoSuggester$Lexicon" "weights" "[J", Cond.methodLink RX0 70 yX0_size, Cond.instanceMethod yX0_size]
def wsX5_set_r4 : List Cond := [Cond.selects RX0 yX0_size yX0_size, Cond.code yX0_size cX0_size 1 (some .int)]
def wsX5_set : List Cond := .code yX5_set cX5_set 4 (some .int) :: ((wsX5_set_r1 ++ (wsX5_set_r2 ++ (wsX5_set_r3 ++ wsX5_set_r4))) ++ wsX50 ++ wsX00 ++ wsX40 ++ wsX30)
def wsX5_takePlace_r1 : List Cond := [Cond.fieldLink RX5 26 "TypoSuggester" "lexicon" "LTypoSuggester$Lexicon;", Cond.fieldLink RX5 19 "TypoSuggester" "word" "LTypoSuggester$Word;", Cond.methodLink RX5 70 yX5_takeTerm, Cond.instanceMethod yX5_takeTerm, Cond.selects RX5 yX5_takeTerm yX5_takeTerm, Cond.initialized RX5, Cond.code yX5_takeTerm cX5_takeTerm 1 (some .boolean), Cond.fieldLink RX5 53 "TypoSuggester$Word" "length" "I", Cond.methodLink RX5 101 yX5_takeLetters, Cond.instanceMethod yX5_takeLetters, Cond.selects RX5 yX5_takeLetters yX5_takeLetters, Cond.code yX5_takeLetters cX5_takeLetters 3 (some .boolean), Cond.fieldLink RX5 10 "TypoSuggester" "tape" "LTypoSuggester$Tape;", Cond.fieldLink RX5 48 "TypoSuggester$Tape" "size" "I", Cond.fieldLink RX5 56 "TypoSuggester$Tape" "bytes" "[B", Cond.methodLink RX5 150 yX5_isSmallLetter, Cond.static yX5_isSmallLetter, Cond.code yX5_isSmallLetter cX5_isSmallLetter 1 (some .boolean), Cond.methodLink RX5 64 yX4_append, Cond.instanceMethod yX4_append, Cond.selects RX4 yX4_append yX4_append, Cond.initialized RX4, Cond.code yX4_append cX4_append 2 none, Cond.fieldLink RX4 15 "TypoSuggester$Word" "length" "I"]
def wsX5_takePlace_r2 : List Cond := [Cond.fieldLink RX4 9 "TypoSuggester$Word" "letters" "[B", Cond.methodLink RX5 76 yX0_placeOf, Cond.instanceMethod yX0_placeOf, Cond.selects RX0 yX0_placeOf yX0_placeOf, Cond.initialized RX0, Cond.code yX0_placeOf cX0_placeOf 5 (some .int), Cond.fieldLink RX0 23 "TypoSuggester$Lexicon" "count" "I", Cond.methodLink RX0 31 yX0_goesBefore, Cond.instanceMethod yX0_goesBefore, Cond.selects RX0 yX0_goesBefore yX0_goesBefore, Cond.code yX0_goesBefore cX0_goesBefore 4 (some .boolean), Cond.fieldLink RX0 39 "TypoSuggester$Word" "length" "I", Cond.fieldLink RX0 9 "TypoSuggester$Lexicon" "letters" "[B", Cond.fieldLink RX0 15 "TypoSuggester$Lexicon" "starts" "[I", Cond.fieldLink RX0 44 "TypoSuggester$Word" "letters" "[B", Cond.methodLink RX0 35 yX0_sharedWith, Cond.instanceMethod yX0_sharedWith, Cond.selects RX0 yX0_sharedWith yX0_sharedWith, Cond.code yX0_sharedWith cX0_sharedWith 5 (some .int), Cond.methodLink RX0 48 Lib.Math.min.name, Cond.static Lib.Math.min.name, Cond.initialized "java/lang/Math", Cond.code Lib.Math.min.name Lib.Math.min.code 2 (some .int), Cond.methodLink RX0 27 yX0_lengthOf]
def wsX5_takePlace_r3 : List Cond := [Cond.instanceMethod yX0_lengthOf, Cond.selects RX0 yX0_lengthOf yX0_lengthOf, Cond.code yX0_lengthOf cX0_lengthOf 2 (some .int), Cond.methodLink RX5 80 yX0_standsAt, Cond.instanceMethod yX0_standsAt, Cond.selects RX0 yX0_standsAt yX0_standsAt, Cond.code yX0_standsAt cX0_standsAt 3 (some .boolean), Cond.methodLink RX0 45 yX0_beginsWith, Cond.instanceMethod yX0_beginsWith, Cond.selects RX0 yX0_beginsWith yX0_beginsWith, Cond.code yX0_beginsWith cX0_beginsWith 3 (some .boolean)]
def wsX5_takePlace : List Cond := .code yX5_takePlace cX5_takePlace 2 (some .int) :: ((wsX5_takePlace_r1 ++ (wsX5_takePlace_r2 ++ wsX5_takePlace_r3)) ++ wsX50 ++ wsX40 ++ wsX30 ++ wsX00)
def wsX5_drop_r1 : List Cond := [Cond.constantLong RX5 96 (-1), Cond.fieldLink RX5 26 "TypoSuggester" "lexicon" "LTypoSuggester$Lexicon;", Cond.fieldLink RX5 84 "TypoSuggester$Lexicon" "weights" "[J", Cond.methodLink RX5 92 yX5_takePlace, Cond.instanceMethod yX5_takePlace, Cond.selects RX5 yX5_takePlace yX5_takePlace, Cond.initialized RX5, Cond.code yX5_takePlace cX5_takePlace 2 (some .int), Cond.fieldLink RX5 19 "TypoSuggester" "word" "LTypoSuggester$Word;", Cond.methodLink RX5 70 yX5_takeTerm, Cond.instanceMethod yX5_takeTerm, Cond.selects RX5 yX5_takeTerm yX5_takeTerm, Cond.code yX5_takeTerm cX5_takeTerm 1 (some .boolean), Cond.fieldLink RX5 53 "TypoSuggester$Word" "length" "I", Cond.methodLink RX5 101 yX5_takeLetters, Cond.instanceMethod yX5_takeLetters, Cond.selects RX5 yX5_takeLetters yX5_takeLetters, Cond.code yX5_takeLetters cX5_takeLetters 3 (some .boolean), Cond.fieldLink RX5 10 "TypoSuggester" "tape" "LTypoSuggester$Tape;", Cond.fieldLink RX5 48 "TypoSuggester$Tape" "size" "I", Cond.fieldLink RX5 56 "TypoSuggester$Tape" "bytes" "[B", Cond.methodLink RX5 150 yX5_isSmallLetter, Cond.static yX5_isSmallLetter, Cond.code yX5_isSmallLetter cX5_isSmallLetter 1 (some .boolean)]
def wsX5_drop_r2 : List Cond := [Cond.methodLink RX5 64 yX4_append, Cond.instanceMethod yX4_append, Cond.selects RX4 yX4_append yX4_append, Cond.initialized RX4, Cond.code yX4_append cX4_append 2 none, Cond.fieldLink RX4 15 "TypoSuggester$Word" "length" "I", Cond.fieldLink RX4 9 "TypoSuggester$Word" "letters" "[B", Cond.methodLink RX5 76 yX0_placeOf, Cond.instanceMethod yX0_placeOf, Cond.selects RX0 yX0_placeOf yX0_placeOf, Cond.initialized RX0, Cond.code yX0_placeOf cX0_placeOf 5 (some .int), Cond.fieldLink RX0 23 "TypoSuggester$Lexicon" "count" "I", Cond.methodLink RX0 31 yX0_goesBefore, Cond.instanceMethod yX0_goesBefore, Cond.selects RX0 yX0_goesBefore yX0_goesBefore, Cond.code yX0_goesBefore cX0_goesBefore 4 (some .boolean), Cond.fieldLink RX0 39 "TypoSuggester$Word" "length" "I", Cond.fieldLink RX0 9 "TypoSuggester$Lexicon" "letters" "[B", Cond.fieldLink RX0 15 "TypoSuggester$Lexicon" "starts" "[I", Cond.fieldLink RX0 44 "TypoSuggester$Word" "letters" "[B", Cond.methodLink RX0 35 yX0_sharedWith, Cond.instanceMethod yX0_sharedWith, Cond.selects RX0 yX0_sharedWith yX0_sharedWith]
def wsX5_drop_r3 : List Cond := [Cond.code yX0_sharedWith cX0_sharedWith 5 (some .int), Cond.methodLink RX0 48 Lib.Math.min.name, Cond.static Lib.Math.min.name, Cond.initialized "java/lang/Math", Cond.code Lib.Math.min.name Lib.Math.min.code 2 (some .int), Cond.methodLink RX0 27 yX0_lengthOf, Cond.instanceMethod yX0_lengthOf, Cond.selects RX0 yX0_lengthOf yX0_lengthOf, Cond.code yX0_lengthOf cX0_lengthOf 2 (some .int), Cond.methodLink RX5 80 yX0_standsAt, Cond.instanceMethod yX0_standsAt, Cond.selects RX0 yX0_standsAt yX0_standsAt, Cond.code yX0_standsAt cX0_standsAt 3 (some .boolean), Cond.methodLink RX0 45 yX0_beginsWith, Cond.instanceMethod yX0_beginsWith, Cond.selects RX0 yX0_beginsWith yX0_beginsWith, Cond.code yX0_beginsWith cX0_beginsWith 3 (some .boolean), Cond.methodLink RX5 98 yX0_remove, Cond.instanceMethod yX0_remove, Cond.selects RX0 yX0_remove yX0_remove, Cond.code yX0_remove cX0_remove 5 none, Cond.methodLink RX0 74 arraycopyName, Cond.native arraycopyName, Cond.static arraycopyName]
def wsX5_drop_r4 : List Cond := [Cond.initialized "java/lang/System", Cond.fieldLink RX0 19 "TypoSuggester$Lexicon" "weights" "[J", Cond.methodLink RX0 70 yX0_size, Cond.instanceMethod yX0_size, Cond.selects RX0 yX0_size yX0_size, Cond.code yX0_size cX0_size 1 (some .int)]
def wsX5_drop : List Cond := .code yX5_drop cX5_drop 4 (some .long) :: ((wsX5_drop_r1 ++ (wsX5_drop_r2 ++ (wsX5_drop_r3 ++ wsX5_drop_r4))) ++ wsX50 ++ wsX00 ++ wsX40 ++ wsX30)
def wsX5_weight_r1 : List Cond := [Cond.constantLong RX5 96 (-1), Cond.fieldLink RX5 26 "TypoSuggester" "lexicon" "LTypoSuggester$Lexicon;", Cond.fieldLink RX5 84 "TypoSuggester$Lexicon" "weights" "[J", Cond.methodLink RX5 92 yX5_takePlace, Cond.instanceMethod yX5_takePlace, Cond.selects RX5 yX5_takePlace yX5_takePlace, Cond.initialized RX5, Cond.code yX5_takePlace cX5_takePlace 2 (some .int), Cond.fieldLink RX5 19 "TypoSuggester" "word" "LTypoSuggester$Word;", Cond.methodLink RX5 70 yX5_takeTerm, Cond.instanceMethod yX5_takeTerm, Cond.selects RX5 yX5_takeTerm yX5_takeTerm, Cond.code yX5_takeTerm cX5_takeTerm 1 (some .boolean), Cond.fieldLink RX5 53 "TypoSuggester$Word" "length" "I", Cond.methodLink RX5 101 yX5_takeLetters, Cond.instanceMethod yX5_takeLetters, Cond.selects RX5 yX5_takeLetters yX5_takeLetters, Cond.code yX5_takeLetters cX5_takeLetters 3 (some .boolean), Cond.fieldLink RX5 10 "TypoSuggester" "tape" "LTypoSuggester$Tape;", Cond.fieldLink RX5 48 "TypoSuggester$Tape" "size" "I", Cond.fieldLink RX5 56 "TypoSuggester$Tape" "bytes" "[B", Cond.methodLink RX5 150 yX5_isSmallLetter, Cond.static yX5_isSmallLetter, Cond.code yX5_isSmallLetter cX5_isSmallLetter 1 (some .boolean)]
def wsX5_weight_r2 : List Cond := [Cond.methodLink RX5 64 yX4_append, Cond.instanceMethod yX4_append, Cond.selects RX4 yX4_append yX4_append, Cond.initialized RX4, Cond.code yX4_append cX4_append 2 none, Cond.fieldLink RX4 15 "TypoSuggester$Word" "length" "I", Cond.fieldLink RX4 9 "TypoSuggester$Word" "letters" "[B", Cond.methodLink RX5 76 yX0_placeOf, Cond.instanceMethod yX0_placeOf, Cond.selects RX0 yX0_placeOf yX0_placeOf, Cond.initialized RX0, Cond.code yX0_placeOf cX0_placeOf 5 (some .int), Cond.fieldLink RX0 23 "TypoSuggester$Lexicon" "count" "I", Cond.methodLink RX0 31 yX0_goesBefore, Cond.instanceMethod yX0_goesBefore, Cond.selects RX0 yX0_goesBefore yX0_goesBefore, Cond.code yX0_goesBefore cX0_goesBefore 4 (some .boolean), Cond.fieldLink RX0 39 "TypoSuggester$Word" "length" "I", Cond.fieldLink RX0 9 "TypoSuggester$Lexicon" "letters" "[B", Cond.fieldLink RX0 15 "TypoSuggester$Lexicon" "starts" "[I", Cond.fieldLink RX0 44 "TypoSuggester$Word" "letters" "[B", Cond.methodLink RX0 35 yX0_sharedWith, Cond.instanceMethod yX0_sharedWith, Cond.selects RX0 yX0_sharedWith yX0_sharedWith]
def wsX5_weight_r3 : List Cond := [Cond.code yX0_sharedWith cX0_sharedWith 5 (some .int), Cond.methodLink RX0 48 Lib.Math.min.name, Cond.static Lib.Math.min.name, Cond.initialized "java/lang/Math", Cond.code Lib.Math.min.name Lib.Math.min.code 2 (some .int), Cond.methodLink RX0 27 yX0_lengthOf, Cond.instanceMethod yX0_lengthOf, Cond.selects RX0 yX0_lengthOf yX0_lengthOf, Cond.code yX0_lengthOf cX0_lengthOf 2 (some .int), Cond.methodLink RX5 80 yX0_standsAt, Cond.instanceMethod yX0_standsAt, Cond.selects RX0 yX0_standsAt yX0_standsAt, Cond.code yX0_standsAt cX0_standsAt 3 (some .boolean), Cond.methodLink RX0 45 yX0_beginsWith, Cond.instanceMethod yX0_beginsWith, Cond.selects RX0 yX0_beginsWith yX0_beginsWith, Cond.code yX0_beginsWith cX0_beginsWith 3 (some .boolean)]
def wsX5_weight : List Cond := .code yX5_weight cX5_weight 2 (some .long) :: ((wsX5_weight_r1 ++ (wsX5_weight_r2 ++ wsX5_weight_r3)) ++ wsX50 ++ wsX00 ++ wsX40 ++ wsX30)
def wsX5_ask_r1 : List Cond := [Cond.fieldLink RX5 40 "TypoSuggester" "result" "LTypoSuggester$Result;", Cond.fieldLink RX5 104 "TypoSuggester$Result" "count" "I", Cond.fieldLink RX5 26 "TypoSuggester" "lexicon" "LTypoSuggester$Lexicon;", Cond.fieldLink RX5 107 "TypoSuggester$Lexicon" "count" "I", Cond.fieldLink RX5 33 "TypoSuggester" "measure" "LTypoSuggester$Measure;", Cond.fieldLink RX5 19 "TypoSuggester" "word" "LTypoSuggester$Word;", Cond.fieldLink RX5 84 "TypoSuggester$Lexicon" "weights" "[J", Cond.methodLink RX5 101 yX5_takeLetters, Cond.instanceMethod yX5_takeLetters, Cond.selects RX5 yX5_takeLetters yX5_takeLetters, Cond.initialized RX5, Cond.code yX5_takeLetters cX5_takeLetters 3 (some .boolean), Cond.fieldLink RX5 10 "TypoSuggester" "tape" "LTypoSuggester$Tape;", Cond.fieldLink RX5 48 "TypoSuggester$Tape" "size" "I", Cond.fieldLink RX5 53 "TypoSuggester$Word" "length" "I", Cond.fieldLink RX5 56 "TypoSuggester$Tape" "bytes" "[B", Cond.methodLink RX5 150 yX5_isSmallLetter, Cond.static yX5_isSmallLetter, Cond.code yX5_isSmallLetter cX5_isSmallLetter 1 (some .boolean), Cond.methodLink RX5 64 yX4_append, Cond.instanceMethod yX4_append, Cond.selects RX4 yX4_append yX4_append, Cond.initialized RX4, Cond.code yX4_append cX4_append 2 none]
def wsX5_ask_r2 : List Cond := [Cond.fieldLink RX4 15 "TypoSuggester$Word" "length" "I", Cond.fieldLink RX4 9 "TypoSuggester$Word" "letters" "[B", Cond.methodLink RX5 108 yX1_nearness, Cond.instanceMethod yX1_nearness, Cond.selects RX1 yX1_nearness yX1_nearness, Cond.initialized RX1, Cond.code yX1_nearness cX1_nearness 9 (some .int), Cond.fieldLink RX1 15 "TypoSuggester$Word" "length" "I", Cond.fieldLink RX1 9 "TypoSuggester$Measure" "row" "[I", Cond.methodLink RX1 21 Lib.Math.min.name, Cond.static Lib.Math.min.name, Cond.initialized "java/lang/Math", Cond.code Lib.Math.min.name Lib.Math.min.code 2 (some .int), Cond.fieldLink RX1 27 "TypoSuggester$Lexicon" "starts" "[I", Cond.fieldLink RX1 32 "TypoSuggester$Lexicon" "letters" "[B", Cond.methodLink RX1 36 yX1_lengthenPrefix, Cond.instanceMethod yX1_lengthenPrefix, Cond.selects RX1 yX1_lengthenPrefix yX1_lengthenPrefix, Cond.code yX1_lengthenPrefix cX1_lengthenPrefix 7 (some .int), Cond.fieldLink RX1 40 "TypoSuggester$Word" "letters" "[B", Cond.methodLink RX5 112 yX2_offer, Cond.instanceMethod yX2_offer, Cond.selects RX2 yX2_offer yX2_offer, Cond.initialized RX2]
def wsX5_ask_r3 : List Cond := [Cond.code yX2_offer cX2_offer 8 none, Cond.fieldLink RX2 29 "TypoSuggester$Result" "count" "I", Cond.fieldLink RX2 15 "TypoSuggester$Result" "weights" "[J", Cond.methodLink RX2 33 Lib.Math.min.name, Cond.fieldLink RX2 9 "TypoSuggester$Result" "places" "[I", Cond.fieldLink RX2 19 "TypoSuggester$Result" "nearnesses" "[I", Cond.methodLink RX5 116 yX2_keepLetters, Cond.instanceMethod yX2_keepLetters, Cond.selects RX2 yX2_keepLetters yX2_keepLetters, Cond.code yX2_keepLetters cX2_keepLetters 4 none, Cond.fieldLink RX2 22 "TypoSuggester$Result" "lengths" "[I", Cond.fieldLink RX2 45 "TypoSuggester$Lexicon" "letters" "[B", Cond.fieldLink RX2 46 "TypoSuggester$Lexicon" "starts" "[I", Cond.fieldLink RX2 25 "TypoSuggester$Result" "letters" "[B", Cond.methodLink RX2 49 arraycopyName, Cond.native arraycopyName, Cond.static arraycopyName, Cond.initialized "java/lang/System", Cond.methodLink RX2 39 yX0_lengthOf, Cond.instanceMethod yX0_lengthOf, Cond.selects RX0 yX0_lengthOf yX0_lengthOf, Cond.initialized RX0, Cond.code yX0_lengthOf cX0_lengthOf 2 (some .int), Cond.fieldLink RX0 15 "TypoSuggester$Lexicon" "starts" "[I"]
def wsX5_ask : List Cond := .code yX5_ask cX5_ask 5 (some .int) :: ((wsX5_ask_r1 ++ (wsX5_ask_r2 ++ wsX5_ask_r3)) ++ wsX50 ++ wsX20 ++ wsX00 ++ wsX30 ++ wsX40 ++ wsX10)
def wsX5_near_r1 : List Cond := [Cond.fieldLink RX5 26 "TypoSuggester" "lexicon" "LTypoSuggester$Lexicon;", Cond.fieldLink RX5 107 "TypoSuggester$Lexicon" "count" "I", Cond.fieldLink RX5 33 "TypoSuggester" "measure" "LTypoSuggester$Measure;", Cond.fieldLink RX5 19 "TypoSuggester" "word" "LTypoSuggester$Word;", Cond.methodLink RX5 101 yX5_takeLetters, Cond.instanceMethod yX5_takeLetters, Cond.selects RX5 yX5_takeLetters yX5_takeLetters, Cond.initialized RX5, Cond.code yX5_takeLetters cX5_takeLetters 3 (some .boolean), Cond.fieldLink RX5 10 "TypoSuggester" "tape" "LTypoSuggester$Tape;", Cond.fieldLink RX5 48 "TypoSuggester$Tape" "size" "I", Cond.fieldLink RX5 53 "TypoSuggester$Word" "length" "I", Cond.fieldLink RX5 56 "TypoSuggester$Tape" "bytes" "[B", Cond.methodLink RX5 150 yX5_isSmallLetter, Cond.static yX5_isSmallLetter, Cond.code yX5_isSmallLetter cX5_isSmallLetter 1 (some .boolean), Cond.methodLink RX5 64 yX4_append, Cond.instanceMethod yX4_append, Cond.selects RX4 yX4_append yX4_append, Cond.initialized RX4, Cond.code yX4_append cX4_append 2 none, Cond.fieldLink RX4 15 "TypoSuggester$Word" "length" "I", Cond.fieldLink RX4 9 "TypoSuggester$Word" "letters" "[B", Cond.methodLink RX5 108 yX1_nearness]
def wsX5_near_r2 : List Cond := [Cond.instanceMethod yX1_nearness, Cond.selects RX1 yX1_nearness yX1_nearness, Cond.initialized RX1, Cond.code yX1_nearness cX1_nearness 9 (some .int), Cond.fieldLink RX1 15 "TypoSuggester$Word" "length" "I", Cond.fieldLink RX1 9 "TypoSuggester$Measure" "row" "[I", Cond.methodLink RX1 21 Lib.Math.min.name, Cond.static Lib.Math.min.name, Cond.initialized "java/lang/Math", Cond.code Lib.Math.min.name Lib.Math.min.code 2 (some .int), Cond.fieldLink RX1 27 "TypoSuggester$Lexicon" "starts" "[I", Cond.fieldLink RX1 32 "TypoSuggester$Lexicon" "letters" "[B", Cond.methodLink RX1 36 yX1_lengthenPrefix, Cond.instanceMethod yX1_lengthenPrefix, Cond.selects RX1 yX1_lengthenPrefix yX1_lengthenPrefix, Cond.code yX1_lengthenPrefix cX1_lengthenPrefix 7 (some .int), Cond.fieldLink RX1 40 "TypoSuggester$Word" "letters" "[B"]
def wsX5_near : List Cond := .code yX5_near cX5_near 4 (some .int) :: ((wsX5_near_r1 ++ wsX5_near_r2) ++ wsX50 ++ wsX00 ++ wsX30 ++ wsX40 ++ wsX10)
def wsX5_best_r1 : List Cond := [Cond.constantLong RX5 96 (-1), Cond.fieldLink RX5 26 "TypoSuggester" "lexicon" "LTypoSuggester$Lexicon;", Cond.fieldLink RX5 19 "TypoSuggester" "word" "LTypoSuggester$Word;", Cond.fieldLink RX5 107 "TypoSuggester$Lexicon" "count" "I", Cond.fieldLink RX5 84 "TypoSuggester$Lexicon" "weights" "[J", Cond.methodLink RX5 123 Lib.MathLoose.max_long.x, Cond.static Lib.MathLoose.max_long.x, Cond.initialized "java/lang/Math", Cond.code Lib.MathLoose.max_long.x Lib.MathLoose.max_long.code 4 (some .long), Cond.methodLink RX5 101 yX5_takeLetters, Cond.instanceMethod yX5_takeLetters, Cond.selects RX5 yX5_takeLetters yX5_takeLetters, Cond.initialized RX5, Cond.code yX5_takeLetters cX5_takeLetters 3 (some .boolean), Cond.fieldLink RX5 10 "TypoSuggester" "tape" "LTypoSuggester$Tape;", Cond.fieldLink RX5 48 "TypoSuggester$Tape" "size" "I", Cond.fieldLink RX5 53 "TypoSuggester$Word" "length" "I", Cond.fieldLink RX5 56 "TypoSuggester$Tape" "bytes" "[B", Cond.methodLink RX5 150 yX5_isSmallLetter, Cond.static yX5_isSmallLetter, Cond.code yX5_isSmallLetter cX5_isSmallLetter 1 (some .boolean), Cond.methodLink RX5 64 yX4_append, Cond.instanceMethod yX4_append, Cond.selects RX4 yX4_append yX4_append]
def wsX5_best_r2 : List Cond := [Cond.initialized RX4, Cond.code yX4_append cX4_append 2 none, Cond.fieldLink RX4 15 "TypoSuggester$Word" "length" "I", Cond.fieldLink RX4 9 "TypoSuggester$Word" "letters" "[B", Cond.methodLink RX5 76 yX0_placeOf, Cond.instanceMethod yX0_placeOf, Cond.selects RX0 yX0_placeOf yX0_placeOf, Cond.initialized RX0, Cond.code yX0_placeOf cX0_placeOf 5 (some .int), Cond.fieldLink RX0 23 "TypoSuggester$Lexicon" "count" "I", Cond.methodLink RX0 31 yX0_goesBefore, Cond.instanceMethod yX0_goesBefore, Cond.selects RX0 yX0_goesBefore yX0_goesBefore, Cond.code yX0_goesBefore cX0_goesBefore 4 (some .boolean), Cond.fieldLink RX0 39 "TypoSuggester$Word" "length" "I", Cond.fieldLink RX0 9 "TypoSuggester$Lexicon" "letters" "[B", Cond.fieldLink RX0 15 "TypoSuggester$Lexicon" "starts" "[I", Cond.fieldLink RX0 44 "TypoSuggester$Word" "letters" "[B", Cond.methodLink RX0 35 yX0_sharedWith, Cond.instanceMethod yX0_sharedWith, Cond.selects RX0 yX0_sharedWith yX0_sharedWith, Cond.code yX0_sharedWith cX0_sharedWith 5 (some .int), Cond.methodLink RX0 48 Lib.Math.min.name, Cond.static Lib.Math.min.name]
def wsX5_best_r3 : List Cond := [Cond.code Lib.Math.min.name Lib.Math.min.code 2 (some .int), Cond.methodLink RX0 27 yX0_lengthOf, Cond.instanceMethod yX0_lengthOf, Cond.selects RX0 yX0_lengthOf yX0_lengthOf, Cond.code yX0_lengthOf cX0_lengthOf 2 (some .int), Cond.methodLink RX5 120 yX0_beginsWith, Cond.instanceMethod yX0_beginsWith, Cond.selects RX0 yX0_beginsWith yX0_beginsWith, Cond.code yX0_beginsWith cX0_beginsWith 3 (some .boolean)]
def wsX5_best : List Cond := .code yX5_best cX5_best 4 (some .long) :: ((wsX5_best_r1 ++ (wsX5_best_r2 ++ wsX5_best_r3)) ++ wsX50 ++ wsX00 ++ wsX30 ++ wsX40)
def wsX5_rank_r1 : List Cond := [Cond.fieldLink RX5 26 "TypoSuggester" "lexicon" "LTypoSuggester$Lexicon;", Cond.methodLink RX5 92 yX5_takePlace, Cond.instanceMethod yX5_takePlace, Cond.selects RX5 yX5_takePlace yX5_takePlace, Cond.initialized RX5, Cond.code yX5_takePlace cX5_takePlace 2 (some .int), Cond.fieldLink RX5 19 "TypoSuggester" "word" "LTypoSuggester$Word;", Cond.methodLink RX5 70 yX5_takeTerm, Cond.instanceMethod yX5_takeTerm, Cond.selects RX5 yX5_takeTerm yX5_takeTerm, Cond.code yX5_takeTerm cX5_takeTerm 1 (some .boolean), Cond.fieldLink RX5 53 "TypoSuggester$Word" "length" "I", Cond.methodLink RX5 101 yX5_takeLetters, Cond.instanceMethod yX5_takeLetters, Cond.selects RX5 yX5_takeLetters yX5_takeLetters, Cond.code yX5_takeLetters cX5_takeLetters 3 (some .boolean), Cond.fieldLink RX5 10 "TypoSuggester" "tape" "LTypoSuggester$Tape;", Cond.fieldLink RX5 48 "TypoSuggester$Tape" "size" "I", Cond.fieldLink RX5 56 "TypoSuggester$Tape" "bytes" "[B", Cond.methodLink RX5 150 yX5_isSmallLetter, Cond.static yX5_isSmallLetter, Cond.code yX5_isSmallLetter cX5_isSmallLetter 1 (some .boolean), Cond.methodLink RX5 64 yX4_append, Cond.instanceMethod yX4_append]
def wsX5_rank_r2 : List Cond := [Cond.selects RX4 yX4_append yX4_append, Cond.initialized RX4, Cond.code yX4_append cX4_append 2 none, Cond.fieldLink RX4 15 "TypoSuggester$Word" "length" "I", Cond.fieldLink RX4 9 "TypoSuggester$Word" "letters" "[B", Cond.methodLink RX5 76 yX0_placeOf, Cond.instanceMethod yX0_placeOf, Cond.selects RX0 yX0_placeOf yX0_placeOf, Cond.initialized RX0, Cond.code yX0_placeOf cX0_placeOf 5 (some .int), Cond.fieldLink RX0 23 "TypoSuggester$Lexicon" "count" "I", Cond.methodLink RX0 31 yX0_goesBefore, Cond.instanceMethod yX0_goesBefore, Cond.selects RX0 yX0_goesBefore yX0_goesBefore, Cond.code yX0_goesBefore cX0_goesBefore 4 (some .boolean), Cond.fieldLink RX0 39 "TypoSuggester$Word" "length" "I", Cond.fieldLink RX0 9 "TypoSuggester$Lexicon" "letters" "[B", Cond.fieldLink RX0 15 "TypoSuggester$Lexicon" "starts" "[I", Cond.fieldLink RX0 44 "TypoSuggester$Word" "letters" "[B", Cond.methodLink RX0 35 yX0_sharedWith, Cond.instanceMethod yX0_sharedWith, Cond.selects RX0 yX0_sharedWith yX0_sharedWith, Cond.code yX0_sharedWith cX0_sharedWith 5 (some .int), Cond.methodLink RX0 48 Lib.Math.min.name]
def wsX5_rank_r3 : List Cond := [Cond.static Lib.Math.min.name, Cond.initialized "java/lang/Math", Cond.code Lib.Math.min.name Lib.Math.min.code 2 (some .int), Cond.methodLink RX0 27 yX0_lengthOf, Cond.instanceMethod yX0_lengthOf, Cond.selects RX0 yX0_lengthOf yX0_lengthOf, Cond.code yX0_lengthOf cX0_lengthOf 2 (some .int), Cond.methodLink RX5 80 yX0_standsAt, Cond.instanceMethod yX0_standsAt, Cond.selects RX0 yX0_standsAt yX0_standsAt, Cond.code yX0_standsAt cX0_standsAt 3 (some .boolean), Cond.methodLink RX0 45 yX0_beginsWith, Cond.instanceMethod yX0_beginsWith, Cond.selects RX0 yX0_beginsWith yX0_beginsWith, Cond.code yX0_beginsWith cX0_beginsWith 3 (some .boolean), Cond.methodLink RX5 129 yX0_rankOf, Cond.instanceMethod yX0_rankOf, Cond.selects RX0 yX0_rankOf yX0_rankOf, Cond.code yX0_rankOf cX0_rankOf 4 (some .int), Cond.fieldLink RX0 19 "TypoSuggester$Lexicon" "weights" "[J"]
def wsX5_rank : List Cond := .code yX5_rank cX5_rank 2 (some .int) :: ((wsX5_rank_r1 ++ (wsX5_rank_r2 ++ wsX5_rank_r3)) ++ wsX50 ++ wsX40 ++ wsX30 ++ wsX00)
def wsX5_found : List Cond := .code yX5_found cX5_found 1 (some .int) :: ([.fieldLink RX5 40 "TypoSuggester" "result" "LTypoSuggester$Result;", .fieldLink RX5 104 "TypoSuggester$Result" "count" "I"] ++ wsX50 ++ wsX20)
def wsX5_letter : List Cond := .code yX5_letter cX5_letter 3 (some .int) :: ([.fieldLink RX5 40 "TypoSuggester" "result" "LTypoSuggester$Result;", .methodLink RX5 132 yX2_letterOf, .instanceMethod yX2_letterOf, .selects RX2 yX2_letterOf yX2_letterOf, .initialized RX2, .code yX2_letterOf cX2_letterOf 3 (some .int), .fieldLink RX2 29 "TypoSuggester$Result" "count" "I", .fieldLink RX2 22 "TypoSuggester$Result" "lengths" "[I", .fieldLink RX2 25 "TypoSuggester$Result" "letters" "[B"] ++ wsX50 ++ wsX20)
def wsX5_of : List Cond := .code yX5_of cX5_of 3 (some .long) :: ([.fieldLink RX5 40 "TypoSuggester" "result" "LTypoSuggester$Result;", .fieldLink RX5 104 "TypoSuggester$Result" "count" "I", .constantLong RX5 96 (-1), .fieldLink RX5 136 "TypoSuggester$Result" "lengths" "[I", .fieldLink RX5 140 "TypoSuggester$Result" "weights" "[J", .fieldLink RX5 141 "TypoSuggester$Result" "nearnesses" "[I"] ++ wsX50 ++ wsX20)
def wsX5_terms : List Cond := .code yX5_terms cX5_terms 1 (some .int) :: ([.fieldLink RX5 26 "TypoSuggester" "lexicon" "LTypoSuggester$Lexicon;", .fieldLink RX5 107 "TypoSuggester$Lexicon" "count" "I"] ++ wsX50 ++ wsX00)
def wsX5_letters : List Cond := .code yX5_letters cX5_letters 1 (some .int) :: ([.fieldLink RX5 26 "TypoSuggester" "lexicon" "LTypoSuggester$Lexicon;", .methodLink RX5 144 yX0_size, .instanceMethod yX0_size, .selects RX0 yX0_size yX0_size, .initialized RX0, .code yX0_size cX0_size 1 (some .int), .fieldLink RX0 15 "TypoSuggester$Lexicon" "starts" "[I", .fieldLink RX0 23 "TypoSuggester$Lexicon" "count" "I"] ++ wsX50 ++ wsX00)
def wsX5_term : List Cond := .code yX5_term cX5_term 3 (some .int) :: ([.fieldLink RX5 26 "TypoSuggester" "lexicon" "LTypoSuggester$Lexicon;", .methodLink RX5 146 yX0_letterOf, .instanceMethod yX0_letterOf, .selects RX0 yX0_letterOf yX0_letterOf, .initialized RX0, .code yX0_letterOf cX0_letterOf 3 (some .int), .fieldLink RX0 23 "TypoSuggester$Lexicon" "count" "I", .fieldLink RX0 9 "TypoSuggester$Lexicon" "letters" "[B", .fieldLink RX0 15 "TypoSuggester$Lexicon" "starts" "[I", .methodLink RX0 27 yX0_lengthOf, .instanceMethod yX0_lengthOf, .selects RX0 yX0_lengthOf yX0_lengthOf, .code yX0_lengthOf cX0_lengthOf 2 (some .int)] ++ wsX50 ++ wsX00)
def wsX5_prefixes_r1 : List Cond := [Cond.fieldLink RX5 26 "TypoSuggester" "lexicon" "LTypoSuggester$Lexicon;", Cond.methodLink RX5 147 yX0_countPrefixes, Cond.instanceMethod yX0_countPrefixes, Cond.selects RX0 yX0_countPrefixes yX0_countPrefixes, Cond.initialized RX0, Cond.code yX0_countPrefixes cX0_countPrefixes 3 (some .int), Cond.fieldLink RX0 23 "TypoSuggester$Lexicon" "count" "I", Cond.methodLink RX0 70 yX0_size, Cond.instanceMethod yX0_size, Cond.selects RX0 yX0_size yX0_size, Cond.code yX0_size cX0_size 1 (some .int), Cond.fieldLink RX0 15 "TypoSuggester$Lexicon" "starts" "[I", Cond.methodLink RX0 80 yX0_sharedWithNext, Cond.instanceMethod yX0_sharedWithNext, Cond.selects RX0 yX0_sharedWithNext yX0_sharedWithNext, Cond.code yX0_sharedWithNext cX0_sharedWithNext 4 (some .int), Cond.methodLink RX0 48 Lib.Math.min.name, Cond.static Lib.Math.min.name, Cond.initialized "java/lang/Math", Cond.code Lib.Math.min.name Lib.Math.min.code 2 (some .int), Cond.fieldLink RX0 9 "TypoSuggester$Lexicon" "letters" "[B", Cond.methodLink RX0 27 yX0_lengthOf, Cond.instanceMethod yX0_lengthOf, Cond.selects RX0 yX0_lengthOf yX0_lengthOf]
def wsX5_prefixes_r2 : List Cond := [Cond.code yX0_lengthOf cX0_lengthOf 2 (some .int)]
def wsX5_prefixes : List Cond := .code yX5_prefixes cX5_prefixes 1 (some .int) :: ((wsX5_prefixes_r1 ++ wsX5_prefixes_r2) ++ wsX50 ++ wsX00)
def wsX6_init : List Cond := .code yX6_init cX6_init 1 none :: ([.methodLink RX6 1 objectInit, .instanceMethod objectInit, .code objectInit ⟨#[0xb1]⟩ 1 none, .arrayClass .byte, .fieldLink RX6 7 "TypoSuggesterModel" "tape" "[B", .fieldLink RX6 13 "TypoSuggesterModel" "letters" "[B", .arrayClass .int, .fieldLink RX6 16 "TypoSuggesterModel" "sizes" "[I", .arrayClass .long, .fieldLink RX6 20 "TypoSuggesterModel" "weights" "[J", .fieldLink RX6 24 "TypoSuggesterModel" "resultLetters" "[B", .fieldLink RX6 27 "TypoSuggesterModel" "resultSize" "[I", .fieldLink RX6 30 "TypoSuggesterModel" "resultWeight" "[J", .fieldLink RX6 33 "TypoSuggesterModel" "resultNear" "[I", .arrayClass .boolean, .fieldLink RX6 36 "TypoSuggesterModel" "isTaken" "[Z", .fieldLink RX6 40 "TypoSuggesterModel" "nearness" "[I", .fieldLink RX6 43 "TypoSuggesterModel" "row" "[I", .fieldLink RX6 46 "TypoSuggesterModel" "count" "I"] ++ wsX60)
def wsX6_feed : List Cond := .code yX6_feed cX6_feed 3 (some .int) :: ([.fieldLink RX6 50 "TypoSuggesterModel" "tapeSize" "I", .fieldLink RX6 7 "TypoSuggesterModel" "tape" "[B"] ++ wsX60)
def wsX6_cut : List Cond := .code yX6_cut cX6_cut 3 (some .int) :: ([.fieldLink RX6 50 "TypoSuggesterModel" "tapeSize" "I"] ++ wsX60)
def wsX6_isSmall : List Cond := .code yX6_isSmall cX6_isSmall 1 (some .boolean) :: ([])
def wsX6_small : List Cond := .code yX6_small cX6_small 1 (some .int) :: ([])
def wsX6_compare : List Cond := .code yX6_compare cX6_compare 6 (some .int) :: ([.fieldLink RX6 16 "TypoSuggesterModel" "sizes" "[I", .fieldLink RX6 7 "TypoSuggesterModel" "tape" "[B", .fieldLink RX6 13 "TypoSuggesterModel" "letters" "[B", .methodLink RX6 53 yX6_small, .static yX6_small, .initialized RX6, .code yX6_small cX6_small 1 (some .int)] ++ wsX60)
def wsX6_find : List Cond := .code yX6_find cX6_find 4 (some .int) :: ([.fieldLink RX6 46 "TypoSuggesterModel" "count" "I", .methodLink RX6 57 yX6_compare, .instanceMethod yX6_compare, .selects RX6 yX6_compare yX6_compare, .initialized RX6, .code yX6_compare cX6_compare 6 (some .int), .fieldLink RX6 16 "TypoSuggesterModel" "sizes" "[I", .fieldLink RX6 7 "TypoSuggesterModel" "tape" "[B", .fieldLink RX6 13 "TypoSuggesterModel" "letters" "[B", .methodLink RX6 53 yX6_small, .static yX6_small, .code yX6_small cX6_small 1 (some .int)] ++ wsX60)
def wsX6_move : List Cond := .code yX6_move cX6_move 4 none :: ([.fieldLink RX6 13 "TypoSuggesterModel" "letters" "[B", .fieldLink RX6 16 "TypoSuggesterModel" "sizes" "[I", .fieldLink RX6 20 "TypoSuggesterModel" "weights" "[J"] ++ wsX60)
def wsX6_add : List Cond := .code yX6_add cX6_add 7 (some .int) :: ([.fieldLink RX6 46 "TypoSuggesterModel" "count" "I", .fieldLink RX6 61 "TypoSuggesterModel" "letterCount" "I", .fieldLink RX6 13 "TypoSuggesterModel" "letters" "[B", .fieldLink RX6 7 "TypoSuggesterModel" "tape" "[B", .fieldLink RX6 16 "TypoSuggesterModel" "sizes" "[I", .fieldLink RX6 20 "TypoSuggesterModel" "weights" "[J", .methodLink RX6 57 yX6_compare, .instanceMethod yX6_compare, .selects RX6 yX6_compare yX6_compare, .initialized RX6, .code yX6_compare cX6_compare 6 (some .int), .methodLink RX6 53 yX6_small, .static yX6_small, .code yX6_small cX6_small 1 (some .int), .methodLink RX6 64 yX6_move, .instanceMethod yX6_move, .selects RX6 yX6_move yX6_move, .code yX6_move cX6_move 4 none] ++ wsX60)
def wsX6_taken : List Cond := .code yX6_taken cX6_taken 5 (some .int) :: ([.fieldLink RX6 50 "TypoSuggesterModel" "tapeSize" "I", .fieldLink RX6 7 "TypoSuggesterModel" "tape" "[B", .methodLink RX6 68 yX6_isSmall, .static yX6_isSmall, .initialized RX6, .code yX6_isSmall cX6_isSmall 1 (some .boolean)] ++ wsX60)
def wsX6_isLetter : List Cond := .code yX6_isLetter cX6_isLetter 1 (some .boolean) :: ([])
def wsX6_learn_r1 : List Cond := [Cond.constant RX6 72 (1000000), Cond.fieldLink RX6 50 "TypoSuggesterModel" "tapeSize" "I", Cond.fieldLink RX6 7 "TypoSuggesterModel" "tape" "[B", Cond.fieldLink RX6 20 "TypoSuggesterModel" "weights" "[J", Cond.constantLong RX6 80 (1000000000000), Cond.methodLink RX6 73 yX6_isLetter, Cond.static yX6_isLetter, Cond.initialized RX6, Cond.code yX6_isLetter cX6_isLetter 1 (some .boolean), Cond.methodLink RX6 76 yX6_find, Cond.instanceMethod yX6_find, Cond.selects RX6 yX6_find yX6_find, Cond.code yX6_find cX6_find 4 (some .int), Cond.fieldLink RX6 46 "TypoSuggesterModel" "count" "I", Cond.methodLink RX6 57 yX6_compare, Cond.instanceMethod yX6_compare, Cond.selects RX6 yX6_compare yX6_compare, Cond.code yX6_compare cX6_compare 6 (some .int), Cond.fieldLink RX6 16 "TypoSuggesterModel" "sizes" "[I", Cond.fieldLink RX6 13 "TypoSuggesterModel" "letters" "[B", Cond.methodLink RX6 53 yX6_small, Cond.static yX6_small, Cond.code yX6_small cX6_small 1 (some .int), Cond.methodLink RX6 82 yX6_add]
def wsX6_learn_r2 : List Cond := [Cond.instanceMethod yX6_add, Cond.selects RX6 yX6_add yX6_add, Cond.code yX6_add cX6_add 7 (some .int), Cond.fieldLink RX6 61 "TypoSuggesterModel" "letterCount" "I", Cond.methodLink RX6 64 yX6_move, Cond.instanceMethod yX6_move, Cond.selects RX6 yX6_move yX6_move, Cond.code yX6_move cX6_move 4 none]
def wsX6_learn : List Cond := .code yX6_learn cX6_learn 7 (some .int) :: ((wsX6_learn_r1 ++ wsX6_learn_r2) ++ wsX60)
def wsX6_set_r1 : List Cond := [Cond.constantLong RX6 80 (1000000000000), Cond.fieldLink RX6 20 "TypoSuggesterModel" "weights" "[J", Cond.methodLink RX6 86 yX6_taken, Cond.instanceMethod yX6_taken, Cond.selects RX6 yX6_taken yX6_taken, Cond.initialized RX6, Cond.code yX6_taken cX6_taken 5 (some .int), Cond.fieldLink RX6 50 "TypoSuggesterModel" "tapeSize" "I", Cond.fieldLink RX6 7 "TypoSuggesterModel" "tape" "[B", Cond.methodLink RX6 68 yX6_isSmall, Cond.static yX6_isSmall, Cond.code yX6_isSmall cX6_isSmall 1 (some .boolean), Cond.methodLink RX6 76 yX6_find, Cond.instanceMethod yX6_find, Cond.selects RX6 yX6_find yX6_find, Cond.code yX6_find cX6_find 4 (some .int), Cond.fieldLink RX6 46 "TypoSuggesterModel" "count" "I", Cond.methodLink RX6 57 yX6_compare, Cond.instanceMethod yX6_compare, Cond.selects RX6 yX6_compare yX6_compare, Cond.code yX6_compare cX6_compare 6 (some .int), Cond.fieldLink RX6 16 "TypoSuggesterModel" "sizes" "[I", Cond.fieldLink RX6 13 "TypoSuggesterModel" "letters" "[B", Cond.methodLink RX6 53 yX6_small]
def wsX6_set_r2 : List Cond := [Cond.static yX6_small, Cond.code yX6_small cX6_small 1 (some .int), Cond.methodLink RX6 82 yX6_add, Cond.instanceMethod yX6_add, Cond.selects RX6 yX6_add yX6_add, Cond.code yX6_add cX6_add 7 (some .int), Cond.fieldLink RX6 61 "TypoSuggesterModel" "letterCount" "I", Cond.methodLink RX6 64 yX6_move, Cond.instanceMethod yX6_move, Cond.selects RX6 yX6_move yX6_move, Cond.code yX6_move cX6_move 4 none]
def wsX6_set : List Cond := .code yX6_set cX6_set 5 (some .int) :: ((wsX6_set_r1 ++ wsX6_set_r2) ++ wsX60)
def wsX6_drop_r1 : List Cond := [Cond.constantLong RX6 89 (-1), Cond.fieldLink RX6 20 "TypoSuggesterModel" "weights" "[J", Cond.fieldLink RX6 61 "TypoSuggesterModel" "letterCount" "I", Cond.fieldLink RX6 46 "TypoSuggesterModel" "count" "I", Cond.methodLink RX6 86 yX6_taken, Cond.instanceMethod yX6_taken, Cond.selects RX6 yX6_taken yX6_taken, Cond.initialized RX6, Cond.code yX6_taken cX6_taken 5 (some .int), Cond.fieldLink RX6 50 "TypoSuggesterModel" "tapeSize" "I", Cond.fieldLink RX6 7 "TypoSuggesterModel" "tape" "[B", Cond.methodLink RX6 68 yX6_isSmall, Cond.static yX6_isSmall, Cond.code yX6_isSmall cX6_isSmall 1 (some .boolean), Cond.methodLink RX6 76 yX6_find, Cond.instanceMethod yX6_find, Cond.selects RX6 yX6_find yX6_find, Cond.code yX6_find cX6_find 4 (some .int), Cond.methodLink RX6 57 yX6_compare, Cond.instanceMethod yX6_compare, Cond.selects RX6 yX6_compare yX6_compare, Cond.code yX6_compare cX6_compare 6 (some .int), Cond.fieldLink RX6 16 "TypoSuggesterModel" "sizes" "[I", Cond.fieldLink RX6 13 "TypoSuggesterModel" "letters" "[B"]
def wsX6_drop_r2 : List Cond := [Cond.methodLink RX6 53 yX6_small, Cond.static yX6_small, Cond.code yX6_small cX6_small 1 (some .int), Cond.methodLink RX6 64 yX6_move, Cond.instanceMethod yX6_move, Cond.selects RX6 yX6_move yX6_move, Cond.code yX6_move cX6_move 4 none]
def wsX6_drop : List Cond := .code yX6_drop cX6_drop 6 (some .long) :: ((wsX6_drop_r1 ++ wsX6_drop_r2) ++ wsX60)
def wsX6_weight_r1 : List Cond := [Cond.constantLong RX6 89 (-1), Cond.fieldLink RX6 20 "TypoSuggesterModel" "weights" "[J", Cond.methodLink RX6 86 yX6_taken, Cond.instanceMethod yX6_taken, Cond.selects RX6 yX6_taken yX6_taken, Cond.initialized RX6, Cond.code yX6_taken cX6_taken 5 (some .int), Cond.fieldLink RX6 50 "TypoSuggesterModel" "tapeSize" "I", Cond.fieldLink RX6 7 "TypoSuggesterModel" "tape" "[B", Cond.methodLink RX6 68 yX6_isSmall, Cond.static yX6_isSmall, Cond.code yX6_isSmall cX6_isSmall 1 (some .boolean), Cond.methodLink RX6 76 yX6_find, Cond.instanceMethod yX6_find, Cond.selects RX6 yX6_find yX6_find, Cond.code yX6_find cX6_find 4 (some .int), Cond.fieldLink RX6 46 "TypoSuggesterModel" "count" "I", Cond.methodLink RX6 57 yX6_compare, Cond.instanceMethod yX6_compare, Cond.selects RX6 yX6_compare yX6_compare, Cond.code yX6_compare cX6_compare 6 (some .int), Cond.fieldLink RX6 16 "TypoSuggesterModel" "sizes" "[I", Cond.fieldLink RX6 13 "TypoSuggesterModel" "letters" "[B", Cond.methodLink RX6 53 yX6_small]
def wsX6_weight_r2 : List Cond := [Cond.static yX6_small, Cond.code yX6_small cX6_small 1 (some .int)]
def wsX6_weight : List Cond := .code yX6_weight cX6_weight 3 (some .long) :: ((wsX6_weight_r1 ++ wsX6_weight_r2) ++ wsX60)
def wsX6_nearnessOf : List Cond := .code yX6_nearnessOf cX6_nearnessOf 9 (some .int) :: ([.fieldLink RX6 43 "TypoSuggesterModel" "row" "[I", .fieldLink RX6 16 "TypoSuggesterModel" "sizes" "[I", .fieldLink RX6 7 "TypoSuggesterModel" "tape" "[B", .fieldLink RX6 13 "TypoSuggesterModel" "letters" "[B"] ++ wsX60)
def wsX6_ask_r1 : List Cond := [Cond.fieldLink RX6 46 "TypoSuggesterModel" "count" "I", Cond.fieldLink RX6 40 "TypoSuggesterModel" "nearness" "[I", Cond.fieldLink RX6 36 "TypoSuggesterModel" "isTaken" "[Z", Cond.fieldLink RX6 94 "TypoSuggesterModel" "results" "I", Cond.fieldLink RX6 20 "TypoSuggesterModel" "weights" "[J", Cond.fieldLink RX6 24 "TypoSuggesterModel" "resultLetters" "[B", Cond.fieldLink RX6 13 "TypoSuggesterModel" "letters" "[B", Cond.fieldLink RX6 27 "TypoSuggesterModel" "resultSize" "[I", Cond.fieldLink RX6 16 "TypoSuggesterModel" "sizes" "[I", Cond.fieldLink RX6 30 "TypoSuggesterModel" "resultWeight" "[J", Cond.fieldLink RX6 33 "TypoSuggesterModel" "resultNear" "[I", Cond.methodLink RX6 86 yX6_taken, Cond.instanceMethod yX6_taken, Cond.selects RX6 yX6_taken yX6_taken, Cond.initialized RX6, Cond.code yX6_taken cX6_taken 5 (some .int), Cond.fieldLink RX6 50 "TypoSuggesterModel" "tapeSize" "I", Cond.fieldLink RX6 7 "TypoSuggesterModel" "tape" "[B", Cond.methodLink RX6 68 yX6_isSmall, Cond.static yX6_isSmall, Cond.code yX6_isSmall cX6_isSmall 1 (some .boolean), Cond.methodLink RX6 91 yX6_nearnessOf, Cond.instanceMethod yX6_nearnessOf, Cond.selects RX6 yX6_nearnessOf yX6_nearnessOf]
def wsX6_ask_r2 : List Cond := [Cond.code yX6_nearnessOf cX6_nearnessOf 9 (some .int), Cond.fieldLink RX6 43 "TypoSuggesterModel" "row" "[I"]
def wsX6_ask : List Cond := .code yX6_ask cX6_ask 7 (some .int) :: ((wsX6_ask_r1 ++ wsX6_ask_r2) ++ wsX60)
def wsX6_near : List Cond := .code yX6_near cX6_near 5 (some .int) :: ([.fieldLink RX6 46 "TypoSuggesterModel" "count" "I", .methodLink RX6 86 yX6_taken, .instanceMethod yX6_taken, .selects RX6 yX6_taken yX6_taken, .initialized RX6, .code yX6_taken cX6_taken 5 (some .int), .fieldLink RX6 50 "TypoSuggesterModel" "tapeSize" "I", .fieldLink RX6 7 "TypoSuggesterModel" "tape" "[B", .methodLink RX6 68 yX6_isSmall, .static yX6_isSmall, .code yX6_isSmall cX6_isSmall 1 (some .boolean), .methodLink RX6 91 yX6_nearnessOf, .instanceMethod yX6_nearnessOf, .selects RX6 yX6_nearnessOf yX6_nearnessOf, .code yX6_nearnessOf cX6_nearnessOf 9 (some .int), .fieldLink RX6 43 "TypoSuggesterModel" "row" "[I", .fieldLink RX6 16 "TypoSuggesterModel" "sizes" "[I", .fieldLink RX6 13 "TypoSuggesterModel" "letters" "[B"] ++ wsX60)
def wsX6_best : List Cond := .code yX6_best cX6_best 7 (some .long) :: ([.constantLong RX6 89 (-1), .fieldLink RX6 46 "TypoSuggesterModel" "count" "I", .fieldLink RX6 16 "TypoSuggesterModel" "sizes" "[I", .fieldLink RX6 7 "TypoSuggesterModel" "tape" "[B", .fieldLink RX6 13 "TypoSuggesterModel" "letters" "[B", .fieldLink RX6 20 "TypoSuggesterModel" "weights" "[J", .methodLink RX6 86 yX6_taken, .instanceMethod yX6_taken, .selects RX6 yX6_taken yX6_taken, .initialized RX6, .code yX6_taken cX6_taken 5 (some .int), .fieldLink RX6 50 "TypoSuggesterModel" "tapeSize" "I", .methodLink RX6 68 yX6_isSmall, .static yX6_isSmall, .code yX6_isSmall cX6_isSmall 1 (some .boolean)] ++ wsX60)
def wsX6_rank_r1 : List Cond := [Cond.fieldLink RX6 46 "TypoSuggesterModel" "count" "I", Cond.fieldLink RX6 20 "TypoSuggesterModel" "weights" "[J", Cond.methodLink RX6 86 yX6_taken, Cond.instanceMethod yX6_taken, Cond.selects RX6 yX6_taken yX6_taken, Cond.initialized RX6, Cond.code yX6_taken cX6_taken 5 (some .int), Cond.fieldLink RX6 50 "TypoSuggesterModel" "tapeSize" "I", Cond.fieldLink RX6 7 "TypoSuggesterModel" "tape" "[B", Cond.methodLink RX6 68 yX6_isSmall, Cond.static yX6_isSmall, Cond.code yX6_isSmall cX6_isSmall 1 (some .boolean), Cond.methodLink RX6 76 yX6_find, Cond.instanceMethod yX6_find, Cond.selects RX6 yX6_find yX6_find, Cond.code yX6_find cX6_find 4 (some .int), Cond.methodLink RX6 57 yX6_compare, Cond.instanceMethod yX6_compare, Cond.selects RX6 yX6_compare yX6_compare, Cond.code yX6_compare cX6_compare 6 (some .int), Cond.fieldLink RX6 16 "TypoSuggesterModel" "sizes" "[I", Cond.fieldLink RX6 13 "TypoSuggesterModel" "letters" "[B", Cond.methodLink RX6 53 yX6_small, Cond.static yX6_small]
def wsX6_rank_r2 : List Cond := [Cond.code yX6_small cX6_small 1 (some .int)]
def wsX6_rank : List Cond := .code yX6_rank cX6_rank 5 (some .int) :: ((wsX6_rank_r1 ++ wsX6_rank_r2) ++ wsX60)
def wsX6_found : List Cond := .code yX6_found cX6_found 1 (some .int) :: ([.fieldLink RX6 94 "TypoSuggesterModel" "results" "I"] ++ wsX60)
def wsX6_letter : List Cond := .code yX6_letter cX6_letter 3 (some .int) :: ([.fieldLink RX6 94 "TypoSuggesterModel" "results" "I", .fieldLink RX6 27 "TypoSuggesterModel" "resultSize" "[I", .fieldLink RX6 24 "TypoSuggesterModel" "resultLetters" "[B"] ++ wsX60)
def wsX6_of : List Cond := .code yX6_of cX6_of 3 (some .long) :: ([.fieldLink RX6 94 "TypoSuggesterModel" "results" "I", .constantLong RX6 89 (-1), .fieldLink RX6 27 "TypoSuggesterModel" "resultSize" "[I", .fieldLink RX6 30 "TypoSuggesterModel" "resultWeight" "[J", .fieldLink RX6 33 "TypoSuggesterModel" "resultNear" "[I"] ++ wsX60)
def wsX6_terms : List Cond := .code yX6_terms cX6_terms 1 (some .int) :: ([.fieldLink RX6 46 "TypoSuggesterModel" "count" "I"] ++ wsX60)
def wsX6_letters : List Cond := .code yX6_letters cX6_letters 1 (some .int) :: ([.fieldLink RX6 61 "TypoSuggesterModel" "letterCount" "I"] ++ wsX60)
def wsX6_term : List Cond := .code yX6_term cX6_term 3 (some .int) :: ([.fieldLink RX6 46 "TypoSuggesterModel" "count" "I", .fieldLink RX6 16 "TypoSuggesterModel" "sizes" "[I", .fieldLink RX6 13 "TypoSuggesterModel" "letters" "[B"] ++ wsX60)
def wsX6_prefixes : List Cond := .code yX6_prefixes cX6_prefixes 4 (some .int) :: ([.fieldLink RX6 46 "TypoSuggesterModel" "count" "I", .fieldLink RX6 16 "TypoSuggesterModel" "sizes" "[I", .fieldLink RX6 13 "TypoSuggesterModel" "letters" "[B"] ++ wsX60)
def wsJ9_max_f86c9 : List Cond := .code yJ9_max_f86c9 cJ9_max_f86c9 4 (some .long) :: ([])
def wsJ9_min_7cf53 : List Cond := .code yJ9_min_7cf53 cJ9_min_7cf53 2 (some .int) :: ([])
def wsJ9_min_f86c9 : List Cond := .code yJ9_min_f86c9 cJ9_min_f86c9 4 (some .long) :: ([])
abbrev vwCl : List vw_C := [(RX0, TX0, 4), (RX1, TX1, 1), (RX2, TX2, 6), (RX3, TX3, 2), (RX4, TX4, 2), (RX5, TX5, 5), (RX6, TX6, 15)]
end
section
theorem dX0_init_0 : decode cX0_init 0 = .ok (.aload_n 0, 1) := by decide +kernel
theorem dX0_init_1 : decode cX0_init 1 = .ok (.invokespecial 3, 3) := by decide +kernel
theorem dX0_init_4 : decode cX0_init 4 = .ok (.aload_n 0, 1) := by decide +kernel
theorem dX0_init_5 : decode cX0_init 5 = .ok (.sipush 6000, 3) := by decide +kernel
theorem dX0_init_8 : decode cX0_init 8 = .ok (.newarray .byte, 2) := by decide +kernel
theorem dX0_init_10 : decode cX0_init 10 = .ok (.putfield 9, 3) := by decide +kernel
theorem dX0_init_13 : decode cX0_init 13 = .ok (.aload_n 0, 1) := by decide +kernel
theorem dX0_init_14 : decode cX0_init 14 = .ok (.sipush 601, 3) := by decide +kernel
theorem dX0_init_17 : decode cX0_init 17 = .ok (.newarray .int, 2) := by decide +kernel
theorem dX0_init_19 : decode cX0_init 19 = .ok (.putfield 15, 3) := by decide +kernel
theorem dX0_init_22 : decode cX0_init 22 = .ok (.aload_n 0, 1) := by decide +kernel
theorem dX0_init_23 : decode cX0_init 23 = .ok (.sipush 600, 3) := by decide +kernel
theorem dX0_init_26 : decode cX0_init 26 = .ok (.newarray .long, 2) := by decide +kernel
theorem dX0_init_28 : decode cX0_init 28 = .ok (.putfield 19, 3) := by decide +kernel
theorem dX0_init_31 : decode cX0_init 31 = .ok (.return_, 1) := by decide +kernel
theorem dX0_size_0 : decode cX0_size 0 = .ok (.aload_n 0, 1) := by decide +kernel
theorem dX0_size_1 : decode cX0_size 1 = .ok (.getfield 15, 3) := by decide +kernel
theorem dX0_size_4 : decode cX0_size 4 = .ok (.aload_n 0, 1) := by decide +kernel
theorem dX0_size_5 : decode cX0_size 5 = .ok (.getfield 23, 3) := by decide +kernel
theorem dX0_size_8 : decode cX0_size 8 = .ok (.iaload, 1) := by decide +kernel
theorem dX0_size_9 : decode cX0_size 9 = .ok (.ireturn, 1) := by decide +kernel
theorem dX0_lengthOf_0 : decode cX0_lengthOf 0 = .ok (.aload_n 0, 1) := by decide +kernel
theorem dX0_lengthOf_1 : decode cX0_lengthOf 1 = .ok (.getfield 15, 3) := by decide +kernel
theorem dX0_lengthOf_4 : decode cX0_lengthOf 4 = .ok (.iload_n 1, 1) := by decide +kernel
theorem dX0_lengthOf_5 : decode cX0_lengthOf 5 = .ok (.iconst 1, 1) := by decide +kernel
theorem dX0_lengthOf_6 : decode cX0_lengthOf 6 = .ok (.iadd, 1) := by decide +kernel
theorem dX0_lengthOf_7 : decode cX0_lengthOf 7 = .ok (.iaload, 1) := by decide +kernel
theorem dX0_lengthOf_8 : decode cX0_lengthOf 8 = .ok (.aload_n 0, 1) := by decide +kernel
theorem dX0_lengthOf_9 : decode cX0_lengthOf 9 = .ok (.getfield 15, 3) := by decide +kernel
theorem dX0_lengthOf_12 : decode cX0_lengthOf 12 = .ok (.iload_n 1, 1) := by decide +kernel
theorem dX0_lengthOf_13 : decode cX0_lengthOf 13 = .ok (.iaload, 1) := by decide +kernel
theorem dX0_lengthOf_14 : decode cX0_lengthOf 14 = .ok (.isub, 1) := by decide +kernel
theorem dX0_lengthOf_15 : decode cX0_lengthOf 15 = .ok (.ireturn, 1) := by decide +kernel
set_option maxRecDepth 20000 in
theorem ggX0_letterOf_X0_lengthOf : GoodIn wsX0_letterOf wsX0_lengthOf := goodIn_r _ [8, 3, 9, 10, 11, 12] (by decide +kernel) (by decide +kernel)
set_option maxRecDepth 20000 in
theorem gX0_letterOf_X0_lengthOf : GoodIn wsX0_letterOf (wsV RX0 27 RX0 yX0_lengthOf wsX0_lengthOf) := goodIn_app (goodIn_of _ (by decide +kernel)) ggX0_letterOf_X0_lengthOf
theorem dX0_letterOf_0 : decode cX0_letterOf 0 = .ok (.iload_n 1, 1) := by decide +kernel
theorem dX0_letterOf_1 : decode cX0_letterOf 1 = .ok (.ifCond .lt 24, 3) := by decide +kernel
theorem dX0_letterOf_4 : decode cX0_letterOf 4 = .ok (.iload_n 1, 1) := by decide +kernel
theorem dX0_letterOf_5 : decode cX0_letterOf 5 = .ok (.aload_n 0, 1) := by decide +kernel
theorem dX0_letterOf_6 : decode cX0_letterOf 6 = .ok (.getfield 23, 3) := by decide +kernel
theorem dX0_letterOf_9 : decode cX0_letterOf 9 = .ok (.if_icmp .ge 16, 3) := by decide +kernel
theorem dX0_letterOf_12 : decode cX0_letterOf 12 = .ok (.iload_n 2, 1) := by decide +kernel
theorem dX0_letterOf_13 : decode cX0_letterOf 13 = .ok (.ifCond .lt 12, 3) := by decide +kernel
theorem dX0_letterOf_16 : decode cX0_letterOf 16 = .ok (.iload_n 2, 1) := by decide +kernel
theorem dX0_letterOf_17 : decode cX0_letterOf 17 = .ok (.aload_n 0, 1) := by decide +kernel
theorem dX0_letterOf_18 : decode cX0_letterOf 18 = .ok (.iload_n 1, 1) := by decide +kernel
theorem dX0_letterOf_19 : decode cX0_letterOf 19 = .ok (.invokevirtual 27, 3) := by decide +kernel
theorem dX0_letterOf_22 : decode cX0_letterOf 22 = .ok (.if_icmp .lt 5, 3) := by decide +kernel
theorem dX0_letterOf_25 : decode cX0_letterOf 25 = .ok (.iconst (-1), 1) := by decide +kernel
theorem dX0_letterOf_26 : decode cX0_letterOf 26 = .ok (.ireturn, 1) := by decide +kernel
theorem dX0_letterOf_27 : decode cX0_letterOf 27 = .ok (.aload_n 0, 1) := by decide +kernel
theorem dX0_letterOf_28 : decode cX0_letterOf 28 = .ok (.getfield 9, 3) := by decide +kernel
theorem dX0_letterOf_31 : decode cX0_letterOf 31 = .ok (.aload_n 0, 1) := by decide +kernel
theorem dX0_letterOf_32 : decode cX0_letterOf 32 = .ok (.getfield 15, 3) := by decide +kernel
theorem dX0_letterOf_35 : decode cX0_letterOf 35 = .ok (.iload_n 1, 1) := by decide +kernel
theorem dX0_letterOf_36 : decode cX0_letterOf 36 = .ok (.iaload, 1) := by decide +kernel
theorem dX0_letterOf_37 : decode cX0_letterOf 37 = .ok (.iload_n 2, 1) := by decide +kernel
theorem dX0_letterOf_38 : decode cX0_letterOf 38 = .ok (.iadd, 1) := by decide +kernel
theorem dX0_letterOf_39 : decode cX0_letterOf 39 = .ok (.baload, 1) := by decide +kernel
theorem dX0_letterOf_40 : decode cX0_letterOf 40 = .ok (.ireturn, 1) := by decide +kernel
set_option maxRecDepth 20000 in
theorem ggX0_placeOf_X0_goesBefore : GoodIn wsX0_placeOf wsX0_goesBefore := goodIn_r _ [6, 7, 8, 9, 10, 11, 12, 13, 5, 14, 15, 16, 17, 18, 19, 20, 21, 22, 27, 28, 23, 24, 25, 26] (by decide +kernel) (by decide +kernel)
set_option maxRecDepth 20000 in
theorem gX0_placeOf_X0_goesBefore : GoodIn wsX0_placeOf (wsV RX0 31 RX0 yX0_goesBefore wsX0_goesBefore) := goodIn_app (goodIn_of _ (by decide +kernel)) ggX0_placeOf_X0_goesBefore
theorem dX0_placeOf_0 : decode cX0_placeOf 0 = .ok (.iconst 0, 1) := by decide +kernel
theorem dX0_placeOf_1 : decode cX0_placeOf 1 = .ok (.istore_n 2, 1) := by decide +kernel
theorem dX0_placeOf_2 : decode cX0_placeOf 2 = .ok (.aload_n 0, 1) := by decide +kernel
theorem dX0_placeOf_3 : decode cX0_placeOf 3 = .ok (.getfield 23, 3) := by decide +kernel
theorem dX0_placeOf_6 : decode cX0_placeOf 6 = .ok (.istore_n 3, 1) := by decide +kernel
theorem dX0_placeOf_7 : decode cX0_placeOf 7 = .ok (.iload_n 2, 1) := by decide +kernel
theorem dX0_placeOf_8 : decode cX0_placeOf 8 = .ok (.iload_n 3, 1) := by decide +kernel
theorem dX0_placeOf_9 : decode cX0_placeOf 9 = .ok (.if_icmp .ge 34, 3) := by decide +kernel
theorem dX0_placeOf_12 : decode cX0_placeOf 12 = .ok (.iload_n 2, 1) := by decide +kernel
theorem dX0_placeOf_13 : decode cX0_placeOf 13 = .ok (.iload_n 3, 1) := by decide +kernel
theorem dX0_placeOf_14 : decode cX0_placeOf 14 = .ok (.iadd, 1) := by decide +kernel
theorem dX0_placeOf_15 : decode cX0_placeOf 15 = .ok (.iconst 2, 1) := by decide +kernel
theorem dX0_placeOf_16 : decode cX0_placeOf 16 = .ok (.idiv, 1) := by decide +kernel
theorem dX0_placeOf_17 : decode cX0_placeOf 17 = .ok (.istore 4, 2) := by decide +kernel
theorem dX0_placeOf_19 : decode cX0_placeOf 19 = .ok (.aload_n 0, 1) := by decide +kernel
theorem dX0_placeOf_20 : decode cX0_placeOf 20 = .ok (.iload 4, 2) := by decide +kernel
theorem dX0_placeOf_22 : decode cX0_placeOf 22 = .ok (.aload_n 1, 1) := by decide +kernel
theorem dX0_placeOf_23 : decode cX0_placeOf 23 = .ok (.invokevirtual 31, 3) := by decide +kernel
theorem dX0_placeOf_26 : decode cX0_placeOf 26 = .ok (.ifCond .eq 11, 3) := by decide +kernel
theorem dX0_placeOf_29 : decode cX0_placeOf 29 = .ok (.iload 4, 2) := by decide +kernel
theorem dX0_placeOf_31 : decode cX0_placeOf 31 = .ok (.iconst 1, 1) := by decide +kernel
theorem dX0_placeOf_32 : decode cX0_placeOf 32 = .ok (.iadd, 1) := by decide +kernel
theorem dX0_placeOf_33 : decode cX0_placeOf 33 = .ok (.istore_n 2, 1) := by decide +kernel
theorem dX0_placeOf_34 : decode cX0_placeOf 34 = .ok (.goto 6, 3) := by decide +kernel
theorem dX0_placeOf_37 : decode cX0_placeOf 37 = .ok (.iload 4, 2) := by decide +kernel
theorem dX0_placeOf_39 : decode cX0_placeOf 39 = .ok (.istore_n 3, 1) := by decide +kernel
theorem dX0_placeOf_40 : decode cX0_placeOf 40 = .ok (.goto (-33), 3) := by decide +kernel
theorem dX0_placeOf_43 : decode cX0_placeOf 43 = .ok (.iload_n 2, 1) := by decide +kernel
theorem dX0_placeOf_44 : decode cX0_placeOf 44 = .ok (.ireturn, 1) := by decide +kernel
set_option maxRecDepth 20000 in
theorem ggX0_goesBefore_X0_sharedWith : GoodIn wsX0_goesBefore wsX0_sharedWith := goodIn_r _ [9, 1, 10, 11, 12, 13, 2, 3, 4, 14, 15, 16, 8, 17, 18, 19, 20, 21, 22, 23] (by decide +kernel) (by decide +kernel)
set_option maxRecDepth 20000 in
theorem gX0_goesBefore_X0_sharedWith : GoodIn wsX0_goesBefore (wsV RX0 35 RX0 yX0_sharedWith wsX0_sharedWith) := goodIn_app (goodIn_of _ (by decide +kernel)) ggX0_goesBefore_X0_sharedWith
set_option maxRecDepth 20000 in
theorem ggX0_goesBefore_X0_lengthOf : GoodIn wsX0_goesBefore wsX0_lengthOf := goodIn_r _ [17, 3, 20, 21, 22, 23] (by decide +kernel) (by decide +kernel)
set_option maxRecDepth 20000 in
theorem gX0_goesBefore_X0_lengthOf : GoodIn wsX0_goesBefore (wsV RX0 27 RX0 yX0_lengthOf wsX0_lengthOf) := goodIn_app (goodIn_of _ (by decide +kernel)) ggX0_goesBefore_X0_lengthOf
theorem dX0_goesBefore_0 : decode cX0_goesBefore 0 = .ok (.aload_n 0, 1) := by decide +kernel
theorem dX0_goesBefore_1 : decode cX0_goesBefore 1 = .ok (.iload_n 1, 1) := by decide +kernel
theorem dX0_goesBefore_2 : decode cX0_goesBefore 2 = .ok (.aload_n 2, 1) := by decide +kernel
theorem dX0_goesBefore_3 : decode cX0_goesBefore 3 = .ok (.invokevirtual 35, 3) := by decide +kernel
theorem dX0_goesBefore_6 : decode cX0_goesBefore 6 = .ok (.istore_n 3, 1) := by decide +kernel
theorem dX0_goesBefore_7 : decode cX0_goesBefore 7 = .ok (.iload_n 3, 1) := by decide +kernel
theorem dX0_goesBefore_8 : decode cX0_goesBefore 8 = .ok (.aload_n 2, 1) := by decide +kernel
theorem dX0_goesBefore_9 : decode cX0_goesBefore 9 = .ok (.getfield 39, 3) := by decide +kernel
theorem dX0_goesBefore_12 : decode cX0_goesBefore 12 = .ok (.if_icmp .ne 5, 3) := by decide +kernel
theorem dX0_goesBefore_15 : decode cX0_goesBefore 15 = .ok (.iconst 0, 1) := by decide +kernel
theorem dX0_goesBefore_16 : decode cX0_goesBefore 16 = .ok (.ireturn, 1) := by decide +kernel
theorem dX0_goesBefore_17 : decode cX0_goesBefore 17 = .ok (.iload_n 3, 1) := by decide +kernel
theorem dX0_goesBefore_18 : decode cX0_goesBefore 18 = .ok (.aload_n 0, 1) := by decide +kernel
theorem dX0_goesBefore_19 : decode cX0_goesBefore 19 = .ok (.iload_n 1, 1) := by decide +kernel
theorem dX0_goesBefore_20 : decode cX0_goesBefore 20 = .ok (.invokevirtual 27, 3) := by decide +kernel
theorem dX0_goesBefore_23 : decode cX0_goesBefore 23 = .ok (.if_icmp .eq 25, 3) := by decide +kernel
theorem dX0_goesBefore_26 : decode cX0_goesBefore 26 = .ok (.aload_n 0, 1) := by decide +kernel
theorem dX0_goesBefore_27 : decode cX0_goesBefore 27 = .ok (.getfield 9, 3) := by decide +kernel
theorem dX0_goesBefore_30 : decode cX0_goesBefore 30 = .ok (.aload_n 0, 1) := by decide +kernel
theorem dX0_goesBefore_31 : decode cX0_goesBefore 31 = .ok (.getfield 15, 3) := by decide +kernel
theorem dX0_goesBefore_34 : decode cX0_goesBefore 34 = .ok (.iload_n 1, 1) := by decide +kernel
theorem dX0_goesBefore_35 : decode cX0_goesBefore 35 = .ok (.iaload, 1) := by decide +kernel
theorem dX0_goesBefore_36 : decode cX0_goesBefore 36 = .ok (.iload_n 3, 1) := by decide +kernel
theorem dX0_goesBefore_37 : decode cX0_goesBefore 37 = .ok (.iadd, 1) := by decide +kernel
theorem dX0_goesBefore_38 : decode cX0_goesBefore 38 = .ok (.baload, 1) := by decide +kernel
theorem dX0_goesBefore_39 : decode cX0_goesBefore 39 = .ok (.aload_n 2, 1) := by decide +kernel
theorem dX0_goesBefore_40 : decode cX0_goesBefore 40 = .ok (.getfield 44, 3) := by decide +kernel
theorem dX0_goesBefore_43 : decode cX0_goesBefore 43 = .ok (.iload_n 3, 1) := by decide +kernel
theorem dX0_goesBefore_44 : decode cX0_goesBefore 44 = .ok (.baload, 1) := by decide +kernel
theorem dX0_goesBefore_45 : decode cX0_goesBefore 45 = .ok (.if_icmp .ge 7, 3) := by decide +kernel
theorem dX0_goesBefore_48 : decode cX0_goesBefore 48 = .ok (.iconst 1, 1) := by decide +kernel
theorem dX0_goesBefore_49 : decode cX0_goesBefore 49 = .ok (.goto 4, 3) := by decide +kernel
theorem dX0_goesBefore_52 : decode cX0_goesBefore 52 = .ok (.iconst 0, 1) := by decide +kernel
theorem dX0_goesBefore_53 : decode cX0_goesBefore 53 = .ok (.ireturn, 1) := by decide +kernel
set_option maxRecDepth 20000 in
theorem ggX0_beginsWith_X0_sharedWith : GoodIn wsX0_beginsWith wsX0_sharedWith := goodIn_r _ [6, 1, 7, 8, 9, 10, 11, 12, 13, 14, 15, 16, 5, 17, 18, 19, 20, 21, 22, 23] (by decide +kernel) (by decide +kernel)
set_option maxRecDepth 20000 in
theorem gX0_beginsWith_X0_sharedWith : GoodIn wsX0_beginsWith (wsV RX0 35 RX0 yX0_sharedWith wsX0_sharedWith) := goodIn_app (goodIn_of _ (by decide +kernel)) ggX0_beginsWith_X0_sharedWith
theorem dX0_beginsWith_0 : decode cX0_beginsWith 0 = .ok (.aload_n 0, 1) := by decide +kernel
theorem dX0_beginsWith_1 : decode cX0_beginsWith 1 = .ok (.iload_n 1, 1) := by decide +kernel
theorem dX0_beginsWith_2 : decode cX0_beginsWith 2 = .ok (.aload_n 2, 1) := by decide +kernel
theorem dX0_beginsWith_3 : decode cX0_beginsWith 3 = .ok (.invokevirtual 35, 3) := by decide +kernel
theorem dX0_beginsWith_6 : decode cX0_beginsWith 6 = .ok (.aload_n 2, 1) := by decide +kernel
theorem dX0_beginsWith_7 : decode cX0_beginsWith 7 = .ok (.getfield 39, 3) := by decide +kernel
theorem dX0_beginsWith_10 : decode cX0_beginsWith 10 = .ok (.if_icmp .ne 7, 3) := by decide +kernel
theorem dX0_beginsWith_13 : decode cX0_beginsWith 13 = .ok (.iconst 1, 1) := by decide +kernel
theorem dX0_beginsWith_14 : decode cX0_beginsWith 14 = .ok (.goto 4, 3) := by decide +kernel
theorem dX0_beginsWith_17 : decode cX0_beginsWith 17 = .ok (.iconst 0, 1) := by decide +kernel
theorem dX0_beginsWith_18 : decode cX0_beginsWith 18 = .ok (.ireturn, 1) := by decide +kernel
set_option maxRecDepth 20000 in
theorem ggX0_standsAt_X0_lengthOf : GoodIn wsX0_standsAt wsX0_lengthOf := goodIn_r _ [7, 8, 23, 24, 25, 26] (by decide +kernel) (by decide +kernel)
set_option maxRecDepth 20000 in
theorem gX0_standsAt_X0_lengthOf : GoodIn wsX0_standsAt (wsV RX0 27 RX0 yX0_lengthOf wsX0_lengthOf) := goodIn_app (goodIn_of _ (by decide +kernel)) ggX0_standsAt_X0_lengthOf
set_option maxRecDepth 20000 in
theorem ggX0_standsAt_X0_beginsWith : GoodIn wsX0_standsAt wsX0_beginsWith := goodIn_r _ [12, 2, 13, 14, 15, 6, 16, 17, 18, 19, 20, 21, 8, 22, 3, 4, 5, 7, 27, 28, 23, 24, 25, 26] (by decide +kernel) (by decide +kernel)
set_option maxRecDepth 20000 in
theorem gX0_standsAt_X0_beginsWith : GoodIn wsX0_standsAt (wsV RX0 45 RX0 yX0_beginsWith wsX0_beginsWith) := goodIn_app (goodIn_of _ (by decide +kernel)) ggX0_standsAt_X0_beginsWith
theorem dX0_standsAt_0 : decode cX0_standsAt 0 = .ok (.iload_n 1, 1) := by decide +kernel
theorem dX0_standsAt_1 : decode cX0_standsAt 1 = .ok (.aload_n 0, 1) := by decide +kernel
theorem dX0_standsAt_2 : decode cX0_standsAt 2 = .ok (.getfield 23, 3) := by decide +kernel
theorem dX0_standsAt_5 : decode cX0_standsAt 5 = .ok (.if_icmp .ge 28, 3) := by decide +kernel
theorem dX0_standsAt_8 : decode cX0_standsAt 8 = .ok (.aload_n 0, 1) := by decide +kernel
theorem dX0_standsAt_9 : decode cX0_standsAt 9 = .ok (.iload_n 1, 1) := by decide +kernel
theorem dX0_standsAt_10 : decode cX0_standsAt 10 = .ok (.invokevirtual 27, 3) := by decide +kernel
theorem dX0_standsAt_13 : decode cX0_standsAt 13 = .ok (.aload_n 2, 1) := by decide +kernel
theorem dX0_standsAt_14 : decode cX0_standsAt 14 = .ok (.getfield 39, 3) := by decide +kernel
theorem dX0_standsAt_17 : decode cX0_standsAt 17 = .ok (.if_icmp .ne 16, 3) := by decide +kernel
theorem dX0_standsAt_20 : decode cX0_standsAt 20 = .ok (.aload_n 0, 1) := by decide +kernel
theorem dX0_standsAt_21 : decode cX0_standsAt 21 = .ok (.iload_n 1, 1) := by decide +kernel
theorem dX0_standsAt_22 : decode cX0_standsAt 22 = .ok (.aload_n 2, 1) := by decide +kernel
theorem dX0_standsAt_23 : decode cX0_standsAt 23 = .ok (.invokevirtual 45, 3) := by decide +kernel
theorem dX0_standsAt_26 : decode cX0_standsAt 26 = .ok (.ifCond .eq 7, 3) := by decide +kernel
theorem dX0_standsAt_29 : decode cX0_standsAt 29 = .ok (.iconst 1, 1) := by decide +kernel
theorem dX0_standsAt_30 : decode cX0_standsAt 30 = .ok (.goto 4, 3) := by decide +kernel
theorem dX0_standsAt_33 : decode cX0_standsAt 33 = .ok (.iconst 0, 1) := by decide +kernel
theorem dX0_standsAt_34 : decode cX0_standsAt 34 = .ok (.ireturn, 1) := by decide +kernel
set_option maxRecDepth 20000 in
theorem ggX0_sharedWith_X0_lengthOf : GoodIn wsX0_sharedWith wsX0_lengthOf := goodIn_r _ [13, 7, 16, 17, 18, 19] (by decide +kernel) (by decide +kernel)
set_option maxRecDepth 20000 in
theorem gX0_sharedWith_X0_lengthOf : GoodIn wsX0_sharedWith (wsV RX0 27 RX0 yX0_lengthOf wsX0_lengthOf) := goodIn_app (goodIn_of _ (by decide +kernel)) ggX0_sharedWith_X0_lengthOf
theorem dX0_sharedWith_0 : decode cX0_sharedWith 0 = .ok (.aload_n 0, 1) := by decide +kernel
theorem dX0_sharedWith_1 : decode cX0_sharedWith 1 = .ok (.iload_n 1, 1) := by decide +kernel
theorem dX0_sharedWith_2 : decode cX0_sharedWith 2 = .ok (.invokevirtual 27, 3) := by decide +kernel
theorem dX0_sharedWith_5 : decode cX0_sharedWith 5 = .ok (.aload_n 2, 1) := by decide +kernel
theorem dX0_sharedWith_6 : decode cX0_sharedWith 6 = .ok (.getfield 39, 3) := by decide +kernel
theorem dX0_sharedWith_9 : decode cX0_sharedWith 9 = .ok (.invokestatic 48, 3) := by decide +kernel
theorem dX0_sharedWith_12 : decode cX0_sharedWith 12 = .ok (.istore_n 3, 1) := by decide +kernel
theorem dX0_sharedWith_13 : decode cX0_sharedWith 13 = .ok (.iconst 0, 1) := by decide +kernel
theorem dX0_sharedWith_14 : decode cX0_sharedWith 14 = .ok (.istore 4, 2) := by decide +kernel
theorem dX0_sharedWith_16 : decode cX0_sharedWith 16 = .ok (.iload 4, 2) := by decide +kernel
theorem dX0_sharedWith_18 : decode cX0_sharedWith 18 = .ok (.iload_n 3, 1) := by decide +kernel
theorem dX0_sharedWith_19 : decode cX0_sharedWith 19 = .ok (.if_icmp .ge 33, 3) := by decide +kernel
theorem dX0_sharedWith_22 : decode cX0_sharedWith 22 = .ok (.aload_n 0, 1) := by decide +kernel
theorem dX0_sharedWith_23 : decode cX0_sharedWith 23 = .ok (.getfield 9, 3) := by decide +kernel
theorem dX0_sharedWith_26 : decode cX0_sharedWith 26 = .ok (.aload_n 0, 1) := by decide +kernel
theorem dX0_sharedWith_27 : decode cX0_sharedWith 27 = .ok (.getfield 15, 3) := by decide +kernel
theorem dX0_sharedWith_30 : decode cX0_sharedWith 30 = .ok (.iload_n 1, 1) := by decide +kernel
theorem dX0_sharedWith_31 : decode cX0_sharedWith 31 = .ok (.iaload, 1) := by decide +kernel
theorem dX0_sharedWith_32 : decode cX0_sharedWith 32 = .ok (.iload 4, 2) := by decide +kernel
theorem dX0_sharedWith_34 : decode cX0_sharedWith 34 = .ok (.iadd, 1) := by decide +kernel
theorem dX0_sharedWith_35 : decode cX0_sharedWith 35 = .ok (.baload, 1) := by decide +kernel
theorem dX0_sharedWith_36 : decode cX0_sharedWith 36 = .ok (.aload_n 2, 1) := by decide +kernel
theorem dX0_sharedWith_37 : decode cX0_sharedWith 37 = .ok (.getfield 44, 3) := by decide +kernel
theorem dX0_sharedWith_40 : decode cX0_sharedWith 40 = .ok (.iload 4, 2) := by decide +kernel
theorem dX0_sharedWith_42 : decode cX0_sharedWith 42 = .ok (.baload, 1) := by decide +kernel
theorem dX0_sharedWith_43 : decode cX0_sharedWith 43 = .ok (.if_icmp .ne 9, 3) := by decide +kernel
theorem dX0_sharedWith_46 : decode cX0_sharedWith 46 = .ok (.iinc 4 1, 3) := by decide +kernel
theorem dX0_sharedWith_49 : decode cX0_sharedWith 49 = .ok (.goto (-33), 3) := by decide +kernel
theorem dX0_sharedWith_52 : decode cX0_sharedWith 52 = .ok (.iload 4, 2) := by decide +kernel
theorem dX0_sharedWith_54 : decode cX0_sharedWith 54 = .ok (.ireturn, 1) := by decide +kernel
set_option maxRecDepth 20000 in
theorem ggX0_sharedWithNext_X0_lengthOf : GoodIn wsX0_sharedWithNext wsX0_lengthOf := goodIn_r _ [11, 6, 12, 13, 14, 15] (by decide +kernel) (by decide +kernel)
set_option maxRecDepth 20000 in
theorem gX0_sharedWithNext_X0_lengthOf : GoodIn wsX0_sharedWithNext (wsV RX0 27 RX0 yX0_lengthOf wsX0_lengthOf) := goodIn_app (goodIn_of _ (by decide +kernel)) ggX0_sharedWithNext_X0_lengthOf
theorem dX0_sharedWithNext_0 : decode cX0_sharedWithNext 0 = .ok (.aload_n 0, 1) := by decide +kernel
theorem dX0_sharedWithNext_1 : decode cX0_sharedWithNext 1 = .ok (.iload_n 1, 1) := by decide +kernel
theorem dX0_sharedWithNext_2 : decode cX0_sharedWithNext 2 = .ok (.invokevirtual 27, 3) := by decide +kernel
theorem dX0_sharedWithNext_5 : decode cX0_sharedWithNext 5 = .ok (.aload_n 0, 1) := by decide +kernel
theorem dX0_sharedWithNext_6 : decode cX0_sharedWithNext 6 = .ok (.iload_n 1, 1) := by decide +kernel
theorem dX0_sharedWithNext_7 : decode cX0_sharedWithNext 7 = .ok (.iconst 1, 1) := by decide +kernel
theorem dX0_sharedWithNext_8 : decode cX0_sharedWithNext 8 = .ok (.iadd, 1) := by decide +kernel
theorem dX0_sharedWithNext_9 : decode cX0_sharedWithNext 9 = .ok (.invokevirtual 27, 3) := by decide +kernel
theorem dX0_sharedWithNext_12 : decode cX0_sharedWithNext 12 = .ok (.invokestatic 48, 3) := by decide +kernel
theorem dX0_sharedWithNext_15 : decode cX0_sharedWithNext 15 = .ok (.istore_n 2, 1) := by decide +kernel
theorem dX0_sharedWithNext_16 : decode cX0_sharedWithNext 16 = .ok (.iconst 0, 1) := by decide +kernel
theorem dX0_sharedWithNext_17 : decode cX0_sharedWithNext 17 = .ok (.istore_n 3, 1) := by decide +kernel
theorem dX0_sharedWithNext_18 : decode cX0_sharedWithNext 18 = .ok (.iload_n 3, 1) := by decide +kernel
theorem dX0_sharedWithNext_19 : decode cX0_sharedWithNext 19 = .ok (.iload_n 2, 1) := by decide +kernel
theorem dX0_sharedWithNext_20 : decode cX0_sharedWithNext 20 = .ok (.if_icmp .ge 40, 3) := by decide +kernel
theorem dX0_sharedWithNext_23 : decode cX0_sharedWithNext 23 = .ok (.aload_n 0, 1) := by decide +kernel
theorem dX0_sharedWithNext_24 : decode cX0_sharedWithNext 24 = .ok (.getfield 9, 3) := by decide +kernel
theorem dX0_sharedWithNext_27 : decode cX0_sharedWithNext 27 = .ok (.aload_n 0, 1) := by decide +kernel
theorem dX0_sharedWithNext_28 : decode cX0_sharedWithNext 28 = .ok (.getfield 15, 3) := by decide +kernel
theorem dX0_sharedWithNext_31 : decode cX0_sharedWithNext 31 = .ok (.iload_n 1, 1) := by decide +kernel
theorem dX0_sharedWithNext_32 : decode cX0_sharedWithNext 32 = .ok (.iaload, 1) := by decide +kernel
theorem dX0_sharedWithNext_33 : decode cX0_sharedWithNext 33 = .ok (.iload_n 3, 1) := by decide +kernel
theorem dX0_sharedWithNext_34 : decode cX0_sharedWithNext 34 = .ok (.iadd, 1) := by decide +kernel
theorem dX0_sharedWithNext_35 : decode cX0_sharedWithNext 35 = .ok (.baload, 1) := by decide +kernel
theorem dX0_sharedWithNext_36 : decode cX0_sharedWithNext 36 = .ok (.aload_n 0, 1) := by decide +kernel
theorem dX0_sharedWithNext_37 : decode cX0_sharedWithNext 37 = .ok (.getfield 9, 3) := by decide +kernel
theorem dX0_sharedWithNext_40 : decode cX0_sharedWithNext 40 = .ok (.aload_n 0, 1) := by decide +kernel
theorem dX0_sharedWithNext_41 : decode cX0_sharedWithNext 41 = .ok (.getfield 15, 3) := by decide +kernel
theorem dX0_sharedWithNext_44 : decode cX0_sharedWithNext 44 = .ok (.iload_n 1, 1) := by decide +kernel
theorem dX0_sharedWithNext_45 : decode cX0_sharedWithNext 45 = .ok (.iconst 1, 1) := by decide +kernel
theorem dX0_sharedWithNext_46 : decode cX0_sharedWithNext 46 = .ok (.iadd, 1) := by decide +kernel
theorem dX0_sharedWithNext_47 : decode cX0_sharedWithNext 47 = .ok (.iaload, 1) := by decide +kernel
theorem dX0_sharedWithNext_48 : decode cX0_sharedWithNext 48 = .ok (.iload_n 3, 1) := by decide +kernel
theorem dX0_sharedWithNext_49 : decode cX0_sharedWithNext 49 = .ok (.iadd, 1) := by decide +kernel
theorem dX0_sharedWithNext_50 : decode cX0_sharedWithNext 50 = .ok (.baload, 1) := by decide +kernel
theorem dX0_sharedWithNext_51 : decode cX0_sharedWithNext 51 = .ok (.if_icmp .ne 9, 3) := by decide +kernel
theorem dX0_sharedWithNext_54 : decode cX0_sharedWithNext 54 = .ok (.iinc 3 1, 3) := by decide +kernel
theorem dX0_sharedWithNext_57 : decode cX0_sharedWithNext 57 = .ok (.goto (-39), 3) := by decide +kernel
theorem dX0_sharedWithNext_60 : decode cX0_sharedWithNext 60 = .ok (.iload_n 3, 1) := by decide +kernel
theorem dX0_sharedWithNext_61 : decode cX0_sharedWithNext 61 = .ok (.ireturn, 1) := by decide +kernel
set_option maxRecDepth 20000 in
theorem ggX0_grow_X0_placeOf : GoodIn wsX0_grow wsX0_placeOf := goodIn_r _ [11, 12, 13, 14, 15, 10, 16, 17, 18, 19, 20, 21, 22, 23, 24, 25, 26, 5, 27, 28, 29, 30, 31, 52, 53, 54, 55, 56, 57] (by decide +kernel) (by decide +kernel)
set_option maxRecDepth 20000 in
theorem gX0_grow_X0_placeOf : GoodIn wsX0_grow (wsV RX0 54 RX0 yX0_placeOf wsX0_placeOf) := goodIn_app (goodIn_of _ (by decide +kernel)) ggX0_grow_X0_placeOf
set_option maxRecDepth 20000 in
theorem ggX0_grow_X0_standsAt : GoodIn wsX0_grow wsX0_standsAt := goodIn_r _ [35, 12, 17, 28, 29, 30, 10, 31, 19, 36, 37, 38, 39, 21, 22, 23, 24, 25, 26, 5, 27, 18, 20, 52, 53, 54, 55, 56, 57] (by decide +kernel) (by decide +kernel)
set_option maxRecDepth 20000 in
theorem gX0_grow_X0_standsAt : GoodIn wsX0_grow (wsV RX0 58 RX0 yX0_standsAt wsX0_standsAt) := goodIn_app (goodIn_of _ (by decide +kernel)) ggX0_grow_X0_standsAt
set_option maxRecDepth 20000 in
theorem ggX0_grow_X0_insert : GoodIn wsX0_grow wsX0_insert := goodIn_r _ [43, 12, 17, 19, 18, 44, 45, 46, 47, 20, 1, 48, 49, 50, 10, 51, 52, 53, 54, 55, 56, 57] (by decide +kernel) (by decide +kernel)
set_option maxRecDepth 20000 in
theorem gX0_grow_X0_insert : GoodIn wsX0_grow (wsV RX0 66 RX0 yX0_insert wsX0_insert) := goodIn_app (goodIn_of _ (by decide +kernel)) ggX0_grow_X0_insert
theorem dX0_grow_0 : decode cX0_grow 0 = .ok (.aload_n 0, 1) := by decide +kernel
theorem dX0_grow_1 : decode cX0_grow 1 = .ok (.aload_n 1, 1) := by decide +kernel
theorem dX0_grow_2 : decode cX0_grow 2 = .ok (.invokevirtual 54, 3) := by decide +kernel
theorem dX0_grow_5 : decode cX0_grow 5 = .ok (.istore_n 3, 1) := by decide +kernel
theorem dX0_grow_6 : decode cX0_grow 6 = .ok (.aload_n 0, 1) := by decide +kernel
theorem dX0_grow_7 : decode cX0_grow 7 = .ok (.iload_n 3, 1) := by decide +kernel
theorem dX0_grow_8 : decode cX0_grow 8 = .ok (.aload_n 1, 1) := by decide +kernel
theorem dX0_grow_9 : decode cX0_grow 9 = .ok (.invokevirtual 58, 3) := by decide +kernel
theorem dX0_grow_12 : decode cX0_grow 12 = .ok (.ifCond .eq 26, 3) := by decide +kernel
theorem dX0_grow_15 : decode cX0_grow 15 = .ok (.aload_n 0, 1) := by decide +kernel
theorem dX0_grow_16 : decode cX0_grow 16 = .ok (.getfield 19, 3) := by decide +kernel
theorem dX0_grow_19 : decode cX0_grow 19 = .ok (.iload_n 3, 1) := by decide +kernel
theorem dX0_grow_20 : decode cX0_grow 20 = .ok (.aload_n 0, 1) := by decide +kernel
theorem dX0_grow_21 : decode cX0_grow 21 = .ok (.getfield 19, 3) := by decide +kernel
theorem dX0_grow_24 : decode cX0_grow 24 = .ok (.iload_n 3, 1) := by decide +kernel
theorem dX0_grow_25 : decode cX0_grow 25 = .ok (.laload, 1) := by decide +kernel
theorem dX0_grow_26 : decode cX0_grow 26 = .ok (.iload_n 2, 1) := by decide +kernel
theorem dX0_grow_27 : decode cX0_grow 27 = .ok (.i2l, 1) := by decide +kernel
theorem dX0_grow_28 : decode cX0_grow 28 = .ok (.ladd, 1) := by decide +kernel
theorem dX0_grow_29 : decode cX0_grow 29 = .ok (.ldc2_w 61, 3) := by decide +kernel
theorem dX0_grow_32 : decode cX0_grow 32 = .ok (.invokestatic 63, 3) := by decide +kernel
theorem dX0_grow_35 : decode cX0_grow 35 = .ok (.lastore, 1) := by decide +kernel
theorem dX0_grow_36 : decode cX0_grow 36 = .ok (.iconst 1, 1) := by decide +kernel
theorem dX0_grow_37 : decode cX0_grow 37 = .ok (.ireturn, 1) := by decide +kernel
theorem dX0_grow_38 : decode cX0_grow 38 = .ok (.aload_n 0, 1) := by decide +kernel
theorem dX0_grow_39 : decode cX0_grow 39 = .ok (.iload_n 3, 1) := by decide +kernel
theorem dX0_grow_40 : decode cX0_grow 40 = .ok (.aload_n 1, 1) := by decide +kernel
theorem dX0_grow_41 : decode cX0_grow 41 = .ok (.iload_n 2, 1) := by decide +kernel
theorem dX0_grow_42 : decode cX0_grow 42 = .ok (.i2l, 1) := by decide +kernel
theorem dX0_grow_43 : decode cX0_grow 43 = .ok (.invokevirtual 66, 3) := by decide +kernel
theorem dX0_grow_46 : decode cX0_grow 46 = .ok (.ireturn, 1) := by decide +kernel
set_option maxRecDepth 20000 in
theorem ggX0_insert_X0_size : GoodIn wsX0_insert wsX0_size := goodIn_r _ [15, 3, 1, 16, 17, 18, 19] (by decide +kernel) (by decide +kernel)
set_option maxRecDepth 20000 in
theorem gX0_insert_X0_size : GoodIn wsX0_insert (wsV RX0 70 RX0 yX0_size wsX0_size) := goodIn_app (goodIn_of _ (by decide +kernel)) ggX0_insert_X0_size
theorem dX0_insert_0 : decode cX0_insert 0 = .ok (.aload_n 0, 1) := by decide +kernel
theorem dX0_insert_1 : decode cX0_insert 1 = .ok (.getfield 23, 3) := by decide +kernel
theorem dX0_insert_4 : decode cX0_insert 4 = .ok (.sipush 600, 3) := by decide +kernel
theorem dX0_insert_7 : decode cX0_insert 7 = .ok (.if_icmp .ge 18, 3) := by decide +kernel
theorem dX0_insert_10 : decode cX0_insert 10 = .ok (.aload_n 0, 1) := by decide +kernel
theorem dX0_insert_11 : decode cX0_insert 11 = .ok (.invokevirtual 70, 3) := by decide +kernel
theorem dX0_insert_14 : decode cX0_insert 14 = .ok (.aload_n 2, 1) := by decide +kernel
theorem dX0_insert_15 : decode cX0_insert 15 = .ok (.getfield 39, 3) := by decide +kernel
theorem dX0_insert_18 : decode cX0_insert 18 = .ok (.iadd, 1) := by decide +kernel
theorem dX0_insert_19 : decode cX0_insert 19 = .ok (.sipush 6000, 3) := by decide +kernel
theorem dX0_insert_22 : decode cX0_insert 22 = .ok (.if_icmp .le 5, 3) := by decide +kernel
theorem dX0_insert_25 : decode cX0_insert 25 = .ok (.iconst 0, 1) := by decide +kernel
theorem dX0_insert_26 : decode cX0_insert 26 = .ok (.ireturn, 1) := by decide +kernel
theorem dX0_insert_27 : decode cX0_insert 27 = .ok (.aload_n 0, 1) := by decide +kernel
theorem dX0_insert_28 : decode cX0_insert 28 = .ok (.getfield 15, 3) := by decide +kernel
theorem dX0_insert_31 : decode cX0_insert 31 = .ok (.iload_n 1, 1) := by decide +kernel
theorem dX0_insert_32 : decode cX0_insert 32 = .ok (.iaload, 1) := by decide +kernel
theorem dX0_insert_33 : decode cX0_insert 33 = .ok (.istore 5, 2) := by decide +kernel
theorem dX0_insert_35 : decode cX0_insert 35 = .ok (.aload_n 0, 1) := by decide +kernel
theorem dX0_insert_36 : decode cX0_insert 36 = .ok (.getfield 9, 3) := by decide +kernel
theorem dX0_insert_39 : decode cX0_insert 39 = .ok (.iload 5, 2) := by decide +kernel
theorem dX0_insert_41 : decode cX0_insert 41 = .ok (.aload_n 0, 1) := by decide +kernel
theorem dX0_insert_42 : decode cX0_insert 42 = .ok (.getfield 9, 3) := by decide +kernel
theorem dX0_insert_45 : decode cX0_insert 45 = .ok (.iload 5, 2) := by decide +kernel
theorem dX0_insert_47 : decode cX0_insert 47 = .ok (.aload_n 2, 1) := by decide +kernel
theorem dX0_insert_48 : decode cX0_insert 48 = .ok (.getfield 39, 3) := by decide +kernel
theorem dX0_insert_51 : decode cX0_insert 51 = .ok (.iadd, 1) := by decide +kernel
theorem dX0_insert_52 : decode cX0_insert 52 = .ok (.aload_n 0, 1) := by decide +kernel
theorem dX0_insert_53 : decode cX0_insert 53 = .ok (.invokevirtual 70, 3) := by decide +kernel
theorem dX0_insert_56 : decode cX0_insert 56 = .ok (.iload 5, 2) := by decide +kernel
theorem dX0_insert_58 : decode cX0_insert 58 = .ok (.isub, 1) := by decide +kernel
theorem dX0_insert_59 : decode cX0_insert 59 = .ok (.invokestatic 74, 3) := by decide +kernel
theorem dX0_insert_62 : decode cX0_insert 62 = .ok (.aload_n 2, 1) := by decide +kernel
theorem dX0_insert_63 : decode cX0_insert 63 = .ok (.getfield 44, 3) := by decide +kernel
theorem dX0_insert_66 : decode cX0_insert 66 = .ok (.iconst 0, 1) := by decide +kernel
theorem dX0_insert_67 : decode cX0_insert 67 = .ok (.aload_n 0, 1) := by decide +kernel
theorem dX0_insert_68 : decode cX0_insert 68 = .ok (.getfield 9, 3) := by decide +kernel
theorem dX0_insert_71 : decode cX0_insert 71 = .ok (.iload 5, 2) := by decide +kernel
theorem dX0_insert_73 : decode cX0_insert 73 = .ok (.aload_n 2, 1) := by decide +kernel
theorem dX0_insert_74 : decode cX0_insert 74 = .ok (.getfield 39, 3) := by decide +kernel
theorem dX0_insert_77 : decode cX0_insert 77 = .ok (.invokestatic 74, 3) := by decide +kernel
theorem dX0_insert_80 : decode cX0_insert 80 = .ok (.aload_n 0, 1) := by decide +kernel
theorem dX0_insert_81 : decode cX0_insert 81 = .ok (.getfield 19, 3) := by decide +kernel
theorem dX0_insert_84 : decode cX0_insert 84 = .ok (.iload_n 1, 1) := by decide +kernel
theorem dX0_insert_85 : decode cX0_insert 85 = .ok (.aload_n 0, 1) := by decide +kernel
theorem dX0_insert_86 : decode cX0_insert 86 = .ok (.getfield 19, 3) := by decide +kernel
theorem dX0_insert_89 : decode cX0_insert 89 = .ok (.iload_n 1, 1) := by decide +kernel
theorem dX0_insert_90 : decode cX0_insert 90 = .ok (.iconst 1, 1) := by decide +kernel
theorem dX0_insert_91 : decode cX0_insert 91 = .ok (.iadd, 1) := by decide +kernel
theorem dX0_insert_92 : decode cX0_insert 92 = .ok (.aload_n 0, 1) := by decide +kernel
theorem dX0_insert_93 : decode cX0_insert 93 = .ok (.getfield 23, 3) := by decide +kernel
theorem dX0_insert_96 : decode cX0_insert 96 = .ok (.iload_n 1, 1) := by decide +kernel
theorem dX0_insert_97 : decode cX0_insert 97 = .ok (.isub, 1) := by decide +kernel
theorem dX0_insert_98 : decode cX0_insert 98 = .ok (.invokestatic 74, 3) := by decide +kernel
theorem dX0_insert_101 : decode cX0_insert 101 = .ok (.aload_n 0, 1) := by decide +kernel
theorem dX0_insert_102 : decode cX0_insert 102 = .ok (.getfield 19, 3) := by decide +kernel
theorem dX0_insert_105 : decode cX0_insert 105 = .ok (.iload_n 1, 1) := by decide +kernel
theorem dX0_insert_106 : decode cX0_insert 106 = .ok (.lload_n 3, 1) := by decide +kernel
theorem dX0_insert_107 : decode cX0_insert 107 = .ok (.lastore, 1) := by decide +kernel
theorem dX0_insert_108 : decode cX0_insert 108 = .ok (.aload_n 0, 1) := by decide +kernel
theorem dX0_insert_109 : decode cX0_insert 109 = .ok (.getfield 23, 3) := by decide +kernel
theorem dX0_insert_112 : decode cX0_insert 112 = .ok (.istore 6, 2) := by decide +kernel
theorem dX0_insert_114 : decode cX0_insert 114 = .ok (.iload 6, 2) := by decide +kernel
theorem dX0_insert_116 : decode cX0_insert 116 = .ok (.iload_n 1, 1) := by decide +kernel
theorem dX0_insert_117 : decode cX0_insert 117 = .ok (.if_icmp .lt 30, 3) := by decide +kernel
theorem dX0_insert_120 : decode cX0_insert 120 = .ok (.aload_n 0, 1) := by decide +kernel
theorem dX0_insert_121 : decode cX0_insert 121 = .ok (.getfield 15, 3) := by decide +kernel
theorem dX0_insert_124 : decode cX0_insert 124 = .ok (.iload 6, 2) := by decide +kernel
theorem dX0_insert_126 : decode cX0_insert 126 = .ok (.iconst 1, 1) := by decide +kernel
theorem dX0_insert_127 : decode cX0_insert 127 = .ok (.iadd, 1) := by decide +kernel
theorem dX0_insert_128 : decode cX0_insert 128 = .ok (.aload_n 0, 1) := by decide +kernel
theorem dX0_insert_129 : decode cX0_insert 129 = .ok (.getfield 15, 3) := by decide +kernel
theorem dX0_insert_132 : decode cX0_insert 132 = .ok (.iload 6, 2) := by decide +kernel
theorem dX0_insert_134 : decode cX0_insert 134 = .ok (.iaload, 1) := by decide +kernel
theorem dX0_insert_135 : decode cX0_insert 135 = .ok (.aload_n 2, 1) := by decide +kernel
theorem dX0_insert_136 : decode cX0_insert 136 = .ok (.getfield 39, 3) := by decide +kernel
theorem dX0_insert_139 : decode cX0_insert 139 = .ok (.iadd, 1) := by decide +kernel
theorem dX0_insert_140 : decode cX0_insert 140 = .ok (.iastore, 1) := by decide +kernel
theorem dX0_insert_141 : decode cX0_insert 141 = .ok (.iinc 6 (-1), 3) := by decide +kernel
theorem dX0_insert_144 : decode cX0_insert 144 = .ok (.goto (-30), 3) := by decide +kernel
theorem dX0_insert_147 : decode cX0_insert 147 = .ok (.aload_n 0, 1) := by decide +kernel
theorem dX0_insert_148 : decode cX0_insert 148 = .ok (.dup, 1) := by decide +kernel
theorem dX0_insert_149 : decode cX0_insert 149 = .ok (.getfield 23, 3) := by decide +kernel
theorem dX0_insert_152 : decode cX0_insert 152 = .ok (.iconst 1, 1) := by decide +kernel
theorem dX0_insert_153 : decode cX0_insert 153 = .ok (.iadd, 1) := by decide +kernel
theorem dX0_insert_154 : decode cX0_insert 154 = .ok (.putfield 23, 3) := by decide +kernel
theorem dX0_insert_157 : decode cX0_insert 157 = .ok (.iconst 1, 1) := by decide +kernel
theorem dX0_insert_158 : decode cX0_insert 158 = .ok (.ireturn, 1) := by decide +kernel
set_option maxRecDepth 20000 in
theorem ggX0_remove_X0_lengthOf : GoodIn wsX0_remove wsX0_lengthOf := goodIn_r _ [13, 1, 18, 19, 20, 21] (by decide +kernel) (by decide +kernel)
set_option maxRecDepth 20000 in
theorem gX0_remove_X0_lengthOf : GoodIn wsX0_remove (wsV RX0 27 RX0 yX0_lengthOf wsX0_lengthOf) := goodIn_app (goodIn_of _ (by decide +kernel)) ggX0_remove_X0_lengthOf
set_option maxRecDepth 20000 in
theorem ggX0_remove_X0_size : GoodIn wsX0_remove wsX0_size := goodIn_r _ [17, 1, 8, 18, 19, 20, 21] (by decide +kernel) (by decide +kernel)
set_option maxRecDepth 20000 in
theorem gX0_remove_X0_size : GoodIn wsX0_remove (wsV RX0 70 RX0 yX0_size wsX0_size) := goodIn_app (goodIn_of _ (by decide +kernel)) ggX0_remove_X0_size
theorem dX0_remove_0 : decode cX0_remove 0 = .ok (.aload_n 0, 1) := by decide +kernel
theorem dX0_remove_1 : decode cX0_remove 1 = .ok (.iload_n 1, 1) := by decide +kernel
theorem dX0_remove_2 : decode cX0_remove 2 = .ok (.invokevirtual 27, 3) := by decide +kernel
theorem dX0_remove_5 : decode cX0_remove 5 = .ok (.istore_n 2, 1) := by decide +kernel
theorem dX0_remove_6 : decode cX0_remove 6 = .ok (.aload_n 0, 1) := by decide +kernel
theorem dX0_remove_7 : decode cX0_remove 7 = .ok (.getfield 15, 3) := by decide +kernel
theorem dX0_remove_10 : decode cX0_remove 10 = .ok (.iload_n 1, 1) := by decide +kernel
theorem dX0_remove_11 : decode cX0_remove 11 = .ok (.iconst 1, 1) := by decide +kernel
theorem dX0_remove_12 : decode cX0_remove 12 = .ok (.iadd, 1) := by decide +kernel
theorem dX0_remove_13 : decode cX0_remove 13 = .ok (.iaload, 1) := by decide +kernel
theorem dX0_remove_14 : decode cX0_remove 14 = .ok (.istore_n 3, 1) := by decide +kernel
theorem dX0_remove_15 : decode cX0_remove 15 = .ok (.aload_n 0, 1) := by decide +kernel
theorem dX0_remove_16 : decode cX0_remove 16 = .ok (.getfield 9, 3) := by decide +kernel
theorem dX0_remove_19 : decode cX0_remove 19 = .ok (.iload_n 3, 1) := by decide +kernel
theorem dX0_remove_20 : decode cX0_remove 20 = .ok (.aload_n 0, 1) := by decide +kernel
theorem dX0_remove_21 : decode cX0_remove 21 = .ok (.getfield 9, 3) := by decide +kernel
theorem dX0_remove_24 : decode cX0_remove 24 = .ok (.aload_n 0, 1) := by decide +kernel
theorem dX0_remove_25 : decode cX0_remove 25 = .ok (.getfield 15, 3) := by decide +kernel
theorem dX0_remove_28 : decode cX0_remove 28 = .ok (.iload_n 1, 1) := by decide +kernel
theorem dX0_remove_29 : decode cX0_remove 29 = .ok (.iaload, 1) := by decide +kernel
theorem dX0_remove_30 : decode cX0_remove 30 = .ok (.aload_n 0, 1) := by decide +kernel
theorem dX0_remove_31 : decode cX0_remove 31 = .ok (.invokevirtual 70, 3) := by decide +kernel
theorem dX0_remove_34 : decode cX0_remove 34 = .ok (.iload_n 3, 1) := by decide +kernel
theorem dX0_remove_35 : decode cX0_remove 35 = .ok (.isub, 1) := by decide +kernel
theorem dX0_remove_36 : decode cX0_remove 36 = .ok (.invokestatic 74, 3) := by decide +kernel
theorem dX0_remove_39 : decode cX0_remove 39 = .ok (.aload_n 0, 1) := by decide +kernel
theorem dX0_remove_40 : decode cX0_remove 40 = .ok (.getfield 19, 3) := by decide +kernel
theorem dX0_remove_43 : decode cX0_remove 43 = .ok (.iload_n 1, 1) := by decide +kernel
theorem dX0_remove_44 : decode cX0_remove 44 = .ok (.iconst 1, 1) := by decide +kernel
theorem dX0_remove_45 : decode cX0_remove 45 = .ok (.iadd, 1) := by decide +kernel
theorem dX0_remove_46 : decode cX0_remove 46 = .ok (.aload_n 0, 1) := by decide +kernel
theorem dX0_remove_47 : decode cX0_remove 47 = .ok (.getfield 19, 3) := by decide +kernel
theorem dX0_remove_50 : decode cX0_remove 50 = .ok (.iload_n 1, 1) := by decide +kernel
theorem dX0_remove_51 : decode cX0_remove 51 = .ok (.aload_n 0, 1) := by decide +kernel
theorem dX0_remove_52 : decode cX0_remove 52 = .ok (.getfield 23, 3) := by decide +kernel
theorem dX0_remove_55 : decode cX0_remove 55 = .ok (.iload_n 1, 1) := by decide +kernel
theorem dX0_remove_56 : decode cX0_remove 56 = .ok (.isub, 1) := by decide +kernel
theorem dX0_remove_57 : decode cX0_remove 57 = .ok (.iconst 1, 1) := by decide +kernel
theorem dX0_remove_58 : decode cX0_remove 58 = .ok (.isub, 1) := by decide +kernel
theorem dX0_remove_59 : decode cX0_remove 59 = .ok (.invokestatic 74, 3) := by decide +kernel
theorem dX0_remove_62 : decode cX0_remove 62 = .ok (.iload_n 1, 1) := by decide +kernel
theorem dX0_remove_63 : decode cX0_remove 63 = .ok (.iconst 1, 1) := by decide +kernel
theorem dX0_remove_64 : decode cX0_remove 64 = .ok (.iadd, 1) := by decide +kernel
theorem dX0_remove_65 : decode cX0_remove 65 = .ok (.istore 4, 2) := by decide +kernel
theorem dX0_remove_67 : decode cX0_remove 67 = .ok (.iload 4, 2) := by decide +kernel
theorem dX0_remove_69 : decode cX0_remove 69 = .ok (.aload_n 0, 1) := by decide +kernel
theorem dX0_remove_70 : decode cX0_remove 70 = .ok (.getfield 23, 3) := by decide +kernel
theorem dX0_remove_73 : decode cX0_remove 73 = .ok (.if_icmp .ge 27, 3) := by decide +kernel
theorem dX0_remove_76 : decode cX0_remove 76 = .ok (.aload_n 0, 1) := by decide +kernel
theorem dX0_remove_77 : decode cX0_remove 77 = .ok (.getfield 15, 3) := by decide +kernel
theorem dX0_remove_80 : decode cX0_remove 80 = .ok (.iload 4, 2) := by decide +kernel
theorem dX0_remove_82 : decode cX0_remove 82 = .ok (.aload_n 0, 1) := by decide +kernel
theorem dX0_remove_83 : decode cX0_remove 83 = .ok (.getfield 15, 3) := by decide +kernel
theorem dX0_remove_86 : decode cX0_remove 86 = .ok (.iload 4, 2) := by decide +kernel
theorem dX0_remove_88 : decode cX0_remove 88 = .ok (.iconst 1, 1) := by decide +kernel
theorem dX0_remove_89 : decode cX0_remove 89 = .ok (.iadd, 1) := by decide +kernel
theorem dX0_remove_90 : decode cX0_remove 90 = .ok (.iaload, 1) := by decide +kernel
theorem dX0_remove_91 : decode cX0_remove 91 = .ok (.iload_n 2, 1) := by decide +kernel
theorem dX0_remove_92 : decode cX0_remove 92 = .ok (.isub, 1) := by decide +kernel
theorem dX0_remove_93 : decode cX0_remove 93 = .ok (.iastore, 1) := by decide +kernel
theorem dX0_remove_94 : decode cX0_remove 94 = .ok (.iinc 4 1, 3) := by decide +kernel
theorem dX0_remove_97 : decode cX0_remove 97 = .ok (.goto (-30), 3) := by decide +kernel
theorem dX0_remove_100 : decode cX0_remove 100 = .ok (.aload_n 0, 1) := by decide +kernel
theorem dX0_remove_101 : decode cX0_remove 101 = .ok (.dup, 1) := by decide +kernel
theorem dX0_remove_102 : decode cX0_remove 102 = .ok (.getfield 23, 3) := by decide +kernel
theorem dX0_remove_105 : decode cX0_remove 105 = .ok (.iconst 1, 1) := by decide +kernel
theorem dX0_remove_106 : decode cX0_remove 106 = .ok (.isub, 1) := by decide +kernel
theorem dX0_remove_107 : decode cX0_remove 107 = .ok (.putfield 23, 3) := by decide +kernel
theorem dX0_remove_110 : decode cX0_remove 110 = .ok (.return_, 1) := by decide +kernel
theorem dX0_rankOf_0 : decode cX0_rankOf 0 = .ok (.iconst 0, 1) := by decide +kernel
theorem dX0_rankOf_1 : decode cX0_rankOf 1 = .ok (.istore_n 2, 1) := by decide +kernel
theorem dX0_rankOf_2 : decode cX0_rankOf 2 = .ok (.iconst 0, 1) := by decide +kernel
theorem dX0_rankOf_3 : decode cX0_rankOf 3 = .ok (.istore_n 3, 1) := by decide +kernel
theorem dX0_rankOf_4 : decode cX0_rankOf 4 = .ok (.iload_n 3, 1) := by decide +kernel
theorem dX0_rankOf_5 : decode cX0_rankOf 5 = .ok (.aload_n 0, 1) := by decide +kernel
theorem dX0_rankOf_6 : decode cX0_rankOf 6 = .ok (.getfield 23, 3) := by decide +kernel
theorem dX0_rankOf_9 : decode cX0_rankOf 9 = .ok (.if_icmp .ge 49, 3) := by decide +kernel
theorem dX0_rankOf_12 : decode cX0_rankOf 12 = .ok (.aload_n 0, 1) := by decide +kernel
theorem dX0_rankOf_13 : decode cX0_rankOf 13 = .ok (.getfield 19, 3) := by decide +kernel
theorem dX0_rankOf_16 : decode cX0_rankOf 16 = .ok (.iload_n 3, 1) := by decide +kernel
theorem dX0_rankOf_17 : decode cX0_rankOf 17 = .ok (.laload, 1) := by decide +kernel
theorem dX0_rankOf_18 : decode cX0_rankOf 18 = .ok (.aload_n 0, 1) := by decide +kernel
theorem dX0_rankOf_19 : decode cX0_rankOf 19 = .ok (.getfield 19, 3) := by decide +kernel
theorem dX0_rankOf_22 : decode cX0_rankOf 22 = .ok (.iload_n 1, 1) := by decide +kernel
theorem dX0_rankOf_23 : decode cX0_rankOf 23 = .ok (.laload, 1) := by decide +kernel
theorem dX0_rankOf_24 : decode cX0_rankOf 24 = .ok (.lcmp, 1) := by decide +kernel
theorem dX0_rankOf_25 : decode cX0_rankOf 25 = .ok (.ifCond .gt 24, 3) := by decide +kernel
theorem dX0_rankOf_28 : decode cX0_rankOf 28 = .ok (.aload_n 0, 1) := by decide +kernel
theorem dX0_rankOf_29 : decode cX0_rankOf 29 = .ok (.getfield 19, 3) := by decide +kernel
theorem dX0_rankOf_32 : decode cX0_rankOf 32 = .ok (.iload_n 3, 1) := by decide +kernel
theorem dX0_rankOf_33 : decode cX0_rankOf 33 = .ok (.laload, 1) := by decide +kernel
theorem dX0_rankOf_34 : decode cX0_rankOf 34 = .ok (.aload_n 0, 1) := by decide +kernel
theorem dX0_rankOf_35 : decode cX0_rankOf 35 = .ok (.getfield 19, 3) := by decide +kernel
theorem dX0_rankOf_38 : decode cX0_rankOf 38 = .ok (.iload_n 1, 1) := by decide +kernel
theorem dX0_rankOf_39 : decode cX0_rankOf 39 = .ok (.laload, 1) := by decide +kernel
theorem dX0_rankOf_40 : decode cX0_rankOf 40 = .ok (.lcmp, 1) := by decide +kernel
theorem dX0_rankOf_41 : decode cX0_rankOf 41 = .ok (.ifCond .ne 11, 3) := by decide +kernel
theorem dX0_rankOf_44 : decode cX0_rankOf 44 = .ok (.iload_n 3, 1) := by decide +kernel
theorem dX0_rankOf_45 : decode cX0_rankOf 45 = .ok (.iload_n 1, 1) := by decide +kernel
theorem dX0_rankOf_46 : decode cX0_rankOf 46 = .ok (.if_icmp .ge 6, 3) := by decide +kernel
theorem dX0_rankOf_49 : decode cX0_rankOf 49 = .ok (.iinc 2 1, 3) := by decide +kernel
theorem dX0_rankOf_52 : decode cX0_rankOf 52 = .ok (.iinc 3 1, 3) := by decide +kernel
theorem dX0_rankOf_55 : decode cX0_rankOf 55 = .ok (.goto (-51), 3) := by decide +kernel
theorem dX0_rankOf_58 : decode cX0_rankOf 58 = .ok (.iload_n 2, 1) := by decide +kernel
theorem dX0_rankOf_59 : decode cX0_rankOf 59 = .ok (.ireturn, 1) := by decide +kernel
set_option maxRecDepth 20000 in
theorem ggX0_countPrefixes_X0_size : GoodIn wsX0_countPrefixes wsX0_size := goodIn_r _ [6, 7, 1, 21, 22, 23, 24] (by decide +kernel) (by decide +kernel)
set_option maxRecDepth 20000 in
theorem gX0_countPrefixes_X0_size : GoodIn wsX0_countPrefixes (wsV RX0 70 RX0 yX0_size wsX0_size) := goodIn_app (goodIn_of _ (by decide +kernel)) ggX0_countPrefixes_X0_size
set_option maxRecDepth 20000 in
theorem ggX0_countPrefixes_X0_sharedWithNext : GoodIn wsX0_countPrefixes wsX0_sharedWithNext := goodIn_r _ [11, 12, 13, 14, 15, 16, 7, 17, 18, 19, 5, 20, 21, 22, 23, 24] (by decide +kernel) (by decide +kernel)
set_option maxRecDepth 20000 in
theorem gX0_countPrefixes_X0_sharedWithNext : GoodIn wsX0_countPrefixes (wsV RX0 80 RX0 yX0_sharedWithNext wsX0_sharedWithNext) := goodIn_app (goodIn_of _ (by decide +kernel)) ggX0_countPrefixes_X0_sharedWithNext
theorem dX0_countPrefixes_0 : decode cX0_countPrefixes 0 = .ok (.aload_n 0, 1) := by decide +kernel
theorem dX0_countPrefixes_1 : decode cX0_countPrefixes 1 = .ok (.getfield 23, 3) := by decide +kernel
theorem dX0_countPrefixes_4 : decode cX0_countPrefixes 4 = .ok (.ifCond .ne 5, 3) := by decide +kernel
theorem dX0_countPrefixes_7 : decode cX0_countPrefixes 7 = .ok (.iconst 0, 1) := by decide +kernel
theorem dX0_countPrefixes_8 : decode cX0_countPrefixes 8 = .ok (.ireturn, 1) := by decide +kernel
theorem dX0_countPrefixes_9 : decode cX0_countPrefixes 9 = .ok (.iconst 1, 1) := by decide +kernel
theorem dX0_countPrefixes_10 : decode cX0_countPrefixes 10 = .ok (.aload_n 0, 1) := by decide +kernel
theorem dX0_countPrefixes_11 : decode cX0_countPrefixes 11 = .ok (.invokevirtual 70, 3) := by decide +kernel
theorem dX0_countPrefixes_14 : decode cX0_countPrefixes 14 = .ok (.iadd, 1) := by decide +kernel
theorem dX0_countPrefixes_15 : decode cX0_countPrefixes 15 = .ok (.istore_n 1, 1) := by decide +kernel
theorem dX0_countPrefixes_16 : decode cX0_countPrefixes 16 = .ok (.iconst 0, 1) := by decide +kernel
theorem dX0_countPrefixes_17 : decode cX0_countPrefixes 17 = .ok (.istore_n 2, 1) := by decide +kernel
theorem dX0_countPrefixes_18 : decode cX0_countPrefixes 18 = .ok (.iload_n 2, 1) := by decide +kernel
theorem dX0_countPrefixes_19 : decode cX0_countPrefixes 19 = .ok (.iconst 1, 1) := by decide +kernel
theorem dX0_countPrefixes_20 : decode cX0_countPrefixes 20 = .ok (.iadd, 1) := by decide +kernel
theorem dX0_countPrefixes_21 : decode cX0_countPrefixes 21 = .ok (.aload_n 0, 1) := by decide +kernel
theorem dX0_countPrefixes_22 : decode cX0_countPrefixes 22 = .ok (.getfield 23, 3) := by decide +kernel
theorem dX0_countPrefixes_25 : decode cX0_countPrefixes 25 = .ok (.if_icmp .ge 17, 3) := by decide +kernel
theorem dX0_countPrefixes_28 : decode cX0_countPrefixes 28 = .ok (.iload_n 1, 1) := by decide +kernel
theorem dX0_countPrefixes_29 : decode cX0_countPrefixes 29 = .ok (.aload_n 0, 1) := by decide +kernel
theorem dX0_countPrefixes_30 : decode cX0_countPrefixes 30 = .ok (.iload_n 2, 1) := by decide +kernel
theorem dX0_countPrefixes_31 : decode cX0_countPrefixes 31 = .ok (.invokevirtual 80, 3) := by decide +kernel
theorem dX0_countPrefixes_34 : decode cX0_countPrefixes 34 = .ok (.isub, 1) := by decide +kernel
theorem dX0_countPrefixes_35 : decode cX0_countPrefixes 35 = .ok (.istore_n 1, 1) := by decide +kernel
theorem dX0_countPrefixes_36 : decode cX0_countPrefixes 36 = .ok (.iinc 2 1, 3) := by decide +kernel
theorem dX0_countPrefixes_39 : decode cX0_countPrefixes 39 = .ok (.goto (-21), 3) := by decide +kernel
theorem dX0_countPrefixes_42 : decode cX0_countPrefixes 42 = .ok (.iload_n 1, 1) := by decide +kernel
theorem dX0_countPrefixes_43 : decode cX0_countPrefixes 43 = .ok (.ireturn, 1) := by decide +kernel
end
section
theorem dX1_init_0 : decode cX1_init 0 = .ok (.aload_n 0, 1) := by decide +kernel
theorem dX1_init_1 : decode cX1_init 1 = .ok (.invokespecial 3, 3) := by decide +kernel
theorem dX1_init_4 : decode cX1_init 4 = .ok (.aload_n 0, 1) := by decide +kernel
theorem dX1_init_5 : decode cX1_init 5 = .ok (.bipush 25, 2) := by decide +kernel
theorem dX1_init_7 : decode cX1_init 7 = .ok (.newarray .int, 2) := by decide +kernel
theorem dX1_init_9 : decode cX1_init 9 = .ok (.putfield 9, 3) := by decide +kernel
theorem dX1_init_12 : decode cX1_init 12 = .ok (.return_, 1) := by decide +kernel
set_option maxRecDepth 20000 in
theorem ggX1_nearness_X1_lengthenPrefix : GoodIn wsX1_nearness wsX1_lengthenPrefix := goodIn_r _ [13, 2, 1, 14, 3, 4, 5, 6, 17, 15, 16] (by decide +kernel) (by decide +kernel)
set_option maxRecDepth 20000 in
theorem gX1_nearness_X1_lengthenPrefix : GoodIn wsX1_nearness (wsV RX1 36 RX1 yX1_lengthenPrefix wsX1_lengthenPrefix) := goodIn_app (goodIn_of _ (by decide +kernel)) ggX1_nearness_X1_lengthenPrefix
theorem dX1_nearness_0 : decode cX1_nearness 0 = .ok (.iconst 0, 1) := by decide +kernel
theorem dX1_nearness_1 : decode cX1_nearness 1 = .ok (.istore 5, 2) := by decide +kernel
theorem dX1_nearness_3 : decode cX1_nearness 3 = .ok (.iload 5, 2) := by decide +kernel
theorem dX1_nearness_5 : decode cX1_nearness 5 = .ok (.aload_n 1, 1) := by decide +kernel
theorem dX1_nearness_6 : decode cX1_nearness 6 = .ok (.getfield 15, 3) := by decide +kernel
theorem dX1_nearness_9 : decode cX1_nearness 9 = .ok (.if_icmp .gt 18, 3) := by decide +kernel
theorem dX1_nearness_12 : decode cX1_nearness 12 = .ok (.aload_n 0, 1) := by decide +kernel
theorem dX1_nearness_13 : decode cX1_nearness 13 = .ok (.getfield 9, 3) := by decide +kernel
theorem dX1_nearness_16 : decode cX1_nearness 16 = .ok (.iload 5, 2) := by decide +kernel
theorem dX1_nearness_18 : decode cX1_nearness 18 = .ok (.iload 5, 2) := by decide +kernel
theorem dX1_nearness_20 : decode cX1_nearness 20 = .ok (.iastore, 1) := by decide +kernel
theorem dX1_nearness_21 : decode cX1_nearness 21 = .ok (.iinc 5 1, 3) := by decide +kernel
theorem dX1_nearness_24 : decode cX1_nearness 24 = .ok (.goto (-21), 3) := by decide +kernel
theorem dX1_nearness_27 : decode cX1_nearness 27 = .ok (.aload_n 1, 1) := by decide +kernel
theorem dX1_nearness_28 : decode cX1_nearness 28 = .ok (.getfield 15, 3) := by decide +kernel
theorem dX1_nearness_31 : decode cX1_nearness 31 = .ok (.iload 4, 2) := by decide +kernel
theorem dX1_nearness_33 : decode cX1_nearness 33 = .ok (.iconst 1, 1) := by decide +kernel
theorem dX1_nearness_34 : decode cX1_nearness 34 = .ok (.iadd, 1) := by decide +kernel
theorem dX1_nearness_35 : decode cX1_nearness 35 = .ok (.invokestatic 21, 3) := by decide +kernel
theorem dX1_nearness_38 : decode cX1_nearness 38 = .ok (.istore 5, 2) := by decide +kernel
theorem dX1_nearness_40 : decode cX1_nearness 40 = .ok (.iconst 0, 1) := by decide +kernel
theorem dX1_nearness_41 : decode cX1_nearness 41 = .ok (.istore 6, 2) := by decide +kernel
theorem dX1_nearness_43 : decode cX1_nearness 43 = .ok (.aload_n 2, 1) := by decide +kernel
theorem dX1_nearness_44 : decode cX1_nearness 44 = .ok (.getfield 27, 3) := by decide +kernel
theorem dX1_nearness_47 : decode cX1_nearness 47 = .ok (.iload_n 3, 1) := by decide +kernel
theorem dX1_nearness_48 : decode cX1_nearness 48 = .ok (.iconst 1, 1) := by decide +kernel
theorem dX1_nearness_49 : decode cX1_nearness 49 = .ok (.iadd, 1) := by decide +kernel
theorem dX1_nearness_50 : decode cX1_nearness 50 = .ok (.iaload, 1) := by decide +kernel
theorem dX1_nearness_51 : decode cX1_nearness 51 = .ok (.istore 7, 2) := by decide +kernel
theorem dX1_nearness_53 : decode cX1_nearness 53 = .ok (.aload_n 2, 1) := by decide +kernel
theorem dX1_nearness_54 : decode cX1_nearness 54 = .ok (.getfield 27, 3) := by decide +kernel
theorem dX1_nearness_57 : decode cX1_nearness 57 = .ok (.iload_n 3, 1) := by decide +kernel
theorem dX1_nearness_58 : decode cX1_nearness 58 = .ok (.iaload, 1) := by decide +kernel
theorem dX1_nearness_59 : decode cX1_nearness 59 = .ok (.istore 8, 2) := by decide +kernel
theorem dX1_nearness_61 : decode cX1_nearness 61 = .ok (.iload 8, 2) := by decide +kernel
theorem dX1_nearness_63 : decode cX1_nearness 63 = .ok (.iload 7, 2) := by decide +kernel
theorem dX1_nearness_65 : decode cX1_nearness 65 = .ok (.if_icmp .ge 46, 3) := by decide +kernel
theorem dX1_nearness_68 : decode cX1_nearness 68 = .ok (.iload 6, 2) := by decide +kernel
theorem dX1_nearness_70 : decode cX1_nearness 70 = .ok (.iload 5, 2) := by decide +kernel
theorem dX1_nearness_72 : decode cX1_nearness 72 = .ok (.if_icmp .ge 39, 3) := by decide +kernel
theorem dX1_nearness_75 : decode cX1_nearness 75 = .ok (.aload_n 0, 1) := by decide +kernel
theorem dX1_nearness_76 : decode cX1_nearness 76 = .ok (.aload_n 1, 1) := by decide +kernel
theorem dX1_nearness_77 : decode cX1_nearness 77 = .ok (.aload_n 2, 1) := by decide +kernel
theorem dX1_nearness_78 : decode cX1_nearness 78 = .ok (.getfield 32, 3) := by decide +kernel
theorem dX1_nearness_81 : decode cX1_nearness 81 = .ok (.iload 8, 2) := by decide +kernel
theorem dX1_nearness_83 : decode cX1_nearness 83 = .ok (.baload, 1) := by decide +kernel
theorem dX1_nearness_84 : decode cX1_nearness 84 = .ok (.invokevirtual 36, 3) := by decide +kernel
theorem dX1_nearness_87 : decode cX1_nearness 87 = .ok (.istore 6, 2) := by decide +kernel
theorem dX1_nearness_89 : decode cX1_nearness 89 = .ok (.iload 5, 2) := by decide +kernel
theorem dX1_nearness_91 : decode cX1_nearness 91 = .ok (.aload_n 0, 1) := by decide +kernel
theorem dX1_nearness_92 : decode cX1_nearness 92 = .ok (.getfield 9, 3) := by decide +kernel
theorem dX1_nearness_95 : decode cX1_nearness 95 = .ok (.aload_n 1, 1) := by decide +kernel
theorem dX1_nearness_96 : decode cX1_nearness 96 = .ok (.getfield 15, 3) := by decide +kernel
theorem dX1_nearness_99 : decode cX1_nearness 99 = .ok (.iaload, 1) := by decide +kernel
theorem dX1_nearness_100 : decode cX1_nearness 100 = .ok (.invokestatic 21, 3) := by decide +kernel
theorem dX1_nearness_103 : decode cX1_nearness 103 = .ok (.istore 5, 2) := by decide +kernel
theorem dX1_nearness_105 : decode cX1_nearness 105 = .ok (.iinc 8 1, 3) := by decide +kernel
theorem dX1_nearness_108 : decode cX1_nearness 108 = .ok (.goto (-47), 3) := by decide +kernel
theorem dX1_nearness_111 : decode cX1_nearness 111 = .ok (.iload 5, 2) := by decide +kernel
theorem dX1_nearness_113 : decode cX1_nearness 113 = .ok (.ireturn, 1) := by decide +kernel
theorem dX1_lengthenPrefix_0 : decode cX1_lengthenPrefix 0 = .ok (.aload_n 0, 1) := by decide +kernel
theorem dX1_lengthenPrefix_1 : decode cX1_lengthenPrefix 1 = .ok (.getfield 9, 3) := by decide +kernel
theorem dX1_lengthenPrefix_4 : decode cX1_lengthenPrefix 4 = .ok (.iconst 0, 1) := by decide +kernel
theorem dX1_lengthenPrefix_5 : decode cX1_lengthenPrefix 5 = .ok (.iaload, 1) := by decide +kernel
theorem dX1_lengthenPrefix_6 : decode cX1_lengthenPrefix 6 = .ok (.istore_n 3, 1) := by decide +kernel
theorem dX1_lengthenPrefix_7 : decode cX1_lengthenPrefix 7 = .ok (.aload_n 0, 1) := by decide +kernel
theorem dX1_lengthenPrefix_8 : decode cX1_lengthenPrefix 8 = .ok (.getfield 9, 3) := by decide +kernel
theorem dX1_lengthenPrefix_11 : decode cX1_lengthenPrefix 11 = .ok (.iconst 0, 1) := by decide +kernel
theorem dX1_lengthenPrefix_12 : decode cX1_lengthenPrefix 12 = .ok (.dup2, 1) := by decide +kernel
theorem dX1_lengthenPrefix_13 : decode cX1_lengthenPrefix 13 = .ok (.iaload, 1) := by decide +kernel
theorem dX1_lengthenPrefix_14 : decode cX1_lengthenPrefix 14 = .ok (.iconst 1, 1) := by decide +kernel
theorem dX1_lengthenPrefix_15 : decode cX1_lengthenPrefix 15 = .ok (.iadd, 1) := by decide +kernel
theorem dX1_lengthenPrefix_16 : decode cX1_lengthenPrefix 16 = .ok (.iastore, 1) := by decide +kernel
theorem dX1_lengthenPrefix_17 : decode cX1_lengthenPrefix 17 = .ok (.aload_n 0, 1) := by decide +kernel
theorem dX1_lengthenPrefix_18 : decode cX1_lengthenPrefix 18 = .ok (.getfield 9, 3) := by decide +kernel
theorem dX1_lengthenPrefix_21 : decode cX1_lengthenPrefix 21 = .ok (.iconst 0, 1) := by decide +kernel
theorem dX1_lengthenPrefix_22 : decode cX1_lengthenPrefix 22 = .ok (.iaload, 1) := by decide +kernel
theorem dX1_lengthenPrefix_23 : decode cX1_lengthenPrefix 23 = .ok (.istore 4, 2) := by decide +kernel
theorem dX1_lengthenPrefix_25 : decode cX1_lengthenPrefix 25 = .ok (.iconst 1, 1) := by decide +kernel
theorem dX1_lengthenPrefix_26 : decode cX1_lengthenPrefix 26 = .ok (.istore 5, 2) := by decide +kernel
theorem dX1_lengthenPrefix_28 : decode cX1_lengthenPrefix 28 = .ok (.iload 5, 2) := by decide +kernel
theorem dX1_lengthenPrefix_30 : decode cX1_lengthenPrefix 30 = .ok (.aload_n 1, 1) := by decide +kernel
theorem dX1_lengthenPrefix_31 : decode cX1_lengthenPrefix 31 = .ok (.getfield 15, 3) := by decide +kernel
theorem dX1_lengthenPrefix_34 : decode cX1_lengthenPrefix 34 = .ok (.if_icmp .gt 86, 3) := by decide +kernel
theorem dX1_lengthenPrefix_37 : decode cX1_lengthenPrefix 37 = .ok (.aload_n 1, 1) := by decide +kernel
theorem dX1_lengthenPrefix_38 : decode cX1_lengthenPrefix 38 = .ok (.getfield 40, 3) := by decide +kernel
theorem dX1_lengthenPrefix_41 : decode cX1_lengthenPrefix 41 = .ok (.iload 5, 2) := by decide +kernel
theorem dX1_lengthenPrefix_43 : decode cX1_lengthenPrefix 43 = .ok (.iconst 1, 1) := by decide +kernel
theorem dX1_lengthenPrefix_44 : decode cX1_lengthenPrefix 44 = .ok (.isub, 1) := by decide +kernel
theorem dX1_lengthenPrefix_45 : decode cX1_lengthenPrefix 45 = .ok (.baload, 1) := by decide +kernel
theorem dX1_lengthenPrefix_46 : decode cX1_lengthenPrefix 46 = .ok (.iload_n 2, 1) := by decide +kernel
theorem dX1_lengthenPrefix_47 : decode cX1_lengthenPrefix 47 = .ok (.if_icmp .ne 7, 3) := by decide +kernel
theorem dX1_lengthenPrefix_50 : decode cX1_lengthenPrefix 50 = .ok (.iload_n 3, 1) := by decide +kernel
theorem dX1_lengthenPrefix_51 : decode cX1_lengthenPrefix 51 = .ok (.goto 6, 3) := by decide +kernel
theorem dX1_lengthenPrefix_54 : decode cX1_lengthenPrefix 54 = .ok (.iload_n 3, 1) := by decide +kernel
theorem dX1_lengthenPrefix_55 : decode cX1_lengthenPrefix 55 = .ok (.iconst 1, 1) := by decide +kernel
theorem dX1_lengthenPrefix_56 : decode cX1_lengthenPrefix 56 = .ok (.iadd, 1) := by decide +kernel
theorem dX1_lengthenPrefix_57 : decode cX1_lengthenPrefix 57 = .ok (.istore 6, 2) := by decide +kernel
theorem dX1_lengthenPrefix_59 : decode cX1_lengthenPrefix 59 = .ok (.aload_n 0, 1) := by decide +kernel
theorem dX1_lengthenPrefix_60 : decode cX1_lengthenPrefix 60 = .ok (.getfield 9, 3) := by decide +kernel
theorem dX1_lengthenPrefix_63 : decode cX1_lengthenPrefix 63 = .ok (.iload 5, 2) := by decide +kernel
theorem dX1_lengthenPrefix_65 : decode cX1_lengthenPrefix 65 = .ok (.iaload, 1) := by decide +kernel
theorem dX1_lengthenPrefix_66 : decode cX1_lengthenPrefix 66 = .ok (.istore_n 3, 1) := by decide +kernel
theorem dX1_lengthenPrefix_67 : decode cX1_lengthenPrefix 67 = .ok (.aload_n 0, 1) := by decide +kernel
theorem dX1_lengthenPrefix_68 : decode cX1_lengthenPrefix 68 = .ok (.getfield 9, 3) := by decide +kernel
theorem dX1_lengthenPrefix_71 : decode cX1_lengthenPrefix 71 = .ok (.iload 5, 2) := by decide +kernel
theorem dX1_lengthenPrefix_73 : decode cX1_lengthenPrefix 73 = .ok (.iload 6, 2) := by decide +kernel
theorem dX1_lengthenPrefix_75 : decode cX1_lengthenPrefix 75 = .ok (.aload_n 0, 1) := by decide +kernel
theorem dX1_lengthenPrefix_76 : decode cX1_lengthenPrefix 76 = .ok (.getfield 9, 3) := by decide +kernel
theorem dX1_lengthenPrefix_79 : decode cX1_lengthenPrefix 79 = .ok (.iload 5, 2) := by decide +kernel
theorem dX1_lengthenPrefix_81 : decode cX1_lengthenPrefix 81 = .ok (.iconst 1, 1) := by decide +kernel
theorem dX1_lengthenPrefix_82 : decode cX1_lengthenPrefix 82 = .ok (.isub, 1) := by decide +kernel
theorem dX1_lengthenPrefix_83 : decode cX1_lengthenPrefix 83 = .ok (.iaload, 1) := by decide +kernel
theorem dX1_lengthenPrefix_84 : decode cX1_lengthenPrefix 84 = .ok (.aload_n 0, 1) := by decide +kernel
theorem dX1_lengthenPrefix_85 : decode cX1_lengthenPrefix 85 = .ok (.getfield 9, 3) := by decide +kernel
theorem dX1_lengthenPrefix_88 : decode cX1_lengthenPrefix 88 = .ok (.iload 5, 2) := by decide +kernel
theorem dX1_lengthenPrefix_90 : decode cX1_lengthenPrefix 90 = .ok (.iaload, 1) := by decide +kernel
theorem dX1_lengthenPrefix_91 : decode cX1_lengthenPrefix 91 = .ok (.invokestatic 21, 3) := by decide +kernel
theorem dX1_lengthenPrefix_94 : decode cX1_lengthenPrefix 94 = .ok (.iconst 1, 1) := by decide +kernel
theorem dX1_lengthenPrefix_95 : decode cX1_lengthenPrefix 95 = .ok (.iadd, 1) := by decide +kernel
theorem dX1_lengthenPrefix_96 : decode cX1_lengthenPrefix 96 = .ok (.invokestatic 21, 3) := by decide +kernel
theorem dX1_lengthenPrefix_99 : decode cX1_lengthenPrefix 99 = .ok (.iastore, 1) := by decide +kernel
theorem dX1_lengthenPrefix_100 : decode cX1_lengthenPrefix 100 = .ok (.iload 4, 2) := by decide +kernel
theorem dX1_lengthenPrefix_102 : decode cX1_lengthenPrefix 102 = .ok (.aload_n 0, 1) := by decide +kernel
theorem dX1_lengthenPrefix_103 : decode cX1_lengthenPrefix 103 = .ok (.getfield 9, 3) := by decide +kernel
theorem dX1_lengthenPrefix_106 : decode cX1_lengthenPrefix 106 = .ok (.iload 5, 2) := by decide +kernel
theorem dX1_lengthenPrefix_108 : decode cX1_lengthenPrefix 108 = .ok (.iaload, 1) := by decide +kernel
theorem dX1_lengthenPrefix_109 : decode cX1_lengthenPrefix 109 = .ok (.invokestatic 21, 3) := by decide +kernel
theorem dX1_lengthenPrefix_112 : decode cX1_lengthenPrefix 112 = .ok (.istore 4, 2) := by decide +kernel
theorem dX1_lengthenPrefix_114 : decode cX1_lengthenPrefix 114 = .ok (.iinc 5 1, 3) := by decide +kernel
theorem dX1_lengthenPrefix_117 : decode cX1_lengthenPrefix 117 = .ok (.goto (-89), 3) := by decide +kernel
theorem dX1_lengthenPrefix_120 : decode cX1_lengthenPrefix 120 = .ok (.iload 4, 2) := by decide +kernel
theorem dX1_lengthenPrefix_122 : decode cX1_lengthenPrefix 122 = .ok (.ireturn, 1) := by decide +kernel
theorem dX2_init_0 : decode cX2_init 0 = .ok (.aload_n 0, 1) := by decide +kernel
theorem dX2_init_1 : decode cX2_init 1 = .ok (.invokespecial 3, 3) := by decide +kernel
theorem dX2_init_4 : decode cX2_init 4 = .ok (.aload_n 0, 1) := by decide +kernel
theorem dX2_init_5 : decode cX2_init 5 = .ok (.bipush 50, 2) := by decide +kernel
theorem dX2_init_7 : decode cX2_init 7 = .ok (.newarray .int, 2) := by decide +kernel
theorem dX2_init_9 : decode cX2_init 9 = .ok (.putfield 9, 3) := by decide +kernel
theorem dX2_init_12 : decode cX2_init 12 = .ok (.aload_n 0, 1) := by decide +kernel
theorem dX2_init_13 : decode cX2_init 13 = .ok (.bipush 50, 2) := by decide +kernel
theorem dX2_init_15 : decode cX2_init 15 = .ok (.newarray .long, 2) := by decide +kernel
theorem dX2_init_17 : decode cX2_init 17 = .ok (.putfield 15, 3) := by decide +kernel
theorem dX2_init_20 : decode cX2_init 20 = .ok (.aload_n 0, 1) := by decide +kernel
theorem dX2_init_21 : decode cX2_init 21 = .ok (.bipush 50, 2) := by decide +kernel
theorem dX2_init_23 : decode cX2_init 23 = .ok (.newarray .int, 2) := by decide +kernel
theorem dX2_init_25 : decode cX2_init 25 = .ok (.putfield 19, 3) := by decide +kernel
theorem dX2_init_28 : decode cX2_init 28 = .ok (.aload_n 0, 1) := by decide +kernel
theorem dX2_init_29 : decode cX2_init 29 = .ok (.bipush 50, 2) := by decide +kernel
theorem dX2_init_31 : decode cX2_init 31 = .ok (.newarray .int, 2) := by decide +kernel
theorem dX2_init_33 : decode cX2_init 33 = .ok (.putfield 22, 3) := by decide +kernel
theorem dX2_init_36 : decode cX2_init 36 = .ok (.aload_n 0, 1) := by decide +kernel
theorem dX2_init_37 : decode cX2_init 37 = .ok (.sipush 1200, 3) := by decide +kernel
theorem dX2_init_40 : decode cX2_init 40 = .ok (.newarray .byte, 2) := by decide +kernel
theorem dX2_init_42 : decode cX2_init 42 = .ok (.putfield 25, 3) := by decide +kernel
theorem dX2_init_45 : decode cX2_init 45 = .ok (.return_, 1) := by decide +kernel
theorem dX2_offer_0 : decode cX2_offer 0 = .ok (.aload_n 0, 1) := by decide +kernel
theorem dX2_offer_1 : decode cX2_offer 1 = .ok (.getfield 29, 3) := by decide +kernel
theorem dX2_offer_4 : decode cX2_offer 4 = .ok (.istore 6, 2) := by decide +kernel
theorem dX2_offer_6 : decode cX2_offer 6 = .ok (.iload 6, 2) := by decide +kernel
theorem dX2_offer_8 : decode cX2_offer 8 = .ok (.ifCond .le 23, 3) := by decide +kernel
theorem dX2_offer_11 : decode cX2_offer 11 = .ok (.aload_n 0, 1) := by decide +kernel
theorem dX2_offer_12 : decode cX2_offer 12 = .ok (.getfield 15, 3) := by decide +kernel
theorem dX2_offer_15 : decode cX2_offer 15 = .ok (.iload 6, 2) := by decide +kernel
theorem dX2_offer_17 : decode cX2_offer 17 = .ok (.iconst 1, 1) := by decide +kernel
theorem dX2_offer_18 : decode cX2_offer 18 = .ok (.isub, 1) := by decide +kernel
theorem dX2_offer_19 : decode cX2_offer 19 = .ok (.laload, 1) := by decide +kernel
theorem dX2_offer_20 : decode cX2_offer 20 = .ok (.lload_n 2, 1) := by decide +kernel
theorem dX2_offer_21 : decode cX2_offer 21 = .ok (.lcmp, 1) := by decide +kernel
theorem dX2_offer_22 : decode cX2_offer 22 = .ok (.ifCond .ge 9, 3) := by decide +kernel
theorem dX2_offer_25 : decode cX2_offer 25 = .ok (.iinc 6 (-1), 3) := by decide +kernel
theorem dX2_offer_28 : decode cX2_offer 28 = .ok (.goto (-22), 3) := by decide +kernel
theorem dX2_offer_31 : decode cX2_offer 31 = .ok (.iload 6, 2) := by decide +kernel
theorem dX2_offer_33 : decode cX2_offer 33 = .ok (.iload 5, 2) := by decide +kernel
theorem dX2_offer_35 : decode cX2_offer 35 = .ok (.if_icmp .lt 4, 3) := by decide +kernel
theorem dX2_offer_38 : decode cX2_offer 38 = .ok (.return_, 1) := by decide +kernel
theorem dX2_offer_39 : decode cX2_offer 39 = .ok (.aload_n 0, 1) := by decide +kernel
theorem dX2_offer_40 : decode cX2_offer 40 = .ok (.aload_n 0, 1) := by decide +kernel
theorem dX2_offer_41 : decode cX2_offer 41 = .ok (.getfield 29, 3) := by decide +kernel
theorem dX2_offer_44 : decode cX2_offer 44 = .ok (.iconst 1, 1) := by decide +kernel
theorem dX2_offer_45 : decode cX2_offer 45 = .ok (.iadd, 1) := by decide +kernel
theorem dX2_offer_46 : decode cX2_offer 46 = .ok (.iload 5, 2) := by decide +kernel
theorem dX2_offer_48 : decode cX2_offer 48 = .ok (.invokestatic 33, 3) := by decide +kernel
theorem dX2_offer_51 : decode cX2_offer 51 = .ok (.putfield 29, 3) := by decide +kernel
theorem dX2_offer_54 : decode cX2_offer 54 = .ok (.aload_n 0, 1) := by decide +kernel
theorem dX2_offer_55 : decode cX2_offer 55 = .ok (.getfield 29, 3) := by decide +kernel
theorem dX2_offer_58 : decode cX2_offer 58 = .ok (.iconst 1, 1) := by decide +kernel
theorem dX2_offer_59 : decode cX2_offer 59 = .ok (.isub, 1) := by decide +kernel
theorem dX2_offer_60 : decode cX2_offer 60 = .ok (.istore 7, 2) := by decide +kernel
theorem dX2_offer_62 : decode cX2_offer 62 = .ok (.iload 7, 2) := by decide +kernel
theorem dX2_offer_64 : decode cX2_offer 64 = .ok (.iload 6, 2) := by decide +kernel
theorem dX2_offer_66 : decode cX2_offer 66 = .ok (.if_icmp .le 57, 3) := by decide +kernel
theorem dX2_offer_69 : decode cX2_offer 69 = .ok (.aload_n 0, 1) := by decide +kernel
theorem dX2_offer_70 : decode cX2_offer 70 = .ok (.getfield 9, 3) := by decide +kernel
theorem dX2_offer_73 : decode cX2_offer 73 = .ok (.iload 7, 2) := by decide +kernel
theorem dX2_offer_75 : decode cX2_offer 75 = .ok (.aload_n 0, 1) := by decide +kernel
theorem dX2_offer_76 : decode cX2_offer 76 = .ok (.getfield 9, 3) := by decide +kernel
theorem dX2_offer_79 : decode cX2_offer 79 = .ok (.iload 7, 2) := by decide +kernel
theorem dX2_offer_81 : decode cX2_offer 81 = .ok (.iconst 1, 1) := by decide +kernel
theorem dX2_offer_82 : decode cX2_offer 82 = .ok (.isub, 1) := by decide +kernel
theorem dX2_offer_83 : decode cX2_offer 83 = .ok (.iaload, 1) := by decide +kernel
theorem dX2_offer_84 : decode cX2_offer 84 = .ok (.iastore, 1) := by decide +kernel
theorem dX2_offer_85 : decode cX2_offer 85 = .ok (.aload_n 0, 1) := by decide +kernel
theorem dX2_offer_86 : decode cX2_offer 86 = .ok (.getfield 15, 3) := by decide +kernel
theorem dX2_offer_89 : decode cX2_offer 89 = .ok (.iload 7, 2) := by decide +kernel
theorem dX2_offer_91 : decode cX2_offer 91 = .ok (.aload_n 0, 1) := by decide +kernel
theorem dX2_offer_92 : decode cX2_offer 92 = .ok (.getfield 15, 3) := by decide +kernel
theorem dX2_offer_95 : decode cX2_offer 95 = .ok (.iload 7, 2) := by decide +kernel
theorem dX2_offer_97 : decode cX2_offer 97 = .ok (.iconst 1, 1) := by decide +kernel
theorem dX2_offer_98 : decode cX2_offer 98 = .ok (.isub, 1) := by decide +kernel
theorem dX2_offer_99 : decode cX2_offer 99 = .ok (.laload, 1) := by decide +kernel
theorem dX2_offer_100 : decode cX2_offer 100 = .ok (.lastore, 1) := by decide +kernel
theorem dX2_offer_101 : decode cX2_offer 101 = .ok (.aload_n 0, 1) := by decide +kernel
theorem dX2_offer_102 : decode cX2_offer 102 = .ok (.getfield 19, 3) := by decide +kernel
theorem dX2_offer_105 : decode cX2_offer 105 = .ok (.iload 7, 2) := by decide +kernel
theorem dX2_offer_107 : decode cX2_offer 107 = .ok (.aload_n 0, 1) := by decide +kernel
theorem dX2_offer_108 : decode cX2_offer 108 = .ok (.getfield 19, 3) := by decide +kernel
theorem dX2_offer_111 : decode cX2_offer 111 = .ok (.iload 7, 2) := by decide +kernel
theorem dX2_offer_113 : decode cX2_offer 113 = .ok (.iconst 1, 1) := by decide +kernel
theorem dX2_offer_114 : decode cX2_offer 114 = .ok (.isub, 1) := by decide +kernel
theorem dX2_offer_115 : decode cX2_offer 115 = .ok (.iaload, 1) := by decide +kernel
theorem dX2_offer_116 : decode cX2_offer 116 = .ok (.iastore, 1) := by decide +kernel
theorem dX2_offer_117 : decode cX2_offer 117 = .ok (.iinc 7 (-1), 3) := by decide +kernel
theorem dX2_offer_120 : decode cX2_offer 120 = .ok (.goto (-58), 3) := by decide +kernel
theorem dX2_offer_123 : decode cX2_offer 123 = .ok (.aload_n 0, 1) := by decide +kernel
theorem dX2_offer_124 : decode cX2_offer 124 = .ok (.getfield 9, 3) := by decide +kernel
theorem dX2_offer_127 : decode cX2_offer 127 = .ok (.iload 6, 2) := by decide +kernel
theorem dX2_offer_129 : decode cX2_offer 129 = .ok (.iload_n 1, 1) := by decide +kernel
theorem dX2_offer_130 : decode cX2_offer 130 = .ok (.iastore, 1) := by decide +kernel
theorem dX2_offer_131 : decode cX2_offer 131 = .ok (.aload_n 0, 1) := by decide +kernel
theorem dX2_offer_132 : decode cX2_offer 132 = .ok (.getfield 15, 3) := by decide +kernel
theorem dX2_offer_135 : decode cX2_offer 135 = .ok (.iload 6, 2) := by decide +kernel
theorem dX2_offer_137 : decode cX2_offer 137 = .ok (.lload_n 2, 1) := by decide +kernel
theorem dX2_offer_138 : decode cX2_offer 138 = .ok (.lastore, 1) := by decide +kernel
theorem dX2_offer_139 : decode cX2_offer 139 = .ok (.aload_n 0, 1) := by decide +kernel
theorem dX2_offer_140 : decode cX2_offer 140 = .ok (.getfield 19, 3) := by decide +kernel
theorem dX2_offer_143 : decode cX2_offer 143 = .ok (.iload 6, 2) := by decide +kernel
theorem dX2_offer_145 : decode cX2_offer 145 = .ok (.iload 4, 2) := by decide +kernel
theorem dX2_offer_147 : decode cX2_offer 147 = .ok (.iastore, 1) := by decide +kernel
theorem dX2_offer_148 : decode cX2_offer 148 = .ok (.return_, 1) := by decide +kernel
set_option maxRecDepth 20000 in
theorem ggX2_keepLetters_X0_lengthOf : GoodIn wsX2_keepLetters wsX0_lengthOf := goodIn_r _ [15, 16, 23, 24, 25, 26] (by decide +kernel) (by decide +kernel)
set_option maxRecDepth 20000 in
theorem gX2_keepLetters_X0_lengthOf : GoodIn wsX2_keepLetters (wsV RX2 39 RX0 yX0_lengthOf wsX0_lengthOf) := goodIn_app (goodIn_of _ (by decide +kernel)) ggX2_keepLetters_X0_lengthOf
theorem dX2_keepLetters_0 : decode cX2_keepLetters 0 = .ok (.iconst 0, 1) := by decide +kernel
theorem dX2_keepLetters_1 : decode cX2_keepLetters 1 = .ok (.istore_n 2, 1) := by decide +kernel
theorem dX2_keepLetters_2 : decode cX2_keepLetters 2 = .ok (.iload_n 2, 1) := by decide +kernel
theorem dX2_keepLetters_3 : decode cX2_keepLetters 3 = .ok (.aload_n 0, 1) := by decide +kernel
theorem dX2_keepLetters_4 : decode cX2_keepLetters 4 = .ok (.getfield 29, 3) := by decide +kernel
theorem dX2_keepLetters_7 : decode cX2_keepLetters 7 = .ok (.if_icmp .ge 54, 3) := by decide +kernel
theorem dX2_keepLetters_10 : decode cX2_keepLetters 10 = .ok (.aload_n 0, 1) := by decide +kernel
theorem dX2_keepLetters_11 : decode cX2_keepLetters 11 = .ok (.getfield 9, 3) := by decide +kernel
theorem dX2_keepLetters_14 : decode cX2_keepLetters 14 = .ok (.iload_n 2, 1) := by decide +kernel
theorem dX2_keepLetters_15 : decode cX2_keepLetters 15 = .ok (.iaload, 1) := by decide +kernel
theorem dX2_keepLetters_16 : decode cX2_keepLetters 16 = .ok (.istore_n 3, 1) := by decide +kernel
theorem dX2_keepLetters_17 : decode cX2_keepLetters 17 = .ok (.aload_n 0, 1) := by decide +kernel
theorem dX2_keepLetters_18 : decode cX2_keepLetters 18 = .ok (.getfield 22, 3) := by decide +kernel
theorem dX2_keepLetters_21 : decode cX2_keepLetters 21 = .ok (.iload_n 2, 1) := by decide +kernel
theorem dX2_keepLetters_22 : decode cX2_keepLetters 22 = .ok (.aload_n 1, 1) := by decide +kernel
theorem dX2_keepLetters_23 : decode cX2_keepLetters 23 = .ok (.iload_n 3, 1) := by decide +kernel
theorem dX2_keepLetters_24 : decode cX2_keepLetters 24 = .ok (.invokevirtual 39, 3) := by decide +kernel
theorem dX2_keepLetters_27 : decode cX2_keepLetters 27 = .ok (.iastore, 1) := by decide +kernel
theorem dX2_keepLetters_28 : decode cX2_keepLetters 28 = .ok (.aload_n 1, 1) := by decide +kernel
theorem dX2_keepLetters_29 : decode cX2_keepLetters 29 = .ok (.getfield 45, 3) := by decide +kernel
theorem dX2_keepLetters_32 : decode cX2_keepLetters 32 = .ok (.aload_n 1, 1) := by decide +kernel
theorem dX2_keepLetters_33 : decode cX2_keepLetters 33 = .ok (.getfield 46, 3) := by decide +kernel
theorem dX2_keepLetters_36 : decode cX2_keepLetters 36 = .ok (.iload_n 3, 1) := by decide +kernel
theorem dX2_keepLetters_37 : decode cX2_keepLetters 37 = .ok (.iaload, 1) := by decide +kernel
theorem dX2_keepLetters_38 : decode cX2_keepLetters 38 = .ok (.aload_n 0, 1) := by decide +kernel
theorem dX2_keepLetters_39 : decode cX2_keepLetters 39 = .ok (.getfield 25, 3) := by decide +kernel
theorem dX2_keepLetters_42 : decode cX2_keepLetters 42 = .ok (.iload_n 2, 1) := by decide +kernel
theorem dX2_keepLetters_43 : decode cX2_keepLetters 43 = .ok (.bipush 24, 2) := by decide +kernel
theorem dX2_keepLetters_45 : decode cX2_keepLetters 45 = .ok (.imul, 1) := by decide +kernel
theorem dX2_keepLetters_46 : decode cX2_keepLetters 46 = .ok (.aload_n 0, 1) := by decide +kernel
theorem dX2_keepLetters_47 : decode cX2_keepLetters 47 = .ok (.getfield 22, 3) := by decide +kernel
theorem dX2_keepLetters_50 : decode cX2_keepLetters 50 = .ok (.iload_n 2, 1) := by decide +kernel
theorem dX2_keepLetters_51 : decode cX2_keepLetters 51 = .ok (.iaload, 1) := by decide +kernel
theorem dX2_keepLetters_52 : decode cX2_keepLetters 52 = .ok (.invokestatic 49, 3) := by decide +kernel
theorem dX2_keepLetters_55 : decode cX2_keepLetters 55 = .ok (.iinc 2 1, 3) := by decide +kernel
theorem dX2_keepLetters_58 : decode cX2_keepLetters 58 = .ok (.goto (-56), 3) := by decide +kernel
theorem dX2_keepLetters_61 : decode cX2_keepLetters 61 = .ok (.return_, 1) := by decide +kernel
theorem dX2_letterOf_0 : decode cX2_letterOf 0 = .ok (.iload_n 1, 1) := by decide +kernel
theorem dX2_letterOf_1 : decode cX2_letterOf 1 = .ok (.ifCond .lt 25, 3) := by decide +kernel
theorem dX2_letterOf_4 : decode cX2_letterOf 4 = .ok (.iload_n 1, 1) := by decide +kernel
theorem dX2_letterOf_5 : decode cX2_letterOf 5 = .ok (.aload_n 0, 1) := by decide +kernel
theorem dX2_letterOf_6 : decode cX2_letterOf 6 = .ok (.getfield 29, 3) := by decide +kernel
theorem dX2_letterOf_9 : decode cX2_letterOf 9 = .ok (.if_icmp .ge 17, 3) := by decide +kernel
theorem dX2_letterOf_12 : decode cX2_letterOf 12 = .ok (.iload_n 2, 1) := by decide +kernel
theorem dX2_letterOf_13 : decode cX2_letterOf 13 = .ok (.ifCond .lt 13, 3) := by decide +kernel
theorem dX2_letterOf_16 : decode cX2_letterOf 16 = .ok (.iload_n 2, 1) := by decide +kernel
theorem dX2_letterOf_17 : decode cX2_letterOf 17 = .ok (.aload_n 0, 1) := by decide +kernel
theorem dX2_letterOf_18 : decode cX2_letterOf 18 = .ok (.getfield 22, 3) := by decide +kernel
theorem dX2_letterOf_21 : decode cX2_letterOf 21 = .ok (.iload_n 1, 1) := by decide +kernel
theorem dX2_letterOf_22 : decode cX2_letterOf 22 = .ok (.iaload, 1) := by decide +kernel
theorem dX2_letterOf_23 : decode cX2_letterOf 23 = .ok (.if_icmp .lt 5, 3) := by decide +kernel
theorem dX2_letterOf_26 : decode cX2_letterOf 26 = .ok (.iconst (-1), 1) := by decide +kernel
theorem dX2_letterOf_27 : decode cX2_letterOf 27 = .ok (.ireturn, 1) := by decide +kernel
theorem dX2_letterOf_28 : decode cX2_letterOf 28 = .ok (.aload_n 0, 1) := by decide +kernel
theorem dX2_letterOf_29 : decode cX2_letterOf 29 = .ok (.getfield 25, 3) := by decide +kernel
theorem dX2_letterOf_32 : decode cX2_letterOf 32 = .ok (.iload_n 1, 1) := by decide +kernel
theorem dX2_letterOf_33 : decode cX2_letterOf 33 = .ok (.bipush 24, 2) := by decide +kernel
theorem dX2_letterOf_35 : decode cX2_letterOf 35 = .ok (.imul, 1) := by decide +kernel
theorem dX2_letterOf_36 : decode cX2_letterOf 36 = .ok (.iload_n 2, 1) := by decide +kernel
theorem dX2_letterOf_37 : decode cX2_letterOf 37 = .ok (.iadd, 1) := by decide +kernel
theorem dX2_letterOf_38 : decode cX2_letterOf 38 = .ok (.baload, 1) := by decide +kernel
theorem dX2_letterOf_39 : decode cX2_letterOf 39 = .ok (.ireturn, 1) := by decide +kernel
end
section
/-! My own rows over the kit's: ints as nI of a Nat, longs as lN of a Nat, answers of methods that only read, of methods that write in a fixed set of cells. -/
/-- a method that reads: its answer, the heap as it was -/
def rdQ (v : Value) : Array Value → State → Outcome → State → Prop := fun _ st o t => o = .returned (some v) ∧ t.heap = st.heap
/-- a method that writes in the cells of A alone: its answer, and what the heap is then -/
def wrQ (ov : Option Value) (B : Heap → Prop) (A : Nat → Prop) : Array Value → State → Outcome → State → Prop := fun _ st o t => o = .returned ov ∧ B t.heap ∧ va_F A st t
/-- a contract's start: the arguments, the cells, the tables -/
abbrev wdP (D : va_G) (cl : List vw_C) (ws : va_W) (tys : List (ClassId × FieldType)) (av : List Value) : Array Value → State → Prop := va_Pc av (fun U => va_P D cl ws U.heap ∧ va_K D cl tys U)
theorem nz_blind {D : va_G} {cl : List vw_C} {ws : va_W} {tys : List (ClassId × FieldType)} {av : List Value} : FrameBlind (wdP D cl ws tys av) :=
  fun a U g mk q => by
    obtain ⟨q0, q1, q2⟩ := q
    exact ⟨q0, q1, va_K.moved (u := U) (U := U.calling g mk a) (Vm.Alike.refl U.vm) q2⟩
theorem nz_preV {s : State} {H : Heap} {D : va_G} {cl : List vw_C} {wc : va_W} {tyc : List (ClassId × FieldType)} {a q0 ci : Nat} {q : vw_C} {fs : List Value} {As : List Value} (hK : va_K D cl tyc s) (hP : va_P D cl wc H) (hc : cl[ci]? = some q) (he : wc[q0]? = some (a, .inr (ci, fs))) : PreV s H q.1 a (wdP D cl wc tyc (.ref a :: As)) As :=
  ⟨nz_blind, va_recv hK hP hc he, fun U hU hW => ⟨rfl, by rw [hU]; exact hP, va_K.moved hW.alike hK⟩⟩
theorem nz_preS {s : State} {H : Heap} {D : va_G} {cl : List vw_C} {wc : va_W} {tyc : List (ClassId × FieldType)} {As : List Value} (hK : va_K D cl tyc s) (hP : va_P D cl wc H) : PreS s H (wdP D cl wc tyc As) As :=
  ⟨nz_blind, fun U hU hW => ⟨rfl, by rw [hU]; exact hP, va_K.moved hW.alike hK⟩⟩
theorem nz_up (f : Nat → Nat) (k v : Nat) : upd (fun j => nI (f j)) k (nI v) = fun j => nI (va_up f k v j) := by
  funext j
  unfold upd va_up
  by_cases h : j = k <;> simp [h]
theorem nz_upL (f : Nat → Nat) (k v : Nat) : vp_updL (fun j => lN (f j)) k (lN v) = fun j => lN (va_up f k v j) := by
  funext j
  unfold vp_updL va_up
  by_cases h : j = k <;> simp [h]
theorem nz_cpy (f g : Nat → Nat) (sp dp n : Nat) : va_cpy (fun j => nI (f j)) (fun j => nI (g j)) sp dp n = fun j => nI (va_cpy f g sp dp n j) := by
  funext j
  unfold va_cpy
  by_cases h : dp ≤ j ∧ j < dp + n <;> simp [h]
theorem nz_cpyL (f g : Nat → Nat) (sp dp n : Nat) : va_cpy (fun j => lN (f j)) (fun j => lN (g j)) sp dp n = fun j => lN (va_cpy f g sp dp n j) := by
  funext j
  unfold va_cpy
  by_cases h : dp ≤ j ∧ j < dp + n <;> simp [h]
theorem nz_b8 : ∀ v, v < 128 → vp_nar .byte (nI v) = nI v ∧ fits .byte (.int (nI v)) = true ∧ (nI v).toInt8.toInt32 = nI v := by decide +kernel
def bI (b : Bool) : Int32 := if b then 1 else 0
theorem bI_nar (b : Bool) : narrow .boolean (.int (bI b)) = .int (bI b) := by cases b <;> rfl
section NZ
variable {p : Program} {l : Launch} {e : Env} {R : Room} {s : State} {m : MethodId} {args : Array Value} {below : List Frame} {meth : Method} {c : Code} {H : Heap} {locs : List Loc} {cells slots : Nat} {Q : State → Prop}
variable {cc : ByteArray} {pc : Nat} {ls : Array Slot} {rest : List Value}
theorem nz_top {x y : Int32} (h : x = y) (kk : W p l e R s m args below meth c H locs cells slots Q (F0 m pc ls (.int y :: rest))) : W p l e R s m args below meth c H locs cells slots Q (F0 m pc ls (.int x :: rest)) := h ▸ kk
theorem nz_topl {x y : Int64} (h : x = y) (kk : W p l e R s m args below meth c H locs cells slots Q (F0 m pc ls (.long y :: rest))) : W p l e R s m args below meth c H locs cells slots Q (F0 m pc ls (.long x :: rest)) := h ▸ kk
theorem nz_iadd {a b : Nat} (hexec : p.tables.exec = Jvm.exec) (hb : c.code = cc) (hdg : decode cc pc = .ok (.iadd, 1)) (kk : W p l e R s m args below meth c H locs cells slots Q (F0 m (pc + 1) ls (.int (nI (a + b)) :: rest))) : W p l e R s m args below meth c H locs cells slots Q (F0 m pc ls (.int (nI b) :: .int (nI a) :: rest)) := lv_iadd hexec hb hdg (nz_top (nI_add a b) kk)
theorem nz_isub {a b : Nat} (hexec : p.tables.exec = Jvm.exec) (hb : c.code = cc) (hdg : decode cc pc = .ok (.isub, 1)) (h : b ≤ a) (kk : W p l e R s m args below meth c H locs cells slots Q (F0 m (pc + 1) ls (.int (nI (a - b)) :: rest))) : W p l e R s m args below meth c H locs cells slots Q (F0 m pc ls (.int (nI b) :: .int (nI a) :: rest)) := lv_isub hexec hb hdg (nz_top (pk_sub h) kk)
theorem nz_imul {a b : Nat} (hexec : p.tables.exec = Jvm.exec) (hb : c.code = cc) (hdg : decode cc pc = .ok (.imul, 1)) (kk : W p l e R s m args below meth c H locs cells slots Q (F0 m (pc + 1) ls (.int (nI (a * b)) :: rest))) : W p l e R s m args below meth c H locs cells slots Q (F0 m pc ls (.int (nI b) :: .int (nI a) :: rest)) := lv_imul hexec hb hdg (nz_top (pk_mul a b) kk)
theorem nz_idiv {a b : Nat} (hexec : p.tables.exec = Jvm.exec) (hb : c.code = cc) (hdg : decode cc pc = .ok (.idiv, 1)) (ha : a < 2 ^ 31) (h0 : 0 < b) (hb2 : b < 2 ^ 31) (kk : W p l e R s m args below meth c H locs cells slots Q (F0 m (pc + 1) ls (.int (nI (a / b)) :: rest))) : W p l e R s m args below meth c H locs cells slots Q (F0 m pc ls (.int (nI b) :: .int (nI a) :: rest)) := lv_idiv hexec hb hdg (nI_ne0 h0 hb2) (nz_top (pk_div ha h0 hb2) kk)
theorem nz_ladd {a b : Nat} (hexec : p.tables.exec = Jvm.exec) (hb : c.code = cc) (hdg : decode cc pc = .ok (.ladd, 1)) (kk : W p l e R s m args below meth c H locs cells slots Q (F0 m (pc + 1) ls (.long (lN (a + b)) :: rest))) : W p l e R s m args below meth c H locs cells slots Q (F0 m pc ls (.long (lN b) :: .long (lN a) :: rest)) := lv_ladd hexec hb hdg (nz_topl (lN_add a b) kk)
theorem nz_i2l {a : Nat} (hexec : p.tables.exec = Jvm.exec) (hb : c.code = cc) (hdg : decode cc pc = .ok (.i2l, 1)) (ha : a < 2 ^ 31) (kk : W p l e R s m args below meth c H locs cells slots Q (F0 m (pc + 1) ls (.long (lN a) :: rest))) : W p l e R s m args below meth c H locs cells slots Q (F0 m pc ls (.int (nI a) :: rest)) := lv_i2l hexec hb hdg (nI_l ha) kk
-- branches over two Nats
theorem nz_cge {a b : Nat} {off : Int} {tgt : Nat} (hexec : p.tables.exec = Jvm.exec) (hb : c.code = cc) (hdg : decode cc pc = .ok (.if_icmp .ge off, 3)) (ht : (pc : Int) + off = (tgt : Int)) (ha : a < 2 ^ 31) (hb2 : b < 2 ^ 31)
    (kt : b ≤ a → W p l e R s m args below meth c H locs cells slots Q (F0 m tgt ls rest)) (kf : a < b → W p l e R s m args below meth c H locs cells slots Q (F0 m (pc + 3) ls rest)) : W p l e R s m args below meth c H locs cells slots Q (F0 m pc ls (.int (nI b) :: .int (nI a) :: rest)) :=
  lv_icmp_ge hexec hb hdg ht (fun h => kt ((nI_leI hb2 ha).mp h)) (fun h => kf (Nat.lt_of_not_le (fun z => h ((nI_leI hb2 ha).mpr z))))
theorem nz_cgt {a b : Nat} {off : Int} {tgt : Nat} (hexec : p.tables.exec = Jvm.exec) (hb : c.code = cc) (hdg : decode cc pc = .ok (.if_icmp .gt off, 3)) (ht : (pc : Int) + off = (tgt : Int)) (ha : a < 2 ^ 31) (hb2 : b < 2 ^ 31)
    (kt : b < a → W p l e R s m args below meth c H locs cells slots Q (F0 m tgt ls rest)) (kf : a ≤ b → W p l e R s m args below meth c H locs cells slots Q (F0 m (pc + 3) ls rest)) : W p l e R s m args below meth c H locs cells slots Q (F0 m pc ls (.int (nI b) :: .int (nI a) :: rest)) :=
  lv_icmp_gt hexec hb hdg ht (fun h => kt ((nI_ltI hb2 ha).mp h)) (fun h => kf (Nat.le_of_not_lt (fun z => h ((nI_ltI hb2 ha).mpr z))))
theorem nz_clt {a b : Nat} {off : Int} {tgt : Nat} (hexec : p.tables.exec = Jvm.exec) (hb : c.code = cc) (hdg : decode cc pc = .ok (.if_icmp .lt off, 3)) (ht : (pc : Int) + off = (tgt : Int)) (ha : a < 2 ^ 31) (hb2 : b < 2 ^ 31)
    (kt : a < b → W p l e R s m args below meth c H locs cells slots Q (F0 m tgt ls rest)) (kf : b ≤ a → W p l e R s m args below meth c H locs cells slots Q (F0 m (pc + 3) ls rest)) : W p l e R s m args below meth c H locs cells slots Q (F0 m pc ls (.int (nI b) :: .int (nI a) :: rest)) :=
  lv_icmp_lt hexec hb hdg ht (fun h => kt ((nI_ltI ha hb2).mp h)) (fun h => kf (Nat.le_of_not_lt (fun z => h ((nI_ltI ha hb2).mpr z))))
theorem nz_cle {a b : Nat} {off : Int} {tgt : Nat} (hexec : p.tables.exec = Jvm.exec) (hb : c.code = cc) (hdg : decode cc pc = .ok (.if_icmp .le off, 3)) (ht : (pc : Int) + off = (tgt : Int)) (ha : a < 2 ^ 31) (hb2 : b < 2 ^ 31)
    (kt : a ≤ b → W p l e R s m args below meth c H locs cells slots Q (F0 m tgt ls rest)) (kf : b < a → W p l e R s m args below meth c H locs cells slots Q (F0 m (pc + 3) ls rest)) : W p l e R s m args below meth c H locs cells slots Q (F0 m pc ls (.int (nI b) :: .int (nI a) :: rest)) :=
  lv_icmp_le hexec hb hdg ht (fun h => kt ((nI_leI ha hb2).mp h)) (fun h => kf (Nat.lt_of_not_le (fun z => h ((nI_leI ha hb2).mpr z))))
theorem nz_ceq {a b : Nat} {off : Int} {tgt : Nat} (hexec : p.tables.exec = Jvm.exec) (hb : c.code = cc) (hdg : decode cc pc = .ok (.if_icmp .eq off, 3)) (ht : (pc : Int) + off = (tgt : Int)) (ha : a < 2 ^ 31) (hb2 : b < 2 ^ 31)
    (kt : a = b → W p l e R s m args below meth c H locs cells slots Q (F0 m tgt ls rest)) (kf : a ≠ b → W p l e R s m args below meth c H locs cells slots Q (F0 m (pc + 3) ls rest)) : W p l e R s m args below meth c H locs cells slots Q (F0 m pc ls (.int (nI b) :: .int (nI a) :: rest)) :=
  lv_icmp_eq hexec hb hdg ht (fun h => kt ((nI_eq ha hb2).mp h)) (fun h => kf (fun z => h ((nI_eq ha hb2).mpr z)))
theorem nz_cne {a b : Nat} {off : Int} {tgt : Nat} (hexec : p.tables.exec = Jvm.exec) (hb : c.code = cc) (hdg : decode cc pc = .ok (.if_icmp .ne off, 3)) (ht : (pc : Int) + off = (tgt : Int)) (ha : a < 2 ^ 31) (hb2 : b < 2 ^ 31)
    (kt : a ≠ b → W p l e R s m args below meth c H locs cells slots Q (F0 m tgt ls rest)) (kf : a = b → W p l e R s m args below meth c H locs cells slots Q (F0 m (pc + 3) ls rest)) : W p l e R s m args below meth c H locs cells slots Q (F0 m pc ls (.int (nI b) :: .int (nI a) :: rest)) :=
  lv_icmp_ne hexec hb hdg ht (fun h => kt (fun z => h ((nI_eq ha hb2).mpr z))) (fun h => kf ((nI_eq ha hb2).mp h))
-- branches over one Nat
theorem nz_iflt {a : Nat} {off : Int} {tgt : Nat} (hexec : p.tables.exec = Jvm.exec) (hb : c.code = cc) (hdg : decode cc pc = .ok (.ifCond .lt off, 3)) (ht : (pc : Int) + off = (tgt : Int)) (ha : a < 2 ^ 31)
    (kf : W p l e R s m args below meth c H locs cells slots Q (F0 m (pc + 3) ls rest)) : W p l e R s m args below meth c H locs cells slots Q (F0 m pc ls (.int (nI a) :: rest)) :=
  lv_if_lt hexec hb hdg ht (fun h => absurd h (nI_pos ha)) (fun _ => kf)
theorem nz_ifge {a : Nat} {off : Int} {tgt : Nat} (hexec : p.tables.exec = Jvm.exec) (hb : c.code = cc) (hdg : decode cc pc = .ok (.ifCond .ge off, 3)) (ht : (pc : Int) + off = (tgt : Int)) (ha : a < 2 ^ 31)
    (kt : W p l e R s m args below meth c H locs cells slots Q (F0 m tgt ls rest)) : W p l e R s m args below meth c H locs cells slots Q (F0 m pc ls (.int (nI a) :: rest)) :=
  lv_if_ge hexec hb hdg ht (fun _ => kt) (fun h => absurd (nI_pos' ha) h)
theorem nz_ifle {a : Nat} {off : Int} {tgt : Nat} (hexec : p.tables.exec = Jvm.exec) (hb : c.code = cc) (hdg : decode cc pc = .ok (.ifCond .le off, 3)) (ht : (pc : Int) + off = (tgt : Int)) (ha : a < 2 ^ 31)
    (kt : a = 0 → W p l e R s m args below meth c H locs cells slots Q (F0 m tgt ls rest)) (kf : 0 < a → W p l e R s m args below meth c H locs cells slots Q (F0 m (pc + 3) ls rest)) : W p l e R s m args below meth c H locs cells slots Q (F0 m pc ls (.int (nI a) :: rest)) :=
  lv_if_le hexec hb hdg ht (fun h => kt (Nat.eq_zero_of_not_pos (fun z => nI_nle z ha h))) (fun h => kf (Nat.pos_of_ne_zero (fun z => h (by subst z; decide))))
theorem nz_ifgt {a : Nat} {off : Int} {tgt : Nat} (hexec : p.tables.exec = Jvm.exec) (hb : c.code = cc) (hdg : decode cc pc = .ok (.ifCond .gt off, 3)) (ht : (pc : Int) + off = (tgt : Int)) (ha : a < 2 ^ 31)
    (kt : 0 < a → W p l e R s m args below meth c H locs cells slots Q (F0 m tgt ls rest)) (kf : a = 0 → W p l e R s m args below meth c H locs cells slots Q (F0 m (pc + 3) ls rest)) : W p l e R s m args below meth c H locs cells slots Q (F0 m pc ls (.int (nI a) :: rest)) :=
  lv_if_gt hexec hb hdg ht (fun h => kt (Nat.pos_of_ne_zero (fun z => absurd h (by subst z; decide)))) (fun h => kf (Nat.eq_zero_of_not_pos (fun z => h (nI_0 ▸ nI_lt z ha))))
theorem nz_ifeq {a : Nat} {off : Int} {tgt : Nat} (hexec : p.tables.exec = Jvm.exec) (hb : c.code = cc) (hdg : decode cc pc = .ok (.ifCond .eq off, 3)) (ht : (pc : Int) + off = (tgt : Int)) (ha : a < 2 ^ 31)
    (kt : a = 0 → W p l e R s m args below meth c H locs cells slots Q (F0 m tgt ls rest)) (kf : 0 < a → W p l e R s m args below meth c H locs cells slots Q (F0 m (pc + 3) ls rest)) : W p l e R s m args below meth c H locs cells slots Q (F0 m pc ls (.int (nI a) :: rest)) :=
  lv_if_eq hexec hb hdg ht (fun h => kt (Nat.eq_zero_of_not_pos (fun z => nI_ne0 z ha h))) (fun h => kf (Nat.pos_of_ne_zero (fun z => h (by subst z; decide))))
theorem nz_ifne {a : Nat} {off : Int} {tgt : Nat} (hexec : p.tables.exec = Jvm.exec) (hb : c.code = cc) (hdg : decode cc pc = .ok (.ifCond .ne off, 3)) (ht : (pc : Int) + off = (tgt : Int)) (ha : a < 2 ^ 31)
    (kt : 0 < a → W p l e R s m args below meth c H locs cells slots Q (F0 m tgt ls rest)) (kf : a = 0 → W p l e R s m args below meth c H locs cells slots Q (F0 m (pc + 3) ls rest)) : W p l e R s m args below meth c H locs cells slots Q (F0 m pc ls (.int (nI a) :: rest)) :=
  lv_if_ne hexec hb hdg ht (fun h => kt (Nat.pos_of_ne_zero (fun z => h (by subst z; decide)))) (fun h => kf (Nat.eq_zero_of_not_pos (fun z => nI_ne0 z ha h)))
-- branches over a Bool
theorem nz_ifeqB {b : Bool} {off : Int} {tgt : Nat} (hexec : p.tables.exec = Jvm.exec) (hb : c.code = cc) (hdg : decode cc pc = .ok (.ifCond .eq off, 3)) (ht : (pc : Int) + off = (tgt : Int))
    (kt : b = false → W p l e R s m args below meth c H locs cells slots Q (F0 m tgt ls rest)) (kf : b = true → W p l e R s m args below meth c H locs cells slots Q (F0 m (pc + 3) ls rest)) : W p l e R s m args below meth c H locs cells slots Q (F0 m pc ls (.int (bI b) :: rest)) := by
  cases b with
  | false => exact lv_if_eq hexec hb hdg ht (fun _ => kt rfl) (fun h => absurd (by decide) h)
  | true => exact lv_if_eq hexec hb hdg ht (fun h => absurd h (by decide)) (fun _ => kf rfl)
theorem nz_ifneB {b : Bool} {off : Int} {tgt : Nat} (hexec : p.tables.exec = Jvm.exec) (hb : c.code = cc) (hdg : decode cc pc = .ok (.ifCond .ne off, 3)) (ht : (pc : Int) + off = (tgt : Int))
    (kt : b = true → W p l e R s m args below meth c H locs cells slots Q (F0 m tgt ls rest)) (kf : b = false → W p l e R s m args below meth c H locs cells slots Q (F0 m (pc + 3) ls rest)) : W p l e R s m args below meth c H locs cells slots Q (F0 m pc ls (.int (bI b) :: rest)) := by
  cases b with
  | false => exact lv_if_ne hexec hb hdg ht (fun h => absurd (by decide) h) (fun _ => kf rfl)
  | true => exact lv_if_ne hexec hb hdg ht (fun _ => kt rfl) (fun h => absurd h (by decide))
end NZ
end
section
section NA
variable {p : Program} {l : Launch} {e : Env} {R : Room} {s : State} {m : MethodId} {args : Array Value} {below : List Frame} {meth : Method} {c : Code} {H : Heap} {locs : List Loc} {cells slots : Nat} {Q : State → Prop}
variable {cc : ByteArray} {pc : Nat} {ls : Array Slot} {rest : List Value} {D : va_G} {cl : List vw_C} {A : Nat → Prop} {a : Nat} {tys : List (ClassId × FieldType)} {ws ws' : va_W} {H0 : Heap}
-- reads of rows
theorem nz_iald (hexec : p.tables.exec = Jvm.exec) (hb : c.code = cc) (hK : va_K D cl tys s) (hP : va_P D cl ws H) (q0 t0 : Nat) {cA : ClassId} {n : Nat} {f : Nat → Nat} (ha : ws[q0]? = some (a, .inl (cA, n, .inl (fun j => nI (f j))))) (ht : tys[t0]? = some (cA, .int)) {k : Nat} (hk : k < n) (hn : n < 2 ^ 31) (hdg : decode cc pc = .ok (.iaload, 1))
    (kk : W p l e R s m args below meth c H locs cells slots Q (F0 m (pc + 1) ls (.int (nI (f k)) :: rest))) : W p l e R s m args below meth c H locs cells slots Q (F0 m pc ls (.int (nI k) :: .ref a :: rest)) := by
  refine va_iald hexec hb hK hP q0 t0 ha ht (vp_in_nI hk hn) hdg ?_
  rw [nI_clamp (Nat.lt_trans hk hn)]
  exact kk
theorem nz_bald (hexec : p.tables.exec = Jvm.exec) (hb : c.code = cc) (hK : va_K D cl tys s) (hP : va_P D cl ws H) (q0 t0 : Nat) {cA : ClassId} {n : Nat} {f : Nat → Nat} (ha : ws[q0]? = some (a, .inl (cA, n, .inl (fun j => nI (f j))))) (ht : tys[t0]? = some (cA, .byte)) {k : Nat} (hk : k < n) (hn : n < 2 ^ 31) (hdg : decode cc pc = .ok (.baload, 1))
    (kk : W p l e R s m args below meth c H locs cells slots Q (F0 m (pc + 1) ls (.int (nI (f k)) :: rest))) : W p l e R s m args below meth c H locs cells slots Q (F0 m pc ls (.int (nI k) :: .ref a :: rest)) := by
  refine va_bald hexec hb hK hP q0 t0 ha ht (vp_in_nI hk hn) hdg ?_
  rw [nI_clamp (Nat.lt_trans hk hn)]
  exact kk
theorem nz_baldR (hexec : p.tables.exec = Jvm.exec) (hb : c.code = cc) (hK : va_K D cl tys s) (hP : va_P D cl ws H) (q0 t0 : Nat) {cA : ClassId} {n : Nat} {f : Nat → Int32} (ha : ws[q0]? = some (a, .inl (cA, n, .inl f))) (ht : tys[t0]? = some (cA, .byte)) {k : Nat} (hk : k < n) (hn : n < 2 ^ 31) (hdg : decode cc pc = .ok (.baload, 1))
    (kk : W p l e R s m args below meth c H locs cells slots Q (F0 m (pc + 1) ls (.int (f k) :: rest))) : W p l e R s m args below meth c H locs cells slots Q (F0 m pc ls (.int (nI k) :: .ref a :: rest)) := by
  refine va_bald hexec hb hK hP q0 t0 ha ht (vp_in_nI hk hn) hdg ?_
  rw [nI_clamp (Nat.lt_trans hk hn)]
  exact kk
theorem nz_lald (hexec : p.tables.exec = Jvm.exec) (hb : c.code = cc) (hK : va_K D cl tys s) (hP : va_P D cl ws H) (q0 t0 : Nat) {cA : ClassId} {n : Nat} {f : Nat → Nat} (ha : ws[q0]? = some (a, .inl (cA, n, .inr (.inl (fun j => lN (f j)))))) (ht : tys[t0]? = some (cA, .long)) {k : Nat} (hk : k < n) (hn : n < 2 ^ 31) (hdg : decode cc pc = .ok (.laload, 1))
    (kk : W p l e R s m args below meth c H locs cells slots Q (F0 m (pc + 1) ls (.long (lN (f k)) :: rest))) : W p l e R s m args below meth c H locs cells slots Q (F0 m pc ls (.int (nI k) :: .ref a :: rest)) := by
  refine va_lald hexec hb hK hP q0 t0 ha ht (vp_in_nI hk hn) hdg ?_
  rw [nI_clamp (Nat.lt_trans hk hn)]
  exact kk
-- writes of rows
theorem nz_iast (hexec : p.tables.exec = Jvm.exec) (hb : c.code = cc) (hK : va_K D cl tys s) (hP : va_P D cl ws H) (hD : va_D A ws) (hS : va_S A H0 H locs) (q0 t0 : Nat) {cA : ClassId} {n : Nat} {f : Nat → Nat} (ha : ws[q0]? = some (a, .inl (cA, n, .inl (fun j => nI (f j))))) (ht : tys[t0]? = some (cA, .int)) {k v : Nat} (hk : k < n) (hn : n < 2 ^ 31) (hdg : decode cc pc = .ok (.iastore, 1)) (hw : ws.set q0 (a, .inl (cA, n, .inl (fun j => nI (va_up f k v j)))) = ws')
    (kk : ∀ (H1 : Heap) (locs1 : List Loc), va_P D cl ws' H1 → va_S A H0 H1 locs1 → W p l e R s m args below meth c H1 locs1 cells slots Q (F0 m (pc + 1) ls rest)) : W p l e R s m args below meth c H locs cells slots Q (F0 m pc ls (.int (nI v) :: .int (nI k) :: .ref a :: rest)) := by
  refine va_iast hexec hb hK hP hD hS q0 t0 ha ht (vp_in_nI hk hn) hdg (fun H1 locs1 h1 _ h3 => kk H1 locs1 ?_ h3)
  rw [nI_clamp (Nat.lt_trans hk hn), nz_up] at h1
  rw [← hw]
  exact h1
theorem nz_bast (hexec : p.tables.exec = Jvm.exec) (hb : c.code = cc) (hK : va_K D cl tys s) (hP : va_P D cl ws H) (hD : va_D A ws) (hS : va_S A H0 H locs) (q0 t0 : Nat) {cA : ClassId} {n : Nat} {f : Nat → Nat} (ha : ws[q0]? = some (a, .inl (cA, n, .inl (fun j => nI (f j))))) (ht : tys[t0]? = some (cA, .byte)) {k v : Nat} (hk : k < n) (hn : n < 2 ^ 31) (hv : v < 128) (hdg : decode cc pc = .ok (.bastore, 1)) (hw : ws.set q0 (a, .inl (cA, n, .inl (fun j => nI (va_up f k v j)))) = ws')
    (kk : ∀ (H1 : Heap) (locs1 : List Loc), va_P D cl ws' H1 → va_S A H0 H1 locs1 → W p l e R s m args below meth c H1 locs1 cells slots Q (F0 m (pc + 1) ls rest)) : W p l e R s m args below meth c H locs cells slots Q (F0 m pc ls (.int (nI v) :: .int (nI k) :: .ref a :: rest)) := by
  refine va_bast hexec hb hK hP hD hS q0 t0 ha ht (vp_in_nI hk hn) hdg (fun H1 locs1 h1 _ h3 => kk H1 locs1 ?_ h3)
  rw [nI_clamp (Nat.lt_trans hk hn), (nz_b8 v hv).1, nz_up] at h1
  rw [← hw]
  exact h1
theorem nz_bastR (hexec : p.tables.exec = Jvm.exec) (hb : c.code = cc) (hK : va_K D cl tys s) (hP : va_P D cl ws H) (hD : va_D A ws) (hS : va_S A H0 H locs) (q0 t0 : Nat) {cA : ClassId} {n : Nat} {f : Nat → Int32} (ha : ws[q0]? = some (a, .inl (cA, n, .inl f))) (ht : tys[t0]? = some (cA, .byte)) {k : Nat} {v : Int32} (hk : k < n) (hn : n < 2 ^ 31) (hdg : decode cc pc = .ok (.bastore, 1)) (hw : ws.set q0 (a, .inl (cA, n, .inl (upd f k v.toInt8.toInt32))) = ws')
    (kk : ∀ (H1 : Heap) (locs1 : List Loc), va_P D cl ws' H1 → va_S A H0 H1 locs1 → W p l e R s m args below meth c H1 locs1 cells slots Q (F0 m (pc + 1) ls rest)) : W p l e R s m args below meth c H locs cells slots Q (F0 m pc ls (.int v :: .int (nI k) :: .ref a :: rest)) := by
  refine va_bast hexec hb hK hP hD hS q0 t0 ha ht (vp_in_nI hk hn) hdg (fun H1 locs1 h1 _ h3 => kk H1 locs1 ?_ h3)
  rw [nI_clamp (Nat.lt_trans hk hn), vp_nar_byte] at h1
  rw [← hw]
  exact h1
theorem nz_last (hexec : p.tables.exec = Jvm.exec) (hb : c.code = cc) (hK : va_K D cl tys s) (hP : va_P D cl ws H) (hD : va_D A ws) (hS : va_S A H0 H locs) (q0 t0 : Nat) {cA : ClassId} {n : Nat} {f : Nat → Nat} (ha : ws[q0]? = some (a, .inl (cA, n, .inr (.inl (fun j => lN (f j)))))) (ht : tys[t0]? = some (cA, .long)) {k v : Nat} (hk : k < n) (hn : n < 2 ^ 31) (hdg : decode cc pc = .ok (.lastore, 1)) (hw : ws.set q0 (a, .inl (cA, n, .inr (.inl (fun j => lN (va_up f k v j))))) = ws')
    (kk : ∀ (H1 : Heap) (locs1 : List Loc), va_P D cl ws' H1 → va_S A H0 H1 locs1 → W p l e R s m args below meth c H1 locs1 cells slots Q (F0 m (pc + 1) ls rest)) : W p l e R s m args below meth c H locs cells slots Q (F0 m pc ls (.long (lN v) :: .int (nI k) :: .ref a :: rest)) := by
  refine va_last hexec hb hK hP hD hS q0 t0 ha ht (vp_in_nI hk hn) hdg (fun H1 locs1 h1 _ h3 => kk H1 locs1 ?_ h3)
  rw [nI_clamp (Nat.lt_trans hk hn), nz_upL] at h1
  rw [← hw]
  exact h1
-- arraycopy between rows of Nats
theorem nz_copyi (hexec : p.tables.exec = Jvm.exec) (hb : c.code = cc) (hml : c.maxLocals = ls.size) {own : String} {index : Nat} (hown : s.vm.findClass own = some m.cls) (hlink : (Cond.methodLink own index arraycopyName).before args s = true) (hnat : (Cond.native arraycopyName).before args s = true) (hstat : (Cond.static arraycopyName).before args s = true) (hini : (Cond.initialized "java/lang/System").before args s = true)
    (hK : va_K D cl tys s) (hP : va_P D cl ws H) (hD : va_D A ws) (hS : va_S A H0 H locs) (q0 q1 t0 t1 : Nat) {a0 : Nat} {c0 c1 : ClassId} {n0 n1 : Nat} {f g : Nat → Nat} {ty : FieldType} (ha0 : ws[q0]? = some (a0, .inl (c0, n0, .inl (fun j => nI (f j))))) (ha1 : ws[q1]? = some (a, .inl (c1, n1, .inl (fun j => nI (g j))))) (ht0 : tys[t0]? = some (c0, ty)) (ht1 : tys[t1]? = some (c1, ty)) (hprim : refKind ty = false)
    {sp dp n : Nat} (h1 : sp < 2 ^ 31) (h2 : dp < 2 ^ 31) (h3 : n < 2 ^ 31) (h4 : sp + n ≤ n0) (h5 : dp + n ≤ n1) (hfit : ∀ i, i < n → fits ty (.int (nI (f (sp + i)))) = true)
    (hframes : 1 ≤ R.frames) (hlocals : (rest.map fun v => v.category).sum + (nativeFrameWords "java/lang/System" "arraycopy" 5 + 11) ≤ R.locals) (hdg : decode cc pc = .ok (.invokestatic index, 3)) (hw : ws.set q1 (a, .inl (c1, n1, .inl (fun j => nI (va_cpy f g sp dp n j)))) = ws')
    (kk : ∀ (H1 : Heap) (locs1 : List Loc), va_P D cl ws' H1 → va_S A H0 H1 locs1 → W p l e R s m args below meth c H1 locs1 cells slots Q (F0 m (pc + 3) ls rest)) : W p l e R s m args below meth c H locs cells slots Q (F0 m pc ls (.int (nI n) :: .int (nI dp) :: .ref a :: .int (nI sp) :: .ref a0 :: rest)) := by
  refine va_copyi hexec hb hml hown hlink hnat hstat hini hK hP hD hS q0 q1 t0 t1 ha0 ha1 ht0 ht1 hprim (nI_pos h1) (nI_pos h2) (nI_pos h3) (by rw [nI_clamp h1, nI_clamp h3]; exact h4) (by rw [nI_clamp h2, nI_clamp h3]; exact h5) (by rw [nI_clamp h1, nI_clamp h3]; exact hfit) hframes hlocals hdg (fun H1 locs1 g1 _ g3 => kk H1 locs1 ?_ g3)
  rw [nI_clamp h1, nI_clamp h2, nI_clamp h3, nz_cpy] at g1
  rw [← hw]
  exact g1
theorem nz_copyl (hexec : p.tables.exec = Jvm.exec) (hb : c.code = cc) (hml : c.maxLocals = ls.size) {own : String} {index : Nat} (hown : s.vm.findClass own = some m.cls) (hlink : (Cond.methodLink own index arraycopyName).before args s = true) (hnat : (Cond.native arraycopyName).before args s = true) (hstat : (Cond.static arraycopyName).before args s = true) (hini : (Cond.initialized "java/lang/System").before args s = true)
    (hK : va_K D cl tys s) (hP : va_P D cl ws H) (hD : va_D A ws) (hS : va_S A H0 H locs) (q0 q1 t0 t1 : Nat) {a0 : Nat} {c0 c1 : ClassId} {n0 n1 : Nat} {f g : Nat → Nat} {ty : FieldType} (ha0 : ws[q0]? = some (a0, .inl (c0, n0, .inr (.inl (fun j => lN (f j)))))) (ha1 : ws[q1]? = some (a, .inl (c1, n1, .inr (.inl (fun j => lN (g j)))))) (ht0 : tys[t0]? = some (c0, ty)) (ht1 : tys[t1]? = some (c1, ty)) (hprim : refKind ty = false)
    {sp dp n : Nat} (h1 : sp < 2 ^ 31) (h2 : dp < 2 ^ 31) (h3 : n < 2 ^ 31) (h4 : sp + n ≤ n0) (h5 : dp + n ≤ n1) (hfit : ∀ i, i < n → fits ty (.long (lN (f (sp + i)))) = true)
    (hframes : 1 ≤ R.frames) (hlocals : (rest.map fun v => v.category).sum + (nativeFrameWords "java/lang/System" "arraycopy" 5 + 11) ≤ R.locals) (hdg : decode cc pc = .ok (.invokestatic index, 3)) (hw : ws.set q1 (a, .inl (c1, n1, .inr (.inl (fun j => lN (va_cpy f g sp dp n j))))) = ws')
    (kk : ∀ (H1 : Heap) (locs1 : List Loc), va_P D cl ws' H1 → va_S A H0 H1 locs1 → W p l e R s m args below meth c H1 locs1 cells slots Q (F0 m (pc + 3) ls rest)) : W p l e R s m args below meth c H locs cells slots Q (F0 m pc ls (.int (nI n) :: .int (nI dp) :: .ref a :: .int (nI sp) :: .ref a0 :: rest)) := by
  refine va_copyl hexec hb hml hown hlink hnat hstat hini hK hP hD hS q0 q1 t0 t1 ha0 ha1 ht0 ht1 hprim (nI_pos h1) (nI_pos h2) (nI_pos h3) (by rw [nI_clamp h1, nI_clamp h3]; exact h4) (by rw [nI_clamp h2, nI_clamp h3]; exact h5) (by rw [nI_clamp h1, nI_clamp h3]; exact hfit) hframes hlocals hdg (fun H1 locs1 g1 _ g3 => kk H1 locs1 ?_ g3)
  rw [nI_clamp h1, nI_clamp h2, nI_clamp h3, nz_cpyL] at g1
  rw [← hw]
  exact g1
-- fields
theorem nz_put (hexec : p.tables.exec = Jvm.exec) (hb : c.code = cc) {own ref C : String} {T : u_T} {N ci index : Nat} {Ts : List Cond} (hts : ∀ w ∈ Ts, w.before args s = true) (hin : ∀ w ∈ u_ws C T N, w ∈ Ts) (ty0 : Nat → FieldType) (hty : ∀ k, k < N → parseFieldDescriptor (T k).2.2.1 = some (ty0 k)) (hnm : ∀ a, a < N → ∀ b, b < N → a ≠ b → (T a).2.1 ≠ (T b).2.1) (hown : s.vm.findClass own = some m.cls) (hK : va_K D cl tys s) (hP : va_P D cl ws H) (hD : va_D A ws) (hS0 : va_S A H0 H locs) (q0 : Nat) {fs : List Value} (he : ws[q0]? = some (a, .inr (ci, fs))) (hc : cl[ci]? = some (C, T, N)) (k : Nat) (hk : k < N) (hlink : (Cond.fieldLink own index ref (T k).2.1 (T k).2.2.1).before args s = true) (hsame : ∀ x, s.fieldFound? (T k).1 (T k).2.1 (T k).2.2.1 = some x → s.fieldFound? ref (T k).2.1 (T k).2.2.1 = some x) (hfin : (T k).2.2.2 = false) {ty : FieldType} {v : Value} (hd : parseFieldDescriptor (T k).2.2.1 = some ty) (hn : narrow ty v = v) (hfit : fits ty v = true) (hl : k < fs.length)
    (hdg : decode cc pc = .ok (.putfield index, 3)) (hw : ws.set q0 (a, .inr (ci, fs.set k v)) = ws') (kk : ∀ (H1 : Heap) (locs1 : List Loc), va_P D cl ws' H1 → va_S A H0 H1 locs1 → W p l e R s m args below meth c H1 locs1 cells slots Q (F0 m (pc + 3) ls rest)) : W p l e R s m args below meth c H locs cells slots Q (F0 m pc ls (v :: .ref a :: rest)) :=
  va_put hexec hb hts hin ty0 hty hnm hown hK hP hD hS0 q0 he hc k hk hlink hsame hfin hd hn hfit hl hdg (fun H1 locs1 h1 _ h3 => kk H1 locs1 (hw ▸ h1) h3)
-- calls
theorem nz_callR {st0 : List Value} {v : Value} {ar : Array Value} (hr : va_Run p l e R s m args below meth c H locs cells slots 0 0 (F0 m pc ls st0) rest (rdQ v ar) (fun _ => False))
    (kk : W p l e R s m args below meth c H locs cells slots Q (F0 m (pc + 3) ls (v :: rest))) : W p l e R s m args below meth c H locs cells slots Q (F0 m pc ls st0) := by
  intro T hT X
  obtain ⟨v', st₀, t, T', L, h0, X', hL, e1, e2, ⟨hv, hh⟩, st⟩ := hr T hT X
  cases hv
  obtain ⟨t2, a1, b1⟩ := kk T' (by rw [e1, hh, h0]) (Stand.forget X' (fun q h => (hL q h).elim))
  exact ⟨t2, st t2 a1, b1⟩
theorem nz_callW {st0 : List Value} {ov : Option Value} {B : Heap → Prop} {A0 : Nat → Prop} {ar : Array Value} (hr : va_Run p l e R s m args below meth c H locs cells slots 0 0 (F0 m pc ls st0) rest (wrQ ov B A ar) A) (hS : va_S A0 H0 H locs) (hA : ∀ q, A q → A0 q)
    (kk : ∀ (H1 : Heap) (locs1 : List Loc), B H1 → H.size ≤ H1.size → (∀ q : Nat, q < H.size → ¬ A q → H1[q]? = H[q]?) → va_S A0 H0 H1 locs1 → W p l e R s m args below meth c H1 locs1 cells slots Q (F0 m (pc + 3) ls (ov.toList ++ rest))) : W p l e R s m args below meth c H locs cells slots Q (F0 m pc ls st0) := by
  intro T hT X
  obtain ⟨v, st₀, t, T', L, h0, X', hL, e1, e2, ⟨hv, hb, hz, hk⟩, st⟩ := hr T hT X
  cases hv
  rw [h0] at hz hk
  obtain ⟨t2, a1, b1⟩ := kk T'.heap (locs ++ L) (by rw [e1]; exact hb) (by rw [e1]; exact hz) (fun q h1 h2 => by rw [e1]; exact hk q h1 h2)
    ⟨Nat.le_trans hS.1 (by rw [e1]; exact hz), fun q h1 h2 => by rw [e1, hk q (Nat.lt_of_lt_of_le h1 hS.1) (fun z => h2 (hA q z))]; exact hS.2.1 q h1 h2, fun q hq => by
      rcases List.mem_append.mp hq with h | h
      · exact hS.2.2 q h
      · exact hA _ (hL q h)⟩ T' rfl X'
  exact ⟨t2, st t2 a1, b1⟩
end NA
section NM
variable {l : Launch} {y : MethodName} {ws ws' : List Cond} {rm : Room} {cc : ByteArray} {maxL : Nat} {rt : FieldType} {D : va_G} {cl : List vw_C} {w : va_W} {tys : List (ClassId × FieldType)} {av : List Value} {A : Nat → Prop} {B : Heap → Prop}
theorem nz_metRi {x : Int32} (hy : plainName y.cls = true) (hw : ws = Cond.code y cc maxL (some rt) :: ws') (hlen : (lg_sl av).length ≤ maxL) (hn : narrow rt (.int x) = .int x)
    (body : ∀ (p : Program) (e : Env) (s : State) (m : MethodId) (args : Array Value) (below : List Frame) (meth : Method) (c : Code) (Q : State → Prop), p.tables.exec = Jvm.exec → c.code = cc → c.maxLocals = maxL → (∀ w ∈ ws, w.before args s = true) → s.vm.findClass y.cls = some m.cls → va_P D cl w s.heap → va_K D cl tys s →
      (∀ (pc : Nat) (ls : Array Slot), decode cc pc = .ok (.ireturn, 1) → W p l e rm s m args below meth c s.heap [] 0 0 Q (F0 m pc ls [.int x])) →
      ∀ ls : Array Slot, lv_has ls maxL (lv_args 0 av) → W p l e rm s m args below meth c s.heap [] 0 0 Q (F0 m 0 ls [])) : Met l y ws rm (wdP D cl w tys av) (rdQ (.int x)) 0 0 (fun _ => False) := by
  refine Met.ofW (cc := cc) (maxL := maxL) (ret := some rt) hy hw ?_
  intro p e s m args below meth c s₁ B hml hv
  obtain ⟨hargs, hP, hK⟩ := hv
  have hfr : entryFrame m args maxL = F0 m 0 ((lg_sl av ++ List.replicate (maxL - (lg_sl av).length) Slot.unset).toArray) [] := by rw [hargs]; exact lg_entry_eq m av maxL
  rw [hfr]
  have hlocks := B.notSynchronized
  exact body p e s m args below meth c _ B.exec B.bytes hml (atoms_spec (ws := ws) B.pre) (findClass_of_methodNamed B.named) hP hK (fun pc ls hd => W.zret B.exec B.bytes B.returns hn (fun t ht _ => ⟨rfl, ht⟩) (fun _ h => by cases h) hd) _ (lv_entry av hlen)
theorem nz_metRl {x : Int64} (hy : plainName y.cls = true) (hw : ws = Cond.code y cc maxL (some .long) :: ws') (hlen : (lg_sl av).length ≤ maxL)
    (body : ∀ (p : Program) (e : Env) (s : State) (m : MethodId) (args : Array Value) (below : List Frame) (meth : Method) (c : Code) (Q : State → Prop), p.tables.exec = Jvm.exec → c.code = cc → c.maxLocals = maxL → (∀ w ∈ ws, w.before args s = true) → s.vm.findClass y.cls = some m.cls → va_P D cl w s.heap → va_K D cl tys s →
      (∀ (pc : Nat) (ls : Array Slot), decode cc pc = .ok (.lreturn, 1) → W p l e rm s m args below meth c s.heap [] 0 0 Q (F0 m pc ls [.long x])) →
      ∀ ls : Array Slot, lv_has ls maxL (lv_args 0 av) → W p l e rm s m args below meth c s.heap [] 0 0 Q (F0 m 0 ls [])) : Met l y ws rm (wdP D cl w tys av) (rdQ (.long x)) 0 0 (fun _ => False) := by
  refine Met.ofW (cc := cc) (maxL := maxL) (ret := some .long) hy hw ?_
  intro p e s m args below meth c s₁ B hml hv
  obtain ⟨hargs, hP, hK⟩ := hv
  have hfr : entryFrame m args maxL = F0 m 0 ((lg_sl av ++ List.replicate (maxL - (lg_sl av).length) Slot.unset).toArray) [] := by rw [hargs]; exact lg_entry_eq m av maxL
  rw [hfr]
  have hlocks := B.notSynchronized
  exact body p e s m args below meth c _ B.exec B.bytes hml (atoms_spec (ws := ws) B.pre) (findClass_of_methodNamed B.named) hP hK (fun pc ls hd => W.lret B.exec B.bytes B.returns (fun t ht _ => ⟨rfl, ht⟩) (fun _ h => by cases h) hd) _ (lv_entry av hlen)
theorem nz_metWi {x : Int32} (hy : plainName y.cls = true) (hw : ws = Cond.code y cc maxL (some rt) :: ws') (hlen : (lg_sl av).length ≤ maxL) (hn : narrow rt (.int x) = .int x)
    (body : ∀ (p : Program) (e : Env) (s : State) (m : MethodId) (args : Array Value) (below : List Frame) (meth : Method) (c : Code) (Q : State → Prop), p.tables.exec = Jvm.exec → c.code = cc → c.maxLocals = maxL → (∀ w ∈ ws, w.before args s = true) → s.vm.findClass y.cls = some m.cls → va_P D cl w s.heap → va_K D cl tys s →
      (∀ (pc : Nat) (ls : Array Slot) (H : Heap) (locs : List Loc), decode cc pc = .ok (.ireturn, 1) → B H → va_S A s.heap H locs → W p l e rm s m args below meth c H locs 0 0 Q (F0 m pc ls [.int x])) →
      ∀ ls : Array Slot, lv_has ls maxL (lv_args 0 av) → W p l e rm s m args below meth c s.heap [] 0 0 Q (F0 m 0 ls [])) : Met l y ws rm (wdP D cl w tys av) (wrQ (some (.int x)) B A) 0 0 A := by
  refine Met.ofW (cc := cc) (maxL := maxL) (ret := some rt) hy hw ?_
  intro p e s m args below meth c s₁ B hml hv
  obtain ⟨hargs, hP, hK⟩ := hv
  have hfr : entryFrame m args maxL = F0 m 0 ((lg_sl av ++ List.replicate (maxL - (lg_sl av).length) Slot.unset).toArray) [] := by rw [hargs]; exact lg_entry_eq m av maxL
  rw [hfr]
  have hlocks := B.notSynchronized
  exact body p e s m args below meth c _ B.exec B.bytes hml (atoms_spec (ws := ws) B.pre) (findClass_of_methodNamed B.named) hP hK (fun pc ls H locs hd hB hS => W.zret B.exec B.bytes B.returns hn (fun t ht _ => ⟨rfl, by rw [ht]; exact hB, hS.F ht⟩) hS.2.2 hd) _ (lv_entry av hlen)
theorem nz_metWl {x : Int64} (hy : plainName y.cls = true) (hw : ws = Cond.code y cc maxL (some .long) :: ws') (hlen : (lg_sl av).length ≤ maxL)
    (body : ∀ (p : Program) (e : Env) (s : State) (m : MethodId) (args : Array Value) (below : List Frame) (meth : Method) (c : Code) (Q : State → Prop), p.tables.exec = Jvm.exec → c.code = cc → c.maxLocals = maxL → (∀ w ∈ ws, w.before args s = true) → s.vm.findClass y.cls = some m.cls → va_P D cl w s.heap → va_K D cl tys s →
      (∀ (pc : Nat) (ls : Array Slot) (H : Heap) (locs : List Loc), decode cc pc = .ok (.lreturn, 1) → B H → va_S A s.heap H locs → W p l e rm s m args below meth c H locs 0 0 Q (F0 m pc ls [.long x])) →
      ∀ ls : Array Slot, lv_has ls maxL (lv_args 0 av) → W p l e rm s m args below meth c s.heap [] 0 0 Q (F0 m 0 ls [])) : Met l y ws rm (wdP D cl w tys av) (wrQ (some (.long x)) B A) 0 0 A := by
  refine Met.ofW (cc := cc) (maxL := maxL) (ret := some .long) hy hw ?_
  intro p e s m args below meth c s₁ B hml hv
  obtain ⟨hargs, hP, hK⟩ := hv
  have hfr : entryFrame m args maxL = F0 m 0 ((lg_sl av ++ List.replicate (maxL - (lg_sl av).length) Slot.unset).toArray) [] := by rw [hargs]; exact lg_entry_eq m av maxL
  rw [hfr]
  have hlocks := B.notSynchronized
  exact body p e s m args below meth c _ B.exec B.bytes hml (atoms_spec (ws := ws) B.pre) (findClass_of_methodNamed B.named) hP hK (fun pc ls H locs hd hB hS => W.lret B.exec B.bytes B.returns (fun t ht _ => ⟨rfl, by rw [ht]; exact hB, hS.F ht⟩) hS.2.2 hd) _ (lv_entry av hlen)
theorem nz_metWv (hy : plainName y.cls = true) (hw : ws = Cond.code y cc maxL none :: ws') (hlen : (lg_sl av).length ≤ maxL)
    (body : ∀ (p : Program) (e : Env) (s : State) (m : MethodId) (args : Array Value) (below : List Frame) (meth : Method) (c : Code) (Q : State → Prop), p.tables.exec = Jvm.exec → c.code = cc → c.maxLocals = maxL → (∀ w ∈ ws, w.before args s = true) → s.vm.findClass y.cls = some m.cls → va_P D cl w s.heap → va_K D cl tys s →
      (∀ (pc : Nat) (ls : Array Slot) (H : Heap) (locs : List Loc), decode cc pc = .ok (.return_, 1) → B H → va_S A s.heap H locs → W p l e rm s m args below meth c H locs 0 0 Q (F0 m pc ls [])) →
      ∀ ls : Array Slot, lv_has ls maxL (lv_args 0 av) → W p l e rm s m args below meth c s.heap [] 0 0 Q (F0 m 0 ls [])) : Met l y ws rm (wdP D cl w tys av) (wrQ none B A) 0 0 A := by
  refine Met.ofW (cc := cc) (maxL := maxL) (ret := none) hy hw ?_
  intro p e s m args below meth c s₁ B hml hv
  obtain ⟨hargs, hP, hK⟩ := hv
  have hfr : entryFrame m args maxL = F0 m 0 ((lg_sl av ++ List.replicate (maxL - (lg_sl av).length) Slot.unset).toArray) [] := by rw [hargs]; exact lg_entry_eq m av maxL
  rw [hfr]
  have hlocks := B.notSynchronized
  exact body p e s m args below meth c _ B.exec B.bytes hml (atoms_spec (ws := ws) B.pre) (findClass_of_methodNamed B.named) hP hK (fun pc ls H locs hd hB hS => W.vret B.exec B.bytes B.returns (fun t ht _ => ⟨rfl, by rw [ht]; exact hB, hS.F ht⟩) hS.2.2 hd) _ (lv_entry av hlen)
end NM
end
section
/-! The worlds: the cells of one TypoSuggester (addresses a 0 .. a 16) and of one TypoSuggesterModel (b 0 .. b 11). -/
abbrev tyX (cs : Nat → ClassId) : List (ClassId × FieldType) := [(cs 0, .byte), (cs 1, .int), (cs 2, .long), (cs 3, .boolean)]
abbrev wX (a : Nat → Nat) (cs : Nat → ClassId) (tp : (Nat → Int32) × Nat) (wd : (Nat → Nat) × Nat) (lx : (Nat → Nat) × (Nat → Nat) × (Nat → Nat) × Nat) (ro : Nat → Nat) (rs : (Nat → Nat) × (Nat → Nat) × (Nat → Nat) × (Nat → Nat) × (Nat → Nat) × Nat) : va_W := [(a 0, .inr (5, [.ref (a 1), .ref (a 2), .ref (a 3), .ref (a 4), .ref (a 5)])),
  (a 1, .inr (3, [.ref (a 6), .int (nI (tp.2))])),
  (a 2, .inr (4, [.ref (a 7), .int (nI (wd.2))])),
  (a 3, .inr (0, [.ref (a 8), .ref (a 9), .ref (a 10), .int (nI (lx.2.2.2))])),
  (a 4, .inr (1, [.ref (a 11)])),
  (a 5, .inr (2, [.ref (a 12), .ref (a 13), .ref (a 14), .ref (a 15), .ref (a 16), .int (nI (rs.2.2.2.2.2))])),
  (a 6, .inl (cs 0, 400, .inl tp.1)),
  (a 7, .inl (cs 0, 24, .inl (fun j => nI (wd.1 j)))),
  (a 8, .inl (cs 0, 6000, .inl (fun j => nI (lx.1 j)))),
  (a 9, .inl (cs 1, 601, .inl (fun j => nI (lx.2.1 j)))),
  (a 10, .inl (cs 2, 600, .inr (.inl (fun j => lN (lx.2.2.1 j))))),
  (a 11, .inl (cs 1, 25, .inl (fun j => nI (ro j)))),
  (a 12, .inl (cs 1, 50, .inl (fun j => nI (rs.1 j)))),
  (a 13, .inl (cs 2, 50, .inr (.inl (fun j => lN (rs.2.1 j))))),
  (a 14, .inl (cs 1, 50, .inl (fun j => nI (rs.2.2.1 j)))),
  (a 15, .inl (cs 1, 50, .inl (fun j => nI (rs.2.2.2.1 j)))),
  (a 16, .inl (cs 0, 1200, .inl (fun j => nI (rs.2.2.2.2.1 j))))]
def inX (a : Nat → Nat) (q : Nat) : Prop := ∃ k, k < 17 ∧ q = a k
def wInj (a : Nat → Nat) : Prop := ∀ i j, i < 17 → j < 17 → a i = a j → i = j
theorem wX_at {a : Nat → Nat} {cs : Nat → ClassId} {tp : (Nat → Int32) × Nat} {wd : (Nat → Nat) × Nat} {lx : (Nat → Nat) × (Nat → Nat) × (Nat → Nat) × Nat} {ro : Nat → Nat} {rs : (Nat → Nat) × (Nat → Nat) × (Nat → Nat) × (Nat → Nat) × (Nat → Nat) × Nat} {k : Nat} {q : Nat × va_E} (h : (wX a cs tp wd lx ro rs)[k]? = some q) : k < 17 ∧ q.1 = a k := by
  match k, h with
  | 0, h => cases h; exact ⟨by decide, rfl⟩
  | 1, h => cases h; exact ⟨by decide, rfl⟩
  | 2, h => cases h; exact ⟨by decide, rfl⟩
  | 3, h => cases h; exact ⟨by decide, rfl⟩
  | 4, h => cases h; exact ⟨by decide, rfl⟩
  | 5, h => cases h; exact ⟨by decide, rfl⟩
  | 6, h => cases h; exact ⟨by decide, rfl⟩
  | 7, h => cases h; exact ⟨by decide, rfl⟩
  | 8, h => cases h; exact ⟨by decide, rfl⟩
  | 9, h => cases h; exact ⟨by decide, rfl⟩
  | 10, h => cases h; exact ⟨by decide, rfl⟩
  | 11, h => cases h; exact ⟨by decide, rfl⟩
  | 12, h => cases h; exact ⟨by decide, rfl⟩
  | 13, h => cases h; exact ⟨by decide, rfl⟩
  | 14, h => cases h; exact ⟨by decide, rfl⟩
  | 15, h => cases h; exact ⟨by decide, rfl⟩
  | 16, h => cases h; exact ⟨by decide, rfl⟩
  | k + 17, h => simp [wX] at h
theorem wX_D {a : Nat → Nat} {cs : Nat → ClassId} {tp : (Nat → Int32) × Nat} {wd : (Nat → Nat) × Nat} {lx : (Nat → Nat) × (Nat → Nat) × (Nat → Nat) × Nat} {ro : Nat → Nat} {rs : (Nat → Nat) × (Nat → Nat) × (Nat → Nat) × (Nat → Nat) × (Nat → Nat) × Nat} (ha : wInj a) : va_D (inX a) (wX a cs tp wd lx ro rs) :=
  ⟨fun i j p q hp hq e => ha i j (wX_at hp).1 (wX_at hq).1 (by rw [← (wX_at hp).2, ← (wX_at hq).2]; exact e), fun k q hk => ⟨k, (wX_at hk).1, (wX_at hk).2⟩⟩
abbrev wM (b : Nat → Nat) (cs : Nat → ClassId) (mt : (Nat → Int32) × Nat) (ml : (Nat → Nat) × (Nat → Nat) × (Nat → Nat) × Nat × Nat) (mr : (Nat → Nat) × (Nat → Nat) × (Nat → Nat) × (Nat → Nat) × Nat) (mk : (Nat → Bool) × (Nat → Nat) × (Nat → Nat)) : va_W := [(b 0, .inr (6, [.ref (b 1), .int (nI (mt.2)), .int (nI (ml.2.2.2.1)), .int (nI (ml.2.2.2.2)), .ref (b 2), .ref (b 3), .ref (b 4), .int (nI (mr.2.2.2.2)), .ref (b 5), .ref (b 6), .ref (b 7), .ref (b 8), .ref (b 9), .ref (b 10), .ref (b 11)])),
  (b 1, .inl (cs 0, 400, .inl mt.1)),
  (b 2, .inl (cs 0, 14424, .inl (fun j => nI (ml.1 j)))),
  (b 3, .inl (cs 1, 601, .inl (fun j => nI (ml.2.1 j)))),
  (b 4, .inl (cs 2, 601, .inr (.inl (fun j => lN (ml.2.2.1 j))))),
  (b 5, .inl (cs 0, 1200, .inl (fun j => nI (mr.1 j)))),
  (b 6, .inl (cs 1, 50, .inl (fun j => nI (mr.2.1 j)))),
  (b 7, .inl (cs 2, 50, .inr (.inl (fun j => lN (mr.2.2.1 j))))),
  (b 8, .inl (cs 1, 50, .inl (fun j => nI (mr.2.2.2.1 j)))),
  (b 9, .inl (cs 3, 600, .inl (fun j => bI (mk.1 j)))),
  (b 10, .inl (cs 1, 600, .inl (fun j => nI (mk.2.1 j)))),
  (b 11, .inl (cs 1, 25, .inl (fun j => nI (mk.2.2 j))))]
def inM (b : Nat → Nat) (q : Nat) : Prop := ∃ k, k < 12 ∧ q = b k
def wInjM (b : Nat → Nat) : Prop := ∀ i j, i < 12 → j < 12 → b i = b j → i = j
theorem wM_at {b : Nat → Nat} {cs : Nat → ClassId} {mt : (Nat → Int32) × Nat} {ml : (Nat → Nat) × (Nat → Nat) × (Nat → Nat) × Nat × Nat} {mr : (Nat → Nat) × (Nat → Nat) × (Nat → Nat) × (Nat → Nat) × Nat} {mk : (Nat → Bool) × (Nat → Nat) × (Nat → Nat)} {k : Nat} {q : Nat × va_E} (h : (wM b cs mt ml mr mk)[k]? = some q) : k < 12 ∧ q.1 = b k := by
  match k, h with
  | 0, h => cases h; exact ⟨by decide, rfl⟩
  | 1, h => cases h; exact ⟨by decide, rfl⟩
  | 2, h => cases h; exact ⟨by decide, rfl⟩
  | 3, h => cases h; exact ⟨by decide, rfl⟩
  | 4, h => cases h; exact ⟨by decide, rfl⟩
  | 5, h => cases h; exact ⟨by decide, rfl⟩
  | 6, h => cases h; exact ⟨by decide, rfl⟩
  | 7, h => cases h; exact ⟨by decide, rfl⟩
  | 8, h => cases h; exact ⟨by decide, rfl⟩
  | 9, h => cases h; exact ⟨by decide, rfl⟩
  | 10, h => cases h; exact ⟨by decide, rfl⟩
  | 11, h => cases h; exact ⟨by decide, rfl⟩
  | k + 12, h => simp [wM] at h
theorem wM_D {b : Nat → Nat} {cs : Nat → ClassId} {mt : (Nat → Int32) × Nat} {ml : (Nat → Nat) × (Nat → Nat) × (Nat → Nat) × Nat × Nat} {mr : (Nat → Nat) × (Nat → Nat) × (Nat → Nat) × (Nat → Nat) × Nat} {mk : (Nat → Bool) × (Nat → Nat) × (Nat → Nat)} (ha : wInjM b) : va_D (inM b) (wM b cs mt ml mr mk) :=
  ⟨fun i j p q hp hq e => ha i j (wM_at hp).1 (wM_at hq).1 (by rw [← (wM_at hp).2, ← (wM_at hq).2]; exact e), fun k q hk => ⟨k, (wM_at hk).1, (wM_at hk).2⟩⟩
section NB
variable {p : Program} {l : Launch} {e : Env} {R : Room} {s : State} {m : MethodId} {args : Array Value} {below : List Frame} {meth : Method} {c : Code} {H : Heap} {locs : List Loc} {cells slots : Nat} {Q : State → Prop}
variable {cc : ByteArray} {pc : Nat} {ls : Array Slot} {rest : List Value}
theorem nz_mmin (hexec : p.tables.exec = Jvm.exec) (hb : c.code = cc) (hml : c.maxLocals = ls.size) {own : String} {index : Nat} (hown : s.vm.findClass own = some m.cls) (hlink : (Cond.methodLink own index Lib.Math.min.name).before args s = true) (hstat : (Cond.static Lib.Math.min.name).before args s = true) (hini : (Cond.initialized "java/lang/Math").before args s = true) (hcode : (Cond.code Lib.Math.min.name Lib.Math.min.code 2 (some .int)).before args s = true) (hframes : 1 ≤ R.frames) (hlocals : (rest.map fun v => v.category).sum + 13 ≤ R.locals) (hc : cells ≤ R.cells) (hs : slots ≤ R.slots) {a b : Nat} (ha : a < 2 ^ 31) (hb2 : b < 2 ^ 31) (hdg : decode cc pc = .ok (.invokestatic index, 3)) (kk : W p l e R s m args below meth c H locs cells slots Q (F0 m (pc + 3) ls (.int (nI (min a b)) :: rest))) : W p l e R s m args below meth c H locs cells slots Q (F0 m pc ls (.int (nI b) :: .int (nI a) :: rest)) := by
  refine va_mmin hexec hb hml hown hlink hstat hini hcode hframes hlocals hc hs hdg ?_
  refine nz_top (y := nI (min a b)) ?_ kk
  by_cases h : b < a
  · rw [if_pos ((nI_ltI hb2 ha).mpr h), Nat.min_eq_right (Nat.le_of_lt h)]
  · rw [if_neg (fun z => h ((nI_ltI hb2 ha).mp z)), Nat.min_eq_left (Nat.le_of_not_lt h)]
theorem nz_mminl (hexec : p.tables.exec = Jvm.exec) (hb : c.code = cc) (hml : c.maxLocals = ls.size) {own : String} {index : Nat} (hown : s.vm.findClass own = some m.cls) (hlink : (Cond.methodLink own index Lib.MathLoose.min_long.x).before args s = true) (hstat : (Cond.static Lib.MathLoose.min_long.x).before args s = true) (hini : (Cond.initialized "java/lang/Math").before args s = true) (hcode : (Cond.code Lib.MathLoose.min_long.x Lib.MathLoose.min_long.code 4 (some .long)).before args s = true) (hframes : 1 ≤ R.frames) (hlocals : (rest.map fun v => v.category).sum + 15 ≤ R.locals) (hc : cells ≤ R.cells) (hs : slots ≤ R.slots) {a b : Nat} (ha : a < 2 ^ 63) (hb2 : b < 2 ^ 63) (hdg : decode cc pc = .ok (.invokestatic index, 3)) (kk : W p l e R s m args below meth c H locs cells slots Q (F0 m (pc + 3) ls (.long (lN (min a b)) :: rest))) : W p l e R s m args below meth c H locs cells slots Q (F0 m pc ls (.long (lN b) :: .long (lN a) :: rest)) := by
  refine va_mmin_long hexec hb hml hown hlink hstat hini hcode hframes hlocals hc hs hdg ?_
  refine nz_topl (y := lN (min a b)) ?_ kk
  by_cases h : b < a
  · rw [if_pos ((pk_lLT hb2 ha).mpr h), Nat.min_eq_right (Nat.le_of_lt h)]
  · rw [if_neg (fun z => h ((pk_lLT hb2 ha).mp z)), Nat.min_eq_left (Nat.le_of_not_lt h)]
theorem nz_mmaxl (hexec : p.tables.exec = Jvm.exec) (hb : c.code = cc) (hml : c.maxLocals = ls.size) {own : String} {index : Nat} (hown : s.vm.findClass own = some m.cls) (hlink : (Cond.methodLink own index Lib.MathLoose.max_long.x).before args s = true) (hstat : (Cond.static Lib.MathLoose.max_long.x).before args s = true) (hini : (Cond.initialized "java/lang/Math").before args s = true) (hcode : (Cond.code Lib.MathLoose.max_long.x Lib.MathLoose.max_long.code 4 (some .long)).before args s = true) (hframes : 1 ≤ R.frames) (hlocals : (rest.map fun v => v.category).sum + 15 ≤ R.locals) (hc : cells ≤ R.cells) (hs : slots ≤ R.slots) {a b : Nat} (ha : a < 2 ^ 63) (hb2 : b < 2 ^ 63) (hdg : decode cc pc = .ok (.invokestatic index, 3)) (kk : W p l e R s m args below meth c H locs cells slots Q (F0 m (pc + 3) ls (.long (lN (max a b)) :: rest))) : W p l e R s m args below meth c H locs cells slots Q (F0 m pc ls (.long (lN b) :: .long (lN a) :: rest)) := by
  refine va_mmax_long hexec hb hml hown hlink hstat hini hcode hframes hlocals hc hs hdg ?_
  refine nz_topl (y := lN (max a b)) ?_ kk
  by_cases h : b < a
  · rw [if_pos ((pk_lLT hb2 ha).mpr h), Nat.max_eq_left (Nat.le_of_lt h)]
  · rw [if_neg (fun z => h ((pk_lLT hb2 ha).mp z)), Nat.max_eq_right (Nat.le_of_not_lt h)]
theorem nz_llt {a b : Nat} {off : Int} {tgt : Nat} (hexec : p.tables.exec = Jvm.exec) (hb : c.code = cc) (hdg : decode cc pc = .ok (.ifCond .lt off, 3)) (ht : (pc : Int) + off = (tgt : Int)) (ha : a < 2 ^ 63) (hb2 : b < 2 ^ 63) (kt : a < b → W p l e R s m args below meth c H locs cells slots Q (F0 m tgt ls rest)) (kf : b ≤ a → W p l e R s m args below meth c H locs cells slots Q (F0 m (pc + 3) ls rest)) : W p l e R s m args below meth c H locs cells slots Q (F0 m pc ls (.int (lg_cmp (lN a) (lN b)) :: rest)) := by
  rcases Nat.lt_trichotomy a b with h | h | h
  · have e1 : lg_cmp (lN a) (lN b) = -1 := by have h1 : ¬ lN b < lN a := fun z => Nat.lt_asymm h ((pk_lLT hb2 ha).mp z); have h2 : ¬ lN a = lN b := fun z => Nat.ne_of_lt h ((pk_lEQ ha hb2).mp z); simp [lg_cmp, h1, h2]
    rw [e1]
    exact lv_if_lt hexec hb hdg ht (fun z => kt (by omega)) (fun z => by first | exact absurd z (by decide) | exact absurd (by decide) z)
  · have e1 : lg_cmp (lN a) (lN b) = 0 := by subst h; simp [lg_cmp]
    rw [e1]
    exact lv_if_lt hexec hb hdg ht (fun z => by first | exact absurd z (by decide) | exact absurd (by decide) z) (fun z => kf (by omega))
  · have e1 : lg_cmp (lN a) (lN b) = 1 := by have h1 : lN b < lN a := (pk_lLT hb2 ha).mpr h; simp [lg_cmp, h1]
    rw [e1]
    exact lv_if_lt hexec hb hdg ht (fun z => by first | exact absurd z (by decide) | exact absurd (by decide) z) (fun z => kf (by omega))
theorem nz_lge {a b : Nat} {off : Int} {tgt : Nat} (hexec : p.tables.exec = Jvm.exec) (hb : c.code = cc) (hdg : decode cc pc = .ok (.ifCond .ge off, 3)) (ht : (pc : Int) + off = (tgt : Int)) (ha : a < 2 ^ 63) (hb2 : b < 2 ^ 63) (kt : b ≤ a → W p l e R s m args below meth c H locs cells slots Q (F0 m tgt ls rest)) (kf : a < b → W p l e R s m args below meth c H locs cells slots Q (F0 m (pc + 3) ls rest)) : W p l e R s m args below meth c H locs cells slots Q (F0 m pc ls (.int (lg_cmp (lN a) (lN b)) :: rest)) := by
  rcases Nat.lt_trichotomy a b with h | h | h
  · have e1 : lg_cmp (lN a) (lN b) = -1 := by have h1 : ¬ lN b < lN a := fun z => Nat.lt_asymm h ((pk_lLT hb2 ha).mp z); have h2 : ¬ lN a = lN b := fun z => Nat.ne_of_lt h ((pk_lEQ ha hb2).mp z); simp [lg_cmp, h1, h2]
    rw [e1]
    exact lv_if_ge hexec hb hdg ht (fun z => by first | exact absurd z (by decide) | exact absurd (by decide) z) (fun z => kf (by omega))
  · have e1 : lg_cmp (lN a) (lN b) = 0 := by subst h; simp [lg_cmp]
    rw [e1]
    exact lv_if_ge hexec hb hdg ht (fun z => kt (by omega)) (fun z => by first | exact absurd z (by decide) | exact absurd (by decide) z)
  · have e1 : lg_cmp (lN a) (lN b) = 1 := by have h1 : lN b < lN a := (pk_lLT hb2 ha).mpr h; simp [lg_cmp, h1]
    rw [e1]
    exact lv_if_ge hexec hb hdg ht (fun z => kt (by omega)) (fun z => by first | exact absurd z (by decide) | exact absurd (by decide) z)
theorem nz_lgt {a b : Nat} {off : Int} {tgt : Nat} (hexec : p.tables.exec = Jvm.exec) (hb : c.code = cc) (hdg : decode cc pc = .ok (.ifCond .gt off, 3)) (ht : (pc : Int) + off = (tgt : Int)) (ha : a < 2 ^ 63) (hb2 : b < 2 ^ 63) (kt : b < a → W p l e R s m args below meth c H locs cells slots Q (F0 m tgt ls rest)) (kf : a ≤ b → W p l e R s m args below meth c H locs cells slots Q (F0 m (pc + 3) ls rest)) : W p l e R s m args below meth c H locs cells slots Q (F0 m pc ls (.int (lg_cmp (lN a) (lN b)) :: rest)) := by
  rcases Nat.lt_trichotomy a b with h | h | h
  · have e1 : lg_cmp (lN a) (lN b) = -1 := by have h1 : ¬ lN b < lN a := fun z => Nat.lt_asymm h ((pk_lLT hb2 ha).mp z); have h2 : ¬ lN a = lN b := fun z => Nat.ne_of_lt h ((pk_lEQ ha hb2).mp z); simp [lg_cmp, h1, h2]
    rw [e1]
    exact lv_if_gt hexec hb hdg ht (fun z => by first | exact absurd z (by decide) | exact absurd (by decide) z) (fun z => kf (by omega))
  · have e1 : lg_cmp (lN a) (lN b) = 0 := by subst h; simp [lg_cmp]
    rw [e1]
    exact lv_if_gt hexec hb hdg ht (fun z => by first | exact absurd z (by decide) | exact absurd (by decide) z) (fun z => kf (by omega))
  · have e1 : lg_cmp (lN a) (lN b) = 1 := by have h1 : lN b < lN a := (pk_lLT hb2 ha).mpr h; simp [lg_cmp, h1]
    rw [e1]
    exact lv_if_gt hexec hb hdg ht (fun z => kt (by omega)) (fun z => by first | exact absurd z (by decide) | exact absurd (by decide) z)
theorem nz_lle {a b : Nat} {off : Int} {tgt : Nat} (hexec : p.tables.exec = Jvm.exec) (hb : c.code = cc) (hdg : decode cc pc = .ok (.ifCond .le off, 3)) (ht : (pc : Int) + off = (tgt : Int)) (ha : a < 2 ^ 63) (hb2 : b < 2 ^ 63) (kt : a ≤ b → W p l e R s m args below meth c H locs cells slots Q (F0 m tgt ls rest)) (kf : b < a → W p l e R s m args below meth c H locs cells slots Q (F0 m (pc + 3) ls rest)) : W p l e R s m args below meth c H locs cells slots Q (F0 m pc ls (.int (lg_cmp (lN a) (lN b)) :: rest)) := by
  rcases Nat.lt_trichotomy a b with h | h | h
  · have e1 : lg_cmp (lN a) (lN b) = -1 := by have h1 : ¬ lN b < lN a := fun z => Nat.lt_asymm h ((pk_lLT hb2 ha).mp z); have h2 : ¬ lN a = lN b := fun z => Nat.ne_of_lt h ((pk_lEQ ha hb2).mp z); simp [lg_cmp, h1, h2]
    rw [e1]
    exact lv_if_le hexec hb hdg ht (fun z => kt (by omega)) (fun z => by first | exact absurd z (by decide) | exact absurd (by decide) z)
  · have e1 : lg_cmp (lN a) (lN b) = 0 := by subst h; simp [lg_cmp]
    rw [e1]
    exact lv_if_le hexec hb hdg ht (fun z => kt (by omega)) (fun z => by first | exact absurd z (by decide) | exact absurd (by decide) z)
  · have e1 : lg_cmp (lN a) (lN b) = 1 := by have h1 : lN b < lN a := (pk_lLT hb2 ha).mpr h; simp [lg_cmp, h1]
    rw [e1]
    exact lv_if_le hexec hb hdg ht (fun z => by first | exact absurd z (by decide) | exact absurd (by decide) z) (fun z => kf (by omega))
theorem nz_leq {a b : Nat} {off : Int} {tgt : Nat} (hexec : p.tables.exec = Jvm.exec) (hb : c.code = cc) (hdg : decode cc pc = .ok (.ifCond .eq off, 3)) (ht : (pc : Int) + off = (tgt : Int)) (ha : a < 2 ^ 63) (hb2 : b < 2 ^ 63) (kt : a = b → W p l e R s m args below meth c H locs cells slots Q (F0 m tgt ls rest)) (kf : a ≠ b → W p l e R s m args below meth c H locs cells slots Q (F0 m (pc + 3) ls rest)) : W p l e R s m args below meth c H locs cells slots Q (F0 m pc ls (.int (lg_cmp (lN a) (lN b)) :: rest)) := by
  rcases Nat.lt_trichotomy a b with h | h | h
  · have e1 : lg_cmp (lN a) (lN b) = -1 := by have h1 : ¬ lN b < lN a := fun z => Nat.lt_asymm h ((pk_lLT hb2 ha).mp z); have h2 : ¬ lN a = lN b := fun z => Nat.ne_of_lt h ((pk_lEQ ha hb2).mp z); simp [lg_cmp, h1, h2]
    rw [e1]
    exact lv_if_eq hexec hb hdg ht (fun z => by first | exact absurd z (by decide) | exact absurd (by decide) z) (fun z => kf (by omega))
  · have e1 : lg_cmp (lN a) (lN b) = 0 := by subst h; simp [lg_cmp]
    rw [e1]
    exact lv_if_eq hexec hb hdg ht (fun z => kt (by omega)) (fun z => by first | exact absurd z (by decide) | exact absurd (by decide) z)
  · have e1 : lg_cmp (lN a) (lN b) = 1 := by have h1 : lN b < lN a := (pk_lLT hb2 ha).mpr h; simp [lg_cmp, h1]
    rw [e1]
    exact lv_if_eq hexec hb hdg ht (fun z => by first | exact absurd z (by decide) | exact absurd (by decide) z) (fun z => kf (by omega))
theorem nz_lne {a b : Nat} {off : Int} {tgt : Nat} (hexec : p.tables.exec = Jvm.exec) (hb : c.code = cc) (hdg : decode cc pc = .ok (.ifCond .ne off, 3)) (ht : (pc : Int) + off = (tgt : Int)) (ha : a < 2 ^ 63) (hb2 : b < 2 ^ 63) (kt : a ≠ b → W p l e R s m args below meth c H locs cells slots Q (F0 m tgt ls rest)) (kf : a = b → W p l e R s m args below meth c H locs cells slots Q (F0 m (pc + 3) ls rest)) : W p l e R s m args below meth c H locs cells slots Q (F0 m pc ls (.int (lg_cmp (lN a) (lN b)) :: rest)) := by
  rcases Nat.lt_trichotomy a b with h | h | h
  · have e1 : lg_cmp (lN a) (lN b) = -1 := by have h1 : ¬ lN b < lN a := fun z => Nat.lt_asymm h ((pk_lLT hb2 ha).mp z); have h2 : ¬ lN a = lN b := fun z => Nat.ne_of_lt h ((pk_lEQ ha hb2).mp z); simp [lg_cmp, h1, h2]
    rw [e1]
    exact lv_if_ne hexec hb hdg ht (fun z => kt (by omega)) (fun z => by first | exact absurd z (by decide) | exact absurd (by decide) z)
  · have e1 : lg_cmp (lN a) (lN b) = 0 := by subst h; simp [lg_cmp]
    rw [e1]
    exact lv_if_ne hexec hb hdg ht (fun z => by first | exact absurd z (by decide) | exact absurd (by decide) z) (fun z => kf (by omega))
  · have e1 : lg_cmp (lN a) (lN b) = 1 := by have h1 : lN b < lN a := (pk_lLT hb2 ha).mpr h; simp [lg_cmp, h1]
    rw [e1]
    exact lv_if_ne hexec hb hdg ht (fun z => kt (by omega)) (fun z => by first | exact absurd z (by decide) | exact absurd (by decide) z)
end NB
end
section
/-! Rows of letters as functions with a length: what two share, their order. -/
/-- r is the number of the first places in which f and g agree, up to n -/
def IsLcp (f g : Nat → Nat) (n r : Nat) : Prop := r ≤ n ∧ (∀ j, j < r → f j = g j) ∧ (r < n → f r ≠ g r)
theorem lcp_ex (f g : Nat → Nat) (n : Nat) : ∃ r, IsLcp f g n r := by
  induction n with
  | zero => exact ⟨0, Nat.le_refl _, fun j h => absurd h (Nat.not_lt_zero _), fun h => absurd h (Nat.not_lt_zero _)⟩
  | succ n ih =>
    obtain ⟨r, h1, h2, h3⟩ := ih
    rcases Nat.lt_or_ge r n with h | h
    · exact ⟨r, by omega, h2, fun _ => h3 h⟩
    · have e : r = n := by omega
      subst e
      by_cases q : f r = g r
      · refine ⟨r + 1, Nat.le_refl _, fun j hj => ?_, fun z => absurd z (Nat.lt_irrefl _)⟩
        rcases Nat.lt_or_ge j r with z | z
        · exact h2 j z
        · have e2 : j = r := by omega
          rw [e2]; exact q
      · exact ⟨r, by omega, h2, fun _ => q⟩
theorem lcp_un {f g : Nat → Nat} {n r q : Nat} (h : IsLcp f g n r) (k : IsLcp f g n q) : r = q := by
  rcases Nat.lt_trichotomy r q with z | z | z
  · exact absurd (k.2.1 r z) (h.2.2 (Nat.lt_of_lt_of_le z k.1))
  · exact z
  · exact absurd (h.2.1 q z) (k.2.2 (Nat.lt_of_lt_of_le z h.1))
theorem lcp_sym {f g : Nat → Nat} {n r : Nat} (h : IsLcp f g n r) : IsLcp g f n r := ⟨h.1, fun j hj => (h.2.1 j hj).symm, fun hr e => h.2.2 hr e.symm⟩
/-- the letters f of a row of n go before the letters g of a row of k -/
def ltF (f : Nat → Nat) (n : Nat) (g : Nat → Nat) (k : Nat) : Prop := ∃ r, IsLcp f g (min n k) r ∧ r ≠ k ∧ (r = n ∨ f r < g r)
/-- the same row -/
def eqF (f : Nat → Nat) (n : Nat) (g : Nat → Nat) (k : Nat) : Prop := n = k ∧ ∀ j, j < n → f j = g j
theorem ltF_iff {f g : Nat → Nat} {n k r : Nat} (h : IsLcp f g (min n k) r) : ltF f n g k ↔ r ≠ k ∧ (r = n ∨ f r < g r) :=
  ⟨fun ⟨q, h1, h2⟩ => by rw [lcp_un h h1]; exact h2, fun h2 => ⟨r, h, h2⟩⟩
theorem eqF_iff {f g : Nat → Nat} {n k r : Nat} (h : IsLcp f g (min n k) r) : eqF f n g k ↔ r = n ∧ r = k := by
  constructor
  · rintro ⟨e, h2⟩
    have : r = n := by
      rcases Nat.lt_or_ge r n with z | z
      · exact absurd (h2 r z) (h.2.2 (by omega))
      · have := h.1; omega
    omega
  · rintro ⟨e1, e2⟩
    exact ⟨by omega, fun j hj => h.2.1 j (by omega)⟩
theorem ltF_tri (f : Nat → Nat) (n : Nat) (g : Nat → Nat) (k : Nat) : ltF f n g k ∨ eqF f n g k ∨ ltF g k f n := by
  obtain ⟨r, hr⟩ := lcp_ex f g (min n k)
  have hr2 : IsLcp g f (min k n) r := by rw [Nat.min_comm]; exact lcp_sym hr
  rw [ltF_iff hr, eqF_iff hr, ltF_iff hr2]
  have h1 := hr.1
  have h3 := hr.2.2
  rcases Nat.lt_or_ge r (min n k) with z | z
  · have := h3 z
    omega
  · omega
theorem ltF_irr {f : Nat → Nat} {n : Nat} : ¬ ltF f n f n := by
  rintro ⟨r, h, h2, h3⟩
  rcases h3 with h3 | h3
  · exact h2 h3
  · exact absurd h3 (Nat.lt_irrefl _)
theorem ltF_eqF {f g : Nat → Nat} {n k : Nat} (h : ltF f n g k) : ¬ eqF f n g k := by
  obtain ⟨r, hr, h2, h3⟩ := h
  rw [eqF_iff hr]
  omega
theorem ltF_trans {f g u : Nat → Nat} {n k m : Nat} (h : ltF f n g k) (h' : ltF g k u m) : ltF f n u m := by
  obtain ⟨r, hr, h2, h3⟩ := h
  obtain ⟨q, hq, k2, k3⟩ := h'
  have hr1 := hr.1
  have hq1 := hq.1
  rcases Nat.lt_trichotomy r q with z | z | z
  · refine ⟨r, ⟨by omega, fun j hj => (hr.2.1 j hj).trans (hq.2.1 j (by omega)), fun hl e => ?_⟩, by omega, ?_⟩
    · have e2 := hq.2.1 r z
      rcases h3 with h3 | h3
      · omega
      · omega
    · have e2 := hq.2.1 r z
      omega
  · subst z
    refine ⟨r, ⟨by omega, fun j hj => (hr.2.1 j hj).trans (hq.2.1 j hj), fun hl e => ?_⟩, by omega, ?_⟩
    · rcases h3 with h3 | h3
      · omega
      · rcases k3 with k3 | k3 <;> omega
    · rcases h3 with h3 | h3
      · exact Or.inl h3
      · rcases k3 with k3 | k3
        · omega
        · exact Or.inr (by omega)
  · have e2 := hr.2.1 q z
    refine ⟨q, ⟨by omega, fun j hj => (hr.2.1 j (by omega)).trans (hq.2.1 j hj), fun hl e => ?_⟩, by omega, ?_⟩
    · rcases k3 with k3 | k3 <;> omega
    · rcases k3 with k3 | k3
      · omega
      · exact Or.inr (by omega)
theorem ltF_asym {f g : Nat → Nat} {n k : Nat} (h : ltF f n g k) : ¬ ltF g k f n := fun z => ltF_irr (ltF_trans h z)
theorem lcp_congr {f f' g g' : Nat → Nat} {n r : Nat} (hf : ∀ j, j < n → f j = f' j) (hg : ∀ j, j < n → g j = g' j) (h : IsLcp f g n r) : IsLcp f' g' n r :=
  ⟨h.1, fun j hj => by rw [← hf j (Nat.lt_of_lt_of_le hj h.1), ← hg j (Nat.lt_of_lt_of_le hj h.1)]; exact h.2.1 j hj, fun hr => by rw [← hf r hr, ← hg r hr]; exact h.2.2 hr⟩
theorem ltF_congr {f f' g g' : Nat → Nat} {n k : Nat} (hf : ∀ j, j < n → f j = f' j) (hg : ∀ j, j < k → g j = g' j) (h : ltF f n g k) : ltF f' n g' k := by
  obtain ⟨r, hr, h2, h3⟩ := h
  refine ⟨r, lcp_congr (fun j hj => hf j (by omega)) (fun j hj => hg j (by omega)) hr, h2, ?_⟩
  have h1 := hr.1
  rcases h3 with h3 | h3
  · exact Or.inl h3
  · rcases Nat.lt_or_ge r n with z | z
    · rw [hf r z, hg r (by omega)] at h3
      exact Or.inr h3
    · exact Or.inl (by omega)
theorem pl_dec {P : Nat → Prop} {r n k : Nat} (h1 : ∀ i, i < r → P i) (h2 : ∀ i, r ≤ i → i < n → ¬ P i) (hk : k < n) : decide (k < r) = true ↔ P k := by
  rw [decide_eq_true_iff]
  exact ⟨h1 k, fun z => Nat.lt_of_not_le (fun y => h2 k y hk z)⟩
/-- how many i below n -/
def cntF (P : Nat → Bool) : Nat → Nat
  | 0 => 0
  | n + 1 => cntF P n + (if P n then 1 else 0)
theorem cntF_le (P : Nat → Bool) : ∀ n, cntF P n ≤ n
  | 0 => Nat.le_refl _
  | n + 1 => by
    have := cntF_le P n
    unfold cntF
    split <;> omega
theorem cntF_t {P : Nat → Bool} {n : Nat} (h : P n = true) : cntF P (n + 1) = cntF P n + 1 := by simp [cntF, h]
theorem cntF_f {P : Nat → Bool} {n : Nat} (h : P n = false) : cntF P (n + 1) = cntF P n := by simp [cntF, h]
theorem cntF_congr {P P' : Nat → Bool} : ∀ {n : Nat}, (∀ i, i < n → P i = P' i) → cntF P n = cntF P' n
  | 0, _ => rfl
  | n + 1, h => by
    unfold cntF
    rw [cntF_congr (fun i hi => h i (Nat.lt_succ_of_lt hi)), h n (Nat.lt_succ_self n)]
def sumF (f : Nat → Nat) : Nat → Nat
  | 0 => 0
  | n + 1 => sumF f n + f n
theorem sumF_congr {f f' : Nat → Nat} : ∀ {n : Nat}, (∀ i, i < n → f i = f' i) → sumF f n = sumF f' n
  | 0, _ => rfl
  | n + 1, h => by
    unfold sumF
    rw [sumF_congr (fun i hi => h i (Nat.lt_succ_of_lt hi)), h n (Nat.lt_succ_self n)]
theorem bI_f : nI 0 = bI false := by decide +kernel
theorem bI_t : nI 1 = bI true := by decide +kernel
theorem nz_inc1 (a : Nat) : nI a + Int32.ofInt 1 = nI (a + 1) := nI_1 a
theorem nz_inc3 (a : Nat) : nI a + Int32.ofInt 3 = nI (a + 3) := nI_add a 3
theorem nz_incm {a : Nat} (h : 0 < a) : nI a + Int32.ofInt (-1) = nI (a - 1) := sb_m1 h
end
section
/-! The Lexicon's methods that read. LxB: what bounds its rows; WdB: the word's. -/
def LxB (lx : (Nat → Nat) × (Nat → Nat) × (Nat → Nat) × Nat) : Prop := lx.2.2.2 ≤ 600 ∧ (∀ i, i < lx.2.2.2 → lx.2.1 i ≤ lx.2.1 (i + 1)) ∧ (∀ j, lx.2.1 j ≤ 6000) ∧ (∀ j, lx.1 j < 128) ∧ (∀ j, lx.2.2.1 j ≤ 1000000000000)
def WdB (wd : (Nat → Nat) × Nat) : Prop := wd.2 ≤ 24 ∧ ∀ j, wd.1 j < 128
abbrev ZX (lx : (Nat → Nat) × (Nat → Nat) × (Nat → Nat) × Nat) (i : Nat) : Nat := lx.2.1 (i + 1) - lx.2.1 i
abbrev TX (lx : (Nat → Nat) × (Nat → Nat) × (Nat → Nat) × Nat) (i : Nat) : Nat → Nat := fun k => lx.1 (lx.2.1 i + k)
theorem lx_mono {lx : (Nat → Nat) × (Nat → Nat) × (Nat → Nat) × Nat} (hB : LxB lx) (i : Nat) : ∀ j, i ≤ j → j ≤ lx.2.2.2 → lx.2.1 i ≤ lx.2.1 j := by
  intro j
  induction j with
  | zero => intro h _; rw [show i = 0 by omega]; exact Nat.le_refl _
  | succ j ih =>
    intro h h2
    rcases Nat.lt_or_ge i (j + 1) with z | z
    · exact Nat.le_trans (ih (by omega) (by omega)) (hB.2.1 j (by omega))
    · rw [show i = j + 1 by omega]; exact Nat.le_refl _
abbrev rmX0_size : Room := { frames := 0, cells := 0, slots := 0, locals := 0 }
set_option maxHeartbeats 4000000 in
set_option maxRecDepth 100000 in
theorem mX0_size (l : Launch) (D : va_G) (a : Nat → Nat) (cs : Nat → ClassId) (tp : (Nat → Int32) × Nat) (wd : (Nat → Nat) × Nat) (lx : (Nat → Nat) × (Nat → Nat) × (Nat → Nat) × Nat) (ro : Nat → Nat) (rs : (Nat → Nat) × (Nat → Nat) × (Nat → Nat) × (Nat → Nat) × (Nat → Nat) × Nat) (hB : LxB lx) : Met l yX0_size wsX0_size rmX0_size (wdP D vwCl (wX a cs tp wd lx ro rs) (tyX cs) [.ref (a 3)]) (rdQ (.int (nI (lx.2.1 lx.2.2.2)))) 0 0 (fun _ => False) := by
  obtain ⟨hB1, hB2, hB3, hB4, hB5⟩ := id hB
  refine nz_metRi (by decide) rfl (Nat.le_of_ble_eq_true rfl) rfl ?_
  intro p e s m args below meth c Q hx hb hml hts hown hP hK hret ls hl
  have hl : lv_has ls 1 [(0, .ref (a 3))] := hl
  have hown : s.vm.findClass RX0 = some m.cls := hown
  have hinX0 : ∀ w ∈ u_ws RX0 TX0 4, w ∈ wsX0_size := by decide +kernel
  refine lv_aload_n hx hb dX0_size_0 rfl (lv_at hl 0 rfl) ?_
  refine va_get (D := D) (ci := 0) (v := .ref (a 9)) (C := RX0) (T := TX0) (N := 4) hx hb hts hinX0 hown hK hP 3 rfl rfl 1 (by decide) (hts (.fieldLink RX0 15 "TypoSuggester$Lexicon" "starts" "[I") (by decide +kernel)) (fun _ h9 => h9) rfl dX0_size_1 ?_
  refine lv_aload_n hx hb dX0_size_4 rfl (lv_at hl 0 rfl) ?_
  refine va_get (D := D) (ci := 0) (v := .int (nI (lx.2.2.2))) (C := RX0) (T := TX0) (N := 4) hx hb hts hinX0 hown hK hP 3 rfl rfl 3 (by decide) (hts (.fieldLink RX0 23 "TypoSuggester$Lexicon" "count" "I") (by decide +kernel)) (fun _ h9 => h9) rfl dX0_size_5 ?_
  refine nz_iald (f := lx.2.1) (k := lx.2.2.2) hx hb hK hP 9 1 rfl rfl (by omega) (by decide) dX0_size_8 ?_
  exact hret 9 ls dX0_size_9
abbrev rmX0_lengthOf : Room := { frames := 0, cells := 0, slots := 0, locals := 0 }
set_option maxHeartbeats 4000000 in
set_option maxRecDepth 100000 in
theorem mX0_lengthOf (l : Launch) (D : va_G) (a : Nat → Nat) (cs : Nat → ClassId) (tp : (Nat → Int32) × Nat) (wd : (Nat → Nat) × Nat) (lx : (Nat → Nat) × (Nat → Nat) × (Nat → Nat) × Nat) (ro : Nat → Nat) (rs : (Nat → Nat) × (Nat → Nat) × (Nat → Nat) × (Nat → Nat) × (Nat → Nat) × Nat) (i : Nat) (hB : LxB lx) (hi : i < lx.2.2.2) : Met l yX0_lengthOf wsX0_lengthOf rmX0_lengthOf (wdP D vwCl (wX a cs tp wd lx ro rs) (tyX cs) [.ref (a 3), .int (nI (i))]) (rdQ (.int (nI (lx.2.1 (i + 1) - lx.2.1 i)))) 0 0 (fun _ => False) := by
  obtain ⟨hB1, hB2, hB3, hB4, hB5⟩ := id hB
  have hm := hB2 i hi
  refine nz_metRi (by decide) rfl (Nat.le_of_ble_eq_true rfl) rfl ?_
  intro p e s m args below meth c Q hx hb hml hts hown hP hK hret ls hl
  have hl : lv_has ls 2 [(0, .ref (a 3)), (1, .int (nI (i)))] := hl
  have hown : s.vm.findClass RX0 = some m.cls := hown
  have hinX0 : ∀ w ∈ u_ws RX0 TX0 4, w ∈ wsX0_lengthOf := by decide +kernel
  refine lv_aload_n hx hb dX0_lengthOf_0 rfl (lv_at hl 0 rfl) ?_
  refine va_get (D := D) (ci := 0) (v := .ref (a 9)) (C := RX0) (T := TX0) (N := 4) hx hb hts hinX0 hown hK hP 3 rfl rfl 1 (by decide) (hts (.fieldLink RX0 15 "TypoSuggester$Lexicon" "starts" "[I") (by decide +kernel)) (fun _ h9 => h9) rfl dX0_lengthOf_1 ?_
  refine lv_iload_n hx hb dX0_lengthOf_4 rfl (lv_at hl 1 rfl) ?_
  refine lv_iconst (v := nI 1) hx hb dX0_lengthOf_5 (by decide +kernel) ?_
  refine nz_iadd (a := i) (b := 1) hx hb dX0_lengthOf_6 ?_
  refine nz_iald (f := lx.2.1) (k := i + 1) hx hb hK hP 9 1 rfl rfl (by omega) (by decide) dX0_lengthOf_7 ?_
  refine lv_aload_n hx hb dX0_lengthOf_8 rfl (lv_at hl 0 rfl) ?_
  refine va_get (D := D) (ci := 0) (v := .ref (a 9)) (C := RX0) (T := TX0) (N := 4) hx hb hts hinX0 hown hK hP 3 rfl rfl 1 (by decide) (hts (.fieldLink RX0 15 "TypoSuggester$Lexicon" "starts" "[I") (by decide +kernel)) (fun _ h9 => h9) rfl dX0_lengthOf_9 ?_
  refine lv_iload_n hx hb dX0_lengthOf_12 rfl (lv_at hl 1 rfl) ?_
  refine nz_iald (f := lx.2.1) (k := i) hx hb hK hP 9 1 rfl rfl (by omega) (by decide) dX0_lengthOf_13 ?_
  refine nz_isub (a := lx.2.1 (i + 1)) (b := lx.2.1 i) hx hb dX0_lengthOf_14 (by omega) ?_
  exact hret 15 ls dX0_lengthOf_15
abbrev rmX0_sharedWith : Room := { frames := 1, cells := 0, slots := 0, locals := 23 }
set_option maxHeartbeats 4000000 in
set_option maxRecDepth 100000 in
theorem mX0_sharedWith (l : Launch) (D : va_G) (a : Nat → Nat) (cs : Nat → ClassId) (tp : (Nat → Int32) × Nat) (wd : (Nat → Nat) × Nat) (lx : (Nat → Nat) × (Nat → Nat) × (Nat → Nat) × Nat) (ro : Nat → Nat) (rs : (Nat → Nat) × (Nat → Nat) × (Nat → Nat) × (Nat → Nat) × (Nat → Nat) × Nat) (i : Nat) (r : Nat) (hB : LxB lx) (hW : WdB wd) (hi : i < lx.2.2.2) (hr : IsLcp (TX lx i) wd.1 (min (ZX lx i) wd.2) r) : Met l yX0_sharedWith wsX0_sharedWith rmX0_sharedWith (wdP D vwCl (wX a cs tp wd lx ro rs) (tyX cs) [.ref (a 3), .int (nI (i)), .ref (a 2)]) (rdQ (.int (nI (r)))) 0 0 (fun _ => False) := by
  obtain ⟨hB1, hB2, hB3, hB4, hB5⟩ := id hB
  obtain ⟨hW1, hW2⟩ := id hW
  have hm := hB2 i hi
  have hm2 := hB3 (i + 1)
  have hr1 : r ≤ min (lx.2.1 (i + 1) - lx.2.1 i) wd.2 := hr.1
  have hr2 : ∀ j, j < r → lx.1 (lx.2.1 i + j) = wd.1 j := hr.2.1
  have hr3 : r < min (lx.2.1 (i + 1) - lx.2.1 i) wd.2 → lx.1 (lx.2.1 i + r) ≠ wd.1 r := hr.2.2
  refine nz_metRi (by decide) rfl (Nat.le_of_ble_eq_true rfl) rfl ?_
  intro p e s m args below meth c Q hx hb hml hts hown hP hK hret ls hl
  have hl : lv_has ls 5 [(0, .ref (a 3)), (1, .int (nI (i))), (2, .ref (a 2))] := hl
  have hown : s.vm.findClass RX0 = some m.cls := hown
  have hinX4 : ∀ w ∈ u_ws RX4 TX4 2, w ∈ wsX0_sharedWith := by decide +kernel
  have hinX0 : ∀ w ∈ u_ws RX0 TX0 4, w ∈ wsX0_sharedWith := by decide +kernel
  refine lv_aload_n hx hb dX0_sharedWith_0 rfl (lv_at hl 0 rfl) ?_
  refine lv_iload_n hx hb dX0_sharedWith_1 rfl (lv_at hl 1 rfl) ?_
  refine nz_callR (va_runV (As := [.int (nI (i))]) (rest := []) ⟨hx, hb, hml, hown, hts⟩ (mX0_lengthOf l D a cs tp wd lx ro rs i hB hi) (cwV 1 hts gX0_sharedWith_X0_lengthOf rfl rfl rfl (by decide +kernel) ⟨Nat.le_of_ble_eq_true rfl, Nat.le_of_ble_eq_true rfl⟩) (nz_preV (ci := 0) (q0 := 3) hK hP rfl rfl) rfl rfl hl.1 rfl (lv_room (Nat.le_of_ble_eq_true rfl)) dX0_sharedWith_2 ⟨Nat.zero_le _, Nat.zero_le _⟩) ?_
  refine lv_aload_n hx hb dX0_sharedWith_5 rfl (lv_at hl 2 rfl) ?_
  refine va_get (D := D) (ci := 4) (v := .int (nI (wd.2))) (C := RX4) (T := TX4) (N := 2) hx hb hts hinX4 hown hK hP 2 rfl rfl 1 (by decide) (hts (.fieldLink RX0 39 "TypoSuggester$Word" "length" "I") (by decide +kernel)) (fun _ h9 => h9) rfl dX0_sharedWith_6 ?_
  refine nz_mmin (a := lx.2.1 (i + 1) - lx.2.1 i) (b := wd.2) hx hb (hml.trans hl.1.symm) hown (hts (.methodLink RX0 48 Lib.Math.min.name) (by decide +kernel)) (hts (.static Lib.Math.min.name) (by decide +kernel)) (hts (.initialized "java/lang/Math") (by decide +kernel)) (hts (.code Lib.Math.min.name Lib.Math.min.code 2 (some .int)) (by decide +kernel)) (Nat.le_of_ble_eq_true rfl) (Nat.le_of_ble_eq_true rfl) (Nat.zero_le _) (Nat.zero_le _) (by omega) (by omega) dX0_sharedWith_9 ?_
  refine lv_istore_n (lv' := [(3, .int (nI (min (lx.2.1 (i + 1) - lx.2.1 i) wd.2))), (0, .ref (a 3)), (1, .int (nI (i))), (2, .ref (a 2))]) hx hb dX0_sharedWith_12 rfl hl (by decide) rfl (fun ls hl => ?_)
  refine lv_iconst (v := nI 0) hx hb dX0_sharedWith_13 (by decide +kernel) ?_
  refine lv_istore (lv' := [(4, .int (nI (0))), (3, .int (nI (min (lx.2.1 (i + 1) - lx.2.1 i) wd.2))), (0, .ref (a 3)), (1, .int (nI (i))), (2, .ref (a 2))]) hx hb dX0_sharedWith_14 hl (by decide) rfl (fun ls hl => ?_)
  have loop : ∀ (fuel : Nat) (k : Nat), (k ≤ r) → r - k < fuel → ∀ ls : Array Slot, lv_has ls 5 [(0, .ref (a 3)), (1, .int (nI (i))), (2, .ref (a 2)), (3, .int (nI (min (lx.2.1 (i + 1) - lx.2.1 i) wd.2))), (4, .int (nI (k)))] → W p l e rmX0_sharedWith s m args below meth c s.heap [] 0 0 Q (F0 m 16 ls []) := by
    intro fuel
    induction fuel with
    | zero => intro k hk hf; exact absurd hf (Nat.not_lt_zero _)
    | succ fuel ih =>
      intro k hk hf ls hl
      refine lv_iload hx hb dX0_sharedWith_16 (lv_at hl 4 rfl) ?_
      refine lv_iload_n hx hb dX0_sharedWith_18 rfl (lv_at hl 3 rfl) ?_
      refine nz_cge (a := k) (b := min (lx.2.1 (i + 1) - lx.2.1 i) wd.2) (tgt := 52) hx hb dX0_sharedWith_19 (by decide) (by omega) (by omega) (fun c_19 => ?_) (fun c_19 => ?_)
      · have hkr : k = r := by omega
        refine lv_iload hx hb dX0_sharedWith_52 (lv_at hl 4 rfl) ?_
        rw [hkr]
        exact hret 54 ls dX0_sharedWith_54
      · refine lv_aload_n hx hb dX0_sharedWith_22 rfl (lv_at hl 0 rfl) ?_
        refine va_get (D := D) (ci := 0) (v := .ref (a 8)) (C := RX0) (T := TX0) (N := 4) hx hb hts hinX0 hown hK hP 3 rfl rfl 0 (by decide) (hts (.fieldLink RX0 9 "TypoSuggester$Lexicon" "letters" "[B") (by decide +kernel)) (fun _ h9 => h9) rfl dX0_sharedWith_23 ?_
        refine lv_aload_n hx hb dX0_sharedWith_26 rfl (lv_at hl 0 rfl) ?_
        refine va_get (D := D) (ci := 0) (v := .ref (a 9)) (C := RX0) (T := TX0) (N := 4) hx hb hts hinX0 hown hK hP 3 rfl rfl 1 (by decide) (hts (.fieldLink RX0 15 "TypoSuggester$Lexicon" "starts" "[I") (by decide +kernel)) (fun _ h9 => h9) rfl dX0_sharedWith_27 ?_
        refine lv_iload_n hx hb dX0_sharedWith_30 rfl (lv_at hl 1 rfl) ?_
        refine nz_iald (f := lx.2.1) (k := i) hx hb hK hP 9 1 rfl rfl (by omega) (by decide) dX0_sharedWith_31 ?_
        refine lv_iload hx hb dX0_sharedWith_32 (lv_at hl 4 rfl) ?_
        refine nz_iadd (a := lx.2.1 i) (b := k) hx hb dX0_sharedWith_34 ?_
        refine nz_bald (f := lx.1) (k := lx.2.1 i + k) hx hb hK hP 8 0 rfl rfl (by omega) (by decide) dX0_sharedWith_35 ?_
        refine lv_aload_n hx hb dX0_sharedWith_36 rfl (lv_at hl 2 rfl) ?_
        refine va_get (D := D) (ci := 4) (v := .ref (a 7)) (C := RX4) (T := TX4) (N := 2) hx hb hts hinX4 hown hK hP 2 rfl rfl 0 (by decide) (hts (.fieldLink RX0 44 "TypoSuggester$Word" "letters" "[B") (by decide +kernel)) (fun _ h9 => h9) rfl dX0_sharedWith_37 ?_
        refine lv_iload hx hb dX0_sharedWith_40 (lv_at hl 4 rfl) ?_
        refine nz_bald (f := wd.1) (k := k) hx hb hK hP 7 0 rfl rfl (by omega) (by decide) dX0_sharedWith_42 ?_
        refine nz_cne (a := lx.1 (lx.2.1 i + k)) (b := wd.1 k) (tgt := 52) hx hb dX0_sharedWith_43 (by decide) (by have := hB4 (lx.2.1 i + k); omega) (by have := hW2 k; omega) (fun c_43 => ?_) (fun c_43 => ?_)
        · have hkr : k = r := by
            rcases Nat.lt_or_ge k r with h | h
            · exact absurd (hr2 k h) c_43
            · omega
          refine lv_iload hx hb dX0_sharedWith_52 (lv_at hl 4 rfl) ?_
          rw [hkr]
          exact hret 54 ls dX0_sharedWith_54
        · have hkr : k < r := by
            rcases Nat.lt_or_ge k r with h | h
            · exact h
            · have h2 : k = r := by omega
              rw [h2] at c_19 c_43
              exact absurd c_43 (hr3 c_19)
          refine lv_iinc (v := nI (k + 1)) (lv' := [(4, .int (nI (k + 1))), (0, .ref (a 3)), (1, .int (nI (i))), (2, .ref (a 2)), (3, .int (nI (min (lx.2.1 (i + 1) - lx.2.1 i) wd.2)))]) hx hb dX0_sharedWith_46 hl (k := 4) rfl (nz_inc1 _) (by decide) rfl (fun ls hl => ?_)
          refine lv_goto (tgt := 16) hx hb dX0_sharedWith_49 (by decide) ?_
          exact ih (k + 1) (by omega) (by omega) ls (lv_sub hl [1, 2, 3, 4, 0] rfl)
  exact loop (r - 0 + 1) 0 (Nat.zero_le _) (Nat.lt_succ_self _) ls (lv_sub hl [2, 3, 4, 1, 0] rfl)
abbrev rmX0_goesBefore : Room := { frames := 2, cells := 0, slots := 0, locals := 47 }
set_option maxHeartbeats 4000000 in
set_option maxRecDepth 100000 in
theorem mX0_goesBefore (l : Launch) (D : va_G) (a : Nat → Nat) (cs : Nat → ClassId) (tp : (Nat → Int32) × Nat) (wd : (Nat → Nat) × Nat) (lx : (Nat → Nat) × (Nat → Nat) × (Nat → Nat) × Nat) (ro : Nat → Nat) (rs : (Nat → Nat) × (Nat → Nat) × (Nat → Nat) × (Nat → Nat) × (Nat → Nat) × Nat) (i : Nat) (bb : Bool) (hB : LxB lx) (hW : WdB wd) (hi : i < lx.2.2.2) (hbb : bb = true ↔ ltF (TX lx i) (ZX lx i) wd.1 wd.2) : Met l yX0_goesBefore wsX0_goesBefore rmX0_goesBefore (wdP D vwCl (wX a cs tp wd lx ro rs) (tyX cs) [.ref (a 3), .int (nI (i)), .ref (a 2)]) (rdQ (.int (bI (bb)))) 0 0 (fun _ => False) := by
  obtain ⟨hB1, hB2, hB3, hB4, hB5⟩ := id hB
  obtain ⟨hW1, hW2⟩ := id hW
  obtain ⟨r, hr⟩ := lcp_ex (TX lx i) wd.1 (min (ZX lx i) wd.2)
  have hm := hB2 i hi
  have hm2 := hB3 (i + 1)
  have hr1 : r ≤ min (lx.2.1 (i + 1) - lx.2.1 i) wd.2 := hr.1
  have hr2 : ∀ j, j < r → lx.1 (lx.2.1 i + j) = wd.1 j := hr.2.1
  have hr3 : r < min (lx.2.1 (i + 1) - lx.2.1 i) wd.2 → lx.1 (lx.2.1 i + r) ≠ wd.1 r := hr.2.2
  rw [ltF_iff hr] at hbb
  have hbb : bb = true ↔ r ≠ wd.2 ∧ (r = lx.2.1 (i + 1) - lx.2.1 i ∨ lx.1 (lx.2.1 i + r) < wd.1 r) := hbb
  refine nz_metRi (by decide) rfl (Nat.le_of_ble_eq_true rfl) (bI_nar _) ?_
  intro p e s m args below meth c Q hx hb hml hts hown hP hK hret ls hl
  have hl : lv_has ls 4 [(0, .ref (a 3)), (1, .int (nI (i))), (2, .ref (a 2))] := hl
  have hown : s.vm.findClass RX0 = some m.cls := hown
  have hinX4 : ∀ w ∈ u_ws RX4 TX4 2, w ∈ wsX0_goesBefore := by decide +kernel
  have hinX0 : ∀ w ∈ u_ws RX0 TX0 4, w ∈ wsX0_goesBefore := by decide +kernel
  refine lv_aload_n hx hb dX0_goesBefore_0 rfl (lv_at hl 0 rfl) ?_
  refine lv_iload_n hx hb dX0_goesBefore_1 rfl (lv_at hl 1 rfl) ?_
  refine lv_aload_n hx hb dX0_goesBefore_2 rfl (lv_at hl 2 rfl) ?_
  refine nz_callR (va_runV (As := [.int (nI (i)), .ref (a 2)]) (rest := []) ⟨hx, hb, hml, hown, hts⟩ (mX0_sharedWith l D a cs tp wd lx ro rs i r hB hW hi hr) (cwV 2 hts gX0_goesBefore_X0_sharedWith rfl rfl rfl (by decide +kernel) ⟨Nat.le_of_ble_eq_true rfl, Nat.le_of_ble_eq_true rfl⟩) (nz_preV (ci := 0) (q0 := 3) hK hP rfl rfl) rfl rfl hl.1 rfl (lv_room (Nat.le_of_ble_eq_true rfl)) dX0_goesBefore_3 ⟨Nat.zero_le _, Nat.zero_le _⟩) ?_
  refine lv_istore_n (lv' := [(3, .int (nI (r))), (0, .ref (a 3)), (1, .int (nI (i))), (2, .ref (a 2))]) hx hb dX0_goesBefore_6 rfl hl (by decide) rfl (fun ls hl => ?_)
  refine lv_iload_n hx hb dX0_goesBefore_7 rfl (lv_at hl 0 rfl) ?_
  refine lv_aload_n hx hb dX0_goesBefore_8 rfl (lv_at hl 3 rfl) ?_
  refine va_get (D := D) (ci := 4) (v := .int (nI (wd.2))) (C := RX4) (T := TX4) (N := 2) hx hb hts hinX4 hown hK hP 2 rfl rfl 1 (by decide) (hts (.fieldLink RX0 39 "TypoSuggester$Word" "length" "I") (by decide +kernel)) (fun _ h9 => h9) rfl dX0_goesBefore_9 ?_
  refine nz_cne (a := r) (b := wd.2) (tgt := 17) hx hb dX0_goesBefore_12 (by decide) (by omega) (by omega) (fun c_12 => ?_) (fun c_12 => ?_)
  · refine lv_iload_n hx hb dX0_goesBefore_17 rfl (lv_at hl 0 rfl) ?_
    refine lv_aload_n hx hb dX0_goesBefore_18 rfl (lv_at hl 1 rfl) ?_
    refine lv_iload_n hx hb dX0_goesBefore_19 rfl (lv_at hl 2 rfl) ?_
    refine nz_callR (va_runV (As := [.int (nI (i))]) (rest := [.int (nI (r))]) ⟨hx, hb, hml, hown, hts⟩ (mX0_lengthOf l D a cs tp wd lx ro rs i hB hi) (cwV 1 hts gX0_goesBefore_X0_lengthOf rfl rfl rfl (by decide +kernel) ⟨Nat.le_of_ble_eq_true rfl, Nat.le_of_ble_eq_true rfl⟩) (nz_preV (ci := 0) (q0 := 3) hK hP rfl rfl) rfl rfl hl.1 rfl (lv_room (Nat.le_of_ble_eq_true rfl)) dX0_goesBefore_20 ⟨Nat.zero_le _, Nat.zero_le _⟩) ?_
    refine nz_ceq (a := r) (b := lx.2.1 (i + 1) - lx.2.1 i) (tgt := 48) hx hb dX0_goesBefore_23 (by decide) (by omega) (by omega) (fun c_23 => ?_) (fun c_23 => ?_)
    · refine lv_iconst (v := nI 1) hx hb dX0_goesBefore_48 (by decide +kernel) ?_
      refine lv_goto (tgt := 53) hx hb dX0_goesBefore_49 (by decide) ?_
      refine nz_top bI_t ?_
      rw [show true = bb from (by exact (hbb.mpr (by first | omega | exact ⟨by omega, by omega⟩)).symm)]
      exact hret 53 ls dX0_goesBefore_53
    · refine lv_aload_n hx hb dX0_goesBefore_26 rfl (lv_at hl 1 rfl) ?_
      refine va_get (D := D) (ci := 0) (v := .ref (a 8)) (C := RX0) (T := TX0) (N := 4) hx hb hts hinX0 hown hK hP 3 rfl rfl 0 (by decide) (hts (.fieldLink RX0 9 "TypoSuggester$Lexicon" "letters" "[B") (by decide +kernel)) (fun _ h9 => h9) rfl dX0_goesBefore_27 ?_
      refine lv_aload_n hx hb dX0_goesBefore_30 rfl (lv_at hl 1 rfl) ?_
      refine va_get (D := D) (ci := 0) (v := .ref (a 9)) (C := RX0) (T := TX0) (N := 4) hx hb hts hinX0 hown hK hP 3 rfl rfl 1 (by decide) (hts (.fieldLink RX0 15 "TypoSuggester$Lexicon" "starts" "[I") (by decide +kernel)) (fun _ h9 => h9) rfl dX0_goesBefore_31 ?_
      refine lv_iload_n hx hb dX0_goesBefore_34 rfl (lv_at hl 2 rfl) ?_
      refine nz_iald (f := lx.2.1) (k := i) hx hb hK hP 9 1 rfl rfl (by omega) (by decide) dX0_goesBefore_35 ?_
      refine lv_iload_n hx hb dX0_goesBefore_36 rfl (lv_at hl 0 rfl) ?_
      refine nz_iadd (a := lx.2.1 i) (b := r) hx hb dX0_goesBefore_37 ?_
      refine nz_bald (f := lx.1) (k := lx.2.1 i + r) hx hb hK hP 8 0 rfl rfl (by omega) (by decide) dX0_goesBefore_38 ?_
      refine lv_aload_n hx hb dX0_goesBefore_39 rfl (lv_at hl 3 rfl) ?_
      refine va_get (D := D) (ci := 4) (v := .ref (a 7)) (C := RX4) (T := TX4) (N := 2) hx hb hts hinX4 hown hK hP 2 rfl rfl 0 (by decide) (hts (.fieldLink RX0 44 "TypoSuggester$Word" "letters" "[B") (by decide +kernel)) (fun _ h9 => h9) rfl dX0_goesBefore_40 ?_
      refine lv_iload_n hx hb dX0_goesBefore_43 rfl (lv_at hl 0 rfl) ?_
      refine nz_bald (f := wd.1) (k := r) hx hb hK hP 7 0 rfl rfl (by omega) (by decide) dX0_goesBefore_44 ?_
      refine nz_cge (a := lx.1 (lx.2.1 i + r)) (b := wd.1 r) (tgt := 52) hx hb dX0_goesBefore_45 (by decide) (by have := hB4 (lx.2.1 i + r); omega) (by have := hW2 r; omega) (fun c_45 => ?_) (fun c_45 => ?_)
      · refine lv_iconst (v := nI 0) hx hb dX0_goesBefore_52 (by decide +kernel) ?_
        refine nz_top bI_f ?_
        rw [show false = bb from (by cases bb with | false => rfl | true => exact absurd (hbb.mp rfl) (by omega))]
        exact hret 53 ls dX0_goesBefore_53
      · refine lv_iconst (v := nI 1) hx hb dX0_goesBefore_48 (by decide +kernel) ?_
        refine lv_goto (tgt := 53) hx hb dX0_goesBefore_49 (by decide) ?_
        refine nz_top bI_t ?_
        rw [show true = bb from (by exact (hbb.mpr (by first | omega | exact ⟨by omega, by omega⟩)).symm)]
        exact hret 53 ls dX0_goesBefore_53
  · refine lv_iconst (v := nI 0) hx hb dX0_goesBefore_15 (by decide +kernel) ?_
    refine nz_top bI_f ?_
    rw [show false = bb from (by cases bb with | false => rfl | true => exact absurd (hbb.mp rfl) (by omega))]
    exact hret 16 ls dX0_goesBefore_16
abbrev rmX0_beginsWith : Room := { frames := 2, cells := 0, slots := 0, locals := 47 }
set_option maxHeartbeats 4000000 in
set_option maxRecDepth 100000 in
theorem mX0_beginsWith (l : Launch) (D : va_G) (a : Nat → Nat) (cs : Nat → ClassId) (tp : (Nat → Int32) × Nat) (wd : (Nat → Nat) × Nat) (lx : (Nat → Nat) × (Nat → Nat) × (Nat → Nat) × Nat) (ro : Nat → Nat) (rs : (Nat → Nat) × (Nat → Nat) × (Nat → Nat) × (Nat → Nat) × (Nat → Nat) × Nat) (i : Nat) (bb : Bool) (hB : LxB lx) (hW : WdB wd) (hi : i < lx.2.2.2) (hbb : bb = true ↔ (wd.2 ≤ ZX lx i ∧ ∀ j, j < wd.2 → TX lx i j = wd.1 j)) : Met l yX0_beginsWith wsX0_beginsWith rmX0_beginsWith (wdP D vwCl (wX a cs tp wd lx ro rs) (tyX cs) [.ref (a 3), .int (nI (i)), .ref (a 2)]) (rdQ (.int (bI (bb)))) 0 0 (fun _ => False) := by
  obtain ⟨hB1, hB2, hB3, hB4, hB5⟩ := id hB
  obtain ⟨hW1, hW2⟩ := id hW
  obtain ⟨r, hr⟩ := lcp_ex (TX lx i) wd.1 (min (ZX lx i) wd.2)
  have hm := hB2 i hi
  have hm2 := hB3 (i + 1)
  have hr1 : r ≤ min (lx.2.1 (i + 1) - lx.2.1 i) wd.2 := hr.1
  have hr2 : ∀ j, j < r → lx.1 (lx.2.1 i + j) = wd.1 j := hr.2.1
  have hr3 : r < min (lx.2.1 (i + 1) - lx.2.1 i) wd.2 → lx.1 (lx.2.1 i + r) ≠ wd.1 r := hr.2.2
  have hbb : bb = true ↔ r = wd.2 := by
    rw [hbb]
    constructor
    · rintro ⟨h1, h2⟩
      rcases Nat.lt_or_ge r wd.2 with z | z
      · exact absurd (h2 r z) (hr3 (by have h1 : wd.2 ≤ lx.2.1 (i + 1) - lx.2.1 i := h1; omega))
      · omega
    · intro z
      exact ⟨by show wd.2 ≤ lx.2.1 (i + 1) - lx.2.1 i; omega, fun j hj => hr2 j (by omega)⟩
  refine nz_metRi (by decide) rfl (Nat.le_of_ble_eq_true rfl) (bI_nar _) ?_
  intro p e s m args below meth c Q hx hb hml hts hown hP hK hret ls hl
  have hl : lv_has ls 3 [(0, .ref (a 3)), (1, .int (nI (i))), (2, .ref (a 2))] := hl
  have hown : s.vm.findClass RX0 = some m.cls := hown
  have hinX4 : ∀ w ∈ u_ws RX4 TX4 2, w ∈ wsX0_beginsWith := by decide +kernel
  refine lv_aload_n hx hb dX0_beginsWith_0 rfl (lv_at hl 0 rfl) ?_
  refine lv_iload_n hx hb dX0_beginsWith_1 rfl (lv_at hl 1 rfl) ?_
  refine lv_aload_n hx hb dX0_beginsWith_2 rfl (lv_at hl 2 rfl) ?_
  refine nz_callR (va_runV (As := [.int (nI (i)), .ref (a 2)]) (rest := []) ⟨hx, hb, hml, hown, hts⟩ (mX0_sharedWith l D a cs tp wd lx ro rs i r hB hW hi hr) (cwV 2 hts gX0_beginsWith_X0_sharedWith rfl rfl rfl (by decide +kernel) ⟨Nat.le_of_ble_eq_true rfl, Nat.le_of_ble_eq_true rfl⟩) (nz_preV (ci := 0) (q0 := 3) hK hP rfl rfl) rfl rfl hl.1 rfl (lv_room (Nat.le_of_ble_eq_true rfl)) dX0_beginsWith_3 ⟨Nat.zero_le _, Nat.zero_le _⟩) ?_
  refine lv_aload_n hx hb dX0_beginsWith_6 rfl (lv_at hl 2 rfl) ?_
  refine va_get (D := D) (ci := 4) (v := .int (nI (wd.2))) (C := RX4) (T := TX4) (N := 2) hx hb hts hinX4 hown hK hP 2 rfl rfl 1 (by decide) (hts (.fieldLink RX0 39 "TypoSuggester$Word" "length" "I") (by decide +kernel)) (fun _ h9 => h9) rfl dX0_beginsWith_7 ?_
  refine nz_cne (a := r) (b := wd.2) (tgt := 17) hx hb dX0_beginsWith_10 (by decide) (by omega) (by omega) (fun c_10 => ?_) (fun c_10 => ?_)
  · refine lv_iconst (v := nI 0) hx hb dX0_beginsWith_17 (by decide +kernel) ?_
    refine nz_top bI_f ?_
    rw [show false = bb from (by cases bb with | false => rfl | true => exact absurd (hbb.mp rfl) (by omega))]
    exact hret 18 ls dX0_beginsWith_18
  · refine lv_iconst (v := nI 1) hx hb dX0_beginsWith_13 (by decide +kernel) ?_
    refine lv_goto (tgt := 18) hx hb dX0_beginsWith_14 (by decide) ?_
    refine nz_top bI_t ?_
    rw [show true = bb from (by exact (hbb.mpr (by first | omega | exact ⟨by omega, by omega⟩)).symm)]
    exact hret 18 ls dX0_beginsWith_18
abbrev rmX0_standsAt : Room := { frames := 3, cells := 0, slots := 0, locals := 69 }
set_option maxHeartbeats 4000000 in
set_option maxRecDepth 100000 in
theorem mX0_standsAt (l : Launch) (D : va_G) (a : Nat → Nat) (cs : Nat → ClassId) (tp : (Nat → Int32) × Nat) (wd : (Nat → Nat) × Nat) (lx : (Nat → Nat) × (Nat → Nat) × (Nat → Nat) × Nat) (ro : Nat → Nat) (rs : (Nat → Nat) × (Nat → Nat) × (Nat → Nat) × (Nat → Nat) × (Nat → Nat) × Nat) (i : Nat) (bb : Bool) (hB : LxB lx) (hW : WdB wd) (hi : i ≤ lx.2.2.2) (hbb : bb = true ↔ (i < lx.2.2.2 ∧ lx.2.1 (i + 1) - lx.2.1 i = wd.2 ∧ ∀ j, j < wd.2 → TX lx i j = wd.1 j)) : Met l yX0_standsAt wsX0_standsAt rmX0_standsAt (wdP D vwCl (wX a cs tp wd lx ro rs) (tyX cs) [.ref (a 3), .int (nI (i)), .ref (a 2)]) (rdQ (.int (bI (bb)))) 0 0 (fun _ => False) := by
  obtain ⟨hB1, hB2, hB3, hB4, hB5⟩ := id hB
  obtain ⟨hW1, hW2⟩ := id hW
  refine nz_metRi (by decide) rfl (Nat.le_of_ble_eq_true rfl) (bI_nar _) ?_
  intro p e s m args below meth c Q hx hb hml hts hown hP hK hret ls hl
  have hl : lv_has ls 3 [(0, .ref (a 3)), (1, .int (nI (i))), (2, .ref (a 2))] := hl
  have hown : s.vm.findClass RX0 = some m.cls := hown
  have hinX0 : ∀ w ∈ u_ws RX0 TX0 4, w ∈ wsX0_standsAt := by decide +kernel
  have hinX4 : ∀ w ∈ u_ws RX4 TX4 2, w ∈ wsX0_standsAt := by decide +kernel
  refine lv_iload_n hx hb dX0_standsAt_0 rfl (lv_at hl 1 rfl) ?_
  refine lv_aload_n hx hb dX0_standsAt_1 rfl (lv_at hl 0 rfl) ?_
  refine va_get (D := D) (ci := 0) (v := .int (nI (lx.2.2.2))) (C := RX0) (T := TX0) (N := 4) hx hb hts hinX0 hown hK hP 3 rfl rfl 3 (by decide) (hts (.fieldLink RX0 23 "TypoSuggester$Lexicon" "count" "I") (by decide +kernel)) (fun _ h9 => h9) rfl dX0_standsAt_2 ?_
  refine nz_cge (a := i) (b := lx.2.2.2) (tgt := 33) hx hb dX0_standsAt_5 (by decide) (by omega) (by omega) (fun c_5 => ?_) (fun c_5 => ?_)
  · refine lv_iconst (v := nI 0) hx hb dX0_standsAt_33 (by decide +kernel) ?_
    refine nz_top bI_f ?_
    rw [show false = bb from (by cases bb with | false => rfl | true => exact absurd (hbb.mp rfl) (by first | exact fun h => absurd c_26 (by decide) | omega))]
    exact hret 34 ls dX0_standsAt_34
  · refine lv_aload_n hx hb dX0_standsAt_8 rfl (lv_at hl 0 rfl) ?_
    refine lv_iload_n hx hb dX0_standsAt_9 rfl (lv_at hl 1 rfl) ?_
    refine nz_callR (va_runV (As := [.int (nI (i))]) (rest := []) ⟨hx, hb, hml, hown, hts⟩ (mX0_lengthOf l D a cs tp wd lx ro rs i hB c_5) (cwV 1 hts gX0_standsAt_X0_lengthOf rfl rfl rfl (by decide +kernel) ⟨Nat.le_of_ble_eq_true rfl, Nat.le_of_ble_eq_true rfl⟩) (nz_preV (ci := 0) (q0 := 3) hK hP rfl rfl) rfl rfl hl.1 rfl (lv_room (Nat.le_of_ble_eq_true rfl)) dX0_standsAt_10 ⟨Nat.zero_le _, Nat.zero_le _⟩) ?_
    refine lv_aload_n hx hb dX0_standsAt_13 rfl (lv_at hl 2 rfl) ?_
    refine va_get (D := D) (ci := 4) (v := .int (nI (wd.2))) (C := RX4) (T := TX4) (N := 2) hx hb hts hinX4 hown hK hP 2 rfl rfl 1 (by decide) (hts (.fieldLink RX0 39 "TypoSuggester$Word" "length" "I") (by decide +kernel)) (fun _ h9 => h9) rfl dX0_standsAt_14 ?_
    refine nz_cne (a := lx.2.1 (i + 1) - lx.2.1 i) (b := wd.2) (tgt := 33) hx hb dX0_standsAt_17 (by decide) (by have := hB3 (i + 1); omega) (by omega) (fun c_17 => ?_) (fun c_17 => ?_)
    · refine lv_iconst (v := nI 0) hx hb dX0_standsAt_33 (by decide +kernel) ?_
      refine nz_top bI_f ?_
      rw [show false = bb from (by cases bb with | false => rfl | true => exact absurd (hbb.mp rfl) (by first | exact fun h => absurd c_26 (by decide) | omega))]
      exact hret 34 ls dX0_standsAt_34
    · refine lv_aload_n hx hb dX0_standsAt_20 rfl (lv_at hl 0 rfl) ?_
      refine lv_iload_n hx hb dX0_standsAt_21 rfl (lv_at hl 1 rfl) ?_
      refine lv_aload_n hx hb dX0_standsAt_22 rfl (lv_at hl 2 rfl) ?_
      refine nz_callR (va_runV (As := [.int (nI (i)), .ref (a 2)]) (rest := []) ⟨hx, hb, hml, hown, hts⟩ (mX0_beginsWith l D a cs tp wd lx ro rs i bb hB hW c_5 (by rw [hbb]; exact ⟨fun h => ⟨Nat.le_of_eq c_17.symm, h.2.2⟩, fun h => ⟨c_5, c_17, h.2⟩⟩)) (cwV 2 hts gX0_standsAt_X0_beginsWith rfl rfl rfl (by decide +kernel) ⟨Nat.le_of_ble_eq_true rfl, Nat.le_of_ble_eq_true rfl⟩) (nz_preV (ci := 0) (q0 := 3) hK hP rfl rfl) rfl rfl hl.1 rfl (lv_room (Nat.le_of_ble_eq_true rfl)) dX0_standsAt_23 ⟨Nat.zero_le _, Nat.zero_le _⟩) ?_
      refine nz_ifeqB (tgt := 33) hx hb dX0_standsAt_26 (by decide) (fun c_26 => ?_) (fun c_26 => ?_)
      · refine lv_iconst (v := nI 0) hx hb dX0_standsAt_33 (by decide +kernel) ?_
        refine nz_top bI_f ?_
        rw [show false = bb from (by cases bb with | false => rfl | true => exact absurd (hbb.mp rfl) (by first | exact fun h => absurd c_26 (by decide) | omega))]
        exact hret 34 ls dX0_standsAt_34
      · refine lv_iconst (v := nI 1) hx hb dX0_standsAt_29 (by decide +kernel) ?_
        refine lv_goto (tgt := 34) hx hb dX0_standsAt_30 (by decide) ?_
        refine nz_top bI_t ?_
        rw [show true = bb from (by exact c_26.symm)]
        exact hret 34 ls dX0_standsAt_34
abbrev rmX0_placeOf : Room := { frames := 3, cells := 0, slots := 0, locals := 70 }
set_option maxHeartbeats 4000000 in
set_option maxRecDepth 100000 in
theorem mX0_placeOf (l : Launch) (D : va_G) (a : Nat → Nat) (cs : Nat → ClassId) (tp : (Nat → Int32) × Nat) (wd : (Nat → Nat) × Nat) (lx : (Nat → Nat) × (Nat → Nat) × (Nat → Nat) × Nat) (ro : Nat → Nat) (rs : (Nat → Nat) × (Nat → Nat) × (Nat → Nat) × (Nat → Nat) × (Nat → Nat) × Nat) (r : Nat) (hB : LxB lx) (hW : WdB wd) (hr : r ≤ lx.2.2.2 ∧ (∀ i, i < r → ltF (TX lx i) (ZX lx i) wd.1 wd.2) ∧ (∀ i, r ≤ i → i < lx.2.2.2 → ¬ ltF (TX lx i) (ZX lx i) wd.1 wd.2)) : Met l yX0_placeOf wsX0_placeOf rmX0_placeOf (wdP D vwCl (wX a cs tp wd lx ro rs) (tyX cs) [.ref (a 3), .ref (a 2)]) (rdQ (.int (nI (r)))) 0 0 (fun _ => False) := by
  obtain ⟨hB1, hB2, hB3, hB4, hB5⟩ := id hB
  obtain ⟨hW1, hW2⟩ := id hW
  obtain ⟨hr1, hr2, hr3⟩ := hr
  refine nz_metRi (by decide) rfl (Nat.le_of_ble_eq_true rfl) rfl ?_
  intro p e s m args below meth c Q hx hb hml hts hown hP hK hret ls hl
  have hl : lv_has ls 5 [(0, .ref (a 3)), (1, .ref (a 2))] := hl
  have hown : s.vm.findClass RX0 = some m.cls := hown
  have hinX0 : ∀ w ∈ u_ws RX0 TX0 4, w ∈ wsX0_placeOf := by decide +kernel
  refine lv_iconst (v := nI 0) hx hb dX0_placeOf_0 (by decide +kernel) ?_
  refine lv_istore_n (lv' := [(2, .int (nI (0))), (0, .ref (a 3)), (1, .ref (a 2))]) hx hb dX0_placeOf_1 rfl hl (by decide) rfl (fun ls hl => ?_)
  refine lv_aload_n hx hb dX0_placeOf_2 rfl (lv_at hl 1 rfl) ?_
  refine va_get (D := D) (ci := 0) (v := .int (nI (lx.2.2.2))) (C := RX0) (T := TX0) (N := 4) hx hb hts hinX0 hown hK hP 3 rfl rfl 3 (by decide) (hts (.fieldLink RX0 23 "TypoSuggester$Lexicon" "count" "I") (by decide +kernel)) (fun _ h9 => h9) rfl dX0_placeOf_3 ?_
  refine lv_istore_n (lv' := [(3, .int (nI (lx.2.2.2))), (2, .int (nI (0))), (0, .ref (a 3)), (1, .ref (a 2))]) hx hb dX0_placeOf_6 rfl hl (by decide) rfl (fun ls hl => ?_)
  have loop : ∀ (fuel : Nat) (lo : Nat) (hi : Nat), (lo ≤ r) → (r ≤ hi) → (hi ≤ lx.2.2.2) → hi - lo < fuel → ∀ ls : Array Slot, lv_has ls 5 [(0, .ref (a 3)), (1, .ref (a 2)), (2, .int (nI (lo))), (3, .int (nI (hi)))] → W p l e rmX0_placeOf s m args below meth c s.heap [] 0 0 Q (F0 m 7 ls []) := by
    intro fuel
    induction fuel with
    | zero => intro lo hi h1 h2 h3 hf; exact absurd hf (Nat.not_lt_zero _)
    | succ fuel ih =>
      intro lo hi h1 h2 h3 hf ls hl
      refine lv_iload_n hx hb dX0_placeOf_7 rfl (lv_at hl 2 rfl) ?_
      refine lv_iload_n hx hb dX0_placeOf_8 rfl (lv_at hl 3 rfl) ?_
      refine nz_cge (a := lo) (b := hi) (tgt := 43) hx hb dX0_placeOf_9 (by decide) (by omega) (by omega) (fun c_9 => ?_) (fun c_9 => ?_)
      · have hkr : lo = r := by omega
        refine lv_iload_n hx hb dX0_placeOf_43 rfl (lv_at hl 2 rfl) ?_
        rw [hkr]
        exact hret 44 ls dX0_placeOf_44
      · refine lv_iload_n hx hb dX0_placeOf_12 rfl (lv_at hl 2 rfl) ?_
        refine lv_iload_n hx hb dX0_placeOf_13 rfl (lv_at hl 3 rfl) ?_
        refine nz_iadd (a := lo) (b := hi) hx hb dX0_placeOf_14 ?_
        refine lv_iconst (v := nI 2) hx hb dX0_placeOf_15 (by decide +kernel) ?_
        refine nz_idiv (a := lo + hi) (b := 2) hx hb dX0_placeOf_16 (by omega) (by omega) (by omega) ?_
        refine lv_istore (lv' := [(4, .int (nI ((lo + hi) / 2))), (0, .ref (a 3)), (1, .ref (a 2)), (2, .int (nI (lo))), (3, .int (nI (hi)))]) hx hb dX0_placeOf_17 hl (by decide) rfl (fun ls hl => ?_)
        refine lv_aload_n hx hb dX0_placeOf_19 rfl (lv_at hl 1 rfl) ?_
        refine lv_iload hx hb dX0_placeOf_20 (lv_at hl 0 rfl) ?_
        refine lv_aload_n hx hb dX0_placeOf_22 rfl (lv_at hl 2 rfl) ?_
        refine nz_callR (va_runV (As := [.int (nI ((lo + hi) / 2)), .ref (a 2)]) (rest := []) ⟨hx, hb, hml, hown, hts⟩ (mX0_goesBefore l D a cs tp wd lx ro rs ((lo + hi) / 2) (decide ((lo + hi) / 2 < r)) hB hW (by omega) (pl_dec hr2 hr3 (by omega))) (cwV 2 hts gX0_placeOf_X0_goesBefore rfl rfl rfl (by decide +kernel) ⟨Nat.le_of_ble_eq_true rfl, Nat.le_of_ble_eq_true rfl⟩) (nz_preV (ci := 0) (q0 := 3) hK hP rfl rfl) rfl rfl hl.1 rfl (lv_room (Nat.le_of_ble_eq_true rfl)) dX0_placeOf_23 ⟨Nat.zero_le _, Nat.zero_le _⟩) ?_
        refine nz_ifeqB (tgt := 37) hx hb dX0_placeOf_26 (by decide) (fun c_26 => ?_) (fun c_26 => ?_)
        · have c_26 := of_decide_eq_false c_26
          refine lv_iload hx hb dX0_placeOf_37 (lv_at hl 0 rfl) ?_
          refine lv_istore_n (lv' := [(3, .int (nI ((lo + hi) / 2))), (4, .int (nI ((lo + hi) / 2))), (0, .ref (a 3)), (1, .ref (a 2)), (2, .int (nI (lo)))]) hx hb dX0_placeOf_39 rfl hl (by decide) rfl (fun ls hl => ?_)
          refine lv_goto (tgt := 7) hx hb dX0_placeOf_40 (by decide) ?_
          exact ih lo ((lo + hi) / 2) (by omega) (by omega) (by omega) (by omega) ls (lv_sub hl [2, 3, 4, 0] rfl)
        · have c_26 := of_decide_eq_true c_26
          refine lv_iload hx hb dX0_placeOf_29 (lv_at hl 0 rfl) ?_
          refine lv_iconst (v := nI 1) hx hb dX0_placeOf_31 (by decide +kernel) ?_
          refine nz_iadd (a := (lo + hi) / 2) (b := 1) hx hb dX0_placeOf_32 ?_
          refine lv_istore_n (lv' := [(2, .int (nI ((lo + hi) / 2 + 1))), (4, .int (nI ((lo + hi) / 2))), (0, .ref (a 3)), (1, .ref (a 2)), (3, .int (nI (hi)))]) hx hb dX0_placeOf_33 rfl hl (by decide) rfl (fun ls hl => ?_)
          refine lv_goto (tgt := 40) hx hb dX0_placeOf_34 (by decide) ?_
          refine lv_goto (tgt := 7) hx hb dX0_placeOf_40 (by decide) ?_
          exact ih ((lo + hi) / 2 + 1) hi (by omega) (by omega) (by omega) (by omega) ls (lv_sub hl [2, 3, 0, 4] rfl)
  exact loop (lx.2.2.2 - 0 + 1) 0 lx.2.2.2 (Nat.zero_le _) hr1 (Nat.le_refl _) (Nat.lt_succ_self _) ls (lv_sub hl [2, 3, 1, 0] rfl)
abbrev rmX0_sharedWithNext : Room := { frames := 1, cells := 0, slots := 0, locals := 23 }
set_option maxHeartbeats 4000000 in
set_option maxRecDepth 100000 in
theorem mX0_sharedWithNext (l : Launch) (D : va_G) (a : Nat → Nat) (cs : Nat → ClassId) (tp : (Nat → Int32) × Nat) (wd : (Nat → Nat) × Nat) (lx : (Nat → Nat) × (Nat → Nat) × (Nat → Nat) × Nat) (ro : Nat → Nat) (rs : (Nat → Nat) × (Nat → Nat) × (Nat → Nat) × (Nat → Nat) × (Nat → Nat) × Nat) (i : Nat) (r : Nat) (hB : LxB lx) (hi : i + 1 < lx.2.2.2) (hr : IsLcp (TX lx i) (TX lx (i + 1)) (min (ZX lx i) (ZX lx (i + 1))) r) : Met l yX0_sharedWithNext wsX0_sharedWithNext rmX0_sharedWithNext (wdP D vwCl (wX a cs tp wd lx ro rs) (tyX cs) [.ref (a 3), .int (nI (i))]) (rdQ (.int (nI (r)))) 0 0 (fun _ => False) := by
  obtain ⟨hB1, hB2, hB3, hB4, hB5⟩ := id hB
  have hm := hB2 i (by omega)
  have hm2 := hB3 (i + 1)
  have hm3 := hB2 (i + 1) hi
  have hm4 := hB3 (i + 1 + 1)
  have hr1 : r ≤ min (lx.2.1 (i + 1) - lx.2.1 i) (lx.2.1 (i + 1 + 1) - lx.2.1 (i + 1)) := hr.1
  have hr2 : ∀ j, j < r → lx.1 (lx.2.1 i + j) = lx.1 (lx.2.1 (i + 1) + j) := hr.2.1
  have hr3 : r < min (lx.2.1 (i + 1) - lx.2.1 i) (lx.2.1 (i + 1 + 1) - lx.2.1 (i + 1)) → lx.1 (lx.2.1 i + r) ≠ lx.1 (lx.2.1 (i + 1) + r) := hr.2.2
  refine nz_metRi (by decide) rfl (Nat.le_of_ble_eq_true rfl) rfl ?_
  intro p e s m args below meth c Q hx hb hml hts hown hP hK hret ls hl
  have hl : lv_has ls 4 [(0, .ref (a 3)), (1, .int (nI (i)))] := hl
  have hown : s.vm.findClass RX0 = some m.cls := hown
  have hinX0 : ∀ w ∈ u_ws RX0 TX0 4, w ∈ wsX0_sharedWithNext := by decide +kernel
  refine lv_aload_n hx hb dX0_sharedWithNext_0 rfl (lv_at hl 0 rfl) ?_
  refine lv_iload_n hx hb dX0_sharedWithNext_1 rfl (lv_at hl 1 rfl) ?_
  refine nz_callR (va_runV (As := [.int (nI (i))]) (rest := []) ⟨hx, hb, hml, hown, hts⟩ (mX0_lengthOf l D a cs tp wd lx ro rs i hB (by omega)) (cwV 1 hts gX0_sharedWithNext_X0_lengthOf rfl rfl rfl (by decide +kernel) ⟨Nat.le_of_ble_eq_true rfl, Nat.le_of_ble_eq_true rfl⟩) (nz_preV (ci := 0) (q0 := 3) hK hP rfl rfl) rfl rfl hl.1 rfl (lv_room (Nat.le_of_ble_eq_true rfl)) dX0_sharedWithNext_2 ⟨Nat.zero_le _, Nat.zero_le _⟩) ?_
  refine lv_aload_n hx hb dX0_sharedWithNext_5 rfl (lv_at hl 0 rfl) ?_
  refine lv_iload_n hx hb dX0_sharedWithNext_6 rfl (lv_at hl 1 rfl) ?_
  refine lv_iconst (v := nI 1) hx hb dX0_sharedWithNext_7 (by decide +kernel) ?_
  refine nz_iadd (a := i) (b := 1) hx hb dX0_sharedWithNext_8 ?_
  refine nz_callR (va_runV (As := [.int (nI (i + 1))]) (rest := [.int (nI (lx.2.1 (i + 1) - lx.2.1 i))]) ⟨hx, hb, hml, hown, hts⟩ (mX0_lengthOf l D a cs tp wd lx ro rs (i + 1) hB (by omega)) (cwV 1 hts gX0_sharedWithNext_X0_lengthOf rfl rfl rfl (by decide +kernel) ⟨Nat.le_of_ble_eq_true rfl, Nat.le_of_ble_eq_true rfl⟩) (nz_preV (ci := 0) (q0 := 3) hK hP rfl rfl) rfl rfl hl.1 rfl (lv_room (Nat.le_of_ble_eq_true rfl)) dX0_sharedWithNext_9 ⟨Nat.zero_le _, Nat.zero_le _⟩) ?_
  refine nz_mmin (a := lx.2.1 (i + 1) - lx.2.1 i) (b := lx.2.1 ((i + 1) + 1) - lx.2.1 (i + 1)) hx hb (hml.trans hl.1.symm) hown (hts (.methodLink RX0 48 Lib.Math.min.name) (by decide +kernel)) (hts (.static Lib.Math.min.name) (by decide +kernel)) (hts (.initialized "java/lang/Math") (by decide +kernel)) (hts (.code Lib.Math.min.name Lib.Math.min.code 2 (some .int)) (by decide +kernel)) (Nat.le_of_ble_eq_true rfl) (Nat.le_of_ble_eq_true rfl) (Nat.zero_le _) (Nat.zero_le _) (by omega) (by omega) dX0_sharedWithNext_12 ?_
  refine lv_istore_n (lv' := [(2, .int (nI (min (lx.2.1 (i + 1) - lx.2.1 i) (lx.2.1 ((i + 1) + 1) - lx.2.1 (i + 1))))), (0, .ref (a 3)), (1, .int (nI (i)))]) hx hb dX0_sharedWithNext_15 rfl hl (by decide) rfl (fun ls hl => ?_)
  refine lv_iconst (v := nI 0) hx hb dX0_sharedWithNext_16 (by decide +kernel) ?_
  refine lv_istore_n (lv' := [(3, .int (nI (0))), (2, .int (nI (min (lx.2.1 (i + 1) - lx.2.1 i) (lx.2.1 ((i + 1) + 1) - lx.2.1 (i + 1))))), (0, .ref (a 3)), (1, .int (nI (i)))]) hx hb dX0_sharedWithNext_17 rfl hl (by decide) rfl (fun ls hl => ?_)
  have loop : ∀ (fuel : Nat) (k : Nat), (k ≤ r) → r - k < fuel → ∀ ls : Array Slot, lv_has ls 4 [(0, .ref (a 3)), (1, .int (nI (i))), (2, .int (nI (min (lx.2.1 (i + 1) - lx.2.1 i) (lx.2.1 (i + 1 + 1) - lx.2.1 (i + 1))))), (3, .int (nI (k)))] → W p l e rmX0_sharedWithNext s m args below meth c s.heap [] 0 0 Q (F0 m 18 ls []) := by
    intro fuel
    induction fuel with
    | zero => intro k hk hf; exact absurd hf (Nat.not_lt_zero _)
    | succ fuel ih =>
      intro k hk hf ls hl
      refine lv_iload_n hx hb dX0_sharedWithNext_18 rfl (lv_at hl 3 rfl) ?_
      refine lv_iload_n hx hb dX0_sharedWithNext_19 rfl (lv_at hl 2 rfl) ?_
      refine nz_cge (a := k) (b := min (lx.2.1 (i + 1) - lx.2.1 i) (lx.2.1 (i + 1 + 1) - lx.2.1 (i + 1))) (tgt := 60) hx hb dX0_sharedWithNext_20 (by decide) (by omega) (by omega) (fun c_20 => ?_) (fun c_20 => ?_)
      · have hkr : k = r := by omega
        refine lv_iload_n hx hb dX0_sharedWithNext_60 rfl (lv_at hl 3 rfl) ?_
        rw [hkr]
        exact hret 61 ls dX0_sharedWithNext_61
      · refine lv_aload_n hx hb dX0_sharedWithNext_23 rfl (lv_at hl 0 rfl) ?_
        refine va_get (D := D) (ci := 0) (v := .ref (a 8)) (C := RX0) (T := TX0) (N := 4) hx hb hts hinX0 hown hK hP 3 rfl rfl 0 (by decide) (hts (.fieldLink RX0 9 "TypoSuggester$Lexicon" "letters" "[B") (by decide +kernel)) (fun _ h9 => h9) rfl dX0_sharedWithNext_24 ?_
        refine lv_aload_n hx hb dX0_sharedWithNext_27 rfl (lv_at hl 0 rfl) ?_
        refine va_get (D := D) (ci := 0) (v := .ref (a 9)) (C := RX0) (T := TX0) (N := 4) hx hb hts hinX0 hown hK hP 3 rfl rfl 1 (by decide) (hts (.fieldLink RX0 15 "TypoSuggester$Lexicon" "starts" "[I") (by decide +kernel)) (fun _ h9 => h9) rfl dX0_sharedWithNext_28 ?_
        refine lv_iload_n hx hb dX0_sharedWithNext_31 rfl (lv_at hl 1 rfl) ?_
        refine nz_iald (f := lx.2.1) (k := i) hx hb hK hP 9 1 rfl rfl (by omega) (by decide) dX0_sharedWithNext_32 ?_
        refine lv_iload_n hx hb dX0_sharedWithNext_33 rfl (lv_at hl 3 rfl) ?_
        refine nz_iadd (a := lx.2.1 i) (b := k) hx hb dX0_sharedWithNext_34 ?_
        refine nz_bald (f := lx.1) (k := lx.2.1 i + k) hx hb hK hP 8 0 rfl rfl (by omega) (by decide) dX0_sharedWithNext_35 ?_
        refine lv_aload_n hx hb dX0_sharedWithNext_36 rfl (lv_at hl 0 rfl) ?_
        refine va_get (D := D) (ci := 0) (v := .ref (a 8)) (C := RX0) (T := TX0) (N := 4) hx hb hts hinX0 hown hK hP 3 rfl rfl 0 (by decide) (hts (.fieldLink RX0 9 "TypoSuggester$Lexicon" "letters" "[B") (by decide +kernel)) (fun _ h9 => h9) rfl dX0_sharedWithNext_37 ?_
        refine lv_aload_n hx hb dX0_sharedWithNext_40 rfl (lv_at hl 0 rfl) ?_
        refine va_get (D := D) (ci := 0) (v := .ref (a 9)) (C := RX0) (T := TX0) (N := 4) hx hb hts hinX0 hown hK hP 3 rfl rfl 1 (by decide) (hts (.fieldLink RX0 15 "TypoSuggester$Lexicon" "starts" "[I") (by decide +kernel)) (fun _ h9 => h9) rfl dX0_sharedWithNext_41 ?_
        refine lv_iload_n hx hb dX0_sharedWithNext_44 rfl (lv_at hl 1 rfl) ?_
        refine lv_iconst (v := nI 1) hx hb dX0_sharedWithNext_45 (by decide +kernel) ?_
        refine nz_iadd (a := i) (b := 1) hx hb dX0_sharedWithNext_46 ?_
        refine nz_iald (f := lx.2.1) (k := i + 1) hx hb hK hP 9 1 rfl rfl (by omega) (by decide) dX0_sharedWithNext_47 ?_
        refine lv_iload_n hx hb dX0_sharedWithNext_48 rfl (lv_at hl 3 rfl) ?_
        refine nz_iadd (a := lx.2.1 (i + 1)) (b := k) hx hb dX0_sharedWithNext_49 ?_
        refine nz_bald (f := lx.1) (k := lx.2.1 (i + 1) + k) hx hb hK hP 8 0 rfl rfl (by omega) (by decide) dX0_sharedWithNext_50 ?_
        refine nz_cne (a := lx.1 (lx.2.1 i + k)) (b := lx.1 (lx.2.1 (i + 1) + k)) (tgt := 60) hx hb dX0_sharedWithNext_51 (by decide) (by have := hB4 (lx.2.1 i + k); omega) (by have := hB4 (lx.2.1 (i + 1) + k); omega) (fun c_51 => ?_) (fun c_51 => ?_)
        · have hkr : k = r := by
            rcases Nat.lt_or_ge k r with h | h
            · exact absurd (hr2 k h) c_51
            · omega
          refine lv_iload_n hx hb dX0_sharedWithNext_60 rfl (lv_at hl 3 rfl) ?_
          rw [hkr]
          exact hret 61 ls dX0_sharedWithNext_61
        · have hkr : k < r := by
            rcases Nat.lt_or_ge k r with h | h
            · exact h
            · have h2 : k = r := by omega
              rw [h2] at c_20 c_51
              exact absurd c_51 (hr3 c_20)
          refine lv_iinc (v := nI (k + 1)) (lv' := [(3, .int (nI (k + 1))), (0, .ref (a 3)), (1, .int (nI (i))), (2, .int (nI (min (lx.2.1 (i + 1) - lx.2.1 i) (lx.2.1 (i + 1 + 1) - lx.2.1 (i + 1)))))]) hx hb dX0_sharedWithNext_54 hl (k := 3) rfl (nz_inc1 _) (by decide) rfl (fun ls hl => ?_)
          refine lv_goto (tgt := 18) hx hb dX0_sharedWithNext_57 (by decide) ?_
          exact ih (k + 1) (by omega) (by omega) ls (lv_sub hl [1, 2, 3, 0] rfl)
  exact loop (r - 0 + 1) 0 (Nat.zero_le _) (Nat.lt_succ_self _) ls (lv_sub hl [2, 3, 1, 0] rfl)
abbrev rmX0_rankOf : Room := { frames := 0, cells := 0, slots := 0, locals := 0 }
set_option maxHeartbeats 4000000 in
set_option maxRecDepth 100000 in
theorem mX0_rankOf (l : Launch) (D : va_G) (a : Nat → Nat) (cs : Nat → ClassId) (tp : (Nat → Int32) × Nat) (wd : (Nat → Nat) × Nat) (lx : (Nat → Nat) × (Nat → Nat) × (Nat → Nat) × Nat) (ro : Nat → Nat) (rs : (Nat → Nat) × (Nat → Nat) × (Nat → Nat) × (Nat → Nat) × (Nat → Nat) × Nat) (i : Nat) (hB : LxB lx) (hi : i < lx.2.2.2) : Met l yX0_rankOf wsX0_rankOf rmX0_rankOf (wdP D vwCl (wX a cs tp wd lx ro rs) (tyX cs) [.ref (a 3), .int (nI (i))]) (rdQ (.int (nI (cntF (fun j => decide (lx.2.2.1 i < lx.2.2.1 j ∨ (lx.2.2.1 j = lx.2.2.1 i ∧ j < i))) lx.2.2.2)))) 0 0 (fun _ => False) := by
  obtain ⟨hB1, hB2, hB3, hB4, hB5⟩ := id hB
  refine nz_metRi (by decide) rfl (Nat.le_of_ble_eq_true rfl) rfl ?_
  intro p e s m args below meth c Q hx hb hml hts hown hP hK hret ls hl
  have hl : lv_has ls 4 [(0, .ref (a 3)), (1, .int (nI (i)))] := hl
  have hown : s.vm.findClass RX0 = some m.cls := hown
  have hinX0 : ∀ w ∈ u_ws RX0 TX0 4, w ∈ wsX0_rankOf := by decide +kernel
  refine lv_iconst (v := nI 0) hx hb dX0_rankOf_0 (by decide +kernel) ?_
  refine lv_istore_n (lv' := [(2, .int (nI (0))), (0, .ref (a 3)), (1, .int (nI (i)))]) hx hb dX0_rankOf_1 rfl hl (by decide) rfl (fun ls hl => ?_)
  refine lv_iconst (v := nI 0) hx hb dX0_rankOf_2 (by decide +kernel) ?_
  refine lv_istore_n (lv' := [(3, .int (nI (0))), (2, .int (nI (0))), (0, .ref (a 3)), (1, .int (nI (i)))]) hx hb dX0_rankOf_3 rfl hl (by decide) rfl (fun ls hl => ?_)
  have loop : ∀ (fuel : Nat) (k : Nat), (k ≤ lx.2.2.2) → lx.2.2.2 - k < fuel → ∀ ls : Array Slot, lv_has ls 4 [(0, .ref (a 3)), (1, .int (nI (i))), (2, .int (nI (cntF (fun j => decide (lx.2.2.1 i < lx.2.2.1 j ∨ (lx.2.2.1 j = lx.2.2.1 i ∧ j < i))) k))), (3, .int (nI (k)))] → W p l e rmX0_rankOf s m args below meth c s.heap [] 0 0 Q (F0 m 4 ls []) := by
    intro fuel
    induction fuel with
    | zero => intro k hk hf; exact absurd hf (Nat.not_lt_zero _)
    | succ fuel ih =>
      intro k hk hf ls hl
      have hc := cntF_le (fun j => decide (lx.2.2.1 i < lx.2.2.1 j ∨ (lx.2.2.1 j = lx.2.2.1 i ∧ j < i))) k
      have hw1 := hB5 k
      have hw2 := hB5 i
      refine lv_iload_n hx hb dX0_rankOf_4 rfl (lv_at hl 3 rfl) ?_
      refine lv_aload_n hx hb dX0_rankOf_5 rfl (lv_at hl 0 rfl) ?_
      refine va_get (D := D) (ci := 0) (v := .int (nI (lx.2.2.2))) (C := RX0) (T := TX0) (N := 4) hx hb hts hinX0 hown hK hP 3 rfl rfl 3 (by decide) (hts (.fieldLink RX0 23 "TypoSuggester$Lexicon" "count" "I") (by decide +kernel)) (fun _ h9 => h9) rfl dX0_rankOf_6 ?_
      refine nz_cge (a := k) (b := lx.2.2.2) (tgt := 58) hx hb dX0_rankOf_9 (by decide) (by omega) (by omega) (fun c_9 => ?_) (fun c_9 => ?_)
      · refine lv_iload_n hx hb dX0_rankOf_58 rfl (lv_at hl 2 rfl) ?_
        rw [show k = lx.2.2.2 by omega]
        exact hret 59 ls dX0_rankOf_59
      · refine lv_aload_n hx hb dX0_rankOf_12 rfl (lv_at hl 0 rfl) ?_
        refine va_get (D := D) (ci := 0) (v := .ref (a 10)) (C := RX0) (T := TX0) (N := 4) hx hb hts hinX0 hown hK hP 3 rfl rfl 2 (by decide) (hts (.fieldLink RX0 19 "TypoSuggester$Lexicon" "weights" "[J") (by decide +kernel)) (fun _ h9 => h9) rfl dX0_rankOf_13 ?_
        refine lv_iload_n hx hb dX0_rankOf_16 rfl (lv_at hl 3 rfl) ?_
        refine nz_lald (f := lx.2.2.1) (k := k) hx hb hK hP 10 2 rfl rfl (by omega) (by decide) dX0_rankOf_17 ?_
        refine lv_aload_n hx hb dX0_rankOf_18 rfl (lv_at hl 0 rfl) ?_
        refine va_get (D := D) (ci := 0) (v := .ref (a 10)) (C := RX0) (T := TX0) (N := 4) hx hb hts hinX0 hown hK hP 3 rfl rfl 2 (by decide) (hts (.fieldLink RX0 19 "TypoSuggester$Lexicon" "weights" "[J") (by decide +kernel)) (fun _ h9 => h9) rfl dX0_rankOf_19 ?_
        refine lv_iload_n hx hb dX0_rankOf_22 rfl (lv_at hl 1 rfl) ?_
        refine nz_lald (f := lx.2.2.1) (k := i) hx hb hK hP 10 2 rfl rfl (by omega) (by decide) dX0_rankOf_23 ?_
        refine W.lcmp hx hb dX0_rankOf_24 ?_
        refine nz_lgt (a := lx.2.2.1 k) (b := lx.2.2.1 i) (tgt := 49) hx hb dX0_rankOf_25 (by decide) (by omega) (by omega) (fun c_25 => ?_) (fun c_25 => ?_)
        · refine lv_iinc (v := nI (cntF (fun j => decide (lx.2.2.1 i < lx.2.2.1 j ∨ (lx.2.2.1 j = lx.2.2.1 i ∧ j < i))) k + 1)) (lv' := [(2, .int (nI (cntF (fun j => decide (lx.2.2.1 i < lx.2.2.1 j ∨ (lx.2.2.1 j = lx.2.2.1 i ∧ j < i))) k + 1))), (0, .ref (a 3)), (1, .int (nI (i))), (3, .int (nI (k)))]) hx hb dX0_rankOf_49 hl (k := 2) rfl (nz_inc1 _) (by decide) rfl (fun ls hl => ?_)
          have hstep : cntF (fun j => decide (lx.2.2.1 i < lx.2.2.1 j ∨ (lx.2.2.1 j = lx.2.2.1 i ∧ j < i))) (k + 1) = cntF (fun j => decide (lx.2.2.1 i < lx.2.2.1 j ∨ (lx.2.2.1 j = lx.2.2.1 i ∧ j < i))) k + 1 := cntF_t (by rw [decide_eq_true_iff]; omega)
          have hl : lv_has ls 4 [(2, .int (nI (cntF (fun j => decide (lx.2.2.1 i < lx.2.2.1 j ∨ (lx.2.2.1 j = lx.2.2.1 i ∧ j < i))) (k + 1)))), (0, .ref (a 3)), (1, .int (nI (i))), (3, .int (nI (k)))] := by rw [hstep]; exact hl
          refine lv_iinc (v := nI (k + 1)) (lv' := [(3, .int (nI (k + 1))), (2, .int (nI (cntF (fun j => decide (lx.2.2.1 i < lx.2.2.1 j ∨ (lx.2.2.1 j = lx.2.2.1 i ∧ j < i))) (k + 1)))), (0, .ref (a 3)), (1, .int (nI (i)))]) hx hb dX0_rankOf_52 hl (k := 3) rfl (nz_inc1 _) (by decide) rfl (fun ls hl => ?_)
          refine lv_goto (tgt := 4) hx hb dX0_rankOf_55 (by decide) ?_
          exact ih (k + 1) (by omega) (by omega) ls (lv_sub hl [2, 3, 1, 0] rfl)
        · refine lv_aload_n hx hb dX0_rankOf_28 rfl (lv_at hl 0 rfl) ?_
          refine va_get (D := D) (ci := 0) (v := .ref (a 10)) (C := RX0) (T := TX0) (N := 4) hx hb hts hinX0 hown hK hP 3 rfl rfl 2 (by decide) (hts (.fieldLink RX0 19 "TypoSuggester$Lexicon" "weights" "[J") (by decide +kernel)) (fun _ h9 => h9) rfl dX0_rankOf_29 ?_
          refine lv_iload_n hx hb dX0_rankOf_32 rfl (lv_at hl 3 rfl) ?_
          refine nz_lald (f := lx.2.2.1) (k := k) hx hb hK hP 10 2 rfl rfl (by omega) (by decide) dX0_rankOf_33 ?_
          refine lv_aload_n hx hb dX0_rankOf_34 rfl (lv_at hl 0 rfl) ?_
          refine va_get (D := D) (ci := 0) (v := .ref (a 10)) (C := RX0) (T := TX0) (N := 4) hx hb hts hinX0 hown hK hP 3 rfl rfl 2 (by decide) (hts (.fieldLink RX0 19 "TypoSuggester$Lexicon" "weights" "[J") (by decide +kernel)) (fun _ h9 => h9) rfl dX0_rankOf_35 ?_
          refine lv_iload_n hx hb dX0_rankOf_38 rfl (lv_at hl 1 rfl) ?_
          refine nz_lald (f := lx.2.2.1) (k := i) hx hb hK hP 10 2 rfl rfl (by omega) (by decide) dX0_rankOf_39 ?_
          refine W.lcmp hx hb dX0_rankOf_40 ?_
          refine nz_lne (a := lx.2.2.1 k) (b := lx.2.2.1 i) (tgt := 52) hx hb dX0_rankOf_41 (by decide) (by omega) (by omega) (fun c_41 => ?_) (fun c_41 => ?_)
          · have hstep : cntF (fun j => decide (lx.2.2.1 i < lx.2.2.1 j ∨ (lx.2.2.1 j = lx.2.2.1 i ∧ j < i))) (k + 1) = cntF (fun j => decide (lx.2.2.1 i < lx.2.2.1 j ∨ (lx.2.2.1 j = lx.2.2.1 i ∧ j < i))) k := cntF_f (by rw [decide_eq_false_iff_not]; omega)
            have hl : lv_has ls 4 [(0, .ref (a 3)), (1, .int (nI (i))), (2, .int (nI (cntF (fun j => decide (lx.2.2.1 i < lx.2.2.1 j ∨ (lx.2.2.1 j = lx.2.2.1 i ∧ j < i))) (k + 1)))), (3, .int (nI (k)))] := by rw [hstep]; exact hl
            refine lv_iinc (v := nI (k + 1)) (lv' := [(3, .int (nI (k + 1))), (0, .ref (a 3)), (1, .int (nI (i))), (2, .int (nI (cntF (fun j => decide (lx.2.2.1 i < lx.2.2.1 j ∨ (lx.2.2.1 j = lx.2.2.1 i ∧ j < i))) (k + 1))))]) hx hb dX0_rankOf_52 hl (k := 3) rfl (nz_inc1 _) (by decide) rfl (fun ls hl => ?_)
            refine lv_goto (tgt := 4) hx hb dX0_rankOf_55 (by decide) ?_
            exact ih (k + 1) (by omega) (by omega) ls (lv_sub hl [1, 2, 3, 0] rfl)
          · refine lv_iload_n hx hb dX0_rankOf_44 rfl (lv_at hl 3 rfl) ?_
            refine lv_iload_n hx hb dX0_rankOf_45 rfl (lv_at hl 1 rfl) ?_
            refine nz_cge (a := k) (b := i) (tgt := 52) hx hb dX0_rankOf_46 (by decide) (by omega) (by omega) (fun c_46 => ?_) (fun c_46 => ?_)
            · have hstep : cntF (fun j => decide (lx.2.2.1 i < lx.2.2.1 j ∨ (lx.2.2.1 j = lx.2.2.1 i ∧ j < i))) (k + 1) = cntF (fun j => decide (lx.2.2.1 i < lx.2.2.1 j ∨ (lx.2.2.1 j = lx.2.2.1 i ∧ j < i))) k := cntF_f (by rw [decide_eq_false_iff_not]; omega)
              have hl : lv_has ls 4 [(0, .ref (a 3)), (1, .int (nI (i))), (2, .int (nI (cntF (fun j => decide (lx.2.2.1 i < lx.2.2.1 j ∨ (lx.2.2.1 j = lx.2.2.1 i ∧ j < i))) (k + 1)))), (3, .int (nI (k)))] := by rw [hstep]; exact hl
              refine lv_iinc (v := nI (k + 1)) (lv' := [(3, .int (nI (k + 1))), (0, .ref (a 3)), (1, .int (nI (i))), (2, .int (nI (cntF (fun j => decide (lx.2.2.1 i < lx.2.2.1 j ∨ (lx.2.2.1 j = lx.2.2.1 i ∧ j < i))) (k + 1))))]) hx hb dX0_rankOf_52 hl (k := 3) rfl (nz_inc1 _) (by decide) rfl (fun ls hl => ?_)
              refine lv_goto (tgt := 4) hx hb dX0_rankOf_55 (by decide) ?_
              exact ih (k + 1) (by omega) (by omega) ls (lv_sub hl [1, 2, 3, 0] rfl)
            · refine lv_iinc (v := nI (cntF (fun j => decide (lx.2.2.1 i < lx.2.2.1 j ∨ (lx.2.2.1 j = lx.2.2.1 i ∧ j < i))) k + 1)) (lv' := [(2, .int (nI (cntF (fun j => decide (lx.2.2.1 i < lx.2.2.1 j ∨ (lx.2.2.1 j = lx.2.2.1 i ∧ j < i))) k + 1))), (0, .ref (a 3)), (1, .int (nI (i))), (3, .int (nI (k)))]) hx hb dX0_rankOf_49 hl (k := 2) rfl (nz_inc1 _) (by decide) rfl (fun ls hl => ?_)
              have hstep : cntF (fun j => decide (lx.2.2.1 i < lx.2.2.1 j ∨ (lx.2.2.1 j = lx.2.2.1 i ∧ j < i))) (k + 1) = cntF (fun j => decide (lx.2.2.1 i < lx.2.2.1 j ∨ (lx.2.2.1 j = lx.2.2.1 i ∧ j < i))) k + 1 := cntF_t (by rw [decide_eq_true_iff]; omega)
              have hl : lv_has ls 4 [(2, .int (nI (cntF (fun j => decide (lx.2.2.1 i < lx.2.2.1 j ∨ (lx.2.2.1 j = lx.2.2.1 i ∧ j < i))) (k + 1)))), (0, .ref (a 3)), (1, .int (nI (i))), (3, .int (nI (k)))] := by rw [hstep]; exact hl
              refine lv_iinc (v := nI (k + 1)) (lv' := [(3, .int (nI (k + 1))), (2, .int (nI (cntF (fun j => decide (lx.2.2.1 i < lx.2.2.1 j ∨ (lx.2.2.1 j = lx.2.2.1 i ∧ j < i))) (k + 1)))), (0, .ref (a 3)), (1, .int (nI (i)))]) hx hb dX0_rankOf_52 hl (k := 3) rfl (nz_inc1 _) (by decide) rfl (fun ls hl => ?_)
              refine lv_goto (tgt := 4) hx hb dX0_rankOf_55 (by decide) ?_
              exact ih (k + 1) (by omega) (by omega) ls (lv_sub hl [2, 3, 1, 0] rfl)
  exact loop (lx.2.2.2 - 0 + 1) 0 (Nat.zero_le _) (Nat.lt_succ_self _) ls (lv_sub hl [2, 3, 1, 0] rfl)
abbrev rmX0_countPrefixes : Room := { frames := 2, cells := 0, slots := 0, locals := 46 }
set_option maxHeartbeats 4000000 in
set_option maxRecDepth 100000 in
theorem mX0_countPrefixes (l : Launch) (D : va_G) (a : Nat → Nat) (cs : Nat → ClassId) (tp : (Nat → Int32) × Nat) (wd : (Nat → Nat) × Nat) (lx : (Nat → Nat) × (Nat → Nat) × (Nat → Nat) × Nat) (ro : Nat → Nat) (rs : (Nat → Nat) × (Nat → Nat) × (Nat → Nat) × (Nat → Nat) × (Nat → Nat) × Nat) (sh : Nat → Nat) (hB : LxB lx) (hsh : ∀ i, i + 1 < lx.2.2.2 → IsLcp (TX lx i) (TX lx (i + 1)) (min (ZX lx i) (ZX lx (i + 1))) (sh i)) : Met l yX0_countPrefixes wsX0_countPrefixes rmX0_countPrefixes (wdP D vwCl (wX a cs tp wd lx ro rs) (tyX cs) [.ref (a 3)]) (rdQ (.int (nI (if lx.2.2.2 = 0 then 0 else 1 + lx.2.1 lx.2.2.2 - sumF sh (lx.2.2.2 - 1))))) 0 0 (fun _ => False) := by
  obtain ⟨hB1, hB2, hB3, hB4, hB5⟩ := id hB
  have hmo : ∀ k, k ≤ lx.2.2.2 → lx.2.1 k ≤ lx.2.1 lx.2.2.2 := fun k hk => lx_mono hB k _ hk (Nat.le_refl _)
  refine nz_metRi (by decide) rfl (Nat.le_of_ble_eq_true rfl) rfl ?_
  intro p e s m args below meth c Q hx hb hml hts hown hP hK hret ls hl
  have hl : lv_has ls 3 [(0, .ref (a 3))] := hl
  have hown : s.vm.findClass RX0 = some m.cls := hown
  have hinX0 : ∀ w ∈ u_ws RX0 TX0 4, w ∈ wsX0_countPrefixes := by decide +kernel
  refine lv_aload_n hx hb dX0_countPrefixes_0 rfl (lv_at hl 0 rfl) ?_
  refine va_get (D := D) (ci := 0) (v := .int (nI (lx.2.2.2))) (C := RX0) (T := TX0) (N := 4) hx hb hts hinX0 hown hK hP 3 rfl rfl 3 (by decide) (hts (.fieldLink RX0 23 "TypoSuggester$Lexicon" "count" "I") (by decide +kernel)) (fun _ h9 => h9) rfl dX0_countPrefixes_1 ?_
  refine nz_ifne (a := lx.2.2.2) (tgt := 9) hx hb dX0_countPrefixes_4 (by decide) (by omega) (fun c_4 => ?_) (fun c_4 => ?_)
  · refine lv_iconst (v := nI 1) hx hb dX0_countPrefixes_9 (by decide +kernel) ?_
    refine lv_aload_n hx hb dX0_countPrefixes_10 rfl (lv_at hl 0 rfl) ?_
    refine nz_callR (va_runV (As := []) (rest := [.int (nI (1))]) ⟨hx, hb, hml, hown, hts⟩ (mX0_size l D a cs tp wd lx ro rs hB) (cwV 0 hts gX0_countPrefixes_X0_size rfl rfl rfl (by decide +kernel) ⟨Nat.le_of_ble_eq_true rfl, Nat.le_of_ble_eq_true rfl⟩) (nz_preV (ci := 0) (q0 := 3) hK hP rfl rfl) rfl rfl hl.1 rfl (lv_room (Nat.le_of_ble_eq_true rfl)) dX0_countPrefixes_11 ⟨Nat.zero_le _, Nat.zero_le _⟩) ?_
    refine nz_iadd (a := 1) (b := lx.2.1 lx.2.2.2) hx hb dX0_countPrefixes_14 ?_
    refine nz_top (y := nI (1 + (lx.2.1 lx.2.2.2))) (by rfl) ?_
    refine lv_istore_n (lv' := [(1, .int (nI (1 + (lx.2.1 lx.2.2.2)))), (0, .ref (a 3))]) hx hb dX0_countPrefixes_15 rfl hl (by decide) rfl (fun ls hl => ?_)
    refine lv_iconst (v := nI 0) hx hb dX0_countPrefixes_16 (by decide +kernel) ?_
    refine lv_istore_n (lv' := [(2, .int (nI (0))), (1, .int (nI (1 + (lx.2.1 lx.2.2.2)))), (0, .ref (a 3))]) hx hb dX0_countPrefixes_17 rfl hl (by decide) rfl (fun ls hl => ?_)
    have loop : ∀ (fuel : Nat) (k : Nat), (k + 1 ≤ lx.2.2.2) → (sumF sh k ≤ lx.2.1 k) → lx.2.2.2 - k < fuel → ∀ ls : Array Slot, lv_has ls 3 [(0, .ref (a 3)), (1, .int (nI (1 + lx.2.1 lx.2.2.2 - sumF sh k))), (2, .int (nI (k)))] → W p l e rmX0_countPrefixes s m args below meth c s.heap [] 0 0 Q (F0 m 18 ls []) := by
      intro fuel
      induction fuel with
      | zero => intro k hk hs hf; exact absurd hf (Nat.not_lt_zero _)
      | succ fuel ih =>
        intro k hk hs hf ls hl
        have hmk := hmo k (by omega)
        have hmk2 := hB3 lx.2.2.2
        refine lv_iload_n hx hb dX0_countPrefixes_18 rfl (lv_at hl 2 rfl) ?_
        refine lv_iconst (v := nI 1) hx hb dX0_countPrefixes_19 (by decide +kernel) ?_
        refine nz_iadd (a := k) (b := 1) hx hb dX0_countPrefixes_20 ?_
        refine lv_aload_n hx hb dX0_countPrefixes_21 rfl (lv_at hl 0 rfl) ?_
        refine va_get (D := D) (ci := 0) (v := .int (nI (lx.2.2.2))) (C := RX0) (T := TX0) (N := 4) hx hb hts hinX0 hown hK hP 3 rfl rfl 3 (by decide) (hts (.fieldLink RX0 23 "TypoSuggester$Lexicon" "count" "I") (by decide +kernel)) (fun _ h9 => h9) rfl dX0_countPrefixes_22 ?_
        refine nz_cge (a := k + 1) (b := lx.2.2.2) (tgt := 42) hx hb dX0_countPrefixes_25 (by decide) (by omega) (by omega) (fun c_25 => ?_) (fun c_25 => ?_)
        · refine lv_iload_n hx hb dX0_countPrefixes_42 rfl (lv_at hl 1 rfl) ?_
          rw [if_neg (show ¬ lx.2.2.2 = 0 by omega)] at hret
          rw [show k = lx.2.2.2 - 1 by omega]
          exact hret 43 ls dX0_countPrefixes_43
        · refine lv_iload_n hx hb dX0_countPrefixes_28 rfl (lv_at hl 1 rfl) ?_
          refine lv_aload_n hx hb dX0_countPrefixes_29 rfl (lv_at hl 0 rfl) ?_
          refine lv_iload_n hx hb dX0_countPrefixes_30 rfl (lv_at hl 2 rfl) ?_
          have hsk := hsh k (by omega)
          have hsk1 : sh k ≤ min (lx.2.1 (k + 1) - lx.2.1 k) (lx.2.1 (k + 1 + 1) - lx.2.1 (k + 1)) := hsk.1
          have hbk := hB2 k (by omega)
          have hbk2 := hmo (k + 1) (by omega)
          refine nz_callR (va_runV (As := [.int (nI (k))]) (rest := [.int (nI (1 + lx.2.1 lx.2.2.2 - sumF sh k))]) ⟨hx, hb, hml, hown, hts⟩ (mX0_sharedWithNext l D a cs tp wd lx ro rs k (sh k) hB (by omega) (hsh k (by omega))) (cwV 1 hts gX0_countPrefixes_X0_sharedWithNext rfl rfl rfl (by decide +kernel) ⟨Nat.le_of_ble_eq_true rfl, Nat.le_of_ble_eq_true rfl⟩) (nz_preV (ci := 0) (q0 := 3) hK hP rfl rfl) rfl rfl hl.1 rfl (lv_room (Nat.le_of_ble_eq_true rfl)) dX0_countPrefixes_31 ⟨Nat.zero_le _, Nat.zero_le _⟩) ?_
          refine nz_isub (a := 1 + lx.2.1 lx.2.2.2 - sumF sh k) (b := (sh k)) hx hb dX0_countPrefixes_34 (by omega) ?_
          refine lv_istore_n (lv' := [(1, .int (nI ((1 + lx.2.1 lx.2.2.2 - sumF sh k) - ((sh k))))), (0, .ref (a 3)), (2, .int (nI (k)))]) hx hb dX0_countPrefixes_35 rfl hl (by decide) rfl (fun ls hl => ?_)
          have hl : lv_has ls 3 [(1, .int (nI (1 + lx.2.1 lx.2.2.2 - sumF sh (k + 1)))), (0, .ref (a 3)), (2, .int (nI (k)))] := by rw [show 1 + lx.2.1 lx.2.2.2 - sumF sh (k + 1) = 1 + lx.2.1 lx.2.2.2 - sumF sh k - sh k by show 1 + lx.2.1 lx.2.2.2 - (sumF sh k + sh k) = _; omega]; exact hl
          refine lv_iinc (v := nI (k + 1)) (lv' := [(2, .int (nI (k + 1))), (1, .int (nI (1 + lx.2.1 lx.2.2.2 - sumF sh (k + 1)))), (0, .ref (a 3))]) hx hb dX0_countPrefixes_36 hl (k := 2) rfl (nz_inc1 _) (by decide) rfl (fun ls hl => ?_)
          refine lv_goto (tgt := 18) hx hb dX0_countPrefixes_39 (by decide) ?_
          exact ih (k + 1) (by omega) (by show sumF sh k + sh k ≤ _; omega) (by omega) ls (lv_sub hl [2, 1, 0] rfl)
    exact loop (lx.2.2.2 - 0 + 1) 0 (by omega) (Nat.zero_le _) (Nat.lt_succ_self _) ls (lv_sub hl [2, 1, 0] rfl)
  · refine lv_iconst (v := nI 0) hx hb dX0_countPrefixes_7 (by decide +kernel) ?_
    rw [if_pos (show lx.2.2.2 = 0 by omega)] at hret
    exact hret 8 ls dX0_countPrefixes_8
end
section
/-! The Lexicon's methods that write. -/
def insSt (st : Nat → Nat) (p len n : Nat) : Nat → Nat := fun j => if p < j ∧ j ≤ n + 1 then st (j - 1) + len else st j
def delSt (st : Nat → Nat) (p len n : Nat) : Nat → Nat := fun j => if p < j ∧ j < n then st (j + 1) - len else st j
def lxIns (lx : (Nat → Nat) × (Nat → Nat) × (Nat → Nat) × Nat) (wd : (Nat → Nat) × Nat) (p wt : Nat) : (Nat → Nat) × (Nat → Nat) × (Nat → Nat) × Nat :=
  (va_cpy wd.1 (va_cpy lx.1 lx.1 (lx.2.1 p) (lx.2.1 p + wd.2) (lx.2.1 lx.2.2.2 - lx.2.1 p)) 0 (lx.2.1 p) wd.2, insSt lx.2.1 p wd.2 lx.2.2.2, va_up (va_cpy lx.2.2.1 lx.2.2.1 p (p + 1) (lx.2.2.2 - p)) p wt, lx.2.2.2 + 1)
def lxDel (lx : (Nat → Nat) × (Nat → Nat) × (Nat → Nat) × Nat) (p : Nat) : (Nat → Nat) × (Nat → Nat) × (Nat → Nat) × Nat :=
  (va_cpy lx.1 lx.1 (lx.2.1 (p + 1)) (lx.2.1 p) (lx.2.1 lx.2.2.2 - lx.2.1 (p + 1)), delSt lx.2.1 p (lx.2.1 (p + 1) - lx.2.1 p) lx.2.2.2, va_cpy lx.2.2.1 lx.2.2.1 (p + 1) p (lx.2.2.2 - p - 1), lx.2.2.2 - 1)
def lxAdd (lx : (Nat → Nat) × (Nat → Nat) × (Nat → Nat) × Nat) (p wt : Nat) : (Nat → Nat) × (Nat → Nat) × (Nat → Nat) × Nat := (lx.1, lx.2.1, va_up lx.2.2.1 p (min (lx.2.2.1 p + wt) 1000000000000), lx.2.2.2)
def mI (k : Nat) : Int32 := nI k + Int32.ofInt (-1)
theorem mI_pos {k : Nat} (h : 0 < k) : mI k = nI (k - 1) := nz_incm h
theorem mI_0 : mI 0 < 0 := by decide +kernel
theorem mI_lt {k i : Nat} (hk : k < 2 ^ 31) (hi : i < 2 ^ 31) : mI k < nI i ↔ k ≤ i := by
  rcases Nat.eq_zero_or_pos k with h | h
  · subst h
    refine ⟨fun _ => Nat.zero_le _, fun _ => ?_⟩
    have h1 := nI_pos' hi
    exact Int32.lt_of_lt_of_le mI_0 h1
  · rw [mI_pos h, nI_ltI (by omega) hi]
    omega
theorem insSt_0 (st : Nat → Nat) (len n : Nat) : insSt st (n + 1) len n = st := by
  funext j
  unfold insSt
  rw [if_neg (by omega)]
theorem insSt_le {st : Nat → Nat} {p len n j : Nat} (h : j ≤ p) : insSt st p len n j = st j := by
  unfold insSt
  rw [if_neg (by omega)]
theorem insSt_step {st : Nat → Nat} {k len n : Nat} (h : 0 < k) (h2 : k ≤ n + 1) : va_up (insSt st k len n) (k - 1 + 1) (insSt st k len n (k - 1) + len) = insSt st (k - 1) len n := by
  funext j
  rw [insSt_le (by omega)]
  unfold va_up insSt
  by_cases e : j = k - 1 + 1
  · rw [if_pos e, if_pos (by omega), e]
    rfl
  · rw [if_neg e]
    by_cases q : k < j ∧ j ≤ n + 1
    · rw [if_pos q, if_pos (by omega)]
    · rw [if_neg q, if_neg (by omega)]
theorem delSt_0 (st : Nat → Nat) (p len : Nat) : delSt st p len (p + 1) = st := by
  funext j
  unfold delSt
  rw [if_neg (by omega)]
theorem delSt_ge {st : Nat → Nat} {p len n j : Nat} (h : n ≤ j) : delSt st p len n j = st j := by
  unfold delSt
  rw [if_neg (by omega)]
theorem delSt_step {st : Nat → Nat} {p len k : Nat} (h : p < k) : va_up (delSt st p len k) k (delSt st p len k (k + 1) - len) = delSt st p len (k + 1) := by
  funext j
  rw [delSt_ge (by omega)]
  unfold va_up delSt
  by_cases e : j = k
  · rw [if_pos e, if_pos (by omega), e]
  · rw [if_neg e]
    by_cases q : p < j ∧ j < k
    · rw [if_pos q, if_pos (by omega)]
    · rw [if_neg q, if_neg (by omega)]
abbrev rmX0_insert : Room := { frames := 1, cells := 0, slots := 0, locals := 30 }
set_option maxHeartbeats 4000000 in
set_option maxRecDepth 100000 in
theorem mX0_insert (l : Launch) (D : va_G) (a : Nat → Nat) (cs : Nat → ClassId) (tp : (Nat → Int32) × Nat) (wd : (Nat → Nat) × Nat) (lx : (Nat → Nat) × (Nat → Nat) × (Nat → Nat) × Nat) (ro : Nat → Nat) (rs : (Nat → Nat) × (Nat → Nat) × (Nat → Nat) × (Nat → Nat) × (Nat → Nat) × Nat) (i : Nat) (wt : Nat) (bb : Bool) (ha : wInj a) (hB : LxB lx) (hW : WdB wd) (hi : i ≤ lx.2.2.2) (hwt : wt ≤ 1000000000000) (hbb : bb = true ↔ (lx.2.2.2 < 600 ∧ lx.2.1 lx.2.2.2 + wd.2 ≤ 6000)) : Met l yX0_insert wsX0_insert rmX0_insert (wdP D vwCl (wX a cs tp wd lx ro rs) (tyX cs) [.ref (a 3), .int (nI (i)), .ref (a 2), .long (lN (wt))]) (wrQ (some (.int (bI (bb)))) (fun H => va_P D vwCl (wX a cs tp wd (bif bb then lxIns lx wd i wt else lx) ro rs) H) (inX a)) 0 0 (inX a) := by
  obtain ⟨hB1, hB2, hB3, hB4, hB5⟩ := id hB
  obtain ⟨hW1, hW2⟩ := id hW
  have hmo : ∀ k, k ≤ lx.2.2.2 → lx.2.1 k ≤ lx.2.1 lx.2.2.2 := fun k hk => lx_mono hB k _ hk (Nat.le_refl _)
  have hsz := hB3 lx.2.2.2
  have hmi := hmo i hi
  refine nz_metWi (by decide) rfl (Nat.le_of_ble_eq_true rfl) (bI_nar _) ?_
  intro p e s m args below meth c Q hx hb hml hts hown hP hK hret ls hl
  have hl : lv_has ls 7 [(0, .ref (a 3)), (1, .int (nI (i))), (2, .ref (a 2)), (3, .long (lN (wt)))] := hl
  have hown : s.vm.findClass RX0 = some m.cls := hown
  have hinX0 : ∀ w ∈ u_ws RX0 TX0 4, w ∈ wsX0_insert := by decide +kernel
  have hinX4 : ∀ w ∈ u_ws RX4 TX4 2, w ∈ wsX0_insert := by decide +kernel
  have hS : va_S (inX a) s.heap s.heap [] := va_S.rf
  obtain ⟨H, hH⟩ : ∃ H, H = s.heap := ⟨_, rfl⟩
  obtain ⟨locs, hlocs⟩ : ∃ locs : List Loc, locs = [] := ⟨_, rfl⟩
  have hP : va_P D vwCl (wX a cs tp wd lx ro rs) H := hH ▸ hP
  have hS : va_S (inX a) s.heap H locs := by rw [hH, hlocs]; exact va_S.rf
  suffices hgo : W p l e rmX0_insert s m args below meth c H locs 0 0 Q (F0 m 0 ls []) by rw [hH, hlocs] at hgo; exact hgo
  clear hH hlocs
  refine lv_aload_n hx hb dX0_insert_0 rfl (lv_at hl 0 rfl) ?_
  refine va_get (D := D) (ci := 0) (v := .int (nI (lx.2.2.2))) (C := RX0) (T := TX0) (N := 4) hx hb hts hinX0 hown hK hP 3 rfl rfl 3 (by decide) (hts (.fieldLink RX0 23 "TypoSuggester$Lexicon" "count" "I") (by decide +kernel)) (fun _ h9 => h9) rfl dX0_insert_1 ?_
  refine lv_sipush (v := nI 600) hx hb dX0_insert_4 (by decide +kernel) ?_
  refine nz_cge (a := lx.2.2.2) (b := 600) (tgt := 25) hx hb dX0_insert_7 (by decide) (by omega) (by omega) (fun c_7 => ?_) (fun c_7 => ?_)
  · refine lv_iconst (v := nI 0) hx hb dX0_insert_25 (by decide +kernel) ?_
    have hbv : bb = false := by cases bb with | false => rfl | true => exact absurd (hbb.mp rfl) (by omega)
    subst hbv
    refine nz_top bI_f ?_
    exact hret 26 ls H locs dX0_insert_26 hP hS
  · refine lv_aload_n hx hb dX0_insert_10 rfl (lv_at hl 0 rfl) ?_
    refine nz_callR (va_runV (As := []) (rest := []) ⟨hx, hb, hml, hown, hts⟩ (mX0_size l D a cs tp wd lx ro rs hB) (cwV 0 hts gX0_insert_X0_size rfl rfl rfl (by decide +kernel) ⟨Nat.le_of_ble_eq_true rfl, Nat.le_of_ble_eq_true rfl⟩) (nz_preV (ci := 0) (q0 := 3) hK hP rfl rfl) rfl rfl hl.1 rfl (lv_room (Nat.le_of_ble_eq_true rfl)) dX0_insert_11 ⟨Nat.zero_le _, Nat.zero_le _⟩) ?_
    refine lv_aload_n hx hb dX0_insert_14 rfl (lv_at hl 2 rfl) ?_
    refine va_get (D := D) (ci := 4) (v := .int (nI (wd.2))) (C := RX4) (T := TX4) (N := 2) hx hb hts hinX4 hown hK hP 2 rfl rfl 1 (by decide) (hts (.fieldLink RX0 39 "TypoSuggester$Word" "length" "I") (by decide +kernel)) (fun _ h9 => h9) rfl dX0_insert_15 ?_
    refine nz_iadd (a := lx.2.1 lx.2.2.2) (b := wd.2) hx hb dX0_insert_18 ?_
    refine lv_sipush (v := nI 6000) hx hb dX0_insert_19 (by decide +kernel) ?_
    refine nz_cle (a := lx.2.1 lx.2.2.2 + wd.2) (b := 6000) (tgt := 27) hx hb dX0_insert_22 (by decide) (by omega) (by omega) (fun c_22 => ?_) (fun c_22 => ?_)
    · refine lv_aload_n hx hb dX0_insert_27 rfl (lv_at hl 0 rfl) ?_
      refine va_get (D := D) (ci := 0) (v := .ref (a 9)) (C := RX0) (T := TX0) (N := 4) hx hb hts hinX0 hown hK hP 3 rfl rfl 1 (by decide) (hts (.fieldLink RX0 15 "TypoSuggester$Lexicon" "starts" "[I") (by decide +kernel)) (fun _ h9 => h9) rfl dX0_insert_28 ?_
      refine lv_iload_n hx hb dX0_insert_31 rfl (lv_at hl 1 rfl) ?_
      refine nz_iald (f := lx.2.1) (k := i) hx hb hK hP 9 1 rfl rfl (by omega) (by decide) dX0_insert_32 ?_
      refine lv_istore (lv' := [(5, .int (nI (lx.2.1 i))), (0, .ref (a 3)), (1, .int (nI (i))), (2, .ref (a 2)), (3, .long (lN (wt)))]) hx hb dX0_insert_33 hl (by decide) rfl (fun ls hl => ?_)
      refine lv_aload_n hx hb dX0_insert_35 rfl (lv_at hl 1 rfl) ?_
      refine va_get (D := D) (ci := 0) (v := .ref (a 8)) (C := RX0) (T := TX0) (N := 4) hx hb hts hinX0 hown hK hP 3 rfl rfl 0 (by decide) (hts (.fieldLink RX0 9 "TypoSuggester$Lexicon" "letters" "[B") (by decide +kernel)) (fun _ h9 => h9) rfl dX0_insert_36 ?_
      refine lv_iload hx hb dX0_insert_39 (lv_at hl 0 rfl) ?_
      refine lv_aload_n hx hb dX0_insert_41 rfl (lv_at hl 1 rfl) ?_
      refine va_get (D := D) (ci := 0) (v := .ref (a 8)) (C := RX0) (T := TX0) (N := 4) hx hb hts hinX0 hown hK hP 3 rfl rfl 0 (by decide) (hts (.fieldLink RX0 9 "TypoSuggester$Lexicon" "letters" "[B") (by decide +kernel)) (fun _ h9 => h9) rfl dX0_insert_42 ?_
      refine lv_iload hx hb dX0_insert_45 (lv_at hl 0 rfl) ?_
      refine lv_aload_n hx hb dX0_insert_47 rfl (lv_at hl 3 rfl) ?_
      refine va_get (D := D) (ci := 4) (v := .int (nI (wd.2))) (C := RX4) (T := TX4) (N := 2) hx hb hts hinX4 hown hK hP 2 rfl rfl 1 (by decide) (hts (.fieldLink RX0 39 "TypoSuggester$Word" "length" "I") (by decide +kernel)) (fun _ h9 => h9) rfl dX0_insert_48 ?_
      refine nz_iadd (a := lx.2.1 i) (b := wd.2) hx hb dX0_insert_51 ?_
      refine lv_aload_n hx hb dX0_insert_52 rfl (lv_at hl 1 rfl) ?_
      refine nz_callR (va_runV (As := []) (rest := [.int (nI (lx.2.1 i + wd.2)), .ref (a 8), .int (nI (lx.2.1 i)), .ref (a 8)]) ⟨hx, hb, hml, hown, hts⟩ (mX0_size l D a cs tp wd lx ro rs hB) (cwV 0 hts gX0_insert_X0_size rfl rfl rfl (by decide +kernel) ⟨Nat.le_of_ble_eq_true rfl, Nat.le_of_ble_eq_true rfl⟩) (nz_preV (ci := 0) (q0 := 3) hK hP rfl rfl) rfl rfl hl.1 rfl (lv_room (Nat.le_of_ble_eq_true rfl)) dX0_insert_53 ⟨Nat.zero_le _, Nat.zero_le _⟩) ?_
      refine lv_iload hx hb dX0_insert_56 (lv_at hl 0 rfl) ?_
      refine nz_isub (a := lx.2.1 lx.2.2.2) (b := lx.2.1 i) hx hb dX0_insert_58 (by omega) ?_
      refine nz_copyi (ws' := wX a cs tp wd (va_cpy lx.1 lx.1 (lx.2.1 i) (lx.2.1 i + wd.2) ((lx.2.1 lx.2.2.2) - (lx.2.1 i)), lx.2.1, lx.2.2.1, lx.2.2.2) ro rs) (f := lx.1) (g := lx.1) (sp := lx.2.1 i) (dp := lx.2.1 i + wd.2) (n := (lx.2.1 lx.2.2.2) - (lx.2.1 i)) hx hb (hml.trans hl.1.symm) hown (hts (.methodLink RX0 74 arraycopyName) (by decide +kernel)) (hts (.native arraycopyName) (by decide +kernel)) (hts (.static arraycopyName) (by decide +kernel)) (hts (.initialized "java/lang/System") (by decide +kernel)) hK hP (wX_D ha) hS 8 8 0 0 rfl rfl rfl rfl rfl (by omega) (by omega) (by omega) (by omega) (by omega) (fun j _ => (nz_b8 _ (hB4 _)).2.1) (Nat.le_of_ble_eq_true rfl) (Nat.le_of_ble_eq_true rfl) dX0_insert_59 rfl (fun H locs hP hS => ?_)
      refine lv_aload_n hx hb dX0_insert_62 rfl (lv_at hl 3 rfl) ?_
      refine va_get (D := D) (ci := 4) (v := .ref (a 7)) (C := RX4) (T := TX4) (N := 2) hx hb hts hinX4 hown hK hP 2 rfl rfl 0 (by decide) (hts (.fieldLink RX0 44 "TypoSuggester$Word" "letters" "[B") (by decide +kernel)) (fun _ h9 => h9) rfl dX0_insert_63 ?_
      refine lv_iconst (v := nI 0) hx hb dX0_insert_66 (by decide +kernel) ?_
      refine lv_aload_n hx hb dX0_insert_67 rfl (lv_at hl 1 rfl) ?_
      refine va_get (D := D) (ci := 0) (v := .ref (a 8)) (C := RX0) (T := TX0) (N := 4) hx hb hts hinX0 hown hK hP 3 rfl rfl 0 (by decide) (hts (.fieldLink RX0 9 "TypoSuggester$Lexicon" "letters" "[B") (by decide +kernel)) (fun _ h9 => h9) rfl dX0_insert_68 ?_
      refine lv_iload hx hb dX0_insert_71 (lv_at hl 0 rfl) ?_
      refine lv_aload_n hx hb dX0_insert_73 rfl (lv_at hl 3 rfl) ?_
      refine va_get (D := D) (ci := 4) (v := .int (nI (wd.2))) (C := RX4) (T := TX4) (N := 2) hx hb hts hinX4 hown hK hP 2 rfl rfl 1 (by decide) (hts (.fieldLink RX0 39 "TypoSuggester$Word" "length" "I") (by decide +kernel)) (fun _ h9 => h9) rfl dX0_insert_74 ?_
      refine nz_copyi (ws' := wX a cs tp wd (va_cpy wd.1 (va_cpy lx.1 lx.1 (lx.2.1 i) (lx.2.1 i + wd.2) ((lx.2.1 lx.2.2.2) - (lx.2.1 i))) 0 (lx.2.1 i) wd.2, lx.2.1, lx.2.2.1, lx.2.2.2) ro rs) (f := wd.1) (g := va_cpy lx.1 lx.1 (lx.2.1 i) (lx.2.1 i + wd.2) ((lx.2.1 lx.2.2.2) - (lx.2.1 i))) (sp := 0) (dp := lx.2.1 i) (n := wd.2) hx hb (hml.trans hl.1.symm) hown (hts (.methodLink RX0 74 arraycopyName) (by decide +kernel)) (hts (.native arraycopyName) (by decide +kernel)) (hts (.static arraycopyName) (by decide +kernel)) (hts (.initialized "java/lang/System") (by decide +kernel)) hK hP (wX_D ha) hS 7 8 0 0 rfl rfl rfl rfl rfl (by omega) (by omega) (by omega) (by omega) (by omega) (fun j _ => (nz_b8 _ (hW2 _)).2.1) (Nat.le_of_ble_eq_true rfl) (Nat.le_of_ble_eq_true rfl) dX0_insert_77 rfl (fun H locs hP hS => ?_)
      refine lv_aload_n hx hb dX0_insert_80 rfl (lv_at hl 1 rfl) ?_
      refine va_get (D := D) (ci := 0) (v := .ref (a 10)) (C := RX0) (T := TX0) (N := 4) hx hb hts hinX0 hown hK hP 3 rfl rfl 2 (by decide) (hts (.fieldLink RX0 19 "TypoSuggester$Lexicon" "weights" "[J") (by decide +kernel)) (fun _ h9 => h9) rfl dX0_insert_81 ?_
      refine lv_iload_n hx hb dX0_insert_84 rfl (lv_at hl 2 rfl) ?_
      refine lv_aload_n hx hb dX0_insert_85 rfl (lv_at hl 1 rfl) ?_
      refine va_get (D := D) (ci := 0) (v := .ref (a 10)) (C := RX0) (T := TX0) (N := 4) hx hb hts hinX0 hown hK hP 3 rfl rfl 2 (by decide) (hts (.fieldLink RX0 19 "TypoSuggester$Lexicon" "weights" "[J") (by decide +kernel)) (fun _ h9 => h9) rfl dX0_insert_86 ?_
      refine lv_iload_n hx hb dX0_insert_89 rfl (lv_at hl 2 rfl) ?_
      refine lv_iconst (v := nI 1) hx hb dX0_insert_90 (by decide +kernel) ?_
      refine nz_iadd (a := i) (b := 1) hx hb dX0_insert_91 ?_
      refine lv_aload_n hx hb dX0_insert_92 rfl (lv_at hl 1 rfl) ?_
      refine va_get (D := D) (ci := 0) (v := .int (nI (lx.2.2.2))) (C := RX0) (T := TX0) (N := 4) hx hb hts hinX0 hown hK hP 3 rfl rfl 3 (by decide) (hts (.fieldLink RX0 23 "TypoSuggester$Lexicon" "count" "I") (by decide +kernel)) (fun _ h9 => h9) rfl dX0_insert_93 ?_
      refine lv_iload_n hx hb dX0_insert_96 rfl (lv_at hl 2 rfl) ?_
      refine nz_isub (a := lx.2.2.2) (b := i) hx hb dX0_insert_97 (by omega) ?_
      refine nz_copyl (ws' := wX a cs tp wd (va_cpy wd.1 (va_cpy lx.1 lx.1 (lx.2.1 i) (lx.2.1 i + wd.2) ((lx.2.1 lx.2.2.2) - (lx.2.1 i))) 0 (lx.2.1 i) wd.2, lx.2.1, va_cpy lx.2.2.1 lx.2.2.1 i (i + 1) (lx.2.2.2 - i), lx.2.2.2) ro rs) (f := lx.2.2.1) (g := lx.2.2.1) (sp := i) (dp := i + 1) (n := lx.2.2.2 - i) hx hb (hml.trans hl.1.symm) hown (hts (.methodLink RX0 74 arraycopyName) (by decide +kernel)) (hts (.native arraycopyName) (by decide +kernel)) (hts (.static arraycopyName) (by decide +kernel)) (hts (.initialized "java/lang/System") (by decide +kernel)) hK hP (wX_D ha) hS 10 10 2 2 rfl rfl rfl rfl rfl (by omega) (by omega) (by omega) (by omega) (by omega) (fun _ _ => rfl) (Nat.le_of_ble_eq_true rfl) (Nat.le_of_ble_eq_true rfl) dX0_insert_98 rfl (fun H locs hP hS => ?_)
      refine lv_aload_n hx hb dX0_insert_101 rfl (lv_at hl 1 rfl) ?_
      refine va_get (D := D) (ci := 0) (v := .ref (a 10)) (C := RX0) (T := TX0) (N := 4) hx hb hts hinX0 hown hK hP 3 rfl rfl 2 (by decide) (hts (.fieldLink RX0 19 "TypoSuggester$Lexicon" "weights" "[J") (by decide +kernel)) (fun _ h9 => h9) rfl dX0_insert_102 ?_
      refine lv_iload_n hx hb dX0_insert_105 rfl (lv_at hl 2 rfl) ?_
      refine lv_lload_n hx hb dX0_insert_106 rfl (lv_at hl 4 rfl) ?_
      refine nz_last (f := va_cpy lx.2.2.1 lx.2.2.1 i (i + 1) (lx.2.2.2 - i)) (k := i) (v := wt) (ws' := wX a cs tp wd (va_cpy wd.1 (va_cpy lx.1 lx.1 (lx.2.1 i) (lx.2.1 i + wd.2) ((lx.2.1 lx.2.2.2) - (lx.2.1 i))) 0 (lx.2.1 i) wd.2, lx.2.1, va_up (va_cpy lx.2.2.1 lx.2.2.1 i (i + 1) (lx.2.2.2 - i)) i wt, lx.2.2.2) ro rs) hx hb hK hP (wX_D ha) hS 10 2 rfl rfl (by omega) (by decide) dX0_insert_107 rfl (fun H locs hP hS => ?_)
      refine lv_aload_n hx hb dX0_insert_108 rfl (lv_at hl 1 rfl) ?_
      refine va_get (D := D) (ci := 0) (v := .int (nI (lx.2.2.2))) (C := RX0) (T := TX0) (N := 4) hx hb hts hinX0 hown hK hP 3 rfl rfl 3 (by decide) (hts (.fieldLink RX0 23 "TypoSuggester$Lexicon" "count" "I") (by decide +kernel)) (fun _ h9 => h9) rfl dX0_insert_109 ?_
      refine lv_istore (lv' := [(6, .int (nI (lx.2.2.2))), (5, .int (nI (lx.2.1 i))), (0, .ref (a 3)), (1, .int (nI (i))), (2, .ref (a 2)), (3, .long (lN (wt)))]) hx hb dX0_insert_112 hl (by decide) rfl (fun ls hl => ?_)
      have hP : va_P D vwCl (wX a cs tp wd (va_cpy wd.1 (va_cpy lx.1 lx.1 (lx.2.1 i) (lx.2.1 i + wd.2) ((lx.2.1 lx.2.2.2) - (lx.2.1 i))) 0 (lx.2.1 i) wd.2, insSt lx.2.1 (lx.2.2.2 + 1) wd.2 lx.2.2.2, va_up (va_cpy lx.2.2.1 lx.2.2.1 i (i + 1) (lx.2.2.2 - i)) i wt, lx.2.2.2) ro rs) H := by rw [insSt_0]; exact hP
      have e_1 : (nI (lx.2.2.2)) = (mI (lx.2.2.2 + 1)) := (mI_pos (Nat.succ_pos _)).symm
      have hl : lv_has ls 7 [(6, .int (mI (lx.2.2.2 + 1))), (5, .int (nI (lx.2.1 i))), (0, .ref (a 3)), (1, .int (nI (i))), (2, .ref (a 2)), (3, .long (lN (wt)))] := by rw [← e_1]; exact hl
      have loop : ∀ (fuel : Nat) (k : Nat), (i ≤ k) → (k ≤ lx.2.2.2 + 1) → k < fuel → ∀ (H : Heap) (locs : List Loc), va_P D vwCl (wX a cs tp wd (va_cpy wd.1 (va_cpy lx.1 lx.1 (lx.2.1 i) (lx.2.1 i + wd.2) ((lx.2.1 lx.2.2.2) - (lx.2.1 i))) 0 (lx.2.1 i) wd.2, insSt lx.2.1 k wd.2 lx.2.2.2, va_up (va_cpy lx.2.2.1 lx.2.2.1 i (i + 1) (lx.2.2.2 - i)) i wt, lx.2.2.2) ro rs) H → va_S (inX a) s.heap H locs → ∀ ls : Array Slot, lv_has ls 7 [(0, .ref (a 3)), (1, .int (nI (i))), (2, .ref (a 2)), (6, .int (mI k))] → W p l e rmX0_insert s m args below meth c H locs 0 0 Q (F0 m 114 ls []) := by
        intro fuel
        induction fuel with
        | zero => intro k hk1 hk2 hf; exact absurd hf (Nat.not_lt_zero _)
        | succ fuel ih =>
          intro k hk1 hk2 hf H locs hP hS ls hl
          refine lv_iload hx hb dX0_insert_114 (lv_at hl 3 rfl) ?_
          refine lv_iload_n hx hb dX0_insert_116 rfl (lv_at hl 1 rfl) ?_
          refine lv_icmp_lt (tgt := 147) hx hb dX0_insert_117 (by decide) (fun c_117 => ?_) (fun c_117 => ?_)
          · have c_117 := (mI_lt (by omega) (by omega)).mp c_117
            refine lv_aload_n hx hb dX0_insert_147 rfl (lv_at hl 0 rfl) ?_
            refine lv_dup hx hb dX0_insert_148 rfl ?_
            refine va_get (D := D) (ci := 0) (v := .int (nI (lx.2.2.2))) (C := RX0) (T := TX0) (N := 4) hx hb hts hinX0 hown hK hP 3 rfl rfl 3 (by decide) (hts (.fieldLink RX0 23 "TypoSuggester$Lexicon" "count" "I") (by decide +kernel)) (fun _ h9 => h9) rfl dX0_insert_149 ?_
            refine lv_iconst (v := nI 1) hx hb dX0_insert_152 (by decide +kernel) ?_
            refine nz_iadd (a := lx.2.2.2) (b := 1) hx hb dX0_insert_153 ?_
            refine nz_put (D := D) (ci := 0) (v := .int (nI (lx.2.2.2 + 1))) (ty := .int) (ws' := wX a cs tp wd (va_cpy wd.1 (va_cpy lx.1 lx.1 (lx.2.1 i) (lx.2.1 i + wd.2) ((lx.2.1 lx.2.2.2) - (lx.2.1 i))) 0 (lx.2.1 i) wd.2, insSt lx.2.1 k wd.2 lx.2.2.2, va_up (va_cpy lx.2.2.1 lx.2.2.1 i (i + 1) (lx.2.2.2 - i)) i wt, lx.2.2.2 + 1) ro rs) (C := RX0) (T := TX0) (N := 4) hx hb hts hinX0 tyX0 tyX0_ok nmX0 hown hK hP (wX_D ha) hS 3 rfl rfl 3 (by decide) (hts (.fieldLink RX0 23 "TypoSuggester$Lexicon" "count" "I") (by decide +kernel)) (fun _ h9 => h9) rfl (by decide +kernel) rfl rfl (Nat.le_of_ble_eq_true rfl) dX0_insert_154 rfl (fun H locs hP hS => ?_)
            refine lv_iconst (v := nI 1) hx hb dX0_insert_157 (by decide +kernel) ?_
            rw [show k = i by omega] at hP
            have hbv : bb = true := hbb.mpr (by omega)
            subst hbv
            refine nz_top bI_t ?_
            exact hret 158 ls H locs dX0_insert_158 hP hS
          · have c_117 : i < k := Nat.lt_of_not_le (fun z => c_117 ((mI_lt (by omega) (by omega)).mpr z))
            have e_2 : (mI k) = (nI (k - 1)) := mI_pos (by omega)
            have hl : lv_has ls 7 [(0, .ref (a 3)), (1, .int (nI (i))), (2, .ref (a 2)), (6, .int (nI (k - 1)))] := by rw [← e_2]; exact hl
            refine lv_aload_n hx hb dX0_insert_120 rfl (lv_at hl 0 rfl) ?_
            refine va_get (D := D) (ci := 0) (v := .ref (a 9)) (C := RX0) (T := TX0) (N := 4) hx hb hts hinX0 hown hK hP 3 rfl rfl 1 (by decide) (hts (.fieldLink RX0 15 "TypoSuggester$Lexicon" "starts" "[I") (by decide +kernel)) (fun _ h9 => h9) rfl dX0_insert_121 ?_
            refine lv_iload hx hb dX0_insert_124 (lv_at hl 3 rfl) ?_
            refine lv_iconst (v := nI 1) hx hb dX0_insert_126 (by decide +kernel) ?_
            refine nz_iadd (a := k - 1) (b := 1) hx hb dX0_insert_127 ?_
            refine lv_aload_n hx hb dX0_insert_128 rfl (lv_at hl 0 rfl) ?_
            refine va_get (D := D) (ci := 0) (v := .ref (a 9)) (C := RX0) (T := TX0) (N := 4) hx hb hts hinX0 hown hK hP 3 rfl rfl 1 (by decide) (hts (.fieldLink RX0 15 "TypoSuggester$Lexicon" "starts" "[I") (by decide +kernel)) (fun _ h9 => h9) rfl dX0_insert_129 ?_
            refine lv_iload hx hb dX0_insert_132 (lv_at hl 3 rfl) ?_
            refine nz_iald (f := insSt lx.2.1 k wd.2 lx.2.2.2) (k := k - 1) hx hb hK hP 9 1 rfl rfl (by omega) (by decide) dX0_insert_134 ?_
            refine lv_aload_n hx hb dX0_insert_135 rfl (lv_at hl 2 rfl) ?_
            refine va_get (D := D) (ci := 4) (v := .int (nI (wd.2))) (C := RX4) (T := TX4) (N := 2) hx hb hts hinX4 hown hK hP 2 rfl rfl 1 (by decide) (hts (.fieldLink RX0 39 "TypoSuggester$Word" "length" "I") (by decide +kernel)) (fun _ h9 => h9) rfl dX0_insert_136 ?_
            refine nz_iadd (a := (insSt lx.2.1 k wd.2 lx.2.2.2) (k - 1)) (b := wd.2) hx hb dX0_insert_139 ?_
            refine nz_iast (f := insSt lx.2.1 k wd.2 lx.2.2.2) (k := k - 1 + 1) (v := (insSt lx.2.1 k wd.2 lx.2.2.2) (k - 1) + wd.2) (ws' := wX a cs tp wd (va_cpy wd.1 (va_cpy lx.1 lx.1 (lx.2.1 i) (lx.2.1 i + wd.2) ((lx.2.1 lx.2.2.2) - (lx.2.1 i))) 0 (lx.2.1 i) wd.2, va_up (insSt lx.2.1 k wd.2 lx.2.2.2) (k - 1 + 1) ((insSt lx.2.1 k wd.2 lx.2.2.2) (k - 1) + wd.2), va_up (va_cpy lx.2.2.1 lx.2.2.1 i (i + 1) (lx.2.2.2 - i)) i wt, lx.2.2.2) ro rs) hx hb hK hP (wX_D ha) hS 9 1 rfl rfl (by omega) (by decide) dX0_insert_140 rfl (fun H locs hP hS => ?_)
            have e_3 : va_up (insSt lx.2.1 k wd.2 lx.2.2.2) (k - 1 + 1) ((insSt lx.2.1 k wd.2 lx.2.2.2) (k - 1) + wd.2) = insSt lx.2.1 (k - 1) wd.2 lx.2.2.2 := insSt_step (by omega) (by omega)
            rw [e_3] at hP
            refine lv_iinc (v := mI (k - 1)) (lv' := [(6, .int (mI (k - 1))), (0, .ref (a 3)), (1, .int (nI (i))), (2, .ref (a 2))]) hx hb dX0_insert_141 hl (k := 3) rfl rfl (by decide) rfl (fun ls hl => ?_)
            refine lv_goto (tgt := 114) hx hb dX0_insert_144 (by decide) ?_
            exact ih (k - 1) (by omega) (by omega) (by omega) H locs hP hS ls (lv_sub hl [1, 2, 3, 0] rfl)
      exact loop ((lx.2.2.2 + 1) + 1) (lx.2.2.2 + 1) (by omega) (Nat.le_refl _) (Nat.lt_succ_self _) H locs hP hS ls (lv_sub hl [2, 3, 4, 0] rfl)
    · refine lv_iconst (v := nI 0) hx hb dX0_insert_25 (by decide +kernel) ?_
      have hbv : bb = false := by cases bb with | false => rfl | true => exact absurd (hbb.mp rfl) (by omega)
      subst hbv
      refine nz_top bI_f ?_
      exact hret 26 ls H locs dX0_insert_26 hP hS
abbrev rmX0_remove : Room := { frames := 1, cells := 0, slots := 0, locals := 30 }
set_option maxHeartbeats 4000000 in
set_option maxRecDepth 100000 in
theorem mX0_remove (l : Launch) (D : va_G) (a : Nat → Nat) (cs : Nat → ClassId) (tp : (Nat → Int32) × Nat) (wd : (Nat → Nat) × Nat) (lx : (Nat → Nat) × (Nat → Nat) × (Nat → Nat) × Nat) (ro : Nat → Nat) (rs : (Nat → Nat) × (Nat → Nat) × (Nat → Nat) × (Nat → Nat) × (Nat → Nat) × Nat) (i : Nat) (ha : wInj a) (hB : LxB lx) (hi : i < lx.2.2.2) : Met l yX0_remove wsX0_remove rmX0_remove (wdP D vwCl (wX a cs tp wd lx ro rs) (tyX cs) [.ref (a 3), .int (nI (i))]) (wrQ none (fun H => va_P D vwCl (wX a cs tp wd (lxDel lx i) ro rs) H) (inX a)) 0 0 (inX a) := by
  obtain ⟨hB1, hB2, hB3, hB4, hB5⟩ := id hB
  have hmo : ∀ k, k ≤ lx.2.2.2 → lx.2.1 k ≤ lx.2.1 lx.2.2.2 := fun k hk => lx_mono hB k _ hk (Nat.le_refl _)
  have hsz := hB3 lx.2.2.2
  have hm1 := hmo i (by omega)
  have hm2 := hmo (i + 1) (by omega)
  have hm3 := hB2 i hi
  refine nz_metWv (by decide) rfl (Nat.le_of_ble_eq_true rfl) ?_
  intro p e s m args below meth c Q hx hb hml hts hown hP hK hret ls hl
  have hl : lv_has ls 5 [(0, .ref (a 3)), (1, .int (nI (i)))] := hl
  have hown : s.vm.findClass RX0 = some m.cls := hown
  have hinX0 : ∀ w ∈ u_ws RX0 TX0 4, w ∈ wsX0_remove := by decide +kernel
  have hS : va_S (inX a) s.heap s.heap [] := va_S.rf
  obtain ⟨H, hH⟩ : ∃ H, H = s.heap := ⟨_, rfl⟩
  obtain ⟨locs, hlocs⟩ : ∃ locs : List Loc, locs = [] := ⟨_, rfl⟩
  have hP : va_P D vwCl (wX a cs tp wd lx ro rs) H := hH ▸ hP
  have hS : va_S (inX a) s.heap H locs := by rw [hH, hlocs]; exact va_S.rf
  suffices hgo : W p l e rmX0_remove s m args below meth c H locs 0 0 Q (F0 m 0 ls []) by rw [hH, hlocs] at hgo; exact hgo
  clear hH hlocs
  refine lv_aload_n hx hb dX0_remove_0 rfl (lv_at hl 0 rfl) ?_
  refine lv_iload_n hx hb dX0_remove_1 rfl (lv_at hl 1 rfl) ?_
  refine nz_callR (va_runV (As := [.int (nI (i))]) (rest := []) ⟨hx, hb, hml, hown, hts⟩ (mX0_lengthOf l D a cs tp wd lx ro rs i hB hi) (cwV 1 hts gX0_remove_X0_lengthOf rfl rfl rfl (by decide +kernel) ⟨Nat.le_of_ble_eq_true rfl, Nat.le_of_ble_eq_true rfl⟩) (nz_preV (ci := 0) (q0 := 3) hK hP rfl rfl) rfl rfl hl.1 rfl (lv_room (Nat.le_of_ble_eq_true rfl)) dX0_remove_2 ⟨Nat.zero_le _, Nat.zero_le _⟩) ?_
  refine lv_istore_n (lv' := [(2, .int (nI (lx.2.1 (i + 1) - lx.2.1 i))), (0, .ref (a 3)), (1, .int (nI (i)))]) hx hb dX0_remove_5 rfl hl (by decide) rfl (fun ls hl => ?_)
  refine lv_aload_n hx hb dX0_remove_6 rfl (lv_at hl 1 rfl) ?_
  refine va_get (D := D) (ci := 0) (v := .ref (a 9)) (C := RX0) (T := TX0) (N := 4) hx hb hts hinX0 hown hK hP 3 rfl rfl 1 (by decide) (hts (.fieldLink RX0 15 "TypoSuggester$Lexicon" "starts" "[I") (by decide +kernel)) (fun _ h9 => h9) rfl dX0_remove_7 ?_
  refine lv_iload_n hx hb dX0_remove_10 rfl (lv_at hl 2 rfl) ?_
  refine lv_iconst (v := nI 1) hx hb dX0_remove_11 (by decide +kernel) ?_
  refine nz_iadd (a := i) (b := 1) hx hb dX0_remove_12 ?_
  refine nz_iald (f := lx.2.1) (k := i + 1) hx hb hK hP 9 1 rfl rfl (by omega) (by decide) dX0_remove_13 ?_
  refine lv_istore_n (lv' := [(3, .int (nI (lx.2.1 (i + 1)))), (2, .int (nI (lx.2.1 (i + 1) - lx.2.1 i))), (0, .ref (a 3)), (1, .int (nI (i)))]) hx hb dX0_remove_14 rfl hl (by decide) rfl (fun ls hl => ?_)
  refine lv_aload_n hx hb dX0_remove_15 rfl (lv_at hl 2 rfl) ?_
  refine va_get (D := D) (ci := 0) (v := .ref (a 8)) (C := RX0) (T := TX0) (N := 4) hx hb hts hinX0 hown hK hP 3 rfl rfl 0 (by decide) (hts (.fieldLink RX0 9 "TypoSuggester$Lexicon" "letters" "[B") (by decide +kernel)) (fun _ h9 => h9) rfl dX0_remove_16 ?_
  refine lv_iload_n hx hb dX0_remove_19 rfl (lv_at hl 0 rfl) ?_
  refine lv_aload_n hx hb dX0_remove_20 rfl (lv_at hl 2 rfl) ?_
  refine va_get (D := D) (ci := 0) (v := .ref (a 8)) (C := RX0) (T := TX0) (N := 4) hx hb hts hinX0 hown hK hP 3 rfl rfl 0 (by decide) (hts (.fieldLink RX0 9 "TypoSuggester$Lexicon" "letters" "[B") (by decide +kernel)) (fun _ h9 => h9) rfl dX0_remove_21 ?_
  refine lv_aload_n hx hb dX0_remove_24 rfl (lv_at hl 2 rfl) ?_
  refine va_get (D := D) (ci := 0) (v := .ref (a 9)) (C := RX0) (T := TX0) (N := 4) hx hb hts hinX0 hown hK hP 3 rfl rfl 1 (by decide) (hts (.fieldLink RX0 15 "TypoSuggester$Lexicon" "starts" "[I") (by decide +kernel)) (fun _ h9 => h9) rfl dX0_remove_25 ?_
  refine lv_iload_n hx hb dX0_remove_28 rfl (lv_at hl 3 rfl) ?_
  refine nz_iald (f := lx.2.1) (k := i) hx hb hK hP 9 1 rfl rfl (by omega) (by decide) dX0_remove_29 ?_
  refine lv_aload_n hx hb dX0_remove_30 rfl (lv_at hl 2 rfl) ?_
  refine nz_callR (va_runV (As := []) (rest := [.int (nI (lx.2.1 i)), .ref (a 8), .int (nI (lx.2.1 (i + 1))), .ref (a 8)]) ⟨hx, hb, hml, hown, hts⟩ (mX0_size l D a cs tp wd lx ro rs hB) (cwV 0 hts gX0_remove_X0_size rfl rfl rfl (by decide +kernel) ⟨Nat.le_of_ble_eq_true rfl, Nat.le_of_ble_eq_true rfl⟩) (nz_preV (ci := 0) (q0 := 3) hK hP rfl rfl) rfl rfl hl.1 rfl (lv_room (Nat.le_of_ble_eq_true rfl)) dX0_remove_31 ⟨Nat.zero_le _, Nat.zero_le _⟩) ?_
  refine lv_iload_n hx hb dX0_remove_34 rfl (lv_at hl 0 rfl) ?_
  refine nz_isub (a := lx.2.1 lx.2.2.2) (b := lx.2.1 (i + 1)) hx hb dX0_remove_35 (by omega) ?_
  refine nz_copyi (ws' := wX a cs tp wd (va_cpy lx.1 lx.1 (lx.2.1 (i + 1)) (lx.2.1 i) ((lx.2.1 lx.2.2.2) - (lx.2.1 (i + 1))), lx.2.1, lx.2.2.1, lx.2.2.2) ro rs) (f := lx.1) (g := lx.1) (sp := lx.2.1 (i + 1)) (dp := lx.2.1 i) (n := (lx.2.1 lx.2.2.2) - (lx.2.1 (i + 1))) hx hb (hml.trans hl.1.symm) hown (hts (.methodLink RX0 74 arraycopyName) (by decide +kernel)) (hts (.native arraycopyName) (by decide +kernel)) (hts (.static arraycopyName) (by decide +kernel)) (hts (.initialized "java/lang/System") (by decide +kernel)) hK hP (wX_D ha) hS 8 8 0 0 rfl rfl rfl rfl rfl (by omega) (by omega) (by omega) (by omega) (by omega) (fun j _ => (nz_b8 _ (hB4 _)).2.1) (Nat.le_of_ble_eq_true rfl) (Nat.le_of_ble_eq_true rfl) dX0_remove_36 rfl (fun H locs hP hS => ?_)
  refine lv_aload_n hx hb dX0_remove_39 rfl (lv_at hl 2 rfl) ?_
  refine va_get (D := D) (ci := 0) (v := .ref (a 10)) (C := RX0) (T := TX0) (N := 4) hx hb hts hinX0 hown hK hP 3 rfl rfl 2 (by decide) (hts (.fieldLink RX0 19 "TypoSuggester$Lexicon" "weights" "[J") (by decide +kernel)) (fun _ h9 => h9) rfl dX0_remove_40 ?_
  refine lv_iload_n hx hb dX0_remove_43 rfl (lv_at hl 3 rfl) ?_
  refine lv_iconst (v := nI 1) hx hb dX0_remove_44 (by decide +kernel) ?_
  refine nz_iadd (a := i) (b := 1) hx hb dX0_remove_45 ?_
  refine lv_aload_n hx hb dX0_remove_46 rfl (lv_at hl 2 rfl) ?_
  refine va_get (D := D) (ci := 0) (v := .ref (a 10)) (C := RX0) (T := TX0) (N := 4) hx hb hts hinX0 hown hK hP 3 rfl rfl 2 (by decide) (hts (.fieldLink RX0 19 "TypoSuggester$Lexicon" "weights" "[J") (by decide +kernel)) (fun _ h9 => h9) rfl dX0_remove_47 ?_
  refine lv_iload_n hx hb dX0_remove_50 rfl (lv_at hl 3 rfl) ?_
  refine lv_aload_n hx hb dX0_remove_51 rfl (lv_at hl 2 rfl) ?_
  refine va_get (D := D) (ci := 0) (v := .int (nI (lx.2.2.2))) (C := RX0) (T := TX0) (N := 4) hx hb hts hinX0 hown hK hP 3 rfl rfl 3 (by decide) (hts (.fieldLink RX0 23 "TypoSuggester$Lexicon" "count" "I") (by decide +kernel)) (fun _ h9 => h9) rfl dX0_remove_52 ?_
  refine lv_iload_n hx hb dX0_remove_55 rfl (lv_at hl 3 rfl) ?_
  refine nz_isub (a := lx.2.2.2) (b := i) hx hb dX0_remove_56 (by omega) ?_
  refine lv_iconst (v := nI 1) hx hb dX0_remove_57 (by decide +kernel) ?_
  refine nz_isub (a := lx.2.2.2 - i) (b := 1) hx hb dX0_remove_58 (by omega) ?_
  refine nz_copyl (ws' := wX a cs tp wd (va_cpy lx.1 lx.1 (lx.2.1 (i + 1)) (lx.2.1 i) ((lx.2.1 lx.2.2.2) - (lx.2.1 (i + 1))), lx.2.1, va_cpy lx.2.2.1 lx.2.2.1 (i + 1) i ((lx.2.2.2 - i) - 1), lx.2.2.2) ro rs) (f := lx.2.2.1) (g := lx.2.2.1) (sp := i + 1) (dp := i) (n := (lx.2.2.2 - i) - 1) hx hb (hml.trans hl.1.symm) hown (hts (.methodLink RX0 74 arraycopyName) (by decide +kernel)) (hts (.native arraycopyName) (by decide +kernel)) (hts (.static arraycopyName) (by decide +kernel)) (hts (.initialized "java/lang/System") (by decide +kernel)) hK hP (wX_D ha) hS 10 10 2 2 rfl rfl rfl rfl rfl (by omega) (by omega) (by omega) (by omega) (by omega) (fun _ _ => rfl) (Nat.le_of_ble_eq_true rfl) (Nat.le_of_ble_eq_true rfl) dX0_remove_59 rfl (fun H locs hP hS => ?_)
  refine lv_iload_n hx hb dX0_remove_62 rfl (lv_at hl 3 rfl) ?_
  refine lv_iconst (v := nI 1) hx hb dX0_remove_63 (by decide +kernel) ?_
  refine nz_iadd (a := i) (b := 1) hx hb dX0_remove_64 ?_
  refine lv_istore (lv' := [(4, .int (nI (i + 1))), (3, .int (nI (lx.2.1 (i + 1)))), (2, .int (nI (lx.2.1 (i + 1) - lx.2.1 i))), (0, .ref (a 3)), (1, .int (nI (i)))]) hx hb dX0_remove_65 hl (by decide) rfl (fun ls hl => ?_)
  have hP : va_P D vwCl (wX a cs tp wd (va_cpy lx.1 lx.1 (lx.2.1 (i + 1)) (lx.2.1 i) ((lx.2.1 lx.2.2.2) - (lx.2.1 (i + 1))), delSt lx.2.1 i (lx.2.1 (i + 1) - lx.2.1 i) (i + 1), va_cpy lx.2.2.1 lx.2.2.1 (i + 1) i ((lx.2.2.2 - i) - 1), lx.2.2.2) ro rs) H := by rw [delSt_0]; exact hP
  have loop : ∀ (fuel : Nat) (k : Nat), (i < k) → (k ≤ lx.2.2.2) → lx.2.2.2 - k < fuel → ∀ (H : Heap) (locs : List Loc), va_P D vwCl (wX a cs tp wd (va_cpy lx.1 lx.1 (lx.2.1 (i + 1)) (lx.2.1 i) ((lx.2.1 lx.2.2.2) - (lx.2.1 (i + 1))), delSt lx.2.1 i (lx.2.1 (i + 1) - lx.2.1 i) k, va_cpy lx.2.2.1 lx.2.2.1 (i + 1) i ((lx.2.2.2 - i) - 1), lx.2.2.2) ro rs) H → va_S (inX a) s.heap H locs → ∀ ls : Array Slot, lv_has ls 5 [(0, .ref (a 3)), (1, .int (nI (i))), (2, .int (nI (lx.2.1 (i + 1) - lx.2.1 i))), (4, .int (nI (k)))] → W p l e rmX0_remove s m args below meth c H locs 0 0 Q (F0 m 67 ls []) := by
    intro fuel
    induction fuel with
    | zero => intro k hk1 hk2 hf; exact absurd hf (Nat.not_lt_zero _)
    | succ fuel ih =>
      intro k hk1 hk2 hf H locs hP hS ls hl
      refine lv_iload hx hb dX0_remove_67 (lv_at hl 3 rfl) ?_
      refine lv_aload_n hx hb dX0_remove_69 rfl (lv_at hl 0 rfl) ?_
      refine va_get (D := D) (ci := 0) (v := .int (nI (lx.2.2.2))) (C := RX0) (T := TX0) (N := 4) hx hb hts hinX0 hown hK hP 3 rfl rfl 3 (by decide) (hts (.fieldLink RX0 23 "TypoSuggester$Lexicon" "count" "I") (by decide +kernel)) (fun _ h9 => h9) rfl dX0_remove_70 ?_
      refine nz_cge (a := k) (b := lx.2.2.2) (tgt := 100) hx hb dX0_remove_73 (by decide) (by omega) (by omega) (fun c_73 => ?_) (fun c_73 => ?_)
      · refine lv_aload_n hx hb dX0_remove_100 rfl (lv_at hl 0 rfl) ?_
        refine lv_dup hx hb dX0_remove_101 rfl ?_
        refine va_get (D := D) (ci := 0) (v := .int (nI (lx.2.2.2))) (C := RX0) (T := TX0) (N := 4) hx hb hts hinX0 hown hK hP 3 rfl rfl 3 (by decide) (hts (.fieldLink RX0 23 "TypoSuggester$Lexicon" "count" "I") (by decide +kernel)) (fun _ h9 => h9) rfl dX0_remove_102 ?_
        refine lv_iconst (v := nI 1) hx hb dX0_remove_105 (by decide +kernel) ?_
        refine nz_isub (a := lx.2.2.2) (b := 1) hx hb dX0_remove_106 (by omega) ?_
        refine nz_put (D := D) (ci := 0) (v := .int (nI (lx.2.2.2 - 1))) (ty := .int) (ws' := wX a cs tp wd (va_cpy lx.1 lx.1 (lx.2.1 (i + 1)) (lx.2.1 i) ((lx.2.1 lx.2.2.2) - (lx.2.1 (i + 1))), delSt lx.2.1 i (lx.2.1 (i + 1) - lx.2.1 i) k, va_cpy lx.2.2.1 lx.2.2.1 (i + 1) i ((lx.2.2.2 - i) - 1), lx.2.2.2 - 1) ro rs) (C := RX0) (T := TX0) (N := 4) hx hb hts hinX0 tyX0 tyX0_ok nmX0 hown hK hP (wX_D ha) hS 3 rfl rfl 3 (by decide) (hts (.fieldLink RX0 23 "TypoSuggester$Lexicon" "count" "I") (by decide +kernel)) (fun _ h9 => h9) rfl (by decide +kernel) rfl rfl (Nat.le_of_ble_eq_true rfl) dX0_remove_107 rfl (fun H locs hP hS => ?_)
        rw [show k = lx.2.2.2 by omega] at hP
        exact hret 110 ls H locs dX0_remove_110 hP hS
      · refine lv_aload_n hx hb dX0_remove_76 rfl (lv_at hl 0 rfl) ?_
        refine va_get (D := D) (ci := 0) (v := .ref (a 9)) (C := RX0) (T := TX0) (N := 4) hx hb hts hinX0 hown hK hP 3 rfl rfl 1 (by decide) (hts (.fieldLink RX0 15 "TypoSuggester$Lexicon" "starts" "[I") (by decide +kernel)) (fun _ h9 => h9) rfl dX0_remove_77 ?_
        refine lv_iload hx hb dX0_remove_80 (lv_at hl 3 rfl) ?_
        refine lv_aload_n hx hb dX0_remove_82 rfl (lv_at hl 0 rfl) ?_
        refine va_get (D := D) (ci := 0) (v := .ref (a 9)) (C := RX0) (T := TX0) (N := 4) hx hb hts hinX0 hown hK hP 3 rfl rfl 1 (by decide) (hts (.fieldLink RX0 15 "TypoSuggester$Lexicon" "starts" "[I") (by decide +kernel)) (fun _ h9 => h9) rfl dX0_remove_83 ?_
        refine lv_iload hx hb dX0_remove_86 (lv_at hl 3 rfl) ?_
        refine lv_iconst (v := nI 1) hx hb dX0_remove_88 (by decide +kernel) ?_
        refine nz_iadd (a := k) (b := 1) hx hb dX0_remove_89 ?_
        refine nz_iald (f := delSt lx.2.1 i (lx.2.1 (i + 1) - lx.2.1 i) k) (k := k + 1) hx hb hK hP 9 1 rfl rfl (by omega) (by decide) dX0_remove_90 ?_
        refine lv_iload_n hx hb dX0_remove_91 rfl (lv_at hl 2 rfl) ?_
        have hd1 : delSt lx.2.1 i (lx.2.1 (i + 1) - lx.2.1 i) k (k + 1) = lx.2.1 (k + 1) := delSt_ge (by omega)
        have hd2 : lx.2.1 (i + 1) ≤ lx.2.1 (k + 1) := lx_mono hB _ _ (by omega) (by omega)
        refine nz_isub (a := (delSt lx.2.1 i (lx.2.1 (i + 1) - lx.2.1 i) k) (k + 1)) (b := lx.2.1 (i + 1) - lx.2.1 i) hx hb dX0_remove_92 (by omega) ?_
        refine nz_iast (f := delSt lx.2.1 i (lx.2.1 (i + 1) - lx.2.1 i) k) (k := k) (v := ((delSt lx.2.1 i (lx.2.1 (i + 1) - lx.2.1 i) k) (k + 1)) - (lx.2.1 (i + 1) - lx.2.1 i)) (ws' := wX a cs tp wd (va_cpy lx.1 lx.1 (lx.2.1 (i + 1)) (lx.2.1 i) ((lx.2.1 lx.2.2.2) - (lx.2.1 (i + 1))), va_up (delSt lx.2.1 i (lx.2.1 (i + 1) - lx.2.1 i) k) k (((delSt lx.2.1 i (lx.2.1 (i + 1) - lx.2.1 i) k) (k + 1)) - (lx.2.1 (i + 1) - lx.2.1 i)), va_cpy lx.2.2.1 lx.2.2.1 (i + 1) i ((lx.2.2.2 - i) - 1), lx.2.2.2) ro rs) hx hb hK hP (wX_D ha) hS 9 1 rfl rfl (by omega) (by decide) dX0_remove_93 rfl (fun H locs hP hS => ?_)
        have e_1 : va_up (delSt lx.2.1 i (lx.2.1 (i + 1) - lx.2.1 i) k) k (((delSt lx.2.1 i (lx.2.1 (i + 1) - lx.2.1 i) k) (k + 1)) - (lx.2.1 (i + 1) - lx.2.1 i)) = delSt lx.2.1 i (lx.2.1 (i + 1) - lx.2.1 i) (k + 1) := delSt_step (by omega)
        rw [e_1] at hP
        refine lv_iinc (v := nI (k + 1)) (lv' := [(4, .int (nI (k + 1))), (0, .ref (a 3)), (1, .int (nI (i))), (2, .int (nI (lx.2.1 (i + 1) - lx.2.1 i)))]) hx hb dX0_remove_94 hl (k := 3) rfl (nz_inc1 _) (by decide) rfl (fun ls hl => ?_)
        refine lv_goto (tgt := 67) hx hb dX0_remove_97 (by decide) ?_
        exact ih (k + 1) (by omega) (by omega) (by omega) H locs hP hS ls (lv_sub hl [1, 2, 3, 0] rfl)
  exact loop (lx.2.2.2 - (i + 1) + 1) (i + 1) (Nat.lt_succ_self _) (by omega) (Nat.lt_succ_self _) H locs hP hS ls (lv_sub hl [3, 4, 2, 0] rfl)
abbrev rmX0_grow : Room := { frames := 4, cells := 0, slots := 0, locals := 94 }
set_option maxHeartbeats 4000000 in
set_option maxRecDepth 100000 in
theorem mX0_grow (l : Launch) (D : va_G) (a : Nat → Nat) (cs : Nat → ClassId) (tp : (Nat → Int32) × Nat) (wd : (Nat → Nat) × Nat) (lx : (Nat → Nat) × (Nat → Nat) × (Nat → Nat) × Nat) (ro : Nat → Nat) (rs : (Nat → Nat) × (Nat → Nat) × (Nat → Nat) × (Nat → Nat) × (Nat → Nat) × Nat) (wt : Nat) (r : Nat) (b1 : Bool) (b2 : Bool) (ha : wInj a) (hB : LxB lx) (hW : WdB wd) (hwt : wt ≤ 1000000) (hr : r ≤ lx.2.2.2 ∧ (∀ i, i < r → ltF (TX lx i) (ZX lx i) wd.1 wd.2) ∧ (∀ i, r ≤ i → i < lx.2.2.2 → ¬ ltF (TX lx i) (ZX lx i) wd.1 wd.2)) (hb1 : b1 = true ↔ (r < lx.2.2.2 ∧ lx.2.1 (r + 1) - lx.2.1 r = wd.2 ∧ ∀ j, j < wd.2 → TX lx r j = wd.1 j)) (hb2 : b2 = true ↔ (lx.2.2.2 < 600 ∧ lx.2.1 lx.2.2.2 + wd.2 ≤ 6000)) : Met l yX0_grow wsX0_grow rmX0_grow (wdP D vwCl (wX a cs tp wd lx ro rs) (tyX cs) [.ref (a 3), .ref (a 2), .int (nI (wt))]) (wrQ (some (.int (bI (b1 || b2)))) (fun H => va_P D vwCl (wX a cs tp wd (bif b1 then lxAdd lx r wt else (bif b2 then lxIns lx wd r wt else lx)) ro rs) H) (inX a)) 0 0 (inX a) := by
  obtain ⟨hB1, hB2, hB3, hB4, hB5⟩ := id hB
  obtain ⟨hW1, hW2⟩ := id hW
  have hr1 := hr.1
  refine nz_metWi (by decide) rfl (Nat.le_of_ble_eq_true rfl) (bI_nar _) ?_
  intro p e s m args below meth c Q hx hb hml hts hown hP hK hret ls hl
  have hl : lv_has ls 4 [(0, .ref (a 3)), (1, .ref (a 2)), (2, .int (nI (wt)))] := hl
  have hown : s.vm.findClass RX0 = some m.cls := hown
  have hinX0 : ∀ w ∈ u_ws RX0 TX0 4, w ∈ wsX0_grow := by decide +kernel
  have hS : va_S (inX a) s.heap s.heap [] := va_S.rf
  obtain ⟨H, hH⟩ : ∃ H, H = s.heap := ⟨_, rfl⟩
  obtain ⟨locs, hlocs⟩ : ∃ locs : List Loc, locs = [] := ⟨_, rfl⟩
  have hP : va_P D vwCl (wX a cs tp wd lx ro rs) H := hH ▸ hP
  have hS : va_S (inX a) s.heap H locs := by rw [hH, hlocs]; exact va_S.rf
  suffices hgo : W p l e rmX0_grow s m args below meth c H locs 0 0 Q (F0 m 0 ls []) by rw [hH, hlocs] at hgo; exact hgo
  clear hH hlocs
  refine lv_aload_n hx hb dX0_grow_0 rfl (lv_at hl 0 rfl) ?_
  refine lv_aload_n hx hb dX0_grow_1 rfl (lv_at hl 1 rfl) ?_
  refine nz_callR (va_runV (As := [.ref (a 2)]) (rest := []) ⟨hx, hb, hml, hown, hts⟩ (mX0_placeOf l D a cs tp wd lx ro rs r hB hW hr) (cwV 1 hts gX0_grow_X0_placeOf rfl rfl rfl (by decide +kernel) ⟨Nat.le_of_ble_eq_true rfl, Nat.le_of_ble_eq_true rfl⟩) (nz_preV (ci := 0) (q0 := 3) hK hP rfl rfl) rfl rfl hl.1 rfl (lv_room (Nat.le_of_ble_eq_true rfl)) dX0_grow_2 ⟨Nat.zero_le _, Nat.zero_le _⟩) ?_
  refine lv_istore_n (lv' := [(3, .int (nI (r))), (0, .ref (a 3)), (1, .ref (a 2)), (2, .int (nI (wt)))]) hx hb dX0_grow_5 rfl hl (by decide) rfl (fun ls hl => ?_)
  refine lv_aload_n hx hb dX0_grow_6 rfl (lv_at hl 1 rfl) ?_
  refine lv_iload_n hx hb dX0_grow_7 rfl (lv_at hl 0 rfl) ?_
  refine lv_aload_n hx hb dX0_grow_8 rfl (lv_at hl 2 rfl) ?_
  refine nz_callR (va_runV (As := [.int (nI (r)), .ref (a 2)]) (rest := []) ⟨hx, hb, hml, hown, hts⟩ (mX0_standsAt l D a cs tp wd lx ro rs r b1 hB hW hr1 hb1) (cwV 2 hts gX0_grow_X0_standsAt rfl rfl rfl (by decide +kernel) ⟨Nat.le_of_ble_eq_true rfl, Nat.le_of_ble_eq_true rfl⟩) (nz_preV (ci := 0) (q0 := 3) hK hP rfl rfl) rfl rfl hl.1 rfl (lv_room (Nat.le_of_ble_eq_true rfl)) dX0_grow_9 ⟨Nat.zero_le _, Nat.zero_le _⟩) ?_
  refine nz_ifeqB (tgt := 38) hx hb dX0_grow_12 (by decide) (fun c_12 => ?_) (fun c_12 => ?_)
  · refine lv_aload_n hx hb dX0_grow_38 rfl (lv_at hl 1 rfl) ?_
    refine lv_iload_n hx hb dX0_grow_39 rfl (lv_at hl 0 rfl) ?_
    refine lv_aload_n hx hb dX0_grow_40 rfl (lv_at hl 2 rfl) ?_
    refine lv_iload_n hx hb dX0_grow_41 rfl (lv_at hl 3 rfl) ?_
    refine nz_i2l hx hb dX0_grow_42 (by omega) ?_
    refine nz_callW (va_runV (As := [.int (nI (r)), .ref (a 2), .long (lN (wt))]) (rest := []) ⟨hx, hb, hml, hown, hts⟩ (mX0_insert l D a cs tp wd lx ro rs r wt b2 ha hB hW hr1 (by omega) hb2) (cwV 3 hts gX0_grow_X0_insert rfl rfl rfl (by decide +kernel) ⟨Nat.le_of_ble_eq_true rfl, Nat.le_of_ble_eq_true rfl⟩) (nz_preV (ci := 0) (q0 := 3) hK hP rfl rfl) rfl rfl hl.1 rfl (lv_room (Nat.le_of_ble_eq_true rfl)) dX0_grow_43 ⟨Nat.zero_le _, Nat.zero_le _⟩) hS (fun _ h => h) (fun H locs hP _ _ hS => ?_)
    subst c_12
    exact hret 46 ls H locs dX0_grow_46 hP hS
  · have hrc : r < lx.2.2.2 := (hb1.mp c_12).1
    have hw5 := hB5 r
    refine lv_aload_n hx hb dX0_grow_15 rfl (lv_at hl 1 rfl) ?_
    refine va_get (D := D) (ci := 0) (v := .ref (a 10)) (C := RX0) (T := TX0) (N := 4) hx hb hts hinX0 hown hK hP 3 rfl rfl 2 (by decide) (hts (.fieldLink RX0 19 "TypoSuggester$Lexicon" "weights" "[J") (by decide +kernel)) (fun _ h9 => h9) rfl dX0_grow_16 ?_
    refine lv_iload_n hx hb dX0_grow_19 rfl (lv_at hl 0 rfl) ?_
    refine lv_aload_n hx hb dX0_grow_20 rfl (lv_at hl 1 rfl) ?_
    refine va_get (D := D) (ci := 0) (v := .ref (a 10)) (C := RX0) (T := TX0) (N := 4) hx hb hts hinX0 hown hK hP 3 rfl rfl 2 (by decide) (hts (.fieldLink RX0 19 "TypoSuggester$Lexicon" "weights" "[J") (by decide +kernel)) (fun _ h9 => h9) rfl dX0_grow_21 ?_
    refine lv_iload_n hx hb dX0_grow_24 rfl (lv_at hl 0 rfl) ?_
    refine nz_lald (f := lx.2.2.1) (k := r) hx hb hK hP 10 2 rfl rfl (by omega) (by decide) dX0_grow_25 ?_
    refine lv_iload_n hx hb dX0_grow_26 rfl (lv_at hl 3 rfl) ?_
    refine nz_i2l hx hb dX0_grow_27 (by omega) ?_
    refine nz_ladd (a := lx.2.2.1 r) (b := wt) hx hb dX0_grow_28 ?_
    refine lv_ldc2 (v := lN (1000000000000)) hx hb hown (hts (.constantLong RX0 61 (1000000000000)) (by decide +kernel)) dX0_grow_29 ?_
    refine nz_mminl (a := lx.2.2.1 r + wt) (b := 1000000000000) hx hb (hml.trans hl.1.symm) hown (hts (.methodLink RX0 63 Lib.MathLoose.min_long.x) (by decide +kernel)) (hts (.static Lib.MathLoose.min_long.x) (by decide +kernel)) (hts (.initialized "java/lang/Math") (by decide +kernel)) (hts (.code Lib.MathLoose.min_long.x Lib.MathLoose.min_long.code 4 (some .long)) (by decide +kernel)) (Nat.le_of_ble_eq_true rfl) (Nat.le_of_ble_eq_true rfl) (Nat.zero_le _) (Nat.zero_le _) (by omega) (by omega) dX0_grow_32 ?_
    refine nz_last (f := lx.2.2.1) (k := r) (v := min (lx.2.2.1 r + wt) 1000000000000) (ws' := wX a cs tp wd (lx.1, lx.2.1, va_up lx.2.2.1 r (min (lx.2.2.1 r + wt) 1000000000000), lx.2.2.2) ro rs) hx hb hK hP (wX_D ha) hS 10 2 rfl rfl (by omega) (by decide) dX0_grow_35 rfl (fun H locs hP hS => ?_)
    refine lv_iconst (v := nI 1) hx hb dX0_grow_36 (by decide +kernel) ?_
    subst c_12
    refine nz_top bI_t ?_
    exact hret 37 ls H locs dX0_grow_37 hP hS
/-- letter j of the i-th of n rows of Z i letters T i; -1 where there is none -/
def termF (n : Nat) (Z : Nat → Nat) (T : Nat → Nat → Nat) (i j : Int32) : Int32 := if ¬ i < 0 ∧ i.toNatClampNeg < n ∧ ¬ j < 0 ∧ j.toNatClampNeg < Z i.toNatClampNeg then nI (T i.toNatClampNeg j.toNatClampNeg) else -1
theorem termF_n1 {n : Nat} {Z : Nat → Nat} {T : Nat → Nat → Nat} {i j : Int32} (h : i < 0) : termF n Z T i j = -1 := if_neg (fun z => z.1 h)
theorem termF_n2 {n : Nat} {Z : Nat → Nat} {T : Nat → Nat → Nat} {i j : Int32} (h : j < 0) : termF n Z T i j = -1 := if_neg (fun z => z.2.2.1 h)
theorem termF_g1 {n : Nat} {Z : Nat → Nat} {T : Nat → Nat → Nat} {i : Nat} {j : Int32} (hi : i < 2 ^ 31) (h : n ≤ i) : termF n Z T (nI i) j = -1 := if_neg (fun z => by have := z.2.1; rw [nI_clamp hi] at this; omega)
theorem termF_g2 {n : Nat} {Z : Nat → Nat} {T : Nat → Nat → Nat} {i j : Nat} (hi : i < 2 ^ 31) (hj : j < 2 ^ 31) (h : Z i ≤ j) : termF n Z T (nI i) (nI j) = -1 := if_neg (fun z => by have := z.2.2.2; rw [nI_clamp hi, nI_clamp hj] at this; omega)
theorem termF_in {n : Nat} {Z : Nat → Nat} {T : Nat → Nat → Nat} {i j : Nat} (hi : i < 2 ^ 31) (hj : j < 2 ^ 31) (h1 : i < n) (h2 : j < Z i) : termF n Z T (nI i) (nI j) = nI (T i j) := by
  unfold termF
  rw [nI_clamp hi, nI_clamp hj, if_pos ⟨nI_pos hi, h1, nI_pos hj, h2⟩]
theorem termF_congr {n : Nat} {Z Z' : Nat → Nat} {T T' : Nat → Nat → Nat} (hZ : ∀ i, i < n → Z i = Z' i) (hT : ∀ i j, i < n → j < Z i → T i j = T' i j) (i j : Int32) : termF n Z T i j = termF n Z' T' i j := by
  unfold termF
  by_cases h : i.toNatClampNeg < n
  · rw [← hZ _ h]
    by_cases h2 : ¬ i < 0 ∧ i.toNatClampNeg < n ∧ ¬ j < 0 ∧ j.toNatClampNeg < Z i.toNatClampNeg
    · rw [if_pos h2, if_pos h2, hT _ _ h h2.2.2.2]
    · rw [if_neg h2, if_neg h2]
  · rw [if_neg (fun z => h z.2.1), if_neg (fun z => h z.2.1)]
abbrev rmX0_letterOf : Room := { frames := 1, cells := 0, slots := 0, locals := 21 }
set_option maxHeartbeats 4000000 in
set_option maxRecDepth 100000 in
theorem mX0_letterOf (l : Launch) (D : va_G) (a : Nat → Nat) (cs : Nat → ClassId) (tp : (Nat → Int32) × Nat) (wd : (Nat → Nat) × Nat) (lx : (Nat → Nat) × (Nat → Nat) × (Nat → Nat) × Nat) (ro : Nat → Nat) (rs : (Nat → Nat) × (Nat → Nat) × (Nat → Nat) × (Nat → Nat) × (Nat → Nat) × Nat) (i : Int32) (j : Int32) (hB : LxB lx) : Met l yX0_letterOf wsX0_letterOf rmX0_letterOf (wdP D vwCl (wX a cs tp wd lx ro rs) (tyX cs) [.ref (a 3), .int (i), .int (j)]) (rdQ (.int (termF lx.2.2.2 (ZX lx) (TX lx) i j))) 0 0 (fun _ => False) := by
  obtain ⟨hB1, hB2, hB3, hB4, hB5⟩ := id hB
  refine nz_metRi (by decide) rfl (Nat.le_of_ble_eq_true rfl) rfl ?_
  intro p e s m args below meth c Q hx hb hml hts hown hP hK hret ls hl
  have hl : lv_has ls 3 [(0, .ref (a 3)), (1, .int (i)), (2, .int (j))] := hl
  have hown : s.vm.findClass RX0 = some m.cls := hown
  have hinX0 : ∀ w ∈ u_ws RX0 TX0 4, w ∈ wsX0_letterOf := by decide +kernel
  refine lv_iload_n hx hb dX0_letterOf_0 rfl (lv_at hl 1 rfl) ?_
  refine lv_if_lt (tgt := 25) hx hb dX0_letterOf_1 (by decide) (fun c_1 => ?_) (fun c_1 => ?_)
  · have hz := termF_n1 (n := lx.2.2.2) (Z := ZX lx) (T := TX lx) (j := j) c_1
    refine lv_iconst (v := (-1)) hx hb dX0_letterOf_25 (by decide +kernel) ?_
    rw [hz] at hret
    exact hret 26 ls dX0_letterOf_26
  · obtain ⟨i1, hi1, rfl⟩ := nI_of c_1
    refine lv_iload_n hx hb dX0_letterOf_4 rfl (lv_at hl 1 rfl) ?_
    refine lv_aload_n hx hb dX0_letterOf_5 rfl (lv_at hl 0 rfl) ?_
    refine va_get (D := D) (ci := 0) (v := .int (nI (lx.2.2.2))) (C := RX0) (T := TX0) (N := 4) hx hb hts hinX0 hown hK hP 3 rfl rfl 3 (by decide) (hts (.fieldLink RX0 23 "TypoSuggester$Lexicon" "count" "I") (by decide +kernel)) (fun _ h9 => h9) rfl dX0_letterOf_6 ?_
    refine nz_cge (a := i1) (b := lx.2.2.2) (tgt := 25) hx hb dX0_letterOf_9 (by decide) (by omega) (by omega) (fun c_9 => ?_) (fun c_9 => ?_)
    · have hz := termF_g1 (n := lx.2.2.2) (Z := ZX lx) (T := TX lx) (j := j) hi1 c_9
      refine lv_iconst (v := (-1)) hx hb dX0_letterOf_25 (by decide +kernel) ?_
      rw [hz] at hret
      exact hret 26 ls dX0_letterOf_26
    · refine lv_iload_n hx hb dX0_letterOf_12 rfl (lv_at hl 2 rfl) ?_
      refine lv_if_lt (tgt := 25) hx hb dX0_letterOf_13 (by decide) (fun c_13 => ?_) (fun c_13 => ?_)
      · have hz := termF_n2 (n := lx.2.2.2) (Z := ZX lx) (T := TX lx) (i := nI i1) c_13
        refine lv_iconst (v := (-1)) hx hb dX0_letterOf_25 (by decide +kernel) ?_
        rw [hz] at hret
        exact hret 26 ls dX0_letterOf_26
      · obtain ⟨j1, hj1, rfl⟩ := nI_of c_13
        refine lv_iload_n hx hb dX0_letterOf_16 rfl (lv_at hl 2 rfl) ?_
        refine lv_aload_n hx hb dX0_letterOf_17 rfl (lv_at hl 0 rfl) ?_
        refine lv_iload_n hx hb dX0_letterOf_18 rfl (lv_at hl 1 rfl) ?_
        refine nz_callR (va_runV (As := [.int (nI (i1))]) (rest := [.int (nI (j1))]) ⟨hx, hb, hml, hown, hts⟩ (mX0_lengthOf l D a cs tp wd lx ro rs i1 hB c_9) (cwV 1 hts gX0_letterOf_X0_lengthOf rfl rfl rfl (by decide +kernel) ⟨Nat.le_of_ble_eq_true rfl, Nat.le_of_ble_eq_true rfl⟩) (nz_preV (ci := 0) (q0 := 3) hK hP rfl rfl) rfl rfl hl.1 rfl (lv_room (Nat.le_of_ble_eq_true rfl)) dX0_letterOf_19 ⟨Nat.zero_le _, Nat.zero_le _⟩) ?_
        refine nz_clt (a := j1) (b := lx.2.1 (i1 + 1) - lx.2.1 i1) (tgt := 27) hx hb dX0_letterOf_22 (by decide) (by omega) (by have := hB3 (i1 + 1); omega) (fun c_22 => ?_) (fun c_22 => ?_)
        · have hz := termF_in (n := lx.2.2.2) (Z := ZX lx) (T := TX lx) hi1 hj1 c_9 c_22
          have hm3 := hB3 (i1 + 1)
          refine lv_aload_n hx hb dX0_letterOf_27 rfl (lv_at hl 0 rfl) ?_
          refine va_get (D := D) (ci := 0) (v := .ref (a 8)) (C := RX0) (T := TX0) (N := 4) hx hb hts hinX0 hown hK hP 3 rfl rfl 0 (by decide) (hts (.fieldLink RX0 9 "TypoSuggester$Lexicon" "letters" "[B") (by decide +kernel)) (fun _ h9 => h9) rfl dX0_letterOf_28 ?_
          refine lv_aload_n hx hb dX0_letterOf_31 rfl (lv_at hl 0 rfl) ?_
          refine va_get (D := D) (ci := 0) (v := .ref (a 9)) (C := RX0) (T := TX0) (N := 4) hx hb hts hinX0 hown hK hP 3 rfl rfl 1 (by decide) (hts (.fieldLink RX0 15 "TypoSuggester$Lexicon" "starts" "[I") (by decide +kernel)) (fun _ h9 => h9) rfl dX0_letterOf_32 ?_
          refine lv_iload_n hx hb dX0_letterOf_35 rfl (lv_at hl 1 rfl) ?_
          refine nz_iald (f := lx.2.1) (k := i1) hx hb hK hP 9 1 rfl rfl (by omega) (by decide) dX0_letterOf_36 ?_
          refine lv_iload_n hx hb dX0_letterOf_37 rfl (lv_at hl 2 rfl) ?_
          refine nz_iadd (a := lx.2.1 i1) (b := j1) hx hb dX0_letterOf_38 ?_
          refine nz_bald (f := lx.1) (k := lx.2.1 i1 + j1) hx hb hK hP 8 0 rfl rfl (by omega) (by decide) dX0_letterOf_39 ?_
          rw [hz] at hret
          exact hret 40 ls dX0_letterOf_40
        · have hz := termF_g2 (n := lx.2.2.2) (Z := ZX lx) (T := TX lx) hi1 hj1 c_22
          refine lv_iconst (v := (-1)) hx hb dX0_letterOf_25 (by decide +kernel) ?_
          rw [hz] at hret
          exact hret 26 ls dX0_letterOf_26
end
section
/-! The Measure: one row of the table of distances after the other. -/
def stpR (q : Nat → Nat) (c : Nat) (f : Nat → Nat) : Nat → Nat
  | 0 => f 0 + 1
  | j + 1 => min (f j + (if q j = c then 0 else 1)) (min (stpR q c f j) (f (j + 1)) + 1)
def minR (g : Nat → Nat) : Nat → Nat
  | 0 => g 0
  | k + 1 => min (minR g k) (g (k + 1))
def mixR (g f : Nat → Nat) (n : Nat) : Nat → Nat := fun k => if k < n then g k else f k
def rowsF (q t : Nat → Nat) : Nat → Nat → Nat
  | 0 => fun i => i
  | j + 1 => stpR q (t j) (rowsF q t j)
/-- the nearness of a row t of z letters to the query q of n letters -/
def nrF (q : Nat → Nat) (n : Nat) (t : Nat → Nat) (z : Nat) : Nat := minR (fun j => rowsF q t j n) z
theorem mixR_ge {g f : Nat → Nat} {n k : Nat} (h : n ≤ k) : mixR g f n k = f k := if_neg (by omega)
theorem mixR_lt {g f : Nat → Nat} {n k : Nat} (h : k < n) : mixR g f n k = g k := if_pos h
theorem mixR_0 (g f : Nat → Nat) : mixR g f 0 = f := by
  funext k
  exact mixR_ge (Nat.zero_le _)
theorem mixR_step (g f : Nat → Nat) (n : Nat) : va_up (mixR g f n) n (g n) = mixR g f (n + 1) := by
  funext k
  unfold va_up mixR
  by_cases e : k = n
  · rw [if_pos e, if_pos (by omega), e]
  · rw [if_neg e]
    by_cases q : k < n
    · rw [if_pos q, if_pos (by omega)]
    · rw [if_neg q, if_neg (by omega)]
theorem stpR_le (q : Nat → Nat) (c : Nat) (f : Nat → Nat) : ∀ j, stpR q c f j ≤ f j + 1
  | 0 => Nat.le_refl _
  | j + 1 => by unfold stpR; omega
theorem stpR_congr {q q' : Nat → Nat} {c : Nat} {f f' : Nat → Nat} {n : Nat} (hq : ∀ k, k < n → q k = q' k) (h : ∀ k, k ≤ n → f k = f' k) : ∀ j, j ≤ n → stpR q c f j = stpR q' c f' j
  | 0, hj => by unfold stpR; rw [h 0 hj]
  | j + 1, hj => by
    unfold stpR
    rw [h j (by omega), h (j + 1) hj, hq j (by omega), stpR_congr hq h j (by omega)]
theorem minR_le (g : Nat → Nat) : ∀ n k, k ≤ n → minR g n ≤ g k
  | 0, k, h => by rw [show k = 0 by omega]; exact Nat.le_refl _
  | n + 1, k, h => by
    unfold minR
    rcases Nat.lt_or_ge k (n + 1) with z | z
    · have := minR_le g n k (by omega)
      omega
    · rw [show k = n + 1 by omega]
      omega
theorem minR_ge {g : Nat → Nat} {m : Nat} : ∀ n, (∀ k, k ≤ n → m ≤ g k) → m ≤ minR g n
  | 0, h => h 0 (Nat.le_refl _)
  | n + 1, h => by
    unfold minR
    have h1 := minR_ge n (fun k hk => h k (by omega))
    have h2 := h (n + 1) (Nat.le_refl _)
    omega
theorem minR_congr {g g' : Nat → Nat} : ∀ n, (∀ k, k ≤ n → g k = g' k) → minR g n = minR g' n
  | 0, h => h 0 (Nat.le_refl _)
  | n + 1, h => by
    unfold minR
    rw [minR_congr n (fun k hk => h k (by omega)), h (n + 1) (Nat.le_refl _)]
theorem rows_le (q t : Nat → Nat) : ∀ j k, rowsF q t j k ≤ k + j
  | 0, k => Nat.le_refl _
  | j + 1, k => by
    have h1 := stpR_le q (t j) (rowsF q t j) k
    have h2 := rows_le q t j k
    show stpR q (t j) (rowsF q t j) k ≤ _
    omega
theorem stp_lo {q : Nat → Nat} {c m n : Nat} {f : Nat → Nat} (h : ∀ k, k ≤ n → m ≤ f k) : ∀ j, j ≤ n → m ≤ stpR q c f j
  | 0, hj => by have := h 0 hj; unfold stpR; omega
  | j + 1, hj => by
    have h1 := stp_lo (q := q) (c := c) h j (by omega)
    have h2 := h j (by omega)
    have h3 := h (j + 1) hj
    unfold stpR
    omega
theorem rows_lo {q t : Nat → Nat} {n m j : Nat} (h : ∀ k, k ≤ n → m ≤ rowsF q t j k) : ∀ x, ∀ k, k ≤ n → m ≤ rowsF q t (j + x) k
  | 0 => h
  | x + 1 => fun k hk => stp_lo (rows_lo h x) k hk
theorem rows_congr {q q' t t' : Nat → Nat} {n z : Nat} (hq : ∀ k, k < n → q k = q' k) (ht : ∀ k, k < z → t k = t' k) : ∀ j, j ≤ z → ∀ k, k ≤ n → rowsF q t j k = rowsF q' t' j k
  | 0, _, _, _ => rfl
  | j + 1, hj, k, hk => by
    show stpR q (t j) (rowsF q t j) k = stpR q' (t' j) (rowsF q' t' j) k
    rw [ht j (by omega)]
    exact stpR_congr hq (rows_congr hq ht j (by omega)) k hk
theorem nrF_congr {q q' t t' : Nat → Nat} {n z : Nat} (hq : ∀ k, k < n → q k = q' k) (ht : ∀ k, k < z → t k = t' k) : nrF q n t z = nrF q' n t' z :=
  minR_congr z (fun j hj => rows_congr hq ht j hj n (Nat.le_refl _))
theorem min_ext {g : Nat → Nat} {e j : Nat} (h : ∀ x, j < x → min (minR g j) e ≤ g x) : ∀ x, min (minR g (j + x)) e = min (minR g j) e
  | 0 => rfl
  | x + 1 => by
    have h1 := min_ext h x
    have h2 := h (j + x + 1) (by omega)
    show min (min (minR g (j + x)) (g (j + x + 1))) e = _
    omega
theorem nr_stop {q t : Nat → Nat} {n z j lw e : Nat} (hj : j ≤ z) (hlw : ∀ k, k ≤ n → lw ≤ rowsF q t j k) (h : min (minR (fun x => rowsF q t x n) j) e ≤ lw) : min (minR (fun x => rowsF q t x n) j) e = min e (nrF q n t z) := by
  have h1 := min_ext (g := fun x => rowsF q t x n) (e := e) (j := j) (fun x hx => Nat.le_trans h (by have := rows_lo hlw (x - j) n (Nat.le_refl _); rw [show j + (x - j) = x by omega] at this; exact this)) (z - j)
  rw [show j + (z - j) = z by omega] at h1
  show _ = min e (minR (fun x => rowsF q t x n) z)
  rw [← h1, Nat.min_comm]
abbrev rmX1_lengthenPrefix : Room := { frames := 1, cells := 0, slots := 0, locals := 23 }
set_option maxHeartbeats 4000000 in
set_option maxRecDepth 100000 in
theorem mX1_lengthenPrefix (l : Launch) (D : va_G) (a : Nat → Nat) (cs : Nat → ClassId) (tp : (Nat → Int32) × Nat) (wd : (Nat → Nat) × Nat) (lx : (Nat → Nat) × (Nat → Nat) × (Nat → Nat) × Nat) (ro : Nat → Nat) (rs : (Nat → Nat) × (Nat → Nat) × (Nat → Nat) × (Nat → Nat) × (Nat → Nat) × Nat) (ch : Nat) (ha : wInj a) (hW : WdB wd) (hc : ch < 128) (hro : ∀ k, k ≤ wd.2 → ro k ≤ 100) : Met l yX1_lengthenPrefix wsX1_lengthenPrefix rmX1_lengthenPrefix (wdP D vwCl (wX a cs tp wd lx ro rs) (tyX cs) [.ref (a 4), .ref (a 2), .int (nI (ch))]) (wrQ (some (.int (nI (minR (stpR wd.1 ch ro) wd.2)))) (fun H => va_P D vwCl (wX a cs tp wd lx (mixR (stpR wd.1 ch ro) ro (wd.2 + 1)) rs) H) (inX a)) 0 0 (inX a) := by
  obtain ⟨hW1, hW2⟩ := id hW
  have b0 := hro 0 (Nat.zero_le _)
  refine nz_metWi (by decide) rfl (Nat.le_of_ble_eq_true rfl) rfl ?_
  intro p e s m args below meth c Q hx hb hml hts hown hP hK hret ls hl
  have hl : lv_has ls 7 [(0, .ref (a 4)), (1, .ref (a 2)), (2, .int (nI (ch)))] := hl
  have hown : s.vm.findClass RX1 = some m.cls := hown
  have hinX1 : ∀ w ∈ u_ws RX1 TX1 1, w ∈ wsX1_lengthenPrefix := by decide +kernel
  have hinX4 : ∀ w ∈ u_ws RX4 TX4 2, w ∈ wsX1_lengthenPrefix := by decide +kernel
  have hS : va_S (inX a) s.heap s.heap [] := va_S.rf
  obtain ⟨H, hH⟩ : ∃ H, H = s.heap := ⟨_, rfl⟩
  obtain ⟨locs, hlocs⟩ : ∃ locs : List Loc, locs = [] := ⟨_, rfl⟩
  have hP : va_P D vwCl (wX a cs tp wd lx ro rs) H := hH ▸ hP
  have hS : va_S (inX a) s.heap H locs := by rw [hH, hlocs]; exact va_S.rf
  suffices hgo : W p l e rmX1_lengthenPrefix s m args below meth c H locs 0 0 Q (F0 m 0 ls []) by rw [hH, hlocs] at hgo; exact hgo
  clear hH hlocs
  refine lv_aload_n hx hb dX1_lengthenPrefix_0 rfl (lv_at hl 0 rfl) ?_
  refine va_get (D := D) (ci := 1) (v := .ref (a 11)) (C := RX1) (T := TX1) (N := 1) hx hb hts hinX1 hown hK hP 4 rfl rfl 0 (by decide) (hts (.fieldLink RX1 9 "TypoSuggester$Measure" "row" "[I") (by decide +kernel)) (fun _ h9 => h9) rfl dX1_lengthenPrefix_1 ?_
  refine lv_iconst (v := nI 0) hx hb dX1_lengthenPrefix_4 (by decide +kernel) ?_
  refine nz_iald (f := ro) (k := 0) hx hb hK hP 11 1 rfl rfl (by omega) (by decide) dX1_lengthenPrefix_5 ?_
  refine lv_istore_n (lv' := [(3, .int (nI (ro 0))), (0, .ref (a 4)), (1, .ref (a 2)), (2, .int (nI (ch)))]) hx hb dX1_lengthenPrefix_6 rfl hl (by decide) rfl (fun ls hl => ?_)
  refine lv_aload_n hx hb dX1_lengthenPrefix_7 rfl (lv_at hl 1 rfl) ?_
  refine va_get (D := D) (ci := 1) (v := .ref (a 11)) (C := RX1) (T := TX1) (N := 1) hx hb hts hinX1 hown hK hP 4 rfl rfl 0 (by decide) (hts (.fieldLink RX1 9 "TypoSuggester$Measure" "row" "[I") (by decide +kernel)) (fun _ h9 => h9) rfl dX1_lengthenPrefix_8 ?_
  refine lv_iconst (v := nI 0) hx hb dX1_lengthenPrefix_11 (by decide +kernel) ?_
  refine lv_dup2_11 hx hb dX1_lengthenPrefix_12 rfl rfl ?_
  refine nz_iald (f := ro) (k := 0) hx hb hK hP 11 1 rfl rfl (by omega) (by decide) dX1_lengthenPrefix_13 ?_
  refine lv_iconst (v := nI 1) hx hb dX1_lengthenPrefix_14 (by decide +kernel) ?_
  refine nz_iadd (a := ro 0) (b := 1) hx hb dX1_lengthenPrefix_15 ?_
  refine nz_iast (f := ro) (k := 0) (v := ro 0 + 1) (ws' := wX a cs tp wd lx (va_up ro 0 (ro 0 + 1)) rs) hx hb hK hP (wX_D ha) hS 11 1 rfl rfl (by omega) (by decide) dX1_lengthenPrefix_16 rfl (fun H locs hP hS => ?_)
  refine lv_aload_n hx hb dX1_lengthenPrefix_17 rfl (lv_at hl 1 rfl) ?_
  refine va_get (D := D) (ci := 1) (v := .ref (a 11)) (C := RX1) (T := TX1) (N := 1) hx hb hts hinX1 hown hK hP 4 rfl rfl 0 (by decide) (hts (.fieldLink RX1 9 "TypoSuggester$Measure" "row" "[I") (by decide +kernel)) (fun _ h9 => h9) rfl dX1_lengthenPrefix_18 ?_
  refine lv_iconst (v := nI 0) hx hb dX1_lengthenPrefix_21 (by decide +kernel) ?_
  refine nz_iald (f := va_up ro 0 (ro 0 + 1)) (k := 0) hx hb hK hP 11 1 rfl rfl (by omega) (by decide) dX1_lengthenPrefix_22 ?_
  refine lv_istore (lv' := [(4, .int (nI ((va_up ro 0 (ro 0 + 1)) 0))), (3, .int (nI (ro 0))), (0, .ref (a 4)), (1, .ref (a 2)), (2, .int (nI (ch)))]) hx hb dX1_lengthenPrefix_23 hl (by decide) rfl (fun ls hl => ?_)
  refine lv_iconst (v := nI 1) hx hb dX1_lengthenPrefix_25 (by decide +kernel) ?_
  refine lv_istore (lv' := [(5, .int (nI (1))), (4, .int (nI ((va_up ro 0 (ro 0 + 1)) 0))), (3, .int (nI (ro 0))), (0, .ref (a 4)), (1, .ref (a 2)), (2, .int (nI (ch)))]) hx hb dX1_lengthenPrefix_26 hl (by decide) rfl (fun ls hl => ?_)
  have hP : va_P D vwCl (wX a cs tp wd lx (mixR (stpR wd.1 ch ro) ro (0 + 1)) rs) H := by rw [← mixR_step, mixR_0]; exact hP
  have e_1 : (nI ((va_up ro 0 (ro 0 + 1)) 0)) = (nI (minR (stpR wd.1 ch ro) 0)) := by unfold va_up; rw [if_pos rfl]; rfl
  have hl : lv_has ls 7 [(5, .int (nI (1))), (4, .int (nI (minR (stpR wd.1 ch ro) 0))), (3, .int (nI (ro 0))), (0, .ref (a 4)), (1, .ref (a 2)), (2, .int (nI (ch)))] := by rw [← e_1]; exact hl
  have loop : ∀ (fuel : Nat) (k : Nat), (k ≤ wd.2) → wd.2 - k < fuel → ∀ (H : Heap) (locs : List Loc), va_P D vwCl (wX a cs tp wd lx (mixR (stpR wd.1 ch ro) ro (k + 1)) rs) H → va_S (inX a) s.heap H locs → ∀ ls : Array Slot, lv_has ls 7 [(0, .ref (a 4)), (1, .ref (a 2)), (2, .int (nI (ch))), (3, .int (nI (ro k))), (4, .int (nI (minR (stpR wd.1 ch ro) k))), (5, .int (nI (k + 1)))] → W p l e rmX1_lengthenPrefix s m args below meth c H locs 0 0 Q (F0 m 28 ls []) := by
    intro fuel
    induction fuel with
    | zero => intro k hk hf; exact absurd hf (Nat.not_lt_zero _)
    | succ fuel ih =>
      intro k hk hf H locs hP hS ls hl
      refine lv_iload hx hb dX1_lengthenPrefix_28 (lv_at hl 5 rfl) ?_
      refine lv_aload_n hx hb dX1_lengthenPrefix_30 rfl (lv_at hl 1 rfl) ?_
      refine va_get (D := D) (ci := 4) (v := .int (nI (wd.2))) (C := RX4) (T := TX4) (N := 2) hx hb hts hinX4 hown hK hP 2 rfl rfl 1 (by decide) (hts (.fieldLink RX1 15 "TypoSuggester$Word" "length" "I") (by decide +kernel)) (fun _ h9 => h9) rfl dX1_lengthenPrefix_31 ?_
      refine nz_cgt (a := k + 1) (b := wd.2) (tgt := 120) hx hb dX1_lengthenPrefix_34 (by decide) (by omega) (by omega) (fun c_34 => ?_) (fun c_34 => ?_)
      · refine lv_iload hx hb dX1_lengthenPrefix_120 (lv_at hl 4 rfl) ?_
        have hkn : k = wd.2 := by omega
        rw [hkn] at hP ⊢
        exact hret 122 ls H locs dX1_lengthenPrefix_122 hP hS
      · have join : ∀ (x : Nat), (x = ro k + (if wd.1 k = ch then 0 else 1)) → ∀ (H : Heap) (locs : List Loc), va_P D vwCl (wX a cs tp wd lx (mixR (stpR wd.1 ch ro) ro (k + 1)) rs) H → va_S (inX a) s.heap H locs → ∀ ls : Array Slot, lv_has ls 7 [(0, .ref (a 4)), (1, .ref (a 2)), (2, .int (nI (ch))), (3, .int (nI (ro k))), (4, .int (nI (minR (stpR wd.1 ch ro) k))), (5, .int (nI (k + 1)))] → W p l e rmX1_lengthenPrefix s m args below meth c H locs 0 0 Q (F0 m 57 ls [.int (nI (x))]) := by
          intro x hx9 H locs hP hS ls hl
          have e1 : mixR (stpR wd.1 ch ro) ro (k + 1) (k + 1) = ro (k + 1) := mixR_ge (Nat.le_refl _)
          have e2 : mixR (stpR wd.1 ch ro) ro (k + 1) (k + 1 - 1) = stpR wd.1 ch ro k := mixR_lt (by omega)
          have b1 := hro (k + 1) (by omega)
          have b2 := hro k (by omega)
          have b3 := stpR_le wd.1 ch ro k
          have b4 : x ≤ ro k + 1 := by rw [hx9]; split <;> omega
          have b5 := minR_le (stpR wd.1 ch ro) k k (Nat.le_refl _)
          refine lv_istore (lv' := [(6, .int (nI (x))), (0, .ref (a 4)), (1, .ref (a 2)), (2, .int (nI (ch))), (3, .int (nI (ro k))), (4, .int (nI (minR (stpR wd.1 ch ro) k))), (5, .int (nI (k + 1)))]) hx hb dX1_lengthenPrefix_57 hl (by decide) rfl (fun ls hl => ?_)
          refine lv_aload_n hx hb dX1_lengthenPrefix_59 rfl (lv_at hl 1 rfl) ?_
          refine va_get (D := D) (ci := 1) (v := .ref (a 11)) (C := RX1) (T := TX1) (N := 1) hx hb hts hinX1 hown hK hP 4 rfl rfl 0 (by decide) (hts (.fieldLink RX1 9 "TypoSuggester$Measure" "row" "[I") (by decide +kernel)) (fun _ h9 => h9) rfl dX1_lengthenPrefix_60 ?_
          refine lv_iload hx hb dX1_lengthenPrefix_63 (lv_at hl 6 rfl) ?_
          refine nz_iald (f := mixR (stpR wd.1 ch ro) ro (k + 1)) (k := k + 1) hx hb hK hP 11 1 rfl rfl (by omega) (by decide) dX1_lengthenPrefix_65 ?_
          refine lv_istore_n (lv' := [(3, .int (nI ((mixR (stpR wd.1 ch ro) ro (k + 1)) (k + 1)))), (6, .int (nI (x))), (0, .ref (a 4)), (1, .ref (a 2)), (2, .int (nI (ch))), (4, .int (nI (minR (stpR wd.1 ch ro) k))), (5, .int (nI (k + 1)))]) hx hb dX1_lengthenPrefix_66 rfl hl (by decide) rfl (fun ls hl => ?_)
          have e_2 : (nI ((mixR (stpR wd.1 ch ro) ro (k + 1)) (k + 1))) = (nI (ro (k + 1))) := by rw [e1]
          have hl : lv_has ls 7 [(3, .int (nI (ro (k + 1)))), (6, .int (nI (x))), (0, .ref (a 4)), (1, .ref (a 2)), (2, .int (nI (ch))), (4, .int (nI (minR (stpR wd.1 ch ro) k))), (5, .int (nI (k + 1)))] := by rw [← e_2]; exact hl
          refine lv_aload_n hx hb dX1_lengthenPrefix_67 rfl (lv_at hl 2 rfl) ?_
          refine va_get (D := D) (ci := 1) (v := .ref (a 11)) (C := RX1) (T := TX1) (N := 1) hx hb hts hinX1 hown hK hP 4 rfl rfl 0 (by decide) (hts (.fieldLink RX1 9 "TypoSuggester$Measure" "row" "[I") (by decide +kernel)) (fun _ h9 => h9) rfl dX1_lengthenPrefix_68 ?_
          refine lv_iload hx hb dX1_lengthenPrefix_71 (lv_at hl 6 rfl) ?_
          refine lv_iload hx hb dX1_lengthenPrefix_73 (lv_at hl 1 rfl) ?_
          refine lv_aload_n hx hb dX1_lengthenPrefix_75 rfl (lv_at hl 2 rfl) ?_
          refine va_get (D := D) (ci := 1) (v := .ref (a 11)) (C := RX1) (T := TX1) (N := 1) hx hb hts hinX1 hown hK hP 4 rfl rfl 0 (by decide) (hts (.fieldLink RX1 9 "TypoSuggester$Measure" "row" "[I") (by decide +kernel)) (fun _ h9 => h9) rfl dX1_lengthenPrefix_76 ?_
          refine lv_iload hx hb dX1_lengthenPrefix_79 (lv_at hl 6 rfl) ?_
          refine lv_iconst (v := nI 1) hx hb dX1_lengthenPrefix_81 (by decide +kernel) ?_
          refine nz_isub (a := k + 1) (b := 1) hx hb dX1_lengthenPrefix_82 (by omega) ?_
          refine nz_iald (f := mixR (stpR wd.1 ch ro) ro (k + 1)) (k := (k + 1) - 1) hx hb hK hP 11 1 rfl rfl (by omega) (by decide) dX1_lengthenPrefix_83 ?_
          refine lv_aload_n hx hb dX1_lengthenPrefix_84 rfl (lv_at hl 2 rfl) ?_
          refine va_get (D := D) (ci := 1) (v := .ref (a 11)) (C := RX1) (T := TX1) (N := 1) hx hb hts hinX1 hown hK hP 4 rfl rfl 0 (by decide) (hts (.fieldLink RX1 9 "TypoSuggester$Measure" "row" "[I") (by decide +kernel)) (fun _ h9 => h9) rfl dX1_lengthenPrefix_85 ?_
          refine lv_iload hx hb dX1_lengthenPrefix_88 (lv_at hl 6 rfl) ?_
          refine nz_iald (f := mixR (stpR wd.1 ch ro) ro (k + 1)) (k := k + 1) hx hb hK hP 11 1 rfl rfl (by omega) (by decide) dX1_lengthenPrefix_90 ?_
          refine nz_mmin (a := (mixR (stpR wd.1 ch ro) ro (k + 1)) ((k + 1) - 1)) (b := (mixR (stpR wd.1 ch ro) ro (k + 1)) (k + 1)) hx hb (hml.trans hl.1.symm) hown (hts (.methodLink RX1 21 Lib.Math.min.name) (by decide +kernel)) (hts (.static Lib.Math.min.name) (by decide +kernel)) (hts (.initialized "java/lang/Math") (by decide +kernel)) (hts (.code Lib.Math.min.name Lib.Math.min.code 2 (some .int)) (by decide +kernel)) (Nat.le_of_ble_eq_true rfl) (Nat.le_of_ble_eq_true rfl) (Nat.zero_le _) (Nat.zero_le _) (by omega) (by omega) dX1_lengthenPrefix_91 ?_
          refine lv_iconst (v := nI 1) hx hb dX1_lengthenPrefix_94 (by decide +kernel) ?_
          refine nz_iadd (a := min ((mixR (stpR wd.1 ch ro) ro (k + 1)) ((k + 1) - 1)) ((mixR (stpR wd.1 ch ro) ro (k + 1)) (k + 1))) (b := 1) hx hb dX1_lengthenPrefix_95 ?_
          refine nz_mmin (a := x) (b := min ((mixR (stpR wd.1 ch ro) ro (k + 1)) ((k + 1) - 1)) ((mixR (stpR wd.1 ch ro) ro (k + 1)) (k + 1)) + 1) hx hb (hml.trans hl.1.symm) hown (hts (.methodLink RX1 21 Lib.Math.min.name) (by decide +kernel)) (hts (.static Lib.Math.min.name) (by decide +kernel)) (hts (.initialized "java/lang/Math") (by decide +kernel)) (hts (.code Lib.Math.min.name Lib.Math.min.code 2 (some .int)) (by decide +kernel)) (Nat.le_of_ble_eq_true rfl) (Nat.le_of_ble_eq_true rfl) (Nat.zero_le _) (Nat.zero_le _) (by omega) (by omega) dX1_lengthenPrefix_96 ?_
          refine nz_iast (f := mixR (stpR wd.1 ch ro) ro (k + 1)) (k := k + 1) (v := min x (min ((mixR (stpR wd.1 ch ro) ro (k + 1)) ((k + 1) - 1)) ((mixR (stpR wd.1 ch ro) ro (k + 1)) (k + 1)) + 1)) (ws' := wX a cs tp wd lx (va_up (mixR (stpR wd.1 ch ro) ro (k + 1)) (k + 1) (min x (min ((mixR (stpR wd.1 ch ro) ro (k + 1)) ((k + 1) - 1)) ((mixR (stpR wd.1 ch ro) ro (k + 1)) (k + 1)) + 1))) rs) hx hb hK hP (wX_D ha) hS 11 1 rfl rfl (by omega) (by decide) dX1_lengthenPrefix_99 rfl (fun H locs hP hS => ?_)
          have e_3 : va_up (mixR (stpR wd.1 ch ro) ro (k + 1)) (k + 1) (min x (min ((mixR (stpR wd.1 ch ro) ro (k + 1)) ((k + 1) - 1)) ((mixR (stpR wd.1 ch ro) ro (k + 1)) (k + 1)) + 1)) = mixR (stpR wd.1 ch ro) ro (k + 1 + 1) := by rw [e1, e2, hx9]; exact mixR_step _ _ _
          rw [e_3] at hP
          have e3 : mixR (stpR wd.1 ch ro) ro (k + 1 + 1) (k + 1) = stpR wd.1 ch ro (k + 1) := mixR_lt (by omega)
          have b6 := stpR_le wd.1 ch ro (k + 1)
          refine lv_iload hx hb dX1_lengthenPrefix_100 (lv_at hl 5 rfl) ?_
          refine lv_aload_n hx hb dX1_lengthenPrefix_102 rfl (lv_at hl 2 rfl) ?_
          refine va_get (D := D) (ci := 1) (v := .ref (a 11)) (C := RX1) (T := TX1) (N := 1) hx hb hts hinX1 hown hK hP 4 rfl rfl 0 (by decide) (hts (.fieldLink RX1 9 "TypoSuggester$Measure" "row" "[I") (by decide +kernel)) (fun _ h9 => h9) rfl dX1_lengthenPrefix_103 ?_
          refine lv_iload hx hb dX1_lengthenPrefix_106 (lv_at hl 6 rfl) ?_
          refine nz_iald (f := mixR (stpR wd.1 ch ro) ro (k + 1 + 1)) (k := k + 1) hx hb hK hP 11 1 rfl rfl (by omega) (by decide) dX1_lengthenPrefix_108 ?_
          refine nz_mmin (a := minR (stpR wd.1 ch ro) k) (b := (mixR (stpR wd.1 ch ro) ro (k + 1 + 1)) (k + 1)) hx hb (hml.trans hl.1.symm) hown (hts (.methodLink RX1 21 Lib.Math.min.name) (by decide +kernel)) (hts (.static Lib.Math.min.name) (by decide +kernel)) (hts (.initialized "java/lang/Math") (by decide +kernel)) (hts (.code Lib.Math.min.name Lib.Math.min.code 2 (some .int)) (by decide +kernel)) (Nat.le_of_ble_eq_true rfl) (Nat.le_of_ble_eq_true rfl) (Nat.zero_le _) (Nat.zero_le _) (by omega) (by omega) dX1_lengthenPrefix_109 ?_
          refine lv_istore (lv' := [(4, .int (nI (min (minR (stpR wd.1 ch ro) k) ((mixR (stpR wd.1 ch ro) ro (k + 1 + 1)) (k + 1))))), (3, .int (nI (ro (k + 1)))), (6, .int (nI (x))), (0, .ref (a 4)), (1, .ref (a 2)), (2, .int (nI (ch))), (5, .int (nI (k + 1)))]) hx hb dX1_lengthenPrefix_112 hl (by decide) rfl (fun ls hl => ?_)
          have e_4 : (nI (min (minR (stpR wd.1 ch ro) k) ((mixR (stpR wd.1 ch ro) ro (k + 1 + 1)) (k + 1)))) = (nI (minR (stpR wd.1 ch ro) (k + 1))) := by rw [e3]; rfl
          have hl : lv_has ls 7 [(4, .int (nI (minR (stpR wd.1 ch ro) (k + 1)))), (3, .int (nI (ro (k + 1)))), (6, .int (nI (x))), (0, .ref (a 4)), (1, .ref (a 2)), (2, .int (nI (ch))), (5, .int (nI (k + 1)))] := by rw [← e_4]; exact hl
          refine lv_iinc (v := nI (k + 1 + 1)) (lv' := [(5, .int (nI (k + 1 + 1))), (4, .int (nI (minR (stpR wd.1 ch ro) (k + 1)))), (3, .int (nI (ro (k + 1)))), (6, .int (nI (x))), (0, .ref (a 4)), (1, .ref (a 2)), (2, .int (nI (ch)))]) hx hb dX1_lengthenPrefix_114 hl (k := 6) rfl (nz_inc1 _) (by decide) rfl (fun ls hl => ?_)
          refine lv_goto (tgt := 28) hx hb dX1_lengthenPrefix_117 (by decide) ?_
          exact ih (k + 1) (by omega) (by omega) H locs hP hS ls (lv_sub hl [4, 5, 6, 2, 1, 0] rfl)
        refine lv_aload_n hx hb dX1_lengthenPrefix_37 rfl (lv_at hl 1 rfl) ?_
        refine va_get (D := D) (ci := 4) (v := .ref (a 7)) (C := RX4) (T := TX4) (N := 2) hx hb hts hinX4 hown hK hP 2 rfl rfl 0 (by decide) (hts (.fieldLink RX1 40 "TypoSuggester$Word" "letters" "[B") (by decide +kernel)) (fun _ h9 => h9) rfl dX1_lengthenPrefix_38 ?_
        refine lv_iload hx hb dX1_lengthenPrefix_41 (lv_at hl 5 rfl) ?_
        refine lv_iconst (v := nI 1) hx hb dX1_lengthenPrefix_43 (by decide +kernel) ?_
        refine nz_isub (a := k + 1) (b := 1) hx hb dX1_lengthenPrefix_44 (by omega) ?_
        refine nz_bald (f := wd.1) (k := (k + 1) - 1) hx hb hK hP 7 0 rfl rfl (by omega) (by decide) dX1_lengthenPrefix_45 ?_
        refine lv_iload_n hx hb dX1_lengthenPrefix_46 rfl (lv_at hl 2 rfl) ?_
        refine nz_cne (a := wd.1 ((k + 1) - 1)) (b := ch) (tgt := 54) hx hb dX1_lengthenPrefix_47 (by decide) (by have := hW2 (k + 1 - 1); omega) (by omega) (fun c_47 => ?_) (fun c_47 => ?_)
        · refine lv_iload_n hx hb dX1_lengthenPrefix_54 rfl (lv_at hl 3 rfl) ?_
          refine lv_iconst (v := nI 1) hx hb dX1_lengthenPrefix_55 (by decide +kernel) ?_
          refine nz_iadd (a := ro k) (b := 1) hx hb dX1_lengthenPrefix_56 ?_
          exact join (ro k + 1) (by rw [if_neg (show ¬ wd.1 k = ch from c_47)]) H locs hP hS ls (lv_sub hl [0, 1, 2, 3, 4, 5] rfl)
        · refine lv_iload_n hx hb dX1_lengthenPrefix_50 rfl (lv_at hl 3 rfl) ?_
          refine lv_goto (tgt := 57) hx hb dX1_lengthenPrefix_51 (by decide) ?_
          exact join (ro k) (by rw [if_pos (show wd.1 k = ch from c_47), Nat.add_zero]) H locs hP hS ls (lv_sub hl [0, 1, 2, 3, 4, 5] rfl)
  exact loop (wd.2 - 0 + 1) 0 (Nat.zero_le _) (Nat.lt_succ_self _) H locs hP hS ls (lv_sub hl [3, 4, 5, 2, 1, 0] rfl)
abbrev rmX1_nearness : Room := { frames := 2, cells := 0, slots := 0, locals := 49 }
set_option maxHeartbeats 4000000 in
set_option maxRecDepth 100000 in
theorem mX1_nearness (l : Launch) (D : va_G) (a : Nat → Nat) (cs : Nat → ClassId) (tp : (Nat → Int32) × Nat) (wd : (Nat → Nat) × Nat) (lx : (Nat → Nat) × (Nat → Nat) × (Nat → Nat) × Nat) (ro : Nat → Nat) (rs : (Nat → Nat) × (Nat → Nat) × (Nat → Nat) × (Nat → Nat) × (Nat → Nat) × Nat) (i : Nat) (d : Nat) (ha : wInj a) (hB : LxB lx) (hW : WdB wd) (hi : i < lx.2.2.2) (hd : d ≤ 2) (hz24 : lx.2.1 (i + 1) - lx.2.1 i ≤ 24) : Met l yX1_nearness wsX1_nearness rmX1_nearness (wdP D vwCl (wX a cs tp wd lx ro rs) (tyX cs) [.ref (a 4), .ref (a 2), .ref (a 3), .int (nI (i)), .int (nI (d))]) (wrQ (some (.int (nI (min (d + 1) (nrF wd.1 wd.2 (TX lx i) (ZX lx i)))))) (fun H => ∃ ro2, va_P D vwCl (wX a cs tp wd lx ro2 rs) H) (inX a)) 0 0 (inX a) := by
  obtain ⟨hB1, hB2, hB3, hB4, hB5⟩ := id hB
  obtain ⟨hW1, hW2⟩ := id hW
  have hm1 := hB3 i
  have hm2 := hB3 (i + 1)
  have hm3 := hB2 i hi
  refine nz_metWi (by decide) rfl (Nat.le_of_ble_eq_true rfl) rfl ?_
  intro p e s m args below meth c Q hx hb hml hts hown hP hK hret ls hl
  have hl : lv_has ls 9 [(0, .ref (a 4)), (1, .ref (a 2)), (2, .ref (a 3)), (3, .int (nI (i))), (4, .int (nI (d)))] := hl
  have hown : s.vm.findClass RX1 = some m.cls := hown
  have hinX4 : ∀ w ∈ u_ws RX4 TX4 2, w ∈ wsX1_nearness := by decide +kernel
  have hinX1 : ∀ w ∈ u_ws RX1 TX1 1, w ∈ wsX1_nearness := by decide +kernel
  have hinX0 : ∀ w ∈ u_ws RX0 TX0 4, w ∈ wsX1_nearness := by decide +kernel
  have hS : va_S (inX a) s.heap s.heap [] := va_S.rf
  obtain ⟨H, hH⟩ : ∃ H, H = s.heap := ⟨_, rfl⟩
  obtain ⟨locs, hlocs⟩ : ∃ locs : List Loc, locs = [] := ⟨_, rfl⟩
  have hP : va_P D vwCl (wX a cs tp wd lx ro rs) H := hH ▸ hP
  have hS : va_S (inX a) s.heap H locs := by rw [hH, hlocs]; exact va_S.rf
  suffices hgo : W p l e rmX1_nearness s m args below meth c H locs 0 0 Q (F0 m 0 ls []) by rw [hH, hlocs] at hgo; exact hgo
  clear hH hlocs
  refine lv_iconst (v := nI 0) hx hb dX1_nearness_0 (by decide +kernel) ?_
  refine lv_istore (lv' := [(5, .int (nI (0))), (0, .ref (a 4)), (1, .ref (a 2)), (2, .ref (a 3)), (3, .int (nI (i))), (4, .int (nI (d)))]) hx hb dX1_nearness_1 hl (by decide) rfl (fun ls hl => ?_)
  have hP : va_P D vwCl (wX a cs tp wd lx (mixR (fun x => x) ro 0) rs) H := by rw [mixR_0]; exact hP
  have loop : ∀ (fuel : Nat) (k : Nat), (k ≤ wd.2 + 1) → wd.2 + 1 - k < fuel → ∀ (H : Heap) (locs : List Loc), va_P D vwCl (wX a cs tp wd lx (mixR (fun x => x) ro k) rs) H → va_S (inX a) s.heap H locs → ∀ ls : Array Slot, lv_has ls 9 [(0, .ref (a 4)), (1, .ref (a 2)), (2, .ref (a 3)), (3, .int (nI (i))), (4, .int (nI (d))), (5, .int (nI (k)))] → W p l e rmX1_nearness s m args below meth c H locs 0 0 Q (F0 m 3 ls []) := by
    intro fuel
    induction fuel with
    | zero => intro k hk hf; exact absurd hf (Nat.not_lt_zero _)
    | succ fuel ih =>
      intro k hk hf H locs hP hS ls hl
      refine lv_iload hx hb dX1_nearness_3 (lv_at hl 5 rfl) ?_
      refine lv_aload_n hx hb dX1_nearness_5 rfl (lv_at hl 1 rfl) ?_
      refine va_get (D := D) (ci := 4) (v := .int (nI (wd.2))) (C := RX4) (T := TX4) (N := 2) hx hb hts hinX4 hown hK hP 2 rfl rfl 1 (by decide) (hts (.fieldLink RX1 15 "TypoSuggester$Word" "length" "I") (by decide +kernel)) (fun _ h9 => h9) rfl dX1_nearness_6 ?_
      refine nz_cgt (a := k) (b := wd.2) (tgt := 27) hx hb dX1_nearness_9 (by decide) (by omega) (by omega) (fun c_9 => ?_) (fun c_9 => ?_)
      · have hkn : k = wd.2 + 1 := by omega
        refine lv_aload_n hx hb dX1_nearness_27 rfl (lv_at hl 1 rfl) ?_
        refine va_get (D := D) (ci := 4) (v := .int (nI (wd.2))) (C := RX4) (T := TX4) (N := 2) hx hb hts hinX4 hown hK hP 2 rfl rfl 1 (by decide) (hts (.fieldLink RX1 15 "TypoSuggester$Word" "length" "I") (by decide +kernel)) (fun _ h9 => h9) rfl dX1_nearness_28 ?_
        refine lv_iload hx hb dX1_nearness_31 (lv_at hl 4 rfl) ?_
        refine lv_iconst (v := nI 1) hx hb dX1_nearness_33 (by decide +kernel) ?_
        refine nz_iadd (a := d) (b := 1) hx hb dX1_nearness_34 ?_
        refine nz_mmin (a := wd.2) (b := d + 1) hx hb (hml.trans hl.1.symm) hown (hts (.methodLink RX1 21 Lib.Math.min.name) (by decide +kernel)) (hts (.static Lib.Math.min.name) (by decide +kernel)) (hts (.initialized "java/lang/Math") (by decide +kernel)) (hts (.code Lib.Math.min.name Lib.Math.min.code 2 (some .int)) (by decide +kernel)) (Nat.le_of_ble_eq_true rfl) (Nat.le_of_ble_eq_true rfl) (Nat.zero_le _) (Nat.zero_le _) (by omega) (by omega) dX1_nearness_35 ?_
        refine lv_istore (lv' := [(5, .int (nI (min wd.2 (d + 1)))), (0, .ref (a 4)), (1, .ref (a 2)), (2, .ref (a 3)), (3, .int (nI (i))), (4, .int (nI (d)))]) hx hb dX1_nearness_38 hl (by decide) rfl (fun ls hl => ?_)
        have e_1 : (nI (min wd.2 (d + 1))) = (nI (min (minR (fun x => rowsF wd.1 (TX lx i) x wd.2) 0) (d + 1))) := rfl
        have hl : lv_has ls 9 [(5, .int (nI (min (minR (fun x => rowsF wd.1 (TX lx i) x wd.2) 0) (d + 1)))), (0, .ref (a 4)), (1, .ref (a 2)), (2, .ref (a 3)), (3, .int (nI (i))), (4, .int (nI (d)))] := by rw [← e_1]; exact hl
        refine lv_iconst (v := nI 0) hx hb dX1_nearness_40 (by decide +kernel) ?_
        refine lv_istore (lv' := [(6, .int (nI (0))), (5, .int (nI (min (minR (fun x => rowsF wd.1 (TX lx i) x wd.2) 0) (d + 1)))), (0, .ref (a 4)), (1, .ref (a 2)), (2, .ref (a 3)), (3, .int (nI (i))), (4, .int (nI (d)))]) hx hb dX1_nearness_41 hl (by decide) rfl (fun ls hl => ?_)
        refine lv_aload_n hx hb dX1_nearness_43 rfl (lv_at hl 4 rfl) ?_
        refine va_get (D := D) (ci := 0) (v := .ref (a 9)) (C := RX0) (T := TX0) (N := 4) hx hb hts hinX0 hown hK hP 3 rfl rfl 1 (by decide) (hts (.fieldLink RX1 27 "TypoSuggester$Lexicon" "starts" "[I") (by decide +kernel)) (fun _ h9 => h9) rfl dX1_nearness_44 ?_
        refine lv_iload_n hx hb dX1_nearness_47 rfl (lv_at hl 5 rfl) ?_
        refine lv_iconst (v := nI 1) hx hb dX1_nearness_48 (by decide +kernel) ?_
        refine nz_iadd (a := i) (b := 1) hx hb dX1_nearness_49 ?_
        refine nz_iald (f := lx.2.1) (k := i + 1) hx hb hK hP 9 1 rfl rfl (by omega) (by decide) dX1_nearness_50 ?_
        refine lv_istore (lv' := [(7, .int (nI (lx.2.1 (i + 1)))), (6, .int (nI (0))), (5, .int (nI (min (minR (fun x => rowsF wd.1 (TX lx i) x wd.2) 0) (d + 1)))), (0, .ref (a 4)), (1, .ref (a 2)), (2, .ref (a 3)), (3, .int (nI (i))), (4, .int (nI (d)))]) hx hb dX1_nearness_51 hl (by decide) rfl (fun ls hl => ?_)
        refine lv_aload_n hx hb dX1_nearness_53 rfl (lv_at hl 5 rfl) ?_
        refine va_get (D := D) (ci := 0) (v := .ref (a 9)) (C := RX0) (T := TX0) (N := 4) hx hb hts hinX0 hown hK hP 3 rfl rfl 1 (by decide) (hts (.fieldLink RX1 27 "TypoSuggester$Lexicon" "starts" "[I") (by decide +kernel)) (fun _ h9 => h9) rfl dX1_nearness_54 ?_
        refine lv_iload_n hx hb dX1_nearness_57 rfl (lv_at hl 6 rfl) ?_
        refine nz_iald (f := lx.2.1) (k := i) hx hb hK hP 9 1 rfl rfl (by omega) (by decide) dX1_nearness_58 ?_
        refine lv_istore (lv' := [(8, .int (nI (lx.2.1 i))), (7, .int (nI (lx.2.1 (i + 1)))), (6, .int (nI (0))), (5, .int (nI (min (minR (fun x => rowsF wd.1 (TX lx i) x wd.2) 0) (d + 1)))), (0, .ref (a 4)), (1, .ref (a 2)), (2, .ref (a 3)), (3, .int (nI (i))), (4, .int (nI (d)))]) hx hb dX1_nearness_59 hl (by decide) rfl (fun ls hl => ?_)
        have loop2 : ∀ (fuel : Nat) (j : Nat) (lw : Nat) (ro2 : Nat → Nat), (j ≤ lx.2.1 (i + 1) - lx.2.1 i) → (∀ k, k ≤ wd.2 → lw ≤ rowsF wd.1 (TX lx i) j k) → (∀ k, k ≤ wd.2 → ro2 k = rowsF wd.1 (TX lx i) j k) → (lw ≤ 100) → lx.2.1 (i + 1) - lx.2.1 i - j < fuel → ∀ (H : Heap) (locs : List Loc), va_P D vwCl (wX a cs tp wd lx ro2 rs) H → va_S (inX a) s.heap H locs → ∀ ls : Array Slot, lv_has ls 9 [(0, .ref (a 4)), (1, .ref (a 2)), (2, .ref (a 3)), (3, .int (nI (i))), (5, .int (nI (min (minR (fun x => rowsF wd.1 (TX lx i) x wd.2) j) (d + 1)))), (6, .int (nI (lw))), (7, .int (nI (lx.2.1 (i + 1)))), (8, .int (nI (lx.2.1 i + j)))] → W p l e rmX1_nearness s m args below meth c H locs 0 0 Q (F0 m 61 ls []) := by
          intro fuel
          induction fuel with
          | zero => intro j lw ro2 hj hlw hro2 hlb hf; exact absurd hf (Nat.not_lt_zero _)
          | succ fuel ih =>
            intro j lw ro2 hj hlw hro2 hlb hf H locs hP hS ls hl
            refine lv_iload hx hb dX1_nearness_61 (lv_at hl 7 rfl) ?_
            refine lv_iload hx hb dX1_nearness_63 (lv_at hl 6 rfl) ?_
            refine nz_cge (a := lx.2.1 i + j) (b := lx.2.1 (i + 1)) (tgt := 111) hx hb dX1_nearness_65 (by decide) (by omega) (by omega) (fun c_65 => ?_) (fun c_65 => ?_)
            · have hjz : j = ZX lx i := by show j = lx.2.1 (i + 1) - lx.2.1 i; omega
              have hz : min (minR (fun x => rowsF wd.1 (TX lx i) x wd.2) j) (d + 1) = min (d + 1) (nrF wd.1 wd.2 (TX lx i) (ZX lx i)) := by rw [hjz, Nat.min_comm]; rfl
              refine lv_iload hx hb dX1_nearness_111 (lv_at hl 4 rfl) ?_
              rw [hz]
              exact hret 113 ls H locs dX1_nearness_113 ⟨_, hP⟩ hS
            · refine lv_iload hx hb dX1_nearness_68 (lv_at hl 5 rfl) ?_
              refine lv_iload hx hb dX1_nearness_70 (lv_at hl 4 rfl) ?_
              refine nz_cge (a := lw) (b := min (minR (fun x => rowsF wd.1 (TX lx i) x wd.2) j) (d + 1)) (tgt := 111) hx hb dX1_nearness_72 (by decide) (by omega) (by omega) (fun c_72 => ?_) (fun c_72 => ?_)
              · have hz : min (minR (fun x => rowsF wd.1 (TX lx i) x wd.2) j) (d + 1) = min (d + 1) (nrF wd.1 wd.2 (TX lx i) (ZX lx i)) := nr_stop hj hlw c_72
                refine lv_iload hx hb dX1_nearness_111 (lv_at hl 4 rfl) ?_
                rw [hz]
                exact hret 113 ls H locs dX1_nearness_113 ⟨_, hP⟩ hS
              · refine lv_aload_n hx hb dX1_nearness_75 rfl (lv_at hl 0 rfl) ?_
                refine lv_aload_n hx hb dX1_nearness_76 rfl (lv_at hl 1 rfl) ?_
                refine lv_aload_n hx hb dX1_nearness_77 rfl (lv_at hl 2 rfl) ?_
                refine va_get (D := D) (ci := 0) (v := .ref (a 8)) (C := RX0) (T := TX0) (N := 4) hx hb hts hinX0 hown hK hP 3 rfl rfl 0 (by decide) (hts (.fieldLink RX1 32 "TypoSuggester$Lexicon" "letters" "[B") (by decide +kernel)) (fun _ h9 => h9) rfl dX1_nearness_78 ?_
                refine lv_iload hx hb dX1_nearness_81 (lv_at hl 7 rfl) ?_
                refine nz_bald (f := lx.1) (k := lx.2.1 i + j) hx hb hK hP 8 0 rfl rfl (by omega) (by decide) dX1_nearness_83 ?_
                have hst : ∀ k, k ≤ wd.2 → stpR wd.1 (lx.1 (lx.2.1 i + j)) ro2 k = rowsF wd.1 (TX lx i) (j + 1) k := stpR_congr (fun _ _ => rfl) hro2
                have hrb : ∀ k, k ≤ wd.2 → ro2 k ≤ 100 := fun k hk => by have := rows_le wd.1 (TX lx i) j k; rw [hro2 k hk]; omega
                have hb9 := minR_le (stpR wd.1 (lx.1 (lx.2.1 i + j)) ro2) wd.2 0 (Nat.zero_le _)
                have hb8 := stpR_le wd.1 (lx.1 (lx.2.1 i + j)) ro2 0
                have hb7 := rows_le wd.1 (TX lx i) j 0
                have hb6 := hro2 0 (Nat.zero_le _)
                refine nz_callW (va_runV (As := [.ref (a 2), .int (nI (lx.1 (lx.2.1 i + j)))]) (rest := []) ⟨hx, hb, hml, hown, hts⟩ (mX1_lengthenPrefix l D a cs tp wd lx ro2 rs (lx.1 (lx.2.1 i + j)) ha hW (hB4 _) hrb) (cwV 2 hts gX1_nearness_X1_lengthenPrefix rfl rfl rfl (by decide +kernel) ⟨Nat.le_of_ble_eq_true rfl, Nat.le_of_ble_eq_true rfl⟩) (nz_preV (ci := 1) (q0 := 4) hK hP rfl rfl) rfl rfl hl.1 rfl (lv_room (Nat.le_of_ble_eq_true rfl)) dX1_nearness_84 ⟨Nat.zero_le _, Nat.zero_le _⟩) hS (fun _ h => h) (fun H locs hP _ _ hS => ?_)
                refine lv_istore (lv' := [(6, .int (nI (minR (stpR wd.1 (lx.1 (lx.2.1 i + j)) ro2) wd.2))), (0, .ref (a 4)), (1, .ref (a 2)), (2, .ref (a 3)), (3, .int (nI (i))), (5, .int (nI (min (minR (fun x => rowsF wd.1 (TX lx i) x wd.2) j) (d + 1)))), (7, .int (nI (lx.2.1 (i + 1)))), (8, .int (nI (lx.2.1 i + j)))]) hx hb dX1_nearness_87 hl (by decide) rfl (fun ls hl => ?_)
                have e9 : mixR (stpR wd.1 (lx.1 (lx.2.1 i + j)) ro2) ro2 (wd.2 + 1) wd.2 = rowsF wd.1 (TX lx i) (j + 1) wd.2 := by rw [mixR_lt (Nat.lt_succ_self _)]; exact hst _ (Nat.le_refl _)
                have hb5 := rows_le wd.1 (TX lx i) (j + 1) wd.2
                refine lv_iload hx hb dX1_nearness_89 (lv_at hl 5 rfl) ?_
                refine lv_aload_n hx hb dX1_nearness_91 rfl (lv_at hl 1 rfl) ?_
                refine va_get (D := D) (ci := 1) (v := .ref (a 11)) (C := RX1) (T := TX1) (N := 1) hx hb hts hinX1 hown hK hP 4 rfl rfl 0 (by decide) (hts (.fieldLink RX1 9 "TypoSuggester$Measure" "row" "[I") (by decide +kernel)) (fun _ h9 => h9) rfl dX1_nearness_92 ?_
                refine lv_aload_n hx hb dX1_nearness_95 rfl (lv_at hl 2 rfl) ?_
                refine va_get (D := D) (ci := 4) (v := .int (nI (wd.2))) (C := RX4) (T := TX4) (N := 2) hx hb hts hinX4 hown hK hP 2 rfl rfl 1 (by decide) (hts (.fieldLink RX1 15 "TypoSuggester$Word" "length" "I") (by decide +kernel)) (fun _ h9 => h9) rfl dX1_nearness_96 ?_
                refine nz_iald (f := mixR (stpR wd.1 (lx.1 (lx.2.1 i + j)) ro2) ro2 (wd.2 + 1)) (k := wd.2) hx hb hK hP 11 1 rfl rfl (by omega) (by decide) dX1_nearness_99 ?_
                refine nz_mmin (a := min (minR (fun x => rowsF wd.1 (TX lx i) x wd.2) j) (d + 1)) (b := (mixR (stpR wd.1 (lx.1 (lx.2.1 i + j)) ro2) ro2 (wd.2 + 1)) wd.2) hx hb (hml.trans hl.1.symm) hown (hts (.methodLink RX1 21 Lib.Math.min.name) (by decide +kernel)) (hts (.static Lib.Math.min.name) (by decide +kernel)) (hts (.initialized "java/lang/Math") (by decide +kernel)) (hts (.code Lib.Math.min.name Lib.Math.min.code 2 (some .int)) (by decide +kernel)) (Nat.le_of_ble_eq_true rfl) (Nat.le_of_ble_eq_true rfl) (Nat.zero_le _) (Nat.zero_le _) (by omega) (by omega) dX1_nearness_100 ?_
                refine lv_istore (lv' := [(5, .int (nI (min (min (minR (fun x => rowsF wd.1 (TX lx i) x wd.2) j) (d + 1)) ((mixR (stpR wd.1 (lx.1 (lx.2.1 i + j)) ro2) ro2 (wd.2 + 1)) wd.2)))), (6, .int (nI (minR (stpR wd.1 (lx.1 (lx.2.1 i + j)) ro2) wd.2))), (0, .ref (a 4)), (1, .ref (a 2)), (2, .ref (a 3)), (3, .int (nI (i))), (7, .int (nI (lx.2.1 (i + 1)))), (8, .int (nI (lx.2.1 i + j)))]) hx hb dX1_nearness_103 hl (by decide) rfl (fun ls hl => ?_)
                have e_2 : (nI (min (min (minR (fun x => rowsF wd.1 (TX lx i) x wd.2) j) (d + 1)) ((mixR (stpR wd.1 (lx.1 (lx.2.1 i + j)) ro2) ro2 (wd.2 + 1)) wd.2))) = (nI (min (minR (fun x => rowsF wd.1 (TX lx i) x wd.2) (j + 1)) (d + 1))) := by rw [e9]; show nI _ = nI (min (min (minR (fun x => rowsF wd.1 (TX lx i) x wd.2) j) (rowsF wd.1 (TX lx i) (j + 1) wd.2)) (d + 1)); congr 1; omega
                have hl : lv_has ls 9 [(5, .int (nI (min (minR (fun x => rowsF wd.1 (TX lx i) x wd.2) (j + 1)) (d + 1)))), (6, .int (nI (minR (stpR wd.1 (lx.1 (lx.2.1 i + j)) ro2) wd.2))), (0, .ref (a 4)), (1, .ref (a 2)), (2, .ref (a 3)), (3, .int (nI (i))), (7, .int (nI (lx.2.1 (i + 1)))), (8, .int (nI (lx.2.1 i + j)))] := by rw [← e_2]; exact hl
                refine lv_iinc (v := nI (lx.2.1 i + j + 1)) (lv' := [(8, .int (nI (lx.2.1 i + j + 1))), (5, .int (nI (min (minR (fun x => rowsF wd.1 (TX lx i) x wd.2) (j + 1)) (d + 1)))), (6, .int (nI (minR (stpR wd.1 (lx.1 (lx.2.1 i + j)) ro2) wd.2))), (0, .ref (a 4)), (1, .ref (a 2)), (2, .ref (a 3)), (3, .int (nI (i))), (7, .int (nI (lx.2.1 (i + 1))))]) hx hb dX1_nearness_105 hl (k := 7) rfl (nz_inc1 _) (by decide) rfl (fun ls hl => ?_)
                refine lv_goto (tgt := 61) hx hb dX1_nearness_108 (by decide) ?_
                exact ih (j + 1) (minR (stpR wd.1 (lx.1 (lx.2.1 i + j)) ro2) wd.2) (mixR (stpR wd.1 (lx.1 (lx.2.1 i + j)) ro2) ro2 (wd.2 + 1)) (by omega) (fun k hk => by rw [← hst k hk]; exact minR_le _ _ _ hk) (fun k hk => by rw [mixR_lt (by omega)]; exact hst k hk) (by omega) (by omega) H locs hP hS ls (lv_sub hl [3, 4, 5, 6, 1, 2, 7, 0] rfl)
        exact loop2 (lx.2.1 (i + 1) - lx.2.1 i - 0 + 1) 0 0 (mixR (fun x => x) ro k) (Nat.zero_le _) (fun _ _ => Nat.zero_le _) (fun x hx => mixR_lt (by omega)) (Nat.zero_le _) (Nat.lt_succ_self _) H locs hP hS ls (lv_sub hl [4, 5, 6, 7, 3, 2, 1, 0] rfl)
      · refine lv_aload_n hx hb dX1_nearness_12 rfl (lv_at hl 0 rfl) ?_
        refine va_get (D := D) (ci := 1) (v := .ref (a 11)) (C := RX1) (T := TX1) (N := 1) hx hb hts hinX1 hown hK hP 4 rfl rfl 0 (by decide) (hts (.fieldLink RX1 9 "TypoSuggester$Measure" "row" "[I") (by decide +kernel)) (fun _ h9 => h9) rfl dX1_nearness_13 ?_
        refine lv_iload hx hb dX1_nearness_16 (lv_at hl 5 rfl) ?_
        refine lv_iload hx hb dX1_nearness_18 (lv_at hl 5 rfl) ?_
        refine nz_iast (f := mixR (fun x => x) ro k) (k := k) (v := k) (ws' := wX a cs tp wd lx (va_up (mixR (fun x => x) ro k) k k) rs) hx hb hK hP (wX_D ha) hS 11 1 rfl rfl (by omega) (by decide) dX1_nearness_20 rfl (fun H locs hP hS => ?_)
        have e_3 : va_up (mixR (fun x => x) ro k) k k = mixR (fun x => x) ro (k + 1) := mixR_step _ _ _
        rw [e_3] at hP
        refine lv_iinc (v := nI (k + 1)) (lv' := [(5, .int (nI (k + 1))), (0, .ref (a 4)), (1, .ref (a 2)), (2, .ref (a 3)), (3, .int (nI (i))), (4, .int (nI (d)))]) hx hb dX1_nearness_21 hl (k := 5) rfl (nz_inc1 _) (by decide) rfl (fun ls hl => ?_)
        refine lv_goto (tgt := 3) hx hb dX1_nearness_24 (by decide) ?_
        exact ih (k + 1) (by omega) (by omega) H locs hP hS ls (lv_sub hl [1, 2, 3, 4, 5, 0] rfl)
  exact loop (wd.2 + 1 - 0 + 1) 0 (Nat.zero_le _) (Nat.lt_succ_self _) H locs hP hS ls (lv_sub hl [1, 2, 3, 4, 5, 0] rfl)
end
section
/-! The Result. -/
def shfR (f : Nat → Nat) (k n : Nat) : Nat → Nat := fun x => if k < x ∧ x < n then f (x - 1) else f x
def rsIns (rs : (Nat → Nat) × (Nat → Nat) × (Nat → Nat) × (Nat → Nat) × (Nat → Nat) × Nat) (q pl wt nr mo : Nat) : (Nat → Nat) × (Nat → Nat) × (Nat → Nat) × (Nat → Nat) × (Nat → Nat) × Nat :=
  (va_up (shfR rs.1 q (min (rs.2.2.2.2.2 + 1) mo)) q pl, va_up (shfR rs.2.1 q (min (rs.2.2.2.2.2 + 1) mo)) q wt, va_up (shfR rs.2.2.1 q (min (rs.2.2.2.2.2 + 1) mo)) q nr, rs.2.2.2.1, rs.2.2.2.2.1, min (rs.2.2.2.2.2 + 1) mo)
def ltrF (lx : (Nat → Nat) × (Nat → Nat) × (Nat → Nat) × Nat) (pl old : Nat → Nat) : Nat → Nat → Nat
  | 0 => old
  | i + 1 => va_cpy lx.1 (ltrF lx pl old i) (lx.2.1 (pl i)) (i * 24) (lx.2.1 (pl i + 1) - lx.2.1 (pl i))
theorem shfR_0 (f : Nat → Nat) (n : Nat) : shfR f (n - 1) n = f := by
  funext x
  unfold shfR
  rw [if_neg (by omega)]
theorem shfR_le {f : Nat → Nat} {k n x : Nat} (h : x ≤ k) : shfR f k n x = f x := by
  unfold shfR
  rw [if_neg (by omega)]
theorem shfR_step {f : Nat → Nat} {k n : Nat} (h : 0 < k) (h2 : k < n) : va_up (shfR f k n) k (shfR f k n (k - 1)) = shfR f (k - 1) n := by
  funext j
  rw [shfR_le (by omega)]
  unfold va_up shfR
  by_cases e : j = k
  · rw [if_pos e, if_pos (by omega), e]
  · rw [if_neg e]
    by_cases q : k < j ∧ j < n
    · rw [if_pos q, if_pos (by omega)]
    · rw [if_neg q, if_neg (by omega)]
/-- what bounds the result's rows -/
def RsB (rs : (Nat → Nat) × (Nat → Nat) × (Nat → Nat) × (Nat → Nat) × (Nat → Nat) × Nat) : Prop := rs.2.2.2.2.2 ≤ 50 ∧ (∀ j, rs.2.1 j ≤ 1000000000000) ∧ (∀ j, rs.2.2.2.1 j ≤ 24)
abbrev rmX2_offer : Room := { frames := 1, cells := 0, slots := 0, locals := 23 }
set_option maxHeartbeats 4000000 in
set_option maxRecDepth 100000 in
theorem mX2_offer (l : Launch) (D : va_G) (a : Nat → Nat) (cs : Nat → ClassId) (tp : (Nat → Int32) × Nat) (wd : (Nat → Nat) × Nat) (lx : (Nat → Nat) × (Nat → Nat) × (Nat → Nat) × Nat) (ro : Nat → Nat) (rs : (Nat → Nat) × (Nat → Nat) × (Nat → Nat) × (Nat → Nat) × (Nat → Nat) × Nat) (pl : Nat) (wt : Nat) (nr : Nat) (mo : Nat) (q : Nat) (bb : Bool) (ha : wInj a) (hmo : mo ≤ 50) (hcm : rs.2.2.2.2.2 ≤ mo) (hwb : ∀ j, rs.2.1 j ≤ 1000000000000) (hwt : wt ≤ 1000000000000) (hq1 : q ≤ rs.2.2.2.2.2) (hq2 : ∀ i, q ≤ i → i < rs.2.2.2.2.2 → rs.2.1 i < wt) (hq3 : 0 < q → wt ≤ rs.2.1 (q - 1)) (hbb : bb = true ↔ q < mo) : Met l yX2_offer wsX2_offer rmX2_offer (wdP D vwCl (wX a cs tp wd lx ro rs) (tyX cs) [.ref (a 5), .int (nI (pl)), .long (lN (wt)), .int (nI (nr)), .int (nI (mo))]) (wrQ none (fun H => va_P D vwCl (wX a cs tp wd lx ro (bif bb then rsIns rs q pl wt nr mo else rs)) H) (inX a)) 0 0 (inX a) := by
  refine nz_metWv (by decide) rfl (Nat.le_of_ble_eq_true rfl) ?_
  intro p e s m args below meth c Q hx hb hml hts hown hP hK hret ls hl
  have hl : lv_has ls 8 [(0, .ref (a 5)), (1, .int (nI (pl))), (2, .long (lN (wt))), (4, .int (nI (nr))), (5, .int (nI (mo)))] := hl
  have hown : s.vm.findClass RX2 = some m.cls := hown
  have hinX2 : ∀ w ∈ u_ws RX2 TX2 6, w ∈ wsX2_offer := by decide +kernel
  have hS : va_S (inX a) s.heap s.heap [] := va_S.rf
  obtain ⟨H, hH⟩ : ∃ H, H = s.heap := ⟨_, rfl⟩
  obtain ⟨locs, hlocs⟩ : ∃ locs : List Loc, locs = [] := ⟨_, rfl⟩
  have hP : va_P D vwCl (wX a cs tp wd lx ro rs) H := hH ▸ hP
  have hS : va_S (inX a) s.heap H locs := by rw [hH, hlocs]; exact va_S.rf
  suffices hgo : W p l e rmX2_offer s m args below meth c H locs 0 0 Q (F0 m 0 ls []) by rw [hH, hlocs] at hgo; exact hgo
  clear hH hlocs
  refine lv_aload_n hx hb dX2_offer_0 rfl (lv_at hl 0 rfl) ?_
  refine va_get (D := D) (ci := 2) (v := .int (nI (rs.2.2.2.2.2))) (C := RX2) (T := TX2) (N := 6) hx hb hts hinX2 hown hK hP 5 rfl rfl 5 (by decide) (hts (.fieldLink RX2 29 "TypoSuggester$Result" "count" "I") (by decide +kernel)) (fun _ h9 => h9) rfl dX2_offer_1 ?_
  refine lv_istore (lv' := [(6, .int (nI (rs.2.2.2.2.2))), (0, .ref (a 5)), (1, .int (nI (pl))), (2, .long (lN (wt))), (4, .int (nI (nr))), (5, .int (nI (mo)))]) hx hb dX2_offer_4 hl (by decide) rfl (fun ls hl => ?_)
  have join : ∀ (H : Heap) (locs : List Loc), va_P D vwCl (wX a cs tp wd lx ro rs) H → va_S (inX a) s.heap H locs → ∀ ls : Array Slot, lv_has ls 8 [(0, .ref (a 5)), (1, .int (nI (pl))), (2, .long (lN (wt))), (4, .int (nI (nr))), (5, .int (nI (mo))), (6, .int (nI (q)))] → W p l e rmX2_offer s m args below meth c H locs 0 0 Q (F0 m 31 ls []) := by
    intro  H locs hP hS ls hl
    refine lv_iload hx hb dX2_offer_31 (lv_at hl 5 rfl) ?_
    refine lv_iload hx hb dX2_offer_33 (lv_at hl 4 rfl) ?_
    refine nz_clt (a := q) (b := mo) (tgt := 39) hx hb dX2_offer_35 (by decide) (by omega) (by omega) (fun c_35 => ?_) (fun c_35 => ?_)
    · refine lv_aload_n hx hb dX2_offer_39 rfl (lv_at hl 0 rfl) ?_
      refine lv_aload_n hx hb dX2_offer_40 rfl (lv_at hl 0 rfl) ?_
      refine va_get (D := D) (ci := 2) (v := .int (nI (rs.2.2.2.2.2))) (C := RX2) (T := TX2) (N := 6) hx hb hts hinX2 hown hK hP 5 rfl rfl 5 (by decide) (hts (.fieldLink RX2 29 "TypoSuggester$Result" "count" "I") (by decide +kernel)) (fun _ h9 => h9) rfl dX2_offer_41 ?_
      refine lv_iconst (v := nI 1) hx hb dX2_offer_44 (by decide +kernel) ?_
      refine nz_iadd (a := rs.2.2.2.2.2) (b := 1) hx hb dX2_offer_45 ?_
      refine lv_iload hx hb dX2_offer_46 (lv_at hl 4 rfl) ?_
      refine nz_mmin (a := rs.2.2.2.2.2 + 1) (b := mo) hx hb (hml.trans hl.1.symm) hown (hts (.methodLink RX2 33 Lib.Math.min.name) (by decide +kernel)) (hts (.static Lib.Math.min.name) (by decide +kernel)) (hts (.initialized "java/lang/Math") (by decide +kernel)) (hts (.code Lib.Math.min.name Lib.Math.min.code 2 (some .int)) (by decide +kernel)) (Nat.le_of_ble_eq_true rfl) (Nat.le_of_ble_eq_true rfl) (Nat.zero_le _) (Nat.zero_le _) (by omega) (by omega) dX2_offer_48 ?_
      refine nz_put (D := D) (ci := 2) (v := .int (nI (min (rs.2.2.2.2.2 + 1) mo))) (ty := .int) (ws' := wX a cs tp wd lx ro (rs.1, rs.2.1, rs.2.2.1, rs.2.2.2.1, rs.2.2.2.2.1, min (rs.2.2.2.2.2 + 1) mo)) (C := RX2) (T := TX2) (N := 6) hx hb hts hinX2 tyX2 tyX2_ok nmX2 hown hK hP (wX_D ha) hS 5 rfl rfl 5 (by decide) (hts (.fieldLink RX2 29 "TypoSuggester$Result" "count" "I") (by decide +kernel)) (fun _ h9 => h9) rfl (by decide +kernel) rfl rfl (Nat.le_of_ble_eq_true rfl) dX2_offer_51 rfl (fun H locs hP hS => ?_)
      refine lv_aload_n hx hb dX2_offer_54 rfl (lv_at hl 0 rfl) ?_
      refine va_get (D := D) (ci := 2) (v := .int (nI (min (rs.2.2.2.2.2 + 1) mo))) (C := RX2) (T := TX2) (N := 6) hx hb hts hinX2 hown hK hP 5 rfl rfl 5 (by decide) (hts (.fieldLink RX2 29 "TypoSuggester$Result" "count" "I") (by decide +kernel)) (fun _ h9 => h9) rfl dX2_offer_55 ?_
      refine lv_iconst (v := nI 1) hx hb dX2_offer_58 (by decide +kernel) ?_
      refine nz_isub (a := min (rs.2.2.2.2.2 + 1) mo) (b := 1) hx hb dX2_offer_59 (by omega) ?_
      refine lv_istore (lv' := [(7, .int (nI ((min (rs.2.2.2.2.2 + 1) mo) - 1))), (0, .ref (a 5)), (1, .int (nI (pl))), (2, .long (lN (wt))), (4, .int (nI (nr))), (5, .int (nI (mo))), (6, .int (nI (q)))]) hx hb dX2_offer_60 hl (by decide) rfl (fun ls hl => ?_)
      have hP : va_P D vwCl (wX a cs tp wd lx ro (shfR rs.1 (min (rs.2.2.2.2.2 + 1) mo - 1) (min (rs.2.2.2.2.2 + 1) mo), shfR rs.2.1 (min (rs.2.2.2.2.2 + 1) mo - 1) (min (rs.2.2.2.2.2 + 1) mo), shfR rs.2.2.1 (min (rs.2.2.2.2.2 + 1) mo - 1) (min (rs.2.2.2.2.2 + 1) mo), rs.2.2.2.1, rs.2.2.2.2.1, min (rs.2.2.2.2.2 + 1) mo)) H := by rw [shfR_0, shfR_0, shfR_0]; exact hP
      have loop3 : ∀ (fuel : Nat) (k : Nat), (q ≤ k) → (k ≤ min (rs.2.2.2.2.2 + 1) mo - 1) → k < fuel → ∀ (H : Heap) (locs : List Loc), va_P D vwCl (wX a cs tp wd lx ro (shfR rs.1 k (min (rs.2.2.2.2.2 + 1) mo), shfR rs.2.1 k (min (rs.2.2.2.2.2 + 1) mo), shfR rs.2.2.1 k (min (rs.2.2.2.2.2 + 1) mo), rs.2.2.2.1, rs.2.2.2.2.1, min (rs.2.2.2.2.2 + 1) mo)) H → va_S (inX a) s.heap H locs → ∀ ls : Array Slot, lv_has ls 8 [(0, .ref (a 5)), (1, .int (nI (pl))), (2, .long (lN (wt))), (4, .int (nI (nr))), (5, .int (nI (mo))), (6, .int (nI (q))), (7, .int (nI (k)))] → W p l e rmX2_offer s m args below meth c H locs 0 0 Q (F0 m 62 ls []) := by
        intro fuel
        induction fuel with
        | zero => intro k hk1 hk2 hf; exact absurd hf (Nat.not_lt_zero _)
        | succ fuel ih =>
          intro k hk1 hk2 hf H locs hP hS ls hl
          refine lv_iload hx hb dX2_offer_62 (lv_at hl 6 rfl) ?_
          refine lv_iload hx hb dX2_offer_64 (lv_at hl 5 rfl) ?_
          refine nz_cle (a := k) (b := q) (tgt := 123) hx hb dX2_offer_66 (by decide) (by omega) (by omega) (fun c_66 => ?_) (fun c_66 => ?_)
          · rw [show k = q by omega] at hP
            refine lv_aload_n hx hb dX2_offer_123 rfl (lv_at hl 0 rfl) ?_
            refine va_get (D := D) (ci := 2) (v := .ref (a 12)) (C := RX2) (T := TX2) (N := 6) hx hb hts hinX2 hown hK hP 5 rfl rfl 0 (by decide) (hts (.fieldLink RX2 9 "TypoSuggester$Result" "places" "[I") (by decide +kernel)) (fun _ h9 => h9) rfl dX2_offer_124 ?_
            refine lv_iload hx hb dX2_offer_127 (lv_at hl 5 rfl) ?_
            refine lv_iload_n hx hb dX2_offer_129 rfl (lv_at hl 1 rfl) ?_
            refine nz_iast (f := shfR rs.1 q (min (rs.2.2.2.2.2 + 1) mo)) (k := q) (v := pl) (ws' := wX a cs tp wd lx ro (va_up (shfR rs.1 q (min (rs.2.2.2.2.2 + 1) mo)) q pl, shfR rs.2.1 q (min (rs.2.2.2.2.2 + 1) mo), shfR rs.2.2.1 q (min (rs.2.2.2.2.2 + 1) mo), rs.2.2.2.1, rs.2.2.2.2.1, min (rs.2.2.2.2.2 + 1) mo)) hx hb hK hP (wX_D ha) hS 12 1 rfl rfl (by omega) (by decide) dX2_offer_130 rfl (fun H locs hP hS => ?_)
            refine lv_aload_n hx hb dX2_offer_131 rfl (lv_at hl 0 rfl) ?_
            refine va_get (D := D) (ci := 2) (v := .ref (a 13)) (C := RX2) (T := TX2) (N := 6) hx hb hts hinX2 hown hK hP 5 rfl rfl 1 (by decide) (hts (.fieldLink RX2 15 "TypoSuggester$Result" "weights" "[J") (by decide +kernel)) (fun _ h9 => h9) rfl dX2_offer_132 ?_
            refine lv_iload hx hb dX2_offer_135 (lv_at hl 5 rfl) ?_
            refine lv_lload_n hx hb dX2_offer_137 rfl (lv_at hl 2 rfl) ?_
            refine nz_last (f := shfR rs.2.1 q (min (rs.2.2.2.2.2 + 1) mo)) (k := q) (v := wt) (ws' := wX a cs tp wd lx ro (va_up (shfR rs.1 q (min (rs.2.2.2.2.2 + 1) mo)) q pl, va_up (shfR rs.2.1 q (min (rs.2.2.2.2.2 + 1) mo)) q wt, shfR rs.2.2.1 q (min (rs.2.2.2.2.2 + 1) mo), rs.2.2.2.1, rs.2.2.2.2.1, min (rs.2.2.2.2.2 + 1) mo)) hx hb hK hP (wX_D ha) hS 13 2 rfl rfl (by omega) (by decide) dX2_offer_138 rfl (fun H locs hP hS => ?_)
            refine lv_aload_n hx hb dX2_offer_139 rfl (lv_at hl 0 rfl) ?_
            refine va_get (D := D) (ci := 2) (v := .ref (a 14)) (C := RX2) (T := TX2) (N := 6) hx hb hts hinX2 hown hK hP 5 rfl rfl 2 (by decide) (hts (.fieldLink RX2 19 "TypoSuggester$Result" "nearnesses" "[I") (by decide +kernel)) (fun _ h9 => h9) rfl dX2_offer_140 ?_
            refine lv_iload hx hb dX2_offer_143 (lv_at hl 5 rfl) ?_
            refine lv_iload hx hb dX2_offer_145 (lv_at hl 3 rfl) ?_
            refine nz_iast (f := shfR rs.2.2.1 q (min (rs.2.2.2.2.2 + 1) mo)) (k := q) (v := nr) (ws' := wX a cs tp wd lx ro (va_up (shfR rs.1 q (min (rs.2.2.2.2.2 + 1) mo)) q pl, va_up (shfR rs.2.1 q (min (rs.2.2.2.2.2 + 1) mo)) q wt, va_up (shfR rs.2.2.1 q (min (rs.2.2.2.2.2 + 1) mo)) q nr, rs.2.2.2.1, rs.2.2.2.2.1, min (rs.2.2.2.2.2 + 1) mo)) hx hb hK hP (wX_D ha) hS 14 1 rfl rfl (by omega) (by decide) dX2_offer_147 rfl (fun H locs hP hS => ?_)
            have hbv : bb = true := hbb.mpr (by omega)
            subst hbv
            exact hret 148 ls H locs dX2_offer_148 hP hS
          · refine lv_aload_n hx hb dX2_offer_69 rfl (lv_at hl 0 rfl) ?_
            refine va_get (D := D) (ci := 2) (v := .ref (a 12)) (C := RX2) (T := TX2) (N := 6) hx hb hts hinX2 hown hK hP 5 rfl rfl 0 (by decide) (hts (.fieldLink RX2 9 "TypoSuggester$Result" "places" "[I") (by decide +kernel)) (fun _ h9 => h9) rfl dX2_offer_70 ?_
            refine lv_iload hx hb dX2_offer_73 (lv_at hl 6 rfl) ?_
            refine lv_aload_n hx hb dX2_offer_75 rfl (lv_at hl 0 rfl) ?_
            refine va_get (D := D) (ci := 2) (v := .ref (a 12)) (C := RX2) (T := TX2) (N := 6) hx hb hts hinX2 hown hK hP 5 rfl rfl 0 (by decide) (hts (.fieldLink RX2 9 "TypoSuggester$Result" "places" "[I") (by decide +kernel)) (fun _ h9 => h9) rfl dX2_offer_76 ?_
            refine lv_iload hx hb dX2_offer_79 (lv_at hl 6 rfl) ?_
            refine lv_iconst (v := nI 1) hx hb dX2_offer_81 (by decide +kernel) ?_
            refine nz_isub (a := k) (b := 1) hx hb dX2_offer_82 (by omega) ?_
            refine nz_iald (f := shfR rs.1 k (min (rs.2.2.2.2.2 + 1) mo)) (k := k - 1) hx hb hK hP 12 1 rfl rfl (by omega) (by decide) dX2_offer_83 ?_
            refine nz_iast (f := shfR rs.1 k (min (rs.2.2.2.2.2 + 1) mo)) (k := k) (v := (shfR rs.1 k (min (rs.2.2.2.2.2 + 1) mo)) (k - 1)) (ws' := wX a cs tp wd lx ro (va_up (shfR rs.1 k (min (rs.2.2.2.2.2 + 1) mo)) k ((shfR rs.1 k (min (rs.2.2.2.2.2 + 1) mo)) (k - 1)), shfR rs.2.1 k (min (rs.2.2.2.2.2 + 1) mo), shfR rs.2.2.1 k (min (rs.2.2.2.2.2 + 1) mo), rs.2.2.2.1, rs.2.2.2.2.1, min (rs.2.2.2.2.2 + 1) mo)) hx hb hK hP (wX_D ha) hS 12 1 rfl rfl (by omega) (by decide) dX2_offer_84 rfl (fun H locs hP hS => ?_)
            have e_1 : va_up (shfR rs.1 k (min (rs.2.2.2.2.2 + 1) mo)) k ((shfR rs.1 k (min (rs.2.2.2.2.2 + 1) mo)) (k - 1)) = shfR rs.1 (k - 1) (min (rs.2.2.2.2.2 + 1) mo) := shfR_step (by omega) (by omega)
            rw [e_1] at hP
            refine lv_aload_n hx hb dX2_offer_85 rfl (lv_at hl 0 rfl) ?_
            refine va_get (D := D) (ci := 2) (v := .ref (a 13)) (C := RX2) (T := TX2) (N := 6) hx hb hts hinX2 hown hK hP 5 rfl rfl 1 (by decide) (hts (.fieldLink RX2 15 "TypoSuggester$Result" "weights" "[J") (by decide +kernel)) (fun _ h9 => h9) rfl dX2_offer_86 ?_
            refine lv_iload hx hb dX2_offer_89 (lv_at hl 6 rfl) ?_
            refine lv_aload_n hx hb dX2_offer_91 rfl (lv_at hl 0 rfl) ?_
            refine va_get (D := D) (ci := 2) (v := .ref (a 13)) (C := RX2) (T := TX2) (N := 6) hx hb hts hinX2 hown hK hP 5 rfl rfl 1 (by decide) (hts (.fieldLink RX2 15 "TypoSuggester$Result" "weights" "[J") (by decide +kernel)) (fun _ h9 => h9) rfl dX2_offer_92 ?_
            refine lv_iload hx hb dX2_offer_95 (lv_at hl 6 rfl) ?_
            refine lv_iconst (v := nI 1) hx hb dX2_offer_97 (by decide +kernel) ?_
            refine nz_isub (a := k) (b := 1) hx hb dX2_offer_98 (by omega) ?_
            refine nz_lald (f := shfR rs.2.1 k (min (rs.2.2.2.2.2 + 1) mo)) (k := k - 1) hx hb hK hP 13 2 rfl rfl (by omega) (by decide) dX2_offer_99 ?_
            refine nz_last (f := shfR rs.2.1 k (min (rs.2.2.2.2.2 + 1) mo)) (k := k) (v := (shfR rs.2.1 k (min (rs.2.2.2.2.2 + 1) mo)) (k - 1)) (ws' := wX a cs tp wd lx ro (shfR rs.1 (k - 1) (min (rs.2.2.2.2.2 + 1) mo), va_up (shfR rs.2.1 k (min (rs.2.2.2.2.2 + 1) mo)) k ((shfR rs.2.1 k (min (rs.2.2.2.2.2 + 1) mo)) (k - 1)), shfR rs.2.2.1 k (min (rs.2.2.2.2.2 + 1) mo), rs.2.2.2.1, rs.2.2.2.2.1, min (rs.2.2.2.2.2 + 1) mo)) hx hb hK hP (wX_D ha) hS 13 2 rfl rfl (by omega) (by decide) dX2_offer_100 rfl (fun H locs hP hS => ?_)
            have e_2 : va_up (shfR rs.2.1 k (min (rs.2.2.2.2.2 + 1) mo)) k ((shfR rs.2.1 k (min (rs.2.2.2.2.2 + 1) mo)) (k - 1)) = shfR rs.2.1 (k - 1) (min (rs.2.2.2.2.2 + 1) mo) := shfR_step (by omega) (by omega)
            rw [e_2] at hP
            refine lv_aload_n hx hb dX2_offer_101 rfl (lv_at hl 0 rfl) ?_
            refine va_get (D := D) (ci := 2) (v := .ref (a 14)) (C := RX2) (T := TX2) (N := 6) hx hb hts hinX2 hown hK hP 5 rfl rfl 2 (by decide) (hts (.fieldLink RX2 19 "TypoSuggester$Result" "nearnesses" "[I") (by decide +kernel)) (fun _ h9 => h9) rfl dX2_offer_102 ?_
            refine lv_iload hx hb dX2_offer_105 (lv_at hl 6 rfl) ?_
            refine lv_aload_n hx hb dX2_offer_107 rfl (lv_at hl 0 rfl) ?_
            refine va_get (D := D) (ci := 2) (v := .ref (a 14)) (C := RX2) (T := TX2) (N := 6) hx hb hts hinX2 hown hK hP 5 rfl rfl 2 (by decide) (hts (.fieldLink RX2 19 "TypoSuggester$Result" "nearnesses" "[I") (by decide +kernel)) (fun _ h9 => h9) rfl dX2_offer_108 ?_
            refine lv_iload hx hb dX2_offer_111 (lv_at hl 6 rfl) ?_
            refine lv_iconst (v := nI 1) hx hb dX2_offer_113 (by decide +kernel) ?_
            refine nz_isub (a := k) (b := 1) hx hb dX2_offer_114 (by omega) ?_
            refine nz_iald (f := shfR rs.2.2.1 k (min (rs.2.2.2.2.2 + 1) mo)) (k := k - 1) hx hb hK hP 14 1 rfl rfl (by omega) (by decide) dX2_offer_115 ?_
            refine nz_iast (f := shfR rs.2.2.1 k (min (rs.2.2.2.2.2 + 1) mo)) (k := k) (v := (shfR rs.2.2.1 k (min (rs.2.2.2.2.2 + 1) mo)) (k - 1)) (ws' := wX a cs tp wd lx ro (shfR rs.1 (k - 1) (min (rs.2.2.2.2.2 + 1) mo), shfR rs.2.1 (k - 1) (min (rs.2.2.2.2.2 + 1) mo), va_up (shfR rs.2.2.1 k (min (rs.2.2.2.2.2 + 1) mo)) k ((shfR rs.2.2.1 k (min (rs.2.2.2.2.2 + 1) mo)) (k - 1)), rs.2.2.2.1, rs.2.2.2.2.1, min (rs.2.2.2.2.2 + 1) mo)) hx hb hK hP (wX_D ha) hS 14 1 rfl rfl (by omega) (by decide) dX2_offer_116 rfl (fun H locs hP hS => ?_)
            have e_3 : va_up (shfR rs.2.2.1 k (min (rs.2.2.2.2.2 + 1) mo)) k ((shfR rs.2.2.1 k (min (rs.2.2.2.2.2 + 1) mo)) (k - 1)) = shfR rs.2.2.1 (k - 1) (min (rs.2.2.2.2.2 + 1) mo) := shfR_step (by omega) (by omega)
            rw [e_3] at hP
            refine lv_iinc (v := nI (k - 1)) (lv' := [(7, .int (nI (k - 1))), (0, .ref (a 5)), (1, .int (nI (pl))), (2, .long (lN (wt))), (4, .int (nI (nr))), (5, .int (nI (mo))), (6, .int (nI (q)))]) hx hb dX2_offer_117 hl (k := 6) rfl (nz_incm (by omega)) (by decide) rfl (fun ls hl => ?_)
            refine lv_goto (tgt := 62) hx hb dX2_offer_120 (by decide) ?_
            exact ih (k - 1) (by omega) (by omega) (by omega) H locs hP hS ls (lv_sub hl [1, 2, 3, 4, 5, 6, 0] rfl)
      exact loop3 ((min (rs.2.2.2.2.2 + 1) mo - 1) + 1) (min (rs.2.2.2.2.2 + 1) mo - 1) (by omega) (Nat.le_refl _) (Nat.lt_succ_self _) H locs hP hS ls (lv_sub hl [1, 2, 3, 4, 5, 6, 0] rfl)
    · have hbv : bb = false := by cases bb with | false => rfl | true => exact absurd (hbb.mp rfl) (by omega)
      subst hbv
      exact hret 38 ls H locs dX2_offer_38 hP hS
  have loop : ∀ (fuel : Nat) (k : Nat), (q ≤ k) → (k ≤ rs.2.2.2.2.2) → k < fuel → ∀ (H : Heap) (locs : List Loc), va_P D vwCl (wX a cs tp wd lx ro rs) H → va_S (inX a) s.heap H locs → ∀ ls : Array Slot, lv_has ls 8 [(0, .ref (a 5)), (1, .int (nI (pl))), (2, .long (lN (wt))), (4, .int (nI (nr))), (5, .int (nI (mo))), (6, .int (nI (k)))] → W p l e rmX2_offer s m args below meth c H locs 0 0 Q (F0 m 6 ls []) := by
    intro fuel
    induction fuel with
    | zero => intro k hk1 hk2 hf; exact absurd hf (Nat.not_lt_zero _)
    | succ fuel ih =>
      intro k hk1 hk2 hf H locs hP hS ls hl
      have hwb := hwb (k - 1)
      refine lv_iload hx hb dX2_offer_6 (lv_at hl 5 rfl) ?_
      refine nz_ifle (a := k) (tgt := 31) hx hb dX2_offer_8 (by decide) (by omega) (fun c_8 => ?_) (fun c_8 => ?_)
      · have hkq : k = q := by omega
        subst hkq
        exact join  H locs hP hS ls (lv_sub hl [0, 1, 2, 3, 4, 5] rfl)
      · refine lv_aload_n hx hb dX2_offer_11 rfl (lv_at hl 0 rfl) ?_
        refine va_get (D := D) (ci := 2) (v := .ref (a 13)) (C := RX2) (T := TX2) (N := 6) hx hb hts hinX2 hown hK hP 5 rfl rfl 1 (by decide) (hts (.fieldLink RX2 15 "TypoSuggester$Result" "weights" "[J") (by decide +kernel)) (fun _ h9 => h9) rfl dX2_offer_12 ?_
        refine lv_iload hx hb dX2_offer_15 (lv_at hl 5 rfl) ?_
        refine lv_iconst (v := nI 1) hx hb dX2_offer_17 (by decide +kernel) ?_
        refine nz_isub (a := k) (b := 1) hx hb dX2_offer_18 (by omega) ?_
        refine nz_lald (f := rs.2.1) (k := k - 1) hx hb hK hP 13 2 rfl rfl (by omega) (by decide) dX2_offer_19 ?_
        refine lv_lload_n hx hb dX2_offer_20 rfl (lv_at hl 2 rfl) ?_
        refine W.lcmp hx hb dX2_offer_21 ?_
        refine nz_lge (a := rs.2.1 (k - 1)) (b := wt) (tgt := 31) hx hb dX2_offer_22 (by decide) (by omega) (by omega) (fun c_22 => ?_) (fun c_22 => ?_)
        · have hkq : k = q := by
            rcases Nat.lt_or_ge q k with h | h
            · have := hq2 (k - 1) (by omega) (by omega)
              omega
            · omega
          subst hkq
          exact join  H locs hP hS ls (lv_sub hl [0, 1, 2, 3, 4, 5] rfl)
        · have hkq : q < k := by
            rcases Nat.lt_or_ge q k with h | h
            · exact h
            · have h2 : k = q := by omega
              have := hq3 (by omega)
              rw [h2] at c_22
              omega
          refine lv_iinc (v := nI (k - 1)) (lv' := [(6, .int (nI (k - 1))), (0, .ref (a 5)), (1, .int (nI (pl))), (2, .long (lN (wt))), (4, .int (nI (nr))), (5, .int (nI (mo)))]) hx hb dX2_offer_25 hl (k := 5) rfl (nz_incm (by omega)) (by decide) rfl (fun ls hl => ?_)
          refine lv_goto (tgt := 6) hx hb dX2_offer_28 (by decide) ?_
          exact ih (k - 1) (by omega) (by omega) (by omega) H locs hP hS ls (lv_sub hl [1, 2, 3, 4, 5, 0] rfl)
  exact loop (rs.2.2.2.2.2 + 1) rs.2.2.2.2.2 hq1 (Nat.le_refl _) (Nat.lt_succ_self _) H locs hP hS ls (lv_sub hl [1, 2, 3, 4, 5, 0] rfl)
abbrev rmX2_keepLetters : Room := { frames := 1, cells := 0, slots := 0, locals := 30 }
set_option maxHeartbeats 4000000 in
set_option maxRecDepth 100000 in
theorem mX2_keepLetters (l : Launch) (D : va_G) (a : Nat → Nat) (cs : Nat → ClassId) (tp : (Nat → Int32) × Nat) (wd : (Nat → Nat) × Nat) (lx : (Nat → Nat) × (Nat → Nat) × (Nat → Nat) × Nat) (ro : Nat → Nat) (rs : (Nat → Nat) × (Nat → Nat) × (Nat → Nat) × (Nat → Nat) × (Nat → Nat) × Nat) (ha : wInj a) (hB : LxB lx) (hcn : rs.2.2.2.2.2 ≤ 50) (hpl : ∀ i, i < rs.2.2.2.2.2 → rs.1 i < lx.2.2.2) (hz24 : ∀ i, i < lx.2.2.2 → lx.2.1 (i + 1) - lx.2.1 i ≤ 24) : Met l yX2_keepLetters wsX2_keepLetters rmX2_keepLetters (wdP D vwCl (wX a cs tp wd lx ro rs) (tyX cs) [.ref (a 5), .ref (a 3)]) (wrQ none (fun H => va_P D vwCl (wX a cs tp wd lx ro (rs.1, rs.2.1, rs.2.2.1, mixR (fun x => lx.2.1 (rs.1 x + 1) - lx.2.1 (rs.1 x)) rs.2.2.2.1 rs.2.2.2.2.2, ltrF lx rs.1 rs.2.2.2.2.1 rs.2.2.2.2.2, rs.2.2.2.2.2)) H) (inX a)) 0 0 (inX a) := by
  obtain ⟨hB1, hB2, hB3, hB4, hB5⟩ := id hB
  refine nz_metWv (by decide) rfl (Nat.le_of_ble_eq_true rfl) ?_
  intro p e s m args below meth c Q hx hb hml hts hown hP hK hret ls hl
  have hl : lv_has ls 4 [(0, .ref (a 5)), (1, .ref (a 3))] := hl
  have hown : s.vm.findClass RX2 = some m.cls := hown
  have hinX2 : ∀ w ∈ u_ws RX2 TX2 6, w ∈ wsX2_keepLetters := by decide +kernel
  have hinX0 : ∀ w ∈ u_ws RX0 TX0 4, w ∈ wsX2_keepLetters := by decide +kernel
  have hS : va_S (inX a) s.heap s.heap [] := va_S.rf
  obtain ⟨H, hH⟩ : ∃ H, H = s.heap := ⟨_, rfl⟩
  obtain ⟨locs, hlocs⟩ : ∃ locs : List Loc, locs = [] := ⟨_, rfl⟩
  have hP : va_P D vwCl (wX a cs tp wd lx ro rs) H := hH ▸ hP
  have hS : va_S (inX a) s.heap H locs := by rw [hH, hlocs]; exact va_S.rf
  suffices hgo : W p l e rmX2_keepLetters s m args below meth c H locs 0 0 Q (F0 m 0 ls []) by rw [hH, hlocs] at hgo; exact hgo
  clear hH hlocs
  refine lv_iconst (v := nI 0) hx hb dX2_keepLetters_0 (by decide +kernel) ?_
  refine lv_istore_n (lv' := [(2, .int (nI (0))), (0, .ref (a 5)), (1, .ref (a 3))]) hx hb dX2_keepLetters_1 rfl hl (by decide) rfl (fun ls hl => ?_)
  have hP : va_P D vwCl (wX a cs tp wd lx ro (rs.1, rs.2.1, rs.2.2.1, mixR (fun x => lx.2.1 (rs.1 x + 1) - lx.2.1 (rs.1 x)) rs.2.2.2.1 0, ltrF lx rs.1 rs.2.2.2.2.1 0, rs.2.2.2.2.2)) H := by rw [mixR_0]; exact hP
  have loop : ∀ (fuel : Nat) (k : Nat), (k ≤ rs.2.2.2.2.2) → rs.2.2.2.2.2 - k < fuel → ∀ (H : Heap) (locs : List Loc), va_P D vwCl (wX a cs tp wd lx ro (rs.1, rs.2.1, rs.2.2.1, mixR (fun x => lx.2.1 (rs.1 x + 1) - lx.2.1 (rs.1 x)) rs.2.2.2.1 k, ltrF lx rs.1 rs.2.2.2.2.1 k, rs.2.2.2.2.2)) H → va_S (inX a) s.heap H locs → ∀ ls : Array Slot, lv_has ls 4 [(0, .ref (a 5)), (1, .ref (a 3)), (2, .int (nI (k)))] → W p l e rmX2_keepLetters s m args below meth c H locs 0 0 Q (F0 m 2 ls []) := by
    intro fuel
    induction fuel with
    | zero => intro k hk hf; exact absurd hf (Nat.not_lt_zero _)
    | succ fuel ih =>
      intro k hk hf H locs hP hS ls hl
      refine lv_iload_n hx hb dX2_keepLetters_2 rfl (lv_at hl 2 rfl) ?_
      refine lv_aload_n hx hb dX2_keepLetters_3 rfl (lv_at hl 0 rfl) ?_
      refine va_get (D := D) (ci := 2) (v := .int (nI (rs.2.2.2.2.2))) (C := RX2) (T := TX2) (N := 6) hx hb hts hinX2 hown hK hP 5 rfl rfl 5 (by decide) (hts (.fieldLink RX2 29 "TypoSuggester$Result" "count" "I") (by decide +kernel)) (fun _ h9 => h9) rfl dX2_keepLetters_4 ?_
      refine nz_cge (a := k) (b := rs.2.2.2.2.2) (tgt := 61) hx hb dX2_keepLetters_7 (by decide) (by omega) (by omega) (fun c_7 => ?_) (fun c_7 => ?_)
      · rw [show k = rs.2.2.2.2.2 by omega] at hP
        exact hret 61 ls H locs dX2_keepLetters_61 hP hS
      · have hp1 := hpl k c_7
        have hp2 := hz24 _ hp1
        have hp3 := hB3 (rs.1 k + 1)
        have hp4 := hB2 _ hp1
        refine lv_aload_n hx hb dX2_keepLetters_10 rfl (lv_at hl 0 rfl) ?_
        refine va_get (D := D) (ci := 2) (v := .ref (a 12)) (C := RX2) (T := TX2) (N := 6) hx hb hts hinX2 hown hK hP 5 rfl rfl 0 (by decide) (hts (.fieldLink RX2 9 "TypoSuggester$Result" "places" "[I") (by decide +kernel)) (fun _ h9 => h9) rfl dX2_keepLetters_11 ?_
        refine lv_iload_n hx hb dX2_keepLetters_14 rfl (lv_at hl 2 rfl) ?_
        refine nz_iald (f := rs.1) (k := k) hx hb hK hP 12 1 rfl rfl (by omega) (by decide) dX2_keepLetters_15 ?_
        refine lv_istore_n (lv' := [(3, .int (nI (rs.1 k))), (0, .ref (a 5)), (1, .ref (a 3)), (2, .int (nI (k)))]) hx hb dX2_keepLetters_16 rfl hl (by decide) rfl (fun ls hl => ?_)
        refine lv_aload_n hx hb dX2_keepLetters_17 rfl (lv_at hl 1 rfl) ?_
        refine va_get (D := D) (ci := 2) (v := .ref (a 15)) (C := RX2) (T := TX2) (N := 6) hx hb hts hinX2 hown hK hP 5 rfl rfl 3 (by decide) (hts (.fieldLink RX2 22 "TypoSuggester$Result" "lengths" "[I") (by decide +kernel)) (fun _ h9 => h9) rfl dX2_keepLetters_18 ?_
        refine lv_iload_n hx hb dX2_keepLetters_21 rfl (lv_at hl 3 rfl) ?_
        refine lv_aload_n hx hb dX2_keepLetters_22 rfl (lv_at hl 2 rfl) ?_
        refine lv_iload_n hx hb dX2_keepLetters_23 rfl (lv_at hl 0 rfl) ?_
        refine nz_callR (va_runV (As := [.int (nI (rs.1 k))]) (rest := [.int (nI (k)), .ref (a 15)]) ⟨hx, hb, hml, hown, hts⟩ (mX0_lengthOf l D a cs tp wd lx ro (rs.1, rs.2.1, rs.2.2.1, mixR (fun x => lx.2.1 (rs.1 x + 1) - lx.2.1 (rs.1 x)) rs.2.2.2.1 k, ltrF lx rs.1 rs.2.2.2.2.1 k, rs.2.2.2.2.2) (rs.1 k) hB (hpl k c_7)) (cwV 1 hts gX2_keepLetters_X0_lengthOf rfl rfl rfl (by decide +kernel) ⟨Nat.le_of_ble_eq_true rfl, Nat.le_of_ble_eq_true rfl⟩) (nz_preV (ci := 0) (q0 := 3) hK hP rfl rfl) rfl rfl hl.1 rfl (lv_room (Nat.le_of_ble_eq_true rfl)) dX2_keepLetters_24 ⟨Nat.zero_le _, Nat.zero_le _⟩) ?_
        refine nz_iast (f := mixR (fun x => lx.2.1 (rs.1 x + 1) - lx.2.1 (rs.1 x)) rs.2.2.2.1 k) (k := k) (v := lx.2.1 ((rs.1 k) + 1) - lx.2.1 (rs.1 k)) (ws' := wX a cs tp wd lx ro (rs.1, rs.2.1, rs.2.2.1, va_up (mixR (fun x => lx.2.1 (rs.1 x + 1) - lx.2.1 (rs.1 x)) rs.2.2.2.1 k) k (lx.2.1 ((rs.1 k) + 1) - lx.2.1 (rs.1 k)), ltrF lx rs.1 rs.2.2.2.2.1 k, rs.2.2.2.2.2)) hx hb hK hP (wX_D ha) hS 15 1 rfl rfl (by omega) (by decide) dX2_keepLetters_27 rfl (fun H locs hP hS => ?_)
        have e_1 : va_up (mixR (fun x => lx.2.1 (rs.1 x + 1) - lx.2.1 (rs.1 x)) rs.2.2.2.1 k) k (lx.2.1 ((rs.1 k) + 1) - lx.2.1 (rs.1 k)) = mixR (fun x => lx.2.1 (rs.1 x + 1) - lx.2.1 (rs.1 x)) rs.2.2.2.1 (k + 1) := mixR_step _ _ _
        rw [e_1] at hP
        refine lv_aload_n hx hb dX2_keepLetters_28 rfl (lv_at hl 2 rfl) ?_
        refine va_get (D := D) (ci := 0) (v := .ref (a 8)) (C := RX0) (T := TX0) (N := 4) hx hb hts hinX0 hown hK hP 3 rfl rfl 0 (by decide) (hts (.fieldLink RX2 45 "TypoSuggester$Lexicon" "letters" "[B") (by decide +kernel)) (fun _ h9 => h9) rfl dX2_keepLetters_29 ?_
        refine lv_aload_n hx hb dX2_keepLetters_32 rfl (lv_at hl 2 rfl) ?_
        refine va_get (D := D) (ci := 0) (v := .ref (a 9)) (C := RX0) (T := TX0) (N := 4) hx hb hts hinX0 hown hK hP 3 rfl rfl 1 (by decide) (hts (.fieldLink RX2 46 "TypoSuggester$Lexicon" "starts" "[I") (by decide +kernel)) (fun _ h9 => h9) rfl dX2_keepLetters_33 ?_
        refine lv_iload_n hx hb dX2_keepLetters_36 rfl (lv_at hl 0 rfl) ?_
        refine nz_iald (f := lx.2.1) (k := rs.1 k) hx hb hK hP 9 1 rfl rfl (by omega) (by decide) dX2_keepLetters_37 ?_
        refine lv_aload_n hx hb dX2_keepLetters_38 rfl (lv_at hl 1 rfl) ?_
        refine va_get (D := D) (ci := 2) (v := .ref (a 16)) (C := RX2) (T := TX2) (N := 6) hx hb hts hinX2 hown hK hP 5 rfl rfl 4 (by decide) (hts (.fieldLink RX2 25 "TypoSuggester$Result" "letters" "[B") (by decide +kernel)) (fun _ h9 => h9) rfl dX2_keepLetters_39 ?_
        refine lv_iload_n hx hb dX2_keepLetters_42 rfl (lv_at hl 3 rfl) ?_
        refine lv_bipush (v := nI 24) hx hb dX2_keepLetters_43 (by decide +kernel) ?_
        refine nz_imul (a := k) (b := 24) hx hb dX2_keepLetters_45 ?_
        refine lv_aload_n hx hb dX2_keepLetters_46 rfl (lv_at hl 1 rfl) ?_
        refine va_get (D := D) (ci := 2) (v := .ref (a 15)) (C := RX2) (T := TX2) (N := 6) hx hb hts hinX2 hown hK hP 5 rfl rfl 3 (by decide) (hts (.fieldLink RX2 22 "TypoSuggester$Result" "lengths" "[I") (by decide +kernel)) (fun _ h9 => h9) rfl dX2_keepLetters_47 ?_
        refine lv_iload_n hx hb dX2_keepLetters_50 rfl (lv_at hl 3 rfl) ?_
        refine nz_iald (f := mixR (fun x => lx.2.1 (rs.1 x + 1) - lx.2.1 (rs.1 x)) rs.2.2.2.1 (k + 1)) (k := k) hx hb hK hP 15 1 rfl rfl (by omega) (by decide) dX2_keepLetters_51 ?_
        refine nz_top (y := nI (lx.2.1 (rs.1 k + 1) - lx.2.1 (rs.1 k))) (by rw [mixR_lt (Nat.lt_succ_self _)]) ?_
        refine nz_copyi (ws' := wX a cs tp wd lx ro (rs.1, rs.2.1, rs.2.2.1, mixR (fun x => lx.2.1 (rs.1 x + 1) - lx.2.1 (rs.1 x)) rs.2.2.2.1 (k + 1), va_cpy lx.1 (ltrF lx rs.1 rs.2.2.2.2.1 k) (lx.2.1 (rs.1 k)) (k * 24) (lx.2.1 (rs.1 k + 1) - lx.2.1 (rs.1 k)), rs.2.2.2.2.2)) (f := lx.1) (g := ltrF lx rs.1 rs.2.2.2.2.1 k) (sp := lx.2.1 (rs.1 k)) (dp := k * 24) (n := lx.2.1 (rs.1 k + 1) - lx.2.1 (rs.1 k)) hx hb (hml.trans hl.1.symm) hown (hts (.methodLink RX2 49 arraycopyName) (by decide +kernel)) (hts (.native arraycopyName) (by decide +kernel)) (hts (.static arraycopyName) (by decide +kernel)) (hts (.initialized "java/lang/System") (by decide +kernel)) hK hP (wX_D ha) hS 8 16 0 0 rfl rfl rfl rfl rfl (by omega) (by omega) (by omega) (by omega) (by omega) (fun j _ => (nz_b8 _ (hB4 _)).2.1) (Nat.le_of_ble_eq_true rfl) (Nat.le_of_ble_eq_true rfl) dX2_keepLetters_52 rfl (fun H locs hP hS => ?_)
        have e_2 : va_cpy lx.1 (ltrF lx rs.1 rs.2.2.2.2.1 k) (lx.2.1 (rs.1 k)) (k * 24) (lx.2.1 (rs.1 k + 1) - lx.2.1 (rs.1 k)) = ltrF lx rs.1 rs.2.2.2.2.1 (k + 1) := rfl
        rw [e_2] at hP
        refine lv_iinc (v := nI (k + 1)) (lv' := [(2, .int (nI (k + 1))), (3, .int (nI (rs.1 k))), (0, .ref (a 5)), (1, .ref (a 3))]) hx hb dX2_keepLetters_55 hl (k := 3) rfl (nz_inc1 _) (by decide) rfl (fun ls hl => ?_)
        refine lv_goto (tgt := 2) hx hb dX2_keepLetters_58 (by decide) ?_
        exact ih (k + 1) (by omega) (by omega) H locs hP hS ls (lv_sub hl [2, 3, 0] rfl)
  exact loop (rs.2.2.2.2.2 - 0 + 1) 0 (Nat.zero_le _) (Nat.lt_succ_self _) H locs hP hS ls (lv_sub hl [1, 2, 0] rfl)
abbrev rmX2_letterOf : Room := { frames := 0, cells := 0, slots := 0, locals := 0 }
set_option maxHeartbeats 4000000 in
set_option maxRecDepth 100000 in
theorem mX2_letterOf (l : Launch) (D : va_G) (a : Nat → Nat) (cs : Nat → ClassId) (tp : (Nat → Int32) × Nat) (wd : (Nat → Nat) × Nat) (lx : (Nat → Nat) × (Nat → Nat) × (Nat → Nat) × Nat) (ro : Nat → Nat) (rs : (Nat → Nat) × (Nat → Nat) × (Nat → Nat) × (Nat → Nat) × (Nat → Nat) × Nat) (i : Int32) (j : Int32) (hR : RsB rs) : Met l yX2_letterOf wsX2_letterOf rmX2_letterOf (wdP D vwCl (wX a cs tp wd lx ro rs) (tyX cs) [.ref (a 5), .int (i), .int (j)]) (rdQ (.int (termF rs.2.2.2.2.2 rs.2.2.2.1 (fun x y => rs.2.2.2.2.1 (x * 24 + y)) i j))) 0 0 (fun _ => False) := by
  obtain ⟨hR1, hR2, hR3⟩ := hR
  refine nz_metRi (by decide) rfl (Nat.le_of_ble_eq_true rfl) rfl ?_
  intro p e s m args below meth c Q hx hb hml hts hown hP hK hret ls hl
  have hl : lv_has ls 3 [(0, .ref (a 5)), (1, .int (i)), (2, .int (j))] := hl
  have hown : s.vm.findClass RX2 = some m.cls := hown
  have hinX2 : ∀ w ∈ u_ws RX2 TX2 6, w ∈ wsX2_letterOf := by decide +kernel
  refine lv_iload_n hx hb dX2_letterOf_0 rfl (lv_at hl 1 rfl) ?_
  refine lv_if_lt (tgt := 26) hx hb dX2_letterOf_1 (by decide) (fun c_1 => ?_) (fun c_1 => ?_)
  · have hz := termF_n1 (n := rs.2.2.2.2.2) (Z := rs.2.2.2.1) (T := fun x y => rs.2.2.2.2.1 (x * 24 + y)) (j := j) c_1
    refine lv_iconst (v := (-1)) hx hb dX2_letterOf_26 (by decide +kernel) ?_
    rw [hz] at hret
    exact hret 27 ls dX2_letterOf_27
  · obtain ⟨i1, hi1, rfl⟩ := nI_of c_1
    refine lv_iload_n hx hb dX2_letterOf_4 rfl (lv_at hl 1 rfl) ?_
    refine lv_aload_n hx hb dX2_letterOf_5 rfl (lv_at hl 0 rfl) ?_
    refine va_get (D := D) (ci := 2) (v := .int (nI (rs.2.2.2.2.2))) (C := RX2) (T := TX2) (N := 6) hx hb hts hinX2 hown hK hP 5 rfl rfl 5 (by decide) (hts (.fieldLink RX2 29 "TypoSuggester$Result" "count" "I") (by decide +kernel)) (fun _ h9 => h9) rfl dX2_letterOf_6 ?_
    refine nz_cge (a := i1) (b := rs.2.2.2.2.2) (tgt := 26) hx hb dX2_letterOf_9 (by decide) (by omega) (by omega) (fun c_9 => ?_) (fun c_9 => ?_)
    · have hz := termF_g1 (n := rs.2.2.2.2.2) (Z := rs.2.2.2.1) (T := fun x y => rs.2.2.2.2.1 (x * 24 + y)) (j := j) hi1 c_9
      refine lv_iconst (v := (-1)) hx hb dX2_letterOf_26 (by decide +kernel) ?_
      rw [hz] at hret
      exact hret 27 ls dX2_letterOf_27
    · refine lv_iload_n hx hb dX2_letterOf_12 rfl (lv_at hl 2 rfl) ?_
      refine lv_if_lt (tgt := 26) hx hb dX2_letterOf_13 (by decide) (fun c_13 => ?_) (fun c_13 => ?_)
      · have hz := termF_n2 (n := rs.2.2.2.2.2) (Z := rs.2.2.2.1) (T := fun x y => rs.2.2.2.2.1 (x * 24 + y)) (i := nI i1) c_13
        refine lv_iconst (v := (-1)) hx hb dX2_letterOf_26 (by decide +kernel) ?_
        rw [hz] at hret
        exact hret 27 ls dX2_letterOf_27
      · obtain ⟨j1, hj1, rfl⟩ := nI_of c_13
        refine lv_iload_n hx hb dX2_letterOf_16 rfl (lv_at hl 2 rfl) ?_
        refine lv_aload_n hx hb dX2_letterOf_17 rfl (lv_at hl 0 rfl) ?_
        refine va_get (D := D) (ci := 2) (v := .ref (a 15)) (C := RX2) (T := TX2) (N := 6) hx hb hts hinX2 hown hK hP 5 rfl rfl 3 (by decide) (hts (.fieldLink RX2 22 "TypoSuggester$Result" "lengths" "[I") (by decide +kernel)) (fun _ h9 => h9) rfl dX2_letterOf_18 ?_
        refine lv_iload_n hx hb dX2_letterOf_21 rfl (lv_at hl 1 rfl) ?_
        refine nz_iald (f := rs.2.2.2.1) (k := i1) hx hb hK hP 15 1 rfl rfl (by omega) (by decide) dX2_letterOf_22 ?_
        refine nz_clt (a := j1) (b := rs.2.2.2.1 i1) (tgt := 28) hx hb dX2_letterOf_23 (by decide) (by omega) (by have := hR3 i1; omega) (fun c_23 => ?_) (fun c_23 => ?_)
        · have hz := termF_in (n := rs.2.2.2.2.2) (Z := rs.2.2.2.1) (T := fun x y => rs.2.2.2.2.1 (x * 24 + y)) hi1 hj1 c_9 c_23
          have hr3 := hR3 i1
          refine lv_aload_n hx hb dX2_letterOf_28 rfl (lv_at hl 0 rfl) ?_
          refine va_get (D := D) (ci := 2) (v := .ref (a 16)) (C := RX2) (T := TX2) (N := 6) hx hb hts hinX2 hown hK hP 5 rfl rfl 4 (by decide) (hts (.fieldLink RX2 25 "TypoSuggester$Result" "letters" "[B") (by decide +kernel)) (fun _ h9 => h9) rfl dX2_letterOf_29 ?_
          refine lv_iload_n hx hb dX2_letterOf_32 rfl (lv_at hl 1 rfl) ?_
          refine lv_bipush (v := nI 24) hx hb dX2_letterOf_33 (by decide +kernel) ?_
          refine nz_imul (a := i1) (b := 24) hx hb dX2_letterOf_35 ?_
          refine lv_iload_n hx hb dX2_letterOf_36 rfl (lv_at hl 2 rfl) ?_
          refine nz_iadd (a := i1 * 24) (b := j1) hx hb dX2_letterOf_37 ?_
          refine nz_bald (f := rs.2.2.2.2.1) (k := i1 * 24 + j1) hx hb hK hP 16 0 rfl rfl (by omega) (by decide) dX2_letterOf_38 ?_
          rw [hz] at hret
          exact hret 39 ls dX2_letterOf_39
        · have hz := termF_g2 (n := rs.2.2.2.2.2) (Z := rs.2.2.2.1) (T := fun x y => rs.2.2.2.2.1 (x * 24 + y)) hi1 hj1 c_23
          refine lv_iconst (v := (-1)) hx hb dX2_letterOf_26 (by decide +kernel) ?_
          rw [hz] at hret
          exact hret 27 ls dX2_letterOf_27
end
section
theorem dX3_init_0 : decode cX3_init 0 = .ok (.aload_n 0, 1) := by decide +kernel
theorem dX3_init_1 : decode cX3_init 1 = .ok (.invokespecial 3, 3) := by decide +kernel
theorem dX3_init_4 : decode cX3_init 4 = .ok (.aload_n 0, 1) := by decide +kernel
theorem dX3_init_5 : decode cX3_init 5 = .ok (.sipush 400, 3) := by decide +kernel
theorem dX3_init_8 : decode cX3_init 8 = .ok (.newarray .byte, 2) := by decide +kernel
theorem dX3_init_10 : decode cX3_init 10 = .ok (.putfield 9, 3) := by decide +kernel
theorem dX3_init_13 : decode cX3_init 13 = .ok (.return_, 1) := by decide +kernel
theorem dX3_append_0 : decode cX3_append 0 = .ok (.aload_n 0, 1) := by decide +kernel
theorem dX3_append_1 : decode cX3_append 1 = .ok (.getfield 15, 3) := by decide +kernel
theorem dX3_append_4 : decode cX3_append 4 = .ok (.sipush 396, 3) := by decide +kernel
theorem dX3_append_7 : decode cX3_append 7 = .ok (.if_icmp .le 5, 3) := by decide +kernel
theorem dX3_append_10 : decode cX3_append 10 = .ok (.iconst 0, 1) := by decide +kernel
theorem dX3_append_11 : decode cX3_append 11 = .ok (.ireturn, 1) := by decide +kernel
theorem dX3_append_12 : decode cX3_append 12 = .ok (.bipush 24, 2) := by decide +kernel
theorem dX3_append_14 : decode cX3_append 14 = .ok (.istore_n 2, 1) := by decide +kernel
theorem dX3_append_15 : decode cX3_append 15 = .ok (.iload_n 2, 1) := by decide +kernel
theorem dX3_append_16 : decode cX3_append 16 = .ok (.ifCond .lt 32, 3) := by decide +kernel
theorem dX3_append_19 : decode cX3_append 19 = .ok (.aload_n 0, 1) := by decide +kernel
theorem dX3_append_20 : decode cX3_append 20 = .ok (.getfield 9, 3) := by decide +kernel
theorem dX3_append_23 : decode cX3_append 23 = .ok (.aload_n 0, 1) := by decide +kernel
theorem dX3_append_24 : decode cX3_append 24 = .ok (.getfield 15, 3) := by decide +kernel
theorem dX3_append_27 : decode cX3_append 27 = .ok (.iload_n 1, 1) := by decide +kernel
theorem dX3_append_28 : decode cX3_append 28 = .ok (.iload_n 2, 1) := by decide +kernel
theorem dX3_append_29 : decode cX3_append 29 = .ok (.ishr, 1) := by decide +kernel
theorem dX3_append_30 : decode cX3_append 30 = .ok (.i2b, 1) := by decide +kernel
theorem dX3_append_31 : decode cX3_append 31 = .ok (.bastore, 1) := by decide +kernel
theorem dX3_append_32 : decode cX3_append 32 = .ok (.aload_n 0, 1) := by decide +kernel
theorem dX3_append_33 : decode cX3_append 33 = .ok (.dup, 1) := by decide +kernel
theorem dX3_append_34 : decode cX3_append 34 = .ok (.getfield 15, 3) := by decide +kernel
theorem dX3_append_37 : decode cX3_append 37 = .ok (.iconst 1, 1) := by decide +kernel
theorem dX3_append_38 : decode cX3_append 38 = .ok (.iadd, 1) := by decide +kernel
theorem dX3_append_39 : decode cX3_append 39 = .ok (.putfield 15, 3) := by decide +kernel
theorem dX3_append_42 : decode cX3_append 42 = .ok (.iinc 2 (-8), 3) := by decide +kernel
theorem dX3_append_45 : decode cX3_append 45 = .ok (.goto (-30), 3) := by decide +kernel
theorem dX3_append_48 : decode cX3_append 48 = .ok (.iconst 1, 1) := by decide +kernel
theorem dX3_append_49 : decode cX3_append 49 = .ok (.ireturn, 1) := by decide +kernel
theorem dX4_init_0 : decode cX4_init 0 = .ok (.aload_n 0, 1) := by decide +kernel
theorem dX4_init_1 : decode cX4_init 1 = .ok (.invokespecial 3, 3) := by decide +kernel
theorem dX4_init_4 : decode cX4_init 4 = .ok (.aload_n 0, 1) := by decide +kernel
theorem dX4_init_5 : decode cX4_init 5 = .ok (.bipush 24, 2) := by decide +kernel
theorem dX4_init_7 : decode cX4_init 7 = .ok (.newarray .byte, 2) := by decide +kernel
theorem dX4_init_9 : decode cX4_init 9 = .ok (.putfield 9, 3) := by decide +kernel
theorem dX4_init_12 : decode cX4_init 12 = .ok (.return_, 1) := by decide +kernel
theorem dX4_append_0 : decode cX4_append 0 = .ok (.aload_n 0, 1) := by decide +kernel
theorem dX4_append_1 : decode cX4_append 1 = .ok (.getfield 15, 3) := by decide +kernel
theorem dX4_append_4 : decode cX4_append 4 = .ok (.bipush 24, 2) := by decide +kernel
theorem dX4_append_6 : decode cX4_append 6 = .ok (.if_icmp .ge 24, 3) := by decide +kernel
theorem dX4_append_9 : decode cX4_append 9 = .ok (.aload_n 0, 1) := by decide +kernel
theorem dX4_append_10 : decode cX4_append 10 = .ok (.getfield 9, 3) := by decide +kernel
theorem dX4_append_13 : decode cX4_append 13 = .ok (.aload_n 0, 1) := by decide +kernel
theorem dX4_append_14 : decode cX4_append 14 = .ok (.getfield 15, 3) := by decide +kernel
theorem dX4_append_17 : decode cX4_append 17 = .ok (.iload_n 1, 1) := by decide +kernel
theorem dX4_append_18 : decode cX4_append 18 = .ok (.i2b, 1) := by decide +kernel
theorem dX4_append_19 : decode cX4_append 19 = .ok (.bastore, 1) := by decide +kernel
theorem dX4_append_20 : decode cX4_append 20 = .ok (.aload_n 0, 1) := by decide +kernel
theorem dX4_append_21 : decode cX4_append 21 = .ok (.dup, 1) := by decide +kernel
theorem dX4_append_22 : decode cX4_append 22 = .ok (.getfield 15, 3) := by decide +kernel
theorem dX4_append_25 : decode cX4_append 25 = .ok (.iconst 1, 1) := by decide +kernel
theorem dX4_append_26 : decode cX4_append 26 = .ok (.iadd, 1) := by decide +kernel
theorem dX4_append_27 : decode cX4_append 27 = .ok (.putfield 15, 3) := by decide +kernel
theorem dX4_append_30 : decode cX4_append 30 = .ok (.return_, 1) := by decide +kernel
set_option maxRecDepth 20000 in
theorem ggX5_init_X3_init : GoodIn wsX5_init wsX3_init := goodIn_r _ [25, 26, 2, 3, 27, 28, 53, 54] (by decide +kernel) (by decide +kernel)
set_option maxRecDepth 20000 in
theorem gX5_init_X3_init_n9 : GoodIn wsX5_init (wsX3_init) := ggX5_init_X3_init
set_option maxRecDepth 20000 in
theorem ggX5_init_X4_init : GoodIn wsX5_init wsX4_init := goodIn_r _ [30, 31, 2, 3, 27, 32, 60, 61] (by decide +kernel) (by decide +kernel)
set_option maxRecDepth 20000 in
theorem gX5_init_X4_init_n18 : GoodIn wsX5_init (wsX4_init) := ggX5_init_X4_init
set_option maxRecDepth 20000 in
theorem ggX5_init_X0_init : GoodIn wsX5_init wsX0_init := goodIn_r _ [34, 35, 2, 3, 27, 36, 37, 38, 39, 40, 62, 63, 64, 65] (by decide +kernel) (by decide +kernel)
set_option maxRecDepth 20000 in
theorem gX5_init_X0_init_n25 : GoodIn wsX5_init (wsX0_init) := ggX5_init_X0_init
set_option maxRecDepth 20000 in
theorem ggX5_init_X1_init : GoodIn wsX5_init wsX1_init := goodIn_r _ [42, 43, 2, 3, 37, 44, 66] (by decide +kernel) (by decide +kernel)
set_option maxRecDepth 20000 in
theorem gX5_init_X1_init_n32 : GoodIn wsX5_init (wsX1_init) := ggX5_init_X1_init
set_option maxRecDepth 20000 in
theorem ggX5_init_X2_init : GoodIn wsX5_init wsX2_init := goodIn_r _ [46, 47, 2, 3, 37, 48, 39, 49, 50, 51, 27, 52, 67, 68, 69, 70, 71, 72] (by decide +kernel) (by decide +kernel)
set_option maxRecDepth 20000 in
theorem gX5_init_X2_init_n39 : GoodIn wsX5_init (wsX2_init) := ggX5_init_X2_init
theorem dX5_init_0 : decode cX5_init 0 = .ok (.aload_n 0, 1) := by decide +kernel
theorem dX5_init_1 : decode cX5_init 1 = .ok (.invokespecial 1, 3) := by decide +kernel
theorem dX5_init_4 : decode cX5_init 4 = .ok (.aload_n 0, 1) := by decide +kernel
theorem dX5_init_5 : decode cX5_init 5 = .ok (.new 7, 3) := by decide +kernel
theorem dX5_init_8 : decode cX5_init 8 = .ok (.dup, 1) := by decide +kernel
theorem dX5_init_9 : decode cX5_init 9 = .ok (.invokespecial 9, 3) := by decide +kernel
theorem dX5_init_12 : decode cX5_init 12 = .ok (.putfield 10, 3) := by decide +kernel
theorem dX5_init_15 : decode cX5_init 15 = .ok (.aload_n 0, 1) := by decide +kernel
theorem dX5_init_16 : decode cX5_init 16 = .ok (.new 16, 3) := by decide +kernel
theorem dX5_init_19 : decode cX5_init 19 = .ok (.dup, 1) := by decide +kernel
theorem dX5_init_20 : decode cX5_init 20 = .ok (.invokespecial 18, 3) := by decide +kernel
theorem dX5_init_23 : decode cX5_init 23 = .ok (.putfield 19, 3) := by decide +kernel
theorem dX5_init_26 : decode cX5_init 26 = .ok (.aload_n 0, 1) := by decide +kernel
theorem dX5_init_27 : decode cX5_init 27 = .ok (.new 23, 3) := by decide +kernel
theorem dX5_init_30 : decode cX5_init 30 = .ok (.dup, 1) := by decide +kernel
theorem dX5_init_31 : decode cX5_init 31 = .ok (.invokespecial 25, 3) := by decide +kernel
theorem dX5_init_34 : decode cX5_init 34 = .ok (.putfield 26, 3) := by decide +kernel
theorem dX5_init_37 : decode cX5_init 37 = .ok (.aload_n 0, 1) := by decide +kernel
theorem dX5_init_38 : decode cX5_init 38 = .ok (.new 30, 3) := by decide +kernel
theorem dX5_init_41 : decode cX5_init 41 = .ok (.dup, 1) := by decide +kernel
theorem dX5_init_42 : decode cX5_init 42 = .ok (.invokespecial 32, 3) := by decide +kernel
theorem dX5_init_45 : decode cX5_init 45 = .ok (.putfield 33, 3) := by decide +kernel
theorem dX5_init_48 : decode cX5_init 48 = .ok (.aload_n 0, 1) := by decide +kernel
theorem dX5_init_49 : decode cX5_init 49 = .ok (.new 37, 3) := by decide +kernel
theorem dX5_init_52 : decode cX5_init 52 = .ok (.dup, 1) := by decide +kernel
theorem dX5_init_53 : decode cX5_init 53 = .ok (.invokespecial 39, 3) := by decide +kernel
theorem dX5_init_56 : decode cX5_init 56 = .ok (.putfield 40, 3) := by decide +kernel
theorem dX5_init_59 : decode cX5_init 59 = .ok (.return_, 1) := by decide +kernel
set_option maxRecDepth 20000 in
theorem ggX5_feed_X3_append : GoodIn wsX5_feed wsX3_append := goodIn_r _ [7, 8, 9, 15, 16] (by decide +kernel) (by decide +kernel)
set_option maxRecDepth 20000 in
theorem gX5_feed_X3_append : GoodIn wsX5_feed (wsV RX5 44 RX3 yX3_append wsX3_append) := goodIn_app (goodIn_of _ (by decide +kernel)) ggX5_feed_X3_append
theorem dX5_feed_0 : decode cX5_feed 0 = .ok (.aload_n 0, 1) := by decide +kernel
theorem dX5_feed_1 : decode cX5_feed 1 = .ok (.getfield 10, 3) := by decide +kernel
theorem dX5_feed_4 : decode cX5_feed 4 = .ok (.iload_n 1, 1) := by decide +kernel
theorem dX5_feed_5 : decode cX5_feed 5 = .ok (.invokevirtual 44, 3) := by decide +kernel
theorem dX5_feed_8 : decode cX5_feed 8 = .ok (.ifCond .eq 13, 3) := by decide +kernel
theorem dX5_feed_11 : decode cX5_feed 11 = .ok (.aload_n 0, 1) := by decide +kernel
theorem dX5_feed_12 : decode cX5_feed 12 = .ok (.getfield 10, 3) := by decide +kernel
theorem dX5_feed_15 : decode cX5_feed 15 = .ok (.getfield 48, 3) := by decide +kernel
theorem dX5_feed_18 : decode cX5_feed 18 = .ok (.goto 5, 3) := by decide +kernel
theorem dX5_feed_21 : decode cX5_feed 21 = .ok (.bipush (-2), 2) := by decide +kernel
theorem dX5_feed_23 : decode cX5_feed 23 = .ok (.ireturn, 1) := by decide +kernel
theorem dX5_cut_0 : decode cX5_cut 0 = .ok (.iload_n 1, 1) := by decide +kernel
theorem dX5_cut_1 : decode cX5_cut 1 = .ok (.ifCond .lt 14, 3) := by decide +kernel
theorem dX5_cut_4 : decode cX5_cut 4 = .ok (.iload_n 1, 1) := by decide +kernel
theorem dX5_cut_5 : decode cX5_cut 5 = .ok (.aload_n 0, 1) := by decide +kernel
theorem dX5_cut_6 : decode cX5_cut 6 = .ok (.getfield 10, 3) := by decide +kernel
theorem dX5_cut_9 : decode cX5_cut 9 = .ok (.getfield 48, 3) := by decide +kernel
theorem dX5_cut_12 : decode cX5_cut 12 = .ok (.if_icmp .le 5, 3) := by decide +kernel
theorem dX5_cut_15 : decode cX5_cut 15 = .ok (.iconst (-1), 1) := by decide +kernel
theorem dX5_cut_16 : decode cX5_cut 16 = .ok (.ireturn, 1) := by decide +kernel
theorem dX5_cut_17 : decode cX5_cut 17 = .ok (.aload_n 0, 1) := by decide +kernel
theorem dX5_cut_18 : decode cX5_cut 18 = .ok (.getfield 10, 3) := by decide +kernel
theorem dX5_cut_21 : decode cX5_cut 21 = .ok (.getfield 48, 3) := by decide +kernel
theorem dX5_cut_24 : decode cX5_cut 24 = .ok (.iload_n 1, 1) := by decide +kernel
theorem dX5_cut_25 : decode cX5_cut 25 = .ok (.isub, 1) := by decide +kernel
theorem dX5_cut_26 : decode cX5_cut 26 = .ok (.istore_n 2, 1) := by decide +kernel
theorem dX5_cut_27 : decode cX5_cut 27 = .ok (.aload_n 0, 1) := by decide +kernel
theorem dX5_cut_28 : decode cX5_cut 28 = .ok (.getfield 10, 3) := by decide +kernel
theorem dX5_cut_31 : decode cX5_cut 31 = .ok (.iload_n 1, 1) := by decide +kernel
theorem dX5_cut_32 : decode cX5_cut 32 = .ok (.putfield 48, 3) := by decide +kernel
theorem dX5_cut_35 : decode cX5_cut 35 = .ok (.iload_n 2, 1) := by decide +kernel
theorem dX5_cut_36 : decode cX5_cut 36 = .ok (.ireturn, 1) := by decide +kernel
set_option maxRecDepth 20000 in
theorem ggX5_learn_X5_smallLetter : GoodIn wsX5_learn wsX5_smallLetter := goodIn_r _ [10, 11, 12, 9, 13] (by decide +kernel) (by decide +kernel)
set_option maxRecDepth 20000 in
theorem gX5_learn_X5_smallLetter : GoodIn wsX5_learn (va_wsS RX5 60 yX5_smallLetter wsX5_smallLetter) := goodIn_app (goodIn_of _ (by decide +kernel)) ggX5_learn_X5_smallLetter
set_option maxRecDepth 20000 in
theorem ggX5_learn_X4_append : GoodIn wsX5_learn wsX4_append := goodIn_r _ [18, 19, 20, 86, 87] (by decide +kernel) (by decide +kernel)
set_option maxRecDepth 20000 in
theorem gX5_learn_X4_append : GoodIn wsX5_learn (wsV RX5 64 RX4 yX4_append wsX4_append) := goodIn_app (goodIn_of _ (by decide +kernel)) ggX5_learn_X4_append
set_option maxRecDepth 20000 in
theorem ggX5_learn_X5_takeUse : GoodIn wsX5_learn wsX5_takeUse := goodIn_r _ [24, 2, 3, 25, 26, 27, 28, 29, 30, 31, 32, 33, 34, 35, 36, 37, 38, 39, 40, 41, 42, 43, 44, 45, 46, 47, 48, 49, 50, 51, 52, 53, 54, 55, 56, 57, 58, 59, 60, 61, 62, 63, 64, 65, 66, 67, 68, 69, 70, 71, 72, 73, 74, 75, 76, 77, 78, 79, 80, 81, 82, 83, 84, 85, 86, 87, 90, 91, 92, 93] (by decide +kernel) (by decide +kernel)
set_option maxRecDepth 20000 in
theorem gX5_learn_X5_takeUse : GoodIn wsX5_learn (wsV RX5 67 RX5 yX5_takeUse wsX5_takeUse) := goodIn_app (goodIn_of _ (by decide +kernel)) ggX5_learn_X5_takeUse
theorem dX5_learn_0 : decode cX5_learn 0 = .ok (.iload_n 1, 1) := by decide +kernel
theorem dX5_learn_1 : decode cX5_learn 1 = .ok (.ifCond .lt 9, 3) := by decide +kernel
theorem dX5_learn_4 : decode cX5_learn 4 = .ok (.iload_n 1, 1) := by decide +kernel
theorem dX5_learn_5 : decode cX5_learn 5 = .ok (.ldc 52, 2) := by decide +kernel
theorem dX5_learn_7 : decode cX5_learn 7 = .ok (.if_icmp .le 5, 3) := by decide +kernel
theorem dX5_learn_10 : decode cX5_learn 10 = .ok (.iconst (-1), 1) := by decide +kernel
theorem dX5_learn_11 : decode cX5_learn 11 = .ok (.ireturn, 1) := by decide +kernel
theorem dX5_learn_12 : decode cX5_learn 12 = .ok (.iconst 0, 1) := by decide +kernel
theorem dX5_learn_13 : decode cX5_learn 13 = .ok (.istore_n 2, 1) := by decide +kernel
theorem dX5_learn_14 : decode cX5_learn 14 = .ok (.aload_n 0, 1) := by decide +kernel
theorem dX5_learn_15 : decode cX5_learn 15 = .ok (.getfield 19, 3) := by decide +kernel
theorem dX5_learn_18 : decode cX5_learn 18 = .ok (.iconst 0, 1) := by decide +kernel
theorem dX5_learn_19 : decode cX5_learn 19 = .ok (.putfield 53, 3) := by decide +kernel
theorem dX5_learn_22 : decode cX5_learn 22 = .ok (.iconst 0, 1) := by decide +kernel
theorem dX5_learn_23 : decode cX5_learn 23 = .ok (.istore_n 3, 1) := by decide +kernel
theorem dX5_learn_24 : decode cX5_learn 24 = .ok (.iload_n 3, 1) := by decide +kernel
theorem dX5_learn_25 : decode cX5_learn 25 = .ok (.aload_n 0, 1) := by decide +kernel
theorem dX5_learn_26 : decode cX5_learn 26 = .ok (.getfield 10, 3) := by decide +kernel
theorem dX5_learn_29 : decode cX5_learn 29 = .ok (.getfield 48, 3) := by decide +kernel
theorem dX5_learn_32 : decode cX5_learn 32 = .ok (.if_icmp .ge 49, 3) := by decide +kernel
theorem dX5_learn_35 : decode cX5_learn 35 = .ok (.aload_n 0, 1) := by decide +kernel
theorem dX5_learn_36 : decode cX5_learn 36 = .ok (.getfield 10, 3) := by decide +kernel
theorem dX5_learn_39 : decode cX5_learn 39 = .ok (.getfield 56, 3) := by decide +kernel
theorem dX5_learn_42 : decode cX5_learn 42 = .ok (.iload_n 3, 1) := by decide +kernel
theorem dX5_learn_43 : decode cX5_learn 43 = .ok (.baload, 1) := by decide +kernel
theorem dX5_learn_44 : decode cX5_learn 44 = .ok (.invokestatic 60, 3) := by decide +kernel
theorem dX5_learn_47 : decode cX5_learn 47 = .ok (.istore 4, 2) := by decide +kernel
theorem dX5_learn_49 : decode cX5_learn 49 = .ok (.iload 4, 2) := by decide +kernel
theorem dX5_learn_51 : decode cX5_learn 51 = .ok (.iconst (-1), 1) := by decide +kernel
theorem dX5_learn_52 : decode cX5_learn 52 = .ok (.if_icmp .eq 15, 3) := by decide +kernel
theorem dX5_learn_55 : decode cX5_learn 55 = .ok (.aload_n 0, 1) := by decide +kernel
theorem dX5_learn_56 : decode cX5_learn 56 = .ok (.getfield 19, 3) := by decide +kernel
theorem dX5_learn_59 : decode cX5_learn 59 = .ok (.iload 4, 2) := by decide +kernel
theorem dX5_learn_61 : decode cX5_learn 61 = .ok (.invokevirtual 64, 3) := by decide +kernel
theorem dX5_learn_64 : decode cX5_learn 64 = .ok (.goto 11, 3) := by decide +kernel
theorem dX5_learn_67 : decode cX5_learn 67 = .ok (.iload_n 2, 1) := by decide +kernel
theorem dX5_learn_68 : decode cX5_learn 68 = .ok (.aload_n 0, 1) := by decide +kernel
theorem dX5_learn_69 : decode cX5_learn 69 = .ok (.iload_n 1, 1) := by decide +kernel
theorem dX5_learn_70 : decode cX5_learn 70 = .ok (.invokevirtual 67, 3) := by decide +kernel
theorem dX5_learn_73 : decode cX5_learn 73 = .ok (.iadd, 1) := by decide +kernel
theorem dX5_learn_74 : decode cX5_learn 74 = .ok (.istore_n 2, 1) := by decide +kernel
theorem dX5_learn_75 : decode cX5_learn 75 = .ok (.iinc 3 1, 3) := by decide +kernel
theorem dX5_learn_78 : decode cX5_learn 78 = .ok (.goto (-54), 3) := by decide +kernel
theorem dX5_learn_81 : decode cX5_learn 81 = .ok (.iload_n 2, 1) := by decide +kernel
theorem dX5_learn_82 : decode cX5_learn 82 = .ok (.aload_n 0, 1) := by decide +kernel
theorem dX5_learn_83 : decode cX5_learn 83 = .ok (.iload_n 1, 1) := by decide +kernel
theorem dX5_learn_84 : decode cX5_learn 84 = .ok (.invokevirtual 67, 3) := by decide +kernel
theorem dX5_learn_87 : decode cX5_learn 87 = .ok (.iadd, 1) := by decide +kernel
theorem dX5_learn_88 : decode cX5_learn 88 = .ok (.istore_n 2, 1) := by decide +kernel
theorem dX5_learn_89 : decode cX5_learn 89 = .ok (.aload_n 0, 1) := by decide +kernel
theorem dX5_learn_90 : decode cX5_learn 90 = .ok (.getfield 10, 3) := by decide +kernel
theorem dX5_learn_93 : decode cX5_learn 93 = .ok (.iconst 0, 1) := by decide +kernel
theorem dX5_learn_94 : decode cX5_learn 94 = .ok (.putfield 48, 3) := by decide +kernel
theorem dX5_learn_97 : decode cX5_learn 97 = .ok (.iload_n 2, 1) := by decide +kernel
theorem dX5_learn_98 : decode cX5_learn 98 = .ok (.ireturn, 1) := by decide +kernel
set_option maxRecDepth 20000 in
theorem ggX5_set_X5_takeTerm : GoodIn wsX5_set wsX5_takeTerm := goodIn_r _ [9, 3, 10, 11, 12, 13, 8, 14, 15, 16, 17, 18, 19, 20, 21, 22, 23, 24, 25, 26, 27, 75, 76, 77, 78, 79, 84, 85, 86, 87] (by decide +kernel) (by decide +kernel)
set_option maxRecDepth 20000 in
theorem gX5_set_X5_takeTerm : GoodIn wsX5_set (wsV RX5 70 RX5 yX5_takeTerm wsX5_takeTerm) := goodIn_app (goodIn_of _ (by decide +kernel)) ggX5_set_X5_takeTerm
set_option maxRecDepth 20000 in
theorem ggX5_set_X0_placeOf : GoodIn wsX5_set wsX0_placeOf := goodIn_r _ [32, 33, 34, 35, 36, 31, 37, 38, 39, 40, 41, 42, 43, 44, 45, 46, 47, 48, 49, 50, 51, 52, 53, 80, 81, 82, 83, 84, 85] (by decide +kernel) (by decide +kernel)
set_option maxRecDepth 20000 in
theorem gX5_set_X0_placeOf : GoodIn wsX5_set (wsV RX5 76 RX0 yX0_placeOf wsX0_placeOf) := goodIn_app (goodIn_of _ (by decide +kernel)) ggX5_set_X0_placeOf
set_option maxRecDepth 20000 in
theorem ggX5_set_X0_standsAt : GoodIn wsX5_set wsX0_standsAt := goodIn_r _ [57, 33, 38, 50, 51, 52, 31, 53, 40, 58, 59, 60, 61, 42, 43, 44, 45, 46, 47, 48, 49, 39, 41, 80, 81, 82, 83, 84, 85] (by decide +kernel) (by decide +kernel)
set_option maxRecDepth 20000 in
theorem gX5_set_X0_standsAt : GoodIn wsX5_set (wsV RX5 80 RX0 yX0_standsAt wsX0_standsAt) := goodIn_app (goodIn_of _ (by decide +kernel)) ggX5_set_X0_standsAt
set_option maxRecDepth 20000 in
theorem ggX5_set_X0_insert : GoodIn wsX5_set wsX0_insert := goodIn_r _ [65, 33, 38, 40, 39, 66, 67, 68, 69, 41, 70, 71, 72, 73, 31, 74, 80, 81, 82, 83, 84, 85] (by decide +kernel) (by decide +kernel)
set_option maxRecDepth 20000 in
theorem gX5_set_X0_insert : GoodIn wsX5_set (wsV RX5 88 RX0 yX0_insert wsX0_insert) := goodIn_app (goodIn_of _ (by decide +kernel)) ggX5_set_X0_insert
theorem dX5_set_0 : decode cX5_set 0 = .ok (.aload_n 0, 1) := by decide +kernel
theorem dX5_set_1 : decode cX5_set 1 = .ok (.invokevirtual 70, 3) := by decide +kernel
theorem dX5_set_4 : decode cX5_set 4 = .ok (.ifCond .eq 17, 3) := by decide +kernel
theorem dX5_set_7 : decode cX5_set 7 = .ok (.lload_n 1, 1) := by decide +kernel
theorem dX5_set_8 : decode cX5_set 8 = .ok (.lconst 0, 1) := by decide +kernel
theorem dX5_set_9 : decode cX5_set 9 = .ok (.lcmp, 1) := by decide +kernel
theorem dX5_set_10 : decode cX5_set 10 = .ok (.ifCond .lt 11, 3) := by decide +kernel
theorem dX5_set_13 : decode cX5_set 13 = .ok (.lload_n 1, 1) := by decide +kernel
theorem dX5_set_14 : decode cX5_set 14 = .ok (.ldc2_w 74, 3) := by decide +kernel
theorem dX5_set_17 : decode cX5_set 17 = .ok (.lcmp, 1) := by decide +kernel
theorem dX5_set_18 : decode cX5_set 18 = .ok (.ifCond .le 5, 3) := by decide +kernel
theorem dX5_set_21 : decode cX5_set 21 = .ok (.iconst (-1), 1) := by decide +kernel
theorem dX5_set_22 : decode cX5_set 22 = .ok (.ireturn, 1) := by decide +kernel
theorem dX5_set_23 : decode cX5_set 23 = .ok (.aload_n 0, 1) := by decide +kernel
theorem dX5_set_24 : decode cX5_set 24 = .ok (.getfield 26, 3) := by decide +kernel
theorem dX5_set_27 : decode cX5_set 27 = .ok (.aload_n 0, 1) := by decide +kernel
theorem dX5_set_28 : decode cX5_set 28 = .ok (.getfield 19, 3) := by decide +kernel
theorem dX5_set_31 : decode cX5_set 31 = .ok (.invokevirtual 76, 3) := by decide +kernel
theorem dX5_set_34 : decode cX5_set 34 = .ok (.istore_n 3, 1) := by decide +kernel
theorem dX5_set_35 : decode cX5_set 35 = .ok (.aload_n 0, 1) := by decide +kernel
theorem dX5_set_36 : decode cX5_set 36 = .ok (.getfield 26, 3) := by decide +kernel
theorem dX5_set_39 : decode cX5_set 39 = .ok (.iload_n 3, 1) := by decide +kernel
theorem dX5_set_40 : decode cX5_set 40 = .ok (.aload_n 0, 1) := by decide +kernel
theorem dX5_set_41 : decode cX5_set 41 = .ok (.getfield 19, 3) := by decide +kernel
theorem dX5_set_44 : decode cX5_set 44 = .ok (.invokevirtual 80, 3) := by decide +kernel
theorem dX5_set_47 : decode cX5_set 47 = .ok (.ifCond .eq 15, 3) := by decide +kernel
theorem dX5_set_50 : decode cX5_set 50 = .ok (.aload_n 0, 1) := by decide +kernel
theorem dX5_set_51 : decode cX5_set 51 = .ok (.getfield 26, 3) := by decide +kernel
theorem dX5_set_54 : decode cX5_set 54 = .ok (.getfield 84, 3) := by decide +kernel
theorem dX5_set_57 : decode cX5_set 57 = .ok (.iload_n 3, 1) := by decide +kernel
theorem dX5_set_58 : decode cX5_set 58 = .ok (.lload_n 1, 1) := by decide +kernel
theorem dX5_set_59 : decode cX5_set 59 = .ok (.lastore, 1) := by decide +kernel
theorem dX5_set_60 : decode cX5_set 60 = .ok (.iconst 0, 1) := by decide +kernel
theorem dX5_set_61 : decode cX5_set 61 = .ok (.ireturn, 1) := by decide +kernel
theorem dX5_set_62 : decode cX5_set 62 = .ok (.aload_n 0, 1) := by decide +kernel
theorem dX5_set_63 : decode cX5_set 63 = .ok (.getfield 26, 3) := by decide +kernel
theorem dX5_set_66 : decode cX5_set 66 = .ok (.iload_n 3, 1) := by decide +kernel
theorem dX5_set_67 : decode cX5_set 67 = .ok (.aload_n 0, 1) := by decide +kernel
theorem dX5_set_68 : decode cX5_set 68 = .ok (.getfield 19, 3) := by decide +kernel
theorem dX5_set_71 : decode cX5_set 71 = .ok (.lload_n 1, 1) := by decide +kernel
theorem dX5_set_72 : decode cX5_set 72 = .ok (.invokevirtual 88, 3) := by decide +kernel
theorem dX5_set_75 : decode cX5_set 75 = .ok (.ifCond .eq 7, 3) := by decide +kernel
theorem dX5_set_78 : decode cX5_set 78 = .ok (.iconst 1, 1) := by decide +kernel
theorem dX5_set_79 : decode cX5_set 79 = .ok (.goto 5, 3) := by decide +kernel
theorem dX5_set_82 : decode cX5_set 82 = .ok (.bipush (-2), 2) := by decide +kernel
theorem dX5_set_84 : decode cX5_set 84 = .ok (.ireturn, 1) := by decide +kernel
set_option maxRecDepth 20000 in
theorem ggX5_drop_X5_takePlace : GoodIn wsX5_drop wsX5_takePlace := goodIn_r _ [8, 2, 9, 10, 11, 12, 7, 13, 14, 15, 16, 17, 18, 19, 20, 21, 22, 23, 24, 25, 26, 27, 28, 29, 30, 31, 32, 33, 34, 35, 36, 37, 38, 39, 40, 41, 42, 43, 44, 45, 46, 47, 48, 49, 50, 51, 52, 53, 54, 55, 56, 57, 58, 59, 60, 61, 62, 63, 64, 65, 79, 80, 81, 82, 83, 88, 89, 90, 91, 84, 85, 86, 87] (by decide +kernel) (by decide +kernel)
set_option maxRecDepth 20000 in
theorem gX5_drop_X5_takePlace : GoodIn wsX5_drop (wsV RX5 92 RX5 yX5_takePlace wsX5_takePlace) := goodIn_app (goodIn_of _ (by decide +kernel)) ggX5_drop_X5_takePlace
set_option maxRecDepth 20000 in
theorem ggX5_drop_X0_remove : GoodIn wsX5_drop wsX0_remove := goodIn_r _ [69, 44, 43, 70, 71, 72, 73, 74, 37, 54, 55, 56, 35, 57, 75, 76, 77, 78, 84, 85, 86, 87] (by decide +kernel) (by decide +kernel)
set_option maxRecDepth 20000 in
theorem gX5_drop_X0_remove : GoodIn wsX5_drop (wsV RX5 98 RX0 yX0_remove wsX0_remove) := goodIn_app (goodIn_of _ (by decide +kernel)) ggX5_drop_X0_remove
theorem dX5_drop_0 : decode cX5_drop 0 = .ok (.aload_n 0, 1) := by decide +kernel
theorem dX5_drop_1 : decode cX5_drop 1 = .ok (.invokevirtual 92, 3) := by decide +kernel
theorem dX5_drop_4 : decode cX5_drop 4 = .ok (.istore_n 1, 1) := by decide +kernel
theorem dX5_drop_5 : decode cX5_drop 5 = .ok (.iload_n 1, 1) := by decide +kernel
theorem dX5_drop_6 : decode cX5_drop 6 = .ok (.iconst (-1), 1) := by decide +kernel
theorem dX5_drop_7 : decode cX5_drop 7 = .ok (.if_icmp .ne 7, 3) := by decide +kernel
theorem dX5_drop_10 : decode cX5_drop 10 = .ok (.ldc2_w 96, 3) := by decide +kernel
theorem dX5_drop_13 : decode cX5_drop 13 = .ok (.lreturn, 1) := by decide +kernel
theorem dX5_drop_14 : decode cX5_drop 14 = .ok (.aload_n 0, 1) := by decide +kernel
theorem dX5_drop_15 : decode cX5_drop 15 = .ok (.getfield 26, 3) := by decide +kernel
theorem dX5_drop_18 : decode cX5_drop 18 = .ok (.getfield 84, 3) := by decide +kernel
theorem dX5_drop_21 : decode cX5_drop 21 = .ok (.iload_n 1, 1) := by decide +kernel
theorem dX5_drop_22 : decode cX5_drop 22 = .ok (.laload, 1) := by decide +kernel
theorem dX5_drop_23 : decode cX5_drop 23 = .ok (.lstore_n 2, 1) := by decide +kernel
theorem dX5_drop_24 : decode cX5_drop 24 = .ok (.aload_n 0, 1) := by decide +kernel
theorem dX5_drop_25 : decode cX5_drop 25 = .ok (.getfield 26, 3) := by decide +kernel
theorem dX5_drop_28 : decode cX5_drop 28 = .ok (.iload_n 1, 1) := by decide +kernel
theorem dX5_drop_29 : decode cX5_drop 29 = .ok (.invokevirtual 98, 3) := by decide +kernel
theorem dX5_drop_32 : decode cX5_drop 32 = .ok (.lload_n 2, 1) := by decide +kernel
theorem dX5_drop_33 : decode cX5_drop 33 = .ok (.lreturn, 1) := by decide +kernel
set_option maxRecDepth 20000 in
theorem ggX5_weight_X5_takePlace : GoodIn wsX5_weight wsX5_takePlace := goodIn_r _ [8, 2, 9, 10, 11, 12, 7, 13, 14, 15, 16, 17, 18, 19, 20, 21, 22, 23, 24, 25, 26, 27, 28, 29, 30, 31, 32, 33, 34, 35, 36, 37, 38, 39, 40, 41, 42, 43, 44, 45, 46, 47, 48, 49, 50, 51, 52, 53, 54, 55, 56, 57, 58, 59, 60, 61, 62, 63, 64, 65, 66, 67, 68, 69, 70, 75, 76, 77, 78, 71, 72, 73, 74] (by decide +kernel) (by decide +kernel)
set_option maxRecDepth 20000 in
theorem gX5_weight_X5_takePlace : GoodIn wsX5_weight (wsV RX5 92 RX5 yX5_takePlace wsX5_takePlace) := goodIn_app (goodIn_of _ (by decide +kernel)) ggX5_weight_X5_takePlace
theorem dX5_weight_0 : decode cX5_weight 0 = .ok (.aload_n 0, 1) := by decide +kernel
theorem dX5_weight_1 : decode cX5_weight 1 = .ok (.invokevirtual 92, 3) := by decide +kernel
theorem dX5_weight_4 : decode cX5_weight 4 = .ok (.istore_n 1, 1) := by decide +kernel
theorem dX5_weight_5 : decode cX5_weight 5 = .ok (.iload_n 1, 1) := by decide +kernel
theorem dX5_weight_6 : decode cX5_weight 6 = .ok (.iconst (-1), 1) := by decide +kernel
theorem dX5_weight_7 : decode cX5_weight 7 = .ok (.if_icmp .ne 9, 3) := by decide +kernel
theorem dX5_weight_10 : decode cX5_weight 10 = .ok (.ldc2_w 96, 3) := by decide +kernel
theorem dX5_weight_13 : decode cX5_weight 13 = .ok (.goto 12, 3) := by decide +kernel
theorem dX5_weight_16 : decode cX5_weight 16 = .ok (.aload_n 0, 1) := by decide +kernel
theorem dX5_weight_17 : decode cX5_weight 17 = .ok (.getfield 26, 3) := by decide +kernel
theorem dX5_weight_20 : decode cX5_weight 20 = .ok (.getfield 84, 3) := by decide +kernel
theorem dX5_weight_23 : decode cX5_weight 23 = .ok (.iload_n 1, 1) := by decide +kernel
theorem dX5_weight_24 : decode cX5_weight 24 = .ok (.laload, 1) := by decide +kernel
theorem dX5_weight_25 : decode cX5_weight 25 = .ok (.lreturn, 1) := by decide +kernel
set_option maxRecDepth 20000 in
theorem ggX5_ask_X5_takeLetters : GoodIn wsX5_ask wsX5_takeLetters := goodIn_r _ [12, 13, 14, 6, 15, 16, 17, 18, 11, 19, 20, 21, 22, 23, 24, 25, 26, 73, 74, 75, 76, 77, 88, 89, 90, 91] (by decide +kernel) (by decide +kernel)
set_option maxRecDepth 20000 in
theorem gX5_ask_X5_takeLetters : GoodIn wsX5_ask (wsV RX5 101 RX5 yX5_takeLetters wsX5_takeLetters) := goodIn_app (goodIn_of _ (by decide +kernel)) ggX5_ask_X5_takeLetters
set_option maxRecDepth 20000 in
theorem ggX5_ask_X1_nearness : GoodIn wsX5_ask wsX1_nearness := goodIn_r _ [31, 32, 33, 34, 35, 36, 37, 38, 39, 40, 41, 42, 30, 43, 44, 90, 91, 92, 84, 85, 86, 87] (by decide +kernel) (by decide +kernel)
set_option maxRecDepth 20000 in
theorem gX5_ask_X1_nearness : GoodIn wsX5_ask (wsV RX5 108 RX1 yX1_nearness wsX1_nearness) := goodIn_app (goodIn_of _ (by decide +kernel)) ggX5_ask_X1_nearness
set_option maxRecDepth 20000 in
theorem ggX5_ask_X2_offer : GoodIn wsX5_ask wsX2_offer := goodIn_r _ [49, 50, 51, 52, 35, 36, 37, 53, 54, 78, 79, 80, 81, 82, 83] (by decide +kernel) (by decide +kernel)
set_option maxRecDepth 20000 in
theorem gX5_ask_X2_offer : GoodIn wsX5_ask (wsV RX5 112 RX2 yX2_offer wsX2_offer) := goodIn_app (goodIn_of _ (by decide +kernel)) ggX5_ask_X2_offer
set_option maxRecDepth 20000 in
theorem ggX5_ask_X2_keepLetters : GoodIn wsX5_ask wsX2_keepLetters := goodIn_r _ [58, 50, 53, 59, 60, 61, 62, 63, 64, 65, 66, 67, 68, 69, 70, 71, 72, 78, 79, 80, 81, 82, 83, 84, 85, 86, 87] (by decide +kernel) (by decide +kernel)
set_option maxRecDepth 20000 in
theorem gX5_ask_X2_keepLetters : GoodIn wsX5_ask (wsV RX5 116 RX2 yX2_keepLetters wsX2_keepLetters) := goodIn_app (goodIn_of _ (by decide +kernel)) ggX5_ask_X2_keepLetters
theorem dX5_ask_0 : decode cX5_ask 0 = .ok (.aload_n 0, 1) := by decide +kernel
theorem dX5_ask_1 : decode cX5_ask 1 = .ok (.invokevirtual 101, 3) := by decide +kernel
theorem dX5_ask_4 : decode cX5_ask 4 = .ok (.ifCond .eq 23, 3) := by decide +kernel
theorem dX5_ask_7 : decode cX5_ask 7 = .ok (.iload_n 1, 1) := by decide +kernel
theorem dX5_ask_8 : decode cX5_ask 8 = .ok (.iconst 1, 1) := by decide +kernel
theorem dX5_ask_9 : decode cX5_ask 9 = .ok (.if_icmp .lt 18, 3) := by decide +kernel
theorem dX5_ask_12 : decode cX5_ask 12 = .ok (.iload_n 1, 1) := by decide +kernel
theorem dX5_ask_13 : decode cX5_ask 13 = .ok (.bipush 50, 2) := by decide +kernel
theorem dX5_ask_15 : decode cX5_ask 15 = .ok (.if_icmp .gt 12, 3) := by decide +kernel
theorem dX5_ask_18 : decode cX5_ask 18 = .ok (.iload_n 2, 1) := by decide +kernel
theorem dX5_ask_19 : decode cX5_ask 19 = .ok (.ifCond .lt 8, 3) := by decide +kernel
theorem dX5_ask_22 : decode cX5_ask 22 = .ok (.iload_n 2, 1) := by decide +kernel
theorem dX5_ask_23 : decode cX5_ask 23 = .ok (.iconst 2, 1) := by decide +kernel
theorem dX5_ask_24 : decode cX5_ask 24 = .ok (.if_icmp .le 5, 3) := by decide +kernel
theorem dX5_ask_27 : decode cX5_ask 27 = .ok (.iconst (-1), 1) := by decide +kernel
theorem dX5_ask_28 : decode cX5_ask 28 = .ok (.ireturn, 1) := by decide +kernel
theorem dX5_ask_29 : decode cX5_ask 29 = .ok (.aload_n 0, 1) := by decide +kernel
theorem dX5_ask_30 : decode cX5_ask 30 = .ok (.getfield 40, 3) := by decide +kernel
theorem dX5_ask_33 : decode cX5_ask 33 = .ok (.iconst 0, 1) := by decide +kernel
theorem dX5_ask_34 : decode cX5_ask 34 = .ok (.putfield 104, 3) := by decide +kernel
theorem dX5_ask_37 : decode cX5_ask 37 = .ok (.iconst 0, 1) := by decide +kernel
theorem dX5_ask_38 : decode cX5_ask 38 = .ok (.istore_n 3, 1) := by decide +kernel
theorem dX5_ask_39 : decode cX5_ask 39 = .ok (.iload_n 3, 1) := by decide +kernel
theorem dX5_ask_40 : decode cX5_ask 40 = .ok (.aload_n 0, 1) := by decide +kernel
theorem dX5_ask_41 : decode cX5_ask 41 = .ok (.getfield 26, 3) := by decide +kernel
theorem dX5_ask_44 : decode cX5_ask 44 = .ok (.getfield 107, 3) := by decide +kernel
theorem dX5_ask_47 : decode cX5_ask 47 = .ok (.if_icmp .ge 54, 3) := by decide +kernel
theorem dX5_ask_50 : decode cX5_ask 50 = .ok (.aload_n 0, 1) := by decide +kernel
theorem dX5_ask_51 : decode cX5_ask 51 = .ok (.getfield 33, 3) := by decide +kernel
theorem dX5_ask_54 : decode cX5_ask 54 = .ok (.aload_n 0, 1) := by decide +kernel
theorem dX5_ask_55 : decode cX5_ask 55 = .ok (.getfield 19, 3) := by decide +kernel
theorem dX5_ask_58 : decode cX5_ask 58 = .ok (.aload_n 0, 1) := by decide +kernel
theorem dX5_ask_59 : decode cX5_ask 59 = .ok (.getfield 26, 3) := by decide +kernel
theorem dX5_ask_62 : decode cX5_ask 62 = .ok (.iload_n 3, 1) := by decide +kernel
theorem dX5_ask_63 : decode cX5_ask 63 = .ok (.iload_n 2, 1) := by decide +kernel
theorem dX5_ask_64 : decode cX5_ask 64 = .ok (.invokevirtual 108, 3) := by decide +kernel
theorem dX5_ask_67 : decode cX5_ask 67 = .ok (.istore 4, 2) := by decide +kernel
theorem dX5_ask_69 : decode cX5_ask 69 = .ok (.iload 4, 2) := by decide +kernel
theorem dX5_ask_71 : decode cX5_ask 71 = .ok (.iload_n 2, 1) := by decide +kernel
theorem dX5_ask_72 : decode cX5_ask 72 = .ok (.if_icmp .gt 23, 3) := by decide +kernel
theorem dX5_ask_75 : decode cX5_ask 75 = .ok (.aload_n 0, 1) := by decide +kernel
theorem dX5_ask_76 : decode cX5_ask 76 = .ok (.getfield 40, 3) := by decide +kernel
theorem dX5_ask_79 : decode cX5_ask 79 = .ok (.iload_n 3, 1) := by decide +kernel
theorem dX5_ask_80 : decode cX5_ask 80 = .ok (.aload_n 0, 1) := by decide +kernel
theorem dX5_ask_81 : decode cX5_ask 81 = .ok (.getfield 26, 3) := by decide +kernel
theorem dX5_ask_84 : decode cX5_ask 84 = .ok (.getfield 84, 3) := by decide +kernel
theorem dX5_ask_87 : decode cX5_ask 87 = .ok (.iload_n 3, 1) := by decide +kernel
theorem dX5_ask_88 : decode cX5_ask 88 = .ok (.laload, 1) := by decide +kernel
theorem dX5_ask_89 : decode cX5_ask 89 = .ok (.iload 4, 2) := by decide +kernel
theorem dX5_ask_91 : decode cX5_ask 91 = .ok (.iload_n 1, 1) := by decide +kernel
theorem dX5_ask_92 : decode cX5_ask 92 = .ok (.invokevirtual 112, 3) := by decide +kernel
theorem dX5_ask_95 : decode cX5_ask 95 = .ok (.iinc 3 1, 3) := by decide +kernel
theorem dX5_ask_98 : decode cX5_ask 98 = .ok (.goto (-59), 3) := by decide +kernel
theorem dX5_ask_101 : decode cX5_ask 101 = .ok (.aload_n 0, 1) := by decide +kernel
theorem dX5_ask_102 : decode cX5_ask 102 = .ok (.getfield 40, 3) := by decide +kernel
theorem dX5_ask_105 : decode cX5_ask 105 = .ok (.aload_n 0, 1) := by decide +kernel
theorem dX5_ask_106 : decode cX5_ask 106 = .ok (.getfield 26, 3) := by decide +kernel
theorem dX5_ask_109 : decode cX5_ask 109 = .ok (.invokevirtual 116, 3) := by decide +kernel
theorem dX5_ask_112 : decode cX5_ask 112 = .ok (.aload_n 0, 1) := by decide +kernel
theorem dX5_ask_113 : decode cX5_ask 113 = .ok (.getfield 40, 3) := by decide +kernel
theorem dX5_ask_116 : decode cX5_ask 116 = .ok (.getfield 104, 3) := by decide +kernel
theorem dX5_ask_119 : decode cX5_ask 119 = .ok (.ireturn, 1) := by decide +kernel
set_option maxRecDepth 20000 in
theorem ggX5_near_X5_takeLetters : GoodIn wsX5_near wsX5_takeLetters := goodIn_r _ [9, 10, 11, 4, 12, 13, 14, 15, 8, 16, 17, 18, 19, 20, 21, 22, 23, 42, 43, 44, 45, 46, 51, 52, 53, 54] (by decide +kernel) (by decide +kernel)
set_option maxRecDepth 20000 in
theorem gX5_near_X5_takeLetters : GoodIn wsX5_near (wsV RX5 101 RX5 yX5_takeLetters wsX5_takeLetters) := goodIn_app (goodIn_of _ (by decide +kernel)) ggX5_near_X5_takeLetters
set_option maxRecDepth 20000 in
theorem ggX5_near_X1_nearness : GoodIn wsX5_near wsX1_nearness := goodIn_r _ [28, 29, 30, 31, 32, 33, 34, 35, 36, 37, 38, 39, 27, 40, 41, 53, 54, 55, 47, 48, 49, 50] (by decide +kernel) (by decide +kernel)
set_option maxRecDepth 20000 in
theorem gX5_near_X1_nearness : GoodIn wsX5_near (wsV RX5 108 RX1 yX1_nearness wsX1_nearness) := goodIn_app (goodIn_of _ (by decide +kernel)) ggX5_near_X1_nearness
theorem dX5_near_0 : decode cX5_near 0 = .ok (.aload_n 0, 1) := by decide +kernel
theorem dX5_near_1 : decode cX5_near 1 = .ok (.invokevirtual 101, 3) := by decide +kernel
theorem dX5_near_4 : decode cX5_near 4 = .ok (.ifCond .eq 12, 3) := by decide +kernel
theorem dX5_near_7 : decode cX5_near 7 = .ok (.iload_n 1, 1) := by decide +kernel
theorem dX5_near_8 : decode cX5_near 8 = .ok (.ifCond .lt 8, 3) := by decide +kernel
theorem dX5_near_11 : decode cX5_near 11 = .ok (.iload_n 1, 1) := by decide +kernel
theorem dX5_near_12 : decode cX5_near 12 = .ok (.iconst 2, 1) := by decide +kernel
theorem dX5_near_13 : decode cX5_near 13 = .ok (.if_icmp .le 5, 3) := by decide +kernel
theorem dX5_near_16 : decode cX5_near 16 = .ok (.iconst (-1), 1) := by decide +kernel
theorem dX5_near_17 : decode cX5_near 17 = .ok (.ireturn, 1) := by decide +kernel
theorem dX5_near_18 : decode cX5_near 18 = .ok (.iconst 0, 1) := by decide +kernel
theorem dX5_near_19 : decode cX5_near 19 = .ok (.istore_n 2, 1) := by decide +kernel
theorem dX5_near_20 : decode cX5_near 20 = .ok (.iconst 0, 1) := by decide +kernel
theorem dX5_near_21 : decode cX5_near 21 = .ok (.istore_n 3, 1) := by decide +kernel
theorem dX5_near_22 : decode cX5_near 22 = .ok (.iload_n 3, 1) := by decide +kernel
theorem dX5_near_23 : decode cX5_near 23 = .ok (.aload_n 0, 1) := by decide +kernel
theorem dX5_near_24 : decode cX5_near 24 = .ok (.getfield 26, 3) := by decide +kernel
theorem dX5_near_27 : decode cX5_near 27 = .ok (.getfield 107, 3) := by decide +kernel
theorem dX5_near_30 : decode cX5_near 30 = .ok (.if_icmp .ge 33, 3) := by decide +kernel
theorem dX5_near_33 : decode cX5_near 33 = .ok (.aload_n 0, 1) := by decide +kernel
theorem dX5_near_34 : decode cX5_near 34 = .ok (.getfield 33, 3) := by decide +kernel
theorem dX5_near_37 : decode cX5_near 37 = .ok (.aload_n 0, 1) := by decide +kernel
theorem dX5_near_38 : decode cX5_near 38 = .ok (.getfield 19, 3) := by decide +kernel
theorem dX5_near_41 : decode cX5_near 41 = .ok (.aload_n 0, 1) := by decide +kernel
theorem dX5_near_42 : decode cX5_near 42 = .ok (.getfield 26, 3) := by decide +kernel
theorem dX5_near_45 : decode cX5_near 45 = .ok (.iload_n 3, 1) := by decide +kernel
theorem dX5_near_46 : decode cX5_near 46 = .ok (.iload_n 1, 1) := by decide +kernel
theorem dX5_near_47 : decode cX5_near 47 = .ok (.invokevirtual 108, 3) := by decide +kernel
theorem dX5_near_50 : decode cX5_near 50 = .ok (.iload_n 1, 1) := by decide +kernel
theorem dX5_near_51 : decode cX5_near 51 = .ok (.if_icmp .gt 6, 3) := by decide +kernel
theorem dX5_near_54 : decode cX5_near 54 = .ok (.iinc 2 1, 3) := by decide +kernel
theorem dX5_near_57 : decode cX5_near 57 = .ok (.iinc 3 1, 3) := by decide +kernel
theorem dX5_near_60 : decode cX5_near 60 = .ok (.goto (-38), 3) := by decide +kernel
theorem dX5_near_63 : decode cX5_near 63 = .ok (.iload_n 2, 1) := by decide +kernel
theorem dX5_near_64 : decode cX5_near 64 = .ok (.ireturn, 1) := by decide +kernel
set_option maxRecDepth 20000 in
theorem ggX5_best_X5_takeLetters : GoodIn wsX5_best wsX5_takeLetters := goodIn_r _ [14, 15, 16, 3, 17, 18, 19, 20, 13, 21, 22, 23, 24, 25, 26, 27, 28, 58, 59, 60, 61, 62, 67, 68, 69, 70] (by decide +kernel) (by decide +kernel)
set_option maxRecDepth 20000 in
theorem gX5_best_X5_takeLetters : GoodIn wsX5_best (wsV RX5 101 RX5 yX5_takeLetters wsX5_takeLetters) := goodIn_app (goodIn_of _ (by decide +kernel)) ggX5_best_X5_takeLetters
set_option maxRecDepth 20000 in
theorem ggX5_best_X0_placeOf : GoodIn wsX5_best wsX0_placeOf := goodIn_r _ [33, 34, 35, 36, 37, 32, 38, 39, 40, 41, 42, 43, 44, 45, 46, 47, 48, 8, 49, 50, 51, 52, 53, 63, 64, 65, 66, 69, 70] (by decide +kernel) (by decide +kernel)
set_option maxRecDepth 20000 in
theorem gX5_best_X0_placeOf : GoodIn wsX5_best (wsV RX5 76 RX0 yX0_placeOf wsX0_placeOf) := goodIn_app (goodIn_of _ (by decide +kernel)) ggX5_best_X0_placeOf
set_option maxRecDepth 20000 in
theorem ggX5_best_X0_beginsWith : GoodIn wsX5_best wsX0_beginsWith := goodIn_r _ [57, 39, 43, 44, 45, 32, 46, 47, 48, 8, 49, 40, 41, 42, 50, 51, 52, 53, 69, 70, 63, 64, 65, 66] (by decide +kernel) (by decide +kernel)
set_option maxRecDepth 20000 in
theorem gX5_best_X0_beginsWith : GoodIn wsX5_best (wsV RX5 120 RX0 yX0_beginsWith wsX0_beginsWith) := goodIn_app (goodIn_of _ (by decide +kernel)) ggX5_best_X0_beginsWith
theorem dX5_best_0 : decode cX5_best 0 = .ok (.aload_n 0, 1) := by decide +kernel
theorem dX5_best_1 : decode cX5_best 1 = .ok (.invokevirtual 101, 3) := by decide +kernel
theorem dX5_best_4 : decode cX5_best 4 = .ok (.ifCond .ne 7, 3) := by decide +kernel
theorem dX5_best_7 : decode cX5_best 7 = .ok (.ldc2_w 96, 3) := by decide +kernel
theorem dX5_best_10 : decode cX5_best 10 = .ok (.lreturn, 1) := by decide +kernel
theorem dX5_best_11 : decode cX5_best 11 = .ok (.ldc2_w 96, 3) := by decide +kernel
theorem dX5_best_14 : decode cX5_best 14 = .ok (.lstore_n 1, 1) := by decide +kernel
theorem dX5_best_15 : decode cX5_best 15 = .ok (.aload_n 0, 1) := by decide +kernel
theorem dX5_best_16 : decode cX5_best 16 = .ok (.getfield 26, 3) := by decide +kernel
theorem dX5_best_19 : decode cX5_best 19 = .ok (.aload_n 0, 1) := by decide +kernel
theorem dX5_best_20 : decode cX5_best 20 = .ok (.getfield 19, 3) := by decide +kernel
theorem dX5_best_23 : decode cX5_best 23 = .ok (.invokevirtual 76, 3) := by decide +kernel
theorem dX5_best_26 : decode cX5_best 26 = .ok (.istore_n 3, 1) := by decide +kernel
theorem dX5_best_27 : decode cX5_best 27 = .ok (.iload_n 3, 1) := by decide +kernel
theorem dX5_best_28 : decode cX5_best 28 = .ok (.aload_n 0, 1) := by decide +kernel
theorem dX5_best_29 : decode cX5_best 29 = .ok (.getfield 26, 3) := by decide +kernel
theorem dX5_best_32 : decode cX5_best 32 = .ok (.getfield 107, 3) := by decide +kernel
theorem dX5_best_35 : decode cX5_best 35 = .ok (.if_icmp .ge 38, 3) := by decide +kernel
theorem dX5_best_38 : decode cX5_best 38 = .ok (.aload_n 0, 1) := by decide +kernel
theorem dX5_best_39 : decode cX5_best 39 = .ok (.getfield 26, 3) := by decide +kernel
theorem dX5_best_42 : decode cX5_best 42 = .ok (.iload_n 3, 1) := by decide +kernel
theorem dX5_best_43 : decode cX5_best 43 = .ok (.aload_n 0, 1) := by decide +kernel
theorem dX5_best_44 : decode cX5_best 44 = .ok (.getfield 19, 3) := by decide +kernel
theorem dX5_best_47 : decode cX5_best 47 = .ok (.invokevirtual 120, 3) := by decide +kernel
theorem dX5_best_50 : decode cX5_best 50 = .ok (.ifCond .eq 23, 3) := by decide +kernel
theorem dX5_best_53 : decode cX5_best 53 = .ok (.lload_n 1, 1) := by decide +kernel
theorem dX5_best_54 : decode cX5_best 54 = .ok (.aload_n 0, 1) := by decide +kernel
theorem dX5_best_55 : decode cX5_best 55 = .ok (.getfield 26, 3) := by decide +kernel
theorem dX5_best_58 : decode cX5_best 58 = .ok (.getfield 84, 3) := by decide +kernel
theorem dX5_best_61 : decode cX5_best 61 = .ok (.iload_n 3, 1) := by decide +kernel
theorem dX5_best_62 : decode cX5_best 62 = .ok (.laload, 1) := by decide +kernel
theorem dX5_best_63 : decode cX5_best 63 = .ok (.invokestatic 123, 3) := by decide +kernel
theorem dX5_best_66 : decode cX5_best 66 = .ok (.lstore_n 1, 1) := by decide +kernel
theorem dX5_best_67 : decode cX5_best 67 = .ok (.iinc 3 1, 3) := by decide +kernel
theorem dX5_best_70 : decode cX5_best 70 = .ok (.goto (-43), 3) := by decide +kernel
theorem dX5_best_73 : decode cX5_best 73 = .ok (.lload_n 1, 1) := by decide +kernel
theorem dX5_best_74 : decode cX5_best 74 = .ok (.lreturn, 1) := by decide +kernel
set_option maxRecDepth 20000 in
theorem ggX5_rank_X5_takePlace : GoodIn wsX5_rank wsX5_takePlace := goodIn_r _ [6, 1, 7, 8, 9, 10, 5, 11, 12, 13, 14, 15, 16, 17, 18, 19, 20, 21, 22, 23, 24, 25, 26, 27, 28, 29, 30, 31, 32, 33, 34, 35, 36, 37, 38, 39, 40, 41, 42, 43, 44, 45, 46, 47, 48, 49, 50, 51, 52, 53, 54, 55, 56, 57, 58, 59, 60, 61, 62, 63, 69, 70, 71, 72, 73, 74, 75, 76, 77, 78, 79, 80, 81] (by decide +kernel) (by decide +kernel)
set_option maxRecDepth 20000 in
theorem gX5_rank_X5_takePlace : GoodIn wsX5_rank (wsV RX5 92 RX5 yX5_takePlace wsX5_takePlace) := goodIn_app (goodIn_of _ (by decide +kernel)) ggX5_rank_X5_takePlace
set_option maxRecDepth 20000 in
theorem ggX5_rank_X0_rankOf : GoodIn wsX5_rank wsX0_rankOf := goodIn_r _ [67, 35, 68, 78, 79, 80, 81] (by decide +kernel) (by decide +kernel)
set_option maxRecDepth 20000 in
theorem gX5_rank_X0_rankOf : GoodIn wsX5_rank (wsV RX5 129 RX0 yX0_rankOf wsX0_rankOf) := goodIn_app (goodIn_of _ (by decide +kernel)) ggX5_rank_X0_rankOf
theorem dX5_rank_0 : decode cX5_rank 0 = .ok (.aload_n 0, 1) := by decide +kernel
theorem dX5_rank_1 : decode cX5_rank 1 = .ok (.invokevirtual 92, 3) := by decide +kernel
theorem dX5_rank_4 : decode cX5_rank 4 = .ok (.istore_n 1, 1) := by decide +kernel
theorem dX5_rank_5 : decode cX5_rank 5 = .ok (.iload_n 1, 1) := by decide +kernel
theorem dX5_rank_6 : decode cX5_rank 6 = .ok (.iconst (-1), 1) := by decide +kernel
theorem dX5_rank_7 : decode cX5_rank 7 = .ok (.if_icmp .ne 7, 3) := by decide +kernel
theorem dX5_rank_10 : decode cX5_rank 10 = .ok (.iconst (-1), 1) := by decide +kernel
theorem dX5_rank_11 : decode cX5_rank 11 = .ok (.goto 11, 3) := by decide +kernel
theorem dX5_rank_14 : decode cX5_rank 14 = .ok (.aload_n 0, 1) := by decide +kernel
theorem dX5_rank_15 : decode cX5_rank 15 = .ok (.getfield 26, 3) := by decide +kernel
theorem dX5_rank_18 : decode cX5_rank 18 = .ok (.iload_n 1, 1) := by decide +kernel
theorem dX5_rank_19 : decode cX5_rank 19 = .ok (.invokevirtual 129, 3) := by decide +kernel
theorem dX5_rank_22 : decode cX5_rank 22 = .ok (.ireturn, 1) := by decide +kernel
theorem dX5_found_0 : decode cX5_found 0 = .ok (.aload_n 0, 1) := by decide +kernel
theorem dX5_found_1 : decode cX5_found 1 = .ok (.getfield 40, 3) := by decide +kernel
theorem dX5_found_4 : decode cX5_found 4 = .ok (.getfield 104, 3) := by decide +kernel
theorem dX5_found_7 : decode cX5_found 7 = .ok (.ireturn, 1) := by decide +kernel
set_option maxRecDepth 20000 in
theorem ggX5_letter_X2_letterOf : GoodIn wsX5_letter wsX2_letterOf := goodIn_r _ [6, 7, 8, 9, 15, 16, 17, 18, 19, 20] (by decide +kernel) (by decide +kernel)
set_option maxRecDepth 20000 in
theorem gX5_letter_X2_letterOf : GoodIn wsX5_letter (wsV RX5 132 RX2 yX2_letterOf wsX2_letterOf) := goodIn_app (goodIn_of _ (by decide +kernel)) ggX5_letter_X2_letterOf
theorem dX5_letter_0 : decode cX5_letter 0 = .ok (.aload_n 0, 1) := by decide +kernel
theorem dX5_letter_1 : decode cX5_letter 1 = .ok (.getfield 40, 3) := by decide +kernel
theorem dX5_letter_4 : decode cX5_letter 4 = .ok (.iload_n 1, 1) := by decide +kernel
theorem dX5_letter_5 : decode cX5_letter 5 = .ok (.iload_n 2, 1) := by decide +kernel
theorem dX5_letter_6 : decode cX5_letter 6 = .ok (.invokevirtual 132, 3) := by decide +kernel
theorem dX5_letter_9 : decode cX5_letter 9 = .ok (.ireturn, 1) := by decide +kernel
theorem dX5_of_0 : decode cX5_of 0 = .ok (.iload_n 1, 1) := by decide +kernel
theorem dX5_of_1 : decode cX5_of 1 = .ok (.ifCond .lt 14, 3) := by decide +kernel
theorem dX5_of_4 : decode cX5_of 4 = .ok (.iload_n 1, 1) := by decide +kernel
theorem dX5_of_5 : decode cX5_of 5 = .ok (.aload_n 0, 1) := by decide +kernel
theorem dX5_of_6 : decode cX5_of 6 = .ok (.getfield 40, 3) := by decide +kernel
theorem dX5_of_9 : decode cX5_of 9 = .ok (.getfield 104, 3) := by decide +kernel
theorem dX5_of_12 : decode cX5_of 12 = .ok (.if_icmp .lt 7, 3) := by decide +kernel
theorem dX5_of_15 : decode cX5_of 15 = .ok (.ldc2_w 96, 3) := by decide +kernel
theorem dX5_of_18 : decode cX5_of 18 = .ok (.lreturn, 1) := by decide +kernel
theorem dX5_of_19 : decode cX5_of 19 = .ok (.iload_n 2, 1) := by decide +kernel
theorem dX5_of_20 : decode cX5_of 20 = .ok (.tableswitch 60 0 2 #[28, 39, 49], 28) := by decide +kernel
theorem dX5_of_48 : decode cX5_of 48 = .ok (.aload_n 0, 1) := by decide +kernel
theorem dX5_of_49 : decode cX5_of 49 = .ok (.getfield 40, 3) := by decide +kernel
theorem dX5_of_52 : decode cX5_of 52 = .ok (.getfield 136, 3) := by decide +kernel
theorem dX5_of_55 : decode cX5_of 55 = .ok (.iload_n 1, 1) := by decide +kernel
theorem dX5_of_56 : decode cX5_of 56 = .ok (.iaload, 1) := by decide +kernel
theorem dX5_of_57 : decode cX5_of 57 = .ok (.i2l, 1) := by decide +kernel
theorem dX5_of_58 : decode cX5_of 58 = .ok (.lreturn, 1) := by decide +kernel
theorem dX5_of_59 : decode cX5_of 59 = .ok (.aload_n 0, 1) := by decide +kernel
theorem dX5_of_60 : decode cX5_of 60 = .ok (.getfield 40, 3) := by decide +kernel
theorem dX5_of_63 : decode cX5_of 63 = .ok (.getfield 140, 3) := by decide +kernel
theorem dX5_of_66 : decode cX5_of 66 = .ok (.iload_n 1, 1) := by decide +kernel
theorem dX5_of_67 : decode cX5_of 67 = .ok (.laload, 1) := by decide +kernel
theorem dX5_of_68 : decode cX5_of 68 = .ok (.lreturn, 1) := by decide +kernel
theorem dX5_of_69 : decode cX5_of 69 = .ok (.aload_n 0, 1) := by decide +kernel
theorem dX5_of_70 : decode cX5_of 70 = .ok (.getfield 40, 3) := by decide +kernel
theorem dX5_of_73 : decode cX5_of 73 = .ok (.getfield 141, 3) := by decide +kernel
theorem dX5_of_76 : decode cX5_of 76 = .ok (.iload_n 1, 1) := by decide +kernel
theorem dX5_of_77 : decode cX5_of 77 = .ok (.iaload, 1) := by decide +kernel
theorem dX5_of_78 : decode cX5_of 78 = .ok (.i2l, 1) := by decide +kernel
theorem dX5_of_79 : decode cX5_of 79 = .ok (.lreturn, 1) := by decide +kernel
theorem dX5_of_80 : decode cX5_of 80 = .ok (.ldc2_w 96, 3) := by decide +kernel
theorem dX5_of_83 : decode cX5_of 83 = .ok (.lreturn, 1) := by decide +kernel
theorem dX5_terms_0 : decode cX5_terms 0 = .ok (.aload_n 0, 1) := by decide +kernel
theorem dX5_terms_1 : decode cX5_terms 1 = .ok (.getfield 26, 3) := by decide +kernel
theorem dX5_terms_4 : decode cX5_terms 4 = .ok (.getfield 107, 3) := by decide +kernel
theorem dX5_terms_7 : decode cX5_terms 7 = .ok (.ireturn, 1) := by decide +kernel
set_option maxRecDepth 20000 in
theorem ggX5_letters_X0_size : GoodIn wsX5_letters wsX0_size := goodIn_r _ [6, 7, 8, 14, 15, 16, 17] (by decide +kernel) (by decide +kernel)
set_option maxRecDepth 20000 in
theorem gX5_letters_X0_size : GoodIn wsX5_letters (wsV RX5 144 RX0 yX0_size wsX0_size) := goodIn_app (goodIn_of _ (by decide +kernel)) ggX5_letters_X0_size
theorem dX5_letters_0 : decode cX5_letters 0 = .ok (.aload_n 0, 1) := by decide +kernel
theorem dX5_letters_1 : decode cX5_letters 1 = .ok (.getfield 26, 3) := by decide +kernel
theorem dX5_letters_4 : decode cX5_letters 4 = .ok (.invokevirtual 144, 3) := by decide +kernel
theorem dX5_letters_7 : decode cX5_letters 7 = .ok (.ireturn, 1) := by decide +kernel
set_option maxRecDepth 20000 in
theorem ggX5_term_X0_letterOf : GoodIn wsX5_term wsX0_letterOf := goodIn_r _ [6, 7, 8, 9, 10, 11, 12, 5, 13, 19, 20, 21, 22] (by decide +kernel) (by decide +kernel)
set_option maxRecDepth 20000 in
theorem gX5_term_X0_letterOf : GoodIn wsX5_term (wsV RX5 146 RX0 yX0_letterOf wsX0_letterOf) := goodIn_app (goodIn_of _ (by decide +kernel)) ggX5_term_X0_letterOf
theorem dX5_term_0 : decode cX5_term 0 = .ok (.aload_n 0, 1) := by decide +kernel
theorem dX5_term_1 : decode cX5_term 1 = .ok (.getfield 26, 3) := by decide +kernel
theorem dX5_term_4 : decode cX5_term 4 = .ok (.iload_n 1, 1) := by decide +kernel
theorem dX5_term_5 : decode cX5_term 5 = .ok (.iload_n 2, 1) := by decide +kernel
theorem dX5_term_6 : decode cX5_term 6 = .ok (.invokevirtual 146, 3) := by decide +kernel
theorem dX5_term_9 : decode cX5_term 9 = .ok (.ireturn, 1) := by decide +kernel
set_option maxRecDepth 20000 in
theorem ggX5_prefixes_X0_countPrefixes : GoodIn wsX5_prefixes wsX0_countPrefixes := goodIn_r _ [6, 7, 8, 9, 10, 5, 11, 12, 13, 14, 15, 16, 17, 18, 19, 20, 21, 22, 23, 24, 25, 31, 32, 33, 34] (by decide +kernel) (by decide +kernel)
set_option maxRecDepth 20000 in
theorem gX5_prefixes_X0_countPrefixes : GoodIn wsX5_prefixes (wsV RX5 147 RX0 yX0_countPrefixes wsX0_countPrefixes) := goodIn_app (goodIn_of _ (by decide +kernel)) ggX5_prefixes_X0_countPrefixes
theorem dX5_prefixes_0 : decode cX5_prefixes 0 = .ok (.aload_n 0, 1) := by decide +kernel
theorem dX5_prefixes_1 : decode cX5_prefixes 1 = .ok (.getfield 26, 3) := by decide +kernel
theorem dX5_prefixes_4 : decode cX5_prefixes 4 = .ok (.invokevirtual 147, 3) := by decide +kernel
theorem dX5_prefixes_7 : decode cX5_prefixes 7 = .ok (.ireturn, 1) := by decide +kernel
set_option maxRecDepth 20000 in
theorem ggX5_takeLetters_X5_isSmallLetter : GoodIn wsX5_takeLetters wsX5_isSmallLetter := goodIn_r _ [9] (by decide +kernel) (by decide +kernel)
set_option maxRecDepth 20000 in
theorem gX5_takeLetters_X5_isSmallLetter : GoodIn wsX5_takeLetters (va_wsS RX5 150 yX5_isSmallLetter wsX5_isSmallLetter) := goodIn_app (goodIn_of _ (by decide +kernel)) ggX5_takeLetters_X5_isSmallLetter
set_option maxRecDepth 20000 in
theorem ggX5_takeLetters_X4_append : GoodIn wsX5_takeLetters wsX4_append := goodIn_r _ [14, 15, 16, 24, 25] (by decide +kernel) (by decide +kernel)
set_option maxRecDepth 20000 in
theorem gX5_takeLetters_X4_append : GoodIn wsX5_takeLetters (wsV RX5 64 RX4 yX4_append wsX4_append) := goodIn_app (goodIn_of _ (by decide +kernel)) ggX5_takeLetters_X4_append
theorem dX5_takeLetters_0 : decode cX5_takeLetters 0 = .ok (.aload_n 0, 1) := by decide +kernel
theorem dX5_takeLetters_1 : decode cX5_takeLetters 1 = .ok (.getfield 10, 3) := by decide +kernel
theorem dX5_takeLetters_4 : decode cX5_takeLetters 4 = .ok (.getfield 48, 3) := by decide +kernel
theorem dX5_takeLetters_7 : decode cX5_takeLetters 7 = .ok (.istore_n 1, 1) := by decide +kernel
theorem dX5_takeLetters_8 : decode cX5_takeLetters 8 = .ok (.aload_n 0, 1) := by decide +kernel
theorem dX5_takeLetters_9 : decode cX5_takeLetters 9 = .ok (.getfield 10, 3) := by decide +kernel
theorem dX5_takeLetters_12 : decode cX5_takeLetters 12 = .ok (.iconst 0, 1) := by decide +kernel
theorem dX5_takeLetters_13 : decode cX5_takeLetters 13 = .ok (.putfield 48, 3) := by decide +kernel
theorem dX5_takeLetters_16 : decode cX5_takeLetters 16 = .ok (.aload_n 0, 1) := by decide +kernel
theorem dX5_takeLetters_17 : decode cX5_takeLetters 17 = .ok (.getfield 19, 3) := by decide +kernel
theorem dX5_takeLetters_20 : decode cX5_takeLetters 20 = .ok (.iconst 0, 1) := by decide +kernel
theorem dX5_takeLetters_21 : decode cX5_takeLetters 21 = .ok (.putfield 53, 3) := by decide +kernel
theorem dX5_takeLetters_24 : decode cX5_takeLetters 24 = .ok (.iload_n 1, 1) := by decide +kernel
theorem dX5_takeLetters_25 : decode cX5_takeLetters 25 = .ok (.bipush 24, 2) := by decide +kernel
theorem dX5_takeLetters_27 : decode cX5_takeLetters 27 = .ok (.if_icmp .le 5, 3) := by decide +kernel
theorem dX5_takeLetters_30 : decode cX5_takeLetters 30 = .ok (.iconst 0, 1) := by decide +kernel
theorem dX5_takeLetters_31 : decode cX5_takeLetters 31 = .ok (.ireturn, 1) := by decide +kernel
theorem dX5_takeLetters_32 : decode cX5_takeLetters 32 = .ok (.iconst 0, 1) := by decide +kernel
theorem dX5_takeLetters_33 : decode cX5_takeLetters 33 = .ok (.istore_n 2, 1) := by decide +kernel
theorem dX5_takeLetters_34 : decode cX5_takeLetters 34 = .ok (.iload_n 2, 1) := by decide +kernel
theorem dX5_takeLetters_35 : decode cX5_takeLetters 35 = .ok (.iload_n 1, 1) := by decide +kernel
theorem dX5_takeLetters_36 : decode cX5_takeLetters 36 = .ok (.if_icmp .ge 42, 3) := by decide +kernel
theorem dX5_takeLetters_39 : decode cX5_takeLetters 39 = .ok (.aload_n 0, 1) := by decide +kernel
theorem dX5_takeLetters_40 : decode cX5_takeLetters 40 = .ok (.getfield 10, 3) := by decide +kernel
theorem dX5_takeLetters_43 : decode cX5_takeLetters 43 = .ok (.getfield 56, 3) := by decide +kernel
theorem dX5_takeLetters_46 : decode cX5_takeLetters 46 = .ok (.iload_n 2, 1) := by decide +kernel
theorem dX5_takeLetters_47 : decode cX5_takeLetters 47 = .ok (.baload, 1) := by decide +kernel
theorem dX5_takeLetters_48 : decode cX5_takeLetters 48 = .ok (.invokestatic 150, 3) := by decide +kernel
theorem dX5_takeLetters_51 : decode cX5_takeLetters 51 = .ok (.ifCond .ne 5, 3) := by decide +kernel
theorem dX5_takeLetters_54 : decode cX5_takeLetters 54 = .ok (.iconst 0, 1) := by decide +kernel
theorem dX5_takeLetters_55 : decode cX5_takeLetters 55 = .ok (.ireturn, 1) := by decide +kernel
theorem dX5_takeLetters_56 : decode cX5_takeLetters 56 = .ok (.aload_n 0, 1) := by decide +kernel
theorem dX5_takeLetters_57 : decode cX5_takeLetters 57 = .ok (.getfield 19, 3) := by decide +kernel
theorem dX5_takeLetters_60 : decode cX5_takeLetters 60 = .ok (.aload_n 0, 1) := by decide +kernel
theorem dX5_takeLetters_61 : decode cX5_takeLetters 61 = .ok (.getfield 10, 3) := by decide +kernel
theorem dX5_takeLetters_64 : decode cX5_takeLetters 64 = .ok (.getfield 56, 3) := by decide +kernel
theorem dX5_takeLetters_67 : decode cX5_takeLetters 67 = .ok (.iload_n 2, 1) := by decide +kernel
theorem dX5_takeLetters_68 : decode cX5_takeLetters 68 = .ok (.baload, 1) := by decide +kernel
theorem dX5_takeLetters_69 : decode cX5_takeLetters 69 = .ok (.invokevirtual 64, 3) := by decide +kernel
theorem dX5_takeLetters_72 : decode cX5_takeLetters 72 = .ok (.iinc 2 1, 3) := by decide +kernel
theorem dX5_takeLetters_75 : decode cX5_takeLetters 75 = .ok (.goto (-41), 3) := by decide +kernel
theorem dX5_takeLetters_78 : decode cX5_takeLetters 78 = .ok (.iconst 1, 1) := by decide +kernel
theorem dX5_takeLetters_79 : decode cX5_takeLetters 79 = .ok (.ireturn, 1) := by decide +kernel
set_option maxRecDepth 20000 in
theorem ggX5_takeTerm_X5_takeLetters : GoodIn wsX5_takeTerm wsX5_takeLetters := goodIn_r _ [7, 8, 9, 1, 2, 10, 11, 12, 6, 13, 14, 15, 16, 17, 18, 19, 20, 21, 22, 23, 24, 25, 28, 29, 26, 27] (by decide +kernel) (by decide +kernel)
set_option maxRecDepth 20000 in
theorem gX5_takeTerm_X5_takeLetters : GoodIn wsX5_takeTerm (wsV RX5 101 RX5 yX5_takeLetters wsX5_takeLetters) := goodIn_app (goodIn_of _ (by decide +kernel)) ggX5_takeTerm_X5_takeLetters
theorem dX5_takeTerm_0 : decode cX5_takeTerm 0 = .ok (.aload_n 0, 1) := by decide +kernel
theorem dX5_takeTerm_1 : decode cX5_takeTerm 1 = .ok (.invokevirtual 101, 3) := by decide +kernel
theorem dX5_takeTerm_4 : decode cX5_takeTerm 4 = .ok (.ifCond .eq 17, 3) := by decide +kernel
theorem dX5_takeTerm_7 : decode cX5_takeTerm 7 = .ok (.aload_n 0, 1) := by decide +kernel
theorem dX5_takeTerm_8 : decode cX5_takeTerm 8 = .ok (.getfield 19, 3) := by decide +kernel
theorem dX5_takeTerm_11 : decode cX5_takeTerm 11 = .ok (.getfield 53, 3) := by decide +kernel
theorem dX5_takeTerm_14 : decode cX5_takeTerm 14 = .ok (.ifCond .le 7, 3) := by decide +kernel
theorem dX5_takeTerm_17 : decode cX5_takeTerm 17 = .ok (.iconst 1, 1) := by decide +kernel
theorem dX5_takeTerm_18 : decode cX5_takeTerm 18 = .ok (.goto 4, 3) := by decide +kernel
theorem dX5_takeTerm_21 : decode cX5_takeTerm 21 = .ok (.iconst 0, 1) := by decide +kernel
theorem dX5_takeTerm_22 : decode cX5_takeTerm 22 = .ok (.ireturn, 1) := by decide +kernel
set_option maxRecDepth 20000 in
theorem ggX5_takePlace_X5_takeTerm : GoodIn wsX5_takePlace wsX5_takeTerm := goodIn_r _ [7, 2, 8, 9, 10, 11, 6, 12, 13, 14, 15, 16, 17, 18, 19, 20, 21, 22, 23, 24, 25, 60, 61, 62, 63, 64, 65, 66, 67, 68] (by decide +kernel) (by decide +kernel)
set_option maxRecDepth 20000 in
theorem gX5_takePlace_X5_takeTerm : GoodIn wsX5_takePlace (wsV RX5 70 RX5 yX5_takeTerm wsX5_takeTerm) := goodIn_app (goodIn_of _ (by decide +kernel)) ggX5_takePlace_X5_takeTerm
set_option maxRecDepth 20000 in
theorem ggX5_takePlace_X0_placeOf : GoodIn wsX5_takePlace wsX0_placeOf := goodIn_r _ [30, 31, 32, 33, 34, 29, 35, 36, 37, 38, 39, 40, 41, 42, 43, 44, 45, 46, 47, 48, 49, 50, 51, 69, 70, 71, 72, 65, 66] (by decide +kernel) (by decide +kernel)
set_option maxRecDepth 20000 in
theorem gX5_takePlace_X0_placeOf : GoodIn wsX5_takePlace (wsV RX5 76 RX0 yX0_placeOf wsX0_placeOf) := goodIn_app (goodIn_of _ (by decide +kernel)) ggX5_takePlace_X0_placeOf
set_option maxRecDepth 20000 in
theorem ggX5_takePlace_X0_standsAt : GoodIn wsX5_takePlace wsX0_standsAt := goodIn_r _ [55, 31, 36, 48, 49, 50, 29, 51, 38, 56, 57, 58, 59, 40, 41, 42, 43, 44, 45, 46, 47, 37, 39, 69, 70, 71, 72, 65, 66] (by decide +kernel) (by decide +kernel)
set_option maxRecDepth 20000 in
theorem gX5_takePlace_X0_standsAt : GoodIn wsX5_takePlace (wsV RX5 80 RX0 yX0_standsAt wsX0_standsAt) := goodIn_app (goodIn_of _ (by decide +kernel)) ggX5_takePlace_X0_standsAt
theorem dX5_takePlace_0 : decode cX5_takePlace 0 = .ok (.aload_n 0, 1) := by decide +kernel
theorem dX5_takePlace_1 : decode cX5_takePlace 1 = .ok (.invokevirtual 70, 3) := by decide +kernel
theorem dX5_takePlace_4 : decode cX5_takePlace 4 = .ok (.ifCond .ne 5, 3) := by decide +kernel
theorem dX5_takePlace_7 : decode cX5_takePlace 7 = .ok (.iconst (-1), 1) := by decide +kernel
theorem dX5_takePlace_8 : decode cX5_takePlace 8 = .ok (.ireturn, 1) := by decide +kernel
theorem dX5_takePlace_9 : decode cX5_takePlace 9 = .ok (.aload_n 0, 1) := by decide +kernel
theorem dX5_takePlace_10 : decode cX5_takePlace 10 = .ok (.getfield 26, 3) := by decide +kernel
theorem dX5_takePlace_13 : decode cX5_takePlace 13 = .ok (.aload_n 0, 1) := by decide +kernel
theorem dX5_takePlace_14 : decode cX5_takePlace 14 = .ok (.getfield 19, 3) := by decide +kernel
theorem dX5_takePlace_17 : decode cX5_takePlace 17 = .ok (.invokevirtual 76, 3) := by decide +kernel
theorem dX5_takePlace_20 : decode cX5_takePlace 20 = .ok (.istore_n 1, 1) := by decide +kernel
theorem dX5_takePlace_21 : decode cX5_takePlace 21 = .ok (.aload_n 0, 1) := by decide +kernel
theorem dX5_takePlace_22 : decode cX5_takePlace 22 = .ok (.getfield 26, 3) := by decide +kernel
theorem dX5_takePlace_25 : decode cX5_takePlace 25 = .ok (.iload_n 1, 1) := by decide +kernel
theorem dX5_takePlace_26 : decode cX5_takePlace 26 = .ok (.aload_n 0, 1) := by decide +kernel
theorem dX5_takePlace_27 : decode cX5_takePlace 27 = .ok (.getfield 19, 3) := by decide +kernel
theorem dX5_takePlace_30 : decode cX5_takePlace 30 = .ok (.invokevirtual 80, 3) := by decide +kernel
theorem dX5_takePlace_33 : decode cX5_takePlace 33 = .ok (.ifCond .eq 7, 3) := by decide +kernel
theorem dX5_takePlace_36 : decode cX5_takePlace 36 = .ok (.iload_n 1, 1) := by decide +kernel
theorem dX5_takePlace_37 : decode cX5_takePlace 37 = .ok (.goto 4, 3) := by decide +kernel
theorem dX5_takePlace_40 : decode cX5_takePlace 40 = .ok (.iconst (-1), 1) := by decide +kernel
theorem dX5_takePlace_41 : decode cX5_takePlace 41 = .ok (.ireturn, 1) := by decide +kernel
set_option maxRecDepth 20000 in
theorem ggX5_takeUse_X0_grow : GoodIn wsX5_takeUse wsX0_grow := goodIn_r _ [8, 9, 10, 11, 12, 13, 14, 15, 16, 17, 7, 18, 19, 20, 21, 22, 23, 24, 25, 26, 27, 28, 29, 30, 31, 32, 33, 34, 35, 36, 37, 38, 39, 40, 41, 42, 43, 44, 45, 46, 47, 48, 49, 50, 51, 52, 53, 54, 55, 56, 57, 58, 66, 67, 68, 69, 64, 65] (by decide +kernel) (by decide +kernel)
set_option maxRecDepth 20000 in
theorem gX5_takeUse_X0_grow : GoodIn wsX5_takeUse (wsV RX5 153 RX0 yX0_grow wsX0_grow) := goodIn_app (goodIn_of _ (by decide +kernel)) ggX5_takeUse_X0_grow
theorem dX5_takeUse_0 : decode cX5_takeUse 0 = .ok (.aload_n 0, 1) := by decide +kernel
theorem dX5_takeUse_1 : decode cX5_takeUse 1 = .ok (.getfield 19, 3) := by decide +kernel
theorem dX5_takeUse_4 : decode cX5_takeUse 4 = .ok (.getfield 53, 3) := by decide +kernel
theorem dX5_takeUse_7 : decode cX5_takeUse 7 = .ok (.ifCond .le 22, 3) := by decide +kernel
theorem dX5_takeUse_10 : decode cX5_takeUse 10 = .ok (.aload_n 0, 1) := by decide +kernel
theorem dX5_takeUse_11 : decode cX5_takeUse 11 = .ok (.getfield 26, 3) := by decide +kernel
theorem dX5_takeUse_14 : decode cX5_takeUse 14 = .ok (.aload_n 0, 1) := by decide +kernel
theorem dX5_takeUse_15 : decode cX5_takeUse 15 = .ok (.getfield 19, 3) := by decide +kernel
theorem dX5_takeUse_18 : decode cX5_takeUse 18 = .ok (.iload_n 1, 1) := by decide +kernel
theorem dX5_takeUse_19 : decode cX5_takeUse 19 = .ok (.invokevirtual 153, 3) := by decide +kernel
theorem dX5_takeUse_22 : decode cX5_takeUse 22 = .ok (.ifCond .eq 7, 3) := by decide +kernel
theorem dX5_takeUse_25 : decode cX5_takeUse 25 = .ok (.iconst 1, 1) := by decide +kernel
theorem dX5_takeUse_26 : decode cX5_takeUse 26 = .ok (.goto 4, 3) := by decide +kernel
theorem dX5_takeUse_29 : decode cX5_takeUse 29 = .ok (.iconst 0, 1) := by decide +kernel
theorem dX5_takeUse_30 : decode cX5_takeUse 30 = .ok (.istore_n 2, 1) := by decide +kernel
theorem dX5_takeUse_31 : decode cX5_takeUse 31 = .ok (.aload_n 0, 1) := by decide +kernel
theorem dX5_takeUse_32 : decode cX5_takeUse 32 = .ok (.getfield 19, 3) := by decide +kernel
theorem dX5_takeUse_35 : decode cX5_takeUse 35 = .ok (.iconst 0, 1) := by decide +kernel
theorem dX5_takeUse_36 : decode cX5_takeUse 36 = .ok (.putfield 53, 3) := by decide +kernel
theorem dX5_takeUse_39 : decode cX5_takeUse 39 = .ok (.iload_n 2, 1) := by decide +kernel
theorem dX5_takeUse_40 : decode cX5_takeUse 40 = .ok (.ifCond .eq 7, 3) := by decide +kernel
theorem dX5_takeUse_43 : decode cX5_takeUse 43 = .ok (.iconst 1, 1) := by decide +kernel
theorem dX5_takeUse_44 : decode cX5_takeUse 44 = .ok (.goto 4, 3) := by decide +kernel
theorem dX5_takeUse_47 : decode cX5_takeUse 47 = .ok (.iconst 0, 1) := by decide +kernel
theorem dX5_takeUse_48 : decode cX5_takeUse 48 = .ok (.ireturn, 1) := by decide +kernel
theorem dX5_isSmallLetter_0 : decode cX5_isSmallLetter 0 = .ok (.iload_n 0, 1) := by decide +kernel
theorem dX5_isSmallLetter_1 : decode cX5_isSmallLetter 1 = .ok (.bipush 97, 2) := by decide +kernel
theorem dX5_isSmallLetter_3 : decode cX5_isSmallLetter 3 = .ok (.if_icmp .lt 13, 3) := by decide +kernel
theorem dX5_isSmallLetter_6 : decode cX5_isSmallLetter 6 = .ok (.iload_n 0, 1) := by decide +kernel
theorem dX5_isSmallLetter_7 : decode cX5_isSmallLetter 7 = .ok (.bipush 122, 2) := by decide +kernel
theorem dX5_isSmallLetter_9 : decode cX5_isSmallLetter 9 = .ok (.if_icmp .gt 7, 3) := by decide +kernel
theorem dX5_isSmallLetter_12 : decode cX5_isSmallLetter 12 = .ok (.iconst 1, 1) := by decide +kernel
theorem dX5_isSmallLetter_13 : decode cX5_isSmallLetter 13 = .ok (.goto 4, 3) := by decide +kernel
theorem dX5_isSmallLetter_16 : decode cX5_isSmallLetter 16 = .ok (.iconst 0, 1) := by decide +kernel
theorem dX5_isSmallLetter_17 : decode cX5_isSmallLetter 17 = .ok (.ireturn, 1) := by decide +kernel
set_option maxRecDepth 20000 in
theorem ggX5_smallLetter_X5_isSmallLetter : GoodIn wsX5_smallLetter wsX5_isSmallLetter := goodIn_r _ [4] (by decide +kernel) (by decide +kernel)
set_option maxRecDepth 20000 in
theorem gX5_smallLetter_X5_isSmallLetter : GoodIn wsX5_smallLetter (va_wsS RX5 150 yX5_isSmallLetter wsX5_isSmallLetter) := goodIn_app (goodIn_of _ (by decide +kernel)) ggX5_smallLetter_X5_isSmallLetter
theorem dX5_smallLetter_0 : decode cX5_smallLetter 0 = .ok (.iload_n 0, 1) := by decide +kernel
theorem dX5_smallLetter_1 : decode cX5_smallLetter 1 = .ok (.invokestatic 150, 3) := by decide +kernel
theorem dX5_smallLetter_4 : decode cX5_smallLetter 4 = .ok (.ifCond .eq 5, 3) := by decide +kernel
theorem dX5_smallLetter_7 : decode cX5_smallLetter 7 = .ok (.iload_n 0, 1) := by decide +kernel
theorem dX5_smallLetter_8 : decode cX5_smallLetter 8 = .ok (.ireturn, 1) := by decide +kernel
theorem dX5_smallLetter_9 : decode cX5_smallLetter 9 = .ok (.iload_n 0, 1) := by decide +kernel
theorem dX5_smallLetter_10 : decode cX5_smallLetter 10 = .ok (.bipush 65, 2) := by decide +kernel
theorem dX5_smallLetter_12 : decode cX5_smallLetter 12 = .ok (.if_icmp .lt 19, 3) := by decide +kernel
theorem dX5_smallLetter_15 : decode cX5_smallLetter 15 = .ok (.iload_n 0, 1) := by decide +kernel
theorem dX5_smallLetter_16 : decode cX5_smallLetter 16 = .ok (.bipush 90, 2) := by decide +kernel
theorem dX5_smallLetter_18 : decode cX5_smallLetter 18 = .ok (.if_icmp .gt 13, 3) := by decide +kernel
theorem dX5_smallLetter_21 : decode cX5_smallLetter 21 = .ok (.iload_n 0, 1) := by decide +kernel
theorem dX5_smallLetter_22 : decode cX5_smallLetter 22 = .ok (.bipush 65, 2) := by decide +kernel
theorem dX5_smallLetter_24 : decode cX5_smallLetter 24 = .ok (.isub, 1) := by decide +kernel
theorem dX5_smallLetter_25 : decode cX5_smallLetter 25 = .ok (.bipush 97, 2) := by decide +kernel
theorem dX5_smallLetter_27 : decode cX5_smallLetter 27 = .ok (.iadd, 1) := by decide +kernel
theorem dX5_smallLetter_28 : decode cX5_smallLetter 28 = .ok (.goto 4, 3) := by decide +kernel
theorem dX5_smallLetter_31 : decode cX5_smallLetter 31 = .ok (.iconst (-1), 1) := by decide +kernel
theorem dX5_smallLetter_32 : decode cX5_smallLetter 32 = .ok (.ireturn, 1) := by decide +kernel
end
section
/-! Tape, Word, and the outer methods that need no more. -/
def tpFeed (tp : (Nat → Int32) × Nat) (v : Int32) : (Nat → Int32) × Nat := (upd (upd (upd (upd tp.1 tp.2 ((v >>> (nI (24) &&& 31)).toInt8.toInt32).toInt8.toInt32) (tp.2 + 1) ((v >>> (nI (16) &&& 31)).toInt8.toInt32).toInt8.toInt32) (tp.2 + 1 + 1) ((v >>> (nI (8) &&& 31)).toInt8.toInt32).toInt8.toInt32) (tp.2 + 1 + 1 + 1) ((v >>> (nI (0) &&& 31)).toInt8.toInt32).toInt8.toInt32, tp.2 + 1 + 1 + 1 + 1)
/-- a small letter; the small letter of a letter; -1 for what is none -/
def smB (x : Int32) : Bool := decide (¬ x < nI 97 ∧ ¬ nI 122 < x)
def smI (x : Int32) : Int32 := if smB x = true then x else if ¬ x < nI 65 ∧ ¬ nI 90 < x then x - nI 65 + nI 97 else -1
def lowN (x : Int32) : Nat := if smI x = -1 then 0 else (smI x).toNatClampNeg
theorem smB_nat {x : Int32} (h : smB x = true) : ∃ n, 97 ≤ n ∧ n ≤ 122 ∧ x = nI n := by
  unfold smB at h
  rw [decide_eq_true_iff] at h
  have h0 : ¬ x < 0 := fun z => h.1 (Int32.lt_trans z (by decide +kernel))
  obtain ⟨n, hn, rfl⟩ := nI_of h0
  refine ⟨n, ?_, ?_, rfl⟩
  · have h1 := h.1
    rw [nI_ltI hn (by decide)] at h1
    omega
  · have h2 := h.2
    rw [nI_ltI (by decide) hn] at h2
    omega
theorem smB_of {n : Nat} (h1 : 97 ≤ n) (h2 : n ≤ 122) : smB (nI n) = true := by
  unfold smB
  rw [decide_eq_true_iff, nI_ltI (by omega) (by decide), nI_ltI (by decide) (by omega)]
  omega
theorem smI_nat {x : Int32} (h : smI x ≠ -1) : ∃ n, 97 ≤ n ∧ n ≤ 122 ∧ smI x = nI n := by
  unfold smI at h ⊢
  by_cases h1 : smB x = true
  · rw [if_pos h1]
    exact smB_nat h1
  · rw [if_neg h1] at h ⊢
    by_cases h2 : ¬ x < nI 65 ∧ ¬ nI 90 < x
    · rw [if_pos h2]
      have h0 : ¬ x < 0 := fun z => h2.1 (Int32.lt_trans z (by decide +kernel))
      obtain ⟨n, hn, rfl⟩ := nI_of h0
      have h3 := h2.1
      have h4 := h2.2
      rw [nI_ltI hn (by decide)] at h3
      rw [nI_ltI (by decide) hn] at h4
      refine ⟨n - 65 + 97, by omega, by omega, ?_⟩
      rw [pk_sub (by omega), nI_add]
    · rw [if_neg h2] at h
      exact absurd rfl h
theorem lowN_or (x : Int32) : (smI x = -1 ∧ lowN x = 0) ∨ (97 ≤ lowN x ∧ lowN x ≤ 122 ∧ smI x = nI (lowN x)) := by
  unfold lowN
  by_cases h : smI x = -1
  · rw [if_pos h]
    exact Or.inl ⟨h, rfl⟩
  · rw [if_neg h]
    obtain ⟨n, h1, h2, h3⟩ := smI_nat h
    rw [h3, nI_clamp (by omega)]
    exact Or.inr ⟨h1, h2, rfl⟩
/-- cut: what it answers, how many bytes stay -/
def cutI (n : Nat) (x : Int32) : Int32 := if ¬ x < 0 ∧ x.toNatClampNeg ≤ n then nI (n - x.toNatClampNeg) else -1
def cutN (n : Nat) (x : Int32) : Nat := if ¬ x < 0 ∧ x.toNatClampNeg ≤ n then x.toNatClampNeg else n
abbrev rmX3_append : Room := { frames := 0, cells := 0, slots := 0, locals := 0 }
set_option maxHeartbeats 4000000 in
set_option maxRecDepth 100000 in
theorem mX3_append (l : Launch) (D : va_G) (a : Nat → Nat) (cs : Nat → ClassId) (tp : (Nat → Int32) × Nat) (wd : (Nat → Nat) × Nat) (lx : (Nat → Nat) × (Nat → Nat) × (Nat → Nat) × Nat) (ro : Nat → Nat) (rs : (Nat → Nat) × (Nat → Nat) × (Nat → Nat) × (Nat → Nat) × (Nat → Nat) × Nat) (v : Int32) (bb : Bool) (ha : wInj a) (hT : tp.2 ≤ 400) (hbb : bb = true ↔ tp.2 ≤ 396) : Met l yX3_append wsX3_append rmX3_append (wdP D vwCl (wX a cs tp wd lx ro rs) (tyX cs) [.ref (a 1), .int (v)]) (wrQ (some (.int (bI (bb)))) (fun H => va_P D vwCl (wX a cs (bif bb then tpFeed tp v else tp) wd lx ro rs) H) (inX a)) 0 0 (inX a) := by
  refine nz_metWi (by decide) rfl (Nat.le_of_ble_eq_true rfl) (bI_nar _) ?_
  intro p e s m args below meth c Q hx hb hml hts hown hP hK hret ls hl
  have hl : lv_has ls 3 [(0, .ref (a 1)), (1, .int (v))] := hl
  have hown : s.vm.findClass RX3 = some m.cls := hown
  have hinX3 : ∀ w ∈ u_ws RX3 TX3 2, w ∈ wsX3_append := by decide +kernel
  have hS : va_S (inX a) s.heap s.heap [] := va_S.rf
  obtain ⟨H, hH⟩ : ∃ H, H = s.heap := ⟨_, rfl⟩
  obtain ⟨locs, hlocs⟩ : ∃ locs : List Loc, locs = [] := ⟨_, rfl⟩
  have hP : va_P D vwCl (wX a cs tp wd lx ro rs) H := hH ▸ hP
  have hS : va_S (inX a) s.heap H locs := by rw [hH, hlocs]; exact va_S.rf
  suffices hgo : W p l e rmX3_append s m args below meth c H locs 0 0 Q (F0 m 0 ls []) by rw [hH, hlocs] at hgo; exact hgo
  clear hH hlocs
  refine lv_aload_n hx hb dX3_append_0 rfl (lv_at hl 0 rfl) ?_
  refine va_get (D := D) (ci := 3) (v := .int (nI (tp.2))) (C := RX3) (T := TX3) (N := 2) hx hb hts hinX3 hown hK hP 1 rfl rfl 1 (by decide) (hts (.fieldLink RX3 15 "TypoSuggester$Tape" "size" "I") (by decide +kernel)) (fun _ h9 => h9) rfl dX3_append_1 ?_
  refine lv_sipush (v := nI 396) hx hb dX3_append_4 (by decide +kernel) ?_
  refine nz_cle (a := tp.2) (b := 396) (tgt := 12) hx hb dX3_append_7 (by decide) (by omega) (by omega) (fun c_7 => ?_) (fun c_7 => ?_)
  · refine lv_bipush (v := nI 24) hx hb dX3_append_12 (by decide +kernel) ?_
    refine lv_istore_n (lv' := [(2, .int (nI (24))), (0, .ref (a 1)), (1, .int (v))]) hx hb dX3_append_14 rfl hl (by decide) rfl (fun ls hl => ?_)
    refine lv_iload_n hx hb dX3_append_15 rfl (lv_at hl 0 rfl) ?_
    refine nz_iflt (a := 24) (tgt := 48) hx hb dX3_append_16 (by decide) (by omega) ?_
    refine lv_aload_n hx hb dX3_append_19 rfl (lv_at hl 1 rfl) ?_
    refine va_get (D := D) (ci := 3) (v := .ref (a 6)) (C := RX3) (T := TX3) (N := 2) hx hb hts hinX3 hown hK hP 1 rfl rfl 0 (by decide) (hts (.fieldLink RX3 9 "TypoSuggester$Tape" "bytes" "[B") (by decide +kernel)) (fun _ h9 => h9) rfl dX3_append_20 ?_
    refine lv_aload_n hx hb dX3_append_23 rfl (lv_at hl 1 rfl) ?_
    refine va_get (D := D) (ci := 3) (v := .int (nI (tp.2))) (C := RX3) (T := TX3) (N := 2) hx hb hts hinX3 hown hK hP 1 rfl rfl 1 (by decide) (hts (.fieldLink RX3 15 "TypoSuggester$Tape" "size" "I") (by decide +kernel)) (fun _ h9 => h9) rfl dX3_append_24 ?_
    refine lv_iload_n hx hb dX3_append_27 rfl (lv_at hl 2 rfl) ?_
    refine lv_iload_n hx hb dX3_append_28 rfl (lv_at hl 0 rfl) ?_
    refine lv_ishr hx hb dX3_append_29 ?_
    refine lv_i2b (v := (v >>> ((nI (24)) &&& 31)).toInt8.toInt32) hx hb dX3_append_30 rfl ?_
    refine nz_bastR (f := tp.1) (k := tp.2) (v := (v >>> ((nI (24)) &&& 31)).toInt8.toInt32) (ws' := wX a cs (upd tp.1 tp.2 ((v >>> ((nI (24)) &&& 31)).toInt8.toInt32).toInt8.toInt32, tp.2) wd lx ro rs) hx hb hK hP (wX_D ha) hS 6 0 rfl rfl (by omega) (by decide) dX3_append_31 rfl (fun H locs hP hS => ?_)
    refine lv_aload_n hx hb dX3_append_32 rfl (lv_at hl 1 rfl) ?_
    refine lv_dup hx hb dX3_append_33 rfl ?_
    refine va_get (D := D) (ci := 3) (v := .int (nI (tp.2))) (C := RX3) (T := TX3) (N := 2) hx hb hts hinX3 hown hK hP 1 rfl rfl 1 (by decide) (hts (.fieldLink RX3 15 "TypoSuggester$Tape" "size" "I") (by decide +kernel)) (fun _ h9 => h9) rfl dX3_append_34 ?_
    refine lv_iconst (v := nI 1) hx hb dX3_append_37 (by decide +kernel) ?_
    refine nz_iadd (a := tp.2) (b := 1) hx hb dX3_append_38 ?_
    refine nz_put (D := D) (ci := 3) (v := .int (nI (tp.2 + 1))) (ty := .int) (ws' := wX a cs (upd tp.1 tp.2 ((v >>> ((nI (24)) &&& 31)).toInt8.toInt32).toInt8.toInt32, tp.2 + 1) wd lx ro rs) (C := RX3) (T := TX3) (N := 2) hx hb hts hinX3 tyX3 tyX3_ok nmX3 hown hK hP (wX_D ha) hS 1 rfl rfl 1 (by decide) (hts (.fieldLink RX3 15 "TypoSuggester$Tape" "size" "I") (by decide +kernel)) (fun _ h9 => h9) rfl (by decide +kernel) rfl rfl (Nat.le_of_ble_eq_true rfl) dX3_append_39 rfl (fun H locs hP hS => ?_)
    refine lv_iinc (v := nI (16)) (lv' := [(2, .int (nI (16))), (0, .ref (a 1)), (1, .int (v))]) hx hb dX3_append_42 hl (k := 0) rfl (by decide +kernel) (by decide) rfl (fun ls hl => ?_)
    refine lv_goto (tgt := 15) hx hb dX3_append_45 (by decide) ?_
    refine lv_iload_n hx hb dX3_append_15 rfl (lv_at hl 0 rfl) ?_
    refine nz_iflt (a := 16) (tgt := 48) hx hb dX3_append_16 (by decide) (by omega) ?_
    refine lv_aload_n hx hb dX3_append_19 rfl (lv_at hl 1 rfl) ?_
    refine va_get (D := D) (ci := 3) (v := .ref (a 6)) (C := RX3) (T := TX3) (N := 2) hx hb hts hinX3 hown hK hP 1 rfl rfl 0 (by decide) (hts (.fieldLink RX3 9 "TypoSuggester$Tape" "bytes" "[B") (by decide +kernel)) (fun _ h9 => h9) rfl dX3_append_20 ?_
    refine lv_aload_n hx hb dX3_append_23 rfl (lv_at hl 1 rfl) ?_
    refine va_get (D := D) (ci := 3) (v := .int (nI (tp.2 + 1))) (C := RX3) (T := TX3) (N := 2) hx hb hts hinX3 hown hK hP 1 rfl rfl 1 (by decide) (hts (.fieldLink RX3 15 "TypoSuggester$Tape" "size" "I") (by decide +kernel)) (fun _ h9 => h9) rfl dX3_append_24 ?_
    refine lv_iload_n hx hb dX3_append_27 rfl (lv_at hl 2 rfl) ?_
    refine lv_iload_n hx hb dX3_append_28 rfl (lv_at hl 0 rfl) ?_
    refine lv_ishr hx hb dX3_append_29 ?_
    refine lv_i2b (v := (v >>> ((nI (16)) &&& 31)).toInt8.toInt32) hx hb dX3_append_30 rfl ?_
    refine nz_bastR (f := upd tp.1 tp.2 ((v >>> ((nI (24)) &&& 31)).toInt8.toInt32).toInt8.toInt32) (k := tp.2 + 1) (v := (v >>> ((nI (16)) &&& 31)).toInt8.toInt32) (ws' := wX a cs (upd (upd tp.1 tp.2 ((v >>> ((nI (24)) &&& 31)).toInt8.toInt32).toInt8.toInt32) (tp.2 + 1) ((v >>> ((nI (16)) &&& 31)).toInt8.toInt32).toInt8.toInt32, tp.2 + 1) wd lx ro rs) hx hb hK hP (wX_D ha) hS 6 0 rfl rfl (by omega) (by decide) dX3_append_31 rfl (fun H locs hP hS => ?_)
    refine lv_aload_n hx hb dX3_append_32 rfl (lv_at hl 1 rfl) ?_
    refine lv_dup hx hb dX3_append_33 rfl ?_
    refine va_get (D := D) (ci := 3) (v := .int (nI (tp.2 + 1))) (C := RX3) (T := TX3) (N := 2) hx hb hts hinX3 hown hK hP 1 rfl rfl 1 (by decide) (hts (.fieldLink RX3 15 "TypoSuggester$Tape" "size" "I") (by decide +kernel)) (fun _ h9 => h9) rfl dX3_append_34 ?_
    refine lv_iconst (v := nI 1) hx hb dX3_append_37 (by decide +kernel) ?_
    refine nz_iadd (a := tp.2 + 1) (b := 1) hx hb dX3_append_38 ?_
    refine nz_put (D := D) (ci := 3) (v := .int (nI (tp.2 + 1 + 1))) (ty := .int) (ws' := wX a cs (upd (upd tp.1 tp.2 ((v >>> ((nI (24)) &&& 31)).toInt8.toInt32).toInt8.toInt32) (tp.2 + 1) ((v >>> ((nI (16)) &&& 31)).toInt8.toInt32).toInt8.toInt32, tp.2 + 1 + 1) wd lx ro rs) (C := RX3) (T := TX3) (N := 2) hx hb hts hinX3 tyX3 tyX3_ok nmX3 hown hK hP (wX_D ha) hS 1 rfl rfl 1 (by decide) (hts (.fieldLink RX3 15 "TypoSuggester$Tape" "size" "I") (by decide +kernel)) (fun _ h9 => h9) rfl (by decide +kernel) rfl rfl (Nat.le_of_ble_eq_true rfl) dX3_append_39 rfl (fun H locs hP hS => ?_)
    refine lv_iinc (v := nI (8)) (lv' := [(2, .int (nI (8))), (0, .ref (a 1)), (1, .int (v))]) hx hb dX3_append_42 hl (k := 0) rfl (by decide +kernel) (by decide) rfl (fun ls hl => ?_)
    refine lv_goto (tgt := 15) hx hb dX3_append_45 (by decide) ?_
    refine lv_iload_n hx hb dX3_append_15 rfl (lv_at hl 0 rfl) ?_
    refine nz_iflt (a := 8) (tgt := 48) hx hb dX3_append_16 (by decide) (by omega) ?_
    refine lv_aload_n hx hb dX3_append_19 rfl (lv_at hl 1 rfl) ?_
    refine va_get (D := D) (ci := 3) (v := .ref (a 6)) (C := RX3) (T := TX3) (N := 2) hx hb hts hinX3 hown hK hP 1 rfl rfl 0 (by decide) (hts (.fieldLink RX3 9 "TypoSuggester$Tape" "bytes" "[B") (by decide +kernel)) (fun _ h9 => h9) rfl dX3_append_20 ?_
    refine lv_aload_n hx hb dX3_append_23 rfl (lv_at hl 1 rfl) ?_
    refine va_get (D := D) (ci := 3) (v := .int (nI (tp.2 + 1 + 1))) (C := RX3) (T := TX3) (N := 2) hx hb hts hinX3 hown hK hP 1 rfl rfl 1 (by decide) (hts (.fieldLink RX3 15 "TypoSuggester$Tape" "size" "I") (by decide +kernel)) (fun _ h9 => h9) rfl dX3_append_24 ?_
    refine lv_iload_n hx hb dX3_append_27 rfl (lv_at hl 2 rfl) ?_
    refine lv_iload_n hx hb dX3_append_28 rfl (lv_at hl 0 rfl) ?_
    refine lv_ishr hx hb dX3_append_29 ?_
    refine lv_i2b (v := (v >>> ((nI (8)) &&& 31)).toInt8.toInt32) hx hb dX3_append_30 rfl ?_
    refine nz_bastR (f := upd (upd tp.1 tp.2 ((v >>> ((nI (24)) &&& 31)).toInt8.toInt32).toInt8.toInt32) (tp.2 + 1) ((v >>> ((nI (16)) &&& 31)).toInt8.toInt32).toInt8.toInt32) (k := tp.2 + 1 + 1) (v := (v >>> ((nI (8)) &&& 31)).toInt8.toInt32) (ws' := wX a cs (upd (upd (upd tp.1 tp.2 ((v >>> ((nI (24)) &&& 31)).toInt8.toInt32).toInt8.toInt32) (tp.2 + 1) ((v >>> ((nI (16)) &&& 31)).toInt8.toInt32).toInt8.toInt32) (tp.2 + 1 + 1) ((v >>> ((nI (8)) &&& 31)).toInt8.toInt32).toInt8.toInt32, tp.2 + 1 + 1) wd lx ro rs) hx hb hK hP (wX_D ha) hS 6 0 rfl rfl (by omega) (by decide) dX3_append_31 rfl (fun H locs hP hS => ?_)
    refine lv_aload_n hx hb dX3_append_32 rfl (lv_at hl 1 rfl) ?_
    refine lv_dup hx hb dX3_append_33 rfl ?_
    refine va_get (D := D) (ci := 3) (v := .int (nI (tp.2 + 1 + 1))) (C := RX3) (T := TX3) (N := 2) hx hb hts hinX3 hown hK hP 1 rfl rfl 1 (by decide) (hts (.fieldLink RX3 15 "TypoSuggester$Tape" "size" "I") (by decide +kernel)) (fun _ h9 => h9) rfl dX3_append_34 ?_
    refine lv_iconst (v := nI 1) hx hb dX3_append_37 (by decide +kernel) ?_
    refine nz_iadd (a := tp.2 + 1 + 1) (b := 1) hx hb dX3_append_38 ?_
    refine nz_put (D := D) (ci := 3) (v := .int (nI (tp.2 + 1 + 1 + 1))) (ty := .int) (ws' := wX a cs (upd (upd (upd tp.1 tp.2 ((v >>> ((nI (24)) &&& 31)).toInt8.toInt32).toInt8.toInt32) (tp.2 + 1) ((v >>> ((nI (16)) &&& 31)).toInt8.toInt32).toInt8.toInt32) (tp.2 + 1 + 1) ((v >>> ((nI (8)) &&& 31)).toInt8.toInt32).toInt8.toInt32, tp.2 + 1 + 1 + 1) wd lx ro rs) (C := RX3) (T := TX3) (N := 2) hx hb hts hinX3 tyX3 tyX3_ok nmX3 hown hK hP (wX_D ha) hS 1 rfl rfl 1 (by decide) (hts (.fieldLink RX3 15 "TypoSuggester$Tape" "size" "I") (by decide +kernel)) (fun _ h9 => h9) rfl (by decide +kernel) rfl rfl (Nat.le_of_ble_eq_true rfl) dX3_append_39 rfl (fun H locs hP hS => ?_)
    refine lv_iinc (v := nI (0)) (lv' := [(2, .int (nI (0))), (0, .ref (a 1)), (1, .int (v))]) hx hb dX3_append_42 hl (k := 0) rfl (by decide +kernel) (by decide) rfl (fun ls hl => ?_)
    refine lv_goto (tgt := 15) hx hb dX3_append_45 (by decide) ?_
    refine lv_iload_n hx hb dX3_append_15 rfl (lv_at hl 0 rfl) ?_
    refine nz_iflt (a := 0) (tgt := 48) hx hb dX3_append_16 (by decide) (by omega) ?_
    refine lv_aload_n hx hb dX3_append_19 rfl (lv_at hl 1 rfl) ?_
    refine va_get (D := D) (ci := 3) (v := .ref (a 6)) (C := RX3) (T := TX3) (N := 2) hx hb hts hinX3 hown hK hP 1 rfl rfl 0 (by decide) (hts (.fieldLink RX3 9 "TypoSuggester$Tape" "bytes" "[B") (by decide +kernel)) (fun _ h9 => h9) rfl dX3_append_20 ?_
    refine lv_aload_n hx hb dX3_append_23 rfl (lv_at hl 1 rfl) ?_
    refine va_get (D := D) (ci := 3) (v := .int (nI (tp.2 + 1 + 1 + 1))) (C := RX3) (T := TX3) (N := 2) hx hb hts hinX3 hown hK hP 1 rfl rfl 1 (by decide) (hts (.fieldLink RX3 15 "TypoSuggester$Tape" "size" "I") (by decide +kernel)) (fun _ h9 => h9) rfl dX3_append_24 ?_
    refine lv_iload_n hx hb dX3_append_27 rfl (lv_at hl 2 rfl) ?_
    refine lv_iload_n hx hb dX3_append_28 rfl (lv_at hl 0 rfl) ?_
    refine lv_ishr hx hb dX3_append_29 ?_
    refine lv_i2b (v := (v >>> ((nI (0)) &&& 31)).toInt8.toInt32) hx hb dX3_append_30 rfl ?_
    refine nz_bastR (f := upd (upd (upd tp.1 tp.2 ((v >>> ((nI (24)) &&& 31)).toInt8.toInt32).toInt8.toInt32) (tp.2 + 1) ((v >>> ((nI (16)) &&& 31)).toInt8.toInt32).toInt8.toInt32) (tp.2 + 1 + 1) ((v >>> ((nI (8)) &&& 31)).toInt8.toInt32).toInt8.toInt32) (k := tp.2 + 1 + 1 + 1) (v := (v >>> ((nI (0)) &&& 31)).toInt8.toInt32) (ws' := wX a cs (upd (upd (upd (upd tp.1 tp.2 ((v >>> ((nI (24)) &&& 31)).toInt8.toInt32).toInt8.toInt32) (tp.2 + 1) ((v >>> ((nI (16)) &&& 31)).toInt8.toInt32).toInt8.toInt32) (tp.2 + 1 + 1) ((v >>> ((nI (8)) &&& 31)).toInt8.toInt32).toInt8.toInt32) (tp.2 + 1 + 1 + 1) ((v >>> ((nI (0)) &&& 31)).toInt8.toInt32).toInt8.toInt32, tp.2 + 1 + 1 + 1) wd lx ro rs) hx hb hK hP (wX_D ha) hS 6 0 rfl rfl (by omega) (by decide) dX3_append_31 rfl (fun H locs hP hS => ?_)
    refine lv_aload_n hx hb dX3_append_32 rfl (lv_at hl 1 rfl) ?_
    refine lv_dup hx hb dX3_append_33 rfl ?_
    refine va_get (D := D) (ci := 3) (v := .int (nI (tp.2 + 1 + 1 + 1))) (C := RX3) (T := TX3) (N := 2) hx hb hts hinX3 hown hK hP 1 rfl rfl 1 (by decide) (hts (.fieldLink RX3 15 "TypoSuggester$Tape" "size" "I") (by decide +kernel)) (fun _ h9 => h9) rfl dX3_append_34 ?_
    refine lv_iconst (v := nI 1) hx hb dX3_append_37 (by decide +kernel) ?_
    refine nz_iadd (a := tp.2 + 1 + 1 + 1) (b := 1) hx hb dX3_append_38 ?_
    refine nz_put (D := D) (ci := 3) (v := .int (nI (tp.2 + 1 + 1 + 1 + 1))) (ty := .int) (ws' := wX a cs (upd (upd (upd (upd tp.1 tp.2 ((v >>> ((nI (24)) &&& 31)).toInt8.toInt32).toInt8.toInt32) (tp.2 + 1) ((v >>> ((nI (16)) &&& 31)).toInt8.toInt32).toInt8.toInt32) (tp.2 + 1 + 1) ((v >>> ((nI (8)) &&& 31)).toInt8.toInt32).toInt8.toInt32) (tp.2 + 1 + 1 + 1) ((v >>> ((nI (0)) &&& 31)).toInt8.toInt32).toInt8.toInt32, tp.2 + 1 + 1 + 1 + 1) wd lx ro rs) (C := RX3) (T := TX3) (N := 2) hx hb hts hinX3 tyX3 tyX3_ok nmX3 hown hK hP (wX_D ha) hS 1 rfl rfl 1 (by decide) (hts (.fieldLink RX3 15 "TypoSuggester$Tape" "size" "I") (by decide +kernel)) (fun _ h9 => h9) rfl (by decide +kernel) rfl rfl (Nat.le_of_ble_eq_true rfl) dX3_append_39 rfl (fun H locs hP hS => ?_)
    refine lv_iinc (v := (-8)) (lv' := [(2, .int ((-8))), (0, .ref (a 1)), (1, .int (v))]) hx hb dX3_append_42 hl (k := 0) rfl (by decide +kernel) (by decide) rfl (fun ls hl => ?_)
    refine lv_goto (tgt := 15) hx hb dX3_append_45 (by decide) ?_
    refine lv_iload_n hx hb dX3_append_15 rfl (lv_at hl 0 rfl) ?_
    refine lv_if_lt (tgt := 48) hx hb dX3_append_16 (by decide) (fun _ => ?_) (fun z => absurd (by decide +kernel) z)
    refine lv_iconst (v := nI 1) hx hb dX3_append_48 (by decide +kernel) ?_
    have hbv : bb = true := hbb.mpr (by omega)
    subst hbv
    refine nz_top bI_t ?_
    exact hret 49 ls H locs dX3_append_49 hP hS
  · refine lv_iconst (v := nI 0) hx hb dX3_append_10 (by decide +kernel) ?_
    have hbv : bb = false := by cases bb with | false => rfl | true => exact absurd (hbb.mp rfl) (by omega)
    subst hbv
    refine nz_top bI_f ?_
    exact hret 11 ls H locs dX3_append_11 hP hS
abbrev rmX4_append : Room := { frames := 0, cells := 0, slots := 0, locals := 0 }
set_option maxHeartbeats 4000000 in
set_option maxRecDepth 100000 in
theorem mX4_append (l : Launch) (D : va_G) (a : Nat → Nat) (cs : Nat → ClassId) (tp : (Nat → Int32) × Nat) (wd : (Nat → Nat) × Nat) (lx : (Nat → Nat) × (Nat → Nat) × (Nat → Nat) × Nat) (ro : Nat → Nat) (rs : (Nat → Nat) × (Nat → Nat) × (Nat → Nat) × (Nat → Nat) × (Nat → Nat) × Nat) (ch : Nat) (bb : Bool) (ha : wInj a) (hW : WdB wd) (hch : ch < 128) (hbb : bb = true ↔ wd.2 < 24) : Met l yX4_append wsX4_append rmX4_append (wdP D vwCl (wX a cs tp wd lx ro rs) (tyX cs) [.ref (a 2), .int (nI (ch))]) (wrQ none (fun H => va_P D vwCl (wX a cs tp (bif bb then (va_up wd.1 wd.2 ch, wd.2 + 1) else wd) lx ro rs) H) (inX a)) 0 0 (inX a) := by
  obtain ⟨hW1, hW2⟩ := id hW
  refine nz_metWv (by decide) rfl (Nat.le_of_ble_eq_true rfl) ?_
  intro p e s m args below meth c Q hx hb hml hts hown hP hK hret ls hl
  have hl : lv_has ls 2 [(0, .ref (a 2)), (1, .int (nI (ch)))] := hl
  have hown : s.vm.findClass RX4 = some m.cls := hown
  have hinX4 : ∀ w ∈ u_ws RX4 TX4 2, w ∈ wsX4_append := by decide +kernel
  have hS : va_S (inX a) s.heap s.heap [] := va_S.rf
  obtain ⟨H, hH⟩ : ∃ H, H = s.heap := ⟨_, rfl⟩
  obtain ⟨locs, hlocs⟩ : ∃ locs : List Loc, locs = [] := ⟨_, rfl⟩
  have hP : va_P D vwCl (wX a cs tp wd lx ro rs) H := hH ▸ hP
  have hS : va_S (inX a) s.heap H locs := by rw [hH, hlocs]; exact va_S.rf
  suffices hgo : W p l e rmX4_append s m args below meth c H locs 0 0 Q (F0 m 0 ls []) by rw [hH, hlocs] at hgo; exact hgo
  clear hH hlocs
  refine lv_aload_n hx hb dX4_append_0 rfl (lv_at hl 0 rfl) ?_
  refine va_get (D := D) (ci := 4) (v := .int (nI (wd.2))) (C := RX4) (T := TX4) (N := 2) hx hb hts hinX4 hown hK hP 2 rfl rfl 1 (by decide) (hts (.fieldLink RX4 15 "TypoSuggester$Word" "length" "I") (by decide +kernel)) (fun _ h9 => h9) rfl dX4_append_1 ?_
  refine lv_bipush (v := nI 24) hx hb dX4_append_4 (by decide +kernel) ?_
  refine nz_cge (a := wd.2) (b := 24) (tgt := 30) hx hb dX4_append_6 (by decide) (by omega) (by omega) (fun c_6 => ?_) (fun c_6 => ?_)
  · have hbv : bb = false := by cases bb with | false => rfl | true => exact absurd (hbb.mp rfl) (by omega)
    subst hbv
    exact hret 30 ls H locs dX4_append_30 hP hS
  · refine lv_aload_n hx hb dX4_append_9 rfl (lv_at hl 0 rfl) ?_
    refine va_get (D := D) (ci := 4) (v := .ref (a 7)) (C := RX4) (T := TX4) (N := 2) hx hb hts hinX4 hown hK hP 2 rfl rfl 0 (by decide) (hts (.fieldLink RX4 9 "TypoSuggester$Word" "letters" "[B") (by decide +kernel)) (fun _ h9 => h9) rfl dX4_append_10 ?_
    refine lv_aload_n hx hb dX4_append_13 rfl (lv_at hl 0 rfl) ?_
    refine va_get (D := D) (ci := 4) (v := .int (nI (wd.2))) (C := RX4) (T := TX4) (N := 2) hx hb hts hinX4 hown hK hP 2 rfl rfl 1 (by decide) (hts (.fieldLink RX4 15 "TypoSuggester$Word" "length" "I") (by decide +kernel)) (fun _ h9 => h9) rfl dX4_append_14 ?_
    refine lv_iload_n hx hb dX4_append_17 rfl (lv_at hl 1 rfl) ?_
    refine lv_i2b (v := nI (ch)) hx hb dX4_append_18 (nz_b8 _ (by omega)).2.2 ?_
    refine nz_bast (f := wd.1) (k := wd.2) (v := ch) (ws' := wX a cs tp (va_up wd.1 wd.2 ch, wd.2) lx ro rs) hx hb hK hP (wX_D ha) hS 7 0 rfl rfl (by omega) (by decide) (by omega) dX4_append_19 rfl (fun H locs hP hS => ?_)
    refine lv_aload_n hx hb dX4_append_20 rfl (lv_at hl 0 rfl) ?_
    refine lv_dup hx hb dX4_append_21 rfl ?_
    refine va_get (D := D) (ci := 4) (v := .int (nI (wd.2))) (C := RX4) (T := TX4) (N := 2) hx hb hts hinX4 hown hK hP 2 rfl rfl 1 (by decide) (hts (.fieldLink RX4 15 "TypoSuggester$Word" "length" "I") (by decide +kernel)) (fun _ h9 => h9) rfl dX4_append_22 ?_
    refine lv_iconst (v := nI 1) hx hb dX4_append_25 (by decide +kernel) ?_
    refine nz_iadd (a := wd.2) (b := 1) hx hb dX4_append_26 ?_
    refine nz_put (D := D) (ci := 4) (v := .int (nI (wd.2 + 1))) (ty := .int) (ws' := wX a cs tp (va_up wd.1 wd.2 ch, wd.2 + 1) lx ro rs) (C := RX4) (T := TX4) (N := 2) hx hb hts hinX4 tyX4 tyX4_ok nmX4 hown hK hP (wX_D ha) hS 2 rfl rfl 1 (by decide) (hts (.fieldLink RX4 15 "TypoSuggester$Word" "length" "I") (by decide +kernel)) (fun _ h9 => h9) rfl (by decide +kernel) rfl rfl (Nat.le_of_ble_eq_true rfl) dX4_append_27 rfl (fun H locs hP hS => ?_)
    have hbv : bb = true := hbb.mpr (by omega)
    subst hbv
    exact hret 30 ls H locs dX4_append_30 hP hS
abbrev rmX5_isSmallLetter : Room := { frames := 0, cells := 0, slots := 0, locals := 0 }
set_option maxHeartbeats 4000000 in
set_option maxRecDepth 100000 in
theorem mX5_isSmallLetter (l : Launch) (D : va_G) (a : Nat → Nat) (cs : Nat → ClassId) (tp : (Nat → Int32) × Nat) (wd : (Nat → Nat) × Nat) (lx : (Nat → Nat) × (Nat → Nat) × (Nat → Nat) × Nat) (ro : Nat → Nat) (rs : (Nat → Nat) × (Nat → Nat) × (Nat → Nat) × (Nat → Nat) × (Nat → Nat) × Nat) (x : Int32) : Met l yX5_isSmallLetter wsX5_isSmallLetter rmX5_isSmallLetter (wdP D vwCl (wX a cs tp wd lx ro rs) (tyX cs) [.int (x)]) (rdQ (.int (bI (smB x)))) 0 0 (fun _ => False) := by
  refine nz_metRi (by decide) rfl (Nat.le_of_ble_eq_true rfl) (bI_nar _) ?_
  intro p e s m args below meth c Q hx hb hml hts hown hP hK hret ls hl
  have hl : lv_has ls 1 [(0, .int (x))] := hl
  have hown : s.vm.findClass RX5 = some m.cls := hown
  refine lv_iload_n hx hb dX5_isSmallLetter_0 rfl (lv_at hl 0 rfl) ?_
  refine lv_bipush (v := nI 97) hx hb dX5_isSmallLetter_1 (by decide +kernel) ?_
  refine lv_icmp_lt (tgt := 16) hx hb dX5_isSmallLetter_3 (by decide) (fun c_3 => ?_) (fun c_3 => ?_)
  · refine lv_iconst (v := nI 0) hx hb dX5_isSmallLetter_16 (by decide +kernel) ?_
    have hz : smB x = false := by unfold smB; rw [decide_eq_false_iff_not]; intro hh; first | exact hh.1 c_3 | exact hh.2 c_9
    rw [hz] at hret
    refine nz_top bI_f ?_
    exact hret 17 ls dX5_isSmallLetter_17
  · refine lv_iload_n hx hb dX5_isSmallLetter_6 rfl (lv_at hl 0 rfl) ?_
    refine lv_bipush (v := nI 122) hx hb dX5_isSmallLetter_7 (by decide +kernel) ?_
    refine lv_icmp_gt (tgt := 16) hx hb dX5_isSmallLetter_9 (by decide) (fun c_9 => ?_) (fun c_9 => ?_)
    · refine lv_iconst (v := nI 0) hx hb dX5_isSmallLetter_16 (by decide +kernel) ?_
      have hz : smB x = false := by unfold smB; rw [decide_eq_false_iff_not]; intro hh; first | exact hh.1 c_3 | exact hh.2 c_9
      rw [hz] at hret
      refine nz_top bI_f ?_
      exact hret 17 ls dX5_isSmallLetter_17
    · refine lv_iconst (v := nI 1) hx hb dX5_isSmallLetter_12 (by decide +kernel) ?_
      refine lv_goto (tgt := 17) hx hb dX5_isSmallLetter_13 (by decide) ?_
      have hz : smB x = true := by unfold smB; rw [decide_eq_true_iff]; exact ⟨c_3, c_9⟩
      rw [hz] at hret
      refine nz_top bI_t ?_
      exact hret 17 ls dX5_isSmallLetter_17
abbrev rmX5_smallLetter : Room := { frames := 1, cells := 0, slots := 0, locals := 20 }
set_option maxHeartbeats 4000000 in
set_option maxRecDepth 100000 in
theorem mX5_smallLetter (l : Launch) (D : va_G) (a : Nat → Nat) (cs : Nat → ClassId) (tp : (Nat → Int32) × Nat) (wd : (Nat → Nat) × Nat) (lx : (Nat → Nat) × (Nat → Nat) × (Nat → Nat) × Nat) (ro : Nat → Nat) (rs : (Nat → Nat) × (Nat → Nat) × (Nat → Nat) × (Nat → Nat) × (Nat → Nat) × Nat) (x : Int32) : Met l yX5_smallLetter wsX5_smallLetter rmX5_smallLetter (wdP D vwCl (wX a cs tp wd lx ro rs) (tyX cs) [.int (x)]) (rdQ (.int (smI x))) 0 0 (fun _ => False) := by
  refine nz_metRi (by decide) rfl (Nat.le_of_ble_eq_true rfl) rfl ?_
  intro p e s m args below meth c Q hx hb hml hts hown hP hK hret ls hl
  have hl : lv_has ls 1 [(0, .int (x))] := hl
  have hown : s.vm.findClass RX5 = some m.cls := hown
  refine lv_iload_n hx hb dX5_smallLetter_0 rfl (lv_at hl 0 rfl) ?_
  refine nz_callR (va_runS (As := [.int (x)]) (rest := []) ⟨hx, hb, hml, hown, hts⟩ (mX5_isSmallLetter l D a cs tp wd lx ro rs x) (va_cwS 1 hts gX5_smallLetter_X5_isSmallLetter rfl rfl rfl (by decide +kernel) ⟨Nat.le_of_ble_eq_true rfl, Nat.le_of_ble_eq_true rfl⟩) (nz_preS hK hP) rfl rfl hl.1 rfl (lv_room (Nat.le_of_ble_eq_true rfl)) dX5_smallLetter_1 ⟨Nat.zero_le _, Nat.zero_le _⟩) ?_
  refine nz_ifeqB (tgt := 9) hx hb dX5_smallLetter_4 (by decide) (fun c_4 => ?_) (fun c_4 => ?_)
  · refine lv_iload_n hx hb dX5_smallLetter_9 rfl (lv_at hl 0 rfl) ?_
    refine lv_bipush (v := nI 65) hx hb dX5_smallLetter_10 (by decide +kernel) ?_
    refine lv_icmp_lt (tgt := 31) hx hb dX5_smallLetter_12 (by decide) (fun c_12 => ?_) (fun c_12 => ?_)
    · refine lv_iconst (v := (-1)) hx hb dX5_smallLetter_31 (by decide +kernel) ?_
      have hz : smI x = (-1) := by unfold smI; rw [if_neg (by rw [c_4]; decide), if_neg (by intro hh; first | exact hh.1 c_12 | exact hh.2 c_18)]
      rw [hz] at hret
      exact hret 32 ls dX5_smallLetter_32
    · refine lv_iload_n hx hb dX5_smallLetter_15 rfl (lv_at hl 0 rfl) ?_
      refine lv_bipush (v := nI 90) hx hb dX5_smallLetter_16 (by decide +kernel) ?_
      refine lv_icmp_gt (tgt := 31) hx hb dX5_smallLetter_18 (by decide) (fun c_18 => ?_) (fun c_18 => ?_)
      · refine lv_iconst (v := (-1)) hx hb dX5_smallLetter_31 (by decide +kernel) ?_
        have hz : smI x = (-1) := by unfold smI; rw [if_neg (by rw [c_4]; decide), if_neg (by intro hh; first | exact hh.1 c_12 | exact hh.2 c_18)]
        rw [hz] at hret
        exact hret 32 ls dX5_smallLetter_32
      · refine lv_iload_n hx hb dX5_smallLetter_21 rfl (lv_at hl 0 rfl) ?_
        refine lv_bipush (v := nI 65) hx hb dX5_smallLetter_22 (by decide +kernel) ?_
        refine lv_isub hx hb dX5_smallLetter_24 ?_
        refine lv_bipush (v := nI 97) hx hb dX5_smallLetter_25 (by decide +kernel) ?_
        refine lv_iadd hx hb dX5_smallLetter_27 ?_
        refine lv_goto (tgt := 32) hx hb dX5_smallLetter_28 (by decide) ?_
        have hz : smI x = x - nI (65) + nI (97) := by unfold smI; rw [if_neg (by rw [c_4]; decide), if_pos ⟨c_12, c_18⟩]
        rw [hz] at hret
        exact hret 32 ls dX5_smallLetter_32
  · refine lv_iload_n hx hb dX5_smallLetter_7 rfl (lv_at hl 0 rfl) ?_
    have hz : smI x = x := by unfold smI; rw [if_pos c_4]
    rw [hz] at hret
    exact hret 8 ls dX5_smallLetter_8
abbrev rmX5_feed : Room := { frames := 1, cells := 0, slots := 0, locals := 22 }
set_option maxHeartbeats 4000000 in
set_option maxRecDepth 100000 in
theorem mX5_feed (l : Launch) (D : va_G) (a : Nat → Nat) (cs : Nat → ClassId) (tp : (Nat → Int32) × Nat) (wd : (Nat → Nat) × Nat) (lx : (Nat → Nat) × (Nat → Nat) × (Nat → Nat) × Nat) (ro : Nat → Nat) (rs : (Nat → Nat) × (Nat → Nat) × (Nat → Nat) × (Nat → Nat) × (Nat → Nat) × Nat) (v : Int32) (bb : Bool) (ha : wInj a) (hT : tp.2 ≤ 400) (hbb : bb = true ↔ tp.2 ≤ 396) : Met l yX5_feed wsX5_feed rmX5_feed (wdP D vwCl (wX a cs tp wd lx ro rs) (tyX cs) [.ref (a 0), .int (v)]) (wrQ (some (.int (bif bb then nI (tp.2 + 1 + 1 + 1 + 1) else (-2)))) (fun H => va_P D vwCl (wX a cs (bif bb then tpFeed tp v else tp) wd lx ro rs) H) (inX a)) 0 0 (inX a) := by
  refine nz_metWi (by decide) rfl (Nat.le_of_ble_eq_true rfl) rfl ?_
  intro p e s m args below meth c Q hx hb hml hts hown hP hK hret ls hl
  have hl : lv_has ls 2 [(0, .ref (a 0)), (1, .int (v))] := hl
  have hown : s.vm.findClass RX5 = some m.cls := hown
  have hinX5 : ∀ w ∈ u_ws RX5 TX5 5, w ∈ wsX5_feed := by decide +kernel
  have hinX3 : ∀ w ∈ u_ws RX3 TX3 2, w ∈ wsX5_feed := by decide +kernel
  have hS : va_S (inX a) s.heap s.heap [] := va_S.rf
  obtain ⟨H, hH⟩ : ∃ H, H = s.heap := ⟨_, rfl⟩
  obtain ⟨locs, hlocs⟩ : ∃ locs : List Loc, locs = [] := ⟨_, rfl⟩
  have hP : va_P D vwCl (wX a cs tp wd lx ro rs) H := hH ▸ hP
  have hS : va_S (inX a) s.heap H locs := by rw [hH, hlocs]; exact va_S.rf
  suffices hgo : W p l e rmX5_feed s m args below meth c H locs 0 0 Q (F0 m 0 ls []) by rw [hH, hlocs] at hgo; exact hgo
  clear hH hlocs
  refine lv_aload_n hx hb dX5_feed_0 rfl (lv_at hl 0 rfl) ?_
  refine va_get (D := D) (ci := 5) (v := .ref (a 1)) (C := RX5) (T := TX5) (N := 5) hx hb hts hinX5 hown hK hP 0 rfl rfl 0 (by decide) (hts (.fieldLink RX5 10 "TypoSuggester" "tape" "LTypoSuggester$Tape;") (by decide +kernel)) (fun _ h9 => h9) rfl dX5_feed_1 ?_
  refine lv_iload_n hx hb dX5_feed_4 rfl (lv_at hl 1 rfl) ?_
  refine nz_callW (va_runV (As := [.int (v)]) (rest := []) ⟨hx, hb, hml, hown, hts⟩ (mX3_append l D a cs tp wd lx ro rs v bb ha hT hbb) (cwV 1 hts gX5_feed_X3_append rfl rfl rfl (by decide +kernel) ⟨Nat.le_of_ble_eq_true rfl, Nat.le_of_ble_eq_true rfl⟩) (nz_preV (ci := 3) (q0 := 1) hK hP rfl rfl) rfl rfl hl.1 rfl (lv_room (Nat.le_of_ble_eq_true rfl)) dX5_feed_5 ⟨Nat.zero_le _, Nat.zero_le _⟩) hS (fun _ h => h) (fun H locs hP _ _ hS => ?_)
  refine nz_ifeqB (tgt := 21) hx hb dX5_feed_8 (by decide) (fun c_8 => ?_) (fun c_8 => ?_)
  · refine lv_bipush (v := (-2)) hx hb dX5_feed_21 (by decide +kernel) ?_
    subst c_8
    exact hret 23 ls H locs dX5_feed_23 hP hS
  · subst c_8
    have hP : va_P D vwCl (wX a cs (tpFeed tp v) wd lx ro rs) H := hP
    refine lv_aload_n hx hb dX5_feed_11 rfl (lv_at hl 0 rfl) ?_
    refine va_get (D := D) (ci := 5) (v := .ref (a 1)) (C := RX5) (T := TX5) (N := 5) hx hb hts hinX5 hown hK hP 0 rfl rfl 0 (by decide) (hts (.fieldLink RX5 10 "TypoSuggester" "tape" "LTypoSuggester$Tape;") (by decide +kernel)) (fun _ h9 => h9) rfl dX5_feed_12 ?_
    refine va_get (D := D) (ci := 3) (v := .int (nI ((tpFeed tp v).2))) (C := RX3) (T := TX3) (N := 2) hx hb hts hinX3 hown hK hP 1 rfl rfl 1 (by decide) (hts (.fieldLink RX5 48 "TypoSuggester$Tape" "size" "I") (by decide +kernel)) (fun _ h9 => h9) rfl dX5_feed_15 ?_
    refine lv_goto (tgt := 23) hx hb dX5_feed_18 (by decide) ?_
    exact hret 23 ls H locs dX5_feed_23 hP hS
abbrev rmX5_cut : Room := { frames := 0, cells := 0, slots := 0, locals := 0 }
set_option maxHeartbeats 4000000 in
set_option maxRecDepth 100000 in
theorem mX5_cut (l : Launch) (D : va_G) (a : Nat → Nat) (cs : Nat → ClassId) (tp : (Nat → Int32) × Nat) (wd : (Nat → Nat) × Nat) (lx : (Nat → Nat) × (Nat → Nat) × (Nat → Nat) × Nat) (ro : Nat → Nat) (rs : (Nat → Nat) × (Nat → Nat) × (Nat → Nat) × (Nat → Nat) × (Nat → Nat) × Nat) (x : Int32) (ha : wInj a) (hT : tp.2 ≤ 400) : Met l yX5_cut wsX5_cut rmX5_cut (wdP D vwCl (wX a cs tp wd lx ro rs) (tyX cs) [.ref (a 0), .int (x)]) (wrQ (some (.int (cutI tp.2 x))) (fun H => va_P D vwCl (wX a cs (tp.1, cutN tp.2 x) wd lx ro rs) H) (inX a)) 0 0 (inX a) := by
  refine nz_metWi (by decide) rfl (Nat.le_of_ble_eq_true rfl) rfl ?_
  intro p e s m args below meth c Q hx hb hml hts hown hP hK hret ls hl
  have hl : lv_has ls 3 [(0, .ref (a 0)), (1, .int (x))] := hl
  have hown : s.vm.findClass RX5 = some m.cls := hown
  have hinX5 : ∀ w ∈ u_ws RX5 TX5 5, w ∈ wsX5_cut := by decide +kernel
  have hinX3 : ∀ w ∈ u_ws RX3 TX3 2, w ∈ wsX5_cut := by decide +kernel
  have hS : va_S (inX a) s.heap s.heap [] := va_S.rf
  obtain ⟨H, hH⟩ : ∃ H, H = s.heap := ⟨_, rfl⟩
  obtain ⟨locs, hlocs⟩ : ∃ locs : List Loc, locs = [] := ⟨_, rfl⟩
  have hP : va_P D vwCl (wX a cs tp wd lx ro rs) H := hH ▸ hP
  have hS : va_S (inX a) s.heap H locs := by rw [hH, hlocs]; exact va_S.rf
  suffices hgo : W p l e rmX5_cut s m args below meth c H locs 0 0 Q (F0 m 0 ls []) by rw [hH, hlocs] at hgo; exact hgo
  clear hH hlocs
  refine lv_iload_n hx hb dX5_cut_0 rfl (lv_at hl 1 rfl) ?_
  refine lv_if_lt (tgt := 15) hx hb dX5_cut_1 (by decide) (fun c_1 => ?_) (fun c_1 => ?_)
  · have hnc : ¬ (¬ x < 0 ∧ x.toNatClampNeg ≤ tp.2) := fun h => h.1 c_1
    refine lv_iconst (v := (-1)) hx hb dX5_cut_15 (by decide +kernel) ?_
    have hz1 : cutI tp.2 x = -1 := if_neg hnc
    have hz2 : cutN tp.2 x = tp.2 := if_neg hnc
    rw [hz1, hz2] at hret
    exact hret 16 ls H locs dX5_cut_16 hP hS
  · obtain ⟨n1, hn1, rfl⟩ := nI_of c_1
    refine lv_iload_n hx hb dX5_cut_4 rfl (lv_at hl 1 rfl) ?_
    refine lv_aload_n hx hb dX5_cut_5 rfl (lv_at hl 0 rfl) ?_
    refine va_get (D := D) (ci := 5) (v := .ref (a 1)) (C := RX5) (T := TX5) (N := 5) hx hb hts hinX5 hown hK hP 0 rfl rfl 0 (by decide) (hts (.fieldLink RX5 10 "TypoSuggester" "tape" "LTypoSuggester$Tape;") (by decide +kernel)) (fun _ h9 => h9) rfl dX5_cut_6 ?_
    refine va_get (D := D) (ci := 3) (v := .int (nI (tp.2))) (C := RX3) (T := TX3) (N := 2) hx hb hts hinX3 hown hK hP 1 rfl rfl 1 (by decide) (hts (.fieldLink RX5 48 "TypoSuggester$Tape" "size" "I") (by decide +kernel)) (fun _ h9 => h9) rfl dX5_cut_9 ?_
    refine nz_cle (a := n1) (b := tp.2) (tgt := 17) hx hb dX5_cut_12 (by decide) (by omega) (by omega) (fun c_12 => ?_) (fun c_12 => ?_)
    · refine lv_aload_n hx hb dX5_cut_17 rfl (lv_at hl 0 rfl) ?_
      refine va_get (D := D) (ci := 5) (v := .ref (a 1)) (C := RX5) (T := TX5) (N := 5) hx hb hts hinX5 hown hK hP 0 rfl rfl 0 (by decide) (hts (.fieldLink RX5 10 "TypoSuggester" "tape" "LTypoSuggester$Tape;") (by decide +kernel)) (fun _ h9 => h9) rfl dX5_cut_18 ?_
      refine va_get (D := D) (ci := 3) (v := .int (nI (tp.2))) (C := RX3) (T := TX3) (N := 2) hx hb hts hinX3 hown hK hP 1 rfl rfl 1 (by decide) (hts (.fieldLink RX5 48 "TypoSuggester$Tape" "size" "I") (by decide +kernel)) (fun _ h9 => h9) rfl dX5_cut_21 ?_
      refine lv_iload_n hx hb dX5_cut_24 rfl (lv_at hl 1 rfl) ?_
      refine nz_isub (a := tp.2) (b := n1) hx hb dX5_cut_25 (by omega) ?_
      refine lv_istore_n (lv' := [(2, .int (nI (tp.2 - n1))), (0, .ref (a 0)), (1, .int (nI (n1)))]) hx hb dX5_cut_26 rfl hl (by decide) rfl (fun ls hl => ?_)
      refine lv_aload_n hx hb dX5_cut_27 rfl (lv_at hl 1 rfl) ?_
      refine va_get (D := D) (ci := 5) (v := .ref (a 1)) (C := RX5) (T := TX5) (N := 5) hx hb hts hinX5 hown hK hP 0 rfl rfl 0 (by decide) (hts (.fieldLink RX5 10 "TypoSuggester" "tape" "LTypoSuggester$Tape;") (by decide +kernel)) (fun _ h9 => h9) rfl dX5_cut_28 ?_
      refine lv_iload_n hx hb dX5_cut_31 rfl (lv_at hl 2 rfl) ?_
      refine nz_put (D := D) (ci := 3) (v := .int (nI (n1))) (ty := .int) (ws' := wX a cs (tp.1, n1) wd lx ro rs) (C := RX3) (T := TX3) (N := 2) hx hb hts hinX3 tyX3 tyX3_ok nmX3 hown hK hP (wX_D ha) hS 1 rfl rfl 1 (by decide) (hts (.fieldLink RX5 48 "TypoSuggester$Tape" "size" "I") (by decide +kernel)) (fun _ h9 => h9) rfl (by decide +kernel) rfl rfl (Nat.le_of_ble_eq_true rfl) dX5_cut_32 rfl (fun H locs hP hS => ?_)
      refine lv_iload_n hx hb dX5_cut_35 rfl (lv_at hl 0 rfl) ?_
      have hz1 : cutI tp.2 (nI n1) = nI (tp.2 - n1) := by unfold cutI; rw [nI_clamp hn1, if_pos ⟨nI_pos hn1, c_12⟩]
      have hz2 : cutN tp.2 (nI n1) = n1 := by unfold cutN; rw [nI_clamp hn1, if_pos ⟨nI_pos hn1, c_12⟩]
      rw [hz1, hz2] at hret
      exact hret 36 ls H locs dX5_cut_36 hP hS
    · have hnc : ¬ (¬ nI n1 < 0 ∧ (nI n1).toNatClampNeg ≤ tp.2) := fun h => by have := h.2; rw [nI_clamp hn1] at this; omega
      refine lv_iconst (v := (-1)) hx hb dX5_cut_15 (by decide +kernel) ?_
      have hz1 : cutI tp.2 (nI n1) = -1 := if_neg hnc
      have hz2 : cutN tp.2 (nI n1) = tp.2 := if_neg hnc
      rw [hz1, hz2] at hret
      exact hret 16 ls H locs dX5_cut_16 hP hS
end
section
/-! The Lexicon as rows of letters in their order: what insert, remove and the rest do to it. -/
theorem cg {f : Nat → Nat} {x y : Nat} (h : x = y) : f x = f y := congrArg f h
abbrev LxT : Type := (Nat → Nat) × (Nat → Nat) × (Nat → Nat) × Nat
def LxI (lx : LxT) : Prop := LxB lx ∧ lx.2.1 0 = 0 ∧ (∀ i, i < lx.2.2.2 → lx.2.1 i < lx.2.1 (i + 1) ∧ lx.2.1 (i + 1) ≤ lx.2.1 i + 24) ∧ (∀ i, i + 1 < lx.2.2.2 → ltF (TX lx i) (ZX lx i) (TX lx (i + 1)) (ZX lx (i + 1)))
/-- between the rows (Z, T, W), n of them, and (Z', T', W'): a new one at p; the one at p gone; another weight at p -/
def VIns (n p : Nat) (Z : Nat → Nat) (T : Nat → Nat → Nat) (V : Nat → Nat) (Z' : Nat → Nat) (T' : Nat → Nat → Nat) (V' : Nat → Nat) (f : Nat → Nat) (len wt : Nat) : Prop :=
  (∀ i, i < p → Z' i = Z i ∧ (∀ k, k < Z i → T' i k = T i k) ∧ V' i = V i) ∧ (Z' p = len ∧ (∀ k, k < len → T' p k = f k) ∧ V' p = wt) ∧ (∀ i, p ≤ i → i < n → Z' (i + 1) = Z i ∧ (∀ k, k < Z i → T' (i + 1) k = T i k) ∧ V' (i + 1) = V i)
def VDel (n p : Nat) (Z : Nat → Nat) (T : Nat → Nat → Nat) (V : Nat → Nat) (Z' : Nat → Nat) (T' : Nat → Nat → Nat) (V' : Nat → Nat) : Prop :=
  (∀ i, i < p → Z' i = Z i ∧ (∀ k, k < Z i → T' i k = T i k) ∧ V' i = V i) ∧ (∀ i, p ≤ i → i + 1 < n → Z' i = Z (i + 1) ∧ (∀ k, k < Z (i + 1) → T' i k = T (i + 1) k) ∧ V' i = V (i + 1))
theorem lx_ins_view {lx : LxT} {wd : (Nat → Nat) × Nat} {p wt : Nat} (hB : LxB lx) (hp : p ≤ lx.2.2.2) : VIns lx.2.2.2 p (ZX lx) (TX lx) lx.2.2.1 (ZX (lxIns lx wd p wt)) (TX (lxIns lx wd p wt)) (lxIns lx wd p wt).2.2.1 wd.1 wd.2 wt := by
  have hmo : ∀ i j, i ≤ j → j ≤ lx.2.2.2 → lx.2.1 i ≤ lx.2.1 j := fun i j h1 h2 => lx_mono hB i j h1 h2
  have e : ∀ j, (lxIns lx wd p wt).2.1 j = if p < j ∧ j ≤ lx.2.2.2 + 1 then lx.2.1 (j - 1) + wd.2 else lx.2.1 j := fun j => rfl
  have e1 : ∀ j, j ≤ p → (lxIns lx wd p wt).2.1 j = lx.2.1 j := fun j h => by rw [e, if_neg (by omega)]
  have e2 : ∀ j, p ≤ j → j ≤ lx.2.2.2 → (lxIns lx wd p wt).2.1 (j + 1) = lx.2.1 j + wd.2 := fun j h h2 => by rw [e, if_pos (by omega)]; rfl
  have l1 : ∀ q, q < lx.2.1 p → (lxIns lx wd p wt).1 q = lx.1 q := fun q h => by
    show va_cpy wd.1 (va_cpy lx.1 lx.1 _ _ _) 0 _ _ q = _
    rw [pk_cpy_out (Or.inl h), pk_cpy_out (Or.inl (by omega))]
  have l2 : ∀ k, k < wd.2 → (lxIns lx wd p wt).1 (lx.2.1 p + k) = wd.1 k := fun k h => by
    show va_cpy wd.1 (va_cpy lx.1 lx.1 _ _ _) 0 _ _ _ = _
    rw [pk_cpy_in (by omega) (by omega)]
    exact cg (by omega)
  have l3 : ∀ q, lx.2.1 p ≤ q → q < lx.2.1 lx.2.2.2 → (lxIns lx wd p wt).1 (q + wd.2) = lx.1 q := fun q h h2 => by
    show va_cpy wd.1 (va_cpy lx.1 lx.1 _ _ _) 0 _ _ _ = _
    rw [pk_cpy_out (Or.inr (by omega)), pk_cpy_in (by omega) (by omega)]
    exact cg (by omega)
  have w1 : ∀ i, (lxIns lx wd p wt).2.2.1 i = va_up (va_cpy lx.2.2.1 lx.2.2.1 p (p + 1) (lx.2.2.2 - p)) p wt i := fun _ => rfl
  refine ⟨fun i hi => ⟨?_, fun k hk => ?_, ?_⟩, ⟨?_, fun k hk => ?_, ?_⟩, fun i hi hn => ⟨?_, fun k hk => ?_, ?_⟩⟩
  · show (lxIns lx wd p wt).2.1 (i + 1) - (lxIns lx wd p wt).2.1 i = _
    rw [e1 _ (by omega), e1 _ (by omega)]
  · show (lxIns lx wd p wt).1 ((lxIns lx wd p wt).2.1 i + k) = _
    have h1 := hmo (i + 1) p (by omega) hp
    have hk : k < lx.2.1 (i + 1) - lx.2.1 i := hk
    rw [e1 _ (by omega), l1 _ (by omega)]
  · rw [w1, va_up, if_neg (by omega), pk_cpy_out (Or.inl (by omega))]
  · show (lxIns lx wd p wt).2.1 (p + 1) - (lxIns lx wd p wt).2.1 p = _
    rw [e1 _ (Nat.le_refl _), e2 _ (Nat.le_refl _) hp]
    omega
  · show (lxIns lx wd p wt).1 ((lxIns lx wd p wt).2.1 p + k) = _
    rw [e1 _ (Nat.le_refl _), l2 _ hk]
  · rw [w1, va_up, if_pos rfl]
  · show (lxIns lx wd p wt).2.1 (i + 1 + 1) - (lxIns lx wd p wt).2.1 (i + 1) = lx.2.1 (i + 1) - lx.2.1 i
    rw [e2 _ (by omega) (by omega), e2 _ (by omega) (by omega)]
    omega
  · show (lxIns lx wd p wt).1 ((lxIns lx wd p wt).2.1 (i + 1) + k) = lx.1 (lx.2.1 i + k)
    have h1 := hmo p i (by omega) (by omega)
    have h2 := hmo (i + 1) lx.2.2.2 (by omega) (by omega)
    have hk : k < lx.2.1 (i + 1) - lx.2.1 i := hk
    rw [e2 _ (by omega) (by omega), ← l3 (lx.2.1 i + k) (by omega) (by omega)]
    exact cg (by omega)
  · rw [w1, va_up, if_neg (by omega), pk_cpy_in (by omega) (by omega)]
    exact cg (by omega)
theorem lx_del_view {lx : LxT} {p : Nat} (hB : LxB lx) (hp : p < lx.2.2.2) : VDel lx.2.2.2 p (ZX lx) (TX lx) lx.2.2.1 (ZX (lxDel lx p)) (TX (lxDel lx p)) (lxDel lx p).2.2.1 := by
  have hmo : ∀ i j, i ≤ j → j ≤ lx.2.2.2 → lx.2.1 i ≤ lx.2.1 j := fun i j h1 h2 => lx_mono hB i j h1 h2
  have hpp := hmo p (p + 1) (by omega) (by omega)
  have e : ∀ j, (lxDel lx p).2.1 j = if p < j ∧ j < lx.2.2.2 then lx.2.1 (j + 1) - (lx.2.1 (p + 1) - lx.2.1 p) else lx.2.1 j := fun j => rfl
  have e1 : ∀ j, j ≤ p → (lxDel lx p).2.1 j = lx.2.1 j := fun j h => by rw [e, if_neg (by omega)]
  have e2 : ∀ j, p ≤ j → j < lx.2.2.2 → (lxDel lx p).2.1 j = lx.2.1 (j + 1) - (lx.2.1 (p + 1) - lx.2.1 p) := fun j h h2 => by
    rcases Nat.lt_or_ge p j with z | z
    · rw [e, if_pos (by omega)]
    · rw [show j = p by omega, e1 _ (Nat.le_refl _)]
      omega
  have l1 : ∀ q, q < lx.2.1 p → (lxDel lx p).1 q = lx.1 q := fun q h => by
    show va_cpy lx.1 lx.1 _ _ _ q = _
    rw [pk_cpy_out (Or.inl h)]
  have l2 : ∀ q, lx.2.1 (p + 1) ≤ q → q < lx.2.1 lx.2.2.2 → (lxDel lx p).1 (q - (lx.2.1 (p + 1) - lx.2.1 p)) = lx.1 q := fun q h h2 => by
    show va_cpy lx.1 lx.1 _ _ _ _ = _
    rw [pk_cpy_in (by omega) (by omega)]
    exact cg (by omega)
  have w1 : ∀ i, (lxDel lx p).2.2.1 i = va_cpy lx.2.2.1 lx.2.2.1 (p + 1) p (lx.2.2.2 - p - 1) i := fun _ => rfl
  refine ⟨fun i hi => ⟨?_, fun k hk => ?_, ?_⟩, fun i hi hn => ⟨?_, fun k hk => ?_, ?_⟩⟩
  · show (lxDel lx p).2.1 (i + 1) - (lxDel lx p).2.1 i = _
    rw [e1 _ (by omega), e1 _ (by omega)]
  · show (lxDel lx p).1 ((lxDel lx p).2.1 i + k) = _
    have h1 := hmo (i + 1) p (by omega) (by omega)
    have hk : k < lx.2.1 (i + 1) - lx.2.1 i := hk
    rw [e1 _ (by omega), l1 _ (by omega)]
  · rw [w1, pk_cpy_out (Or.inl (by omega))]
  · show (lxDel lx p).2.1 (i + 1) - (lxDel lx p).2.1 i = lx.2.1 (i + 1 + 1) - lx.2.1 (i + 1)
    have h1 := hmo (p + 1) (i + 1) (by omega) (by omega)
    rw [e2 _ (by omega) (by omega), e2 _ (by omega) (by omega)]
    omega
  · show (lxDel lx p).1 ((lxDel lx p).2.1 i + k) = lx.1 (lx.2.1 (i + 1) + k)
    have h1 := hmo (p + 1) (i + 1) (by omega) (by omega)
    have h2 := hmo (i + 1 + 1) lx.2.2.2 (by omega) (by omega)
    have hk : k < lx.2.1 (i + 1 + 1) - lx.2.1 (i + 1) := hk
    rw [e2 _ (by omega) (by omega), ← l2 (lx.2.1 (i + 1) + k) (by omega) (by omega)]
    exact cg (by omega)
  · rw [w1, pk_cpy_in (by omega) (by omega)]
    exact cg (by omega)
theorem lx_sorted {lx : LxT} (h : LxI lx) (i : Nat) : ∀ j, i < j → j < lx.2.2.2 → ltF (TX lx i) (ZX lx i) (TX lx j) (ZX lx j) := by
  intro j
  induction j with
  | zero => intro h1; exact absurd h1 (Nat.not_lt_zero _)
  | succ j ih =>
    intro h1 h2
    rcases Nat.lt_or_ge i j with z | z
    · exact ltF_trans (ih z (by omega)) (h.2.2.2 j h2)
    · rw [show i = j by omega]
      exact h.2.2.2 j h2
/-- the place of the letters f, len of them -/
def PLp (lx : LxT) (f : Nat → Nat) (len r : Nat) : Prop := r ≤ lx.2.2.2 ∧ (∀ i, i < r → ltF (TX lx i) (ZX lx i) f len) ∧ (∀ i, r ≤ i → i < lx.2.2.2 → ¬ ltF (TX lx i) (ZX lx i) f len)
theorem pl_ex {lx : LxT} (h : LxI lx) (f : Nat → Nat) (len : Nat) : ∃ r, PLp lx f len r := by
  obtain ⟨r, hr, hmin⟩ := pk_least (fun k => k = lx.2.2.2 ∨ (k < lx.2.2.2 ∧ ¬ ltF (TX lx k) (ZX lx k) f len)) ⟨lx.2.2.2, Or.inl rfl⟩
  refine ⟨r, by omega, fun i hi => ?_, fun i h1 h2 => ?_⟩
  · have h3 := hmin i hi
    refine Classical.byContradiction (fun z => h3 (Or.inr ⟨by omega, z⟩))
  · rcases hr with hr | hr
    · omega
    · intro z
      rcases Nat.lt_or_ge r i with y | y
      · exact hr.2 (ltF_trans (lx_sorted h r i y h2) z)
      · rw [show r = i by omega] at hr
        exact hr.2 z
theorem pl_un {lx : LxT} {f : Nat → Nat} {len r q : Nat} (h : PLp lx f len r) (k : PLp lx f len q) : r = q := by
  rcases Nat.lt_trichotomy r q with z | z | z
  · exact absurd (k.2.1 r z) (h.2.2 r (Nat.le_refl _) (Nat.lt_of_lt_of_le z k.1))
  · exact z
  · exact absurd (h.2.1 q z) (k.2.2 q (Nat.le_refl _) (Nat.lt_of_lt_of_le z h.1))
noncomputable def dB (P : Prop) : Bool := @decide P (Classical.propDecidable P)
theorem dB_iff {P : Prop} : dB P = true ↔ P := @decide_eq_true_iff P (Classical.propDecidable P)
theorem dB_t {P : Prop} (h : P) : dB P = true := dB_iff.mpr h
theorem dB_f {P : Prop} (h : ¬ P) : dB P = false := by
  cases hh : dB P with
  | false => rfl
  | true => exact absurd (dB_iff.mp hh) h
theorem dB_congr {P P' : Prop} (h : P ↔ P') : dB P = dB P' := by rw [propext h]
noncomputable def plX (lx : LxT) (f : Nat → Nat) (len : Nat) : Nat := if h : dB (∃ r, PLp lx f len r) = true then Classical.choose (dB_iff.mp h) else 0
theorem plX_is {lx : LxT} (h : LxI lx) (f : Nat → Nat) (len : Nat) : PLp lx f len (plX lx f len) := by
  unfold plX
  rw [dif_pos (dB_t (pl_ex h f len))]
  exact Classical.choose_spec (dB_iff.mp (dB_t (pl_ex h f len)))
def stdX (lx : LxT) (f : Nat → Nat) (len r : Nat) : Prop := r < lx.2.2.2 ∧ lx.2.1 (r + 1) - lx.2.1 r = len ∧ ∀ j, j < len → TX lx r j = f j
def roomX (lx : LxT) (len : Nat) : Prop := lx.2.2.2 < 600 ∧ lx.2.1 lx.2.2.2 + len ≤ 6000
def lxSet (lx : LxT) (p wt : Nat) : LxT := (lx.1, lx.2.1, va_up lx.2.2.1 p wt, lx.2.2.2)
theorem lxI_set {lx : LxT} {p wt : Nat} (h : LxI lx) (hw : wt ≤ 1000000000000) : LxI (lxSet lx p wt) := by
  obtain ⟨⟨h1, h2, h3, h4, h5⟩, h6, h7, h8⟩ := h
  refine ⟨⟨h1, h2, h3, h4, fun j => ?_⟩, h6, h7, h8⟩
  show va_up lx.2.2.1 p wt j ≤ _
  unfold va_up
  by_cases e : j = p
  · rw [if_pos e]; exact hw
  · rw [if_neg e]; exact h5 j
theorem lxI_add {lx : LxT} {p wt : Nat} (h : LxI lx) : LxI (lxAdd lx p wt) := lxI_set (p := p) (wt := min (lx.2.2.1 p + wt) 1000000000000) h (Nat.min_le_right _ _)
theorem lxI_ins {lx : LxT} {wd : (Nat → Nat) × Nat} {p wt : Nat} (h : LxI lx) (hW : WdB wd) (hl : 0 < wd.2) (hr : roomX lx wd.2) (hp : PLp lx wd.1 wd.2 p) (hs : ¬ stdX lx wd.1 wd.2 p) (hw : wt ≤ 1000000000000) : LxI (lxIns lx wd p wt) := by
  have hB := h.1
  obtain ⟨v1, ⟨v2, v3, v4⟩, v5⟩ := lx_ins_view (wd := wd) (wt := wt) hB hp.1
  obtain ⟨⟨h1, h2, h3, h4, h5⟩, h6, h7, h8⟩ := id h
  have hmo : ∀ i j, i ≤ j → j ≤ lx.2.2.2 → lx.2.1 i ≤ lx.2.1 j := fun i j h1 h2 => lx_mono hB i j h1 h2
  have e : ∀ j, (lxIns lx wd p wt).2.1 j = if p < j ∧ j ≤ lx.2.2.2 + 1 then lx.2.1 (j - 1) + wd.2 else lx.2.1 j := fun j => rfl
  have en : (lxIns lx wd p wt).2.2.2 = lx.2.2.2 + 1 := rfl
  have hp1 := hp.1
  have hst : ∀ i, i < lx.2.2.2 + 1 → (lxIns lx wd p wt).2.1 i < (lxIns lx wd p wt).2.1 (i + 1) ∧ (lxIns lx wd p wt).2.1 (i + 1) ≤ (lxIns lx wd p wt).2.1 i + 24 := fun i hi => by
    rcases Nat.lt_trichotomy i p with z | z | z
    · have := h7 i (by omega)
      rw [e, e, if_neg (by omega), if_neg (by omega)]
      exact this
    · have ea : (lxIns lx wd p wt).2.1 i = lx.2.1 p := by rw [e, if_neg (by omega), z]
      have eb : (lxIns lx wd p wt).2.1 (i + 1) = lx.2.1 p + wd.2 := by rw [e, if_pos (by omega), z]; rfl
      have := hW.1
      rw [ea, eb]
      omega
    · have := h7 (i - 1) (by omega)
      rw [show i - 1 + 1 = i by omega] at this
      rw [e, e, if_pos (by omega), if_pos (by omega), show i + 1 - 1 = i from rfl]
      omega
  refine ⟨⟨by rw [en]; have := hr.1; omega, fun i hi => Nat.le_of_lt (hst i hi).1, fun j => ?_, fun j => ?_, fun j => ?_⟩, ?_, hst, fun i hi => ?_⟩
  · rw [e]
    by_cases q : p < j ∧ j ≤ lx.2.2.2 + 1
    · rw [if_pos q]
      have := hmo (j - 1) lx.2.2.2 (by omega) (Nat.le_refl _)
      have := hr.2
      omega
    · rw [if_neg q]
      exact h3 j
  · show va_cpy wd.1 (va_cpy lx.1 lx.1 _ _ _) 0 _ _ j < 128
    unfold va_cpy
    split
    · exact hW.2 _
    · split
      · exact h4 _
      · exact h4 _
  · show va_up (va_cpy lx.2.2.1 lx.2.2.1 _ _ _) p wt j ≤ _
    unfold va_up va_cpy
    split
    · exact hw
    · split
      · exact h5 _
      · exact h5 _
  · rw [e, if_neg (by omega)]
    exact h6
  · rw [en] at hi
    rcases Nat.lt_trichotomy (i + 1) p with z | z | z
    · have a1 := v1 i (by omega)
      have a2 := v1 (i + 1) z
      rw [a1.1, a2.1]
      exact ltF_congr (fun k hk => (a1.2.1 k hk).symm) (fun k hk => (a2.2.1 k hk).symm) (h8 i (by omega))
    · have a1 := v1 i (by omega)
      rw [a1.1, z, v2]
      exact ltF_congr (fun k hk => (a1.2.1 k hk).symm) (fun k hk => (v3 k hk).symm) (hp.2.1 i (by omega))
    · rcases Nat.lt_or_ge p i with y | y
      · have a1 := v5 (i - 1) (by omega) (by omega)
        have a2 := v5 i (by omega) (by omega)
        rw [show i - 1 + 1 = i by omega] at a1
        rw [a1.1, a2.1]
        have h9 := h8 (i - 1) (by omega)
        rw [show i - 1 + 1 = i by omega] at h9
        exact ltF_congr (fun k hk => (a1.2.1 k hk).symm) (fun k hk => (a2.2.1 k hk).symm) h9
      · have ei : i = p := by omega
        subst ei
        have a2 := v5 i (Nat.le_refl _) (by omega)
        rw [v2, a2.1]
        refine ltF_congr (f := wd.1) (fun k hk => (v3 k hk).symm) (fun k hk => (a2.2.1 k hk).symm) ?_
        rcases ltF_tri wd.1 wd.2 (TX lx i) (ZX lx i) with t | t | t
        · exact t
        · exact absurd ⟨by omega, t.1.symm, fun j hj => (t.2 j hj).symm⟩ hs
        · exact absurd t (hp.2.2 i (Nat.le_refl _) (by omega))
theorem lxI_del {lx : LxT} {p : Nat} (h : LxI lx) (hp : p < lx.2.2.2) : LxI (lxDel lx p) := by
  have hB := h.1
  obtain ⟨v1, v5⟩ := lx_del_view hB hp
  obtain ⟨⟨h1, h2, h3, h4, h5⟩, h6, h7, h8⟩ := id h
  have hmo : ∀ i j, i ≤ j → j ≤ lx.2.2.2 → lx.2.1 i ≤ lx.2.1 j := fun i j h1 h2 => lx_mono hB i j h1 h2
  have e : ∀ j, (lxDel lx p).2.1 j = if p < j ∧ j < lx.2.2.2 then lx.2.1 (j + 1) - (lx.2.1 (p + 1) - lx.2.1 p) else lx.2.1 j := fun j => rfl
  have en : (lxDel lx p).2.2.2 = lx.2.2.2 - 1 := rfl
  have hpp := hmo p (p + 1) (by omega) (by omega)
  have hst : ∀ i, i < lx.2.2.2 - 1 → (lxDel lx p).2.1 i < (lxDel lx p).2.1 (i + 1) ∧ (lxDel lx p).2.1 (i + 1) ≤ (lxDel lx p).2.1 i + 24 := fun i hi => by
    rcases Nat.lt_trichotomy i p with z | z | z
    · have := h7 i (by omega)
      rw [e, e, if_neg (by omega), if_neg (by omega)]
      exact this
    · have := h7 (p + 1) (by omega)
      have ea : (lxDel lx p).2.1 i = lx.2.1 p := by rw [e, if_neg (by omega), z]
      have eb : (lxDel lx p).2.1 (i + 1) = lx.2.1 (p + 1 + 1) - (lx.2.1 (p + 1) - lx.2.1 p) := by rw [e, if_pos (by omega), z]
      rw [ea, eb]
      omega
    · have := h7 (i + 1) (by omega)
      have h9 := hmo (p + 1) (i + 1) (by omega) (by omega)
      rw [e, e, if_pos (by omega), if_pos (by omega)]
      omega
  refine ⟨⟨by rw [en]; omega, fun i hi => Nat.le_of_lt (hst i hi).1, fun j => ?_, fun j => ?_, fun j => ?_⟩, ?_, hst, fun i hi => ?_⟩
  · rw [e]
    split
    · have := h3 (j + 1)
      omega
    · exact h3 j
  · show va_cpy lx.1 lx.1 _ _ _ j < 128
    unfold va_cpy
    split
    · exact h4 _
    · exact h4 _
  · show va_cpy lx.2.2.1 lx.2.2.1 _ _ _ j ≤ _
    unfold va_cpy
    split
    · exact h5 _
    · exact h5 _
  · rw [e, if_neg (by omega)]
    exact h6
  · rw [en] at hi
    rcases Nat.lt_or_ge (i + 1) p with z | z
    · have a1 := v1 i (by omega)
      have a2 := v1 (i + 1) z
      rw [a1.1, a2.1]
      exact ltF_congr (fun k hk => (a1.2.1 k hk).symm) (fun k hk => (a2.2.1 k hk).symm) (h8 i (by omega))
    · have a2 := v5 (i + 1) (by omega) (by omega)
      rcases Nat.lt_or_ge i p with y | y
      · have a1 := v1 i y
        rw [a1.1, a2.1]
        exact ltF_congr (fun k hk => (a1.2.1 k hk).symm) (fun k hk => (a2.2.1 k hk).symm) (lx_sorted h i (i + 1 + 1) (by omega) (by omega))
      · have a1 := v5 i y (by omega)
        rw [a1.1, a2.1]
        exact ltF_congr (fun k hk => (a1.2.1 k hk).symm) (fun k hk => (a2.2.1 k hk).symm) (h8 (i + 1) (by omega))
/-- one use of the letters f, len of them, of weight wt: the lexicon then; 1 if it was taken in -/
noncomputable def useX (lx : LxT) (f : Nat → Nat) (len wt : Nat) : LxT × Nat :=
  bif dB (0 < len) then (bif dB (stdX lx f len (plX lx f len)) then (lxAdd lx (plX lx f len) wt, 1) else (bif dB (roomX lx len) then (lxIns lx (f, len) (plX lx f len) wt, 1) else (lx, 0))) else (lx, 0)
theorem useX_inv {lx : LxT} {f : Nat → Nat} {len wt : Nat} (h : LxI lx) (hW : WdB (f, len)) (hw : wt ≤ 1000000000000) : LxI (useX lx f len wt).1 ∧ (useX lx f len wt).2 ≤ 1 := by
  have hp := plX_is h f len
  unfold useX
  cases h0 : dB (0 < len) with
  | false => exact ⟨h, Nat.zero_le _⟩
  | true =>
    cases h1 : dB (stdX lx f len (plX lx f len)) with
    | true => exact ⟨lxI_add h, Nat.le_refl _⟩
    | false =>
      cases h2 : dB (roomX lx len) with
      | false => exact ⟨h, Nat.zero_le _⟩
      | true =>
        exact ⟨lxI_ins (wd := (f, len)) h hW (dB_iff.mp h0) (dB_iff.mp h2) hp (fun z => by rw [dB_t z] at h1; cases h1) hw, Nat.le_refl _⟩
theorem lxIns_congr {lx : LxT} {f g : Nat → Nat} {len p wt : Nat} (h : ∀ j, j < len → f j = g j) : lxIns lx (f, len) p wt = lxIns lx (g, len) p wt := by
  have e : ∀ u : Nat → Nat, va_cpy f u 0 (lx.2.1 p) len = va_cpy g u 0 (lx.2.1 p) len := fun u => by
    funext j
    unfold va_cpy
    by_cases q : lx.2.1 p ≤ j ∧ j < lx.2.1 p + len
    · rw [if_pos q, if_pos q, h _ (by omega)]
    · rw [if_neg q, if_neg q]
  show (va_cpy f _ 0 _ len, _, _, _) = (va_cpy g _ 0 _ len, _, _, _)
  rw [e]
theorem plX_congr {lx : LxT} {f g : Nat → Nat} {len : Nat} (hI : LxI lx) (h : ∀ j, j < len → f j = g j) : plX lx f len = plX lx g len := by
  have h1 := plX_is hI f len
  have h2 := plX_is hI g len
  refine pl_un (f := g) ⟨h1.1, fun i hi => ltF_congr (fun _ _ => rfl) h (h1.2.1 i hi), fun i hi hn z => h1.2.2 i hi hn (ltF_congr (fun _ _ => rfl) (fun j hj => (h j hj).symm) z)⟩ h2
theorem stdX_congr {lx : LxT} {f g : Nat → Nat} {len r : Nat} (h : ∀ j, j < len → f j = g j) : stdX lx f len r ↔ stdX lx g len r :=
  ⟨fun z => ⟨z.1, z.2.1, fun j hj => (z.2.2 j hj).trans (h j hj)⟩, fun z => ⟨z.1, z.2.1, fun j hj => (z.2.2 j hj).trans (h j hj).symm⟩⟩
theorem useX_congr {lx : LxT} {f g : Nat → Nat} {len wt : Nat} (hI : LxI lx) (h : ∀ j, j < len → f j = g j) : useX lx f len wt = useX lx g len wt := by
  unfold useX
  rw [plX_congr hI h, dB_congr (stdX_congr h), lxIns_congr h]
/-- a text: lo i is the small letter at i, 0 where there is none; L letters stand right before i; m bytes are left -/
def lrn {σ : Type} (U : σ → (Nat → Nat) → Nat → σ × Nat) (lo : Nat → Nat) : Nat → Nat → Nat → σ → Nat → σ × Nat
  | 0, i, L, x, c => ((U x (fun j => lo (i - L + j)) (min L 24)).1, c + (U x (fun j => lo (i - L + j)) (min L 24)).2)
  | m + 1, i, L, x, c => if lo i = 0 then lrn U lo m (i + 1) 0 (U x (fun j => lo (i - L + j)) (min L 24)).1 (c + (U x (fun j => lo (i - L + j)) (min L 24)).2) else lrn U lo m (i + 1) (L + 1) x c
end
section
/-! The outer object's own methods that take the tape. -/
abbrev TpT : Type := (Nat → Int32) × Nat
def goodT (tp : TpT) : Prop := tp.2 ≤ 24 ∧ ∀ j, j < tp.2 → smB (tp.1 j) = true
abbrev qF (tp : TpT) : Nat → Nat := fun j => (tp.1 j).toNatClampNeg
theorem smB_q {x : Int32} (h : smB x = true) : x = nI x.toNatClampNeg ∧ x.toNatClampNeg < 128 := by
  obtain ⟨n, h1, h2, rfl⟩ := smB_nat h
  rw [nI_clamp (by omega)]
  exact ⟨rfl, by omega⟩
theorem up_ext {f g : Nat → Nat} {k : Nat} (h : ∀ j, j < k → f j = g j) : ∀ j, j < k + 1 → va_up f k (g k) j = g j := fun j hj => by
  unfold va_up
  by_cases e : j = k
  · rw [if_pos e, e]
  · rw [if_neg e]
    exact h j (by omega)
theorem up_lt {f : Nat → Nat} {k v : Nat} (h : ∀ j, f j < 128) (hv : v < 128) : ∀ j, va_up f k v j < 128 := fun j => by
  unfold va_up
  split
  · exact hv
  · exact h j
theorem plp_congr {lx : LxT} {f g : Nat → Nat} {n n2 r : Nat} (h : PLp lx f n r) (e : n2 = n ∧ ∀ j, j < n → g j = f j) : PLp lx g n2 r := by
  obtain ⟨rfl, e⟩ := e
  exact ⟨h.1, fun i hi => ltF_congr (fun _ _ => rfl) (fun j hj => (e j hj).symm) (h.2.1 i hi), fun i hi hn z => h.2.2 i hi hn (ltF_congr (fun _ _ => rfl) e z)⟩
theorem stdX_congr2 {lx : LxT} {f g : Nat → Nat} {n n2 r : Nat} (e : n2 = n ∧ ∀ j, j < n → g j = f j) : stdX lx f n r ↔ stdX lx g n2 r := by
  obtain ⟨rfl, e⟩ := e
  exact stdX_congr (fun j hj => (e j hj).symm)
theorem useX_0 {lx : LxT} {f : Nat → Nat} {len wt : Nat} (h : len = 0) : useX lx f len wt = (lx, 0) := by
  unfold useX
  rw [dB_f (by omega)]
  rfl
theorem useX_pos {lx : LxT} {f : Nat → Nat} {len wt : Nat} (h : 0 < len) : useX lx f len wt = (bif dB (stdX lx f len (plX lx f len)) then lxAdd lx (plX lx f len) wt else (bif dB (roomX lx len) then lxIns lx (f, len) (plX lx f len) wt else lx), bif (dB (stdX lx f len (plX lx f len)) || dB (roomX lx len)) then 1 else 0) := by
  unfold useX
  rw [dB_t h]
  cases dB (stdX lx f len (plX lx f len)) with
  | true => rfl
  | false =>
    cases dB (roomX lx len) with
    | true => rfl
    | false => rfl
theorem lrn_0 {σ : Type} {U : σ → (Nat → Nat) → Nat → σ × Nat} {lo : Nat → Nat} {m i L c : Nat} {x : σ} (h : lo i = 0) : lrn U lo (m + 1) i L x c = lrn U lo m (i + 1) 0 (U x (fun j => lo (i - L + j)) (min L 24)).1 (c + (U x (fun j => lo (i - L + j)) (min L 24)).2) := by
  show (if lo i = 0 then _ else _) = _
  rw [if_pos h]
theorem lrn_1 {σ : Type} {U : σ → (Nat → Nat) → Nat → σ × Nat} {lo : Nat → Nat} {m i L c : Nat} {x : σ} (h : lo i ≠ 0) : lrn U lo (m + 1) i L x c = lrn U lo m (i + 1) (L + 1) x c := by
  show (if lo i = 0 then _ else _) = _
  rw [if_neg h]
theorem app_word {f lo : Nat → Nat} {L ch : Nat} (h : ∀ j, j < min L 24 → f j = lo j) (hb : ∀ j, f j < 128) (hc : ch < 128) (e : ch = lo L) : ∃ f2 : Nat → Nat, (∀ j, j < min (L + 1) 24 → f2 j = lo j) ∧ (∀ j, f2 j < 128) ∧ (bif decide (min L 24 < 24) then (va_up f (min L 24) ch, min L 24 + 1) else (f, min L 24)) = (f2, min (L + 1) 24) := by
  rcases Nat.lt_or_ge L 24 with z | z
  · refine ⟨va_up f L ch, ?_, up_lt hb hc, ?_⟩
    · rw [show min (L + 1) 24 = L + 1 by omega, e]
      rw [show min L 24 = L by omega] at h
      exact up_ext h
    · rw [show min L 24 = L by omega, show min (L + 1) 24 = L + 1 by omega, decide_eq_true z]
      rfl
  · refine ⟨f, ?_, hb, ?_⟩
    · rw [show min (L + 1) 24 = min L 24 by omega]
      exact h
    · rw [decide_eq_false (by omega), show min (L + 1) 24 = min L 24 by omega]
      rfl
/-- learn: what it answers, the lexicon then, how long the tape is then -/
noncomputable def lrnA (lx : LxT) (tp : TpT) (w : Nat) : LxT × Nat := lrn (fun y f n => useX y f n w) (fun i => lowN (tp.1 i)) tp.2 0 0 lx 0
def lrnOk (x : Int32) : Prop := ¬ x < 0 ∧ x.toNatClampNeg ≤ 1000000
noncomputable def lrnI (lx : LxT) (tp : TpT) (x : Int32) : Int32 := bif dB (lrnOk x) then nI (lrnA lx tp x.toNatClampNeg).2 else -1
noncomputable def lrnL (lx : LxT) (tp : TpT) (x : Int32) : LxT := bif dB (lrnOk x) then (lrnA lx tp x.toNatClampNeg).1 else lx
noncomputable def lrnT (tp : TpT) (x : Int32) : Nat := bif dB (lrnOk x) then 0 else tp.2
abbrev rmX5_takeLetters : Room := { frames := 1, cells := 0, slots := 0, locals := 21 }
set_option maxHeartbeats 4000000 in
set_option maxRecDepth 100000 in
theorem mX5_takeLetters (l : Launch) (D : va_G) (a : Nat → Nat) (cs : Nat → ClassId) (tp : (Nat → Int32) × Nat) (wd : (Nat → Nat) × Nat) (lx : (Nat → Nat) × (Nat → Nat) × (Nat → Nat) × Nat) (ro : Nat → Nat) (rs : (Nat → Nat) × (Nat → Nat) × (Nat → Nat) × (Nat → Nat) × (Nat → Nat) × Nat) (bb : Bool) (ha : wInj a) (hT : tp.2 ≤ 400) (hW : WdB wd) (hbb : bb = true ↔ goodT tp) : Met l yX5_takeLetters wsX5_takeLetters rmX5_takeLetters (wdP D vwCl (wX a cs tp wd lx ro rs) (tyX cs) [.ref (a 0)]) (wrQ (some (.int (bI (bb)))) (fun H => ∃ wd2, (WdB wd2 ∧ (bb = true → wd2.2 = tp.2 ∧ ∀ j, j < tp.2 → wd2.1 j = qF tp j)) ∧ va_P D vwCl (wX a cs (tp.1, 0) wd2 lx ro rs) H) (inX a)) 0 0 (inX a) := by
  obtain ⟨hW1, hW2⟩ := id hW
  refine nz_metWi (by decide) rfl (Nat.le_of_ble_eq_true rfl) (bI_nar _) ?_
  intro p e s m args below meth c Q hx hb hml hts hown hP hK hret ls hl
  have hl : lv_has ls 3 [(0, .ref (a 0))] := hl
  have hown : s.vm.findClass RX5 = some m.cls := hown
  have hinX5 : ∀ w ∈ u_ws RX5 TX5 5, w ∈ wsX5_takeLetters := by decide +kernel
  have hinX3 : ∀ w ∈ u_ws RX3 TX3 2, w ∈ wsX5_takeLetters := by decide +kernel
  have hinX4 : ∀ w ∈ u_ws RX4 TX4 2, w ∈ wsX5_takeLetters := by decide +kernel
  have hS : va_S (inX a) s.heap s.heap [] := va_S.rf
  obtain ⟨H, hH⟩ : ∃ H, H = s.heap := ⟨_, rfl⟩
  obtain ⟨locs, hlocs⟩ : ∃ locs : List Loc, locs = [] := ⟨_, rfl⟩
  have hP : va_P D vwCl (wX a cs tp wd lx ro rs) H := hH ▸ hP
  have hS : va_S (inX a) s.heap H locs := by rw [hH, hlocs]; exact va_S.rf
  suffices hgo : W p l e rmX5_takeLetters s m args below meth c H locs 0 0 Q (F0 m 0 ls []) by rw [hH, hlocs] at hgo; exact hgo
  clear hH hlocs
  refine lv_aload_n hx hb dX5_takeLetters_0 rfl (lv_at hl 0 rfl) ?_
  refine va_get (D := D) (ci := 5) (v := .ref (a 1)) (C := RX5) (T := TX5) (N := 5) hx hb hts hinX5 hown hK hP 0 rfl rfl 0 (by decide) (hts (.fieldLink RX5 10 "TypoSuggester" "tape" "LTypoSuggester$Tape;") (by decide +kernel)) (fun _ h9 => h9) rfl dX5_takeLetters_1 ?_
  refine va_get (D := D) (ci := 3) (v := .int (nI (tp.2))) (C := RX3) (T := TX3) (N := 2) hx hb hts hinX3 hown hK hP 1 rfl rfl 1 (by decide) (hts (.fieldLink RX5 48 "TypoSuggester$Tape" "size" "I") (by decide +kernel)) (fun _ h9 => h9) rfl dX5_takeLetters_4 ?_
  refine lv_istore_n (lv' := [(1, .int (nI (tp.2))), (0, .ref (a 0))]) hx hb dX5_takeLetters_7 rfl hl (by decide) rfl (fun ls hl => ?_)
  refine lv_aload_n hx hb dX5_takeLetters_8 rfl (lv_at hl 1 rfl) ?_
  refine va_get (D := D) (ci := 5) (v := .ref (a 1)) (C := RX5) (T := TX5) (N := 5) hx hb hts hinX5 hown hK hP 0 rfl rfl 0 (by decide) (hts (.fieldLink RX5 10 "TypoSuggester" "tape" "LTypoSuggester$Tape;") (by decide +kernel)) (fun _ h9 => h9) rfl dX5_takeLetters_9 ?_
  refine lv_iconst (v := nI 0) hx hb dX5_takeLetters_12 (by decide +kernel) ?_
  refine nz_put (D := D) (ci := 3) (v := .int (nI (0))) (ty := .int) (ws' := wX a cs (tp.1, 0) wd lx ro rs) (C := RX3) (T := TX3) (N := 2) hx hb hts hinX3 tyX3 tyX3_ok nmX3 hown hK hP (wX_D ha) hS 1 rfl rfl 1 (by decide) (hts (.fieldLink RX5 48 "TypoSuggester$Tape" "size" "I") (by decide +kernel)) (fun _ h9 => h9) rfl (by decide +kernel) rfl rfl (Nat.le_of_ble_eq_true rfl) dX5_takeLetters_13 rfl (fun H locs hP hS => ?_)
  refine lv_aload_n hx hb dX5_takeLetters_16 rfl (lv_at hl 1 rfl) ?_
  refine va_get (D := D) (ci := 5) (v := .ref (a 2)) (C := RX5) (T := TX5) (N := 5) hx hb hts hinX5 hown hK hP 0 rfl rfl 1 (by decide) (hts (.fieldLink RX5 19 "TypoSuggester" "word" "LTypoSuggester$Word;") (by decide +kernel)) (fun _ h9 => h9) rfl dX5_takeLetters_17 ?_
  refine lv_iconst (v := nI 0) hx hb dX5_takeLetters_20 (by decide +kernel) ?_
  refine nz_put (D := D) (ci := 4) (v := .int (nI (0))) (ty := .int) (ws' := wX a cs (tp.1, 0) (wd.1, 0) lx ro rs) (C := RX4) (T := TX4) (N := 2) hx hb hts hinX4 tyX4 tyX4_ok nmX4 hown hK hP (wX_D ha) hS 2 rfl rfl 1 (by decide) (hts (.fieldLink RX5 53 "TypoSuggester$Word" "length" "I") (by decide +kernel)) (fun _ h9 => h9) rfl (by decide +kernel) rfl rfl (Nat.le_of_ble_eq_true rfl) dX5_takeLetters_21 rfl (fun H locs hP hS => ?_)
  refine lv_iload_n hx hb dX5_takeLetters_24 rfl (lv_at hl 0 rfl) ?_
  refine lv_bipush (v := nI 24) hx hb dX5_takeLetters_25 (by decide +kernel) ?_
  refine nz_cle (a := tp.2) (b := 24) (tgt := 32) hx hb dX5_takeLetters_27 (by decide) (by omega) (by omega) (fun c_27 => ?_) (fun c_27 => ?_)
  · refine lv_iconst (v := nI 0) hx hb dX5_takeLetters_32 (by decide +kernel) ?_
    refine lv_istore_n (lv' := [(2, .int (nI (0))), (1, .int (nI (tp.2))), (0, .ref (a 0))]) hx hb dX5_takeLetters_33 rfl hl (by decide) rfl (fun ls hl => ?_)
    have loop : ∀ (fuel : Nat) (k : Nat) (f : Nat → Nat), (k ≤ tp.2) → (∀ j, j < k → f j = qF tp j) → (∀ j, j < k → smB (tp.1 j) = true) → (∀ j, f j < 128) → tp.2 - k < fuel → ∀ (H : Heap) (locs : List Loc), va_P D vwCl (wX a cs (tp.1, 0) (f, k) lx ro rs) H → va_S (inX a) s.heap H locs → ∀ ls : Array Slot, lv_has ls 3 [(0, .ref (a 0)), (1, .int (nI (tp.2))), (2, .int (nI (k)))] → W p l e rmX5_takeLetters s m args below meth c H locs 0 0 Q (F0 m 34 ls []) := by
      intro fuel
      induction fuel with
      | zero => intro k f hk hff hsm hfb hf; exact absurd hf (Nat.not_lt_zero _)
      | succ fuel ih =>
        intro k f hk hff hsm hfb hf H locs hP hS ls hl
        refine lv_iload_n hx hb dX5_takeLetters_34 rfl (lv_at hl 2 rfl) ?_
        refine lv_iload_n hx hb dX5_takeLetters_35 rfl (lv_at hl 1 rfl) ?_
        refine nz_cge (a := k) (b := tp.2) (tgt := 78) hx hb dX5_takeLetters_36 (by decide) (by omega) (by omega) (fun c_36 => ?_) (fun c_36 => ?_)
        · refine lv_iconst (v := nI 1) hx hb dX5_takeLetters_78 (by decide +kernel) ?_
          refine nz_top bI_t ?_
          have hbv : bb = true := hbb.mpr ⟨c_27, fun j hj => hsm j (by omega)⟩
          subst hbv
          exact hret 79 ls H locs dX5_takeLetters_79 ⟨(f, k), ⟨⟨by show k ≤ 24; omega, hfb⟩, fun _ => ⟨by show k = tp.2; omega, fun j hj => hff j (by omega)⟩⟩, hP⟩ hS
        · refine lv_aload_n hx hb dX5_takeLetters_39 rfl (lv_at hl 0 rfl) ?_
          refine va_get (D := D) (ci := 5) (v := .ref (a 1)) (C := RX5) (T := TX5) (N := 5) hx hb hts hinX5 hown hK hP 0 rfl rfl 0 (by decide) (hts (.fieldLink RX5 10 "TypoSuggester" "tape" "LTypoSuggester$Tape;") (by decide +kernel)) (fun _ h9 => h9) rfl dX5_takeLetters_40 ?_
          refine va_get (D := D) (ci := 3) (v := .ref (a 6)) (C := RX3) (T := TX3) (N := 2) hx hb hts hinX3 hown hK hP 1 rfl rfl 0 (by decide) (hts (.fieldLink RX5 56 "TypoSuggester$Tape" "bytes" "[B") (by decide +kernel)) (fun _ h9 => h9) rfl dX5_takeLetters_43 ?_
          refine lv_iload_n hx hb dX5_takeLetters_46 rfl (lv_at hl 2 rfl) ?_
          refine nz_baldR (f := tp.1) (k := k) hx hb hK hP 6 0 rfl rfl (by omega) (by decide) dX5_takeLetters_47 ?_
          refine nz_callR (va_runS (As := [.int (tp.1 k)]) (rest := []) ⟨hx, hb, hml, hown, hts⟩ (mX5_isSmallLetter l D a cs (tp.1, 0) (f, k) lx ro rs (tp.1 k)) (va_cwS 1 hts gX5_takeLetters_X5_isSmallLetter rfl rfl rfl (by decide +kernel) ⟨Nat.le_of_ble_eq_true rfl, Nat.le_of_ble_eq_true rfl⟩) (nz_preS hK hP) rfl rfl hl.1 rfl (lv_room (Nat.le_of_ble_eq_true rfl)) dX5_takeLetters_48 ⟨Nat.zero_le _, Nat.zero_le _⟩) ?_
          refine nz_ifneB (tgt := 56) hx hb dX5_takeLetters_51 (by decide) (fun c_51 => ?_) (fun c_51 => ?_)
          · refine lv_aload_n hx hb dX5_takeLetters_56 rfl (lv_at hl 0 rfl) ?_
            refine va_get (D := D) (ci := 5) (v := .ref (a 2)) (C := RX5) (T := TX5) (N := 5) hx hb hts hinX5 hown hK hP 0 rfl rfl 1 (by decide) (hts (.fieldLink RX5 19 "TypoSuggester" "word" "LTypoSuggester$Word;") (by decide +kernel)) (fun _ h9 => h9) rfl dX5_takeLetters_57 ?_
            refine lv_aload_n hx hb dX5_takeLetters_60 rfl (lv_at hl 0 rfl) ?_
            refine va_get (D := D) (ci := 5) (v := .ref (a 1)) (C := RX5) (T := TX5) (N := 5) hx hb hts hinX5 hown hK hP 0 rfl rfl 0 (by decide) (hts (.fieldLink RX5 10 "TypoSuggester" "tape" "LTypoSuggester$Tape;") (by decide +kernel)) (fun _ h9 => h9) rfl dX5_takeLetters_61 ?_
            refine va_get (D := D) (ci := 3) (v := .ref (a 6)) (C := RX3) (T := TX3) (N := 2) hx hb hts hinX3 hown hK hP 1 rfl rfl 0 (by decide) (hts (.fieldLink RX5 56 "TypoSuggester$Tape" "bytes" "[B") (by decide +kernel)) (fun _ h9 => h9) rfl dX5_takeLetters_64 ?_
            refine lv_iload_n hx hb dX5_takeLetters_67 rfl (lv_at hl 2 rfl) ?_
            refine nz_baldR (f := tp.1) (k := k) hx hb hK hP 6 0 rfl rfl (by omega) (by decide) dX5_takeLetters_68 ?_
            refine nz_top (y := nI (qF tp k)) (smB_q c_51).1 ?_
            refine nz_callW (va_runV (As := [.int (nI (qF tp k))]) (rest := []) ⟨hx, hb, hml, hown, hts⟩ (mX4_append l D a cs (tp.1, 0) (f, k) lx ro rs (qF tp k) true ha ⟨by show k ≤ 24; omega, hfb⟩ (smB_q c_51).2 ⟨fun _ => by show k < 24; omega, fun _ => rfl⟩) (cwV 1 hts gX5_takeLetters_X4_append rfl rfl rfl (by decide +kernel) ⟨Nat.le_of_ble_eq_true rfl, Nat.le_of_ble_eq_true rfl⟩) (nz_preV (ci := 4) (q0 := 2) hK hP rfl rfl) rfl rfl hl.1 rfl (lv_room (Nat.le_of_ble_eq_true rfl)) dX5_takeLetters_69 ⟨Nat.zero_le _, Nat.zero_le _⟩) hS (fun _ h => h) (fun H locs hP _ _ hS => ?_)
            have hP : va_P D vwCl (wX a cs (tp.1, 0) (va_up f k (qF tp k), k + 1) lx ro rs) H := hP
            refine lv_iinc (v := nI (k + 1)) (lv' := [(2, .int (nI (k + 1))), (0, .ref (a 0)), (1, .int (nI (tp.2)))]) hx hb dX5_takeLetters_72 hl (k := 2) rfl (nz_inc1 _) (by decide) rfl (fun ls hl => ?_)
            refine lv_goto (tgt := 34) hx hb dX5_takeLetters_75 (by decide) ?_
            exact ih (k + 1) (va_up f k (qF tp k)) (by omega) (up_ext hff) (lt_s hsm c_51) (up_lt hfb (smB_q c_51).2) (by omega) H locs hP hS ls (lv_sub hl [1, 2, 0] rfl)
          · refine lv_iconst (v := nI 0) hx hb dX5_takeLetters_54 (by decide +kernel) ?_
            have hbv : bb = false := by cases bb with | false => rfl | true => exact absurd (hbb.mp rfl) (fun hh => by have h9 := hh.2 k c_36; rw [c_51] at h9; cases h9)
            subst hbv
            refine nz_top bI_f ?_
            exact hret 55 ls H locs dX5_takeLetters_55 ⟨_, ⟨⟨by first | exact Nat.zero_le _ | (show k ≤ 24; omega), by first | exact hW2 | exact hfb⟩, fun h => by cases h⟩, hP⟩ hS
    exact loop (tp.2 - 0 + 1) 0 wd.1 (Nat.zero_le _) (fun j hj => absurd hj (Nat.not_lt_zero _)) (fun j hj => absurd hj (Nat.not_lt_zero _)) hW2 (Nat.lt_succ_self _) H locs hP hS ls (lv_sub hl [2, 1, 0] rfl)
  · refine lv_iconst (v := nI 0) hx hb dX5_takeLetters_30 (by decide +kernel) ?_
    have hbv : bb = false := by cases bb with | false => rfl | true => exact absurd (hbb.mp rfl) (fun hh => by have := hh.1; omega)
    subst hbv
    refine nz_top bI_f ?_
    exact hret 31 ls H locs dX5_takeLetters_31 ⟨_, ⟨⟨by first | exact Nat.zero_le _ | (show k ≤ 24; omega), by first | exact hW2 | exact hfb⟩, fun h => by cases h⟩, hP⟩ hS
abbrev rmX5_takeTerm : Room := { frames := 2, cells := 0, slots := 0, locals := 43 }
set_option maxHeartbeats 4000000 in
set_option maxRecDepth 100000 in
theorem mX5_takeTerm (l : Launch) (D : va_G) (a : Nat → Nat) (cs : Nat → ClassId) (tp : (Nat → Int32) × Nat) (wd : (Nat → Nat) × Nat) (lx : (Nat → Nat) × (Nat → Nat) × (Nat → Nat) × Nat) (ro : Nat → Nat) (rs : (Nat → Nat) × (Nat → Nat) × (Nat → Nat) × (Nat → Nat) × (Nat → Nat) × Nat) (bb : Bool) (ha : wInj a) (hT : tp.2 ≤ 400) (hW : WdB wd) (hbb : bb = true ↔ (goodT tp ∧ 0 < tp.2)) : Met l yX5_takeTerm wsX5_takeTerm rmX5_takeTerm (wdP D vwCl (wX a cs tp wd lx ro rs) (tyX cs) [.ref (a 0)]) (wrQ (some (.int (bI (bb)))) (fun H => ∃ wd2, (WdB wd2 ∧ (bb = true → wd2.2 = tp.2 ∧ ∀ j, j < tp.2 → wd2.1 j = qF tp j)) ∧ va_P D vwCl (wX a cs (tp.1, 0) wd2 lx ro rs) H) (inX a)) 0 0 (inX a) := by
  refine nz_metWi (by decide) rfl (Nat.le_of_ble_eq_true rfl) (bI_nar _) ?_
  intro p e s m args below meth c Q hx hb hml hts hown hP hK hret ls hl
  have hl : lv_has ls 1 [(0, .ref (a 0))] := hl
  have hown : s.vm.findClass RX5 = some m.cls := hown
  have hinX5 : ∀ w ∈ u_ws RX5 TX5 5, w ∈ wsX5_takeTerm := by decide +kernel
  have hinX4 : ∀ w ∈ u_ws RX4 TX4 2, w ∈ wsX5_takeTerm := by decide +kernel
  have hS : va_S (inX a) s.heap s.heap [] := va_S.rf
  obtain ⟨H, hH⟩ : ∃ H, H = s.heap := ⟨_, rfl⟩
  obtain ⟨locs, hlocs⟩ : ∃ locs : List Loc, locs = [] := ⟨_, rfl⟩
  have hP : va_P D vwCl (wX a cs tp wd lx ro rs) H := hH ▸ hP
  have hS : va_S (inX a) s.heap H locs := by rw [hH, hlocs]; exact va_S.rf
  suffices hgo : W p l e rmX5_takeTerm s m args below meth c H locs 0 0 Q (F0 m 0 ls []) by rw [hH, hlocs] at hgo; exact hgo
  clear hH hlocs
  refine lv_aload_n hx hb dX5_takeTerm_0 rfl (lv_at hl 0 rfl) ?_
  refine nz_callW (va_runV (As := []) (rest := []) ⟨hx, hb, hml, hown, hts⟩ (mX5_takeLetters l D a cs tp wd lx ro rs (dB (goodT tp)) ha hT hW dB_iff) (cwV 0 hts gX5_takeTerm_X5_takeLetters rfl rfl rfl (by decide +kernel) ⟨Nat.le_of_ble_eq_true rfl, Nat.le_of_ble_eq_true rfl⟩) (nz_preV (ci := 5) (q0 := 0) hK hP rfl rfl) rfl rfl hl.1 rfl (lv_room (Nat.le_of_ble_eq_true rfl)) dX5_takeTerm_1 ⟨Nat.zero_le _, Nat.zero_le _⟩) hS (fun _ h => h) (fun H locs hP _ _ hS => ?_)
  obtain ⟨wd2_1, hwd2, hP⟩ := hP
  refine nz_ifeqB (tgt := 21) hx hb dX5_takeTerm_4 (by decide) (fun c_4 => ?_) (fun c_4 => ?_)
  · refine lv_iconst (v := nI 0) hx hb dX5_takeTerm_21 (by decide +kernel) ?_
    have hbv : bb = false := by cases bb with | false => rfl | true => exact absurd (hbb.mp rfl) (fun hh => by have h8 := dB_t hh.1; first | exact absurd (c_4.symm.trans h8) (by decide) | (have := (hwd2.2 h8).1; omega))
    subst hbv
    refine nz_top bI_f ?_
    exact hret 22 ls H locs dX5_takeTerm_22 ⟨_, ⟨hwd2.1, fun h => by cases h⟩, hP⟩ hS
  · refine lv_aload_n hx hb dX5_takeTerm_7 rfl (lv_at hl 0 rfl) ?_
    refine va_get (D := D) (ci := 5) (v := .ref (a 2)) (C := RX5) (T := TX5) (N := 5) hx hb hts hinX5 hown hK hP 0 rfl rfl 1 (by decide) (hts (.fieldLink RX5 19 "TypoSuggester" "word" "LTypoSuggester$Word;") (by decide +kernel)) (fun _ h9 => h9) rfl dX5_takeTerm_8 ?_
    refine va_get (D := D) (ci := 4) (v := .int (nI (wd2_1.2))) (C := RX4) (T := TX4) (N := 2) hx hb hts hinX4 hown hK hP 2 rfl rfl 1 (by decide) (hts (.fieldLink RX5 53 "TypoSuggester$Word" "length" "I") (by decide +kernel)) (fun _ h9 => h9) rfl dX5_takeTerm_11 ?_
    refine nz_ifle (a := wd2_1.2) (tgt := 21) hx hb dX5_takeTerm_14 (by decide) (by have := hwd2.1.1; omega) (fun c_14 => ?_) (fun c_14 => ?_)
    · refine lv_iconst (v := nI 0) hx hb dX5_takeTerm_21 (by decide +kernel) ?_
      have hbv : bb = false := by cases bb with | false => rfl | true => exact absurd (hbb.mp rfl) (fun hh => by have h8 := dB_t hh.1; first | exact absurd (c_4.symm.trans h8) (by decide) | (have := (hwd2.2 h8).1; omega))
      subst hbv
      refine nz_top bI_f ?_
      exact hret 22 ls H locs dX5_takeTerm_22 ⟨_, ⟨hwd2.1, fun h => by cases h⟩, hP⟩ hS
    · refine lv_iconst (v := nI 1) hx hb dX5_takeTerm_17 (by decide +kernel) ?_
      refine lv_goto (tgt := 22) hx hb dX5_takeTerm_18 (by decide) ?_
      have hbv : bb = true := hbb.mpr ⟨dB_iff.mp c_4, by have := (hwd2.2 c_4).1; omega⟩
      subst hbv
      refine nz_top bI_t ?_
      exact hret 22 ls H locs dX5_takeTerm_22 ⟨_, ⟨hwd2.1, fun _ => hwd2.2 c_4⟩, hP⟩ hS
abbrev rmX5_takePlace : Room := { frames := 4, cells := 0, slots := 0, locals := 94 }
set_option maxHeartbeats 4000000 in
set_option maxRecDepth 100000 in
theorem mX5_takePlace (l : Launch) (D : va_G) (a : Nat → Nat) (cs : Nat → ClassId) (tp : (Nat → Int32) × Nat) (wd : (Nat → Nat) × Nat) (lx : (Nat → Nat) × (Nat → Nat) × (Nat → Nat) × Nat) (ro : Nat → Nat) (rs : (Nat → Nat) × (Nat → Nat) × (Nat → Nat) × (Nat → Nat) × (Nat → Nat) × Nat) (bb : Bool) (r : Nat) (b1 : Bool) (ha : wInj a) (hI : LxI lx) (hT : tp.2 ≤ 400) (hW : WdB wd) (hbb : bb = true ↔ (goodT tp ∧ 0 < tp.2)) (hr : PLp lx (qF tp) tp.2 r) (hb1 : b1 = true ↔ stdX lx (qF tp) tp.2 r) : Met l yX5_takePlace wsX5_takePlace rmX5_takePlace (wdP D vwCl (wX a cs tp wd lx ro rs) (tyX cs) [.ref (a 0)]) (wrQ (some (.int (bif (bb && b1) then nI r else (-1)))) (fun H => ∃ wd2, WdB wd2 ∧ va_P D vwCl (wX a cs (tp.1, 0) wd2 lx ro rs) H) (inX a)) 0 0 (inX a) := by
  refine nz_metWi (by decide) rfl (Nat.le_of_ble_eq_true rfl) rfl ?_
  intro p e s m args below meth c Q hx hb hml hts hown hP hK hret ls hl
  have hl : lv_has ls 2 [(0, .ref (a 0))] := hl
  have hown : s.vm.findClass RX5 = some m.cls := hown
  have hinX5 : ∀ w ∈ u_ws RX5 TX5 5, w ∈ wsX5_takePlace := by decide +kernel
  have hS : va_S (inX a) s.heap s.heap [] := va_S.rf
  obtain ⟨H, hH⟩ : ∃ H, H = s.heap := ⟨_, rfl⟩
  obtain ⟨locs, hlocs⟩ : ∃ locs : List Loc, locs = [] := ⟨_, rfl⟩
  have hP : va_P D vwCl (wX a cs tp wd lx ro rs) H := hH ▸ hP
  have hS : va_S (inX a) s.heap H locs := by rw [hH, hlocs]; exact va_S.rf
  suffices hgo : W p l e rmX5_takePlace s m args below meth c H locs 0 0 Q (F0 m 0 ls []) by rw [hH, hlocs] at hgo; exact hgo
  clear hH hlocs
  refine lv_aload_n hx hb dX5_takePlace_0 rfl (lv_at hl 0 rfl) ?_
  refine nz_callW (va_runV (As := []) (rest := []) ⟨hx, hb, hml, hown, hts⟩ (mX5_takeTerm l D a cs tp wd lx ro rs bb ha hT hW hbb) (cwV 0 hts gX5_takePlace_X5_takeTerm rfl rfl rfl (by decide +kernel) ⟨Nat.le_of_ble_eq_true rfl, Nat.le_of_ble_eq_true rfl⟩) (nz_preV (ci := 5) (q0 := 0) hK hP rfl rfl) rfl rfl hl.1 rfl (lv_room (Nat.le_of_ble_eq_true rfl)) dX5_takePlace_1 ⟨Nat.zero_le _, Nat.zero_le _⟩) hS (fun _ h => h) (fun H locs hP _ _ hS => ?_)
  obtain ⟨wd2_1, hwd2, hP⟩ := hP
  refine nz_ifneB (tgt := 9) hx hb dX5_takePlace_4 (by decide) (fun c_4 => ?_) (fun c_4 => ?_)
  · refine lv_aload_n hx hb dX5_takePlace_9 rfl (lv_at hl 0 rfl) ?_
    refine va_get (D := D) (ci := 5) (v := .ref (a 3)) (C := RX5) (T := TX5) (N := 5) hx hb hts hinX5 hown hK hP 0 rfl rfl 2 (by decide) (hts (.fieldLink RX5 26 "TypoSuggester" "lexicon" "LTypoSuggester$Lexicon;") (by decide +kernel)) (fun _ h9 => h9) rfl dX5_takePlace_10 ?_
    refine lv_aload_n hx hb dX5_takePlace_13 rfl (lv_at hl 0 rfl) ?_
    refine va_get (D := D) (ci := 5) (v := .ref (a 2)) (C := RX5) (T := TX5) (N := 5) hx hb hts hinX5 hown hK hP 0 rfl rfl 1 (by decide) (hts (.fieldLink RX5 19 "TypoSuggester" "word" "LTypoSuggester$Word;") (by decide +kernel)) (fun _ h9 => h9) rfl dX5_takePlace_14 ?_
    refine nz_callR (va_runV (As := [.ref (a 2)]) (rest := []) ⟨hx, hb, hml, hown, hts⟩ (mX0_placeOf l D a cs (tp.1, 0) wd2_1 lx ro rs r hI.1 hwd2.1 (plp_congr hr (hwd2.2 c_4))) (cwV 1 hts gX5_takePlace_X0_placeOf rfl rfl rfl (by decide +kernel) ⟨Nat.le_of_ble_eq_true rfl, Nat.le_of_ble_eq_true rfl⟩) (nz_preV (ci := 0) (q0 := 3) hK hP rfl rfl) rfl rfl hl.1 rfl (lv_room (Nat.le_of_ble_eq_true rfl)) dX5_takePlace_17 ⟨Nat.zero_le _, Nat.zero_le _⟩) ?_
    refine lv_istore_n (lv' := [(1, .int (nI (r))), (0, .ref (a 0))]) hx hb dX5_takePlace_20 rfl hl (by decide) rfl (fun ls hl => ?_)
    refine lv_aload_n hx hb dX5_takePlace_21 rfl (lv_at hl 1 rfl) ?_
    refine va_get (D := D) (ci := 5) (v := .ref (a 3)) (C := RX5) (T := TX5) (N := 5) hx hb hts hinX5 hown hK hP 0 rfl rfl 2 (by decide) (hts (.fieldLink RX5 26 "TypoSuggester" "lexicon" "LTypoSuggester$Lexicon;") (by decide +kernel)) (fun _ h9 => h9) rfl dX5_takePlace_22 ?_
    refine lv_iload_n hx hb dX5_takePlace_25 rfl (lv_at hl 0 rfl) ?_
    refine lv_aload_n hx hb dX5_takePlace_26 rfl (lv_at hl 1 rfl) ?_
    refine va_get (D := D) (ci := 5) (v := .ref (a 2)) (C := RX5) (T := TX5) (N := 5) hx hb hts hinX5 hown hK hP 0 rfl rfl 1 (by decide) (hts (.fieldLink RX5 19 "TypoSuggester" "word" "LTypoSuggester$Word;") (by decide +kernel)) (fun _ h9 => h9) rfl dX5_takePlace_27 ?_
    refine nz_callR (va_runV (As := [.int (nI (r)), .ref (a 2)]) (rest := []) ⟨hx, hb, hml, hown, hts⟩ (mX0_standsAt l D a cs (tp.1, 0) wd2_1 lx ro rs r b1 hI.1 hwd2.1 hr.1 (hb1.trans (stdX_congr2 (hwd2.2 c_4)))) (cwV 2 hts gX5_takePlace_X0_standsAt rfl rfl rfl (by decide +kernel) ⟨Nat.le_of_ble_eq_true rfl, Nat.le_of_ble_eq_true rfl⟩) (nz_preV (ci := 0) (q0 := 3) hK hP rfl rfl) rfl rfl hl.1 rfl (lv_room (Nat.le_of_ble_eq_true rfl)) dX5_takePlace_30 ⟨Nat.zero_le _, Nat.zero_le _⟩) ?_
    refine nz_ifeqB (tgt := 40) hx hb dX5_takePlace_33 (by decide) (fun c_33 => ?_) (fun c_33 => ?_)
    · refine lv_iconst (v := (-1)) hx hb dX5_takePlace_40 (by decide +kernel) ?_
      subst c_4
      subst c_33
      exact hret 41 ls H locs dX5_takePlace_41 ⟨_, hwd2.1, hP⟩ hS
    · refine lv_iload_n hx hb dX5_takePlace_36 rfl (lv_at hl 0 rfl) ?_
      refine lv_goto (tgt := 41) hx hb dX5_takePlace_37 (by decide) ?_
      subst c_4
      subst c_33
      exact hret 41 ls H locs dX5_takePlace_41 ⟨_, hwd2.1, hP⟩ hS
  · refine lv_iconst (v := (-1)) hx hb dX5_takePlace_7 (by decide +kernel) ?_
    subst c_4
    exact hret 8 ls H locs dX5_takePlace_8 ⟨_, hwd2.1, hP⟩ hS
abbrev rmX5_takeUse : Room := { frames := 5, cells := 0, slots := 0, locals := 117 }
set_option maxHeartbeats 4000000 in
set_option maxRecDepth 100000 in
theorem mX5_takeUse (l : Launch) (D : va_G) (a : Nat → Nat) (cs : Nat → ClassId) (tp : (Nat → Int32) × Nat) (wd : (Nat → Nat) × Nat) (lx : (Nat → Nat) × (Nat → Nat) × (Nat → Nat) × Nat) (ro : Nat → Nat) (rs : (Nat → Nat) × (Nat → Nat) × (Nat → Nat) × (Nat → Nat) × (Nat → Nat) × Nat) (wt : Nat) (ha : wInj a) (hI : LxI lx) (hW : WdB wd) (hwt : wt ≤ 1000000) : Met l yX5_takeUse wsX5_takeUse rmX5_takeUse (wdP D vwCl (wX a cs tp wd lx ro rs) (tyX cs) [.ref (a 0), .int (nI (wt))]) (wrQ (some (.int (nI ((useX lx wd.1 wd.2 wt).2)))) (fun H => va_P D vwCl (wX a cs tp (wd.1, 0) ((useX lx wd.1 wd.2 wt).1) ro rs) H) (inX a)) 0 0 (inX a) := by
  obtain ⟨hW1, hW2⟩ := id hW
  refine nz_metWi (by decide) rfl (Nat.le_of_ble_eq_true rfl) rfl ?_
  intro p e s m args below meth c Q hx hb hml hts hown hP hK hret ls hl
  have hl : lv_has ls 3 [(0, .ref (a 0)), (1, .int (nI (wt)))] := hl
  have hown : s.vm.findClass RX5 = some m.cls := hown
  have hinX5 : ∀ w ∈ u_ws RX5 TX5 5, w ∈ wsX5_takeUse := by decide +kernel
  have hinX4 : ∀ w ∈ u_ws RX4 TX4 2, w ∈ wsX5_takeUse := by decide +kernel
  have hS : va_S (inX a) s.heap s.heap [] := va_S.rf
  obtain ⟨H, hH⟩ : ∃ H, H = s.heap := ⟨_, rfl⟩
  obtain ⟨locs, hlocs⟩ : ∃ locs : List Loc, locs = [] := ⟨_, rfl⟩
  have hP : va_P D vwCl (wX a cs tp wd lx ro rs) H := hH ▸ hP
  have hS : va_S (inX a) s.heap H locs := by rw [hH, hlocs]; exact va_S.rf
  suffices hgo : W p l e rmX5_takeUse s m args below meth c H locs 0 0 Q (F0 m 0 ls []) by rw [hH, hlocs] at hgo; exact hgo
  clear hH hlocs
  refine lv_aload_n hx hb dX5_takeUse_0 rfl (lv_at hl 0 rfl) ?_
  refine va_get (D := D) (ci := 5) (v := .ref (a 2)) (C := RX5) (T := TX5) (N := 5) hx hb hts hinX5 hown hK hP 0 rfl rfl 1 (by decide) (hts (.fieldLink RX5 19 "TypoSuggester" "word" "LTypoSuggester$Word;") (by decide +kernel)) (fun _ h9 => h9) rfl dX5_takeUse_1 ?_
  refine va_get (D := D) (ci := 4) (v := .int (nI (wd.2))) (C := RX4) (T := TX4) (N := 2) hx hb hts hinX4 hown hK hP 2 rfl rfl 1 (by decide) (hts (.fieldLink RX5 53 "TypoSuggester$Word" "length" "I") (by decide +kernel)) (fun _ h9 => h9) rfl dX5_takeUse_4 ?_
  refine nz_ifle (a := wd.2) (tgt := 29) hx hb dX5_takeUse_7 (by decide) (by omega) (fun c_7 => ?_) (fun c_7 => ?_)
  · refine lv_iconst (v := nI 0) hx hb dX5_takeUse_29 (by decide +kernel) ?_
    refine lv_istore_n (lv' := [(2, .int (nI (0))), (0, .ref (a 0)), (1, .int (nI (wt)))]) hx hb dX5_takeUse_30 rfl hl (by decide) rfl (fun ls hl => ?_)
    refine lv_aload_n hx hb dX5_takeUse_31 rfl (lv_at hl 1 rfl) ?_
    refine va_get (D := D) (ci := 5) (v := .ref (a 2)) (C := RX5) (T := TX5) (N := 5) hx hb hts hinX5 hown hK hP 0 rfl rfl 1 (by decide) (hts (.fieldLink RX5 19 "TypoSuggester" "word" "LTypoSuggester$Word;") (by decide +kernel)) (fun _ h9 => h9) rfl dX5_takeUse_32 ?_
    refine lv_iconst (v := nI 0) hx hb dX5_takeUse_35 (by decide +kernel) ?_
    refine nz_put (D := D) (ci := 4) (v := .int (nI (0))) (ty := .int) (ws' := wX a cs tp (wd.1, 0) lx ro rs) (C := RX4) (T := TX4) (N := 2) hx hb hts hinX4 tyX4 tyX4_ok nmX4 hown hK hP (wX_D ha) hS 2 rfl rfl 1 (by decide) (hts (.fieldLink RX5 53 "TypoSuggester$Word" "length" "I") (by decide +kernel)) (fun _ h9 => h9) rfl (by decide +kernel) rfl rfl (Nat.le_of_ble_eq_true rfl) dX5_takeUse_36 rfl (fun H locs hP hS => ?_)
    refine lv_iload_n hx hb dX5_takeUse_39 rfl (lv_at hl 0 rfl) ?_
    refine nz_ifeq (a := 0) (tgt := 47) hx hb dX5_takeUse_40 (by decide) (by omega) (fun _ => ?_) (fun h => absurd h (by decide))
    refine lv_iconst (v := nI 0) hx hb dX5_takeUse_47 (by decide +kernel) ?_
    first | rw [useX_0 c_7] at hret | rw [useX_pos c_7, c_22] at hret
    exact hret 48 ls H locs dX5_takeUse_48 hP hS
  · refine lv_aload_n hx hb dX5_takeUse_10 rfl (lv_at hl 0 rfl) ?_
    refine va_get (D := D) (ci := 5) (v := .ref (a 3)) (C := RX5) (T := TX5) (N := 5) hx hb hts hinX5 hown hK hP 0 rfl rfl 2 (by decide) (hts (.fieldLink RX5 26 "TypoSuggester" "lexicon" "LTypoSuggester$Lexicon;") (by decide +kernel)) (fun _ h9 => h9) rfl dX5_takeUse_11 ?_
    refine lv_aload_n hx hb dX5_takeUse_14 rfl (lv_at hl 0 rfl) ?_
    refine va_get (D := D) (ci := 5) (v := .ref (a 2)) (C := RX5) (T := TX5) (N := 5) hx hb hts hinX5 hown hK hP 0 rfl rfl 1 (by decide) (hts (.fieldLink RX5 19 "TypoSuggester" "word" "LTypoSuggester$Word;") (by decide +kernel)) (fun _ h9 => h9) rfl dX5_takeUse_15 ?_
    refine lv_iload_n hx hb dX5_takeUse_18 rfl (lv_at hl 1 rfl) ?_
    refine nz_callW (va_runV (As := [.ref (a 2), .int (nI (wt))]) (rest := []) ⟨hx, hb, hml, hown, hts⟩ (mX0_grow l D a cs tp wd lx ro rs wt (plX lx wd.1 wd.2) (dB (stdX lx wd.1 wd.2 (plX lx wd.1 wd.2))) (dB (roomX lx wd.2)) ha hI.1 hW hwt (plX_is hI _ _) dB_iff dB_iff) (cwV 2 hts gX5_takeUse_X0_grow rfl rfl rfl (by decide +kernel) ⟨Nat.le_of_ble_eq_true rfl, Nat.le_of_ble_eq_true rfl⟩) (nz_preV (ci := 0) (q0 := 3) hK hP rfl rfl) rfl rfl hl.1 rfl (lv_room (Nat.le_of_ble_eq_true rfl)) dX5_takeUse_19 ⟨Nat.zero_le _, Nat.zero_le _⟩) hS (fun _ h => h) (fun H locs hP _ _ hS => ?_)
    refine nz_ifeqB (tgt := 29) hx hb dX5_takeUse_22 (by decide) (fun c_22 => ?_) (fun c_22 => ?_)
    · refine lv_iconst (v := nI 0) hx hb dX5_takeUse_29 (by decide +kernel) ?_
      refine lv_istore_n (lv' := [(2, .int (nI (0))), (0, .ref (a 0)), (1, .int (nI (wt)))]) hx hb dX5_takeUse_30 rfl hl (by decide) rfl (fun ls hl => ?_)
      refine lv_aload_n hx hb dX5_takeUse_31 rfl (lv_at hl 1 rfl) ?_
      refine va_get (D := D) (ci := 5) (v := .ref (a 2)) (C := RX5) (T := TX5) (N := 5) hx hb hts hinX5 hown hK hP 0 rfl rfl 1 (by decide) (hts (.fieldLink RX5 19 "TypoSuggester" "word" "LTypoSuggester$Word;") (by decide +kernel)) (fun _ h9 => h9) rfl dX5_takeUse_32 ?_
      refine lv_iconst (v := nI 0) hx hb dX5_takeUse_35 (by decide +kernel) ?_
      refine nz_put (D := D) (ci := 4) (v := .int (nI (0))) (ty := .int) (ws' := wX a cs tp (wd.1, 0) (bif (dB (stdX lx wd.1 wd.2 (plX lx wd.1 wd.2))) then lxAdd lx (plX lx wd.1 wd.2) wt else (bif (dB (roomX lx wd.2)) then lxIns lx wd (plX lx wd.1 wd.2) wt else lx)) ro rs) (C := RX4) (T := TX4) (N := 2) hx hb hts hinX4 tyX4 tyX4_ok nmX4 hown hK hP (wX_D ha) hS 2 rfl rfl 1 (by decide) (hts (.fieldLink RX5 53 "TypoSuggester$Word" "length" "I") (by decide +kernel)) (fun _ h9 => h9) rfl (by decide +kernel) rfl rfl (Nat.le_of_ble_eq_true rfl) dX5_takeUse_36 rfl (fun H locs hP hS => ?_)
      refine lv_iload_n hx hb dX5_takeUse_39 rfl (lv_at hl 0 rfl) ?_
      refine nz_ifeq (a := 0) (tgt := 47) hx hb dX5_takeUse_40 (by decide) (by omega) (fun _ => ?_) (fun h => absurd h (by decide))
      refine lv_iconst (v := nI 0) hx hb dX5_takeUse_47 (by decide +kernel) ?_
      first | rw [useX_0 c_7] at hret | rw [useX_pos c_7, c_22] at hret
      exact hret 48 ls H locs dX5_takeUse_48 hP hS
    · refine lv_iconst (v := nI 1) hx hb dX5_takeUse_25 (by decide +kernel) ?_
      refine lv_goto (tgt := 30) hx hb dX5_takeUse_26 (by decide) ?_
      refine lv_istore_n (lv' := [(2, .int (nI (1))), (0, .ref (a 0)), (1, .int (nI (wt)))]) hx hb dX5_takeUse_30 rfl hl (by decide) rfl (fun ls hl => ?_)
      refine lv_aload_n hx hb dX5_takeUse_31 rfl (lv_at hl 1 rfl) ?_
      refine va_get (D := D) (ci := 5) (v := .ref (a 2)) (C := RX5) (T := TX5) (N := 5) hx hb hts hinX5 hown hK hP 0 rfl rfl 1 (by decide) (hts (.fieldLink RX5 19 "TypoSuggester" "word" "LTypoSuggester$Word;") (by decide +kernel)) (fun _ h9 => h9) rfl dX5_takeUse_32 ?_
      refine lv_iconst (v := nI 0) hx hb dX5_takeUse_35 (by decide +kernel) ?_
      refine nz_put (D := D) (ci := 4) (v := .int (nI (0))) (ty := .int) (ws' := wX a cs tp (wd.1, 0) (bif (dB (stdX lx wd.1 wd.2 (plX lx wd.1 wd.2))) then lxAdd lx (plX lx wd.1 wd.2) wt else (bif (dB (roomX lx wd.2)) then lxIns lx wd (plX lx wd.1 wd.2) wt else lx)) ro rs) (C := RX4) (T := TX4) (N := 2) hx hb hts hinX4 tyX4 tyX4_ok nmX4 hown hK hP (wX_D ha) hS 2 rfl rfl 1 (by decide) (hts (.fieldLink RX5 53 "TypoSuggester$Word" "length" "I") (by decide +kernel)) (fun _ h9 => h9) rfl (by decide +kernel) rfl rfl (Nat.le_of_ble_eq_true rfl) dX5_takeUse_36 rfl (fun H locs hP hS => ?_)
      refine lv_iload_n hx hb dX5_takeUse_39 rfl (lv_at hl 0 rfl) ?_
      refine nz_ifeq (a := 1) (tgt := 47) hx hb dX5_takeUse_40 (by decide) (by omega) (fun h => absurd h (by decide)) (fun _ => ?_)
      refine lv_iconst (v := nI 1) hx hb dX5_takeUse_43 (by decide +kernel) ?_
      refine lv_goto (tgt := 48) hx hb dX5_takeUse_44 (by decide) ?_
      first | rw [useX_0 c_7] at hret | rw [useX_pos c_7, c_22] at hret
      exact hret 48 ls H locs dX5_takeUse_48 hP hS
abbrev rmX5_learn : Room := { frames := 6, cells := 0, slots := 0, locals := 139 }
set_option maxHeartbeats 4000000 in
set_option maxRecDepth 100000 in
theorem mX5_learn (l : Launch) (D : va_G) (a : Nat → Nat) (cs : Nat → ClassId) (tp : (Nat → Int32) × Nat) (wd : (Nat → Nat) × Nat) (lx : (Nat → Nat) × (Nat → Nat) × (Nat → Nat) × Nat) (ro : Nat → Nat) (rs : (Nat → Nat) × (Nat → Nat) × (Nat → Nat) × (Nat → Nat) × (Nat → Nat) × Nat) (x : Int32) (ha : wInj a) (hI : LxI lx) (hT : tp.2 ≤ 400) (hW : WdB wd) : Met l yX5_learn wsX5_learn rmX5_learn (wdP D vwCl (wX a cs tp wd lx ro rs) (tyX cs) [.ref (a 0), .int (x)]) (wrQ (some (.int (lrnI lx tp x))) (fun H => ∃ wd2, WdB wd2 ∧ va_P D vwCl (wX a cs (tp.1, lrnT tp x) wd2 (lrnL lx tp x) ro rs) H) (inX a)) 0 0 (inX a) := by
  obtain ⟨hW1, hW2⟩ := id hW
  refine nz_metWi (by decide) rfl (Nat.le_of_ble_eq_true rfl) rfl ?_
  intro p e s m args below meth c Q hx hb hml hts hown hP hK hret ls hl
  have hl : lv_has ls 5 [(0, .ref (a 0)), (1, .int (x))] := hl
  have hown : s.vm.findClass RX5 = some m.cls := hown
  have hinX5 : ∀ w ∈ u_ws RX5 TX5 5, w ∈ wsX5_learn := by decide +kernel
  have hinX4 : ∀ w ∈ u_ws RX4 TX4 2, w ∈ wsX5_learn := by decide +kernel
  have hinX3 : ∀ w ∈ u_ws RX3 TX3 2, w ∈ wsX5_learn := by decide +kernel
  have hS : va_S (inX a) s.heap s.heap [] := va_S.rf
  obtain ⟨H, hH⟩ : ∃ H, H = s.heap := ⟨_, rfl⟩
  obtain ⟨locs, hlocs⟩ : ∃ locs : List Loc, locs = [] := ⟨_, rfl⟩
  have hP : va_P D vwCl (wX a cs tp wd lx ro rs) H := hH ▸ hP
  have hS : va_S (inX a) s.heap H locs := by rw [hH, hlocs]; exact va_S.rf
  suffices hgo : W p l e rmX5_learn s m args below meth c H locs 0 0 Q (F0 m 0 ls []) by rw [hH, hlocs] at hgo; exact hgo
  clear hH hlocs
  refine lv_iload_n hx hb dX5_learn_0 rfl (lv_at hl 1 rfl) ?_
  refine lv_if_lt (tgt := 10) hx hb dX5_learn_1 (by decide) (fun c_1 => ?_) (fun c_1 => ?_)
  · have hno : ¬ lrnOk x := fun h => h.1 c_1
    refine lv_iconst (v := (-1)) hx hb dX5_learn_10 (by decide +kernel) ?_
    have hok : dB (lrnOk x) = false := dB_f hno
    rw [show lrnI lx tp x = -1 by unfold lrnI; rw [hok]; rfl, show lrnL lx tp x = lx by unfold lrnL; rw [hok]; rfl, show lrnT tp x = tp.2 by unfold lrnT; rw [hok]; rfl] at hret
    exact hret 11 ls H locs dX5_learn_11 ⟨_, hW, hP⟩ hS
  · obtain ⟨w1, hw1, rfl⟩ := nI_of c_1
    refine lv_iload_n hx hb dX5_learn_4 rfl (lv_at hl 1 rfl) ?_
    refine lv_ldc (v := nI 1000000) hx hb hown (hts (.constant RX5 52 (1000000)) (by decide +kernel)) dX5_learn_5 ?_
    refine nz_cle (a := w1) (b := 1000000) (tgt := 12) hx hb dX5_learn_7 (by decide) (by omega) (by omega) (fun c_7 => ?_) (fun c_7 => ?_)
    · refine lv_iconst (v := nI 0) hx hb dX5_learn_12 (by decide +kernel) ?_
      refine lv_istore_n (lv' := [(2, .int (nI (0))), (0, .ref (a 0)), (1, .int (nI (w1)))]) hx hb dX5_learn_13 rfl hl (by decide) rfl (fun ls hl => ?_)
      refine lv_aload_n hx hb dX5_learn_14 rfl (lv_at hl 1 rfl) ?_
      refine va_get (D := D) (ci := 5) (v := .ref (a 2)) (C := RX5) (T := TX5) (N := 5) hx hb hts hinX5 hown hK hP 0 rfl rfl 1 (by decide) (hts (.fieldLink RX5 19 "TypoSuggester" "word" "LTypoSuggester$Word;") (by decide +kernel)) (fun _ h9 => h9) rfl dX5_learn_15 ?_
      refine lv_iconst (v := nI 0) hx hb dX5_learn_18 (by decide +kernel) ?_
      refine nz_put (D := D) (ci := 4) (v := .int (nI (0))) (ty := .int) (ws' := wX a cs tp (wd.1, 0) lx ro rs) (C := RX4) (T := TX4) (N := 2) hx hb hts hinX4 tyX4 tyX4_ok nmX4 hown hK hP (wX_D ha) hS 2 rfl rfl 1 (by decide) (hts (.fieldLink RX5 53 "TypoSuggester$Word" "length" "I") (by decide +kernel)) (fun _ h9 => h9) rfl (by decide +kernel) rfl rfl (Nat.le_of_ble_eq_true rfl) dX5_learn_19 rfl (fun H locs hP hS => ?_)
      refine lv_iconst (v := nI 0) hx hb dX5_learn_22 (by decide +kernel) ?_
      refine lv_istore_n (lv' := [(3, .int (nI (0))), (2, .int (nI (0))), (0, .ref (a 0)), (1, .int (nI (w1)))]) hx hb dX5_learn_23 rfl hl (by decide) rfl (fun ls hl => ?_)
      have loop : ∀ (fuel : Nat) (k : Nat) (L : Nat) (lx2 : (Nat → Nat) × (Nat → Nat) × (Nat → Nat) × Nat) (c2 : Nat) (f : Nat → Nat), (k ≤ tp.2) → (L ≤ k) → (LxI lx2) → (∀ j, j < min L 24 → f j = lowN (tp.1 (k - L + j))) → (∀ j, f j < 128) → (c2 ≤ k) → (lrn (fun y g n => useX y g n w1) (fun i => lowN (tp.1 i)) (tp.2 - k) k L lx2 c2 = lrnA lx tp w1) → tp.2 - k < fuel → ∀ (H : Heap) (locs : List Loc), va_P D vwCl (wX a cs tp (f, min L 24) lx2 ro rs) H → va_S (inX a) s.heap H locs → ∀ ls : Array Slot, lv_has ls 5 [(0, .ref (a 0)), (1, .int (nI (w1))), (2, .int (nI (c2))), (3, .int (nI (k)))] → W p l e rmX5_learn s m args below meth c H locs 0 0 Q (F0 m 24 ls []) := by
        intro fuel
        induction fuel with
        | zero => intro k L lx2 c2 f hk hL hI2 hff hfb hc2 hfin hf; exact absurd hf (Nat.not_lt_zero _)
        | succ fuel ih =>
          intro k L lx2 c2 f hk hL hI2 hff hfb hc2 hfin hf H locs hP hS ls hl
          have hu := useX_inv (wt := w1) hI2 (f := f) (len := min L 24) ⟨by show min L 24 ≤ 24; omega, hfb⟩ (by omega)
          have hW9 : WdB (f, min L 24) := ⟨by show min L 24 ≤ 24; omega, hfb⟩
          refine lv_iload_n hx hb dX5_learn_24 rfl (lv_at hl 3 rfl) ?_
          refine lv_aload_n hx hb dX5_learn_25 rfl (lv_at hl 0 rfl) ?_
          refine va_get (D := D) (ci := 5) (v := .ref (a 1)) (C := RX5) (T := TX5) (N := 5) hx hb hts hinX5 hown hK hP 0 rfl rfl 0 (by decide) (hts (.fieldLink RX5 10 "TypoSuggester" "tape" "LTypoSuggester$Tape;") (by decide +kernel)) (fun _ h9 => h9) rfl dX5_learn_26 ?_
          refine va_get (D := D) (ci := 3) (v := .int (nI (tp.2))) (C := RX3) (T := TX3) (N := 2) hx hb hts hinX3 hown hK hP 1 rfl rfl 1 (by decide) (hts (.fieldLink RX5 48 "TypoSuggester$Tape" "size" "I") (by decide +kernel)) (fun _ h9 => h9) rfl dX5_learn_29 ?_
          refine nz_cge (a := k) (b := tp.2) (tgt := 81) hx hb dX5_learn_32 (by decide) (by omega) (by omega) (fun c_32 => ?_) (fun c_32 => ?_)
          · refine lv_iload_n hx hb dX5_learn_81 rfl (lv_at hl 2 rfl) ?_
            refine lv_aload_n hx hb dX5_learn_82 rfl (lv_at hl 0 rfl) ?_
            refine lv_iload_n hx hb dX5_learn_83 rfl (lv_at hl 1 rfl) ?_
            refine nz_callW (va_runV (As := [.int (nI (w1))]) (rest := [.int (nI (c2))]) ⟨hx, hb, hml, hown, hts⟩ (mX5_takeUse l D a cs tp (f, min L 24) lx2 ro rs w1 ha hI2 hW9 c_7) (cwV 1 hts gX5_learn_X5_takeUse rfl rfl rfl (by decide +kernel) ⟨Nat.le_of_ble_eq_true rfl, Nat.le_of_ble_eq_true rfl⟩) (nz_preV (ci := 5) (q0 := 0) hK hP rfl rfl) rfl rfl hl.1 rfl (lv_room (Nat.le_of_ble_eq_true rfl)) dX5_learn_84 ⟨Nat.zero_le _, Nat.zero_le _⟩) hS (fun _ h => h) (fun H locs hP _ _ hS => ?_)
            refine nz_iadd (a := c2) (b := (useX lx2 f (min L 24) w1).2) hx hb dX5_learn_87 ?_
            refine nz_top (y := nI (c2 + ((useX lx2 f (min L 24) w1).2))) (by rfl) ?_
            refine lv_istore_n (lv' := [(2, .int (nI (c2 + ((useX lx2 f (min L 24) w1).2)))), (0, .ref (a 0)), (1, .int (nI (w1))), (3, .int (nI (k)))]) hx hb dX5_learn_88 rfl hl (by decide) rfl (fun ls hl => ?_)
            refine lv_aload_n hx hb dX5_learn_89 rfl (lv_at hl 1 rfl) ?_
            refine va_get (D := D) (ci := 5) (v := .ref (a 1)) (C := RX5) (T := TX5) (N := 5) hx hb hts hinX5 hown hK hP 0 rfl rfl 0 (by decide) (hts (.fieldLink RX5 10 "TypoSuggester" "tape" "LTypoSuggester$Tape;") (by decide +kernel)) (fun _ h9 => h9) rfl dX5_learn_90 ?_
            refine lv_iconst (v := nI 0) hx hb dX5_learn_93 (by decide +kernel) ?_
            refine nz_put (D := D) (ci := 3) (v := .int (nI (0))) (ty := .int) (ws' := wX a cs (tp.1, 0) (f, 0) ((useX lx2 f (min L 24) w1).1) ro rs) (C := RX3) (T := TX3) (N := 2) hx hb hts hinX3 tyX3 tyX3_ok nmX3 hown hK hP (wX_D ha) hS 1 rfl rfl 1 (by decide) (hts (.fieldLink RX5 48 "TypoSuggester$Tape" "size" "I") (by decide +kernel)) (fun _ h9 => h9) rfl (by decide +kernel) rfl rfl (Nat.le_of_ble_eq_true rfl) dX5_learn_94 rfl (fun H locs hP hS => ?_)
            refine lv_iload_n hx hb dX5_learn_97 rfl (lv_at hl 0 rfl) ?_
            have hok : dB (lrnOk (nI w1)) = true := dB_t ⟨nI_pos hw1, by rw [nI_clamp hw1]; exact c_7⟩
            rw [show tp.2 - k = 0 by omega] at hfin
            have hfn : ((useX lx2 f (min L 24) w1).1, c2 + (useX lx2 f (min L 24) w1).2) = lrnA lx tp w1 := by rw [← hfin, useX_congr hI2 hff]; rfl
            rw [show lrnI lx tp (nI w1) = nI (c2 + (useX lx2 f (min L 24) w1).2) by unfold lrnI; rw [hok, nI_clamp hw1, ← hfn]; rfl, show lrnL lx tp (nI w1) = (useX lx2 f (min L 24) w1).1 by unfold lrnL; rw [hok, nI_clamp hw1, ← hfn]; rfl, show lrnT tp (nI w1) = 0 by unfold lrnT; rw [hok]; rfl] at hret
            exact hret 98 ls H locs dX5_learn_98 ⟨_, ⟨Nat.zero_le _, hfb⟩, hP⟩ hS
          · refine lv_aload_n hx hb dX5_learn_35 rfl (lv_at hl 0 rfl) ?_
            refine va_get (D := D) (ci := 5) (v := .ref (a 1)) (C := RX5) (T := TX5) (N := 5) hx hb hts hinX5 hown hK hP 0 rfl rfl 0 (by decide) (hts (.fieldLink RX5 10 "TypoSuggester" "tape" "LTypoSuggester$Tape;") (by decide +kernel)) (fun _ h9 => h9) rfl dX5_learn_36 ?_
            refine va_get (D := D) (ci := 3) (v := .ref (a 6)) (C := RX3) (T := TX3) (N := 2) hx hb hts hinX3 hown hK hP 1 rfl rfl 0 (by decide) (hts (.fieldLink RX5 56 "TypoSuggester$Tape" "bytes" "[B") (by decide +kernel)) (fun _ h9 => h9) rfl dX5_learn_39 ?_
            refine lv_iload_n hx hb dX5_learn_42 rfl (lv_at hl 3 rfl) ?_
            refine nz_baldR (f := tp.1) (k := k) hx hb hK hP 6 0 rfl rfl (by omega) (by decide) dX5_learn_43 ?_
            refine nz_callR (va_runS (As := [.int (tp.1 k)]) (rest := []) ⟨hx, hb, hml, hown, hts⟩ (mX5_smallLetter l D a cs tp (f, min L 24) lx2 ro rs (tp.1 k)) (va_cwS 1 hts gX5_learn_X5_smallLetter rfl rfl rfl (by decide +kernel) ⟨Nat.le_of_ble_eq_true rfl, Nat.le_of_ble_eq_true rfl⟩) (nz_preS hK hP) rfl rfl hl.1 rfl (lv_room (Nat.le_of_ble_eq_true rfl)) dX5_learn_44 ⟨Nat.zero_le _, Nat.zero_le _⟩) ?_
            refine lv_istore (lv' := [(4, .int (smI (tp.1 k))), (0, .ref (a 0)), (1, .int (nI (w1))), (2, .int (nI (c2))), (3, .int (nI (k)))]) hx hb dX5_learn_47 hl (by decide) rfl (fun ls hl => ?_)
            refine lv_iload hx hb dX5_learn_49 (lv_at hl 0 rfl) ?_
            refine lv_iconst (v := (-1)) hx hb dX5_learn_51 (by decide +kernel) ?_
            refine lv_icmp_eq (tgt := 67) hx hb dX5_learn_52 (by decide) (fun c_52 => ?_) (fun c_52 => ?_)
            · have hlo : lowN (tp.1 k) = 0 := (lowN_or (tp.1 k)).elim (fun z => z.2) (fun z => by rw [z.2.2] at c_52; exact absurd c_52 (fun h9 => nI_pos (n := lowN (tp.1 k)) (by omega) (by rw [h9]; decide +kernel)))
              refine lv_iload_n hx hb dX5_learn_67 rfl (lv_at hl 3 rfl) ?_
              refine lv_aload_n hx hb dX5_learn_68 rfl (lv_at hl 1 rfl) ?_
              refine lv_iload_n hx hb dX5_learn_69 rfl (lv_at hl 2 rfl) ?_
              refine nz_callW (va_runV (As := [.int (nI (w1))]) (rest := [.int (nI (c2))]) ⟨hx, hb, hml, hown, hts⟩ (mX5_takeUse l D a cs tp (f, min L 24) lx2 ro rs w1 ha hI2 hW9 c_7) (cwV 1 hts gX5_learn_X5_takeUse rfl rfl rfl (by decide +kernel) ⟨Nat.le_of_ble_eq_true rfl, Nat.le_of_ble_eq_true rfl⟩) (nz_preV (ci := 5) (q0 := 0) hK hP rfl rfl) rfl rfl hl.1 rfl (lv_room (Nat.le_of_ble_eq_true rfl)) dX5_learn_70 ⟨Nat.zero_le _, Nat.zero_le _⟩) hS (fun _ h => h) (fun H locs hP _ _ hS => ?_)
              refine nz_iadd (a := c2) (b := (useX lx2 f (min L 24) w1).2) hx hb dX5_learn_73 ?_
              refine nz_top (y := nI (c2 + ((useX lx2 f (min L 24) w1).2))) (by rfl) ?_
              refine lv_istore_n (lv' := [(2, .int (nI (c2 + ((useX lx2 f (min L 24) w1).2)))), (4, .int (smI (tp.1 k))), (0, .ref (a 0)), (1, .int (nI (w1))), (3, .int (nI (k)))]) hx hb dX5_learn_74 rfl hl (by decide) rfl (fun ls hl => ?_)
              refine lv_iinc (v := nI (k + 1)) (lv' := [(3, .int (nI (k + 1))), (2, .int (nI (c2 + ((useX lx2 f (min L 24) w1).2)))), (4, .int (smI (tp.1 k))), (0, .ref (a 0)), (1, .int (nI (w1)))]) hx hb dX5_learn_75 hl (k := 4) rfl (nz_inc1 _) (by decide) rfl (fun ls hl => ?_)
              refine lv_goto (tgt := 24) hx hb dX5_learn_78 (by decide) ?_
              exact ih (k + 1) 0 ((useX lx2 f (min L 24) w1).1) (c2 + ((useX lx2 f (min L 24) w1).2)) f (by omega) (Nat.zero_le _) hu.1 (fun j hj => absurd hj (by omega)) hfb (by omega) (by rw [← hfin, show tp.2 - k = (tp.2 - (k + 1)) + 1 by omega, lrn_0 (by show lowN (tp.1 k) = 0; omega), useX_congr hI2 hff]) (by omega) H locs hP hS ls (lv_sub hl [3, 4, 1, 0] rfl)
            · have hlo : 97 ≤ lowN (tp.1 k) ∧ lowN (tp.1 k) ≤ 122 ∧ smI (tp.1 k) = nI (lowN (tp.1 k)) := (lowN_or (tp.1 k)).elim (fun z => absurd z.1 c_52) (fun z => z)
              have e_1 : (smI (tp.1 k)) = (nI (lowN (tp.1 k))) := hlo.2.2
              have hl : lv_has ls 5 [(4, .int (nI (lowN (tp.1 k)))), (0, .ref (a 0)), (1, .int (nI (w1))), (2, .int (nI (c2))), (3, .int (nI (k)))] := by rw [← e_1]; exact hl
              refine lv_aload_n hx hb dX5_learn_55 rfl (lv_at hl 1 rfl) ?_
              refine va_get (D := D) (ci := 5) (v := .ref (a 2)) (C := RX5) (T := TX5) (N := 5) hx hb hts hinX5 hown hK hP 0 rfl rfl 1 (by decide) (hts (.fieldLink RX5 19 "TypoSuggester" "word" "LTypoSuggester$Word;") (by decide +kernel)) (fun _ h9 => h9) rfl dX5_learn_56 ?_
              refine lv_iload hx hb dX5_learn_59 (lv_at hl 0 rfl) ?_
              refine nz_callW (va_runV (As := [.int (nI (lowN (tp.1 k)))]) (rest := []) ⟨hx, hb, hml, hown, hts⟩ (mX4_append l D a cs tp (f, min L 24) lx2 ro rs (lowN (tp.1 k)) (decide (min L 24 < 24)) ha hW9 (by omega) decide_eq_true_iff) (cwV 1 hts gX5_learn_X4_append rfl rfl rfl (by decide +kernel) ⟨Nat.le_of_ble_eq_true rfl, Nat.le_of_ble_eq_true rfl⟩) (nz_preV (ci := 4) (q0 := 2) hK hP rfl rfl) rfl rfl hl.1 rfl (lv_room (Nat.le_of_ble_eq_true rfl)) dX5_learn_61 ⟨Nat.zero_le _, Nat.zero_le _⟩) hS (fun _ h => h) (fun H locs hP _ _ hS => ?_)
              obtain ⟨f2, hf2, hf2b, ef2⟩ := app_word (lo := fun j => lowN (tp.1 (k - L + j))) (ch := lowN (tp.1 k)) hff hfb (by omega) (by show _ = lowN (tp.1 (k - L + L)); rw [show k - L + L = k by omega])
              have hP : va_P D vwCl (wX a cs tp (bif decide (min L 24 < 24) then (va_up f (min L 24) (lowN (tp.1 k)), min L 24 + 1) else (f, min L 24)) lx2 ro rs) H := hP
              rw [ef2] at hP
              refine lv_goto (tgt := 75) hx hb dX5_learn_64 (by decide) ?_
              refine lv_iinc (v := nI (k + 1)) (lv' := [(3, .int (nI (k + 1))), (4, .int (nI (lowN (tp.1 k)))), (0, .ref (a 0)), (1, .int (nI (w1))), (2, .int (nI (c2)))]) hx hb dX5_learn_75 hl (k := 4) rfl (nz_inc1 _) (by decide) rfl (fun ls hl => ?_)
              refine lv_goto (tgt := 24) hx hb dX5_learn_78 (by decide) ?_
              exact ih (k + 1) (L + 1) lx2 c2 f2 (by omega) (by omega) hI2 (fun j hj => by rw [hf2 j hj, show k + 1 - (L + 1) = k - L by omega]) hf2b (by omega) (by rw [← hfin, show tp.2 - k = (tp.2 - (k + 1)) + 1 by omega, lrn_1 (by show lowN (tp.1 k) ≠ 0; omega)]) (by omega) H locs hP hS ls (lv_sub hl [2, 3, 4, 0] rfl)
      exact loop (tp.2 - 0 + 1) 0 0 lx 0 wd.1 (Nat.zero_le _) (Nat.le_refl _) hI (fun j hj => absurd hj (by omega)) hW2 (Nat.le_refl _) rfl (Nat.lt_succ_self _) H locs hP hS ls (lv_sub hl [2, 3, 1, 0] rfl)
    · have hno : ¬ lrnOk (nI w1) := fun h => by have := h.2; rw [nI_clamp hw1] at this; omega
      refine lv_iconst (v := (-1)) hx hb dX5_learn_10 (by decide +kernel) ?_
      have hok : dB (lrnOk (nI w1)) = false := dB_f hno
      rw [show lrnI lx tp (nI w1) = -1 by unfold lrnI; rw [hok]; rfl, show lrnL lx tp (nI w1) = lx by unfold lrnL; rw [hok]; rfl, show lrnT tp (nI w1) = tp.2 by unfold lrnT; rw [hok]; rfl] at hret
      exact hret 11 ls H locs dX5_learn_11 ⟨_, hW, hP⟩ hS
end
section
/-! The outer object's methods: set, drop, weight, rank, near, best, and those that only read. -/
section NC
variable {p : Program} {l : Launch} {e : Env} {R : Room} {s : State} {m : MethodId} {args : Array Value} {below : List Frame} {meth : Method} {c : Code} {H : Heap} {locs : List Loc} {cells slots : Nat} {Q : State → Prop}
variable {cc : ByteArray} {pc : Nat} {ls : Array Slot} {rest : List Value}
theorem nz_lRlt {x y : Int64} {off : Int} {tgt : Nat} (hexec : p.tables.exec = Jvm.exec) (hb : c.code = cc) (hdg : decode cc pc = .ok (.ifCond .lt off, 3)) (ht : (pc : Int) + off = (tgt : Int)) (kt : x < y → W p l e R s m args below meth c H locs cells slots Q (F0 m tgt ls rest)) (kf : ¬ x < y → W p l e R s m args below meth c H locs cells slots Q (F0 m (pc + 3) ls rest)) : W p l e R s m args below meth c H locs cells slots Q (F0 m pc ls (.int (lg_cmp x y) :: rest)) := by
  by_cases h1 : y < x
  · have e1 : lg_cmp x y = 1 := by simp [lg_cmp, h1]
    rw [e1]
    exact lv_if_lt hexec hb hdg ht (fun z => absurd z (by decide)) (fun _ => kf (fun z => Int64.lt_irrefl (Int64.lt_trans z h1)))
  · by_cases h2 : x = y
    · have e1 : lg_cmp x y = 0 := by subst h2; simp [lg_cmp]
      rw [e1]
      exact lv_if_lt hexec hb hdg ht (fun z => absurd z (by decide)) (fun _ => kf (fun z => by rw [h2] at z; exact Int64.lt_irrefl z))
    · have e1 : lg_cmp x y = -1 := by simp [lg_cmp, h1, h2]
      rw [e1]
      refine lv_if_lt hexec hb hdg ht (fun _ => kt ?_) (fun z => absurd (by decide) z)
      rw [Int64.lt_iff_toInt_lt] at h1 ⊢
      have h3 : x.toInt ≠ y.toInt := fun z => h2 (Int64.toInt_inj.mp z)
      omega
end NC
def setOk (x : Int64) : Prop := ¬ x < 0 ∧ ¬ lN 1000000000000 < x
def lW (x : Int64) : Nat := x.toInt.toNat
theorem lW_lN {n : Nat} (h : n < 2 ^ 63) : lW (lN n) = n := by
  unfold lW
  rw [pk_lT h]
  rfl
theorem lxIns_congr2 {lx : LxT} {wd : (Nat → Nat) × Nat} {f : Nat → Nat} {n p wt : Nat} (e : wd.2 = n ∧ ∀ j, j < n → wd.1 j = f j) : lxIns lx wd p wt = lxIns lx (f, n) p wt := by
  obtain ⟨rfl, e⟩ := e
  exact lxIns_congr (f := wd.1) e
theorem pb_ne {b : Bool} {r : Nat} (h : ¬ (bif b then nI r else (-1)) = -1) : b = true := by
  cases b with
  | true => rfl
  | false => exact absurd rfl h
theorem pb_eq {b : Bool} {r : Nat} (hr : r < 2 ^ 31) (h : (bif b then nI r else (-1)) = -1) : b = false := by
  cases b with
  | false => rfl
  | true =>
    have h : nI r = -1 := h
    exact absurd (by rw [h]; decide +kernel) (nI_pos hr)
def dOk (x : Int32) : Prop := ¬ x < 0 ∧ x.toNatClampNeg ≤ 2
/-- one more than the greatest V i of those i below n with P; 0 if there is none -/
def mx1 (P : Nat → Bool) (V : Nat → Nat) : Nat → Nat
  | 0 => 0
  | n + 1 => if P n then max (mx1 P V n) (V n + 1) else mx1 P V n
theorem mx1_congr {P P' : Nat → Bool} {V V' : Nat → Nat} : ∀ {n : Nat}, (∀ i, i < n → P i = P' i) → (∀ i, i < n → V i = V' i) → mx1 P V n = mx1 P' V' n
  | 0, _, _ => rfl
  | n + 1, h, h2 => by
    unfold mx1
    rw [h n (Nat.lt_succ_self n), h2 n (Nat.lt_succ_self n), mx1_congr (fun i hi => h i (Nat.lt_succ_of_lt hi)) (fun i hi => h2 i (Nat.lt_succ_of_lt hi))]
theorem mx1_le {P : Nat → Bool} {V : Nat → Nat} {M : Nat} (h : ∀ i, V i ≤ M) : ∀ n, mx1 P V n ≤ M + 1
  | 0 => Nat.zero_le _
  | n + 1 => by
    unfold mx1
    have h1 := mx1_le h n (P := P)
    have h2 := h n
    split <;> omega
theorem mx1_t {P : Nat → Bool} {V : Nat → Nat} {n : Nat} (h : P n = true) : mx1 P V (n + 1) = max (mx1 P V n) (V n + 1) := by
  show (if P n then _ else _) = _
  rw [if_pos h]
theorem mx1_none {P : Nat → Bool} {V : Nat → Nat} {k : Nat} : ∀ n, k ≤ n → (∀ i, k ≤ i → i < n → P i = false) → mx1 P V n = mx1 P V k
  | 0, h, _ => by rw [show k = 0 by omega]
  | n + 1, h, h2 => by
    rcases Nat.lt_or_ge k (n + 1) with z | z
    · show (if P n then _ else _) = _
      rw [if_neg (by rw [h2 n (by omega) (Nat.lt_succ_self n)]; decide)]
      exact mx1_none n (by omega) (fun i h3 h4 => h2 i h3 (by omega))
    · rw [show k = n + 1 by omega]
theorem mx1_max {g w : Nat} (hg : g ≤ 1000000000001) (hw : w ≤ 1000000000000) : (if lN w < lN g - 1 then lN g - 1 else lN w) = lN (max g (w + 1)) - 1 := by
  rcases Nat.eq_zero_or_pos g with h | h
  · subst h
    rw [if_neg (fun z => by
      have h1 : lN w < lN 0 := Int64.lt_trans z (by decide +kernel)
      rw [pk_lLT (by omega) (by decide)] at h1
      omega), show max 0 (w + 1) = w + 1 by omega, show (1 : Int64) = lN 1 from rfl, lN_sub (by omega)]
    rfl
  · rw [show (1 : Int64) = lN 1 from rfl, lN_sub (by omega), lN_sub (by omega)]
    by_cases z : w < g - 1
    · rw [if_pos ((pk_lLT (by omega) (by omega)).mpr z)]
      congr 1
      omega
    · rw [if_neg (fun y => z ((pk_lLT (by omega) (by omega)).mp y))]
      congr 1
      omega
/-- the row t of z letters begins with the n letters q -/
def begF (q : Nat → Nat) (n : Nat) (t : Nat → Nat) (z : Nat) : Prop := n ≤ z ∧ ∀ j, j < n → t j = q j
theorem beg_nlt {q t : Nat → Nat} {n z : Nat} (h : begF q n t z) : ¬ ltF t z q n := by
  rintro ⟨r, hr, h2, h3⟩
  have h4 := hr.1
  have h5 := h.1
  have h6 := h.2 r (by omega)
  omega
theorem beg_after {q t u : Nat → Nat} {n z y : Nat} (h1 : ¬ ltF t z q n) (h2 : ¬ begF q n t z) (h3 : ltF t z u y) : ¬ begF q n u y := by
  intro h
  obtain ⟨s, hs⟩ := lcp_ex t q (min z n)
  rw [ltF_iff hs] at h1
  have s1 := hs.1
  have sn : s < n := by
    rcases Nat.lt_or_ge s n with x | x
    · exact x
    · exact absurd ⟨by omega, fun j hj => hs.2.1 j (by omega)⟩ h2
  have sz : s < z := by omega
  have s3 := hs.2.2 (by omega)
  have s4 := h.2 s sn
  have h5 := h.1
  refine ltF_asym h3 ⟨s, ⟨by omega, fun j hj => ?_, fun _ => by omega⟩, by omega, Or.inr (by omega)⟩
  rw [h.2 j (by omega), hs.2.1 j hj]
def ofL (n : Nat) (z w nr : Nat → Nat) (i what : Int32) : Int64 := if ¬ i < 0 ∧ i.toNatClampNeg < n then (if what = 0 then lN (z i.toNatClampNeg) else if what = 1 then lN (w i.toNatClampNeg) else if what = 2 then lN (nr i.toNatClampNeg) else -1) else -1
theorem ofL_congr {n : Nat} {z z' w w' nr nr' : Nat → Nat} (h : ∀ i, i < n → z i = z' i ∧ w i = w' i ∧ nr i = nr' i) (i what : Int32) : ofL n z w nr i what = ofL n z' w' nr' i what := by
  unfold ofL
  by_cases hh : ¬ i < 0 ∧ i.toNatClampNeg < n
  · rw [if_pos hh, if_pos hh, (h _ hh.2).1, (h _ hh.2).2.1, (h _ hh.2).2.2]
  · rw [if_neg hh, if_neg hh]
abbrev rmX5_set : Room := { frames := 4, cells := 0, slots := 0, locals := 94 }
set_option maxHeartbeats 4000000 in
set_option maxRecDepth 100000 in
theorem mX5_set (l : Launch) (D : va_G) (a : Nat → Nat) (cs : Nat → ClassId) (tp : (Nat → Int32) × Nat) (wd : (Nat → Nat) × Nat) (lx : (Nat → Nat) × (Nat → Nat) × (Nat → Nat) × Nat) (ro : Nat → Nat) (rs : (Nat → Nat) × (Nat → Nat) × (Nat → Nat) × (Nat → Nat) × (Nat → Nat) × Nat) (x : Int64) (bb : Bool) (r : Nat) (b1 : Bool) (b2 : Bool) (b3 : Bool) (ha : wInj a) (hI : LxI lx) (hT : tp.2 ≤ 400) (hW : WdB wd) (hbb : bb = true ↔ (goodT tp ∧ 0 < tp.2)) (hr : PLp lx (qF tp) tp.2 r) (hb1 : b1 = true ↔ stdX lx (qF tp) tp.2 r) (hb2 : b2 = true ↔ roomX lx tp.2) (hb3 : b3 = true ↔ setOk x) : Met l yX5_set wsX5_set rmX5_set (wdP D vwCl (wX a cs tp wd lx ro rs) (tyX cs) [.ref (a 0), .long (x)]) (wrQ (some (.int (bif (bb && b3) then (bif b1 then nI 0 else (bif b2 then nI 1 else (-2))) else (-1)))) (fun H => ∃ wd2, WdB wd2 ∧ va_P D vwCl (wX a cs (tp.1, 0) wd2 (bif (bb && b3) then (bif b1 then lxSet lx r (lW x) else (bif b2 then lxIns lx (qF tp, tp.2) r (lW x) else lx)) else lx) ro rs) H) (inX a)) 0 0 (inX a) := by
  refine nz_metWi (by decide) rfl (Nat.le_of_ble_eq_true rfl) rfl ?_
  intro p e s m args below meth c Q hx hb hml hts hown hP hK hret ls hl
  have hl : lv_has ls 4 [(0, .ref (a 0)), (1, .long (x))] := hl
  have hown : s.vm.findClass RX5 = some m.cls := hown
  have hinX5 : ∀ w ∈ u_ws RX5 TX5 5, w ∈ wsX5_set := by decide +kernel
  have hinX0 : ∀ w ∈ u_ws RX0 TX0 4, w ∈ wsX5_set := by decide +kernel
  have hS : va_S (inX a) s.heap s.heap [] := va_S.rf
  obtain ⟨H, hH⟩ : ∃ H, H = s.heap := ⟨_, rfl⟩
  obtain ⟨locs, hlocs⟩ : ∃ locs : List Loc, locs = [] := ⟨_, rfl⟩
  have hP : va_P D vwCl (wX a cs tp wd lx ro rs) H := hH ▸ hP
  have hS : va_S (inX a) s.heap H locs := by rw [hH, hlocs]; exact va_S.rf
  suffices hgo : W p l e rmX5_set s m args below meth c H locs 0 0 Q (F0 m 0 ls []) by rw [hH, hlocs] at hgo; exact hgo
  clear hH hlocs
  refine lv_aload_n hx hb dX5_set_0 rfl (lv_at hl 0 rfl) ?_
  refine nz_callW (va_runV (As := []) (rest := []) ⟨hx, hb, hml, hown, hts⟩ (mX5_takeTerm l D a cs tp wd lx ro rs bb ha hT hW hbb) (cwV 0 hts gX5_set_X5_takeTerm rfl rfl rfl (by decide +kernel) ⟨Nat.le_of_ble_eq_true rfl, Nat.le_of_ble_eq_true rfl⟩) (nz_preV (ci := 5) (q0 := 0) hK hP rfl rfl) rfl rfl hl.1 rfl (lv_room (Nat.le_of_ble_eq_true rfl)) dX5_set_1 ⟨Nat.zero_le _, Nat.zero_le _⟩) hS (fun _ h => h) (fun H locs hP _ _ hS => ?_)
  obtain ⟨wd2_1, hwd2, hP⟩ := hP
  refine nz_ifeqB (tgt := 21) hx hb dX5_set_4 (by decide) (fun c_4 => ?_) (fun c_4 => ?_)
  · refine lv_iconst (v := (-1)) hx hb dX5_set_21 (by decide +kernel) ?_
    have hz : (bb && b3) = false := by
      cases hbb9 : bb with
      | false => rfl
      | true =>
        cases hb39 : b3 with
        | false => rfl
        | true =>
          have h9 := hb3.mp hb39
          first | exact absurd (c_4.symm.trans hbb9) (by decide) | exact absurd c_10 h9.1 | (exact absurd ((pk_lLT (by decide) hw1).mpr c_18) h9.2)
    rw [hz] at hret
    exact hret 22 ls H locs dX5_set_22 ⟨_, hwd2.1, hP⟩ hS
  · refine lv_lload_n hx hb dX5_set_7 rfl (lv_at hl 1 rfl) ?_
    refine lv_lconst (v := lN 0) hx hb dX5_set_8 (by decide +kernel) ?_
    refine W.lcmp hx hb dX5_set_9 ?_
    refine nz_lRlt (tgt := 21) hx hb dX5_set_10 (by decide) (fun c_10 => ?_) (fun c_10 => ?_)
    · refine lv_iconst (v := (-1)) hx hb dX5_set_21 (by decide +kernel) ?_
      have hz : (bb && b3) = false := by
        cases hbb9 : bb with
        | false => rfl
        | true =>
          cases hb39 : b3 with
          | false => rfl
          | true =>
            have h9 := hb3.mp hb39
            first | exact absurd (c_4.symm.trans hbb9) (by decide) | exact absurd c_10 h9.1 | (exact absurd ((pk_lLT (by decide) hw1).mpr c_18) h9.2)
      rw [hz] at hret
      exact hret 22 ls H locs dX5_set_22 ⟨_, hwd2.1, hP⟩ hS
    · obtain ⟨w1, hw1, rfl⟩ := pk_lOf (show ¬ x < 0 from c_10)
      refine lv_lload_n hx hb dX5_set_13 rfl (lv_at hl 1 rfl) ?_
      refine lv_ldc2 (v := lN (1000000000000)) hx hb hown (hts (.constantLong RX5 74 (1000000000000)) (by decide +kernel)) dX5_set_14 ?_
      refine W.lcmp hx hb dX5_set_17 ?_
      refine nz_lle (a := w1) (b := 1000000000000) (tgt := 23) hx hb dX5_set_18 (by decide) (by omega) (by omega) (fun c_18 => ?_) (fun c_18 => ?_)
      · refine lv_aload_n hx hb dX5_set_23 rfl (lv_at hl 0 rfl) ?_
        refine va_get (D := D) (ci := 5) (v := .ref (a 3)) (C := RX5) (T := TX5) (N := 5) hx hb hts hinX5 hown hK hP 0 rfl rfl 2 (by decide) (hts (.fieldLink RX5 26 "TypoSuggester" "lexicon" "LTypoSuggester$Lexicon;") (by decide +kernel)) (fun _ h9 => h9) rfl dX5_set_24 ?_
        refine lv_aload_n hx hb dX5_set_27 rfl (lv_at hl 0 rfl) ?_
        refine va_get (D := D) (ci := 5) (v := .ref (a 2)) (C := RX5) (T := TX5) (N := 5) hx hb hts hinX5 hown hK hP 0 rfl rfl 1 (by decide) (hts (.fieldLink RX5 19 "TypoSuggester" "word" "LTypoSuggester$Word;") (by decide +kernel)) (fun _ h9 => h9) rfl dX5_set_28 ?_
        refine nz_callR (va_runV (As := [.ref (a 2)]) (rest := []) ⟨hx, hb, hml, hown, hts⟩ (mX0_placeOf l D a cs (tp.1, 0) wd2_1 lx ro rs r hI.1 hwd2.1 (plp_congr hr (hwd2.2 c_4))) (cwV 1 hts gX5_set_X0_placeOf rfl rfl rfl (by decide +kernel) ⟨Nat.le_of_ble_eq_true rfl, Nat.le_of_ble_eq_true rfl⟩) (nz_preV (ci := 0) (q0 := 3) hK hP rfl rfl) rfl rfl hl.1 rfl (lv_room (Nat.le_of_ble_eq_true rfl)) dX5_set_31 ⟨Nat.zero_le _, Nat.zero_le _⟩) ?_
        refine lv_istore_n (lv' := [(3, .int (nI (r))), (0, .ref (a 0)), (1, .long (lN (w1)))]) hx hb dX5_set_34 rfl hl (by decide) rfl (fun ls hl => ?_)
        refine lv_aload_n hx hb dX5_set_35 rfl (lv_at hl 1 rfl) ?_
        refine va_get (D := D) (ci := 5) (v := .ref (a 3)) (C := RX5) (T := TX5) (N := 5) hx hb hts hinX5 hown hK hP 0 rfl rfl 2 (by decide) (hts (.fieldLink RX5 26 "TypoSuggester" "lexicon" "LTypoSuggester$Lexicon;") (by decide +kernel)) (fun _ h9 => h9) rfl dX5_set_36 ?_
        refine lv_iload_n hx hb dX5_set_39 rfl (lv_at hl 0 rfl) ?_
        refine lv_aload_n hx hb dX5_set_40 rfl (lv_at hl 1 rfl) ?_
        refine va_get (D := D) (ci := 5) (v := .ref (a 2)) (C := RX5) (T := TX5) (N := 5) hx hb hts hinX5 hown hK hP 0 rfl rfl 1 (by decide) (hts (.fieldLink RX5 19 "TypoSuggester" "word" "LTypoSuggester$Word;") (by decide +kernel)) (fun _ h9 => h9) rfl dX5_set_41 ?_
        refine nz_callR (va_runV (As := [.int (nI (r)), .ref (a 2)]) (rest := []) ⟨hx, hb, hml, hown, hts⟩ (mX0_standsAt l D a cs (tp.1, 0) wd2_1 lx ro rs r b1 hI.1 hwd2.1 hr.1 (hb1.trans (stdX_congr2 (hwd2.2 c_4)))) (cwV 2 hts gX5_set_X0_standsAt rfl rfl rfl (by decide +kernel) ⟨Nat.le_of_ble_eq_true rfl, Nat.le_of_ble_eq_true rfl⟩) (nz_preV (ci := 0) (q0 := 3) hK hP rfl rfl) rfl rfl hl.1 rfl (lv_room (Nat.le_of_ble_eq_true rfl)) dX5_set_44 ⟨Nat.zero_le _, Nat.zero_le _⟩) ?_
        refine nz_ifeqB (tgt := 62) hx hb dX5_set_47 (by decide) (fun c_47 => ?_) (fun c_47 => ?_)
        · refine lv_aload_n hx hb dX5_set_62 rfl (lv_at hl 1 rfl) ?_
          refine va_get (D := D) (ci := 5) (v := .ref (a 3)) (C := RX5) (T := TX5) (N := 5) hx hb hts hinX5 hown hK hP 0 rfl rfl 2 (by decide) (hts (.fieldLink RX5 26 "TypoSuggester" "lexicon" "LTypoSuggester$Lexicon;") (by decide +kernel)) (fun _ h9 => h9) rfl dX5_set_63 ?_
          refine lv_iload_n hx hb dX5_set_66 rfl (lv_at hl 0 rfl) ?_
          refine lv_aload_n hx hb dX5_set_67 rfl (lv_at hl 1 rfl) ?_
          refine va_get (D := D) (ci := 5) (v := .ref (a 2)) (C := RX5) (T := TX5) (N := 5) hx hb hts hinX5 hown hK hP 0 rfl rfl 1 (by decide) (hts (.fieldLink RX5 19 "TypoSuggester" "word" "LTypoSuggester$Word;") (by decide +kernel)) (fun _ h9 => h9) rfl dX5_set_68 ?_
          refine lv_lload_n hx hb dX5_set_71 rfl (lv_at hl 2 rfl) ?_
          refine nz_callW (va_runV (As := [.int (nI (r)), .ref (a 2), .long (lN (w1))]) (rest := []) ⟨hx, hb, hml, hown, hts⟩ (mX0_insert l D a cs (tp.1, 0) wd2_1 lx ro rs r w1 b2 ha hI.1 hwd2.1 hr.1 (by omega) (by rw [(hwd2.2 c_4).1]; exact hb2)) (cwV 3 hts gX5_set_X0_insert rfl rfl rfl (by decide +kernel) ⟨Nat.le_of_ble_eq_true rfl, Nat.le_of_ble_eq_true rfl⟩) (nz_preV (ci := 0) (q0 := 3) hK hP rfl rfl) rfl rfl hl.1 rfl (lv_room (Nat.le_of_ble_eq_true rfl)) dX5_set_72 ⟨Nat.zero_le _, Nat.zero_le _⟩) hS (fun _ h => h) (fun H locs hP _ _ hS => ?_)
          have hP : va_P D vwCl (wX a cs (tp.1, 0) wd2_1 (bif b2 then lxIns lx wd2_1 r w1 else lx) ro rs) H := hP
          rw [lxIns_congr2 (hwd2.2 c_4)] at hP
          rw [lW_lN hw1] at hret
          refine nz_ifeqB (tgt := 82) hx hb dX5_set_75 (by decide) (fun c_75 => ?_) (fun c_75 => ?_)
          · refine lv_bipush (v := (-2)) hx hb dX5_set_82 (by decide +kernel) ?_
            have hb39 : b3 = true := hb3.mpr ⟨c_10, fun z => absurd ((pk_lLT (by decide) hw1).mp z) (by omega)⟩
            subst hb39
            subst c_4
            subst c_47
            subst c_75
            exact hret 84 ls H locs dX5_set_84 ⟨_, hwd2.1, hP⟩ hS
          · refine lv_iconst (v := nI 1) hx hb dX5_set_78 (by decide +kernel) ?_
            refine lv_goto (tgt := 84) hx hb dX5_set_79 (by decide) ?_
            have hb39 : b3 = true := hb3.mpr ⟨c_10, fun z => absurd ((pk_lLT (by decide) hw1).mp z) (by omega)⟩
            subst hb39
            subst c_4
            subst c_47
            subst c_75
            exact hret 84 ls H locs dX5_set_84 ⟨_, hwd2.1, hP⟩ hS
        · have hrc : r < lx.2.2.2 := (hb1.mp c_47).1
          have hlc := hI.1.1
          refine lv_aload_n hx hb dX5_set_50 rfl (lv_at hl 1 rfl) ?_
          refine va_get (D := D) (ci := 5) (v := .ref (a 3)) (C := RX5) (T := TX5) (N := 5) hx hb hts hinX5 hown hK hP 0 rfl rfl 2 (by decide) (hts (.fieldLink RX5 26 "TypoSuggester" "lexicon" "LTypoSuggester$Lexicon;") (by decide +kernel)) (fun _ h9 => h9) rfl dX5_set_51 ?_
          refine va_get (D := D) (ci := 0) (v := .ref (a 10)) (C := RX0) (T := TX0) (N := 4) hx hb hts hinX0 hown hK hP 3 rfl rfl 2 (by decide) (hts (.fieldLink RX5 84 "TypoSuggester$Lexicon" "weights" "[J") (by decide +kernel)) (fun _ h9 => h9) rfl dX5_set_54 ?_
          refine lv_iload_n hx hb dX5_set_57 rfl (lv_at hl 0 rfl) ?_
          refine lv_lload_n hx hb dX5_set_58 rfl (lv_at hl 2 rfl) ?_
          refine nz_last (f := lx.2.2.1) (k := r) (v := w1) (ws' := wX a cs (tp.1, 0) wd2_1 (lx.1, lx.2.1, va_up lx.2.2.1 r w1, lx.2.2.2) ro rs) hx hb hK hP (wX_D ha) hS 10 2 rfl rfl (by omega) (by decide) dX5_set_59 rfl (fun H locs hP hS => ?_)
          refine lv_iconst (v := nI 0) hx hb dX5_set_60 (by decide +kernel) ?_
          have hb39 : b3 = true := hb3.mpr ⟨c_10, fun z => absurd ((pk_lLT (by decide) hw1).mp z) (by omega)⟩
          subst hb39
          subst c_4
          subst c_47
          rw [lW_lN hw1] at hret
          exact hret 61 ls H locs dX5_set_61 ⟨_, hwd2.1, hP⟩ hS
      · refine lv_iconst (v := (-1)) hx hb dX5_set_21 (by decide +kernel) ?_
        have hz : (bb && b3) = false := by
          cases hbb9 : bb with
          | false => rfl
          | true =>
            cases hb39 : b3 with
            | false => rfl
            | true =>
              have h9 := hb3.mp hb39
              first | exact absurd (c_4.symm.trans hbb9) (by decide) | exact absurd c_10 h9.1 | (exact absurd ((pk_lLT (by decide) hw1).mpr c_18) h9.2)
        rw [hz] at hret
        exact hret 22 ls H locs dX5_set_22 ⟨_, hwd2.1, hP⟩ hS
abbrev rmX5_drop : Room := { frames := 5, cells := 0, slots := 0, locals := 115 }
set_option maxHeartbeats 4000000 in
set_option maxRecDepth 100000 in
theorem mX5_drop (l : Launch) (D : va_G) (a : Nat → Nat) (cs : Nat → ClassId) (tp : (Nat → Int32) × Nat) (wd : (Nat → Nat) × Nat) (lx : (Nat → Nat) × (Nat → Nat) × (Nat → Nat) × Nat) (ro : Nat → Nat) (rs : (Nat → Nat) × (Nat → Nat) × (Nat → Nat) × (Nat → Nat) × (Nat → Nat) × Nat) (bb : Bool) (r : Nat) (b1 : Bool) (ha : wInj a) (hI : LxI lx) (hT : tp.2 ≤ 400) (hW : WdB wd) (hbb : bb = true ↔ (goodT tp ∧ 0 < tp.2)) (hr : PLp lx (qF tp) tp.2 r) (hb1 : b1 = true ↔ stdX lx (qF tp) tp.2 r) : Met l yX5_drop wsX5_drop rmX5_drop (wdP D vwCl (wX a cs tp wd lx ro rs) (tyX cs) [.ref (a 0)]) (wrQ (some (.long (bif (bb && b1) then lN (lx.2.2.1 r) else (-1)))) (fun H => ∃ wd2, WdB wd2 ∧ va_P D vwCl (wX a cs (tp.1, 0) wd2 (bif (bb && b1) then lxDel lx r else lx) ro rs) H) (inX a)) 0 0 (inX a) := by
  refine nz_metWl (by decide) rfl (Nat.le_of_ble_eq_true rfl) ?_
  intro p e s m args below meth c Q hx hb hml hts hown hP hK hret ls hl
  have hl : lv_has ls 4 [(0, .ref (a 0))] := hl
  have hown : s.vm.findClass RX5 = some m.cls := hown
  have hinX5 : ∀ w ∈ u_ws RX5 TX5 5, w ∈ wsX5_drop := by decide +kernel
  have hinX0 : ∀ w ∈ u_ws RX0 TX0 4, w ∈ wsX5_drop := by decide +kernel
  have hS : va_S (inX a) s.heap s.heap [] := va_S.rf
  obtain ⟨H, hH⟩ : ∃ H, H = s.heap := ⟨_, rfl⟩
  obtain ⟨locs, hlocs⟩ : ∃ locs : List Loc, locs = [] := ⟨_, rfl⟩
  have hP : va_P D vwCl (wX a cs tp wd lx ro rs) H := hH ▸ hP
  have hS : va_S (inX a) s.heap H locs := by rw [hH, hlocs]; exact va_S.rf
  suffices hgo : W p l e rmX5_drop s m args below meth c H locs 0 0 Q (F0 m 0 ls []) by rw [hH, hlocs] at hgo; exact hgo
  clear hH hlocs
  refine lv_aload_n hx hb dX5_drop_0 rfl (lv_at hl 0 rfl) ?_
  refine nz_callW (va_runV (As := []) (rest := []) ⟨hx, hb, hml, hown, hts⟩ (mX5_takePlace l D a cs tp wd lx ro rs bb r b1 ha hI hT hW hbb hr hb1) (cwV 0 hts gX5_drop_X5_takePlace rfl rfl rfl (by decide +kernel) ⟨Nat.le_of_ble_eq_true rfl, Nat.le_of_ble_eq_true rfl⟩) (nz_preV (ci := 5) (q0 := 0) hK hP rfl rfl) rfl rfl hl.1 rfl (lv_room (Nat.le_of_ble_eq_true rfl)) dX5_drop_1 ⟨Nat.zero_le _, Nat.zero_le _⟩) hS (fun _ h => h) (fun H locs hP _ _ hS => ?_)
  obtain ⟨wd2_1, hwd2, hP⟩ := hP
  refine lv_istore_n (lv' := [(1, .int (bif (bb && b1) then nI r else (-1))), (0, .ref (a 0))]) hx hb dX5_drop_4 rfl hl (by decide) rfl (fun ls hl => ?_)
  refine lv_iload_n hx hb dX5_drop_5 rfl (lv_at hl 0 rfl) ?_
  refine lv_iconst (v := (-1)) hx hb dX5_drop_6 (by decide +kernel) ?_
  refine lv_icmp_ne (tgt := 14) hx hb dX5_drop_7 (by decide) (fun c_7 => ?_) (fun c_7 => ?_)
  · have hbt := pb_ne c_7
    have hrc : r < lx.2.2.2 := (hb1.mp (by cases b1 with | true => rfl | false => rw [Bool.and_false] at hbt; cases hbt)).1
    have hlc := hI.1.1
    have e_2 : (bif (bb && b1) then nI r else (-1)) = (nI (r)) := by rw [hbt]; rfl
    have hl : lv_has ls 4 [(1, .int (nI (r))), (0, .ref (a 0))] := by rw [← e_2]; exact hl
    refine lv_aload_n hx hb dX5_drop_14 rfl (lv_at hl 1 rfl) ?_
    refine va_get (D := D) (ci := 5) (v := .ref (a 3)) (C := RX5) (T := TX5) (N := 5) hx hb hts hinX5 hown hK hP 0 rfl rfl 2 (by decide) (hts (.fieldLink RX5 26 "TypoSuggester" "lexicon" "LTypoSuggester$Lexicon;") (by decide +kernel)) (fun _ h9 => h9) rfl dX5_drop_15 ?_
    refine va_get (D := D) (ci := 0) (v := .ref (a 10)) (C := RX0) (T := TX0) (N := 4) hx hb hts hinX0 hown hK hP 3 rfl rfl 2 (by decide) (hts (.fieldLink RX5 84 "TypoSuggester$Lexicon" "weights" "[J") (by decide +kernel)) (fun _ h9 => h9) rfl dX5_drop_18 ?_
    refine lv_iload_n hx hb dX5_drop_21 rfl (lv_at hl 0 rfl) ?_
    refine nz_lald (f := lx.2.2.1) (k := r) hx hb hK hP 10 2 rfl rfl (by omega) (by decide) dX5_drop_22 ?_
    refine lv_lstore_n (lv' := [(2, .long (lN (lx.2.2.1 r))), (1, .int (nI (r))), (0, .ref (a 0))]) hx hb dX5_drop_23 rfl hl (by decide) rfl (fun ls hl => ?_)
    refine lv_aload_n hx hb dX5_drop_24 rfl (lv_at hl 2 rfl) ?_
    refine va_get (D := D) (ci := 5) (v := .ref (a 3)) (C := RX5) (T := TX5) (N := 5) hx hb hts hinX5 hown hK hP 0 rfl rfl 2 (by decide) (hts (.fieldLink RX5 26 "TypoSuggester" "lexicon" "LTypoSuggester$Lexicon;") (by decide +kernel)) (fun _ h9 => h9) rfl dX5_drop_25 ?_
    refine lv_iload_n hx hb dX5_drop_28 rfl (lv_at hl 1 rfl) ?_
    refine nz_callW (va_runV (As := [.int (nI (r))]) (rest := []) ⟨hx, hb, hml, hown, hts⟩ (mX0_remove l D a cs (tp.1, 0) wd2_1 lx ro rs r ha hI.1 hrc) (cwV 1 hts gX5_drop_X0_remove rfl rfl rfl (by decide +kernel) ⟨Nat.le_of_ble_eq_true rfl, Nat.le_of_ble_eq_true rfl⟩) (nz_preV (ci := 0) (q0 := 3) hK hP rfl rfl) rfl rfl hl.1 rfl (lv_room (Nat.le_of_ble_eq_true rfl)) dX5_drop_29 ⟨Nat.zero_le _, Nat.zero_le _⟩) hS (fun _ h => h) (fun H locs hP _ _ hS => ?_)
    refine lv_lload_n hx hb dX5_drop_32 rfl (lv_at hl 0 rfl) ?_
    rw [hbt] at hret
    exact hret 33 ls H locs dX5_drop_33 ⟨_, hwd2, hP⟩ hS
  · have hbf := pb_eq (by have := hr.1; have := hI.1.1; omega) c_7
    refine lv_ldc2 (v := (-1)) hx hb hown (hts (.constantLong RX5 96 (-1)) (by decide +kernel)) dX5_drop_10 ?_
    rw [hbf] at hret
    exact hret 13 ls H locs dX5_drop_13 ⟨_, hwd2, hP⟩ hS
abbrev rmX5_weight : Room := { frames := 5, cells := 0, slots := 0, locals := 115 }
set_option maxHeartbeats 4000000 in
set_option maxRecDepth 100000 in
theorem mX5_weight (l : Launch) (D : va_G) (a : Nat → Nat) (cs : Nat → ClassId) (tp : (Nat → Int32) × Nat) (wd : (Nat → Nat) × Nat) (lx : (Nat → Nat) × (Nat → Nat) × (Nat → Nat) × Nat) (ro : Nat → Nat) (rs : (Nat → Nat) × (Nat → Nat) × (Nat → Nat) × (Nat → Nat) × (Nat → Nat) × Nat) (bb : Bool) (r : Nat) (b1 : Bool) (ha : wInj a) (hI : LxI lx) (hT : tp.2 ≤ 400) (hW : WdB wd) (hbb : bb = true ↔ (goodT tp ∧ 0 < tp.2)) (hr : PLp lx (qF tp) tp.2 r) (hb1 : b1 = true ↔ stdX lx (qF tp) tp.2 r) : Met l yX5_weight wsX5_weight rmX5_weight (wdP D vwCl (wX a cs tp wd lx ro rs) (tyX cs) [.ref (a 0)]) (wrQ (some (.long (bif (bb && b1) then lN (lx.2.2.1 r) else (-1)))) (fun H => ∃ wd2, WdB wd2 ∧ va_P D vwCl (wX a cs (tp.1, 0) wd2 lx ro rs) H) (inX a)) 0 0 (inX a) := by
  refine nz_metWl (by decide) rfl (Nat.le_of_ble_eq_true rfl) ?_
  intro p e s m args below meth c Q hx hb hml hts hown hP hK hret ls hl
  have hl : lv_has ls 2 [(0, .ref (a 0))] := hl
  have hown : s.vm.findClass RX5 = some m.cls := hown
  have hinX5 : ∀ w ∈ u_ws RX5 TX5 5, w ∈ wsX5_weight := by decide +kernel
  have hinX0 : ∀ w ∈ u_ws RX0 TX0 4, w ∈ wsX5_weight := by decide +kernel
  have hS : va_S (inX a) s.heap s.heap [] := va_S.rf
  obtain ⟨H, hH⟩ : ∃ H, H = s.heap := ⟨_, rfl⟩
  obtain ⟨locs, hlocs⟩ : ∃ locs : List Loc, locs = [] := ⟨_, rfl⟩
  have hP : va_P D vwCl (wX a cs tp wd lx ro rs) H := hH ▸ hP
  have hS : va_S (inX a) s.heap H locs := by rw [hH, hlocs]; exact va_S.rf
  suffices hgo : W p l e rmX5_weight s m args below meth c H locs 0 0 Q (F0 m 0 ls []) by rw [hH, hlocs] at hgo; exact hgo
  clear hH hlocs
  refine lv_aload_n hx hb dX5_weight_0 rfl (lv_at hl 0 rfl) ?_
  refine nz_callW (va_runV (As := []) (rest := []) ⟨hx, hb, hml, hown, hts⟩ (mX5_takePlace l D a cs tp wd lx ro rs bb r b1 ha hI hT hW hbb hr hb1) (cwV 0 hts gX5_weight_X5_takePlace rfl rfl rfl (by decide +kernel) ⟨Nat.le_of_ble_eq_true rfl, Nat.le_of_ble_eq_true rfl⟩) (nz_preV (ci := 5) (q0 := 0) hK hP rfl rfl) rfl rfl hl.1 rfl (lv_room (Nat.le_of_ble_eq_true rfl)) dX5_weight_1 ⟨Nat.zero_le _, Nat.zero_le _⟩) hS (fun _ h => h) (fun H locs hP _ _ hS => ?_)
  obtain ⟨wd2_1, hwd2, hP⟩ := hP
  refine lv_istore_n (lv' := [(1, .int (bif (bb && b1) then nI r else (-1))), (0, .ref (a 0))]) hx hb dX5_weight_4 rfl hl (by decide) rfl (fun ls hl => ?_)
  refine lv_iload_n hx hb dX5_weight_5 rfl (lv_at hl 0 rfl) ?_
  refine lv_iconst (v := (-1)) hx hb dX5_weight_6 (by decide +kernel) ?_
  refine lv_icmp_ne (tgt := 16) hx hb dX5_weight_7 (by decide) (fun c_7 => ?_) (fun c_7 => ?_)
  · have hbt := pb_ne c_7
    have hrc : r < lx.2.2.2 := (hb1.mp (by cases b1 with | true => rfl | false => rw [Bool.and_false] at hbt; cases hbt)).1
    have hlc := hI.1.1
    have e_2 : (bif (bb && b1) then nI r else (-1)) = (nI (r)) := by rw [hbt]; rfl
    have hl : lv_has ls 2 [(1, .int (nI (r))), (0, .ref (a 0))] := by rw [← e_2]; exact hl
    refine lv_aload_n hx hb dX5_weight_16 rfl (lv_at hl 1 rfl) ?_
    refine va_get (D := D) (ci := 5) (v := .ref (a 3)) (C := RX5) (T := TX5) (N := 5) hx hb hts hinX5 hown hK hP 0 rfl rfl 2 (by decide) (hts (.fieldLink RX5 26 "TypoSuggester" "lexicon" "LTypoSuggester$Lexicon;") (by decide +kernel)) (fun _ h9 => h9) rfl dX5_weight_17 ?_
    refine va_get (D := D) (ci := 0) (v := .ref (a 10)) (C := RX0) (T := TX0) (N := 4) hx hb hts hinX0 hown hK hP 3 rfl rfl 2 (by decide) (hts (.fieldLink RX5 84 "TypoSuggester$Lexicon" "weights" "[J") (by decide +kernel)) (fun _ h9 => h9) rfl dX5_weight_20 ?_
    refine lv_iload_n hx hb dX5_weight_23 rfl (lv_at hl 0 rfl) ?_
    refine nz_lald (f := lx.2.2.1) (k := r) hx hb hK hP 10 2 rfl rfl (by omega) (by decide) dX5_weight_24 ?_
    rw [hbt] at hret
    exact hret 25 ls H locs dX5_weight_25 ⟨_, hwd2, hP⟩ hS
  · have hbf := pb_eq (by have := hr.1; have := hI.1.1; omega) c_7
    refine lv_ldc2 (v := (-1)) hx hb hown (hts (.constantLong RX5 96 (-1)) (by decide +kernel)) dX5_weight_10 ?_
    refine lv_goto (tgt := 25) hx hb dX5_weight_13 (by decide) ?_
    rw [hbf] at hret
    exact hret 25 ls H locs dX5_weight_25 ⟨_, hwd2, hP⟩ hS
abbrev rmX5_rank : Room := { frames := 5, cells := 0, slots := 0, locals := 115 }
set_option maxHeartbeats 4000000 in
set_option maxRecDepth 100000 in
theorem mX5_rank (l : Launch) (D : va_G) (a : Nat → Nat) (cs : Nat → ClassId) (tp : (Nat → Int32) × Nat) (wd : (Nat → Nat) × Nat) (lx : (Nat → Nat) × (Nat → Nat) × (Nat → Nat) × Nat) (ro : Nat → Nat) (rs : (Nat → Nat) × (Nat → Nat) × (Nat → Nat) × (Nat → Nat) × (Nat → Nat) × Nat) (bb : Bool) (r : Nat) (b1 : Bool) (ha : wInj a) (hI : LxI lx) (hT : tp.2 ≤ 400) (hW : WdB wd) (hbb : bb = true ↔ (goodT tp ∧ 0 < tp.2)) (hr : PLp lx (qF tp) tp.2 r) (hb1 : b1 = true ↔ stdX lx (qF tp) tp.2 r) : Met l yX5_rank wsX5_rank rmX5_rank (wdP D vwCl (wX a cs tp wd lx ro rs) (tyX cs) [.ref (a 0)]) (wrQ (some (.int (bif (bb && b1) then nI (cntF (fun j => decide (lx.2.2.1 r < lx.2.2.1 j ∨ (lx.2.2.1 j = lx.2.2.1 r ∧ j < r))) lx.2.2.2) else (-1)))) (fun H => ∃ wd2, WdB wd2 ∧ va_P D vwCl (wX a cs (tp.1, 0) wd2 lx ro rs) H) (inX a)) 0 0 (inX a) := by
  refine nz_metWi (by decide) rfl (Nat.le_of_ble_eq_true rfl) rfl ?_
  intro p e s m args below meth c Q hx hb hml hts hown hP hK hret ls hl
  have hl : lv_has ls 2 [(0, .ref (a 0))] := hl
  have hown : s.vm.findClass RX5 = some m.cls := hown
  have hinX5 : ∀ w ∈ u_ws RX5 TX5 5, w ∈ wsX5_rank := by decide +kernel
  have hS : va_S (inX a) s.heap s.heap [] := va_S.rf
  obtain ⟨H, hH⟩ : ∃ H, H = s.heap := ⟨_, rfl⟩
  obtain ⟨locs, hlocs⟩ : ∃ locs : List Loc, locs = [] := ⟨_, rfl⟩
  have hP : va_P D vwCl (wX a cs tp wd lx ro rs) H := hH ▸ hP
  have hS : va_S (inX a) s.heap H locs := by rw [hH, hlocs]; exact va_S.rf
  suffices hgo : W p l e rmX5_rank s m args below meth c H locs 0 0 Q (F0 m 0 ls []) by rw [hH, hlocs] at hgo; exact hgo
  clear hH hlocs
  refine lv_aload_n hx hb dX5_rank_0 rfl (lv_at hl 0 rfl) ?_
  refine nz_callW (va_runV (As := []) (rest := []) ⟨hx, hb, hml, hown, hts⟩ (mX5_takePlace l D a cs tp wd lx ro rs bb r b1 ha hI hT hW hbb hr hb1) (cwV 0 hts gX5_rank_X5_takePlace rfl rfl rfl (by decide +kernel) ⟨Nat.le_of_ble_eq_true rfl, Nat.le_of_ble_eq_true rfl⟩) (nz_preV (ci := 5) (q0 := 0) hK hP rfl rfl) rfl rfl hl.1 rfl (lv_room (Nat.le_of_ble_eq_true rfl)) dX5_rank_1 ⟨Nat.zero_le _, Nat.zero_le _⟩) hS (fun _ h => h) (fun H locs hP _ _ hS => ?_)
  obtain ⟨wd2_1, hwd2, hP⟩ := hP
  refine lv_istore_n (lv' := [(1, .int (bif (bb && b1) then nI r else (-1))), (0, .ref (a 0))]) hx hb dX5_rank_4 rfl hl (by decide) rfl (fun ls hl => ?_)
  refine lv_iload_n hx hb dX5_rank_5 rfl (lv_at hl 0 rfl) ?_
  refine lv_iconst (v := (-1)) hx hb dX5_rank_6 (by decide +kernel) ?_
  refine lv_icmp_ne (tgt := 14) hx hb dX5_rank_7 (by decide) (fun c_7 => ?_) (fun c_7 => ?_)
  · have hbt := pb_ne c_7
    have hrc : r < lx.2.2.2 := (hb1.mp (by cases b1 with | true => rfl | false => rw [Bool.and_false] at hbt; cases hbt)).1
    have hlc := hI.1.1
    have e_2 : (bif (bb && b1) then nI r else (-1)) = (nI (r)) := by rw [hbt]; rfl
    have hl : lv_has ls 2 [(1, .int (nI (r))), (0, .ref (a 0))] := by rw [← e_2]; exact hl
    refine lv_aload_n hx hb dX5_rank_14 rfl (lv_at hl 1 rfl) ?_
    refine va_get (D := D) (ci := 5) (v := .ref (a 3)) (C := RX5) (T := TX5) (N := 5) hx hb hts hinX5 hown hK hP 0 rfl rfl 2 (by decide) (hts (.fieldLink RX5 26 "TypoSuggester" "lexicon" "LTypoSuggester$Lexicon;") (by decide +kernel)) (fun _ h9 => h9) rfl dX5_rank_15 ?_
    refine lv_iload_n hx hb dX5_rank_18 rfl (lv_at hl 0 rfl) ?_
    refine nz_callR (va_runV (As := [.int (nI (r))]) (rest := []) ⟨hx, hb, hml, hown, hts⟩ (mX0_rankOf l D a cs (tp.1, 0) wd2_1 lx ro rs r hI.1 hrc) (cwV 1 hts gX5_rank_X0_rankOf rfl rfl rfl (by decide +kernel) ⟨Nat.le_of_ble_eq_true rfl, Nat.le_of_ble_eq_true rfl⟩) (nz_preV (ci := 0) (q0 := 3) hK hP rfl rfl) rfl rfl hl.1 rfl (lv_room (Nat.le_of_ble_eq_true rfl)) dX5_rank_19 ⟨Nat.zero_le _, Nat.zero_le _⟩) ?_
    rw [hbt] at hret
    exact hret 22 ls H locs dX5_rank_22 ⟨_, hwd2, hP⟩ hS
  · have hbf := pb_eq (by have := hr.1; have := hI.1.1; omega) c_7
    refine lv_iconst (v := (-1)) hx hb dX5_rank_10 (by decide +kernel) ?_
    refine lv_goto (tgt := 22) hx hb dX5_rank_11 (by decide) ?_
    rw [hbf] at hret
    exact hret 22 ls H locs dX5_rank_22 ⟨_, hwd2, hP⟩ hS
abbrev rmX5_near : Room := { frames := 3, cells := 0, slots := 0, locals := 77 }
set_option maxHeartbeats 4000000 in
set_option maxRecDepth 100000 in
theorem mX5_near (l : Launch) (D : va_G) (a : Nat → Nat) (cs : Nat → ClassId) (tp : (Nat → Int32) × Nat) (wd : (Nat → Nat) × Nat) (lx : (Nat → Nat) × (Nat → Nat) × (Nat → Nat) × Nat) (ro : Nat → Nat) (rs : (Nat → Nat) × (Nat → Nat) × (Nat → Nat) × (Nat → Nat) × (Nat → Nat) × Nat) (x : Int32) (bb : Bool) (b3 : Bool) (ha : wInj a) (hI : LxI lx) (hT : tp.2 ≤ 400) (hW : WdB wd) (hbb : bb = true ↔ goodT tp) (hb3 : b3 = true ↔ dOk x) : Met l yX5_near wsX5_near rmX5_near (wdP D vwCl (wX a cs tp wd lx ro rs) (tyX cs) [.ref (a 0), .int (x)]) (wrQ (some (.int (bif (bb && b3) then nI (cntF (fun i => decide (nrF (qF tp) tp.2 (TX lx i) (ZX lx i) ≤ x.toNatClampNeg)) lx.2.2.2) else (-1)))) (fun H => ∃ wd2 ro2, WdB wd2 ∧ va_P D vwCl (wX a cs (tp.1, 0) wd2 lx ro2 rs) H) (inX a)) 0 0 (inX a) := by
  refine nz_metWi (by decide) rfl (Nat.le_of_ble_eq_true rfl) rfl ?_
  intro p e s m args below meth c Q hx hb hml hts hown hP hK hret ls hl
  have hl : lv_has ls 4 [(0, .ref (a 0)), (1, .int (x))] := hl
  have hown : s.vm.findClass RX5 = some m.cls := hown
  have hinX5 : ∀ w ∈ u_ws RX5 TX5 5, w ∈ wsX5_near := by decide +kernel
  have hinX0 : ∀ w ∈ u_ws RX0 TX0 4, w ∈ wsX5_near := by decide +kernel
  have hS : va_S (inX a) s.heap s.heap [] := va_S.rf
  obtain ⟨H, hH⟩ : ∃ H, H = s.heap := ⟨_, rfl⟩
  obtain ⟨locs, hlocs⟩ : ∃ locs : List Loc, locs = [] := ⟨_, rfl⟩
  have hP : va_P D vwCl (wX a cs tp wd lx ro rs) H := hH ▸ hP
  have hS : va_S (inX a) s.heap H locs := by rw [hH, hlocs]; exact va_S.rf
  suffices hgo : W p l e rmX5_near s m args below meth c H locs 0 0 Q (F0 m 0 ls []) by rw [hH, hlocs] at hgo; exact hgo
  clear hH hlocs
  refine lv_aload_n hx hb dX5_near_0 rfl (lv_at hl 0 rfl) ?_
  refine nz_callW (va_runV (As := []) (rest := []) ⟨hx, hb, hml, hown, hts⟩ (mX5_takeLetters l D a cs tp wd lx ro rs bb ha hT hW hbb) (cwV 0 hts gX5_near_X5_takeLetters rfl rfl rfl (by decide +kernel) ⟨Nat.le_of_ble_eq_true rfl, Nat.le_of_ble_eq_true rfl⟩) (nz_preV (ci := 5) (q0 := 0) hK hP rfl rfl) rfl rfl hl.1 rfl (lv_room (Nat.le_of_ble_eq_true rfl)) dX5_near_1 ⟨Nat.zero_le _, Nat.zero_le _⟩) hS (fun _ h => h) (fun H locs hP _ _ hS => ?_)
  obtain ⟨wd2_1, hwd2, hP⟩ := hP
  refine nz_ifeqB (tgt := 16) hx hb dX5_near_4 (by decide) (fun c_4 => ?_) (fun c_4 => ?_)
  · refine lv_iconst (v := (-1)) hx hb dX5_near_16 (by decide +kernel) ?_
    have hz : (bb && b3) = false := by
      cases hbb9 : bb with
      | false => rfl
      | true =>
        cases hb39 : b3 with
        | false => rfl
        | true =>
          have h9 := hb3.mp hb39
          first | exact absurd (c_4.symm.trans hbb9) (by decide) | exact absurd c_8 h9.1 | exact absurd h9.2 (by rw [nI_clamp hd1]; omega)
    rw [hz] at hret
    exact hret 17 ls H locs dX5_near_17 ⟨_, _, hwd2.1, hP⟩ hS
  · refine lv_iload_n hx hb dX5_near_7 rfl (lv_at hl 1 rfl) ?_
    refine lv_if_lt (tgt := 16) hx hb dX5_near_8 (by decide) (fun c_8 => ?_) (fun c_8 => ?_)
    · refine lv_iconst (v := (-1)) hx hb dX5_near_16 (by decide +kernel) ?_
      have hz : (bb && b3) = false := by
        cases hbb9 : bb with
        | false => rfl
        | true =>
          cases hb39 : b3 with
          | false => rfl
          | true =>
            have h9 := hb3.mp hb39
            first | exact absurd (c_4.symm.trans hbb9) (by decide) | exact absurd c_8 h9.1 | exact absurd h9.2 (by rw [nI_clamp hd1]; omega)
      rw [hz] at hret
      exact hret 17 ls H locs dX5_near_17 ⟨_, _, hwd2.1, hP⟩ hS
    · obtain ⟨d1, hd1, rfl⟩ := nI_of c_8
      refine lv_iload_n hx hb dX5_near_11 rfl (lv_at hl 1 rfl) ?_
      refine lv_iconst (v := nI 2) hx hb dX5_near_12 (by decide +kernel) ?_
      refine nz_cle (a := d1) (b := 2) (tgt := 18) hx hb dX5_near_13 (by decide) (by omega) (by omega) (fun c_13 => ?_) (fun c_13 => ?_)
      · refine lv_iconst (v := nI 0) hx hb dX5_near_18 (by decide +kernel) ?_
        refine lv_istore_n (lv' := [(2, .int (nI (0))), (0, .ref (a 0)), (1, .int (nI (d1)))]) hx hb dX5_near_19 rfl hl (by decide) rfl (fun ls hl => ?_)
        refine lv_iconst (v := nI 0) hx hb dX5_near_20 (by decide +kernel) ?_
        refine lv_istore_n (lv' := [(3, .int (nI (0))), (2, .int (nI (0))), (0, .ref (a 0)), (1, .int (nI (d1)))]) hx hb dX5_near_21 rfl hl (by decide) rfl (fun ls hl => ?_)
        have loop : ∀ (fuel : Nat) (k : Nat) (ro2 : Nat → Nat), (k ≤ lx.2.2.2) → lx.2.2.2 - k < fuel → ∀ (H : Heap) (locs : List Loc), va_P D vwCl (wX a cs (tp.1, 0) wd2_1 lx ro2 rs) H → va_S (inX a) s.heap H locs → ∀ ls : Array Slot, lv_has ls 4 [(0, .ref (a 0)), (1, .int (nI (d1))), (2, .int (nI (cntF (fun i => decide (nrF wd2_1.1 wd2_1.2 (TX lx i) (ZX lx i) ≤ d1)) k))), (3, .int (nI (k)))] → W p l e rmX5_near s m args below meth c H locs 0 0 Q (F0 m 22 ls []) := by
          intro fuel
          induction fuel with
          | zero => intro k ro2 hk hf; exact absurd hf (Nat.not_lt_zero _)
          | succ fuel ih =>
            intro k ro2 hk hf H locs hP hS ls hl
            have hc9 := cntF_le (fun i => decide (nrF wd2_1.1 wd2_1.2 (TX lx i) (ZX lx i) ≤ d1)) k
            have hlc := hI.1.1
            refine lv_iload_n hx hb dX5_near_22 rfl (lv_at hl 3 rfl) ?_
            refine lv_aload_n hx hb dX5_near_23 rfl (lv_at hl 0 rfl) ?_
            refine va_get (D := D) (ci := 5) (v := .ref (a 3)) (C := RX5) (T := TX5) (N := 5) hx hb hts hinX5 hown hK hP 0 rfl rfl 2 (by decide) (hts (.fieldLink RX5 26 "TypoSuggester" "lexicon" "LTypoSuggester$Lexicon;") (by decide +kernel)) (fun _ h9 => h9) rfl dX5_near_24 ?_
            refine va_get (D := D) (ci := 0) (v := .int (nI (lx.2.2.2))) (C := RX0) (T := TX0) (N := 4) hx hb hts hinX0 hown hK hP 3 rfl rfl 3 (by decide) (hts (.fieldLink RX5 107 "TypoSuggester$Lexicon" "count" "I") (by decide +kernel)) (fun _ h9 => h9) rfl dX5_near_27 ?_
            refine nz_cge (a := k) (b := lx.2.2.2) (tgt := 63) hx hb dX5_near_30 (by decide) (by omega) (by omega) (fun c_30 => ?_) (fun c_30 => ?_)
            · refine lv_iload_n hx hb dX5_near_63 rfl (lv_at hl 2 rfl) ?_
              have hb39 : b3 = true := hb3.mpr ⟨nI_pos hd1, by rw [nI_clamp hd1]; exact c_13⟩
              subst hb39
              subst c_4
              have hcn : cntF (fun i => decide (nrF wd2_1.1 wd2_1.2 (TX lx i) (ZX lx i) ≤ d1)) k = cntF (fun i => decide (nrF (qF tp) tp.2 (TX lx i) (ZX lx i) ≤ (nI d1).toNatClampNeg)) lx.2.2.2 := by
                rw [show k = lx.2.2.2 by omega, nI_clamp hd1]
                refine cntF_congr (fun i hi => ?_)
                rw [(hwd2.2 rfl).1, nrF_congr (hwd2.2 rfl).2 (fun _ _ => rfl)]
              rw [hcn]
              exact hret 64 ls H locs dX5_near_64 ⟨_, _, hwd2.1, hP⟩ hS
            · refine lv_aload_n hx hb dX5_near_33 rfl (lv_at hl 0 rfl) ?_
              refine va_get (D := D) (ci := 5) (v := .ref (a 4)) (C := RX5) (T := TX5) (N := 5) hx hb hts hinX5 hown hK hP 0 rfl rfl 3 (by decide) (hts (.fieldLink RX5 33 "TypoSuggester" "measure" "LTypoSuggester$Measure;") (by decide +kernel)) (fun _ h9 => h9) rfl dX5_near_34 ?_
              refine lv_aload_n hx hb dX5_near_37 rfl (lv_at hl 0 rfl) ?_
              refine va_get (D := D) (ci := 5) (v := .ref (a 2)) (C := RX5) (T := TX5) (N := 5) hx hb hts hinX5 hown hK hP 0 rfl rfl 1 (by decide) (hts (.fieldLink RX5 19 "TypoSuggester" "word" "LTypoSuggester$Word;") (by decide +kernel)) (fun _ h9 => h9) rfl dX5_near_38 ?_
              refine lv_aload_n hx hb dX5_near_41 rfl (lv_at hl 0 rfl) ?_
              refine va_get (D := D) (ci := 5) (v := .ref (a 3)) (C := RX5) (T := TX5) (N := 5) hx hb hts hinX5 hown hK hP 0 rfl rfl 2 (by decide) (hts (.fieldLink RX5 26 "TypoSuggester" "lexicon" "LTypoSuggester$Lexicon;") (by decide +kernel)) (fun _ h9 => h9) rfl dX5_near_42 ?_
              refine lv_iload_n hx hb dX5_near_45 rfl (lv_at hl 3 rfl) ?_
              refine lv_iload_n hx hb dX5_near_46 rfl (lv_at hl 1 rfl) ?_
              refine nz_callW (va_runV (As := [.ref (a 2), .ref (a 3), .int (nI (k)), .int (nI (d1))]) (rest := []) ⟨hx, hb, hml, hown, hts⟩ (mX1_nearness l D a cs (tp.1, 0) wd2_1 lx ro2 rs k d1 ha hI.1 hwd2.1 (by omega) (by omega) (by have := (hI.2.2.1 k (by omega)).2; omega)) (cwV 4 hts gX5_near_X1_nearness rfl rfl rfl (by decide +kernel) ⟨Nat.le_of_ble_eq_true rfl, Nat.le_of_ble_eq_true rfl⟩) (nz_preV (ci := 1) (q0 := 4) hK hP rfl rfl) rfl rfl hl.1 rfl (lv_room (Nat.le_of_ble_eq_true rfl)) dX5_near_47 ⟨Nat.zero_le _, Nat.zero_le _⟩) hS (fun _ h => h) (fun H locs hP _ _ hS => ?_)
              obtain ⟨ro2_2, hP⟩ := hP
              refine lv_iload_n hx hb dX5_near_50 rfl (lv_at hl 1 rfl) ?_
              refine nz_cgt (a := min (d1 + 1) (nrF wd2_1.1 wd2_1.2 (TX lx k) (ZX lx k))) (b := d1) (tgt := 57) hx hb dX5_near_51 (by decide) (by omega) (by omega) (fun c_51 => ?_) (fun c_51 => ?_)
              · have hstep : cntF (fun i => decide (nrF wd2_1.1 wd2_1.2 (TX lx i) (ZX lx i) ≤ d1)) (k + 1) = cntF (fun i => decide (nrF wd2_1.1 wd2_1.2 (TX lx i) (ZX lx i) ≤ d1)) k := cntF_f (by rw [decide_eq_false_iff_not]; omega)
                have e_3 : (nI (cntF (fun i => decide (nrF wd2_1.1 wd2_1.2 (TX lx i) (ZX lx i) ≤ d1)) k)) = (nI (cntF (fun i => decide (nrF wd2_1.1 wd2_1.2 (TX lx i) (ZX lx i) ≤ d1)) (k + 1))) := by rw [hstep]
                have hl : lv_has ls 4 [(0, .ref (a 0)), (1, .int (nI (d1))), (2, .int (nI (cntF (fun i => decide (nrF wd2_1.1 wd2_1.2 (TX lx i) (ZX lx i) ≤ d1)) (k + 1)))), (3, .int (nI (k)))] := by rw [← e_3]; exact hl
                refine lv_iinc (v := nI (k + 1)) (lv' := [(3, .int (nI (k + 1))), (0, .ref (a 0)), (1, .int (nI (d1))), (2, .int (nI (cntF (fun i => decide (nrF wd2_1.1 wd2_1.2 (TX lx i) (ZX lx i) ≤ d1)) (k + 1))))]) hx hb dX5_near_57 hl (k := 3) rfl (nz_inc1 _) (by decide) rfl (fun ls hl => ?_)
                refine lv_goto (tgt := 22) hx hb dX5_near_60 (by decide) ?_
                exact ih (k + 1) ro2_2 (by omega) (by omega) H locs hP hS ls (lv_sub hl [1, 2, 3, 0] rfl)
              · refine lv_iinc (v := nI (cntF (fun i => decide (nrF wd2_1.1 wd2_1.2 (TX lx i) (ZX lx i) ≤ d1)) k + 1)) (lv' := [(2, .int (nI (cntF (fun i => decide (nrF wd2_1.1 wd2_1.2 (TX lx i) (ZX lx i) ≤ d1)) k + 1))), (0, .ref (a 0)), (1, .int (nI (d1))), (3, .int (nI (k)))]) hx hb dX5_near_54 hl (k := 2) rfl (nz_inc1 _) (by decide) rfl (fun ls hl => ?_)
                have hstep : cntF (fun i => decide (nrF wd2_1.1 wd2_1.2 (TX lx i) (ZX lx i) ≤ d1)) (k + 1) = cntF (fun i => decide (nrF wd2_1.1 wd2_1.2 (TX lx i) (ZX lx i) ≤ d1)) k + 1 := cntF_t (by rw [decide_eq_true_iff]; omega)
                have e_4 : (nI (cntF (fun i => decide (nrF wd2_1.1 wd2_1.2 (TX lx i) (ZX lx i) ≤ d1)) k + 1)) = (nI (cntF (fun i => decide (nrF wd2_1.1 wd2_1.2 (TX lx i) (ZX lx i) ≤ d1)) (k + 1))) := by rw [hstep]
                have hl : lv_has ls 4 [(2, .int (nI (cntF (fun i => decide (nrF wd2_1.1 wd2_1.2 (TX lx i) (ZX lx i) ≤ d1)) (k + 1)))), (0, .ref (a 0)), (1, .int (nI (d1))), (3, .int (nI (k)))] := by rw [← e_4]; exact hl
                refine lv_iinc (v := nI (k + 1)) (lv' := [(3, .int (nI (k + 1))), (2, .int (nI (cntF (fun i => decide (nrF wd2_1.1 wd2_1.2 (TX lx i) (ZX lx i) ≤ d1)) (k + 1)))), (0, .ref (a 0)), (1, .int (nI (d1)))]) hx hb dX5_near_57 hl (k := 3) rfl (nz_inc1 _) (by decide) rfl (fun ls hl => ?_)
                refine lv_goto (tgt := 22) hx hb dX5_near_60 (by decide) ?_
                exact ih (k + 1) ro2_2 (by omega) (by omega) H locs hP hS ls (lv_sub hl [2, 3, 1, 0] rfl)
        exact loop (lx.2.2.2 - 0 + 1) 0 ro (Nat.zero_le _) (Nat.lt_succ_self _) H locs hP hS ls (lv_sub hl [2, 3, 1, 0] rfl)
      · refine lv_iconst (v := (-1)) hx hb dX5_near_16 (by decide +kernel) ?_
        have hz : (bb && b3) = false := by
          cases hbb9 : bb with
          | false => rfl
          | true =>
            cases hb39 : b3 with
            | false => rfl
            | true =>
              have h9 := hb3.mp hb39
              first | exact absurd (c_4.symm.trans hbb9) (by decide) | exact absurd c_8 h9.1 | exact absurd h9.2 (by rw [nI_clamp hd1]; omega)
        rw [hz] at hret
        exact hret 17 ls H locs dX5_near_17 ⟨_, _, hwd2.1, hP⟩ hS
abbrev rmX5_best : Room := { frames := 4, cells := 0, slots := 0, locals := 94 }
set_option maxHeartbeats 4000000 in
set_option maxRecDepth 100000 in
theorem mX5_best (l : Launch) (D : va_G) (a : Nat → Nat) (cs : Nat → ClassId) (tp : (Nat → Int32) × Nat) (wd : (Nat → Nat) × Nat) (lx : (Nat → Nat) × (Nat → Nat) × (Nat → Nat) × Nat) (ro : Nat → Nat) (rs : (Nat → Nat) × (Nat → Nat) × (Nat → Nat) × (Nat → Nat) × (Nat → Nat) × Nat) (bb : Bool) (ha : wInj a) (hI : LxI lx) (hT : tp.2 ≤ 400) (hW : WdB wd) (hbb : bb = true ↔ goodT tp) : Met l yX5_best wsX5_best rmX5_best (wdP D vwCl (wX a cs tp wd lx ro rs) (tyX cs) [.ref (a 0)]) (wrQ (some (.long (bif bb then lN (mx1 (fun i => dB (begF (qF tp) tp.2 (TX lx i) (ZX lx i))) lx.2.2.1 lx.2.2.2) - 1 else (-1)))) (fun H => ∃ wd2, WdB wd2 ∧ va_P D vwCl (wX a cs (tp.1, 0) wd2 lx ro rs) H) (inX a)) 0 0 (inX a) := by
  refine nz_metWl (by decide) rfl (Nat.le_of_ble_eq_true rfl) ?_
  intro p e s m args below meth c Q hx hb hml hts hown hP hK hret ls hl
  have hl : lv_has ls 4 [(0, .ref (a 0))] := hl
  have hown : s.vm.findClass RX5 = some m.cls := hown
  have hinX5 : ∀ w ∈ u_ws RX5 TX5 5, w ∈ wsX5_best := by decide +kernel
  have hinX0 : ∀ w ∈ u_ws RX0 TX0 4, w ∈ wsX5_best := by decide +kernel
  have hS : va_S (inX a) s.heap s.heap [] := va_S.rf
  obtain ⟨H, hH⟩ : ∃ H, H = s.heap := ⟨_, rfl⟩
  obtain ⟨locs, hlocs⟩ : ∃ locs : List Loc, locs = [] := ⟨_, rfl⟩
  have hP : va_P D vwCl (wX a cs tp wd lx ro rs) H := hH ▸ hP
  have hS : va_S (inX a) s.heap H locs := by rw [hH, hlocs]; exact va_S.rf
  suffices hgo : W p l e rmX5_best s m args below meth c H locs 0 0 Q (F0 m 0 ls []) by rw [hH, hlocs] at hgo; exact hgo
  clear hH hlocs
  refine lv_aload_n hx hb dX5_best_0 rfl (lv_at hl 0 rfl) ?_
  refine nz_callW (va_runV (As := []) (rest := []) ⟨hx, hb, hml, hown, hts⟩ (mX5_takeLetters l D a cs tp wd lx ro rs bb ha hT hW hbb) (cwV 0 hts gX5_best_X5_takeLetters rfl rfl rfl (by decide +kernel) ⟨Nat.le_of_ble_eq_true rfl, Nat.le_of_ble_eq_true rfl⟩) (nz_preV (ci := 5) (q0 := 0) hK hP rfl rfl) rfl rfl hl.1 rfl (lv_room (Nat.le_of_ble_eq_true rfl)) dX5_best_1 ⟨Nat.zero_le _, Nat.zero_le _⟩) hS (fun _ h => h) (fun H locs hP _ _ hS => ?_)
  obtain ⟨wd2_1, hwd2, hP⟩ := hP
  refine nz_ifneB (tgt := 11) hx hb dX5_best_4 (by decide) (fun c_4 => ?_) (fun c_4 => ?_)
  · refine lv_ldc2 (v := (-1)) hx hb hown (hts (.constantLong RX5 96 (-1)) (by decide +kernel)) dX5_best_11 ?_
    refine lv_lstore_n (lv' := [(1, .long ((-1))), (0, .ref (a 0))]) hx hb dX5_best_14 rfl hl (by decide) rfl (fun ls hl => ?_)
    refine lv_aload_n hx hb dX5_best_15 rfl (lv_at hl 1 rfl) ?_
    refine va_get (D := D) (ci := 5) (v := .ref (a 3)) (C := RX5) (T := TX5) (N := 5) hx hb hts hinX5 hown hK hP 0 rfl rfl 2 (by decide) (hts (.fieldLink RX5 26 "TypoSuggester" "lexicon" "LTypoSuggester$Lexicon;") (by decide +kernel)) (fun _ h9 => h9) rfl dX5_best_16 ?_
    refine lv_aload_n hx hb dX5_best_19 rfl (lv_at hl 1 rfl) ?_
    refine va_get (D := D) (ci := 5) (v := .ref (a 2)) (C := RX5) (T := TX5) (N := 5) hx hb hts hinX5 hown hK hP 0 rfl rfl 1 (by decide) (hts (.fieldLink RX5 19 "TypoSuggester" "word" "LTypoSuggester$Word;") (by decide +kernel)) (fun _ h9 => h9) rfl dX5_best_20 ?_
    obtain ⟨r, hrw⟩ := pl_ex hI wd2_1.1 wd2_1.2
    refine nz_callR (va_runV (As := [.ref (a 2)]) (rest := []) ⟨hx, hb, hml, hown, hts⟩ (mX0_placeOf l D a cs (tp.1, 0) wd2_1 lx ro rs r hI.1 hwd2.1 hrw) (cwV 1 hts gX5_best_X0_placeOf rfl rfl rfl (by decide +kernel) ⟨Nat.le_of_ble_eq_true rfl, Nat.le_of_ble_eq_true rfl⟩) (nz_preV (ci := 0) (q0 := 3) hK hP rfl rfl) rfl rfl hl.1 rfl (lv_room (Nat.le_of_ble_eq_true rfl)) dX5_best_23 ⟨Nat.zero_le _, Nat.zero_le _⟩) ?_
    refine lv_istore_n (lv' := [(3, .int (nI (r))), (1, .long ((-1))), (0, .ref (a 0))]) hx hb dX5_best_26 rfl hl (by decide) rfl (fun ls hl => ?_)
    have hb0 : ∀ i, i < r → dB (begF wd2_1.1 wd2_1.2 (TX lx i) (ZX lx i)) = false := fun i hi => dB_f (fun z => beg_nlt z (hrw.2.1 i hi))
    have e_2 : ((-1)) = (lN (mx1 (fun i => dB (begF wd2_1.1 wd2_1.2 (TX lx i) (ZX lx i))) lx.2.2.1 r) - 1) := by rw [mx1_none (k := 0) r (Nat.zero_le _) (fun i _ hi => hb0 i hi)]; show (-1 : Int64) = lN 0 - 1; decide +kernel
    have hl : lv_has ls 4 [(3, .int (nI (r))), (1, .long (lN (mx1 (fun i => dB (begF wd2_1.1 wd2_1.2 (TX lx i) (ZX lx i))) lx.2.2.1 r) - 1)), (0, .ref (a 0))] := by rw [← e_2]; exact hl
    have loop : ∀ (fuel : Nat) (k : Nat), (r ≤ k) → (k ≤ lx.2.2.2) → lx.2.2.2 - k < fuel → ∀ (H : Heap) (locs : List Loc), va_P D vwCl (wX a cs (tp.1, 0) wd2_1 lx ro rs) H → va_S (inX a) s.heap H locs → ∀ ls : Array Slot, lv_has ls 4 [(0, .ref (a 0)), (1, .long (lN (mx1 (fun i => dB (begF wd2_1.1 wd2_1.2 (TX lx i) (ZX lx i))) lx.2.2.1 k) - 1)), (3, .int (nI (k)))] → W p l e rmX5_best s m args below meth c H locs 0 0 Q (F0 m 27 ls []) := by
      intro fuel
      induction fuel with
      | zero => intro k hk1 hk hf; exact absurd hf (Nat.not_lt_zero _)
      | succ fuel ih =>
        intro k hk1 hk hf H locs hP hS ls hl
        have hlc := hI.1.1
        have hmx := mx1_le (P := fun i => dB (begF wd2_1.1 wd2_1.2 (TX lx i) (ZX lx i))) hI.1.2.2.2.2 k
        refine lv_iload_n hx hb dX5_best_27 rfl (lv_at hl 2 rfl) ?_
        refine lv_aload_n hx hb dX5_best_28 rfl (lv_at hl 0 rfl) ?_
        refine va_get (D := D) (ci := 5) (v := .ref (a 3)) (C := RX5) (T := TX5) (N := 5) hx hb hts hinX5 hown hK hP 0 rfl rfl 2 (by decide) (hts (.fieldLink RX5 26 "TypoSuggester" "lexicon" "LTypoSuggester$Lexicon;") (by decide +kernel)) (fun _ h9 => h9) rfl dX5_best_29 ?_
        refine va_get (D := D) (ci := 0) (v := .int (nI (lx.2.2.2))) (C := RX0) (T := TX0) (N := 4) hx hb hts hinX0 hown hK hP 3 rfl rfl 3 (by decide) (hts (.fieldLink RX5 107 "TypoSuggester$Lexicon" "count" "I") (by decide +kernel)) (fun _ h9 => h9) rfl dX5_best_32 ?_
        refine nz_cge (a := k) (b := lx.2.2.2) (tgt := 73) hx hb dX5_best_35 (by decide) (by omega) (by omega) (fun c_35 => ?_) (fun c_35 => ?_)
        · have hend : ∀ i, k ≤ i → i < lx.2.2.2 → dB (begF wd2_1.1 wd2_1.2 (TX lx i) (ZX lx i)) = false := fun i h1 h2 => by
            rcases Nat.lt_or_ge k lx.2.2.2 with y | y
            · have hnb : ¬ begF wd2_1.1 wd2_1.2 (TX lx k) (ZX lx k) := fun z => by have h9 := dB_t z; first | (rw [h9] at c_50; cases c_50; done) | omega
              rcases Nat.lt_or_ge k i with x | x
              · exact dB_f (beg_after (hrw.2.2 k hk1 y) hnb (lx_sorted hI k i x h2))
              · rw [show i = k by omega]; exact dB_f hnb
            · omega
          refine lv_lload_n hx hb dX5_best_73 rfl (lv_at hl 1 rfl) ?_
          subst c_4
          have hmm : mx1 (fun i => dB (begF wd2_1.1 wd2_1.2 (TX lx i) (ZX lx i))) lx.2.2.1 k = mx1 (fun i => dB (begF (qF tp) tp.2 (TX lx i) (ZX lx i))) lx.2.2.1 lx.2.2.2 := by
            have e1 : mx1 (fun i => dB (begF wd2_1.1 wd2_1.2 (TX lx i) (ZX lx i))) lx.2.2.1 lx.2.2.2 = mx1 (fun i => dB (begF wd2_1.1 wd2_1.2 (TX lx i) (ZX lx i))) lx.2.2.1 k := mx1_none lx.2.2.2 hk hend
            rw [← e1]
            refine mx1_congr (fun i hi => dB_congr ?_) (fun _ _ => rfl)
            have e2 := hwd2.2 rfl
            unfold begF
            rw [e2.1]
            exact ⟨fun z => ⟨z.1, fun j hj => (z.2 j hj).trans (e2.2 j hj)⟩, fun z => ⟨z.1, fun j hj => (z.2 j hj).trans (e2.2 j hj).symm⟩⟩
          rw [hmm]
          exact hret 74 ls H locs dX5_best_74 ⟨_, hwd2.1, hP⟩ hS
        · refine lv_aload_n hx hb dX5_best_38 rfl (lv_at hl 0 rfl) ?_
          refine va_get (D := D) (ci := 5) (v := .ref (a 3)) (C := RX5) (T := TX5) (N := 5) hx hb hts hinX5 hown hK hP 0 rfl rfl 2 (by decide) (hts (.fieldLink RX5 26 "TypoSuggester" "lexicon" "LTypoSuggester$Lexicon;") (by decide +kernel)) (fun _ h9 => h9) rfl dX5_best_39 ?_
          refine lv_iload_n hx hb dX5_best_42 rfl (lv_at hl 2 rfl) ?_
          refine lv_aload_n hx hb dX5_best_43 rfl (lv_at hl 0 rfl) ?_
          refine va_get (D := D) (ci := 5) (v := .ref (a 2)) (C := RX5) (T := TX5) (N := 5) hx hb hts hinX5 hown hK hP 0 rfl rfl 1 (by decide) (hts (.fieldLink RX5 19 "TypoSuggester" "word" "LTypoSuggester$Word;") (by decide +kernel)) (fun _ h9 => h9) rfl dX5_best_44 ?_
          refine nz_callR (va_runV (As := [.int (nI (k)), .ref (a 2)]) (rest := []) ⟨hx, hb, hml, hown, hts⟩ (mX0_beginsWith l D a cs (tp.1, 0) wd2_1 lx ro rs k (dB (begF wd2_1.1 wd2_1.2 (TX lx k) (ZX lx k))) hI.1 hwd2.1 c_35 dB_iff) (cwV 2 hts gX5_best_X0_beginsWith rfl rfl rfl (by decide +kernel) ⟨Nat.le_of_ble_eq_true rfl, Nat.le_of_ble_eq_true rfl⟩) (nz_preV (ci := 0) (q0 := 3) hK hP rfl rfl) rfl rfl hl.1 rfl (lv_room (Nat.le_of_ble_eq_true rfl)) dX5_best_47 ⟨Nat.zero_le _, Nat.zero_le _⟩) ?_
          refine nz_ifeqB (tgt := 73) hx hb dX5_best_50 (by decide) (fun c_50 => ?_) (fun c_50 => ?_)
          · have hend : ∀ i, k ≤ i → i < lx.2.2.2 → dB (begF wd2_1.1 wd2_1.2 (TX lx i) (ZX lx i)) = false := fun i h1 h2 => by
              rcases Nat.lt_or_ge k lx.2.2.2 with y | y
              · have hnb : ¬ begF wd2_1.1 wd2_1.2 (TX lx k) (ZX lx k) := fun z => by have h9 := dB_t z; first | (rw [h9] at c_50; cases c_50; done) | omega
                rcases Nat.lt_or_ge k i with x | x
                · exact dB_f (beg_after (hrw.2.2 k hk1 y) hnb (lx_sorted hI k i x h2))
                · rw [show i = k by omega]; exact dB_f hnb
              · omega
            refine lv_lload_n hx hb dX5_best_73 rfl (lv_at hl 1 rfl) ?_
            subst c_4
            have hmm : mx1 (fun i => dB (begF wd2_1.1 wd2_1.2 (TX lx i) (ZX lx i))) lx.2.2.1 k = mx1 (fun i => dB (begF (qF tp) tp.2 (TX lx i) (ZX lx i))) lx.2.2.1 lx.2.2.2 := by
              have e1 : mx1 (fun i => dB (begF wd2_1.1 wd2_1.2 (TX lx i) (ZX lx i))) lx.2.2.1 lx.2.2.2 = mx1 (fun i => dB (begF wd2_1.1 wd2_1.2 (TX lx i) (ZX lx i))) lx.2.2.1 k := mx1_none lx.2.2.2 hk hend
              rw [← e1]
              refine mx1_congr (fun i hi => dB_congr ?_) (fun _ _ => rfl)
              have e2 := hwd2.2 rfl
              unfold begF
              rw [e2.1]
              exact ⟨fun z => ⟨z.1, fun j hj => (z.2 j hj).trans (e2.2 j hj)⟩, fun z => ⟨z.1, fun j hj => (z.2 j hj).trans (e2.2 j hj).symm⟩⟩
            rw [hmm]
            exact hret 74 ls H locs dX5_best_74 ⟨_, hwd2.1, hP⟩ hS
          · refine lv_lload_n hx hb dX5_best_53 rfl (lv_at hl 1 rfl) ?_
            refine lv_aload_n hx hb dX5_best_54 rfl (lv_at hl 0 rfl) ?_
            refine va_get (D := D) (ci := 5) (v := .ref (a 3)) (C := RX5) (T := TX5) (N := 5) hx hb hts hinX5 hown hK hP 0 rfl rfl 2 (by decide) (hts (.fieldLink RX5 26 "TypoSuggester" "lexicon" "LTypoSuggester$Lexicon;") (by decide +kernel)) (fun _ h9 => h9) rfl dX5_best_55 ?_
            refine va_get (D := D) (ci := 0) (v := .ref (a 10)) (C := RX0) (T := TX0) (N := 4) hx hb hts hinX0 hown hK hP 3 rfl rfl 2 (by decide) (hts (.fieldLink RX5 84 "TypoSuggester$Lexicon" "weights" "[J") (by decide +kernel)) (fun _ h9 => h9) rfl dX5_best_58 ?_
            refine lv_iload_n hx hb dX5_best_61 rfl (lv_at hl 2 rfl) ?_
            refine nz_lald (f := lx.2.2.1) (k := k) hx hb hK hP 10 2 rfl rfl (by omega) (by decide) dX5_best_62 ?_
            refine va_mmax_long hx hb (hml.trans hl.1.symm) hown (hts (.methodLink RX5 123 Lib.MathLoose.max_long.x) (by decide +kernel)) (hts (.static Lib.MathLoose.max_long.x) (by decide +kernel)) (hts (.initialized "java/lang/Math") (by decide +kernel)) (hts (.code Lib.MathLoose.max_long.x Lib.MathLoose.max_long.code 4 (some .long)) (by decide +kernel)) (Nat.le_of_ble_eq_true rfl) (Nat.le_of_ble_eq_true rfl) (Nat.zero_le _) (Nat.zero_le _) dX5_best_63 ?_
            refine lv_lstore_n (lv' := [(1, .long ((if lN (lx.2.2.1 k) < lN (mx1 (fun i => dB (begF wd2_1.1 wd2_1.2 (TX lx i) (ZX lx i))) lx.2.2.1 k) - 1 then lN (mx1 (fun i => dB (begF wd2_1.1 wd2_1.2 (TX lx i) (ZX lx i))) lx.2.2.1 k) - 1 else lN (lx.2.2.1 k)))), (0, .ref (a 0)), (3, .int (nI (k)))]) hx hb dX5_best_66 rfl hl (by decide) rfl (fun ls hl => ?_)
            have e_3 : ((if lN (lx.2.2.1 k) < lN (mx1 (fun i => dB (begF wd2_1.1 wd2_1.2 (TX lx i) (ZX lx i))) lx.2.2.1 k) - 1 then lN (mx1 (fun i => dB (begF wd2_1.1 wd2_1.2 (TX lx i) (ZX lx i))) lx.2.2.1 k) - 1 else lN (lx.2.2.1 k))) = (lN (mx1 (fun i => dB (begF wd2_1.1 wd2_1.2 (TX lx i) (ZX lx i))) lx.2.2.1 (k + 1)) - 1) := by rw [mx1_t (P := fun i => dB (begF wd2_1.1 wd2_1.2 (TX lx i) (ZX lx i))) c_50]; exact mx1_max hmx (hI.1.2.2.2.2 k)
            have hl : lv_has ls 4 [(1, .long (lN (mx1 (fun i => dB (begF wd2_1.1 wd2_1.2 (TX lx i) (ZX lx i))) lx.2.2.1 (k + 1)) - 1)), (0, .ref (a 0)), (3, .int (nI (k)))] := by rw [← e_3]; exact hl
            refine lv_iinc (v := nI (k + 1)) (lv' := [(3, .int (nI (k + 1))), (1, .long (lN (mx1 (fun i => dB (begF wd2_1.1 wd2_1.2 (TX lx i) (ZX lx i))) lx.2.2.1 (k + 1)) - 1)), (0, .ref (a 0))]) hx hb dX5_best_67 hl (k := 2) rfl (nz_inc1 _) (by decide) rfl (fun ls hl => ?_)
            refine lv_goto (tgt := 27) hx hb dX5_best_70 (by decide) ?_
            exact ih (k + 1) (by omega) (by omega) (by omega) H locs hP hS ls (lv_sub hl [2, 1, 0] rfl)
    exact loop (lx.2.2.2 - r + 1) r (Nat.le_refl _) hrw.1 (Nat.lt_succ_self _) H locs hP hS ls (lv_sub hl [2, 1, 0] rfl)
  · refine lv_ldc2 (v := (-1)) hx hb hown (hts (.constantLong RX5 96 (-1)) (by decide +kernel)) dX5_best_7 ?_
    subst c_4
    exact hret 10 ls H locs dX5_best_10 ⟨_, hwd2.1, hP⟩ hS
abbrev rmX5_found : Room := { frames := 0, cells := 0, slots := 0, locals := 0 }
set_option maxHeartbeats 4000000 in
set_option maxRecDepth 100000 in
theorem mX5_found (l : Launch) (D : va_G) (a : Nat → Nat) (cs : Nat → ClassId) (tp : (Nat → Int32) × Nat) (wd : (Nat → Nat) × Nat) (lx : (Nat → Nat) × (Nat → Nat) × (Nat → Nat) × Nat) (ro : Nat → Nat) (rs : (Nat → Nat) × (Nat → Nat) × (Nat → Nat) × (Nat → Nat) × (Nat → Nat) × Nat) : Met l yX5_found wsX5_found rmX5_found (wdP D vwCl (wX a cs tp wd lx ro rs) (tyX cs) [.ref (a 0)]) (rdQ (.int (nI (rs.2.2.2.2.2)))) 0 0 (fun _ => False) := by
  refine nz_metRi (by decide) rfl (Nat.le_of_ble_eq_true rfl) rfl ?_
  intro p e s m args below meth c Q hx hb hml hts hown hP hK hret ls hl
  have hl : lv_has ls 1 [(0, .ref (a 0))] := hl
  have hown : s.vm.findClass RX5 = some m.cls := hown
  have hinX5 : ∀ w ∈ u_ws RX5 TX5 5, w ∈ wsX5_found := by decide +kernel
  have hinX2 : ∀ w ∈ u_ws RX2 TX2 6, w ∈ wsX5_found := by decide +kernel
  refine lv_aload_n hx hb dX5_found_0 rfl (lv_at hl 0 rfl) ?_
  refine va_get (D := D) (ci := 5) (v := .ref (a 5)) (C := RX5) (T := TX5) (N := 5) hx hb hts hinX5 hown hK hP 0 rfl rfl 4 (by decide) (hts (.fieldLink RX5 40 "TypoSuggester" "result" "LTypoSuggester$Result;") (by decide +kernel)) (fun _ h9 => h9) rfl dX5_found_1 ?_
  refine va_get (D := D) (ci := 2) (v := .int (nI (rs.2.2.2.2.2))) (C := RX2) (T := TX2) (N := 6) hx hb hts hinX2 hown hK hP 5 rfl rfl 5 (by decide) (hts (.fieldLink RX5 104 "TypoSuggester$Result" "count" "I") (by decide +kernel)) (fun _ h9 => h9) rfl dX5_found_4 ?_
  exact hret 7 ls dX5_found_7
abbrev rmX5_terms : Room := { frames := 0, cells := 0, slots := 0, locals := 0 }
set_option maxHeartbeats 4000000 in
set_option maxRecDepth 100000 in
theorem mX5_terms (l : Launch) (D : va_G) (a : Nat → Nat) (cs : Nat → ClassId) (tp : (Nat → Int32) × Nat) (wd : (Nat → Nat) × Nat) (lx : (Nat → Nat) × (Nat → Nat) × (Nat → Nat) × Nat) (ro : Nat → Nat) (rs : (Nat → Nat) × (Nat → Nat) × (Nat → Nat) × (Nat → Nat) × (Nat → Nat) × Nat) : Met l yX5_terms wsX5_terms rmX5_terms (wdP D vwCl (wX a cs tp wd lx ro rs) (tyX cs) [.ref (a 0)]) (rdQ (.int (nI (lx.2.2.2)))) 0 0 (fun _ => False) := by
  refine nz_metRi (by decide) rfl (Nat.le_of_ble_eq_true rfl) rfl ?_
  intro p e s m args below meth c Q hx hb hml hts hown hP hK hret ls hl
  have hl : lv_has ls 1 [(0, .ref (a 0))] := hl
  have hown : s.vm.findClass RX5 = some m.cls := hown
  have hinX5 : ∀ w ∈ u_ws RX5 TX5 5, w ∈ wsX5_terms := by decide +kernel
  have hinX0 : ∀ w ∈ u_ws RX0 TX0 4, w ∈ wsX5_terms := by decide +kernel
  refine lv_aload_n hx hb dX5_terms_0 rfl (lv_at hl 0 rfl) ?_
  refine va_get (D := D) (ci := 5) (v := .ref (a 3)) (C := RX5) (T := TX5) (N := 5) hx hb hts hinX5 hown hK hP 0 rfl rfl 2 (by decide) (hts (.fieldLink RX5 26 "TypoSuggester" "lexicon" "LTypoSuggester$Lexicon;") (by decide +kernel)) (fun _ h9 => h9) rfl dX5_terms_1 ?_
  refine va_get (D := D) (ci := 0) (v := .int (nI (lx.2.2.2))) (C := RX0) (T := TX0) (N := 4) hx hb hts hinX0 hown hK hP 3 rfl rfl 3 (by decide) (hts (.fieldLink RX5 107 "TypoSuggester$Lexicon" "count" "I") (by decide +kernel)) (fun _ h9 => h9) rfl dX5_terms_4 ?_
  exact hret 7 ls dX5_terms_7
abbrev rmX5_letters : Room := { frames := 1, cells := 0, slots := 0, locals := 20 }
set_option maxHeartbeats 4000000 in
set_option maxRecDepth 100000 in
theorem mX5_letters (l : Launch) (D : va_G) (a : Nat → Nat) (cs : Nat → ClassId) (tp : (Nat → Int32) × Nat) (wd : (Nat → Nat) × Nat) (lx : (Nat → Nat) × (Nat → Nat) × (Nat → Nat) × Nat) (ro : Nat → Nat) (rs : (Nat → Nat) × (Nat → Nat) × (Nat → Nat) × (Nat → Nat) × (Nat → Nat) × Nat) (hB : LxB lx) : Met l yX5_letters wsX5_letters rmX5_letters (wdP D vwCl (wX a cs tp wd lx ro rs) (tyX cs) [.ref (a 0)]) (rdQ (.int (nI (lx.2.1 lx.2.2.2)))) 0 0 (fun _ => False) := by
  refine nz_metRi (by decide) rfl (Nat.le_of_ble_eq_true rfl) rfl ?_
  intro p e s m args below meth c Q hx hb hml hts hown hP hK hret ls hl
  have hl : lv_has ls 1 [(0, .ref (a 0))] := hl
  have hown : s.vm.findClass RX5 = some m.cls := hown
  have hinX5 : ∀ w ∈ u_ws RX5 TX5 5, w ∈ wsX5_letters := by decide +kernel
  refine lv_aload_n hx hb dX5_letters_0 rfl (lv_at hl 0 rfl) ?_
  refine va_get (D := D) (ci := 5) (v := .ref (a 3)) (C := RX5) (T := TX5) (N := 5) hx hb hts hinX5 hown hK hP 0 rfl rfl 2 (by decide) (hts (.fieldLink RX5 26 "TypoSuggester" "lexicon" "LTypoSuggester$Lexicon;") (by decide +kernel)) (fun _ h9 => h9) rfl dX5_letters_1 ?_
  refine nz_callR (va_runV (As := []) (rest := []) ⟨hx, hb, hml, hown, hts⟩ (mX0_size l D a cs tp wd lx ro rs hB) (cwV 0 hts gX5_letters_X0_size rfl rfl rfl (by decide +kernel) ⟨Nat.le_of_ble_eq_true rfl, Nat.le_of_ble_eq_true rfl⟩) (nz_preV (ci := 0) (q0 := 3) hK hP rfl rfl) rfl rfl hl.1 rfl (lv_room (Nat.le_of_ble_eq_true rfl)) dX5_letters_4 ⟨Nat.zero_le _, Nat.zero_le _⟩) ?_
  exact hret 7 ls dX5_letters_7
abbrev rmX5_letter : Room := { frames := 1, cells := 0, slots := 0, locals := 22 }
set_option maxHeartbeats 4000000 in
set_option maxRecDepth 100000 in
theorem mX5_letter (l : Launch) (D : va_G) (a : Nat → Nat) (cs : Nat → ClassId) (tp : (Nat → Int32) × Nat) (wd : (Nat → Nat) × Nat) (lx : (Nat → Nat) × (Nat → Nat) × (Nat → Nat) × Nat) (ro : Nat → Nat) (rs : (Nat → Nat) × (Nat → Nat) × (Nat → Nat) × (Nat → Nat) × (Nat → Nat) × Nat) (i : Int32) (j : Int32) (hR : RsB rs) : Met l yX5_letter wsX5_letter rmX5_letter (wdP D vwCl (wX a cs tp wd lx ro rs) (tyX cs) [.ref (a 0), .int (i), .int (j)]) (rdQ (.int (termF rs.2.2.2.2.2 rs.2.2.2.1 (fun x y => rs.2.2.2.2.1 (x * 24 + y)) i j))) 0 0 (fun _ => False) := by
  refine nz_metRi (by decide) rfl (Nat.le_of_ble_eq_true rfl) rfl ?_
  intro p e s m args below meth c Q hx hb hml hts hown hP hK hret ls hl
  have hl : lv_has ls 3 [(0, .ref (a 0)), (1, .int (i)), (2, .int (j))] := hl
  have hown : s.vm.findClass RX5 = some m.cls := hown
  have hinX5 : ∀ w ∈ u_ws RX5 TX5 5, w ∈ wsX5_letter := by decide +kernel
  refine lv_aload_n hx hb dX5_letter_0 rfl (lv_at hl 0 rfl) ?_
  refine va_get (D := D) (ci := 5) (v := .ref (a 5)) (C := RX5) (T := TX5) (N := 5) hx hb hts hinX5 hown hK hP 0 rfl rfl 4 (by decide) (hts (.fieldLink RX5 40 "TypoSuggester" "result" "LTypoSuggester$Result;") (by decide +kernel)) (fun _ h9 => h9) rfl dX5_letter_1 ?_
  refine lv_iload_n hx hb dX5_letter_4 rfl (lv_at hl 1 rfl) ?_
  refine lv_iload_n hx hb dX5_letter_5 rfl (lv_at hl 2 rfl) ?_
  refine nz_callR (va_runV (As := [.int (i), .int (j)]) (rest := []) ⟨hx, hb, hml, hown, hts⟩ (mX2_letterOf l D a cs tp wd lx ro rs i j hR) (cwV 2 hts gX5_letter_X2_letterOf rfl rfl rfl (by decide +kernel) ⟨Nat.le_of_ble_eq_true rfl, Nat.le_of_ble_eq_true rfl⟩) (nz_preV (ci := 2) (q0 := 5) hK hP rfl rfl) rfl rfl hl.1 rfl (lv_room (Nat.le_of_ble_eq_true rfl)) dX5_letter_6 ⟨Nat.zero_le _, Nat.zero_le _⟩) ?_
  exact hret 9 ls dX5_letter_9
abbrev rmX5_term : Room := { frames := 2, cells := 0, slots := 0, locals := 43 }
set_option maxHeartbeats 4000000 in
set_option maxRecDepth 100000 in
theorem mX5_term (l : Launch) (D : va_G) (a : Nat → Nat) (cs : Nat → ClassId) (tp : (Nat → Int32) × Nat) (wd : (Nat → Nat) × Nat) (lx : (Nat → Nat) × (Nat → Nat) × (Nat → Nat) × Nat) (ro : Nat → Nat) (rs : (Nat → Nat) × (Nat → Nat) × (Nat → Nat) × (Nat → Nat) × (Nat → Nat) × Nat) (i : Int32) (j : Int32) (hB : LxB lx) : Met l yX5_term wsX5_term rmX5_term (wdP D vwCl (wX a cs tp wd lx ro rs) (tyX cs) [.ref (a 0), .int (i), .int (j)]) (rdQ (.int (termF lx.2.2.2 (ZX lx) (TX lx) i j))) 0 0 (fun _ => False) := by
  refine nz_metRi (by decide) rfl (Nat.le_of_ble_eq_true rfl) rfl ?_
  intro p e s m args below meth c Q hx hb hml hts hown hP hK hret ls hl
  have hl : lv_has ls 3 [(0, .ref (a 0)), (1, .int (i)), (2, .int (j))] := hl
  have hown : s.vm.findClass RX5 = some m.cls := hown
  have hinX5 : ∀ w ∈ u_ws RX5 TX5 5, w ∈ wsX5_term := by decide +kernel
  refine lv_aload_n hx hb dX5_term_0 rfl (lv_at hl 0 rfl) ?_
  refine va_get (D := D) (ci := 5) (v := .ref (a 3)) (C := RX5) (T := TX5) (N := 5) hx hb hts hinX5 hown hK hP 0 rfl rfl 2 (by decide) (hts (.fieldLink RX5 26 "TypoSuggester" "lexicon" "LTypoSuggester$Lexicon;") (by decide +kernel)) (fun _ h9 => h9) rfl dX5_term_1 ?_
  refine lv_iload_n hx hb dX5_term_4 rfl (lv_at hl 1 rfl) ?_
  refine lv_iload_n hx hb dX5_term_5 rfl (lv_at hl 2 rfl) ?_
  refine nz_callR (va_runV (As := [.int (i), .int (j)]) (rest := []) ⟨hx, hb, hml, hown, hts⟩ (mX0_letterOf l D a cs tp wd lx ro rs i j hB) (cwV 2 hts gX5_term_X0_letterOf rfl rfl rfl (by decide +kernel) ⟨Nat.le_of_ble_eq_true rfl, Nat.le_of_ble_eq_true rfl⟩) (nz_preV (ci := 0) (q0 := 3) hK hP rfl rfl) rfl rfl hl.1 rfl (lv_room (Nat.le_of_ble_eq_true rfl)) dX5_term_6 ⟨Nat.zero_le _, Nat.zero_le _⟩) ?_
  exact hret 9 ls dX5_term_9
abbrev rmX5_prefixes : Room := { frames := 3, cells := 0, slots := 0, locals := 68 }
set_option maxHeartbeats 4000000 in
set_option maxRecDepth 100000 in
theorem mX5_prefixes (l : Launch) (D : va_G) (a : Nat → Nat) (cs : Nat → ClassId) (tp : (Nat → Int32) × Nat) (wd : (Nat → Nat) × Nat) (lx : (Nat → Nat) × (Nat → Nat) × (Nat → Nat) × Nat) (ro : Nat → Nat) (rs : (Nat → Nat) × (Nat → Nat) × (Nat → Nat) × (Nat → Nat) × (Nat → Nat) × Nat) (sh : Nat → Nat) (hB : LxB lx) (hsh : ∀ i, i + 1 < lx.2.2.2 → IsLcp (TX lx i) (TX lx (i + 1)) (min (ZX lx i) (ZX lx (i + 1))) (sh i)) : Met l yX5_prefixes wsX5_prefixes rmX5_prefixes (wdP D vwCl (wX a cs tp wd lx ro rs) (tyX cs) [.ref (a 0)]) (rdQ (.int (nI (if lx.2.2.2 = 0 then 0 else 1 + lx.2.1 lx.2.2.2 - sumF sh (lx.2.2.2 - 1))))) 0 0 (fun _ => False) := by
  refine nz_metRi (by decide) rfl (Nat.le_of_ble_eq_true rfl) rfl ?_
  intro p e s m args below meth c Q hx hb hml hts hown hP hK hret ls hl
  have hl : lv_has ls 1 [(0, .ref (a 0))] := hl
  have hown : s.vm.findClass RX5 = some m.cls := hown
  have hinX5 : ∀ w ∈ u_ws RX5 TX5 5, w ∈ wsX5_prefixes := by decide +kernel
  refine lv_aload_n hx hb dX5_prefixes_0 rfl (lv_at hl 0 rfl) ?_
  refine va_get (D := D) (ci := 5) (v := .ref (a 3)) (C := RX5) (T := TX5) (N := 5) hx hb hts hinX5 hown hK hP 0 rfl rfl 2 (by decide) (hts (.fieldLink RX5 26 "TypoSuggester" "lexicon" "LTypoSuggester$Lexicon;") (by decide +kernel)) (fun _ h9 => h9) rfl dX5_prefixes_1 ?_
  refine nz_callR (va_runV (As := []) (rest := []) ⟨hx, hb, hml, hown, hts⟩ (mX0_countPrefixes l D a cs tp wd lx ro rs sh hB hsh) (cwV 0 hts gX5_prefixes_X0_countPrefixes rfl rfl rfl (by decide +kernel) ⟨Nat.le_of_ble_eq_true rfl, Nat.le_of_ble_eq_true rfl⟩) (nz_preV (ci := 0) (q0 := 3) hK hP rfl rfl) rfl rfl hl.1 rfl (lv_room (Nat.le_of_ble_eq_true rfl)) dX5_prefixes_4 ⟨Nat.zero_le _, Nat.zero_le _⟩) ?_
  exact hret 7 ls dX5_prefixes_7
abbrev rmX5_of : Room := { frames := 0, cells := 0, slots := 0, locals := 0 }
set_option maxHeartbeats 4000000 in
set_option maxRecDepth 100000 in
theorem mX5_of (l : Launch) (D : va_G) (a : Nat → Nat) (cs : Nat → ClassId) (tp : (Nat → Int32) × Nat) (wd : (Nat → Nat) × Nat) (lx : (Nat → Nat) × (Nat → Nat) × (Nat → Nat) × Nat) (ro : Nat → Nat) (rs : (Nat → Nat) × (Nat → Nat) × (Nat → Nat) × (Nat → Nat) × (Nat → Nat) × Nat) (i : Int32) (y : Int32) (hR : RsB rs) (hnr : ∀ j, rs.2.2.1 j ≤ 100) : Met l yX5_of wsX5_of rmX5_of (wdP D vwCl (wX a cs tp wd lx ro rs) (tyX cs) [.ref (a 0), .int (i), .int (y)]) (rdQ (.long (ofL rs.2.2.2.2.2 rs.2.2.2.1 rs.2.1 rs.2.2.1 i y))) 0 0 (fun _ => False) := by
  obtain ⟨hR1, hR2, hR3⟩ := hR
  refine nz_metRl (by decide) rfl (Nat.le_of_ble_eq_true rfl) ?_
  intro p e s m args below meth c Q hx hb hml hts hown hP hK hret ls hl
  have hl : lv_has ls 3 [(0, .ref (a 0)), (1, .int (i)), (2, .int (y))] := hl
  have hown : s.vm.findClass RX5 = some m.cls := hown
  have hinX5 : ∀ w ∈ u_ws RX5 TX5 5, w ∈ wsX5_of := by decide +kernel
  have hinX2 : ∀ w ∈ u_ws RX2 TX2 6, w ∈ wsX5_of := by decide +kernel
  refine lv_iload_n hx hb dX5_of_0 rfl (lv_at hl 1 rfl) ?_
  refine lv_if_lt (tgt := 15) hx hb dX5_of_1 (by decide) (fun c_1 => ?_) (fun c_1 => ?_)
  · have hz : ofL rs.2.2.2.2.2 rs.2.2.2.1 rs.2.1 rs.2.2.1 i y = -1 := if_neg (fun z => z.1 c_1)
    refine lv_ldc2 (v := (-1)) hx hb hown (hts (.constantLong RX5 96 (-1)) (by decide +kernel)) dX5_of_15 ?_
    rw [hz] at hret
    exact hret 18 ls dX5_of_18
  · obtain ⟨i1, hi1, rfl⟩ := nI_of c_1
    refine lv_iload_n hx hb dX5_of_4 rfl (lv_at hl 1 rfl) ?_
    refine lv_aload_n hx hb dX5_of_5 rfl (lv_at hl 0 rfl) ?_
    refine va_get (D := D) (ci := 5) (v := .ref (a 5)) (C := RX5) (T := TX5) (N := 5) hx hb hts hinX5 hown hK hP 0 rfl rfl 4 (by decide) (hts (.fieldLink RX5 40 "TypoSuggester" "result" "LTypoSuggester$Result;") (by decide +kernel)) (fun _ h9 => h9) rfl dX5_of_6 ?_
    refine va_get (D := D) (ci := 2) (v := .int (nI (rs.2.2.2.2.2))) (C := RX2) (T := TX2) (N := 6) hx hb hts hinX2 hown hK hP 5 rfl rfl 5 (by decide) (hts (.fieldLink RX5 104 "TypoSuggester$Result" "count" "I") (by decide +kernel)) (fun _ h9 => h9) rfl dX5_of_9 ?_
    refine nz_clt (a := i1) (b := rs.2.2.2.2.2) (tgt := 19) hx hb dX5_of_12 (by decide) (by omega) (by omega) (fun c_12 => ?_) (fun c_12 => ?_)
    · refine lv_iload_n hx hb dX5_of_19 rfl (lv_at hl 2 rfl) ?_
      have hof : ofL rs.2.2.2.2.2 rs.2.2.2.1 rs.2.1 rs.2.2.1 (nI i1) y = (if y = 0 then lN (rs.2.2.2.1 i1) else if y = 1 then lN (rs.2.1 i1) else if y = 2 then lN (rs.2.2.1 i1) else -1) := by unfold ofL; rw [nI_clamp hi1, if_pos ⟨nI_pos hi1, c_12⟩]
      rw [hof] at hret
      by_cases hy0 : y = 0
      · subst hy0
        refine lv_tableIn (tgt := 48) hx hb dX5_of_20 (by decide) (by decide) rfl (by decide) ?_
        refine lv_aload_n hx hb dX5_of_48 rfl (lv_at hl 0 rfl) ?_
        refine va_get (D := D) (ci := 5) (v := .ref (a 5)) (C := RX5) (T := TX5) (N := 5) hx hb hts hinX5 hown hK hP 0 rfl rfl 4 (by decide) (hts (.fieldLink RX5 40 "TypoSuggester" "result" "LTypoSuggester$Result;") (by decide +kernel)) (fun _ h9 => h9) rfl dX5_of_49 ?_
        refine va_get (D := D) (ci := 2) (v := .ref (a 15)) (C := RX2) (T := TX2) (N := 6) hx hb hts hinX2 hown hK hP 5 rfl rfl 3 (by decide) (hts (.fieldLink RX5 136 "TypoSuggester$Result" "lengths" "[I") (by decide +kernel)) (fun _ h9 => h9) rfl dX5_of_52 ?_
        refine lv_iload_n hx hb dX5_of_55 rfl (lv_at hl 1 rfl) ?_
        refine nz_iald (f := rs.2.2.2.1) (k := i1) hx hb hK hP 15 1 rfl rfl (by omega) (by decide) dX5_of_56 ?_
        refine nz_i2l hx hb dX5_of_57 (by have := hR3 i1; omega) ?_
        rw [if_pos rfl] at hret
        exact hret 58 ls dX5_of_58
      by_cases hy1 : y = 1
      · subst hy1
        refine lv_tableIn (tgt := 59) hx hb dX5_of_20 (by decide) (by decide) rfl (by decide) ?_
        refine lv_aload_n hx hb dX5_of_59 rfl (lv_at hl 0 rfl) ?_
        refine va_get (D := D) (ci := 5) (v := .ref (a 5)) (C := RX5) (T := TX5) (N := 5) hx hb hts hinX5 hown hK hP 0 rfl rfl 4 (by decide) (hts (.fieldLink RX5 40 "TypoSuggester" "result" "LTypoSuggester$Result;") (by decide +kernel)) (fun _ h9 => h9) rfl dX5_of_60 ?_
        refine va_get (D := D) (ci := 2) (v := .ref (a 13)) (C := RX2) (T := TX2) (N := 6) hx hb hts hinX2 hown hK hP 5 rfl rfl 1 (by decide) (hts (.fieldLink RX5 140 "TypoSuggester$Result" "weights" "[J") (by decide +kernel)) (fun _ h9 => h9) rfl dX5_of_63 ?_
        refine lv_iload_n hx hb dX5_of_66 rfl (lv_at hl 1 rfl) ?_
        refine nz_lald (f := rs.2.1) (k := i1) hx hb hK hP 13 2 rfl rfl (by omega) (by decide) dX5_of_67 ?_
        rw [if_neg (by decide), if_pos rfl] at hret
        exact hret 68 ls dX5_of_68
      by_cases hy2 : y = 2
      · subst hy2
        refine lv_tableIn (tgt := 69) hx hb dX5_of_20 (by decide) (by decide) rfl (by decide) ?_
        refine lv_aload_n hx hb dX5_of_69 rfl (lv_at hl 0 rfl) ?_
        refine va_get (D := D) (ci := 5) (v := .ref (a 5)) (C := RX5) (T := TX5) (N := 5) hx hb hts hinX5 hown hK hP 0 rfl rfl 4 (by decide) (hts (.fieldLink RX5 40 "TypoSuggester" "result" "LTypoSuggester$Result;") (by decide +kernel)) (fun _ h9 => h9) rfl dX5_of_70 ?_
        refine va_get (D := D) (ci := 2) (v := .ref (a 14)) (C := RX2) (T := TX2) (N := 6) hx hb hts hinX2 hown hK hP 5 rfl rfl 2 (by decide) (hts (.fieldLink RX5 141 "TypoSuggester$Result" "nearnesses" "[I") (by decide +kernel)) (fun _ h9 => h9) rfl dX5_of_73 ?_
        refine lv_iload_n hx hb dX5_of_76 rfl (lv_at hl 1 rfl) ?_
        refine nz_iald (f := rs.2.2.1) (k := i1) hx hb hK hP 14 1 rfl rfl (by omega) (by decide) dX5_of_77 ?_
        refine nz_i2l hx hb dX5_of_78 (by have := hnr i1; omega) ?_
        rw [if_neg (by decide), if_neg (by decide), if_pos rfl] at hret
        exact hret 79 ls dX5_of_79
      refine lv_tableOut (tgt := 80) hx hb dX5_of_20 (by
        have z0 : y.toInt ≠ 0 := fun z => hy0 (Int32.toInt_inj.mp z)
        have z1 : y.toInt ≠ 1 := fun z => hy1 (Int32.toInt_inj.mp z)
        have z2 : y.toInt ≠ 2 := fun z => hy2 (Int32.toInt_inj.mp z)
        omega) (by decide) ?_
      refine lv_ldc2 (v := (-1)) hx hb hown (hts (.constantLong RX5 96 (-1)) (by decide +kernel)) dX5_of_80 ?_
      rw [if_neg hy0, if_neg hy1, if_neg hy2] at hret
      exact hret 83 ls dX5_of_83
    · have hz : ofL rs.2.2.2.2.2 rs.2.2.2.1 rs.2.1 rs.2.2.1 (nI i1) y = -1 := if_neg (fun z => by have := z.2; rw [nI_clamp hi1] at this; omega)
      refine lv_ldc2 (v := (-1)) hx hb hown (hts (.constantLong RX5 96 (-1)) (by decide +kernel)) dX5_of_15 ?_
      rw [hz] at hret
      exact hret 18 ls dX5_of_18
end
section
/-! ask: the terms of the greatest weights among those that are near. -/
def bef (V : Nat → Nat) (i j : Nat) : Prop := V j < V i ∨ (V j = V i ∧ i < j)
/-- pl 0, pl 1 .. pl (c - 1): of those i below n with P the first k by bef -/
def IsTop (n : Nat) (P : Nat → Bool) (V : Nat → Nat) (k : Nat) (pl : Nat → Nat) (c : Nat) : Prop :=
  c ≤ k ∧ (∀ a, a < c → pl a < n ∧ P (pl a) = true) ∧ (∀ a b, a < b → b < c → bef V (pl a) (pl b)) ∧ (∀ i, i < n → P i = true → (∃ a, a < c ∧ pl a = i) ∨ (c = k ∧ ∀ a, a < c → bef V (pl a) i))
theorem bef_irr {V : Nat → Nat} {i : Nat} : ¬ bef V i i := by unfold bef; omega
theorem bef_asym {V : Nat → Nat} {i j : Nat} (h : bef V i j) (h2 : bef V j i) : False := by unfold bef at h h2; omega
theorem bef_trans {V : Nat → Nat} {i j k : Nat} (h : bef V i j) (h2 : bef V j k) : bef V i k := by unfold bef at h h2 ⊢; omega
theorem top_un1 {n : Nat} {P : Nat → Bool} {V : Nat → Nat} {k : Nat} {pl pl' : Nat → Nat} {c c' : Nat} (h : IsTop n P V k pl c) (h' : IsTop n P V k pl' c') : ∀ a, a < c → (∀ b, b < a → b < c' ∧ pl b = pl' b) → a < c' ∧ pl a = pl' a := by
  intro a ha hb
  obtain ⟨h1, h2, h3, h4⟩ := h
  obtain ⟨k1, k2, k3, k4⟩ := h'
  -- if pl' a is another one that goes before pl a, it is among the earlier ones, twice
  have key : a < c' → ¬ bef V (pl' a) (pl a) := by
    intro hac hbf
    rcases h4 (pl' a) (k2 a hac).1 (k2 a hac).2 with ⟨d, hd, e⟩ | ⟨e, hall⟩
    · rcases Nat.lt_trichotomy d a with z | z | z
      · have e2 := (hb d z).2
        have := k3 d a z hac
        rw [← e2, e] at this
        exact bef_irr this
      · rw [z] at e
        rw [← e] at hbf
        exact bef_irr hbf
      · have := h3 a d z hd
        rw [e] at this
        exact bef_asym this hbf
    · exact bef_asym (hall a ha) hbf
  rcases k4 (pl a) (h2 a ha).1 (h2 a ha).2 with ⟨d, hd, e⟩ | ⟨e, hall⟩
  · rcases Nat.lt_trichotomy d a with z | z | z
    · have e2 := (hb d z).2
      have := h3 d a z ha
      rw [e2, e] at this
      exact absurd this bef_irr
    · rw [z] at hd e
      exact ⟨hd, e.symm⟩
    · have hac : a < c' := Nat.lt_trans z hd
      have := k3 a d z hd
      rw [e] at this
      exact absurd this (key hac)
  · have hac : a < c' := by omega
    exact absurd (hall a hac) (key hac)
theorem top_un {n : Nat} {P : Nat → Bool} {V : Nat → Nat} {k : Nat} {pl pl' : Nat → Nat} {c c' : Nat} (h : IsTop n P V k pl c) (h' : IsTop n P V k pl' c') : c = c' ∧ ∀ a, a < c → pl a = pl' a := by
  have A : ∀ a, (a < c → a < c' ∧ pl a = pl' a) ∧ (a < c' → a < c ∧ pl' a = pl a) := by
    intro a
    induction a using Nat.strongRecOn with
    | ind a ih =>
      refine ⟨fun ha => top_un1 h h' a ha (fun b hb => (ih b hb).1 (Nat.lt_trans hb ha)), fun ha => top_un1 h' h a ha (fun b hb => (ih b hb).2 (Nat.lt_trans hb ha))⟩
  refine ⟨?_, fun a ha => ((A a).1 ha).2⟩
  rcases Nat.lt_trichotomy c c' with z | z | z
  · have := ((A c).2 z).1
    omega
  · exact z
  · have := ((A c').1 z).1
    omega
theorem top_0 (P : Nat → Bool) (V : Nat → Nat) (k : Nat) (pl : Nat → Nat) : IsTop 0 P V k pl 0 :=
  ⟨Nat.zero_le _, fun a h => absurd h (Nat.not_lt_zero _), fun a b _ h => absurd h (Nat.not_lt_zero _), fun i h => absurd h (Nat.not_lt_zero _)⟩
theorem top_skip {n : Nat} {P : Nat → Bool} {V : Nat → Nat} {k : Nat} {pl : Nat → Nat} {c : Nat} (h : IsTop n P V k pl c) (hp : P n = false) : IsTop (n + 1) P V k pl c := by
  obtain ⟨h1, h2, h3, h4⟩ := h
  refine ⟨h1, fun a ha => ⟨Nat.lt_succ_of_lt (h2 a ha).1, (h2 a ha).2⟩, h3, fun i hi hpi => ?_⟩
  rcases Nat.lt_or_ge i n with z | z
  · exact h4 i z hpi
  · rw [show i = n by omega, hp] at hpi
    cases hpi
theorem off_ex (w : Nat → Nat) (wt : Nat) : ∀ c, ∃ q, q ≤ c ∧ (∀ i, q ≤ i → i < c → w i < wt) ∧ (0 < q → wt ≤ w (q - 1))
  | 0 => ⟨0, Nat.le_refl _, fun i _ h => absurd h (Nat.not_lt_zero _), fun h => absurd h (Nat.lt_irrefl _)⟩
  | c + 1 => by
    rcases Nat.lt_or_ge (w c) wt with z | z
    · obtain ⟨q, h1, h2, h3⟩ := off_ex w wt c
      refine ⟨q, by omega, fun i hi hc => ?_, h3⟩
      rcases Nat.lt_or_ge i c with y | y
      · exact h2 i hi y
      · rw [show i = c by omega]
        exact z
    · exact ⟨c + 1, Nat.le_refl _, fun i hi hc => by omega, fun _ => z⟩
theorem top_full {n : Nat} {P : Nat → Bool} {V : Nat → Nat} {k : Nat} {pl : Nat → Nat} {c q : Nat} (h : IsTop n P V k pl c) (hq1 : q ≤ c) (hq3 : 0 < q → V n ≤ V (pl (q - 1))) (hk : k ≤ q) : IsTop (n + 1) P V k pl c := by
  obtain ⟨h1, h2, h3, h4⟩ := h
  refine ⟨h1, fun a ha => ⟨Nat.lt_succ_of_lt (h2 a ha).1, (h2 a ha).2⟩, h3, fun i hi hpi => ?_⟩
  rcases Nat.lt_or_ge i n with z | z
  · exact h4 i z hpi
  · rw [show i = n by omega]
    refine Or.inr ⟨by omega, fun a ha => ?_⟩
    have h5 := (h2 a ha).1
    have h6 := hq3 (by omega)
    rcases Nat.lt_or_ge a (q - 1) with y | y
    · have h7 := h3 a (q - 1) y (by omega)
      unfold bef at h7 ⊢
      omega
    · rw [show q - 1 = a by omega] at h6
      unfold bef
      omega
def insP (f : Nat → Nat) (q c v : Nat) : Nat → Nat := va_up (shfR f q c) q v
theorem insP_lt {f : Nat → Nat} {q c v a : Nat} (h : a < q) : insP f q c v a = f a := by
  unfold insP va_up shfR
  rw [if_neg (by omega), if_neg (by omega)]
theorem insP_eq {f : Nat → Nat} {q c v : Nat} : insP f q c v q = v := by
  unfold insP va_up
  rw [if_pos rfl]
theorem insP_gt {f : Nat → Nat} {q c v a : Nat} (h : q < a) (h2 : a < c) : insP f q c v a = f (a - 1) := by
  unfold insP va_up shfR
  rw [if_neg (by omega), if_pos ⟨h, h2⟩]
theorem top_ins {n : Nat} {P : Nat → Bool} {V : Nat → Nat} {k : Nat} {pl : Nat → Nat} {c q : Nat} (h : IsTop n P V k pl c) (hp : P n = true) (hq1 : q ≤ c) (hq2 : ∀ i, q ≤ i → i < c → V (pl i) < V n) (hq3 : 0 < q → V n ≤ V (pl (q - 1))) (hk : q < k) : IsTop (n + 1) P V k (insP pl q (min (c + 1) k) n) (min (c + 1) k) := by
  obtain ⟨h1, h2, h3, h4⟩ := h
  have hlo : ∀ a, a < q → bef V (pl a) n := fun a ha => by
    have h5 := (h2 a (by omega)).1
    have h6 := hq3 (by omega)
    rcases Nat.lt_or_ge a (q - 1) with y | y
    · have h7 := h3 a (q - 1) y (by omega)
      unfold bef at h7 ⊢
      omega
    · rw [show q - 1 = a by omega] at h6
      unfold bef
      omega
  have hhi : ∀ a, q ≤ a → a < c → bef V n (pl a) := fun a h5 h6 => Or.inl (hq2 a h5 h6)
  refine ⟨Nat.min_le_right _ _, fun a ha => ?_, fun a b hab hb => ?_, fun i hi hpi => ?_⟩
  · rcases Nat.lt_trichotomy a q with z | z | z
    · rw [insP_lt z]
      exact ⟨Nat.lt_succ_of_lt (h2 a (by omega)).1, (h2 a (by omega)).2⟩
    · rw [z, insP_eq]
      exact ⟨Nat.lt_succ_self _, hp⟩
    · rw [insP_gt z ha]
      exact ⟨Nat.lt_succ_of_lt (h2 (a - 1) (by omega)).1, (h2 (a - 1) (by omega)).2⟩
  · rcases Nat.lt_trichotomy b q with z | z | z
    · rw [insP_lt z, insP_lt (by omega)]
      exact h3 a b hab (by omega)
    · rw [z, insP_eq, insP_lt (by omega)]
      exact hlo a (by omega)
    · rw [insP_gt z hb]
      rcases Nat.lt_trichotomy a q with y | y | y
      · rw [insP_lt y]
        exact h3 a (b - 1) (by omega) (by omega)
      · rw [y, insP_eq]
        exact hhi (b - 1) (by omega) (by omega)
      · rw [insP_gt y (by omega)]
        exact h3 (a - 1) (b - 1) (by omega) (by omega)
  · -- every pl b that stays is in its new place
    have hall : (∀ a, a < c → bef V (pl a) i) → c = k → ∀ a, a < min (c + 1) k → bef V (insP pl q (min (c + 1) k) n a) i := fun hb hck a ha => by
      rcases Nat.lt_trichotomy a q with y | y | y
      · rw [insP_lt y]
        exact hb a (by omega)
      · rw [y, insP_eq]
        exact bef_trans (hhi (c - 1) (by omega) (by omega)) (hb (c - 1) (by omega))
      · rw [insP_gt y ha]
        exact hb (a - 1) (by omega)
    rcases Nat.lt_or_ge i n with z | z
    · rcases h4 i z hpi with ⟨a, ha, e⟩ | ⟨e, hb⟩
      · rcases Nat.lt_or_ge a q with y | y
        · exact Or.inl ⟨a, by omega, by rw [insP_lt y]; exact e⟩
        · rcases Nat.lt_or_ge (a + 1) (min (c + 1) k) with x | x
          · exact Or.inl ⟨a + 1, x, by rw [insP_gt (by omega) x]; exact e⟩
          · refine Or.inr ⟨by omega, fun b hb => ?_⟩
            rw [← e]
            rcases Nat.lt_trichotomy b q with v | v | v
            · rw [insP_lt v]
              exact h3 b a (by omega) ha
            · rw [v, insP_eq]
              exact hhi a y ha
            · rw [insP_gt v hb]
              exact h3 (b - 1) a (by omega) ha
      · exact Or.inr ⟨by omega, hall hb e⟩
    · rw [show i = n by omega]
      exact Or.inl ⟨q, by omega, insP_eq⟩
theorem insP_map {f pl g : Nat → Nat} {q c n : Nat} (h : ∀ a, a < c → f a = g (pl a)) (c' : Nat) (hc : c' ≤ c + 1) (hq : q ≤ c) : ∀ a, a < c' → insP f q c' (g n) a = g (insP pl q c' n a) := fun a ha => by
  rcases Nat.lt_trichotomy a q with y | y | y
  · rw [insP_lt y, insP_lt y]
    exact h a (by omega)
  · rw [y, insP_eq, insP_eq]
  · rw [insP_gt y ha, insP_gt y ha]
    exact h (a - 1) (by omega)
theorem insP_le {f : Nat → Nat} {q c v M : Nat} (h : ∀ j, f j ≤ M) (hv : v ≤ M) : ∀ j, insP f q c v j ≤ M := fun j => by
  unfold insP va_up shfR
  split
  · exact hv
  · split
    · exact h _
    · exact h _
theorem top_ex (P : Nat → Bool) (V : Nat → Nat) (k : Nat) : ∀ n, ∃ pl c, IsTop n P V k pl c
  | 0 => ⟨fun _ => 0, 0, top_0 P V k _⟩
  | n + 1 => by
    obtain ⟨pl, c, h⟩ := top_ex P V k n
    cases hp : P n with
    | false => exact ⟨pl, c, top_skip h hp⟩
    | true =>
      obtain ⟨q, h1, h2, h3⟩ := off_ex (fun a => V (pl a)) (V n) c
      rcases Nat.lt_or_ge q k with z | z
      · exact ⟨_, _, top_ins h hp h1 h2 h3 z⟩
      · exact ⟨pl, c, top_full h h1 h3 z⟩
theorem top_congr {n : Nat} {P P' : Nat → Bool} {V V' : Nat → Nat} {k : Nat} {pl : Nat → Nat} {c : Nat} (hP : ∀ i, i < n → P i = P' i) (hV : ∀ i, i < n → V i = V' i) (h : IsTop n P V k pl c) : IsTop n P' V' k pl c := by
  obtain ⟨h1, h2, h3, h4⟩ := h
  have hb : ∀ i j, i < n → j < n → bef V i j → bef V' i j := fun i j hi hj z => by
    unfold bef at z ⊢
    rw [← hV i hi, ← hV j hj]
    exact z
  refine ⟨h1, fun a ha => ⟨(h2 a ha).1, by rw [← hP _ (h2 a ha).1]; exact (h2 a ha).2⟩, fun a b hab hbc => hb _ _ (h2 a (by omega)).1 (h2 b hbc).1 (h3 a b hab hbc), fun i hi hpi => ?_⟩
  rw [← hP i hi] at hpi
  rcases h4 i hi hpi with z | z
  · exact Or.inl z
  · exact Or.inr ⟨z.1, fun a ha => hb _ _ (h2 a ha).1 hi (z.2 a ha)⟩
theorem ltr_at {lx : LxT} {pl old : Nat → Nat} : ∀ c, (∀ i, i < c → lx.2.1 (pl i + 1) - lx.2.1 (pl i) ≤ 24) → ∀ a, a < c → ∀ j, j < lx.2.1 (pl a + 1) - lx.2.1 (pl a) → ltrF lx pl old c (a * 24 + j) = lx.1 (lx.2.1 (pl a) + j)
  | 0, _, a, ha, _, _ => absurd ha (Nat.not_lt_zero _)
  | c + 1, hz, a, ha, j, hj => by
    show va_cpy lx.1 (ltrF lx pl old c) (lx.2.1 (pl c)) (c * 24) (lx.2.1 (pl c + 1) - lx.2.1 (pl c)) (a * 24 + j) = _
    have hza := hz a ha
    rcases Nat.lt_or_ge a c with z | z
    · rw [pk_cpy_out (Or.inl (by omega))]
      exact ltr_at c (fun i hi => hz i (Nat.lt_succ_of_lt hi)) a z j hj
    · have e : a = c := by omega
      subst e
      rw [pk_cpy_in (by omega) (by omega)]
      exact cg (by omega)
/-- one offer: what the result holds of the terms below k becomes what it holds of those below k + 1 -/
def RsTop (lx : LxT) (P : Nat → Bool) (g : Nat → Nat) (k mo : Nat) (rs : (Nat → Nat) × (Nat → Nat) × (Nat → Nat) × (Nat → Nat) × (Nat → Nat) × Nat) : Prop :=
  IsTop k P lx.2.2.1 mo rs.1 rs.2.2.2.2.2 ∧ (∀ a, a < rs.2.2.2.2.2 → rs.2.1 a = lx.2.2.1 (rs.1 a)) ∧ (∀ a, a < rs.2.2.2.2.2 → rs.2.2.1 a = g (rs.1 a)) ∧ (∀ j, rs.2.1 j ≤ 1000000000000) ∧ (∀ j, rs.2.2.1 j ≤ 100) ∧ (∀ j, rs.2.2.2.1 j ≤ 24)
theorem rsTop_skip {lx : LxT} {P : Nat → Bool} {g : Nat → Nat} {k mo : Nat} {rs : (Nat → Nat) × (Nat → Nat) × (Nat → Nat) × (Nat → Nat) × (Nat → Nat) × Nat} (h : RsTop lx P g k mo rs) (hp : P k = false) : RsTop lx P g (k + 1) mo rs := ⟨top_skip h.1 hp, h.2⟩
theorem rsTop_off {lx : LxT} {P : Nat → Bool} {g : Nat → Nat} {k mo q : Nat} {rs : (Nat → Nat) × (Nat → Nat) × (Nat → Nat) × (Nat → Nat) × (Nat → Nat) × Nat} (h : RsTop lx P g k mo rs) (hp : P k = true) (hw : lx.2.2.1 k ≤ 1000000000000) (hg : g k ≤ 100) (hq1 : q ≤ rs.2.2.2.2.2) (hq2 : ∀ i, q ≤ i → i < rs.2.2.2.2.2 → rs.2.1 i < lx.2.2.1 k) (hq3 : 0 < q → lx.2.2.1 k ≤ rs.2.1 (q - 1)) : RsTop lx P g (k + 1) mo (bif decide (q < mo) then rsIns rs q k (lx.2.2.1 k) (g k) mo else rs) := by
  obtain ⟨h1, h2, h3, h4, h5, h6⟩ := h
  have k2 : ∀ i, q ≤ i → i < rs.2.2.2.2.2 → lx.2.2.1 (rs.1 i) < lx.2.2.1 k := fun i hi hc => by rw [← h2 i hc]; exact hq2 i hi hc
  have k3 : 0 < q → lx.2.2.1 k ≤ lx.2.2.1 (rs.1 (q - 1)) := fun z => by rw [← h2 (q - 1) (by omega)]; exact hq3 z
  rcases Nat.lt_or_ge q mo with z | z
  · rw [decide_eq_true z]
    exact ⟨top_ins h1 hp hq1 k2 k3 z, insP_map h2 _ (Nat.min_le_left _ _) hq1, insP_map h3 _ (Nat.min_le_left _ _) hq1, insP_le h4 hw, insP_le h5 hg, h6⟩
  · rw [decide_eq_false (by omega)]
    exact ⟨top_full h1 hq1 k3 z, h2, h3, h4, h5, h6⟩
def askOk (x y : Int32) : Prop := 1 ≤ x.toNatClampNeg ∧ x.toNatClampNeg ≤ 50 ∧ dOk y
/-- the result holds the terms pl 0 .. pl (c - 1), with their weights and their nearness g -/
def RsIs (lx : LxT) (g pl : Nat → Nat) (c : Nat) (rs : (Nat → Nat) × (Nat → Nat) × (Nat → Nat) × (Nat → Nat) × (Nat → Nat) × Nat) : Prop :=
  rs.2.2.2.2.2 = c ∧ ∀ a, a < c → rs.2.1 a = lx.2.2.1 (pl a) ∧ rs.2.2.1 a = g (pl a) ∧ rs.2.2.2.1 a = ZX lx (pl a) ∧ ∀ j, j < ZX lx (pl a) → rs.2.2.2.2.1 (a * 24 + j) = TX lx (pl a) j
theorem clamp_lt1 {x : Int32} (h : x < nI 1) : x.toNatClampNeg = 0 := by
  rw [Int32.lt_iff_toInt_lt] at h
  have h1 : (nI 1).toInt = 1 := nI_toInt (by decide)
  rw [h1] at h
  show x.toInt.toNat = 0
  omega
abbrev rmX5_ask : Room := { frames := 3, cells := 0, slots := 0, locals := 77 }
set_option maxHeartbeats 4000000 in
set_option maxRecDepth 100000 in
theorem mX5_ask (l : Launch) (D : va_G) (a : Nat → Nat) (cs : Nat → ClassId) (tp : (Nat → Int32) × Nat) (wd : (Nat → Nat) × Nat) (lx : (Nat → Nat) × (Nat → Nat) × (Nat → Nat) × Nat) (ro : Nat → Nat) (rs : (Nat → Nat) × (Nat → Nat) × (Nat → Nat) × (Nat → Nat) × (Nat → Nat) × Nat) (x : Int32) (y : Int32) (bb : Bool) (b3 : Bool) (pl : Nat → Nat) (cn : Nat) (ha : wInj a) (hI : LxI lx) (hT : tp.2 ≤ 400) (hW : WdB wd) (hR : RsB rs) (hnr : ∀ j, rs.2.2.1 j ≤ 100) (hbb : bb = true ↔ goodT tp) (hb3 : b3 = true ↔ askOk x y) (htop : (bb && b3) = true → IsTop lx.2.2.2 (fun i => decide (nrF (qF tp) tp.2 (TX lx i) (ZX lx i) ≤ y.toNatClampNeg)) lx.2.2.1 x.toNatClampNeg pl cn) : Met l yX5_ask wsX5_ask rmX5_ask (wdP D vwCl (wX a cs tp wd lx ro rs) (tyX cs) [.ref (a 0), .int (x), .int (y)]) (wrQ (some (.int (bif (bb && b3) then nI cn else (-1)))) (fun H => ∃ wd2 ro2 rs2, WdB wd2 ∧ RsB rs2 ∧ (∀ j, rs2.2.2.1 j ≤ 100) ∧ ((bb && b3) = true → RsIs lx (fun i => nrF (qF tp) tp.2 (TX lx i) (ZX lx i)) pl cn rs2) ∧ ((bb && b3) = false → rs2 = rs) ∧ va_P D vwCl (wX a cs (tp.1, 0) wd2 lx ro2 rs2) H) (inX a)) 0 0 (inX a) := by
  obtain ⟨hR1, hR2, hR3⟩ := id hR
  refine nz_metWi (by decide) rfl (Nat.le_of_ble_eq_true rfl) rfl ?_
  intro p e s m args below meth c Q hx hb hml hts hown hP hK hret ls hl
  have hl : lv_has ls 5 [(0, .ref (a 0)), (1, .int (x)), (2, .int (y))] := hl
  have hown : s.vm.findClass RX5 = some m.cls := hown
  have hinX5 : ∀ w ∈ u_ws RX5 TX5 5, w ∈ wsX5_ask := by decide +kernel
  have hinX2 : ∀ w ∈ u_ws RX2 TX2 6, w ∈ wsX5_ask := by decide +kernel
  have hinX0 : ∀ w ∈ u_ws RX0 TX0 4, w ∈ wsX5_ask := by decide +kernel
  have hS : va_S (inX a) s.heap s.heap [] := va_S.rf
  obtain ⟨H, hH⟩ : ∃ H, H = s.heap := ⟨_, rfl⟩
  obtain ⟨locs, hlocs⟩ : ∃ locs : List Loc, locs = [] := ⟨_, rfl⟩
  have hP : va_P D vwCl (wX a cs tp wd lx ro rs) H := hH ▸ hP
  have hS : va_S (inX a) s.heap H locs := by rw [hH, hlocs]; exact va_S.rf
  suffices hgo : W p l e rmX5_ask s m args below meth c H locs 0 0 Q (F0 m 0 ls []) by rw [hH, hlocs] at hgo; exact hgo
  clear hH hlocs
  refine lv_aload_n hx hb dX5_ask_0 rfl (lv_at hl 0 rfl) ?_
  refine nz_callW (va_runV (As := []) (rest := []) ⟨hx, hb, hml, hown, hts⟩ (mX5_takeLetters l D a cs tp wd lx ro rs bb ha hT hW hbb) (cwV 0 hts gX5_ask_X5_takeLetters rfl rfl rfl (by decide +kernel) ⟨Nat.le_of_ble_eq_true rfl, Nat.le_of_ble_eq_true rfl⟩) (nz_preV (ci := 5) (q0 := 0) hK hP rfl rfl) rfl rfl hl.1 rfl (lv_room (Nat.le_of_ble_eq_true rfl)) dX5_ask_1 ⟨Nat.zero_le _, Nat.zero_le _⟩) hS (fun _ h => h) (fun H locs hP _ _ hS => ?_)
  obtain ⟨wd2_1, hwd2, hP⟩ := hP
  refine nz_ifeqB (tgt := 27) hx hb dX5_ask_4 (by decide) (fun c_4 => ?_) (fun c_4 => ?_)
  · refine lv_iconst (v := (-1)) hx hb dX5_ask_27 (by decide +kernel) ?_
    have hz : (bb && b3) = false := by
      cases hbb9 : bb with
      | false => rfl
      | true =>
        cases hb39 : b3 with
        | false => rfl
        | true =>
          have h9 := hb3.mp hb39
          first | exact absurd (c_4.symm.trans hbb9) (by decide) | exact absurd h9 hno
    rw [hz] at hret
    exact hret 28 ls H locs dX5_ask_28 ⟨_, _, _, hwd2.1, hR, hnr, (fun h => by cases h), fun _ => rfl, hP⟩ hS
  · refine lv_iload_n hx hb dX5_ask_7 rfl (lv_at hl 1 rfl) ?_
    refine lv_iconst (v := nI 1) hx hb dX5_ask_8 (by decide +kernel) ?_
    refine lv_icmp_lt (tgt := 27) hx hb dX5_ask_9 (by decide) (fun c_9 => ?_) (fun c_9 => ?_)
    · have hno : ¬ askOk x y := fun h => by have h1 := h.1; have h2 : x.toNatClampNeg = 0 := clamp_lt1 c_9; omega
      refine lv_iconst (v := (-1)) hx hb dX5_ask_27 (by decide +kernel) ?_
      have hz : (bb && b3) = false := by
        cases hbb9 : bb with
        | false => rfl
        | true =>
          cases hb39 : b3 with
          | false => rfl
          | true =>
            have h9 := hb3.mp hb39
            first | exact absurd (c_4.symm.trans hbb9) (by decide) | exact absurd h9 hno
      rw [hz] at hret
      exact hret 28 ls H locs dX5_ask_28 ⟨_, _, _, hwd2.1, hR, hnr, (fun h => by cases h), fun _ => rfl, hP⟩ hS
    · obtain ⟨k1, hk1, rfl⟩ := nI_of (x := x) (fun z => c_9 (Int32.lt_trans z (by decide +kernel)))
      have hk10 : 1 ≤ k1 := Nat.pos_of_ne_zero (fun z => c_9 (by rw [z]; decide +kernel))
      refine lv_iload_n hx hb dX5_ask_12 rfl (lv_at hl 1 rfl) ?_
      refine lv_bipush (v := nI 50) hx hb dX5_ask_13 (by decide +kernel) ?_
      refine nz_cgt (a := k1) (b := 50) (tgt := 27) hx hb dX5_ask_15 (by decide) (by omega) (by omega) (fun c_15 => ?_) (fun c_15 => ?_)
      · have hno : ¬ askOk (nI k1) y := fun h => by have h1 := h.2.1; rw [nI_clamp hk1] at h1; omega
        refine lv_iconst (v := (-1)) hx hb dX5_ask_27 (by decide +kernel) ?_
        have hz : (bb && b3) = false := by
          cases hbb9 : bb with
          | false => rfl
          | true =>
            cases hb39 : b3 with
            | false => rfl
            | true =>
              have h9 := hb3.mp hb39
              first | exact absurd (c_4.symm.trans hbb9) (by decide) | exact absurd h9 hno
        rw [hz] at hret
        exact hret 28 ls H locs dX5_ask_28 ⟨_, _, _, hwd2.1, hR, hnr, (fun h => by cases h), fun _ => rfl, hP⟩ hS
      · refine lv_iload_n hx hb dX5_ask_18 rfl (lv_at hl 2 rfl) ?_
        refine lv_if_lt (tgt := 27) hx hb dX5_ask_19 (by decide) (fun c_19 => ?_) (fun c_19 => ?_)
        · have hno : ¬ askOk (nI k1) y := fun h => h.2.2.1 c_19
          refine lv_iconst (v := (-1)) hx hb dX5_ask_27 (by decide +kernel) ?_
          have hz : (bb && b3) = false := by
            cases hbb9 : bb with
            | false => rfl
            | true =>
              cases hb39 : b3 with
              | false => rfl
              | true =>
                have h9 := hb3.mp hb39
                first | exact absurd (c_4.symm.trans hbb9) (by decide) | exact absurd h9 hno
          rw [hz] at hret
          exact hret 28 ls H locs dX5_ask_28 ⟨_, _, _, hwd2.1, hR, hnr, (fun h => by cases h), fun _ => rfl, hP⟩ hS
        · obtain ⟨d1, hd1, rfl⟩ := nI_of c_19
          refine lv_iload_n hx hb dX5_ask_22 rfl (lv_at hl 2 rfl) ?_
          refine lv_iconst (v := nI 2) hx hb dX5_ask_23 (by decide +kernel) ?_
          refine nz_cle (a := d1) (b := 2) (tgt := 29) hx hb dX5_ask_24 (by decide) (by omega) (by omega) (fun c_24 => ?_) (fun c_24 => ?_)
          · refine lv_aload_n hx hb dX5_ask_29 rfl (lv_at hl 0 rfl) ?_
            refine va_get (D := D) (ci := 5) (v := .ref (a 5)) (C := RX5) (T := TX5) (N := 5) hx hb hts hinX5 hown hK hP 0 rfl rfl 4 (by decide) (hts (.fieldLink RX5 40 "TypoSuggester" "result" "LTypoSuggester$Result;") (by decide +kernel)) (fun _ h9 => h9) rfl dX5_ask_30 ?_
            refine lv_iconst (v := nI 0) hx hb dX5_ask_33 (by decide +kernel) ?_
            refine nz_put (D := D) (ci := 2) (v := .int (nI (0))) (ty := .int) (ws' := wX a cs (tp.1, 0) wd2_1 lx ro (rs.1, rs.2.1, rs.2.2.1, rs.2.2.2.1, rs.2.2.2.2.1, 0)) (C := RX2) (T := TX2) (N := 6) hx hb hts hinX2 tyX2 tyX2_ok nmX2 hown hK hP (wX_D ha) hS 5 rfl rfl 5 (by decide) (hts (.fieldLink RX5 104 "TypoSuggester$Result" "count" "I") (by decide +kernel)) (fun _ h9 => h9) rfl (by decide +kernel) rfl rfl (Nat.le_of_ble_eq_true rfl) dX5_ask_34 rfl (fun H locs hP hS => ?_)
            refine lv_iconst (v := nI 0) hx hb dX5_ask_37 (by decide +kernel) ?_
            refine lv_istore_n (lv' := [(3, .int (nI (0))), (0, .ref (a 0)), (1, .int (nI (k1))), (2, .int (nI (d1)))]) hx hb dX5_ask_38 rfl hl (by decide) rfl (fun ls hl => ?_)
            have loop : ∀ (fuel : Nat) (k : Nat) (ro2 : Nat → Nat) (rs2 : (Nat → Nat) × (Nat → Nat) × (Nat → Nat) × (Nat → Nat) × (Nat → Nat) × Nat), (k ≤ lx.2.2.2) → (RsTop lx (fun i => decide (nrF wd2_1.1 wd2_1.2 (TX lx i) (ZX lx i) ≤ d1)) (fun i => nrF wd2_1.1 wd2_1.2 (TX lx i) (ZX lx i)) k k1 rs2) → lx.2.2.2 - k < fuel → ∀ (H : Heap) (locs : List Loc), va_P D vwCl (wX a cs (tp.1, 0) wd2_1 lx ro2 rs2) H → va_S (inX a) s.heap H locs → ∀ ls : Array Slot, lv_has ls 5 [(0, .ref (a 0)), (1, .int (nI (k1))), (2, .int (nI (d1))), (3, .int (nI (k)))] → W p l e rmX5_ask s m args below meth c H locs 0 0 Q (F0 m 39 ls []) := by
              intro fuel
              induction fuel with
              | zero => intro k ro2 rs2 hk htk hf; exact absurd hf (Nat.not_lt_zero _)
              | succ fuel ih =>
                intro k ro2 rs2 hk htk hf H locs hP hS ls hl
                have hlc := hI.1.1
                have hck : rs2.2.2.2.2.2 ≤ k1 := htk.1.1
                refine lv_iload_n hx hb dX5_ask_39 rfl (lv_at hl 3 rfl) ?_
                refine lv_aload_n hx hb dX5_ask_40 rfl (lv_at hl 0 rfl) ?_
                refine va_get (D := D) (ci := 5) (v := .ref (a 3)) (C := RX5) (T := TX5) (N := 5) hx hb hts hinX5 hown hK hP 0 rfl rfl 2 (by decide) (hts (.fieldLink RX5 26 "TypoSuggester" "lexicon" "LTypoSuggester$Lexicon;") (by decide +kernel)) (fun _ h9 => h9) rfl dX5_ask_41 ?_
                refine va_get (D := D) (ci := 0) (v := .int (nI (lx.2.2.2))) (C := RX0) (T := TX0) (N := 4) hx hb hts hinX0 hown hK hP 3 rfl rfl 3 (by decide) (hts (.fieldLink RX5 107 "TypoSuggester$Lexicon" "count" "I") (by decide +kernel)) (fun _ h9 => h9) rfl dX5_ask_44 ?_
                refine nz_cge (a := k) (b := lx.2.2.2) (tgt := 101) hx hb dX5_ask_47 (by decide) (by omega) (by omega) (fun c_47 => ?_) (fun c_47 => ?_)
                · refine lv_aload_n hx hb dX5_ask_101 rfl (lv_at hl 0 rfl) ?_
                  refine va_get (D := D) (ci := 5) (v := .ref (a 5)) (C := RX5) (T := TX5) (N := 5) hx hb hts hinX5 hown hK hP 0 rfl rfl 4 (by decide) (hts (.fieldLink RX5 40 "TypoSuggester" "result" "LTypoSuggester$Result;") (by decide +kernel)) (fun _ h9 => h9) rfl dX5_ask_102 ?_
                  refine lv_aload_n hx hb dX5_ask_105 rfl (lv_at hl 0 rfl) ?_
                  refine va_get (D := D) (ci := 5) (v := .ref (a 3)) (C := RX5) (T := TX5) (N := 5) hx hb hts hinX5 hown hK hP 0 rfl rfl 2 (by decide) (hts (.fieldLink RX5 26 "TypoSuggester" "lexicon" "LTypoSuggester$Lexicon;") (by decide +kernel)) (fun _ h9 => h9) rfl dX5_ask_106 ?_
                  rw [show k = lx.2.2.2 by omega] at htk
                  have hz24 : ∀ i, i < lx.2.2.2 → lx.2.1 (i + 1) - lx.2.1 i ≤ 24 := fun i hi => by have := (hI.2.2.1 i hi).2; omega
                  refine nz_callW (va_runV (As := [.ref (a 3)]) (rest := []) ⟨hx, hb, hml, hown, hts⟩ (mX2_keepLetters l D a cs (tp.1, 0) wd2_1 lx ro2 rs2 ha hI.1 (by omega) (fun i hi => (htk.1.2.1 i hi).1) hz24) (cwV 1 hts gX5_ask_X2_keepLetters rfl rfl rfl (by decide +kernel) ⟨Nat.le_of_ble_eq_true rfl, Nat.le_of_ble_eq_true rfl⟩) (nz_preV (ci := 2) (q0 := 5) hK hP rfl rfl) rfl rfl hl.1 rfl (lv_room (Nat.le_of_ble_eq_true rfl)) dX5_ask_109 ⟨Nat.zero_le _, Nat.zero_le _⟩) hS (fun _ h => h) (fun H locs hP _ _ hS => ?_)
                  refine lv_aload_n hx hb dX5_ask_112 rfl (lv_at hl 0 rfl) ?_
                  refine va_get (D := D) (ci := 5) (v := .ref (a 5)) (C := RX5) (T := TX5) (N := 5) hx hb hts hinX5 hown hK hP 0 rfl rfl 4 (by decide) (hts (.fieldLink RX5 40 "TypoSuggester" "result" "LTypoSuggester$Result;") (by decide +kernel)) (fun _ h9 => h9) rfl dX5_ask_113 ?_
                  refine va_get (D := D) (ci := 2) (v := .int (nI (rs2.2.2.2.2.2))) (C := RX2) (T := TX2) (N := 6) hx hb hts hinX2 hown hK hP 5 rfl rfl 5 (by decide) (hts (.fieldLink RX5 104 "TypoSuggester$Result" "count" "I") (by decide +kernel)) (fun _ h9 => h9) rfl dX5_ask_116 ?_
                  have hb39 : b3 = true := hb3.mpr ⟨by rw [nI_clamp hk1]; omega, by rw [nI_clamp hk1]; omega, nI_pos hd1, by rw [nI_clamp hd1]; exact c_24⟩
                  subst hb39
                  subst c_4
                  have htp := htop rfl
                  rw [nI_clamp hk1, nI_clamp hd1] at htp
                  have hgg : ∀ i, nrF wd2_1.1 wd2_1.2 (TX lx i) (ZX lx i) = nrF (qF tp) tp.2 (TX lx i) (ZX lx i) := fun i => by rw [(hwd2.2 rfl).1, nrF_congr (hwd2.2 rfl).2 (fun _ _ => rfl)]
                  have htk9 := top_congr (P' := (fun i => decide (nrF (qF tp) tp.2 (TX lx i) (ZX lx i) ≤ d1))) (fun i _ => by show decide _ = decide _; rw [hgg i]) (fun _ _ => rfl) htk.1
                  obtain ⟨ec, epl⟩ := top_un htk9 htp
                  have hcn5 : rs2.2.2.2.2.2 ≤ 50 := by omega
                  rw [show (nI rs2.2.2.2.2.2 : Int32) = nI cn by rw [ec]]
                  refine hret 119 ls H locs dX5_ask_119 ⟨_, _, (rs2.1, rs2.2.1, rs2.2.2.1, mixR (fun x => lx.2.1 (rs2.1 x + 1) - lx.2.1 (rs2.1 x)) rs2.2.2.2.1 rs2.2.2.2.2.2, ltrF lx rs2.1 rs2.2.2.2.2.1 rs2.2.2.2.2.2, rs2.2.2.2.2.2), hwd2.1, ⟨hcn5, htk.2.2.2.1, fun j => ?_⟩, htk.2.2.2.2.1, fun _ => ⟨ec, fun b hb9 => ?_⟩, (fun h => by cases h), hP⟩ hS
                  · show mixR (fun x => lx.2.1 (rs2.1 x + 1) - lx.2.1 (rs2.1 x)) rs2.2.2.2.1 rs2.2.2.2.2.2 j ≤ 24
                    unfold mixR
                    split
                    · rename_i hj9
                      exact hz24 _ (htk.1.2.1 j hj9).1
                    · exact htk.2.2.2.2.2 j
                  · rw [← ec] at hb9
                    rw [← epl b hb9]
                    refine ⟨htk.2.1 b hb9, ?_, ?_, fun j hj => ?_⟩
                    · show rs2.2.2.1 b = nrF (qF tp) tp.2 (TX lx (rs2.1 b)) (ZX lx (rs2.1 b))
                      rw [← hgg]
                      exact htk.2.2.1 b hb9
                    · show mixR (fun x => lx.2.1 (rs2.1 x + 1) - lx.2.1 (rs2.1 x)) rs2.2.2.2.1 rs2.2.2.2.2.2 b = _
                      rw [mixR_lt hb9]
                    · exact ltr_at rs2.2.2.2.2.2 (fun i hi => hz24 _ (htk.1.2.1 i hi).1) b hb9 j hj
                · refine lv_aload_n hx hb dX5_ask_50 rfl (lv_at hl 0 rfl) ?_
                  refine va_get (D := D) (ci := 5) (v := .ref (a 4)) (C := RX5) (T := TX5) (N := 5) hx hb hts hinX5 hown hK hP 0 rfl rfl 3 (by decide) (hts (.fieldLink RX5 33 "TypoSuggester" "measure" "LTypoSuggester$Measure;") (by decide +kernel)) (fun _ h9 => h9) rfl dX5_ask_51 ?_
                  refine lv_aload_n hx hb dX5_ask_54 rfl (lv_at hl 0 rfl) ?_
                  refine va_get (D := D) (ci := 5) (v := .ref (a 2)) (C := RX5) (T := TX5) (N := 5) hx hb hts hinX5 hown hK hP 0 rfl rfl 1 (by decide) (hts (.fieldLink RX5 19 "TypoSuggester" "word" "LTypoSuggester$Word;") (by decide +kernel)) (fun _ h9 => h9) rfl dX5_ask_55 ?_
                  refine lv_aload_n hx hb dX5_ask_58 rfl (lv_at hl 0 rfl) ?_
                  refine va_get (D := D) (ci := 5) (v := .ref (a 3)) (C := RX5) (T := TX5) (N := 5) hx hb hts hinX5 hown hK hP 0 rfl rfl 2 (by decide) (hts (.fieldLink RX5 26 "TypoSuggester" "lexicon" "LTypoSuggester$Lexicon;") (by decide +kernel)) (fun _ h9 => h9) rfl dX5_ask_59 ?_
                  refine lv_iload_n hx hb dX5_ask_62 rfl (lv_at hl 3 rfl) ?_
                  refine lv_iload_n hx hb dX5_ask_63 rfl (lv_at hl 2 rfl) ?_
                  refine nz_callW (va_runV (As := [.ref (a 2), .ref (a 3), .int (nI (k)), .int (nI (d1))]) (rest := []) ⟨hx, hb, hml, hown, hts⟩ (mX1_nearness l D a cs (tp.1, 0) wd2_1 lx ro2 rs2 k d1 ha hI.1 hwd2.1 (by omega) (by omega) (by have := (hI.2.2.1 k (by omega)).2; omega)) (cwV 4 hts gX5_ask_X1_nearness rfl rfl rfl (by decide +kernel) ⟨Nat.le_of_ble_eq_true rfl, Nat.le_of_ble_eq_true rfl⟩) (nz_preV (ci := 1) (q0 := 4) hK hP rfl rfl) rfl rfl hl.1 rfl (lv_room (Nat.le_of_ble_eq_true rfl)) dX5_ask_64 ⟨Nat.zero_le _, Nat.zero_le _⟩) hS (fun _ h => h) (fun H locs hP _ _ hS => ?_)
                  obtain ⟨ro2_2, hP⟩ := hP
                  refine lv_istore (lv' := [(4, .int (nI (min (d1 + 1) (nrF wd2_1.1 wd2_1.2 (TX lx k) (ZX lx k))))), (0, .ref (a 0)), (1, .int (nI (k1))), (2, .int (nI (d1))), (3, .int (nI (k)))]) hx hb dX5_ask_67 hl (by decide) rfl (fun ls hl => ?_)
                  refine lv_iload hx hb dX5_ask_69 (lv_at hl 0 rfl) ?_
                  refine lv_iload_n hx hb dX5_ask_71 rfl (lv_at hl 3 rfl) ?_
                  refine nz_cgt (a := min (d1 + 1) (nrF wd2_1.1 wd2_1.2 (TX lx k) (ZX lx k))) (b := d1) (tgt := 95) hx hb dX5_ask_72 (by decide) (by omega) (by omega) (fun c_72 => ?_) (fun c_72 => ?_)
                  · have hst9 : RsTop lx (fun i => decide (nrF wd2_1.1 wd2_1.2 (TX lx i) (ZX lx i) ≤ d1)) (fun i => nrF wd2_1.1 wd2_1.2 (TX lx i) (ZX lx i)) (k + 1) k1 rs2 := rsTop_skip htk (by rw [decide_eq_false_iff_not]; omega)
                    refine lv_iinc (v := nI (k + 1)) (lv' := [(3, .int (nI (k + 1))), (4, .int (nI (min (d1 + 1) (nrF wd2_1.1 wd2_1.2 (TX lx k) (ZX lx k))))), (0, .ref (a 0)), (1, .int (nI (k1))), (2, .int (nI (d1)))]) hx hb dX5_ask_95 hl (k := 4) rfl (nz_inc1 _) (by decide) rfl (fun ls hl => ?_)
                    refine lv_goto (tgt := 39) hx hb dX5_ask_98 (by decide) ?_
                    exact ih (k + 1) ro2_2 rs2 (by omega) hst9 (by omega) H locs hP hS ls (lv_sub hl [2, 3, 4, 0] rfl)
                  · have hg9 : nrF wd2_1.1 wd2_1.2 (TX lx k) (ZX lx k) ≤ d1 := by omega
                    have e_3 : (nI (min (d1 + 1) (nrF wd2_1.1 wd2_1.2 (TX lx k) (ZX lx k)))) = (nI (nrF wd2_1.1 wd2_1.2 (TX lx k) (ZX lx k))) := by congr 1; omega
                    have hl : lv_has ls 5 [(4, .int (nI (nrF wd2_1.1 wd2_1.2 (TX lx k) (ZX lx k)))), (0, .ref (a 0)), (1, .int (nI (k1))), (2, .int (nI (d1))), (3, .int (nI (k)))] := by rw [← e_3]; exact hl
                    obtain ⟨q, hq1, hq2, hq3⟩ := off_ex rs2.2.1 (lx.2.2.1 k) rs2.2.2.2.2.2
                    refine lv_aload_n hx hb dX5_ask_75 rfl (lv_at hl 1 rfl) ?_
                    refine va_get (D := D) (ci := 5) (v := .ref (a 5)) (C := RX5) (T := TX5) (N := 5) hx hb hts hinX5 hown hK hP 0 rfl rfl 4 (by decide) (hts (.fieldLink RX5 40 "TypoSuggester" "result" "LTypoSuggester$Result;") (by decide +kernel)) (fun _ h9 => h9) rfl dX5_ask_76 ?_
                    refine lv_iload_n hx hb dX5_ask_79 rfl (lv_at hl 4 rfl) ?_
                    refine lv_aload_n hx hb dX5_ask_80 rfl (lv_at hl 1 rfl) ?_
                    refine va_get (D := D) (ci := 5) (v := .ref (a 3)) (C := RX5) (T := TX5) (N := 5) hx hb hts hinX5 hown hK hP 0 rfl rfl 2 (by decide) (hts (.fieldLink RX5 26 "TypoSuggester" "lexicon" "LTypoSuggester$Lexicon;") (by decide +kernel)) (fun _ h9 => h9) rfl dX5_ask_81 ?_
                    refine va_get (D := D) (ci := 0) (v := .ref (a 10)) (C := RX0) (T := TX0) (N := 4) hx hb hts hinX0 hown hK hP 3 rfl rfl 2 (by decide) (hts (.fieldLink RX5 84 "TypoSuggester$Lexicon" "weights" "[J") (by decide +kernel)) (fun _ h9 => h9) rfl dX5_ask_84 ?_
                    refine lv_iload_n hx hb dX5_ask_87 rfl (lv_at hl 4 rfl) ?_
                    refine nz_lald (f := lx.2.2.1) (k := k) hx hb hK hP 10 2 rfl rfl (by omega) (by decide) dX5_ask_88 ?_
                    refine lv_iload hx hb dX5_ask_89 (lv_at hl 0 rfl) ?_
                    refine lv_iload_n hx hb dX5_ask_91 rfl (lv_at hl 2 rfl) ?_
                    refine nz_callW (va_runV (As := [.int (nI (k)), .long (lN (lx.2.2.1 k)), .int (nI (nrF wd2_1.1 wd2_1.2 (TX lx k) (ZX lx k))), .int (nI (k1))]) (rest := []) ⟨hx, hb, hml, hown, hts⟩ (mX2_offer l D a cs (tp.1, 0) wd2_1 lx ro2_2 rs2 k (lx.2.2.1 k) (nrF wd2_1.1 wd2_1.2 (TX lx k) (ZX lx k)) k1 q (decide (q < k1)) ha (by omega) hck htk.2.2.2.1 (hI.1.2.2.2.2 k) hq1 hq2 hq3 decide_eq_true_iff) (cwV 4 hts gX5_ask_X2_offer rfl rfl rfl (by decide +kernel) ⟨Nat.le_of_ble_eq_true rfl, Nat.le_of_ble_eq_true rfl⟩) (nz_preV (ci := 2) (q0 := 5) hK hP rfl rfl) rfl rfl hl.1 rfl (lv_room (Nat.le_of_ble_eq_true rfl)) dX5_ask_92 ⟨Nat.zero_le _, Nat.zero_le _⟩) hS (fun _ h => h) (fun H locs hP _ _ hS => ?_)
                    have hst9 := rsTop_off (q := q) htk (by rw [decide_eq_true_iff]; exact hg9) (hI.1.2.2.2.2 k) (by show nrF wd2_1.1 wd2_1.2 (TX lx k) (ZX lx k) ≤ 100; omega) hq1 hq2 hq3
                    refine lv_iinc (v := nI (k + 1)) (lv' := [(3, .int (nI (k + 1))), (4, .int (nI (nrF wd2_1.1 wd2_1.2 (TX lx k) (ZX lx k)))), (0, .ref (a 0)), (1, .int (nI (k1))), (2, .int (nI (d1)))]) hx hb dX5_ask_95 hl (k := 4) rfl (nz_inc1 _) (by decide) rfl (fun ls hl => ?_)
                    refine lv_goto (tgt := 39) hx hb dX5_ask_98 (by decide) ?_
                    exact ih (k + 1) ro2_2 (bif (decide (q < k1)) then rsIns rs2 q k (lx.2.2.1 k) (nrF wd2_1.1 wd2_1.2 (TX lx k) (ZX lx k)) k1 else rs2) (by omega) hst9 (by omega) H locs hP hS ls (lv_sub hl [2, 3, 4, 0] rfl)
            exact loop (lx.2.2.2 - 0 + 1) 0 ro ((rs.1, rs.2.1, rs.2.2.1, rs.2.2.2.1, rs.2.2.2.2.1, 0)) (Nat.zero_le _) (⟨top_0 _ _ _ _, fun a h => absurd h (Nat.not_lt_zero _), fun a h => absurd h (Nat.not_lt_zero _), hR2, hnr, hR3⟩) (Nat.lt_succ_self _) H locs hP hS ls (lv_sub hl [1, 2, 3, 0] rfl)
          · have hno : ¬ askOk (nI k1) (nI d1) := fun h => by have h1 := h.2.2.2; rw [nI_clamp hd1] at h1; omega
            refine lv_iconst (v := (-1)) hx hb dX5_ask_27 (by decide +kernel) ?_
            have hz : (bb && b3) = false := by
              cases hbb9 : bb with
              | false => rfl
              | true =>
                cases hb39 : b3 with
                | false => rfl
                | true =>
                  have h9 := hb3.mp hb39
                  first | exact absurd (c_4.symm.trans hbb9) (by decide) | exact absurd h9 hno
            rw [hz] at hret
            exact hret 28 ls H locs dX5_ask_28 ⟨_, _, _, hwd2.1, hR, hnr, (fun h => by cases h), fun _ => rfl, hP⟩ hS
end
section
theorem dX6_init_0 : decode cX6_init 0 = .ok (.aload_n 0, 1) := by decide +kernel
theorem dX6_init_1 : decode cX6_init 1 = .ok (.invokespecial 1, 3) := by decide +kernel
theorem dX6_init_4 : decode cX6_init 4 = .ok (.aload_n 0, 1) := by decide +kernel
theorem dX6_init_5 : decode cX6_init 5 = .ok (.sipush 400, 3) := by decide +kernel
theorem dX6_init_8 : decode cX6_init 8 = .ok (.newarray .byte, 2) := by decide +kernel
theorem dX6_init_10 : decode cX6_init 10 = .ok (.putfield 7, 3) := by decide +kernel
theorem dX6_init_13 : decode cX6_init 13 = .ok (.aload_n 0, 1) := by decide +kernel
theorem dX6_init_14 : decode cX6_init 14 = .ok (.sipush 14424, 3) := by decide +kernel
theorem dX6_init_17 : decode cX6_init 17 = .ok (.newarray .byte, 2) := by decide +kernel
theorem dX6_init_19 : decode cX6_init 19 = .ok (.putfield 13, 3) := by decide +kernel
theorem dX6_init_22 : decode cX6_init 22 = .ok (.aload_n 0, 1) := by decide +kernel
theorem dX6_init_23 : decode cX6_init 23 = .ok (.sipush 601, 3) := by decide +kernel
theorem dX6_init_26 : decode cX6_init 26 = .ok (.newarray .int, 2) := by decide +kernel
theorem dX6_init_28 : decode cX6_init 28 = .ok (.putfield 16, 3) := by decide +kernel
theorem dX6_init_31 : decode cX6_init 31 = .ok (.aload_n 0, 1) := by decide +kernel
theorem dX6_init_32 : decode cX6_init 32 = .ok (.sipush 601, 3) := by decide +kernel
theorem dX6_init_35 : decode cX6_init 35 = .ok (.newarray .long, 2) := by decide +kernel
theorem dX6_init_37 : decode cX6_init 37 = .ok (.putfield 20, 3) := by decide +kernel
theorem dX6_init_40 : decode cX6_init 40 = .ok (.aload_n 0, 1) := by decide +kernel
theorem dX6_init_41 : decode cX6_init 41 = .ok (.sipush 1200, 3) := by decide +kernel
theorem dX6_init_44 : decode cX6_init 44 = .ok (.newarray .byte, 2) := by decide +kernel
theorem dX6_init_46 : decode cX6_init 46 = .ok (.putfield 24, 3) := by decide +kernel
theorem dX6_init_49 : decode cX6_init 49 = .ok (.aload_n 0, 1) := by decide +kernel
theorem dX6_init_50 : decode cX6_init 50 = .ok (.bipush 50, 2) := by decide +kernel
theorem dX6_init_52 : decode cX6_init 52 = .ok (.newarray .int, 2) := by decide +kernel
theorem dX6_init_54 : decode cX6_init 54 = .ok (.putfield 27, 3) := by decide +kernel
theorem dX6_init_57 : decode cX6_init 57 = .ok (.aload_n 0, 1) := by decide +kernel
theorem dX6_init_58 : decode cX6_init 58 = .ok (.bipush 50, 2) := by decide +kernel
theorem dX6_init_60 : decode cX6_init 60 = .ok (.newarray .long, 2) := by decide +kernel
theorem dX6_init_62 : decode cX6_init 62 = .ok (.putfield 30, 3) := by decide +kernel
theorem dX6_init_65 : decode cX6_init 65 = .ok (.aload_n 0, 1) := by decide +kernel
theorem dX6_init_66 : decode cX6_init 66 = .ok (.bipush 50, 2) := by decide +kernel
theorem dX6_init_68 : decode cX6_init 68 = .ok (.newarray .int, 2) := by decide +kernel
theorem dX6_init_70 : decode cX6_init 70 = .ok (.putfield 33, 3) := by decide +kernel
theorem dX6_init_73 : decode cX6_init 73 = .ok (.aload_n 0, 1) := by decide +kernel
theorem dX6_init_74 : decode cX6_init 74 = .ok (.sipush 600, 3) := by decide +kernel
theorem dX6_init_77 : decode cX6_init 77 = .ok (.newarray .boolean, 2) := by decide +kernel
theorem dX6_init_79 : decode cX6_init 79 = .ok (.putfield 36, 3) := by decide +kernel
theorem dX6_init_82 : decode cX6_init 82 = .ok (.aload_n 0, 1) := by decide +kernel
theorem dX6_init_83 : decode cX6_init 83 = .ok (.sipush 600, 3) := by decide +kernel
theorem dX6_init_86 : decode cX6_init 86 = .ok (.newarray .int, 2) := by decide +kernel
theorem dX6_init_88 : decode cX6_init 88 = .ok (.putfield 40, 3) := by decide +kernel
theorem dX6_init_91 : decode cX6_init 91 = .ok (.aload_n 0, 1) := by decide +kernel
theorem dX6_init_92 : decode cX6_init 92 = .ok (.bipush 25, 2) := by decide +kernel
theorem dX6_init_94 : decode cX6_init 94 = .ok (.newarray .int, 2) := by decide +kernel
theorem dX6_init_96 : decode cX6_init 96 = .ok (.putfield 43, 3) := by decide +kernel
theorem dX6_init_99 : decode cX6_init 99 = .ok (.aload_n 0, 1) := by decide +kernel
theorem dX6_init_100 : decode cX6_init 100 = .ok (.iconst 0, 1) := by decide +kernel
theorem dX6_init_101 : decode cX6_init 101 = .ok (.putfield 46, 3) := by decide +kernel
theorem dX6_init_104 : decode cX6_init 104 = .ok (.return_, 1) := by decide +kernel
theorem dX6_feed_0 : decode cX6_feed 0 = .ok (.aload_n 0, 1) := by decide +kernel
theorem dX6_feed_1 : decode cX6_feed 1 = .ok (.getfield 50, 3) := by decide +kernel
theorem dX6_feed_4 : decode cX6_feed 4 = .ok (.iconst 4, 1) := by decide +kernel
theorem dX6_feed_5 : decode cX6_feed 5 = .ok (.iadd, 1) := by decide +kernel
theorem dX6_feed_6 : decode cX6_feed 6 = .ok (.sipush 400, 3) := by decide +kernel
theorem dX6_feed_9 : decode cX6_feed 9 = .ok (.if_icmp .le 6, 3) := by decide +kernel
theorem dX6_feed_12 : decode cX6_feed 12 = .ok (.bipush (-2), 2) := by decide +kernel
theorem dX6_feed_14 : decode cX6_feed 14 = .ok (.ireturn, 1) := by decide +kernel
theorem dX6_feed_15 : decode cX6_feed 15 = .ok (.bipush 24, 2) := by decide +kernel
theorem dX6_feed_17 : decode cX6_feed 17 = .ok (.istore_n 2, 1) := by decide +kernel
theorem dX6_feed_18 : decode cX6_feed 18 = .ok (.iload_n 2, 1) := by decide +kernel
theorem dX6_feed_19 : decode cX6_feed 19 = .ok (.ifCond .lt 32, 3) := by decide +kernel
theorem dX6_feed_22 : decode cX6_feed 22 = .ok (.aload_n 0, 1) := by decide +kernel
theorem dX6_feed_23 : decode cX6_feed 23 = .ok (.getfield 7, 3) := by decide +kernel
theorem dX6_feed_26 : decode cX6_feed 26 = .ok (.aload_n 0, 1) := by decide +kernel
theorem dX6_feed_27 : decode cX6_feed 27 = .ok (.getfield 50, 3) := by decide +kernel
theorem dX6_feed_30 : decode cX6_feed 30 = .ok (.iload_n 1, 1) := by decide +kernel
theorem dX6_feed_31 : decode cX6_feed 31 = .ok (.iload_n 2, 1) := by decide +kernel
theorem dX6_feed_32 : decode cX6_feed 32 = .ok (.ishr, 1) := by decide +kernel
theorem dX6_feed_33 : decode cX6_feed 33 = .ok (.i2b, 1) := by decide +kernel
theorem dX6_feed_34 : decode cX6_feed 34 = .ok (.bastore, 1) := by decide +kernel
theorem dX6_feed_35 : decode cX6_feed 35 = .ok (.aload_n 0, 1) := by decide +kernel
theorem dX6_feed_36 : decode cX6_feed 36 = .ok (.dup, 1) := by decide +kernel
theorem dX6_feed_37 : decode cX6_feed 37 = .ok (.getfield 50, 3) := by decide +kernel
theorem dX6_feed_40 : decode cX6_feed 40 = .ok (.iconst 1, 1) := by decide +kernel
theorem dX6_feed_41 : decode cX6_feed 41 = .ok (.iadd, 1) := by decide +kernel
theorem dX6_feed_42 : decode cX6_feed 42 = .ok (.putfield 50, 3) := by decide +kernel
theorem dX6_feed_45 : decode cX6_feed 45 = .ok (.iinc 2 (-8), 3) := by decide +kernel
theorem dX6_feed_48 : decode cX6_feed 48 = .ok (.goto (-30), 3) := by decide +kernel
theorem dX6_feed_51 : decode cX6_feed 51 = .ok (.aload_n 0, 1) := by decide +kernel
theorem dX6_feed_52 : decode cX6_feed 52 = .ok (.getfield 50, 3) := by decide +kernel
theorem dX6_feed_55 : decode cX6_feed 55 = .ok (.ireturn, 1) := by decide +kernel
theorem dX6_cut_0 : decode cX6_cut 0 = .ok (.iload_n 1, 1) := by decide +kernel
theorem dX6_cut_1 : decode cX6_cut 1 = .ok (.ifCond .lt 11, 3) := by decide +kernel
theorem dX6_cut_4 : decode cX6_cut 4 = .ok (.iload_n 1, 1) := by decide +kernel
theorem dX6_cut_5 : decode cX6_cut 5 = .ok (.aload_n 0, 1) := by decide +kernel
theorem dX6_cut_6 : decode cX6_cut 6 = .ok (.getfield 50, 3) := by decide +kernel
theorem dX6_cut_9 : decode cX6_cut 9 = .ok (.if_icmp .le 5, 3) := by decide +kernel
theorem dX6_cut_12 : decode cX6_cut 12 = .ok (.iconst (-1), 1) := by decide +kernel
theorem dX6_cut_13 : decode cX6_cut 13 = .ok (.ireturn, 1) := by decide +kernel
theorem dX6_cut_14 : decode cX6_cut 14 = .ok (.aload_n 0, 1) := by decide +kernel
theorem dX6_cut_15 : decode cX6_cut 15 = .ok (.getfield 50, 3) := by decide +kernel
theorem dX6_cut_18 : decode cX6_cut 18 = .ok (.iload_n 1, 1) := by decide +kernel
theorem dX6_cut_19 : decode cX6_cut 19 = .ok (.isub, 1) := by decide +kernel
theorem dX6_cut_20 : decode cX6_cut 20 = .ok (.istore_n 2, 1) := by decide +kernel
theorem dX6_cut_21 : decode cX6_cut 21 = .ok (.aload_n 0, 1) := by decide +kernel
theorem dX6_cut_22 : decode cX6_cut 22 = .ok (.iload_n 1, 1) := by decide +kernel
theorem dX6_cut_23 : decode cX6_cut 23 = .ok (.putfield 50, 3) := by decide +kernel
theorem dX6_cut_26 : decode cX6_cut 26 = .ok (.iload_n 2, 1) := by decide +kernel
theorem dX6_cut_27 : decode cX6_cut 27 = .ok (.ireturn, 1) := by decide +kernel
theorem dX6_isSmall_0 : decode cX6_isSmall 0 = .ok (.iload_n 0, 1) := by decide +kernel
theorem dX6_isSmall_1 : decode cX6_isSmall 1 = .ok (.bipush 97, 2) := by decide +kernel
theorem dX6_isSmall_3 : decode cX6_isSmall 3 = .ok (.if_icmp .lt 13, 3) := by decide +kernel
theorem dX6_isSmall_6 : decode cX6_isSmall 6 = .ok (.iload_n 0, 1) := by decide +kernel
theorem dX6_isSmall_7 : decode cX6_isSmall 7 = .ok (.bipush 122, 2) := by decide +kernel
theorem dX6_isSmall_9 : decode cX6_isSmall 9 = .ok (.if_icmp .gt 7, 3) := by decide +kernel
theorem dX6_isSmall_12 : decode cX6_isSmall 12 = .ok (.iconst 1, 1) := by decide +kernel
theorem dX6_isSmall_13 : decode cX6_isSmall 13 = .ok (.goto 4, 3) := by decide +kernel
theorem dX6_isSmall_16 : decode cX6_isSmall 16 = .ok (.iconst 0, 1) := by decide +kernel
theorem dX6_isSmall_17 : decode cX6_isSmall 17 = .ok (.ireturn, 1) := by decide +kernel
set_option maxRecDepth 20000 in
theorem ggX6_compare_X6_small : GoodIn wsX6_compare wsX6_small := goodIn_r _ [7] (by decide +kernel) (by decide +kernel)
set_option maxRecDepth 20000 in
theorem gX6_compare_X6_small : GoodIn wsX6_compare (va_wsS RX6 53 yX6_small wsX6_small) := goodIn_app (goodIn_of _ (by decide +kernel)) ggX6_compare_X6_small
theorem dX6_compare_0 : decode cX6_compare 0 = .ok (.iconst 0, 1) := by decide +kernel
theorem dX6_compare_1 : decode cX6_compare 1 = .ok (.istore 4, 2) := by decide +kernel
theorem dX6_compare_3 : decode cX6_compare 3 = .ok (.iload 4, 2) := by decide +kernel
theorem dX6_compare_5 : decode cX6_compare 5 = .ok (.iload_n 2, 1) := by decide +kernel
theorem dX6_compare_6 : decode cX6_compare 6 = .ok (.if_icmp .ge 63, 3) := by decide +kernel
theorem dX6_compare_9 : decode cX6_compare 9 = .ok (.iload 4, 2) := by decide +kernel
theorem dX6_compare_11 : decode cX6_compare 11 = .ok (.aload_n 0, 1) := by decide +kernel
theorem dX6_compare_12 : decode cX6_compare 12 = .ok (.getfield 16, 3) := by decide +kernel
theorem dX6_compare_15 : decode cX6_compare 15 = .ok (.iload_n 3, 1) := by decide +kernel
theorem dX6_compare_16 : decode cX6_compare 16 = .ok (.iaload, 1) := by decide +kernel
theorem dX6_compare_17 : decode cX6_compare 17 = .ok (.if_icmp .ge 52, 3) := by decide +kernel
theorem dX6_compare_20 : decode cX6_compare 20 = .ok (.aload_n 0, 1) := by decide +kernel
theorem dX6_compare_21 : decode cX6_compare 21 = .ok (.getfield 7, 3) := by decide +kernel
theorem dX6_compare_24 : decode cX6_compare 24 = .ok (.iload_n 1, 1) := by decide +kernel
theorem dX6_compare_25 : decode cX6_compare 25 = .ok (.iload 4, 2) := by decide +kernel
theorem dX6_compare_27 : decode cX6_compare 27 = .ok (.iadd, 1) := by decide +kernel
theorem dX6_compare_28 : decode cX6_compare 28 = .ok (.baload, 1) := by decide +kernel
theorem dX6_compare_29 : decode cX6_compare 29 = .ok (.invokestatic 53, 3) := by decide +kernel
theorem dX6_compare_32 : decode cX6_compare 32 = .ok (.aload_n 0, 1) := by decide +kernel
theorem dX6_compare_33 : decode cX6_compare 33 = .ok (.getfield 13, 3) := by decide +kernel
theorem dX6_compare_36 : decode cX6_compare 36 = .ok (.bipush 24, 2) := by decide +kernel
theorem dX6_compare_38 : decode cX6_compare 38 = .ok (.iload_n 3, 1) := by decide +kernel
theorem dX6_compare_39 : decode cX6_compare 39 = .ok (.imul, 1) := by decide +kernel
theorem dX6_compare_40 : decode cX6_compare 40 = .ok (.iload 4, 2) := by decide +kernel
theorem dX6_compare_42 : decode cX6_compare 42 = .ok (.iadd, 1) := by decide +kernel
theorem dX6_compare_43 : decode cX6_compare 43 = .ok (.baload, 1) := by decide +kernel
theorem dX6_compare_44 : decode cX6_compare 44 = .ok (.isub, 1) := by decide +kernel
theorem dX6_compare_45 : decode cX6_compare 45 = .ok (.istore 5, 2) := by decide +kernel
theorem dX6_compare_47 : decode cX6_compare 47 = .ok (.iload 5, 2) := by decide +kernel
theorem dX6_compare_49 : decode cX6_compare 49 = .ok (.ifCond .eq 14, 3) := by decide +kernel
theorem dX6_compare_52 : decode cX6_compare 52 = .ok (.iload 5, 2) := by decide +kernel
theorem dX6_compare_54 : decode cX6_compare 54 = .ok (.ifCond .ge 7, 3) := by decide +kernel
theorem dX6_compare_57 : decode cX6_compare 57 = .ok (.iconst (-1), 1) := by decide +kernel
theorem dX6_compare_58 : decode cX6_compare 58 = .ok (.goto 4, 3) := by decide +kernel
theorem dX6_compare_61 : decode cX6_compare 61 = .ok (.iconst 1, 1) := by decide +kernel
theorem dX6_compare_62 : decode cX6_compare 62 = .ok (.ireturn, 1) := by decide +kernel
theorem dX6_compare_63 : decode cX6_compare 63 = .ok (.iinc 4 1, 3) := by decide +kernel
theorem dX6_compare_66 : decode cX6_compare 66 = .ok (.goto (-63), 3) := by decide +kernel
theorem dX6_compare_69 : decode cX6_compare 69 = .ok (.iload_n 2, 1) := by decide +kernel
theorem dX6_compare_70 : decode cX6_compare 70 = .ok (.aload_n 0, 1) := by decide +kernel
theorem dX6_compare_71 : decode cX6_compare 71 = .ok (.getfield 16, 3) := by decide +kernel
theorem dX6_compare_74 : decode cX6_compare 74 = .ok (.iload_n 3, 1) := by decide +kernel
theorem dX6_compare_75 : decode cX6_compare 75 = .ok (.iaload, 1) := by decide +kernel
theorem dX6_compare_76 : decode cX6_compare 76 = .ok (.if_icmp .ge 7, 3) := by decide +kernel
theorem dX6_compare_79 : decode cX6_compare 79 = .ok (.iconst (-1), 1) := by decide +kernel
theorem dX6_compare_80 : decode cX6_compare 80 = .ok (.goto 18, 3) := by decide +kernel
theorem dX6_compare_83 : decode cX6_compare 83 = .ok (.iload_n 2, 1) := by decide +kernel
theorem dX6_compare_84 : decode cX6_compare 84 = .ok (.aload_n 0, 1) := by decide +kernel
theorem dX6_compare_85 : decode cX6_compare 85 = .ok (.getfield 16, 3) := by decide +kernel
theorem dX6_compare_88 : decode cX6_compare 88 = .ok (.iload_n 3, 1) := by decide +kernel
theorem dX6_compare_89 : decode cX6_compare 89 = .ok (.iaload, 1) := by decide +kernel
theorem dX6_compare_90 : decode cX6_compare 90 = .ok (.if_icmp .le 7, 3) := by decide +kernel
theorem dX6_compare_93 : decode cX6_compare 93 = .ok (.iconst 1, 1) := by decide +kernel
theorem dX6_compare_94 : decode cX6_compare 94 = .ok (.goto 4, 3) := by decide +kernel
theorem dX6_compare_97 : decode cX6_compare 97 = .ok (.iconst 0, 1) := by decide +kernel
theorem dX6_compare_98 : decode cX6_compare 98 = .ok (.ireturn, 1) := by decide +kernel
theorem dX6_small_0 : decode cX6_small 0 = .ok (.iload_n 0, 1) := by decide +kernel
theorem dX6_small_1 : decode cX6_small 1 = .ok (.bipush 65, 2) := by decide +kernel
theorem dX6_small_3 : decode cX6_small 3 = .ok (.if_icmp .lt 16, 3) := by decide +kernel
theorem dX6_small_6 : decode cX6_small 6 = .ok (.iload_n 0, 1) := by decide +kernel
theorem dX6_small_7 : decode cX6_small 7 = .ok (.bipush 90, 2) := by decide +kernel
theorem dX6_small_9 : decode cX6_small 9 = .ok (.if_icmp .gt 10, 3) := by decide +kernel
theorem dX6_small_12 : decode cX6_small 12 = .ok (.iload_n 0, 1) := by decide +kernel
theorem dX6_small_13 : decode cX6_small 13 = .ok (.bipush 32, 2) := by decide +kernel
theorem dX6_small_15 : decode cX6_small 15 = .ok (.iadd, 1) := by decide +kernel
theorem dX6_small_16 : decode cX6_small 16 = .ok (.goto 4, 3) := by decide +kernel
theorem dX6_small_19 : decode cX6_small 19 = .ok (.iload_n 0, 1) := by decide +kernel
theorem dX6_small_20 : decode cX6_small 20 = .ok (.ireturn, 1) := by decide +kernel
set_option maxRecDepth 20000 in
theorem ggX6_find_X6_compare : GoodIn wsX6_find wsX6_compare := goodIn_r _ [6, 7, 8, 9, 10, 11, 5, 12, 13, 14, 15, 16, 17, 18, 19, 20, 21, 22, 23, 24, 25, 26, 27] (by decide +kernel) (by decide +kernel)
set_option maxRecDepth 20000 in
theorem gX6_find_X6_compare : GoodIn wsX6_find (wsV RX6 57 RX6 yX6_compare wsX6_compare) := goodIn_app (goodIn_of _ (by decide +kernel)) ggX6_find_X6_compare
theorem dX6_find_0 : decode cX6_find 0 = .ok (.iconst 0, 1) := by decide +kernel
theorem dX6_find_1 : decode cX6_find 1 = .ok (.istore_n 3, 1) := by decide +kernel
theorem dX6_find_2 : decode cX6_find 2 = .ok (.iload_n 3, 1) := by decide +kernel
theorem dX6_find_3 : decode cX6_find 3 = .ok (.aload_n 0, 1) := by decide +kernel
theorem dX6_find_4 : decode cX6_find 4 = .ok (.getfield 46, 3) := by decide +kernel
theorem dX6_find_7 : decode cX6_find 7 = .ok (.if_icmp .ge 21, 3) := by decide +kernel
theorem dX6_find_10 : decode cX6_find 10 = .ok (.aload_n 0, 1) := by decide +kernel
theorem dX6_find_11 : decode cX6_find 11 = .ok (.iload_n 1, 1) := by decide +kernel
theorem dX6_find_12 : decode cX6_find 12 = .ok (.iload_n 2, 1) := by decide +kernel
theorem dX6_find_13 : decode cX6_find 13 = .ok (.iload_n 3, 1) := by decide +kernel
theorem dX6_find_14 : decode cX6_find 14 = .ok (.invokevirtual 57, 3) := by decide +kernel
theorem dX6_find_17 : decode cX6_find 17 = .ok (.ifCond .ne 5, 3) := by decide +kernel
theorem dX6_find_20 : decode cX6_find 20 = .ok (.iload_n 3, 1) := by decide +kernel
theorem dX6_find_21 : decode cX6_find 21 = .ok (.ireturn, 1) := by decide +kernel
theorem dX6_find_22 : decode cX6_find 22 = .ok (.iinc 3 1, 3) := by decide +kernel
theorem dX6_find_25 : decode cX6_find 25 = .ok (.goto (-23), 3) := by decide +kernel
theorem dX6_find_28 : decode cX6_find 28 = .ok (.iconst (-1), 1) := by decide +kernel
theorem dX6_find_29 : decode cX6_find 29 = .ok (.ireturn, 1) := by decide +kernel
set_option maxRecDepth 20000 in
theorem ggX6_add_X6_compare : GoodIn wsX6_add wsX6_compare := goodIn_r _ [11, 5, 4, 3, 12, 13, 10, 14, 19, 20, 21, 22, 23, 24, 25, 26, 27, 28, 29, 30, 31, 32, 33] (by decide +kernel) (by decide +kernel)
set_option maxRecDepth 20000 in
theorem gX6_add_X6_compare : GoodIn wsX6_add (wsV RX6 57 RX6 yX6_compare wsX6_compare) := goodIn_app (goodIn_of _ (by decide +kernel)) ggX6_add_X6_compare
set_option maxRecDepth 20000 in
theorem ggX6_add_X6_move : GoodIn wsX6_add wsX6_move := goodIn_r _ [18, 3, 5, 6, 19, 20, 21, 22, 23, 24, 25, 26, 27, 28, 29, 30, 31, 32, 33] (by decide +kernel) (by decide +kernel)
set_option maxRecDepth 20000 in
theorem gX6_add_X6_move : GoodIn wsX6_add (wsV RX6 64 RX6 yX6_move wsX6_move) := goodIn_app (goodIn_of _ (by decide +kernel)) ggX6_add_X6_move
set_option maxRecDepth 20000 in
theorem ggX6_add_X6_small : GoodIn wsX6_add wsX6_small := goodIn_r _ [14] (by decide +kernel) (by decide +kernel)
set_option maxRecDepth 20000 in
theorem gX6_add_X6_small : GoodIn wsX6_add (va_wsS RX6 53 yX6_small wsX6_small) := goodIn_app (goodIn_of _ (by decide +kernel)) ggX6_add_X6_small
theorem dX6_add_0 : decode cX6_add 0 = .ok (.aload_n 0, 1) := by decide +kernel
theorem dX6_add_1 : decode cX6_add 1 = .ok (.getfield 46, 3) := by decide +kernel
theorem dX6_add_4 : decode cX6_add 4 = .ok (.sipush 600, 3) := by decide +kernel
theorem dX6_add_7 : decode cX6_add 7 = .ok (.if_icmp .eq 15, 3) := by decide +kernel
theorem dX6_add_10 : decode cX6_add 10 = .ok (.aload_n 0, 1) := by decide +kernel
theorem dX6_add_11 : decode cX6_add 11 = .ok (.getfield 61, 3) := by decide +kernel
theorem dX6_add_14 : decode cX6_add 14 = .ok (.iload_n 2, 1) := by decide +kernel
theorem dX6_add_15 : decode cX6_add 15 = .ok (.iadd, 1) := by decide +kernel
theorem dX6_add_16 : decode cX6_add 16 = .ok (.sipush 6000, 3) := by decide +kernel
theorem dX6_add_19 : decode cX6_add 19 = .ok (.if_icmp .le 5, 3) := by decide +kernel
theorem dX6_add_22 : decode cX6_add 22 = .ok (.iconst (-1), 1) := by decide +kernel
theorem dX6_add_23 : decode cX6_add 23 = .ok (.ireturn, 1) := by decide +kernel
theorem dX6_add_24 : decode cX6_add 24 = .ok (.aload_n 0, 1) := by decide +kernel
theorem dX6_add_25 : decode cX6_add 25 = .ok (.getfield 46, 3) := by decide +kernel
theorem dX6_add_28 : decode cX6_add 28 = .ok (.istore 5, 2) := by decide +kernel
theorem dX6_add_30 : decode cX6_add 30 = .ok (.iload 5, 2) := by decide +kernel
theorem dX6_add_32 : decode cX6_add 32 = .ok (.ifCond .le 32, 3) := by decide +kernel
theorem dX6_add_35 : decode cX6_add 35 = .ok (.aload_n 0, 1) := by decide +kernel
theorem dX6_add_36 : decode cX6_add 36 = .ok (.iload_n 1, 1) := by decide +kernel
theorem dX6_add_37 : decode cX6_add 37 = .ok (.iload_n 2, 1) := by decide +kernel
theorem dX6_add_38 : decode cX6_add 38 = .ok (.iload 5, 2) := by decide +kernel
theorem dX6_add_40 : decode cX6_add 40 = .ok (.iconst 1, 1) := by decide +kernel
theorem dX6_add_41 : decode cX6_add 41 = .ok (.isub, 1) := by decide +kernel
theorem dX6_add_42 : decode cX6_add 42 = .ok (.invokevirtual 57, 3) := by decide +kernel
theorem dX6_add_45 : decode cX6_add 45 = .ok (.ifCond .ge 19, 3) := by decide +kernel
theorem dX6_add_48 : decode cX6_add 48 = .ok (.aload_n 0, 1) := by decide +kernel
theorem dX6_add_49 : decode cX6_add 49 = .ok (.iload 5, 2) := by decide +kernel
theorem dX6_add_51 : decode cX6_add 51 = .ok (.iconst 1, 1) := by decide +kernel
theorem dX6_add_52 : decode cX6_add 52 = .ok (.isub, 1) := by decide +kernel
theorem dX6_add_53 : decode cX6_add 53 = .ok (.iload 5, 2) := by decide +kernel
theorem dX6_add_55 : decode cX6_add 55 = .ok (.invokevirtual 64, 3) := by decide +kernel
theorem dX6_add_58 : decode cX6_add 58 = .ok (.iinc 5 (-1), 3) := by decide +kernel
theorem dX6_add_61 : decode cX6_add 61 = .ok (.goto (-31), 3) := by decide +kernel
theorem dX6_add_64 : decode cX6_add 64 = .ok (.iconst 0, 1) := by decide +kernel
theorem dX6_add_65 : decode cX6_add 65 = .ok (.istore 6, 2) := by decide +kernel
theorem dX6_add_67 : decode cX6_add 67 = .ok (.iload 6, 2) := by decide +kernel
theorem dX6_add_69 : decode cX6_add 69 = .ok (.iload_n 2, 1) := by decide +kernel
theorem dX6_add_70 : decode cX6_add 70 = .ok (.if_icmp .ge 35, 3) := by decide +kernel
theorem dX6_add_73 : decode cX6_add 73 = .ok (.aload_n 0, 1) := by decide +kernel
theorem dX6_add_74 : decode cX6_add 74 = .ok (.getfield 13, 3) := by decide +kernel
theorem dX6_add_77 : decode cX6_add 77 = .ok (.bipush 24, 2) := by decide +kernel
theorem dX6_add_79 : decode cX6_add 79 = .ok (.iload 5, 2) := by decide +kernel
theorem dX6_add_81 : decode cX6_add 81 = .ok (.imul, 1) := by decide +kernel
theorem dX6_add_82 : decode cX6_add 82 = .ok (.iload 6, 2) := by decide +kernel
theorem dX6_add_84 : decode cX6_add 84 = .ok (.iadd, 1) := by decide +kernel
theorem dX6_add_85 : decode cX6_add 85 = .ok (.aload_n 0, 1) := by decide +kernel
theorem dX6_add_86 : decode cX6_add 86 = .ok (.getfield 7, 3) := by decide +kernel
theorem dX6_add_89 : decode cX6_add 89 = .ok (.iload_n 1, 1) := by decide +kernel
theorem dX6_add_90 : decode cX6_add 90 = .ok (.iload 6, 2) := by decide +kernel
theorem dX6_add_92 : decode cX6_add 92 = .ok (.iadd, 1) := by decide +kernel
theorem dX6_add_93 : decode cX6_add 93 = .ok (.baload, 1) := by decide +kernel
theorem dX6_add_94 : decode cX6_add 94 = .ok (.invokestatic 53, 3) := by decide +kernel
theorem dX6_add_97 : decode cX6_add 97 = .ok (.i2b, 1) := by decide +kernel
theorem dX6_add_98 : decode cX6_add 98 = .ok (.bastore, 1) := by decide +kernel
theorem dX6_add_99 : decode cX6_add 99 = .ok (.iinc 6 1, 3) := by decide +kernel
theorem dX6_add_102 : decode cX6_add 102 = .ok (.goto (-35), 3) := by decide +kernel
theorem dX6_add_105 : decode cX6_add 105 = .ok (.aload_n 0, 1) := by decide +kernel
theorem dX6_add_106 : decode cX6_add 106 = .ok (.getfield 16, 3) := by decide +kernel
theorem dX6_add_109 : decode cX6_add 109 = .ok (.iload 5, 2) := by decide +kernel
theorem dX6_add_111 : decode cX6_add 111 = .ok (.iload_n 2, 1) := by decide +kernel
theorem dX6_add_112 : decode cX6_add 112 = .ok (.iastore, 1) := by decide +kernel
theorem dX6_add_113 : decode cX6_add 113 = .ok (.aload_n 0, 1) := by decide +kernel
theorem dX6_add_114 : decode cX6_add 114 = .ok (.getfield 20, 3) := by decide +kernel
theorem dX6_add_117 : decode cX6_add 117 = .ok (.iload 5, 2) := by decide +kernel
theorem dX6_add_119 : decode cX6_add 119 = .ok (.lload_n 3, 1) := by decide +kernel
theorem dX6_add_120 : decode cX6_add 120 = .ok (.lastore, 1) := by decide +kernel
theorem dX6_add_121 : decode cX6_add 121 = .ok (.aload_n 0, 1) := by decide +kernel
theorem dX6_add_122 : decode cX6_add 122 = .ok (.dup, 1) := by decide +kernel
theorem dX6_add_123 : decode cX6_add 123 = .ok (.getfield 46, 3) := by decide +kernel
theorem dX6_add_126 : decode cX6_add 126 = .ok (.iconst 1, 1) := by decide +kernel
theorem dX6_add_127 : decode cX6_add 127 = .ok (.iadd, 1) := by decide +kernel
theorem dX6_add_128 : decode cX6_add 128 = .ok (.putfield 46, 3) := by decide +kernel
theorem dX6_add_131 : decode cX6_add 131 = .ok (.aload_n 0, 1) := by decide +kernel
theorem dX6_add_132 : decode cX6_add 132 = .ok (.dup, 1) := by decide +kernel
theorem dX6_add_133 : decode cX6_add 133 = .ok (.getfield 61, 3) := by decide +kernel
theorem dX6_add_136 : decode cX6_add 136 = .ok (.iload_n 2, 1) := by decide +kernel
theorem dX6_add_137 : decode cX6_add 137 = .ok (.iadd, 1) := by decide +kernel
theorem dX6_add_138 : decode cX6_add 138 = .ok (.putfield 61, 3) := by decide +kernel
theorem dX6_add_141 : decode cX6_add 141 = .ok (.iload 5, 2) := by decide +kernel
theorem dX6_add_143 : decode cX6_add 143 = .ok (.ireturn, 1) := by decide +kernel
theorem dX6_move_0 : decode cX6_move 0 = .ok (.iconst 0, 1) := by decide +kernel
theorem dX6_move_1 : decode cX6_move 1 = .ok (.istore_n 3, 1) := by decide +kernel
theorem dX6_move_2 : decode cX6_move 2 = .ok (.iload_n 3, 1) := by decide +kernel
theorem dX6_move_3 : decode cX6_move 3 = .ok (.bipush 24, 2) := by decide +kernel
theorem dX6_move_5 : decode cX6_move 5 = .ok (.if_icmp .ge 31, 3) := by decide +kernel
theorem dX6_move_8 : decode cX6_move 8 = .ok (.aload_n 0, 1) := by decide +kernel
theorem dX6_move_9 : decode cX6_move 9 = .ok (.getfield 13, 3) := by decide +kernel
theorem dX6_move_12 : decode cX6_move 12 = .ok (.bipush 24, 2) := by decide +kernel
theorem dX6_move_14 : decode cX6_move 14 = .ok (.iload_n 2, 1) := by decide +kernel
theorem dX6_move_15 : decode cX6_move 15 = .ok (.imul, 1) := by decide +kernel
theorem dX6_move_16 : decode cX6_move 16 = .ok (.iload_n 3, 1) := by decide +kernel
theorem dX6_move_17 : decode cX6_move 17 = .ok (.iadd, 1) := by decide +kernel
theorem dX6_move_18 : decode cX6_move 18 = .ok (.aload_n 0, 1) := by decide +kernel
theorem dX6_move_19 : decode cX6_move 19 = .ok (.getfield 13, 3) := by decide +kernel
theorem dX6_move_22 : decode cX6_move 22 = .ok (.bipush 24, 2) := by decide +kernel
theorem dX6_move_24 : decode cX6_move 24 = .ok (.iload_n 1, 1) := by decide +kernel
theorem dX6_move_25 : decode cX6_move 25 = .ok (.imul, 1) := by decide +kernel
theorem dX6_move_26 : decode cX6_move 26 = .ok (.iload_n 3, 1) := by decide +kernel
theorem dX6_move_27 : decode cX6_move 27 = .ok (.iadd, 1) := by decide +kernel
theorem dX6_move_28 : decode cX6_move 28 = .ok (.baload, 1) := by decide +kernel
theorem dX6_move_29 : decode cX6_move 29 = .ok (.bastore, 1) := by decide +kernel
theorem dX6_move_30 : decode cX6_move 30 = .ok (.iinc 3 1, 3) := by decide +kernel
theorem dX6_move_33 : decode cX6_move 33 = .ok (.goto (-31), 3) := by decide +kernel
theorem dX6_move_36 : decode cX6_move 36 = .ok (.aload_n 0, 1) := by decide +kernel
theorem dX6_move_37 : decode cX6_move 37 = .ok (.getfield 16, 3) := by decide +kernel
theorem dX6_move_40 : decode cX6_move 40 = .ok (.iload_n 2, 1) := by decide +kernel
theorem dX6_move_41 : decode cX6_move 41 = .ok (.aload_n 0, 1) := by decide +kernel
theorem dX6_move_42 : decode cX6_move 42 = .ok (.getfield 16, 3) := by decide +kernel
theorem dX6_move_45 : decode cX6_move 45 = .ok (.iload_n 1, 1) := by decide +kernel
theorem dX6_move_46 : decode cX6_move 46 = .ok (.iaload, 1) := by decide +kernel
theorem dX6_move_47 : decode cX6_move 47 = .ok (.iastore, 1) := by decide +kernel
theorem dX6_move_48 : decode cX6_move 48 = .ok (.aload_n 0, 1) := by decide +kernel
theorem dX6_move_49 : decode cX6_move 49 = .ok (.getfield 20, 3) := by decide +kernel
theorem dX6_move_52 : decode cX6_move 52 = .ok (.iload_n 2, 1) := by decide +kernel
theorem dX6_move_53 : decode cX6_move 53 = .ok (.aload_n 0, 1) := by decide +kernel
theorem dX6_move_54 : decode cX6_move 54 = .ok (.getfield 20, 3) := by decide +kernel
theorem dX6_move_57 : decode cX6_move 57 = .ok (.iload_n 1, 1) := by decide +kernel
theorem dX6_move_58 : decode cX6_move 58 = .ok (.laload, 1) := by decide +kernel
theorem dX6_move_59 : decode cX6_move 59 = .ok (.lastore, 1) := by decide +kernel
theorem dX6_move_60 : decode cX6_move 60 = .ok (.return_, 1) := by decide +kernel
set_option maxRecDepth 20000 in
theorem ggX6_taken_X6_isSmall : GoodIn wsX6_taken wsX6_isSmall := goodIn_r _ [6] (by decide +kernel) (by decide +kernel)
set_option maxRecDepth 20000 in
theorem gX6_taken_X6_isSmall : GoodIn wsX6_taken (va_wsS RX6 68 yX6_isSmall wsX6_isSmall) := goodIn_app (goodIn_of _ (by decide +kernel)) ggX6_taken_X6_isSmall
theorem dX6_taken_0 : decode cX6_taken 0 = .ok (.aload_n 0, 1) := by decide +kernel
theorem dX6_taken_1 : decode cX6_taken 1 = .ok (.getfield 50, 3) := by decide +kernel
theorem dX6_taken_4 : decode cX6_taken 4 = .ok (.istore_n 2, 1) := by decide +kernel
theorem dX6_taken_5 : decode cX6_taken 5 = .ok (.aload_n 0, 1) := by decide +kernel
theorem dX6_taken_6 : decode cX6_taken 6 = .ok (.iconst 0, 1) := by decide +kernel
theorem dX6_taken_7 : decode cX6_taken 7 = .ok (.putfield 50, 3) := by decide +kernel
theorem dX6_taken_10 : decode cX6_taken 10 = .ok (.iload_n 2, 1) := by decide +kernel
theorem dX6_taken_11 : decode cX6_taken 11 = .ok (.iload_n 1, 1) := by decide +kernel
theorem dX6_taken_12 : decode cX6_taken 12 = .ok (.if_icmp .lt 13, 3) := by decide +kernel
theorem dX6_taken_15 : decode cX6_taken 15 = .ok (.iload_n 2, 1) := by decide +kernel
theorem dX6_taken_16 : decode cX6_taken 16 = .ok (.bipush 24, 2) := by decide +kernel
theorem dX6_taken_18 : decode cX6_taken 18 = .ok (.if_icmp .gt 7, 3) := by decide +kernel
theorem dX6_taken_21 : decode cX6_taken 21 = .ok (.iconst 1, 1) := by decide +kernel
theorem dX6_taken_22 : decode cX6_taken 22 = .ok (.goto 4, 3) := by decide +kernel
theorem dX6_taken_25 : decode cX6_taken 25 = .ok (.iconst 0, 1) := by decide +kernel
theorem dX6_taken_26 : decode cX6_taken 26 = .ok (.istore_n 3, 1) := by decide +kernel
theorem dX6_taken_27 : decode cX6_taken 27 = .ok (.iconst 0, 1) := by decide +kernel
theorem dX6_taken_28 : decode cX6_taken 28 = .ok (.istore 4, 2) := by decide +kernel
theorem dX6_taken_30 : decode cX6_taken 30 = .ok (.iload 4, 2) := by decide +kernel
theorem dX6_taken_32 : decode cX6_taken 32 = .ok (.iload_n 2, 1) := by decide +kernel
theorem dX6_taken_33 : decode cX6_taken 33 = .ok (.if_icmp .ge 24, 3) := by decide +kernel
theorem dX6_taken_36 : decode cX6_taken 36 = .ok (.iload_n 3, 1) := by decide +kernel
theorem dX6_taken_37 : decode cX6_taken 37 = .ok (.ifCond .eq 20, 3) := by decide +kernel
theorem dX6_taken_40 : decode cX6_taken 40 = .ok (.aload_n 0, 1) := by decide +kernel
theorem dX6_taken_41 : decode cX6_taken 41 = .ok (.getfield 7, 3) := by decide +kernel
theorem dX6_taken_44 : decode cX6_taken 44 = .ok (.iload 4, 2) := by decide +kernel
theorem dX6_taken_46 : decode cX6_taken 46 = .ok (.baload, 1) := by decide +kernel
theorem dX6_taken_47 : decode cX6_taken 47 = .ok (.invokestatic 68, 3) := by decide +kernel
theorem dX6_taken_50 : decode cX6_taken 50 = .ok (.istore_n 3, 1) := by decide +kernel
theorem dX6_taken_51 : decode cX6_taken 51 = .ok (.iinc 4 1, 3) := by decide +kernel
theorem dX6_taken_54 : decode cX6_taken 54 = .ok (.goto (-24), 3) := by decide +kernel
theorem dX6_taken_57 : decode cX6_taken 57 = .ok (.iload_n 3, 1) := by decide +kernel
theorem dX6_taken_58 : decode cX6_taken 58 = .ok (.ifCond .eq 7, 3) := by decide +kernel
theorem dX6_taken_61 : decode cX6_taken 61 = .ok (.iload_n 2, 1) := by decide +kernel
theorem dX6_taken_62 : decode cX6_taken 62 = .ok (.goto 4, 3) := by decide +kernel
theorem dX6_taken_65 : decode cX6_taken 65 = .ok (.iconst (-1), 1) := by decide +kernel
theorem dX6_taken_66 : decode cX6_taken 66 = .ok (.ireturn, 1) := by decide +kernel
theorem dX6_isLetter_0 : decode cX6_isLetter 0 = .ok (.iload_n 0, 1) := by decide +kernel
theorem dX6_isLetter_1 : decode cX6_isLetter 1 = .ok (.bipush 97, 2) := by decide +kernel
theorem dX6_isLetter_3 : decode cX6_isLetter 3 = .ok (.if_icmp .lt 9, 3) := by decide +kernel
theorem dX6_isLetter_6 : decode cX6_isLetter 6 = .ok (.iload_n 0, 1) := by decide +kernel
theorem dX6_isLetter_7 : decode cX6_isLetter 7 = .ok (.bipush 122, 2) := by decide +kernel
theorem dX6_isLetter_9 : decode cX6_isLetter 9 = .ok (.if_icmp .le 15, 3) := by decide +kernel
theorem dX6_isLetter_12 : decode cX6_isLetter 12 = .ok (.iload_n 0, 1) := by decide +kernel
theorem dX6_isLetter_13 : decode cX6_isLetter 13 = .ok (.bipush 65, 2) := by decide +kernel
theorem dX6_isLetter_15 : decode cX6_isLetter 15 = .ok (.if_icmp .lt 13, 3) := by decide +kernel
theorem dX6_isLetter_18 : decode cX6_isLetter 18 = .ok (.iload_n 0, 1) := by decide +kernel
theorem dX6_isLetter_19 : decode cX6_isLetter 19 = .ok (.bipush 90, 2) := by decide +kernel
theorem dX6_isLetter_21 : decode cX6_isLetter 21 = .ok (.if_icmp .gt 7, 3) := by decide +kernel
theorem dX6_isLetter_24 : decode cX6_isLetter 24 = .ok (.iconst 1, 1) := by decide +kernel
theorem dX6_isLetter_25 : decode cX6_isLetter 25 = .ok (.goto 4, 3) := by decide +kernel
theorem dX6_isLetter_28 : decode cX6_isLetter 28 = .ok (.iconst 0, 1) := by decide +kernel
theorem dX6_isLetter_29 : decode cX6_isLetter 29 = .ok (.ireturn, 1) := by decide +kernel
set_option maxRecDepth 20000 in
theorem ggX6_learn_X6_isLetter : GoodIn wsX6_learn wsX6_isLetter := goodIn_r _ [9] (by decide +kernel) (by decide +kernel)
set_option maxRecDepth 20000 in
theorem gX6_learn_X6_isLetter : GoodIn wsX6_learn (va_wsS RX6 73 yX6_isLetter wsX6_isLetter) := goodIn_app (goodIn_of _ (by decide +kernel)) ggX6_learn_X6_isLetter
set_option maxRecDepth 20000 in
theorem ggX6_learn_X6_find : GoodIn wsX6_learn wsX6_find := goodIn_r _ [13, 14, 15, 16, 17, 8, 18, 19, 3, 20, 21, 22, 23, 33, 34, 35, 36, 37, 38, 39, 40, 41, 42, 43, 44, 45, 46, 47] (by decide +kernel) (by decide +kernel)
set_option maxRecDepth 20000 in
theorem gX6_learn_X6_find : GoodIn wsX6_learn (wsV RX6 76 RX6 yX6_find wsX6_find) := goodIn_app (goodIn_of _ (by decide +kernel)) ggX6_learn_X6_find
set_option maxRecDepth 20000 in
theorem ggX6_learn_X6_add : GoodIn wsX6_learn wsX6_add := goodIn_r _ [27, 14, 28, 20, 3, 19, 4, 15, 16, 17, 8, 18, 21, 22, 23, 29, 30, 31, 32, 33, 34, 35, 36, 37, 38, 39, 40, 41, 42, 43, 44, 45, 46, 47] (by decide +kernel) (by decide +kernel)
set_option maxRecDepth 20000 in
theorem gX6_learn_X6_add : GoodIn wsX6_learn (wsV RX6 82 RX6 yX6_add wsX6_add) := goodIn_app (goodIn_of _ (by decide +kernel)) ggX6_learn_X6_add
theorem dX6_learn_0 : decode cX6_learn 0 = .ok (.iload_n 1, 1) := by decide +kernel
theorem dX6_learn_1 : decode cX6_learn 1 = .ok (.ifCond .lt 9, 3) := by decide +kernel
theorem dX6_learn_4 : decode cX6_learn 4 = .ok (.iload_n 1, 1) := by decide +kernel
theorem dX6_learn_5 : decode cX6_learn 5 = .ok (.ldc 72, 2) := by decide +kernel
theorem dX6_learn_7 : decode cX6_learn 7 = .ok (.if_icmp .le 5, 3) := by decide +kernel
theorem dX6_learn_10 : decode cX6_learn 10 = .ok (.iconst (-1), 1) := by decide +kernel
theorem dX6_learn_11 : decode cX6_learn 11 = .ok (.ireturn, 1) := by decide +kernel
theorem dX6_learn_12 : decode cX6_learn 12 = .ok (.iconst 0, 1) := by decide +kernel
theorem dX6_learn_13 : decode cX6_learn 13 = .ok (.istore_n 2, 1) := by decide +kernel
theorem dX6_learn_14 : decode cX6_learn 14 = .ok (.iconst 0, 1) := by decide +kernel
theorem dX6_learn_15 : decode cX6_learn 15 = .ok (.istore_n 3, 1) := by decide +kernel
theorem dX6_learn_16 : decode cX6_learn 16 = .ok (.iload_n 3, 1) := by decide +kernel
theorem dX6_learn_17 : decode cX6_learn 17 = .ok (.aload_n 0, 1) := by decide +kernel
theorem dX6_learn_18 : decode cX6_learn 18 = .ok (.getfield 50, 3) := by decide +kernel
theorem dX6_learn_21 : decode cX6_learn 21 = .ok (.if_icmp .ge 145, 3) := by decide +kernel
theorem dX6_learn_24 : decode cX6_learn 24 = .ok (.iload_n 3, 1) := by decide +kernel
theorem dX6_learn_25 : decode cX6_learn 25 = .ok (.istore 4, 2) := by decide +kernel
theorem dX6_learn_27 : decode cX6_learn 27 = .ok (.iload_n 3, 1) := by decide +kernel
theorem dX6_learn_28 : decode cX6_learn 28 = .ok (.aload_n 0, 1) := by decide +kernel
theorem dX6_learn_29 : decode cX6_learn 29 = .ok (.getfield 50, 3) := by decide +kernel
theorem dX6_learn_32 : decode cX6_learn 32 = .ok (.if_icmp .ge 21, 3) := by decide +kernel
theorem dX6_learn_35 : decode cX6_learn 35 = .ok (.aload_n 0, 1) := by decide +kernel
theorem dX6_learn_36 : decode cX6_learn 36 = .ok (.getfield 7, 3) := by decide +kernel
theorem dX6_learn_39 : decode cX6_learn 39 = .ok (.iload_n 3, 1) := by decide +kernel
theorem dX6_learn_40 : decode cX6_learn 40 = .ok (.baload, 1) := by decide +kernel
theorem dX6_learn_41 : decode cX6_learn 41 = .ok (.invokestatic 73, 3) := by decide +kernel
theorem dX6_learn_44 : decode cX6_learn 44 = .ok (.ifCond .eq 9, 3) := by decide +kernel
theorem dX6_learn_47 : decode cX6_learn 47 = .ok (.iinc 3 1, 3) := by decide +kernel
theorem dX6_learn_50 : decode cX6_learn 50 = .ok (.goto (-23), 3) := by decide +kernel
theorem dX6_learn_53 : decode cX6_learn 53 = .ok (.iload_n 3, 1) := by decide +kernel
theorem dX6_learn_54 : decode cX6_learn 54 = .ok (.iload 4, 2) := by decide +kernel
theorem dX6_learn_56 : decode cX6_learn 56 = .ok (.isub, 1) := by decide +kernel
theorem dX6_learn_57 : decode cX6_learn 57 = .ok (.bipush 24, 2) := by decide +kernel
theorem dX6_learn_59 : decode cX6_learn 59 = .ok (.if_icmp .le 8, 3) := by decide +kernel
theorem dX6_learn_62 : decode cX6_learn 62 = .ok (.bipush 24, 2) := by decide +kernel
theorem dX6_learn_64 : decode cX6_learn 64 = .ok (.goto 7, 3) := by decide +kernel
theorem dX6_learn_67 : decode cX6_learn 67 = .ok (.iload_n 3, 1) := by decide +kernel
theorem dX6_learn_68 : decode cX6_learn 68 = .ok (.iload 4, 2) := by decide +kernel
theorem dX6_learn_70 : decode cX6_learn 70 = .ok (.isub, 1) := by decide +kernel
theorem dX6_learn_71 : decode cX6_learn 71 = .ok (.istore 5, 2) := by decide +kernel
theorem dX6_learn_73 : decode cX6_learn 73 = .ok (.iload 5, 2) := by decide +kernel
theorem dX6_learn_75 : decode cX6_learn 75 = .ok (.ifCond .le 85, 3) := by decide +kernel
theorem dX6_learn_78 : decode cX6_learn 78 = .ok (.aload_n 0, 1) := by decide +kernel
theorem dX6_learn_79 : decode cX6_learn 79 = .ok (.iload 4, 2) := by decide +kernel
theorem dX6_learn_81 : decode cX6_learn 81 = .ok (.iload 5, 2) := by decide +kernel
theorem dX6_learn_83 : decode cX6_learn 83 = .ok (.invokevirtual 76, 3) := by decide +kernel
theorem dX6_learn_86 : decode cX6_learn 86 = .ok (.istore 6, 2) := by decide +kernel
theorem dX6_learn_88 : decode cX6_learn 88 = .ok (.iload 6, 2) := by decide +kernel
theorem dX6_learn_90 : decode cX6_learn 90 = .ok (.ifCond .lt 49, 3) := by decide +kernel
theorem dX6_learn_93 : decode cX6_learn 93 = .ok (.aload_n 0, 1) := by decide +kernel
theorem dX6_learn_94 : decode cX6_learn 94 = .ok (.getfield 20, 3) := by decide +kernel
theorem dX6_learn_97 : decode cX6_learn 97 = .ok (.iload 6, 2) := by decide +kernel
theorem dX6_learn_99 : decode cX6_learn 99 = .ok (.aload_n 0, 1) := by decide +kernel
theorem dX6_learn_100 : decode cX6_learn 100 = .ok (.getfield 20, 3) := by decide +kernel
theorem dX6_learn_103 : decode cX6_learn 103 = .ok (.iload 6, 2) := by decide +kernel
theorem dX6_learn_105 : decode cX6_learn 105 = .ok (.laload, 1) := by decide +kernel
theorem dX6_learn_106 : decode cX6_learn 106 = .ok (.iload_n 1, 1) := by decide +kernel
theorem dX6_learn_107 : decode cX6_learn 107 = .ok (.i2l, 1) := by decide +kernel
theorem dX6_learn_108 : decode cX6_learn 108 = .ok (.ladd, 1) := by decide +kernel
theorem dX6_learn_109 : decode cX6_learn 109 = .ok (.ldc2_w 80, 3) := by decide +kernel
theorem dX6_learn_112 : decode cX6_learn 112 = .ok (.lcmp, 1) := by decide +kernel
theorem dX6_learn_113 : decode cX6_learn 113 = .ok (.ifCond .le 9, 3) := by decide +kernel
theorem dX6_learn_116 : decode cX6_learn 116 = .ok (.ldc2_w 80, 3) := by decide +kernel
theorem dX6_learn_119 : decode cX6_learn 119 = .ok (.goto 13, 3) := by decide +kernel
theorem dX6_learn_122 : decode cX6_learn 122 = .ok (.aload_n 0, 1) := by decide +kernel
theorem dX6_learn_123 : decode cX6_learn 123 = .ok (.getfield 20, 3) := by decide +kernel
theorem dX6_learn_126 : decode cX6_learn 126 = .ok (.iload 6, 2) := by decide +kernel
theorem dX6_learn_128 : decode cX6_learn 128 = .ok (.laload, 1) := by decide +kernel
theorem dX6_learn_129 : decode cX6_learn 129 = .ok (.iload_n 1, 1) := by decide +kernel
theorem dX6_learn_130 : decode cX6_learn 130 = .ok (.i2l, 1) := by decide +kernel
theorem dX6_learn_131 : decode cX6_learn 131 = .ok (.ladd, 1) := by decide +kernel
theorem dX6_learn_132 : decode cX6_learn 132 = .ok (.lastore, 1) := by decide +kernel
theorem dX6_learn_133 : decode cX6_learn 133 = .ok (.iinc 2 1, 3) := by decide +kernel
theorem dX6_learn_136 : decode cX6_learn 136 = .ok (.goto 24, 3) := by decide +kernel
theorem dX6_learn_139 : decode cX6_learn 139 = .ok (.iload_n 2, 1) := by decide +kernel
theorem dX6_learn_140 : decode cX6_learn 140 = .ok (.aload_n 0, 1) := by decide +kernel
theorem dX6_learn_141 : decode cX6_learn 141 = .ok (.iload 4, 2) := by decide +kernel
theorem dX6_learn_143 : decode cX6_learn 143 = .ok (.iload 5, 2) := by decide +kernel
theorem dX6_learn_145 : decode cX6_learn 145 = .ok (.iload_n 1, 1) := by decide +kernel
theorem dX6_learn_146 : decode cX6_learn 146 = .ok (.i2l, 1) := by decide +kernel
theorem dX6_learn_147 : decode cX6_learn 147 = .ok (.invokevirtual 82, 3) := by decide +kernel
theorem dX6_learn_150 : decode cX6_learn 150 = .ok (.ifCond .lt 7, 3) := by decide +kernel
theorem dX6_learn_153 : decode cX6_learn 153 = .ok (.iconst 1, 1) := by decide +kernel
theorem dX6_learn_154 : decode cX6_learn 154 = .ok (.goto 4, 3) := by decide +kernel
theorem dX6_learn_157 : decode cX6_learn 157 = .ok (.iconst 0, 1) := by decide +kernel
theorem dX6_learn_158 : decode cX6_learn 158 = .ok (.iadd, 1) := by decide +kernel
theorem dX6_learn_159 : decode cX6_learn 159 = .ok (.istore_n 2, 1) := by decide +kernel
theorem dX6_learn_160 : decode cX6_learn 160 = .ok (.iinc 3 1, 3) := by decide +kernel
theorem dX6_learn_163 : decode cX6_learn 163 = .ok (.goto (-147), 3) := by decide +kernel
theorem dX6_learn_166 : decode cX6_learn 166 = .ok (.aload_n 0, 1) := by decide +kernel
theorem dX6_learn_167 : decode cX6_learn 167 = .ok (.iconst 0, 1) := by decide +kernel
theorem dX6_learn_168 : decode cX6_learn 168 = .ok (.putfield 50, 3) := by decide +kernel
theorem dX6_learn_171 : decode cX6_learn 171 = .ok (.iload_n 2, 1) := by decide +kernel
theorem dX6_learn_172 : decode cX6_learn 172 = .ok (.ireturn, 1) := by decide +kernel
set_option maxRecDepth 20000 in
theorem ggX6_set_X6_taken : GoodIn wsX6_set wsX6_taken := goodIn_r _ [7, 8, 9, 10, 11, 6, 12, 36, 37, 38, 39, 40, 41, 42, 43, 44, 45, 46, 47, 48, 49, 50] (by decide +kernel) (by decide +kernel)
set_option maxRecDepth 20000 in
theorem gX6_set_X6_taken : GoodIn wsX6_set (wsV RX6 86 RX6 yX6_taken wsX6_taken) := goodIn_app (goodIn_of _ (by decide +kernel)) ggX6_set_X6_taken
set_option maxRecDepth 20000 in
theorem ggX6_set_X6_find : GoodIn wsX6_set wsX6_find := goodIn_r _ [16, 17, 18, 19, 20, 6, 21, 22, 9, 23, 24, 25, 26, 36, 37, 38, 39, 40, 41, 42, 43, 44, 45, 46, 47, 48, 49, 50] (by decide +kernel) (by decide +kernel)
set_option maxRecDepth 20000 in
theorem gX6_set_X6_find : GoodIn wsX6_set (wsV RX6 76 RX6 yX6_find wsX6_find) := goodIn_app (goodIn_of _ (by decide +kernel)) ggX6_set_X6_find
set_option maxRecDepth 20000 in
theorem ggX6_set_X6_add : GoodIn wsX6_set wsX6_add := goodIn_r _ [30, 17, 31, 23, 9, 22, 2, 18, 19, 20, 6, 21, 24, 25, 26, 32, 33, 34, 35, 36, 37, 38, 39, 40, 41, 42, 43, 44, 45, 46, 47, 48, 49, 50] (by decide +kernel) (by decide +kernel)
set_option maxRecDepth 20000 in
theorem gX6_set_X6_add : GoodIn wsX6_set (wsV RX6 82 RX6 yX6_add wsX6_add) := goodIn_app (goodIn_of _ (by decide +kernel)) ggX6_set_X6_add
theorem dX6_set_0 : decode cX6_set 0 = .ok (.aload_n 0, 1) := by decide +kernel
theorem dX6_set_1 : decode cX6_set 1 = .ok (.iconst 1, 1) := by decide +kernel
theorem dX6_set_2 : decode cX6_set 2 = .ok (.invokevirtual 86, 3) := by decide +kernel
theorem dX6_set_5 : decode cX6_set 5 = .ok (.istore_n 3, 1) := by decide +kernel
theorem dX6_set_6 : decode cX6_set 6 = .ok (.iload_n 3, 1) := by decide +kernel
theorem dX6_set_7 : decode cX6_set 7 = .ok (.iconst (-1), 1) := by decide +kernel
theorem dX6_set_8 : decode cX6_set 8 = .ok (.if_icmp .eq 17, 3) := by decide +kernel
theorem dX6_set_11 : decode cX6_set 11 = .ok (.lload_n 1, 1) := by decide +kernel
theorem dX6_set_12 : decode cX6_set 12 = .ok (.lconst 0, 1) := by decide +kernel
theorem dX6_set_13 : decode cX6_set 13 = .ok (.lcmp, 1) := by decide +kernel
theorem dX6_set_14 : decode cX6_set 14 = .ok (.ifCond .lt 11, 3) := by decide +kernel
theorem dX6_set_17 : decode cX6_set 17 = .ok (.lload_n 1, 1) := by decide +kernel
theorem dX6_set_18 : decode cX6_set 18 = .ok (.ldc2_w 80, 3) := by decide +kernel
theorem dX6_set_21 : decode cX6_set 21 = .ok (.lcmp, 1) := by decide +kernel
theorem dX6_set_22 : decode cX6_set 22 = .ok (.ifCond .le 5, 3) := by decide +kernel
theorem dX6_set_25 : decode cX6_set 25 = .ok (.iconst (-1), 1) := by decide +kernel
theorem dX6_set_26 : decode cX6_set 26 = .ok (.ireturn, 1) := by decide +kernel
theorem dX6_set_27 : decode cX6_set 27 = .ok (.aload_n 0, 1) := by decide +kernel
theorem dX6_set_28 : decode cX6_set 28 = .ok (.iconst 0, 1) := by decide +kernel
theorem dX6_set_29 : decode cX6_set 29 = .ok (.iload_n 3, 1) := by decide +kernel
theorem dX6_set_30 : decode cX6_set 30 = .ok (.invokevirtual 76, 3) := by decide +kernel
theorem dX6_set_33 : decode cX6_set 33 = .ok (.istore 4, 2) := by decide +kernel
theorem dX6_set_35 : decode cX6_set 35 = .ok (.iload 4, 2) := by decide +kernel
theorem dX6_set_37 : decode cX6_set 37 = .ok (.ifCond .lt 13, 3) := by decide +kernel
theorem dX6_set_40 : decode cX6_set 40 = .ok (.aload_n 0, 1) := by decide +kernel
theorem dX6_set_41 : decode cX6_set 41 = .ok (.getfield 20, 3) := by decide +kernel
theorem dX6_set_44 : decode cX6_set 44 = .ok (.iload 4, 2) := by decide +kernel
theorem dX6_set_46 : decode cX6_set 46 = .ok (.lload_n 1, 1) := by decide +kernel
theorem dX6_set_47 : decode cX6_set 47 = .ok (.lastore, 1) := by decide +kernel
theorem dX6_set_48 : decode cX6_set 48 = .ok (.iconst 0, 1) := by decide +kernel
theorem dX6_set_49 : decode cX6_set 49 = .ok (.ireturn, 1) := by decide +kernel
theorem dX6_set_50 : decode cX6_set 50 = .ok (.aload_n 0, 1) := by decide +kernel
theorem dX6_set_51 : decode cX6_set 51 = .ok (.iconst 0, 1) := by decide +kernel
theorem dX6_set_52 : decode cX6_set 52 = .ok (.iload_n 3, 1) := by decide +kernel
theorem dX6_set_53 : decode cX6_set 53 = .ok (.lload_n 1, 1) := by decide +kernel
theorem dX6_set_54 : decode cX6_set 54 = .ok (.invokevirtual 82, 3) := by decide +kernel
theorem dX6_set_57 : decode cX6_set 57 = .ok (.ifCond .lt 7, 3) := by decide +kernel
theorem dX6_set_60 : decode cX6_set 60 = .ok (.iconst 1, 1) := by decide +kernel
theorem dX6_set_61 : decode cX6_set 61 = .ok (.goto 5, 3) := by decide +kernel
theorem dX6_set_64 : decode cX6_set 64 = .ok (.bipush (-2), 2) := by decide +kernel
theorem dX6_set_66 : decode cX6_set 66 = .ok (.ireturn, 1) := by decide +kernel
set_option maxRecDepth 20000 in
theorem ggX6_drop_X6_taken : GoodIn wsX6_drop wsX6_taken := goodIn_r _ [9, 10, 11, 12, 13, 8, 14, 32, 33, 34, 35, 36, 37, 38, 39, 40, 41, 42, 43, 44, 45, 46] (by decide +kernel) (by decide +kernel)
set_option maxRecDepth 20000 in
theorem gX6_drop_X6_taken : GoodIn wsX6_drop (wsV RX6 86 RX6 yX6_taken wsX6_taken) := goodIn_app (goodIn_of _ (by decide +kernel)) ggX6_drop_X6_taken
set_option maxRecDepth 20000 in
theorem ggX6_drop_X6_find : GoodIn wsX6_drop wsX6_find := goodIn_r _ [18, 4, 19, 20, 21, 8, 22, 23, 11, 24, 25, 26, 27, 32, 33, 34, 35, 36, 37, 38, 39, 40, 41, 42, 43, 44, 45, 46] (by decide +kernel) (by decide +kernel)
set_option maxRecDepth 20000 in
theorem gX6_drop_X6_find : GoodIn wsX6_drop (wsV RX6 76 RX6 yX6_find wsX6_find) := goodIn_app (goodIn_of _ (by decide +kernel)) ggX6_drop_X6_find
set_option maxRecDepth 20000 in
theorem ggX6_drop_X6_move : GoodIn wsX6_drop wsX6_move := goodIn_r _ [31, 24, 23, 2, 32, 33, 34, 35, 36, 37, 38, 39, 40, 41, 42, 43, 44, 45, 46] (by decide +kernel) (by decide +kernel)
set_option maxRecDepth 20000 in
theorem gX6_drop_X6_move : GoodIn wsX6_drop (wsV RX6 64 RX6 yX6_move wsX6_move) := goodIn_app (goodIn_of _ (by decide +kernel)) ggX6_drop_X6_move
theorem dX6_drop_0 : decode cX6_drop 0 = .ok (.aload_n 0, 1) := by decide +kernel
theorem dX6_drop_1 : decode cX6_drop 1 = .ok (.iconst 1, 1) := by decide +kernel
theorem dX6_drop_2 : decode cX6_drop 2 = .ok (.invokevirtual 86, 3) := by decide +kernel
theorem dX6_drop_5 : decode cX6_drop 5 = .ok (.istore_n 1, 1) := by decide +kernel
theorem dX6_drop_6 : decode cX6_drop 6 = .ok (.iload_n 1, 1) := by decide +kernel
theorem dX6_drop_7 : decode cX6_drop 7 = .ok (.iconst (-1), 1) := by decide +kernel
theorem dX6_drop_8 : decode cX6_drop 8 = .ok (.if_icmp .ne 7, 3) := by decide +kernel
theorem dX6_drop_11 : decode cX6_drop 11 = .ok (.iconst (-1), 1) := by decide +kernel
theorem dX6_drop_12 : decode cX6_drop 12 = .ok (.goto 9, 3) := by decide +kernel
theorem dX6_drop_15 : decode cX6_drop 15 = .ok (.aload_n 0, 1) := by decide +kernel
theorem dX6_drop_16 : decode cX6_drop 16 = .ok (.iconst 0, 1) := by decide +kernel
theorem dX6_drop_17 : decode cX6_drop 17 = .ok (.iload_n 1, 1) := by decide +kernel
theorem dX6_drop_18 : decode cX6_drop 18 = .ok (.invokevirtual 76, 3) := by decide +kernel
theorem dX6_drop_21 : decode cX6_drop 21 = .ok (.istore_n 2, 1) := by decide +kernel
theorem dX6_drop_22 : decode cX6_drop 22 = .ok (.iload_n 2, 1) := by decide +kernel
theorem dX6_drop_23 : decode cX6_drop 23 = .ok (.iconst (-1), 1) := by decide +kernel
theorem dX6_drop_24 : decode cX6_drop 24 = .ok (.if_icmp .ne 7, 3) := by decide +kernel
theorem dX6_drop_27 : decode cX6_drop 27 = .ok (.ldc2_w 89, 3) := by decide +kernel
theorem dX6_drop_30 : decode cX6_drop 30 = .ok (.lreturn, 1) := by decide +kernel
theorem dX6_drop_31 : decode cX6_drop 31 = .ok (.aload_n 0, 1) := by decide +kernel
theorem dX6_drop_32 : decode cX6_drop 32 = .ok (.getfield 20, 3) := by decide +kernel
theorem dX6_drop_35 : decode cX6_drop 35 = .ok (.iload_n 2, 1) := by decide +kernel
theorem dX6_drop_36 : decode cX6_drop 36 = .ok (.laload, 1) := by decide +kernel
theorem dX6_drop_37 : decode cX6_drop 37 = .ok (.lstore_n 3, 1) := by decide +kernel
theorem dX6_drop_38 : decode cX6_drop 38 = .ok (.aload_n 0, 1) := by decide +kernel
theorem dX6_drop_39 : decode cX6_drop 39 = .ok (.dup, 1) := by decide +kernel
theorem dX6_drop_40 : decode cX6_drop 40 = .ok (.getfield 61, 3) := by decide +kernel
theorem dX6_drop_43 : decode cX6_drop 43 = .ok (.iload_n 1, 1) := by decide +kernel
theorem dX6_drop_44 : decode cX6_drop 44 = .ok (.isub, 1) := by decide +kernel
theorem dX6_drop_45 : decode cX6_drop 45 = .ok (.putfield 61, 3) := by decide +kernel
theorem dX6_drop_48 : decode cX6_drop 48 = .ok (.aload_n 0, 1) := by decide +kernel
theorem dX6_drop_49 : decode cX6_drop 49 = .ok (.dup, 1) := by decide +kernel
theorem dX6_drop_50 : decode cX6_drop 50 = .ok (.getfield 46, 3) := by decide +kernel
theorem dX6_drop_53 : decode cX6_drop 53 = .ok (.iconst 1, 1) := by decide +kernel
theorem dX6_drop_54 : decode cX6_drop 54 = .ok (.isub, 1) := by decide +kernel
theorem dX6_drop_55 : decode cX6_drop 55 = .ok (.putfield 46, 3) := by decide +kernel
theorem dX6_drop_58 : decode cX6_drop 58 = .ok (.iload_n 2, 1) := by decide +kernel
theorem dX6_drop_59 : decode cX6_drop 59 = .ok (.istore 5, 2) := by decide +kernel
theorem dX6_drop_61 : decode cX6_drop 61 = .ok (.iload 5, 2) := by decide +kernel
theorem dX6_drop_63 : decode cX6_drop 63 = .ok (.aload_n 0, 1) := by decide +kernel
theorem dX6_drop_64 : decode cX6_drop 64 = .ok (.getfield 46, 3) := by decide +kernel
theorem dX6_drop_67 : decode cX6_drop 67 = .ok (.if_icmp .ge 19, 3) := by decide +kernel
theorem dX6_drop_70 : decode cX6_drop 70 = .ok (.aload_n 0, 1) := by decide +kernel
theorem dX6_drop_71 : decode cX6_drop 71 = .ok (.iload 5, 2) := by decide +kernel
theorem dX6_drop_73 : decode cX6_drop 73 = .ok (.iconst 1, 1) := by decide +kernel
theorem dX6_drop_74 : decode cX6_drop 74 = .ok (.iadd, 1) := by decide +kernel
theorem dX6_drop_75 : decode cX6_drop 75 = .ok (.iload 5, 2) := by decide +kernel
theorem dX6_drop_77 : decode cX6_drop 77 = .ok (.invokevirtual 64, 3) := by decide +kernel
theorem dX6_drop_80 : decode cX6_drop 80 = .ok (.iinc 5 1, 3) := by decide +kernel
theorem dX6_drop_83 : decode cX6_drop 83 = .ok (.goto (-22), 3) := by decide +kernel
theorem dX6_drop_86 : decode cX6_drop 86 = .ok (.lload_n 3, 1) := by decide +kernel
theorem dX6_drop_87 : decode cX6_drop 87 = .ok (.lreturn, 1) := by decide +kernel
set_option maxRecDepth 20000 in
theorem ggX6_weight_X6_taken : GoodIn wsX6_weight wsX6_taken := goodIn_r _ [7, 8, 9, 10, 11, 6, 12, 27, 28, 29, 30, 31, 32, 33, 34, 35, 36, 37, 38, 39, 40, 41] (by decide +kernel) (by decide +kernel)
set_option maxRecDepth 20000 in
theorem gX6_weight_X6_taken : GoodIn wsX6_weight (wsV RX6 86 RX6 yX6_taken wsX6_taken) := goodIn_app (goodIn_of _ (by decide +kernel)) ggX6_weight_X6_taken
set_option maxRecDepth 20000 in
theorem ggX6_weight_X6_find : GoodIn wsX6_weight wsX6_find := goodIn_r _ [16, 17, 18, 19, 20, 6, 21, 22, 9, 23, 24, 25, 26, 27, 28, 29, 30, 31, 32, 33, 34, 35, 36, 37, 38, 39, 40, 41] (by decide +kernel) (by decide +kernel)
set_option maxRecDepth 20000 in
theorem gX6_weight_X6_find : GoodIn wsX6_weight (wsV RX6 76 RX6 yX6_find wsX6_find) := goodIn_app (goodIn_of _ (by decide +kernel)) ggX6_weight_X6_find
theorem dX6_weight_0 : decode cX6_weight 0 = .ok (.aload_n 0, 1) := by decide +kernel
theorem dX6_weight_1 : decode cX6_weight 1 = .ok (.iconst 1, 1) := by decide +kernel
theorem dX6_weight_2 : decode cX6_weight 2 = .ok (.invokevirtual 86, 3) := by decide +kernel
theorem dX6_weight_5 : decode cX6_weight 5 = .ok (.istore_n 1, 1) := by decide +kernel
theorem dX6_weight_6 : decode cX6_weight 6 = .ok (.iload_n 1, 1) := by decide +kernel
theorem dX6_weight_7 : decode cX6_weight 7 = .ok (.iconst (-1), 1) := by decide +kernel
theorem dX6_weight_8 : decode cX6_weight 8 = .ok (.if_icmp .ne 7, 3) := by decide +kernel
theorem dX6_weight_11 : decode cX6_weight 11 = .ok (.iconst (-1), 1) := by decide +kernel
theorem dX6_weight_12 : decode cX6_weight 12 = .ok (.goto 9, 3) := by decide +kernel
theorem dX6_weight_15 : decode cX6_weight 15 = .ok (.aload_n 0, 1) := by decide +kernel
theorem dX6_weight_16 : decode cX6_weight 16 = .ok (.iconst 0, 1) := by decide +kernel
theorem dX6_weight_17 : decode cX6_weight 17 = .ok (.iload_n 1, 1) := by decide +kernel
theorem dX6_weight_18 : decode cX6_weight 18 = .ok (.invokevirtual 76, 3) := by decide +kernel
theorem dX6_weight_21 : decode cX6_weight 21 = .ok (.istore_n 2, 1) := by decide +kernel
theorem dX6_weight_22 : decode cX6_weight 22 = .ok (.iload_n 2, 1) := by decide +kernel
theorem dX6_weight_23 : decode cX6_weight 23 = .ok (.iconst (-1), 1) := by decide +kernel
theorem dX6_weight_24 : decode cX6_weight 24 = .ok (.if_icmp .ne 9, 3) := by decide +kernel
theorem dX6_weight_27 : decode cX6_weight 27 = .ok (.ldc2_w 89, 3) := by decide +kernel
theorem dX6_weight_30 : decode cX6_weight 30 = .ok (.goto 9, 3) := by decide +kernel
theorem dX6_weight_33 : decode cX6_weight 33 = .ok (.aload_n 0, 1) := by decide +kernel
theorem dX6_weight_34 : decode cX6_weight 34 = .ok (.getfield 20, 3) := by decide +kernel
theorem dX6_weight_37 : decode cX6_weight 37 = .ok (.iload_n 2, 1) := by decide +kernel
theorem dX6_weight_38 : decode cX6_weight 38 = .ok (.laload, 1) := by decide +kernel
theorem dX6_weight_39 : decode cX6_weight 39 = .ok (.lreturn, 1) := by decide +kernel
theorem dX6_nearnessOf_0 : decode cX6_nearnessOf 0 = .ok (.iconst 0, 1) := by decide +kernel
theorem dX6_nearnessOf_1 : decode cX6_nearnessOf 1 = .ok (.istore_n 3, 1) := by decide +kernel
theorem dX6_nearnessOf_2 : decode cX6_nearnessOf 2 = .ok (.iload_n 3, 1) := by decide +kernel
theorem dX6_nearnessOf_3 : decode cX6_nearnessOf 3 = .ok (.iload_n 2, 1) := by decide +kernel
theorem dX6_nearnessOf_4 : decode cX6_nearnessOf 4 = .ok (.if_icmp .gt 16, 3) := by decide +kernel
theorem dX6_nearnessOf_7 : decode cX6_nearnessOf 7 = .ok (.aload_n 0, 1) := by decide +kernel
theorem dX6_nearnessOf_8 : decode cX6_nearnessOf 8 = .ok (.getfield 43, 3) := by decide +kernel
theorem dX6_nearnessOf_11 : decode cX6_nearnessOf 11 = .ok (.iload_n 3, 1) := by decide +kernel
theorem dX6_nearnessOf_12 : decode cX6_nearnessOf 12 = .ok (.iload_n 3, 1) := by decide +kernel
theorem dX6_nearnessOf_13 : decode cX6_nearnessOf 13 = .ok (.iastore, 1) := by decide +kernel
theorem dX6_nearnessOf_14 : decode cX6_nearnessOf 14 = .ok (.iinc 3 1, 3) := by decide +kernel
theorem dX6_nearnessOf_17 : decode cX6_nearnessOf 17 = .ok (.goto (-15), 3) := by decide +kernel
theorem dX6_nearnessOf_20 : decode cX6_nearnessOf 20 = .ok (.aload_n 0, 1) := by decide +kernel
theorem dX6_nearnessOf_21 : decode cX6_nearnessOf 21 = .ok (.getfield 43, 3) := by decide +kernel
theorem dX6_nearnessOf_24 : decode cX6_nearnessOf 24 = .ok (.iload_n 2, 1) := by decide +kernel
theorem dX6_nearnessOf_25 : decode cX6_nearnessOf 25 = .ok (.iaload, 1) := by decide +kernel
theorem dX6_nearnessOf_26 : decode cX6_nearnessOf 26 = .ok (.istore_n 3, 1) := by decide +kernel
theorem dX6_nearnessOf_27 : decode cX6_nearnessOf 27 = .ok (.iconst 1, 1) := by decide +kernel
theorem dX6_nearnessOf_28 : decode cX6_nearnessOf 28 = .ok (.istore 4, 2) := by decide +kernel
theorem dX6_nearnessOf_30 : decode cX6_nearnessOf 30 = .ok (.iload 4, 2) := by decide +kernel
theorem dX6_nearnessOf_32 : decode cX6_nearnessOf 32 = .ok (.aload_n 0, 1) := by decide +kernel
theorem dX6_nearnessOf_33 : decode cX6_nearnessOf 33 = .ok (.getfield 16, 3) := by decide +kernel
theorem dX6_nearnessOf_36 : decode cX6_nearnessOf 36 = .ok (.iload_n 1, 1) := by decide +kernel
theorem dX6_nearnessOf_37 : decode cX6_nearnessOf 37 = .ok (.iaload, 1) := by decide +kernel
theorem dX6_nearnessOf_38 : decode cX6_nearnessOf 38 = .ok (.if_icmp .gt 169, 3) := by decide +kernel
theorem dX6_nearnessOf_41 : decode cX6_nearnessOf 41 = .ok (.aload_n 0, 1) := by decide +kernel
theorem dX6_nearnessOf_42 : decode cX6_nearnessOf 42 = .ok (.getfield 43, 3) := by decide +kernel
theorem dX6_nearnessOf_45 : decode cX6_nearnessOf 45 = .ok (.iconst 0, 1) := by decide +kernel
theorem dX6_nearnessOf_46 : decode cX6_nearnessOf 46 = .ok (.iaload, 1) := by decide +kernel
theorem dX6_nearnessOf_47 : decode cX6_nearnessOf 47 = .ok (.istore 5, 2) := by decide +kernel
theorem dX6_nearnessOf_49 : decode cX6_nearnessOf 49 = .ok (.aload_n 0, 1) := by decide +kernel
theorem dX6_nearnessOf_50 : decode cX6_nearnessOf 50 = .ok (.getfield 43, 3) := by decide +kernel
theorem dX6_nearnessOf_53 : decode cX6_nearnessOf 53 = .ok (.iconst 0, 1) := by decide +kernel
theorem dX6_nearnessOf_54 : decode cX6_nearnessOf 54 = .ok (.iload 4, 2) := by decide +kernel
theorem dX6_nearnessOf_56 : decode cX6_nearnessOf 56 = .ok (.iastore, 1) := by decide +kernel
theorem dX6_nearnessOf_57 : decode cX6_nearnessOf 57 = .ok (.iconst 1, 1) := by decide +kernel
theorem dX6_nearnessOf_58 : decode cX6_nearnessOf 58 = .ok (.istore 6, 2) := by decide +kernel
theorem dX6_nearnessOf_60 : decode cX6_nearnessOf 60 = .ok (.iload 6, 2) := by decide +kernel
theorem dX6_nearnessOf_62 : decode cX6_nearnessOf 62 = .ok (.iload_n 2, 1) := by decide +kernel
theorem dX6_nearnessOf_63 : decode cX6_nearnessOf 63 = .ok (.if_icmp .gt 117, 3) := by decide +kernel
theorem dX6_nearnessOf_66 : decode cX6_nearnessOf 66 = .ok (.iload 5, 2) := by decide +kernel
theorem dX6_nearnessOf_68 : decode cX6_nearnessOf 68 = .ok (.aload_n 0, 1) := by decide +kernel
theorem dX6_nearnessOf_69 : decode cX6_nearnessOf 69 = .ok (.getfield 7, 3) := by decide +kernel
theorem dX6_nearnessOf_72 : decode cX6_nearnessOf 72 = .ok (.iload 6, 2) := by decide +kernel
theorem dX6_nearnessOf_74 : decode cX6_nearnessOf 74 = .ok (.iconst 1, 1) := by decide +kernel
theorem dX6_nearnessOf_75 : decode cX6_nearnessOf 75 = .ok (.isub, 1) := by decide +kernel
theorem dX6_nearnessOf_76 : decode cX6_nearnessOf 76 = .ok (.baload, 1) := by decide +kernel
theorem dX6_nearnessOf_77 : decode cX6_nearnessOf 77 = .ok (.aload_n 0, 1) := by decide +kernel
theorem dX6_nearnessOf_78 : decode cX6_nearnessOf 78 = .ok (.getfield 13, 3) := by decide +kernel
theorem dX6_nearnessOf_81 : decode cX6_nearnessOf 81 = .ok (.bipush 24, 2) := by decide +kernel
theorem dX6_nearnessOf_83 : decode cX6_nearnessOf 83 = .ok (.iload_n 1, 1) := by decide +kernel
theorem dX6_nearnessOf_84 : decode cX6_nearnessOf 84 = .ok (.imul, 1) := by decide +kernel
end
section
theorem dX6_nearnessOf_85 : decode cX6_nearnessOf 85 = .ok (.iload 4, 2) := by decide +kernel
theorem dX6_nearnessOf_87 : decode cX6_nearnessOf 87 = .ok (.iadd, 1) := by decide +kernel
theorem dX6_nearnessOf_88 : decode cX6_nearnessOf 88 = .ok (.iconst 1, 1) := by decide +kernel
theorem dX6_nearnessOf_89 : decode cX6_nearnessOf 89 = .ok (.isub, 1) := by decide +kernel
theorem dX6_nearnessOf_90 : decode cX6_nearnessOf 90 = .ok (.baload, 1) := by decide +kernel
theorem dX6_nearnessOf_91 : decode cX6_nearnessOf 91 = .ok (.if_icmp .ne 7, 3) := by decide +kernel
theorem dX6_nearnessOf_94 : decode cX6_nearnessOf 94 = .ok (.iconst 0, 1) := by decide +kernel
theorem dX6_nearnessOf_95 : decode cX6_nearnessOf 95 = .ok (.goto 4, 3) := by decide +kernel
theorem dX6_nearnessOf_98 : decode cX6_nearnessOf 98 = .ok (.iconst 1, 1) := by decide +kernel
theorem dX6_nearnessOf_99 : decode cX6_nearnessOf 99 = .ok (.iadd, 1) := by decide +kernel
theorem dX6_nearnessOf_100 : decode cX6_nearnessOf 100 = .ok (.istore 7, 2) := by decide +kernel
theorem dX6_nearnessOf_102 : decode cX6_nearnessOf 102 = .ok (.aload_n 0, 1) := by decide +kernel
theorem dX6_nearnessOf_103 : decode cX6_nearnessOf 103 = .ok (.getfield 43, 3) := by decide +kernel
theorem dX6_nearnessOf_106 : decode cX6_nearnessOf 106 = .ok (.iload 6, 2) := by decide +kernel
theorem dX6_nearnessOf_108 : decode cX6_nearnessOf 108 = .ok (.iaload, 1) := by decide +kernel
theorem dX6_nearnessOf_109 : decode cX6_nearnessOf 109 = .ok (.istore 5, 2) := by decide +kernel
theorem dX6_nearnessOf_111 : decode cX6_nearnessOf 111 = .ok (.aload_n 0, 1) := by decide +kernel
theorem dX6_nearnessOf_112 : decode cX6_nearnessOf 112 = .ok (.getfield 43, 3) := by decide +kernel
theorem dX6_nearnessOf_115 : decode cX6_nearnessOf 115 = .ok (.iload 6, 2) := by decide +kernel
theorem dX6_nearnessOf_117 : decode cX6_nearnessOf 117 = .ok (.iaload, 1) := by decide +kernel
theorem dX6_nearnessOf_118 : decode cX6_nearnessOf 118 = .ok (.aload_n 0, 1) := by decide +kernel
theorem dX6_nearnessOf_119 : decode cX6_nearnessOf 119 = .ok (.getfield 43, 3) := by decide +kernel
theorem dX6_nearnessOf_122 : decode cX6_nearnessOf 122 = .ok (.iload 6, 2) := by decide +kernel
theorem dX6_nearnessOf_124 : decode cX6_nearnessOf 124 = .ok (.iconst 1, 1) := by decide +kernel
theorem dX6_nearnessOf_125 : decode cX6_nearnessOf 125 = .ok (.isub, 1) := by decide +kernel
theorem dX6_nearnessOf_126 : decode cX6_nearnessOf 126 = .ok (.iaload, 1) := by decide +kernel
theorem dX6_nearnessOf_127 : decode cX6_nearnessOf 127 = .ok (.if_icmp .ge 13, 3) := by decide +kernel
theorem dX6_nearnessOf_130 : decode cX6_nearnessOf 130 = .ok (.aload_n 0, 1) := by decide +kernel
theorem dX6_nearnessOf_131 : decode cX6_nearnessOf 131 = .ok (.getfield 43, 3) := by decide +kernel
theorem dX6_nearnessOf_134 : decode cX6_nearnessOf 134 = .ok (.iload 6, 2) := by decide +kernel
theorem dX6_nearnessOf_136 : decode cX6_nearnessOf 136 = .ok (.iaload, 1) := by decide +kernel
theorem dX6_nearnessOf_137 : decode cX6_nearnessOf 137 = .ok (.goto 12, 3) := by decide +kernel
theorem dX6_nearnessOf_140 : decode cX6_nearnessOf 140 = .ok (.aload_n 0, 1) := by decide +kernel
theorem dX6_nearnessOf_141 : decode cX6_nearnessOf 141 = .ok (.getfield 43, 3) := by decide +kernel
theorem dX6_nearnessOf_144 : decode cX6_nearnessOf 144 = .ok (.iload 6, 2) := by decide +kernel
theorem dX6_nearnessOf_146 : decode cX6_nearnessOf 146 = .ok (.iconst 1, 1) := by decide +kernel
theorem dX6_nearnessOf_147 : decode cX6_nearnessOf 147 = .ok (.isub, 1) := by decide +kernel
theorem dX6_nearnessOf_148 : decode cX6_nearnessOf 148 = .ok (.iaload, 1) := by decide +kernel
theorem dX6_nearnessOf_149 : decode cX6_nearnessOf 149 = .ok (.iconst 1, 1) := by decide +kernel
theorem dX6_nearnessOf_150 : decode cX6_nearnessOf 150 = .ok (.iadd, 1) := by decide +kernel
theorem dX6_nearnessOf_151 : decode cX6_nearnessOf 151 = .ok (.istore 8, 2) := by decide +kernel
theorem dX6_nearnessOf_153 : decode cX6_nearnessOf 153 = .ok (.aload_n 0, 1) := by decide +kernel
theorem dX6_nearnessOf_154 : decode cX6_nearnessOf 154 = .ok (.getfield 43, 3) := by decide +kernel
theorem dX6_nearnessOf_157 : decode cX6_nearnessOf 157 = .ok (.iload 6, 2) := by decide +kernel
theorem dX6_nearnessOf_159 : decode cX6_nearnessOf 159 = .ok (.iload 7, 2) := by decide +kernel
theorem dX6_nearnessOf_161 : decode cX6_nearnessOf 161 = .ok (.iload 8, 2) := by decide +kernel
theorem dX6_nearnessOf_163 : decode cX6_nearnessOf 163 = .ok (.if_icmp .ge 8, 3) := by decide +kernel
theorem dX6_nearnessOf_166 : decode cX6_nearnessOf 166 = .ok (.iload 7, 2) := by decide +kernel
theorem dX6_nearnessOf_168 : decode cX6_nearnessOf 168 = .ok (.goto 5, 3) := by decide +kernel
theorem dX6_nearnessOf_171 : decode cX6_nearnessOf 171 = .ok (.iload 8, 2) := by decide +kernel
theorem dX6_nearnessOf_173 : decode cX6_nearnessOf 173 = .ok (.iastore, 1) := by decide +kernel
theorem dX6_nearnessOf_174 : decode cX6_nearnessOf 174 = .ok (.iinc 6 1, 3) := by decide +kernel
theorem dX6_nearnessOf_177 : decode cX6_nearnessOf 177 = .ok (.goto (-117), 3) := by decide +kernel
theorem dX6_nearnessOf_180 : decode cX6_nearnessOf 180 = .ok (.aload_n 0, 1) := by decide +kernel
theorem dX6_nearnessOf_181 : decode cX6_nearnessOf 181 = .ok (.getfield 43, 3) := by decide +kernel
theorem dX6_nearnessOf_184 : decode cX6_nearnessOf 184 = .ok (.iload_n 2, 1) := by decide +kernel
theorem dX6_nearnessOf_185 : decode cX6_nearnessOf 185 = .ok (.iaload, 1) := by decide +kernel
theorem dX6_nearnessOf_186 : decode cX6_nearnessOf 186 = .ok (.iload_n 3, 1) := by decide +kernel
theorem dX6_nearnessOf_187 : decode cX6_nearnessOf 187 = .ok (.if_icmp .ge 12, 3) := by decide +kernel
theorem dX6_nearnessOf_190 : decode cX6_nearnessOf 190 = .ok (.aload_n 0, 1) := by decide +kernel
theorem dX6_nearnessOf_191 : decode cX6_nearnessOf 191 = .ok (.getfield 43, 3) := by decide +kernel
theorem dX6_nearnessOf_194 : decode cX6_nearnessOf 194 = .ok (.iload_n 2, 1) := by decide +kernel
theorem dX6_nearnessOf_195 : decode cX6_nearnessOf 195 = .ok (.iaload, 1) := by decide +kernel
theorem dX6_nearnessOf_196 : decode cX6_nearnessOf 196 = .ok (.goto 4, 3) := by decide +kernel
theorem dX6_nearnessOf_199 : decode cX6_nearnessOf 199 = .ok (.iload_n 3, 1) := by decide +kernel
theorem dX6_nearnessOf_200 : decode cX6_nearnessOf 200 = .ok (.istore_n 3, 1) := by decide +kernel
theorem dX6_nearnessOf_201 : decode cX6_nearnessOf 201 = .ok (.iinc 4 1, 3) := by decide +kernel
theorem dX6_nearnessOf_204 : decode cX6_nearnessOf 204 = .ok (.goto (-174), 3) := by decide +kernel
theorem dX6_nearnessOf_207 : decode cX6_nearnessOf 207 = .ok (.iload_n 3, 1) := by decide +kernel
theorem dX6_nearnessOf_208 : decode cX6_nearnessOf 208 = .ok (.ireturn, 1) := by decide +kernel
set_option maxRecDepth 20000 in
theorem ggX6_ask_X6_taken : GoodIn wsX6_ask wsX6_taken := goodIn_r _ [16, 17, 18, 19, 20, 15, 21, 27, 28, 29, 30, 31, 32, 33, 34, 35, 36, 37, 38, 39, 40, 41] (by decide +kernel) (by decide +kernel)
set_option maxRecDepth 20000 in
theorem gX6_ask_X6_taken : GoodIn wsX6_ask (wsV RX6 86 RX6 yX6_taken wsX6_taken) := goodIn_app (goodIn_of _ (by decide +kernel)) ggX6_ask_X6_taken
set_option maxRecDepth 20000 in
theorem ggX6_ask_X6_nearnessOf : GoodIn wsX6_ask wsX6_nearnessOf := goodIn_r _ [25, 26, 9, 18, 7, 27, 28, 29, 30, 31, 32, 33, 34, 35, 36, 37, 38, 39, 40, 41] (by decide +kernel) (by decide +kernel)
set_option maxRecDepth 20000 in
theorem gX6_ask_X6_nearnessOf : GoodIn wsX6_ask (wsV RX6 91 RX6 yX6_nearnessOf wsX6_nearnessOf) := goodIn_app (goodIn_of _ (by decide +kernel)) ggX6_ask_X6_nearnessOf
theorem dX6_ask_0 : decode cX6_ask 0 = .ok (.aload_n 0, 1) := by decide +kernel
theorem dX6_ask_1 : decode cX6_ask 1 = .ok (.iconst 0, 1) := by decide +kernel
theorem dX6_ask_2 : decode cX6_ask 2 = .ok (.invokevirtual 86, 3) := by decide +kernel
theorem dX6_ask_5 : decode cX6_ask 5 = .ok (.istore_n 3, 1) := by decide +kernel
theorem dX6_ask_6 : decode cX6_ask 6 = .ok (.iload_n 3, 1) := by decide +kernel
theorem dX6_ask_7 : decode cX6_ask 7 = .ok (.iconst (-1), 1) := by decide +kernel
theorem dX6_ask_8 : decode cX6_ask 8 = .ok (.if_icmp .eq 23, 3) := by decide +kernel
theorem dX6_ask_11 : decode cX6_ask 11 = .ok (.iload_n 1, 1) := by decide +kernel
theorem dX6_ask_12 : decode cX6_ask 12 = .ok (.iconst 1, 1) := by decide +kernel
theorem dX6_ask_13 : decode cX6_ask 13 = .ok (.if_icmp .lt 18, 3) := by decide +kernel
theorem dX6_ask_16 : decode cX6_ask 16 = .ok (.iload_n 1, 1) := by decide +kernel
theorem dX6_ask_17 : decode cX6_ask 17 = .ok (.bipush 50, 2) := by decide +kernel
theorem dX6_ask_19 : decode cX6_ask 19 = .ok (.if_icmp .gt 12, 3) := by decide +kernel
theorem dX6_ask_22 : decode cX6_ask 22 = .ok (.iload_n 2, 1) := by decide +kernel
theorem dX6_ask_23 : decode cX6_ask 23 = .ok (.ifCond .lt 8, 3) := by decide +kernel
theorem dX6_ask_26 : decode cX6_ask 26 = .ok (.iload_n 2, 1) := by decide +kernel
theorem dX6_ask_27 : decode cX6_ask 27 = .ok (.iconst 2, 1) := by decide +kernel
theorem dX6_ask_28 : decode cX6_ask 28 = .ok (.if_icmp .le 5, 3) := by decide +kernel
theorem dX6_ask_31 : decode cX6_ask 31 = .ok (.iconst (-1), 1) := by decide +kernel
theorem dX6_ask_32 : decode cX6_ask 32 = .ok (.ireturn, 1) := by decide +kernel
theorem dX6_ask_33 : decode cX6_ask 33 = .ok (.iconst 0, 1) := by decide +kernel
theorem dX6_ask_34 : decode cX6_ask 34 = .ok (.istore 4, 2) := by decide +kernel
theorem dX6_ask_36 : decode cX6_ask 36 = .ok (.iload 4, 2) := by decide +kernel
theorem dX6_ask_38 : decode cX6_ask 38 = .ok (.aload_n 0, 1) := by decide +kernel
theorem dX6_ask_39 : decode cX6_ask 39 = .ok (.getfield 46, 3) := by decide +kernel
theorem dX6_ask_42 : decode cX6_ask 42 = .ok (.if_icmp .ge 46, 3) := by decide +kernel
theorem dX6_ask_45 : decode cX6_ask 45 = .ok (.aload_n 0, 1) := by decide +kernel
theorem dX6_ask_46 : decode cX6_ask 46 = .ok (.getfield 40, 3) := by decide +kernel
theorem dX6_ask_49 : decode cX6_ask 49 = .ok (.iload 4, 2) := by decide +kernel
theorem dX6_ask_51 : decode cX6_ask 51 = .ok (.aload_n 0, 1) := by decide +kernel
theorem dX6_ask_52 : decode cX6_ask 52 = .ok (.iload 4, 2) := by decide +kernel
theorem dX6_ask_54 : decode cX6_ask 54 = .ok (.iload_n 3, 1) := by decide +kernel
theorem dX6_ask_55 : decode cX6_ask 55 = .ok (.invokevirtual 91, 3) := by decide +kernel
theorem dX6_ask_58 : decode cX6_ask 58 = .ok (.iastore, 1) := by decide +kernel
theorem dX6_ask_59 : decode cX6_ask 59 = .ok (.aload_n 0, 1) := by decide +kernel
theorem dX6_ask_60 : decode cX6_ask 60 = .ok (.getfield 36, 3) := by decide +kernel
theorem dX6_ask_63 : decode cX6_ask 63 = .ok (.iload 4, 2) := by decide +kernel
theorem dX6_ask_65 : decode cX6_ask 65 = .ok (.aload_n 0, 1) := by decide +kernel
theorem dX6_ask_66 : decode cX6_ask 66 = .ok (.getfield 40, 3) := by decide +kernel
theorem dX6_ask_69 : decode cX6_ask 69 = .ok (.iload 4, 2) := by decide +kernel
theorem dX6_ask_71 : decode cX6_ask 71 = .ok (.iaload, 1) := by decide +kernel
theorem dX6_ask_72 : decode cX6_ask 72 = .ok (.iload_n 2, 1) := by decide +kernel
theorem dX6_ask_73 : decode cX6_ask 73 = .ok (.if_icmp .le 7, 3) := by decide +kernel
theorem dX6_ask_76 : decode cX6_ask 76 = .ok (.iconst 1, 1) := by decide +kernel
theorem dX6_ask_77 : decode cX6_ask 77 = .ok (.goto 4, 3) := by decide +kernel
theorem dX6_ask_80 : decode cX6_ask 80 = .ok (.iconst 0, 1) := by decide +kernel
theorem dX6_ask_81 : decode cX6_ask 81 = .ok (.bastore, 1) := by decide +kernel
theorem dX6_ask_82 : decode cX6_ask 82 = .ok (.iinc 4 1, 3) := by decide +kernel
theorem dX6_ask_85 : decode cX6_ask 85 = .ok (.goto (-49), 3) := by decide +kernel
theorem dX6_ask_88 : decode cX6_ask 88 = .ok (.aload_n 0, 1) := by decide +kernel
theorem dX6_ask_89 : decode cX6_ask 89 = .ok (.iconst 0, 1) := by decide +kernel
theorem dX6_ask_90 : decode cX6_ask 90 = .ok (.putfield 94, 3) := by decide +kernel
theorem dX6_ask_93 : decode cX6_ask 93 = .ok (.iconst 1, 1) := by decide +kernel
theorem dX6_ask_94 : decode cX6_ask 94 = .ok (.istore 4, 2) := by decide +kernel
theorem dX6_ask_96 : decode cX6_ask 96 = .ok (.iload 4, 2) := by decide +kernel
theorem dX6_ask_98 : decode cX6_ask 98 = .ok (.ifCond .eq 201, 3) := by decide +kernel
theorem dX6_ask_101 : decode cX6_ask 101 = .ok (.aload_n 0, 1) := by decide +kernel
theorem dX6_ask_102 : decode cX6_ask 102 = .ok (.getfield 94, 3) := by decide +kernel
theorem dX6_ask_105 : decode cX6_ask 105 = .ok (.iload_n 1, 1) := by decide +kernel
theorem dX6_ask_106 : decode cX6_ask 106 = .ok (.if_icmp .ge 193, 3) := by decide +kernel
theorem dX6_ask_109 : decode cX6_ask 109 = .ok (.iconst (-1), 1) := by decide +kernel
theorem dX6_ask_110 : decode cX6_ask 110 = .ok (.istore 5, 2) := by decide +kernel
theorem dX6_ask_112 : decode cX6_ask 112 = .ok (.iconst 0, 1) := by decide +kernel
theorem dX6_ask_113 : decode cX6_ask 113 = .ok (.istore 6, 2) := by decide +kernel
theorem dX6_ask_115 : decode cX6_ask 115 = .ok (.iload 6, 2) := by decide +kernel
theorem dX6_ask_117 : decode cX6_ask 117 = .ok (.aload_n 0, 1) := by decide +kernel
theorem dX6_ask_118 : decode cX6_ask 118 = .ok (.getfield 46, 3) := by decide +kernel
theorem dX6_ask_121 : decode cX6_ask 121 = .ok (.if_icmp .ge 47, 3) := by decide +kernel
theorem dX6_ask_124 : decode cX6_ask 124 = .ok (.aload_n 0, 1) := by decide +kernel
theorem dX6_ask_125 : decode cX6_ask 125 = .ok (.getfield 36, 3) := by decide +kernel
theorem dX6_ask_128 : decode cX6_ask 128 = .ok (.iload 6, 2) := by decide +kernel
theorem dX6_ask_130 : decode cX6_ask 130 = .ok (.baload, 1) := by decide +kernel
theorem dX6_ask_131 : decode cX6_ask 131 = .ok (.ifCond .ne 31, 3) := by decide +kernel
theorem dX6_ask_134 : decode cX6_ask 134 = .ok (.iload 5, 2) := by decide +kernel
theorem dX6_ask_136 : decode cX6_ask 136 = .ok (.iconst (-1), 1) := by decide +kernel
theorem dX6_ask_137 : decode cX6_ask 137 = .ok (.if_icmp .eq 21, 3) := by decide +kernel
theorem dX6_ask_140 : decode cX6_ask 140 = .ok (.aload_n 0, 1) := by decide +kernel
theorem dX6_ask_141 : decode cX6_ask 141 = .ok (.getfield 20, 3) := by decide +kernel
theorem dX6_ask_144 : decode cX6_ask 144 = .ok (.iload 6, 2) := by decide +kernel
theorem dX6_ask_146 : decode cX6_ask 146 = .ok (.laload, 1) := by decide +kernel
theorem dX6_ask_147 : decode cX6_ask 147 = .ok (.aload_n 0, 1) := by decide +kernel
theorem dX6_ask_148 : decode cX6_ask 148 = .ok (.getfield 20, 3) := by decide +kernel
theorem dX6_ask_151 : decode cX6_ask 151 = .ok (.iload 5, 2) := by decide +kernel
theorem dX6_ask_153 : decode cX6_ask 153 = .ok (.laload, 1) := by decide +kernel
theorem dX6_ask_154 : decode cX6_ask 154 = .ok (.lcmp, 1) := by decide +kernel
theorem dX6_ask_155 : decode cX6_ask 155 = .ok (.ifCond .le 7, 3) := by decide +kernel
theorem dX6_ask_158 : decode cX6_ask 158 = .ok (.iload 6, 2) := by decide +kernel
theorem dX6_ask_160 : decode cX6_ask 160 = .ok (.istore 5, 2) := by decide +kernel
theorem dX6_ask_162 : decode cX6_ask 162 = .ok (.iinc 6 1, 3) := by decide +kernel
theorem dX6_ask_165 : decode cX6_ask 165 = .ok (.goto (-50), 3) := by decide +kernel
theorem dX6_ask_168 : decode cX6_ask 168 = .ok (.iload 5, 2) := by decide +kernel
theorem dX6_ask_170 : decode cX6_ask 170 = .ok (.iconst (-1), 1) := by decide +kernel
theorem dX6_ask_171 : decode cX6_ask 171 = .ok (.if_icmp .eq 7, 3) := by decide +kernel
theorem dX6_ask_174 : decode cX6_ask 174 = .ok (.iconst 1, 1) := by decide +kernel
theorem dX6_ask_175 : decode cX6_ask 175 = .ok (.goto 4, 3) := by decide +kernel
theorem dX6_ask_178 : decode cX6_ask 178 = .ok (.iconst 0, 1) := by decide +kernel
theorem dX6_ask_179 : decode cX6_ask 179 = .ok (.istore 4, 2) := by decide +kernel
theorem dX6_ask_181 : decode cX6_ask 181 = .ok (.iload 4, 2) := by decide +kernel
theorem dX6_ask_183 : decode cX6_ask 183 = .ok (.ifCond .eq 113, 3) := by decide +kernel
theorem dX6_ask_186 : decode cX6_ask 186 = .ok (.aload_n 0, 1) := by decide +kernel
theorem dX6_ask_187 : decode cX6_ask 187 = .ok (.getfield 36, 3) := by decide +kernel
theorem dX6_ask_190 : decode cX6_ask 190 = .ok (.iload 5, 2) := by decide +kernel
theorem dX6_ask_192 : decode cX6_ask 192 = .ok (.iconst 1, 1) := by decide +kernel
theorem dX6_ask_193 : decode cX6_ask 193 = .ok (.bastore, 1) := by decide +kernel
theorem dX6_ask_194 : decode cX6_ask 194 = .ok (.iconst 0, 1) := by decide +kernel
theorem dX6_ask_195 : decode cX6_ask 195 = .ok (.istore 6, 2) := by decide +kernel
theorem dX6_ask_197 : decode cX6_ask 197 = .ok (.iload 6, 2) := by decide +kernel
theorem dX6_ask_199 : decode cX6_ask 199 = .ok (.bipush 24, 2) := by decide +kernel
theorem dX6_ask_201 : decode cX6_ask 201 = .ok (.if_icmp .ge 37, 3) := by decide +kernel
theorem dX6_ask_204 : decode cX6_ask 204 = .ok (.aload_n 0, 1) := by decide +kernel
theorem dX6_ask_205 : decode cX6_ask 205 = .ok (.getfield 24, 3) := by decide +kernel
theorem dX6_ask_208 : decode cX6_ask 208 = .ok (.bipush 24, 2) := by decide +kernel
theorem dX6_ask_210 : decode cX6_ask 210 = .ok (.aload_n 0, 1) := by decide +kernel
theorem dX6_ask_211 : decode cX6_ask 211 = .ok (.getfield 94, 3) := by decide +kernel
theorem dX6_ask_214 : decode cX6_ask 214 = .ok (.imul, 1) := by decide +kernel
theorem dX6_ask_215 : decode cX6_ask 215 = .ok (.iload 6, 2) := by decide +kernel
theorem dX6_ask_217 : decode cX6_ask 217 = .ok (.iadd, 1) := by decide +kernel
theorem dX6_ask_218 : decode cX6_ask 218 = .ok (.aload_n 0, 1) := by decide +kernel
theorem dX6_ask_219 : decode cX6_ask 219 = .ok (.getfield 13, 3) := by decide +kernel
theorem dX6_ask_222 : decode cX6_ask 222 = .ok (.bipush 24, 2) := by decide +kernel
theorem dX6_ask_224 : decode cX6_ask 224 = .ok (.iload 5, 2) := by decide +kernel
theorem dX6_ask_226 : decode cX6_ask 226 = .ok (.imul, 1) := by decide +kernel
theorem dX6_ask_227 : decode cX6_ask 227 = .ok (.iload 6, 2) := by decide +kernel
theorem dX6_ask_229 : decode cX6_ask 229 = .ok (.iadd, 1) := by decide +kernel
theorem dX6_ask_230 : decode cX6_ask 230 = .ok (.baload, 1) := by decide +kernel
theorem dX6_ask_231 : decode cX6_ask 231 = .ok (.bastore, 1) := by decide +kernel
theorem dX6_ask_232 : decode cX6_ask 232 = .ok (.iinc 6 1, 3) := by decide +kernel
theorem dX6_ask_235 : decode cX6_ask 235 = .ok (.goto (-38), 3) := by decide +kernel
theorem dX6_ask_238 : decode cX6_ask 238 = .ok (.aload_n 0, 1) := by decide +kernel
theorem dX6_ask_239 : decode cX6_ask 239 = .ok (.getfield 27, 3) := by decide +kernel
theorem dX6_ask_242 : decode cX6_ask 242 = .ok (.aload_n 0, 1) := by decide +kernel
theorem dX6_ask_243 : decode cX6_ask 243 = .ok (.getfield 94, 3) := by decide +kernel
theorem dX6_ask_246 : decode cX6_ask 246 = .ok (.aload_n 0, 1) := by decide +kernel
theorem dX6_ask_247 : decode cX6_ask 247 = .ok (.getfield 16, 3) := by decide +kernel
theorem dX6_ask_250 : decode cX6_ask 250 = .ok (.iload 5, 2) := by decide +kernel
theorem dX6_ask_252 : decode cX6_ask 252 = .ok (.iaload, 1) := by decide +kernel
theorem dX6_ask_253 : decode cX6_ask 253 = .ok (.iastore, 1) := by decide +kernel
theorem dX6_ask_254 : decode cX6_ask 254 = .ok (.aload_n 0, 1) := by decide +kernel
theorem dX6_ask_255 : decode cX6_ask 255 = .ok (.getfield 30, 3) := by decide +kernel
theorem dX6_ask_258 : decode cX6_ask 258 = .ok (.aload_n 0, 1) := by decide +kernel
theorem dX6_ask_259 : decode cX6_ask 259 = .ok (.getfield 94, 3) := by decide +kernel
theorem dX6_ask_262 : decode cX6_ask 262 = .ok (.aload_n 0, 1) := by decide +kernel
theorem dX6_ask_263 : decode cX6_ask 263 = .ok (.getfield 20, 3) := by decide +kernel
theorem dX6_ask_266 : decode cX6_ask 266 = .ok (.iload 5, 2) := by decide +kernel
theorem dX6_ask_268 : decode cX6_ask 268 = .ok (.laload, 1) := by decide +kernel
theorem dX6_ask_269 : decode cX6_ask 269 = .ok (.lastore, 1) := by decide +kernel
theorem dX6_ask_270 : decode cX6_ask 270 = .ok (.aload_n 0, 1) := by decide +kernel
theorem dX6_ask_271 : decode cX6_ask 271 = .ok (.getfield 33, 3) := by decide +kernel
theorem dX6_ask_274 : decode cX6_ask 274 = .ok (.aload_n 0, 1) := by decide +kernel
theorem dX6_ask_275 : decode cX6_ask 275 = .ok (.getfield 94, 3) := by decide +kernel
theorem dX6_ask_278 : decode cX6_ask 278 = .ok (.aload_n 0, 1) := by decide +kernel
theorem dX6_ask_279 : decode cX6_ask 279 = .ok (.getfield 40, 3) := by decide +kernel
theorem dX6_ask_282 : decode cX6_ask 282 = .ok (.iload 5, 2) := by decide +kernel
theorem dX6_ask_284 : decode cX6_ask 284 = .ok (.iaload, 1) := by decide +kernel
theorem dX6_ask_285 : decode cX6_ask 285 = .ok (.iastore, 1) := by decide +kernel
theorem dX6_ask_286 : decode cX6_ask 286 = .ok (.aload_n 0, 1) := by decide +kernel
theorem dX6_ask_287 : decode cX6_ask 287 = .ok (.dup, 1) := by decide +kernel
theorem dX6_ask_288 : decode cX6_ask 288 = .ok (.getfield 94, 3) := by decide +kernel
theorem dX6_ask_291 : decode cX6_ask 291 = .ok (.iconst 1, 1) := by decide +kernel
theorem dX6_ask_292 : decode cX6_ask 292 = .ok (.iadd, 1) := by decide +kernel
theorem dX6_ask_293 : decode cX6_ask 293 = .ok (.putfield 94, 3) := by decide +kernel
theorem dX6_ask_296 : decode cX6_ask 296 = .ok (.goto (-200), 3) := by decide +kernel
theorem dX6_ask_299 : decode cX6_ask 299 = .ok (.aload_n 0, 1) := by decide +kernel
theorem dX6_ask_300 : decode cX6_ask 300 = .ok (.getfield 94, 3) := by decide +kernel
theorem dX6_ask_303 : decode cX6_ask 303 = .ok (.ireturn, 1) := by decide +kernel
set_option maxRecDepth 20000 in
theorem ggX6_near_X6_taken : GoodIn wsX6_near wsX6_taken := goodIn_r _ [6, 7, 8, 9, 10, 5, 11, 19, 20, 21, 22, 23, 24, 25, 26, 27, 28, 29, 30, 31, 32, 33] (by decide +kernel) (by decide +kernel)
set_option maxRecDepth 20000 in
theorem gX6_near_X6_taken : GoodIn wsX6_near (wsV RX6 86 RX6 yX6_taken wsX6_taken) := goodIn_app (goodIn_of _ (by decide +kernel)) ggX6_near_X6_taken
set_option maxRecDepth 20000 in
theorem ggX6_near_X6_nearnessOf : GoodIn wsX6_near wsX6_nearnessOf := goodIn_r _ [15, 16, 17, 8, 18, 19, 20, 21, 22, 23, 24, 25, 26, 27, 28, 29, 30, 31, 32, 33] (by decide +kernel) (by decide +kernel)
set_option maxRecDepth 20000 in
theorem gX6_near_X6_nearnessOf : GoodIn wsX6_near (wsV RX6 91 RX6 yX6_nearnessOf wsX6_nearnessOf) := goodIn_app (goodIn_of _ (by decide +kernel)) ggX6_near_X6_nearnessOf
theorem dX6_near_0 : decode cX6_near 0 = .ok (.aload_n 0, 1) := by decide +kernel
theorem dX6_near_1 : decode cX6_near 1 = .ok (.iconst 0, 1) := by decide +kernel
theorem dX6_near_2 : decode cX6_near 2 = .ok (.invokevirtual 86, 3) := by decide +kernel
theorem dX6_near_5 : decode cX6_near 5 = .ok (.istore_n 2, 1) := by decide +kernel
theorem dX6_near_6 : decode cX6_near 6 = .ok (.iload_n 2, 1) := by decide +kernel
theorem dX6_near_7 : decode cX6_near 7 = .ok (.iconst (-1), 1) := by decide +kernel
theorem dX6_near_8 : decode cX6_near 8 = .ok (.if_icmp .eq 12, 3) := by decide +kernel
theorem dX6_near_11 : decode cX6_near 11 = .ok (.iload_n 1, 1) := by decide +kernel
theorem dX6_near_12 : decode cX6_near 12 = .ok (.ifCond .lt 8, 3) := by decide +kernel
theorem dX6_near_15 : decode cX6_near 15 = .ok (.iload_n 1, 1) := by decide +kernel
theorem dX6_near_16 : decode cX6_near 16 = .ok (.iconst 2, 1) := by decide +kernel
theorem dX6_near_17 : decode cX6_near 17 = .ok (.if_icmp .le 5, 3) := by decide +kernel
theorem dX6_near_20 : decode cX6_near 20 = .ok (.iconst (-1), 1) := by decide +kernel
theorem dX6_near_21 : decode cX6_near 21 = .ok (.ireturn, 1) := by decide +kernel
theorem dX6_near_22 : decode cX6_near 22 = .ok (.iconst 0, 1) := by decide +kernel
theorem dX6_near_23 : decode cX6_near 23 = .ok (.istore_n 3, 1) := by decide +kernel
theorem dX6_near_24 : decode cX6_near 24 = .ok (.iconst 0, 1) := by decide +kernel
theorem dX6_near_25 : decode cX6_near 25 = .ok (.istore 4, 2) := by decide +kernel
theorem dX6_near_27 : decode cX6_near 27 = .ok (.iload 4, 2) := by decide +kernel
theorem dX6_near_29 : decode cX6_near 29 = .ok (.aload_n 0, 1) := by decide +kernel
theorem dX6_near_30 : decode cX6_near 30 = .ok (.getfield 46, 3) := by decide +kernel
theorem dX6_near_33 : decode cX6_near 33 = .ok (.if_icmp .ge 28, 3) := by decide +kernel
theorem dX6_near_36 : decode cX6_near 36 = .ok (.iload_n 3, 1) := by decide +kernel
theorem dX6_near_37 : decode cX6_near 37 = .ok (.aload_n 0, 1) := by decide +kernel
theorem dX6_near_38 : decode cX6_near 38 = .ok (.iload 4, 2) := by decide +kernel
theorem dX6_near_40 : decode cX6_near 40 = .ok (.iload_n 2, 1) := by decide +kernel
theorem dX6_near_41 : decode cX6_near 41 = .ok (.invokevirtual 91, 3) := by decide +kernel
theorem dX6_near_44 : decode cX6_near 44 = .ok (.iload_n 1, 1) := by decide +kernel
theorem dX6_near_45 : decode cX6_near 45 = .ok (.if_icmp .gt 7, 3) := by decide +kernel
theorem dX6_near_48 : decode cX6_near 48 = .ok (.iconst 1, 1) := by decide +kernel
theorem dX6_near_49 : decode cX6_near 49 = .ok (.goto 4, 3) := by decide +kernel
theorem dX6_near_52 : decode cX6_near 52 = .ok (.iconst 0, 1) := by decide +kernel
theorem dX6_near_53 : decode cX6_near 53 = .ok (.iadd, 1) := by decide +kernel
theorem dX6_near_54 : decode cX6_near 54 = .ok (.istore_n 3, 1) := by decide +kernel
theorem dX6_near_55 : decode cX6_near 55 = .ok (.iinc 4 1, 3) := by decide +kernel
theorem dX6_near_58 : decode cX6_near 58 = .ok (.goto (-31), 3) := by decide +kernel
theorem dX6_near_61 : decode cX6_near 61 = .ok (.iload_n 3, 1) := by decide +kernel
theorem dX6_near_62 : decode cX6_near 62 = .ok (.ireturn, 1) := by decide +kernel
set_option maxRecDepth 20000 in
theorem ggX6_best_X6_taken : GoodIn wsX6_best wsX6_taken := goodIn_r _ [11, 12, 4, 13, 14, 10, 15, 16, 17, 18, 19, 20, 21, 22, 23, 24, 25, 26, 27, 28, 29, 30] (by decide +kernel) (by decide +kernel)
set_option maxRecDepth 20000 in
theorem gX6_best_X6_taken : GoodIn wsX6_best (wsV RX6 86 RX6 yX6_taken wsX6_taken) := goodIn_app (goodIn_of _ (by decide +kernel)) ggX6_best_X6_taken
theorem dX6_best_0 : decode cX6_best 0 = .ok (.aload_n 0, 1) := by decide +kernel
theorem dX6_best_1 : decode cX6_best 1 = .ok (.iconst 0, 1) := by decide +kernel
theorem dX6_best_2 : decode cX6_best 2 = .ok (.invokevirtual 86, 3) := by decide +kernel
theorem dX6_best_5 : decode cX6_best 5 = .ok (.istore_n 1, 1) := by decide +kernel
theorem dX6_best_6 : decode cX6_best 6 = .ok (.ldc2_w 89, 3) := by decide +kernel
theorem dX6_best_9 : decode cX6_best 9 = .ok (.lstore_n 2, 1) := by decide +kernel
theorem dX6_best_10 : decode cX6_best 10 = .ok (.iconst 0, 1) := by decide +kernel
theorem dX6_best_11 : decode cX6_best 11 = .ok (.istore 4, 2) := by decide +kernel
theorem dX6_best_13 : decode cX6_best 13 = .ok (.iload 4, 2) := by decide +kernel
theorem dX6_best_15 : decode cX6_best 15 = .ok (.aload_n 0, 1) := by decide +kernel
theorem dX6_best_16 : decode cX6_best 16 = .ok (.getfield 46, 3) := by decide +kernel
theorem dX6_best_19 : decode cX6_best 19 = .ok (.if_icmp .ge 111, 3) := by decide +kernel
theorem dX6_best_22 : decode cX6_best 22 = .ok (.iload_n 1, 1) := by decide +kernel
theorem dX6_best_23 : decode cX6_best 23 = .ok (.iconst (-1), 1) := by decide +kernel
theorem dX6_best_24 : decode cX6_best 24 = .ok (.if_icmp .eq 106, 3) := by decide +kernel
theorem dX6_best_27 : decode cX6_best 27 = .ok (.aload_n 0, 1) := by decide +kernel
theorem dX6_best_28 : decode cX6_best 28 = .ok (.getfield 16, 3) := by decide +kernel
theorem dX6_best_31 : decode cX6_best 31 = .ok (.iload 4, 2) := by decide +kernel
theorem dX6_best_33 : decode cX6_best 33 = .ok (.iaload, 1) := by decide +kernel
theorem dX6_best_34 : decode cX6_best 34 = .ok (.iload_n 1, 1) := by decide +kernel
theorem dX6_best_35 : decode cX6_best 35 = .ok (.if_icmp .lt 7, 3) := by decide +kernel
theorem dX6_best_38 : decode cX6_best 38 = .ok (.iconst 1, 1) := by decide +kernel
theorem dX6_best_39 : decode cX6_best 39 = .ok (.goto 4, 3) := by decide +kernel
theorem dX6_best_42 : decode cX6_best 42 = .ok (.iconst 0, 1) := by decide +kernel
theorem dX6_best_43 : decode cX6_best 43 = .ok (.istore 5, 2) := by decide +kernel
theorem dX6_best_45 : decode cX6_best 45 = .ok (.iconst 0, 1) := by decide +kernel
theorem dX6_best_46 : decode cX6_best 46 = .ok (.istore 6, 2) := by decide +kernel
theorem dX6_best_48 : decode cX6_best 48 = .ok (.iload 6, 2) := by decide +kernel
theorem dX6_best_50 : decode cX6_best 50 = .ok (.iload_n 1, 1) := by decide +kernel
theorem dX6_best_51 : decode cX6_best 51 = .ok (.if_icmp .ge 44, 3) := by decide +kernel
theorem dX6_best_54 : decode cX6_best 54 = .ok (.iload 5, 2) := by decide +kernel
theorem dX6_best_56 : decode cX6_best 56 = .ok (.ifCond .eq 39, 3) := by decide +kernel
theorem dX6_best_59 : decode cX6_best 59 = .ok (.aload_n 0, 1) := by decide +kernel
theorem dX6_best_60 : decode cX6_best 60 = .ok (.getfield 7, 3) := by decide +kernel
theorem dX6_best_63 : decode cX6_best 63 = .ok (.iload 6, 2) := by decide +kernel
theorem dX6_best_65 : decode cX6_best 65 = .ok (.baload, 1) := by decide +kernel
theorem dX6_best_66 : decode cX6_best 66 = .ok (.aload_n 0, 1) := by decide +kernel
theorem dX6_best_67 : decode cX6_best 67 = .ok (.getfield 13, 3) := by decide +kernel
theorem dX6_best_70 : decode cX6_best 70 = .ok (.bipush 24, 2) := by decide +kernel
theorem dX6_best_72 : decode cX6_best 72 = .ok (.iload 4, 2) := by decide +kernel
theorem dX6_best_74 : decode cX6_best 74 = .ok (.imul, 1) := by decide +kernel
theorem dX6_best_75 : decode cX6_best 75 = .ok (.iload 6, 2) := by decide +kernel
theorem dX6_best_77 : decode cX6_best 77 = .ok (.iadd, 1) := by decide +kernel
theorem dX6_best_78 : decode cX6_best 78 = .ok (.baload, 1) := by decide +kernel
theorem dX6_best_79 : decode cX6_best 79 = .ok (.if_icmp .ne 7, 3) := by decide +kernel
theorem dX6_best_82 : decode cX6_best 82 = .ok (.iconst 1, 1) := by decide +kernel
theorem dX6_best_83 : decode cX6_best 83 = .ok (.goto 4, 3) := by decide +kernel
theorem dX6_best_86 : decode cX6_best 86 = .ok (.iconst 0, 1) := by decide +kernel
theorem dX6_best_87 : decode cX6_best 87 = .ok (.istore 5, 2) := by decide +kernel
theorem dX6_best_89 : decode cX6_best 89 = .ok (.iinc 6 1, 3) := by decide +kernel
theorem dX6_best_92 : decode cX6_best 92 = .ok (.goto (-44), 3) := by decide +kernel
theorem dX6_best_95 : decode cX6_best 95 = .ok (.iload 5, 2) := by decide +kernel
theorem dX6_best_97 : decode cX6_best 97 = .ok (.ifCond .eq 25, 3) := by decide +kernel
theorem dX6_best_100 : decode cX6_best 100 = .ok (.aload_n 0, 1) := by decide +kernel
theorem dX6_best_101 : decode cX6_best 101 = .ok (.getfield 20, 3) := by decide +kernel
theorem dX6_best_104 : decode cX6_best 104 = .ok (.iload 4, 2) := by decide +kernel
theorem dX6_best_106 : decode cX6_best 106 = .ok (.laload, 1) := by decide +kernel
theorem dX6_best_107 : decode cX6_best 107 = .ok (.lload_n 2, 1) := by decide +kernel
theorem dX6_best_108 : decode cX6_best 108 = .ok (.lcmp, 1) := by decide +kernel
theorem dX6_best_109 : decode cX6_best 109 = .ok (.ifCond .le 13, 3) := by decide +kernel
theorem dX6_best_112 : decode cX6_best 112 = .ok (.aload_n 0, 1) := by decide +kernel
theorem dX6_best_113 : decode cX6_best 113 = .ok (.getfield 20, 3) := by decide +kernel
theorem dX6_best_116 : decode cX6_best 116 = .ok (.iload 4, 2) := by decide +kernel
theorem dX6_best_118 : decode cX6_best 118 = .ok (.laload, 1) := by decide +kernel
theorem dX6_best_119 : decode cX6_best 119 = .ok (.goto 4, 3) := by decide +kernel
theorem dX6_best_122 : decode cX6_best 122 = .ok (.lload_n 2, 1) := by decide +kernel
theorem dX6_best_123 : decode cX6_best 123 = .ok (.lstore_n 2, 1) := by decide +kernel
theorem dX6_best_124 : decode cX6_best 124 = .ok (.iinc 4 1, 3) := by decide +kernel
theorem dX6_best_127 : decode cX6_best 127 = .ok (.goto (-114), 3) := by decide +kernel
theorem dX6_best_130 : decode cX6_best 130 = .ok (.lload_n 2, 1) := by decide +kernel
theorem dX6_best_131 : decode cX6_best 131 = .ok (.lreturn, 1) := by decide +kernel
set_option maxRecDepth 20000 in
theorem ggX6_rank_X6_taken : GoodIn wsX6_rank wsX6_taken := goodIn_r _ [7, 8, 9, 10, 11, 6, 12, 26, 27, 28, 29, 30, 31, 32, 33, 34, 35, 36, 37, 38, 39, 40] (by decide +kernel) (by decide +kernel)
set_option maxRecDepth 20000 in
theorem gX6_rank_X6_taken : GoodIn wsX6_rank (wsV RX6 86 RX6 yX6_taken wsX6_taken) := goodIn_app (goodIn_of _ (by decide +kernel)) ggX6_rank_X6_taken
set_option maxRecDepth 20000 in
theorem ggX6_rank_X6_find : GoodIn wsX6_rank wsX6_find := goodIn_r _ [16, 1, 17, 18, 19, 6, 20, 21, 9, 22, 23, 24, 25, 26, 27, 28, 29, 30, 31, 32, 33, 34, 35, 36, 37, 38, 39, 40] (by decide +kernel) (by decide +kernel)
set_option maxRecDepth 20000 in
theorem gX6_rank_X6_find : GoodIn wsX6_rank (wsV RX6 76 RX6 yX6_find wsX6_find) := goodIn_app (goodIn_of _ (by decide +kernel)) ggX6_rank_X6_find
theorem dX6_rank_0 : decode cX6_rank 0 = .ok (.aload_n 0, 1) := by decide +kernel
theorem dX6_rank_1 : decode cX6_rank 1 = .ok (.iconst 1, 1) := by decide +kernel
theorem dX6_rank_2 : decode cX6_rank 2 = .ok (.invokevirtual 86, 3) := by decide +kernel
theorem dX6_rank_5 : decode cX6_rank 5 = .ok (.istore_n 1, 1) := by decide +kernel
theorem dX6_rank_6 : decode cX6_rank 6 = .ok (.iload_n 1, 1) := by decide +kernel
theorem dX6_rank_7 : decode cX6_rank 7 = .ok (.iconst (-1), 1) := by decide +kernel
theorem dX6_rank_8 : decode cX6_rank 8 = .ok (.if_icmp .ne 7, 3) := by decide +kernel
theorem dX6_rank_11 : decode cX6_rank 11 = .ok (.iconst (-1), 1) := by decide +kernel
theorem dX6_rank_12 : decode cX6_rank 12 = .ok (.goto 9, 3) := by decide +kernel
theorem dX6_rank_15 : decode cX6_rank 15 = .ok (.aload_n 0, 1) := by decide +kernel
theorem dX6_rank_16 : decode cX6_rank 16 = .ok (.iconst 0, 1) := by decide +kernel
theorem dX6_rank_17 : decode cX6_rank 17 = .ok (.iload_n 1, 1) := by decide +kernel
theorem dX6_rank_18 : decode cX6_rank 18 = .ok (.invokevirtual 76, 3) := by decide +kernel
theorem dX6_rank_21 : decode cX6_rank 21 = .ok (.istore_n 2, 1) := by decide +kernel
theorem dX6_rank_22 : decode cX6_rank 22 = .ok (.iload_n 2, 1) := by decide +kernel
theorem dX6_rank_23 : decode cX6_rank 23 = .ok (.iconst (-1), 1) := by decide +kernel
theorem dX6_rank_24 : decode cX6_rank 24 = .ok (.if_icmp .ne 5, 3) := by decide +kernel
theorem dX6_rank_27 : decode cX6_rank 27 = .ok (.iconst (-1), 1) := by decide +kernel
theorem dX6_rank_28 : decode cX6_rank 28 = .ok (.ireturn, 1) := by decide +kernel
theorem dX6_rank_29 : decode cX6_rank 29 = .ok (.iconst 0, 1) := by decide +kernel
theorem dX6_rank_30 : decode cX6_rank 30 = .ok (.istore_n 3, 1) := by decide +kernel
theorem dX6_rank_31 : decode cX6_rank 31 = .ok (.iconst 0, 1) := by decide +kernel
theorem dX6_rank_32 : decode cX6_rank 32 = .ok (.istore 4, 2) := by decide +kernel
theorem dX6_rank_34 : decode cX6_rank 34 = .ok (.iload 4, 2) := by decide +kernel
theorem dX6_rank_36 : decode cX6_rank 36 = .ok (.aload_n 0, 1) := by decide +kernel
theorem dX6_rank_37 : decode cX6_rank 37 = .ok (.getfield 46, 3) := by decide +kernel
theorem dX6_rank_40 : decode cX6_rank 40 = .ok (.if_icmp .ge 57, 3) := by decide +kernel
theorem dX6_rank_43 : decode cX6_rank 43 = .ok (.iload_n 3, 1) := by decide +kernel
theorem dX6_rank_44 : decode cX6_rank 44 = .ok (.aload_n 0, 1) := by decide +kernel
theorem dX6_rank_45 : decode cX6_rank 45 = .ok (.getfield 20, 3) := by decide +kernel
theorem dX6_rank_48 : decode cX6_rank 48 = .ok (.iload 4, 2) := by decide +kernel
theorem dX6_rank_50 : decode cX6_rank 50 = .ok (.laload, 1) := by decide +kernel
theorem dX6_rank_51 : decode cX6_rank 51 = .ok (.aload_n 0, 1) := by decide +kernel
theorem dX6_rank_52 : decode cX6_rank 52 = .ok (.getfield 20, 3) := by decide +kernel
theorem dX6_rank_55 : decode cX6_rank 55 = .ok (.iload_n 2, 1) := by decide +kernel
theorem dX6_rank_56 : decode cX6_rank 56 = .ok (.laload, 1) := by decide +kernel
theorem dX6_rank_57 : decode cX6_rank 57 = .ok (.lcmp, 1) := by decide +kernel
theorem dX6_rank_58 : decode cX6_rank 58 = .ok (.ifCond .gt 26, 3) := by decide +kernel
theorem dX6_rank_61 : decode cX6_rank 61 = .ok (.aload_n 0, 1) := by decide +kernel
theorem dX6_rank_62 : decode cX6_rank 62 = .ok (.getfield 20, 3) := by decide +kernel
theorem dX6_rank_65 : decode cX6_rank 65 = .ok (.iload 4, 2) := by decide +kernel
theorem dX6_rank_67 : decode cX6_rank 67 = .ok (.laload, 1) := by decide +kernel
theorem dX6_rank_68 : decode cX6_rank 68 = .ok (.aload_n 0, 1) := by decide +kernel
theorem dX6_rank_69 : decode cX6_rank 69 = .ok (.getfield 20, 3) := by decide +kernel
theorem dX6_rank_72 : decode cX6_rank 72 = .ok (.iload_n 2, 1) := by decide +kernel
theorem dX6_rank_73 : decode cX6_rank 73 = .ok (.laload, 1) := by decide +kernel
theorem dX6_rank_74 : decode cX6_rank 74 = .ok (.lcmp, 1) := by decide +kernel
theorem dX6_rank_75 : decode cX6_rank 75 = .ok (.ifCond .ne 13, 3) := by decide +kernel
theorem dX6_rank_78 : decode cX6_rank 78 = .ok (.iload 4, 2) := by decide +kernel
theorem dX6_rank_80 : decode cX6_rank 80 = .ok (.iload_n 2, 1) := by decide +kernel
theorem dX6_rank_81 : decode cX6_rank 81 = .ok (.if_icmp .ge 7, 3) := by decide +kernel
theorem dX6_rank_84 : decode cX6_rank 84 = .ok (.iconst 1, 1) := by decide +kernel
theorem dX6_rank_85 : decode cX6_rank 85 = .ok (.goto 4, 3) := by decide +kernel
theorem dX6_rank_88 : decode cX6_rank 88 = .ok (.iconst 0, 1) := by decide +kernel
theorem dX6_rank_89 : decode cX6_rank 89 = .ok (.iadd, 1) := by decide +kernel
theorem dX6_rank_90 : decode cX6_rank 90 = .ok (.istore_n 3, 1) := by decide +kernel
theorem dX6_rank_91 : decode cX6_rank 91 = .ok (.iinc 4 1, 3) := by decide +kernel
theorem dX6_rank_94 : decode cX6_rank 94 = .ok (.goto (-60), 3) := by decide +kernel
theorem dX6_rank_97 : decode cX6_rank 97 = .ok (.iload_n 3, 1) := by decide +kernel
theorem dX6_rank_98 : decode cX6_rank 98 = .ok (.ireturn, 1) := by decide +kernel
theorem dX6_found_0 : decode cX6_found 0 = .ok (.aload_n 0, 1) := by decide +kernel
theorem dX6_found_1 : decode cX6_found 1 = .ok (.getfield 94, 3) := by decide +kernel
theorem dX6_found_4 : decode cX6_found 4 = .ok (.ireturn, 1) := by decide +kernel
theorem dX6_letter_0 : decode cX6_letter 0 = .ok (.iload_n 1, 1) := by decide +kernel
theorem dX6_letter_1 : decode cX6_letter 1 = .ok (.ifCond .lt 39, 3) := by decide +kernel
theorem dX6_letter_4 : decode cX6_letter 4 = .ok (.iload_n 1, 1) := by decide +kernel
theorem dX6_letter_5 : decode cX6_letter 5 = .ok (.aload_n 0, 1) := by decide +kernel
theorem dX6_letter_6 : decode cX6_letter 6 = .ok (.getfield 94, 3) := by decide +kernel
theorem dX6_letter_9 : decode cX6_letter 9 = .ok (.if_icmp .ge 31, 3) := by decide +kernel
theorem dX6_letter_12 : decode cX6_letter 12 = .ok (.iload_n 2, 1) := by decide +kernel
theorem dX6_letter_13 : decode cX6_letter 13 = .ok (.ifCond .lt 27, 3) := by decide +kernel
theorem dX6_letter_16 : decode cX6_letter 16 = .ok (.iload_n 2, 1) := by decide +kernel
theorem dX6_letter_17 : decode cX6_letter 17 = .ok (.aload_n 0, 1) := by decide +kernel
theorem dX6_letter_18 : decode cX6_letter 18 = .ok (.getfield 27, 3) := by decide +kernel
theorem dX6_letter_21 : decode cX6_letter 21 = .ok (.iload_n 1, 1) := by decide +kernel
theorem dX6_letter_22 : decode cX6_letter 22 = .ok (.iaload, 1) := by decide +kernel
theorem dX6_letter_23 : decode cX6_letter 23 = .ok (.if_icmp .ge 17, 3) := by decide +kernel
theorem dX6_letter_26 : decode cX6_letter 26 = .ok (.aload_n 0, 1) := by decide +kernel
theorem dX6_letter_27 : decode cX6_letter 27 = .ok (.getfield 24, 3) := by decide +kernel
theorem dX6_letter_30 : decode cX6_letter 30 = .ok (.bipush 24, 2) := by decide +kernel
theorem dX6_letter_32 : decode cX6_letter 32 = .ok (.iload_n 1, 1) := by decide +kernel
theorem dX6_letter_33 : decode cX6_letter 33 = .ok (.imul, 1) := by decide +kernel
theorem dX6_letter_34 : decode cX6_letter 34 = .ok (.iload_n 2, 1) := by decide +kernel
theorem dX6_letter_35 : decode cX6_letter 35 = .ok (.iadd, 1) := by decide +kernel
theorem dX6_letter_36 : decode cX6_letter 36 = .ok (.baload, 1) := by decide +kernel
theorem dX6_letter_37 : decode cX6_letter 37 = .ok (.goto 4, 3) := by decide +kernel
theorem dX6_letter_40 : decode cX6_letter 40 = .ok (.iconst (-1), 1) := by decide +kernel
theorem dX6_letter_41 : decode cX6_letter 41 = .ok (.ireturn, 1) := by decide +kernel
theorem dX6_of_0 : decode cX6_of 0 = .ok (.iload_n 1, 1) := by decide +kernel
theorem dX6_of_1 : decode cX6_of 1 = .ok (.ifCond .lt 11, 3) := by decide +kernel
theorem dX6_of_4 : decode cX6_of 4 = .ok (.iload_n 1, 1) := by decide +kernel
theorem dX6_of_5 : decode cX6_of 5 = .ok (.aload_n 0, 1) := by decide +kernel
theorem dX6_of_6 : decode cX6_of 6 = .ok (.getfield 94, 3) := by decide +kernel
theorem dX6_of_9 : decode cX6_of 9 = .ok (.if_icmp .lt 7, 3) := by decide +kernel
theorem dX6_of_12 : decode cX6_of 12 = .ok (.ldc2_w 89, 3) := by decide +kernel
theorem dX6_of_15 : decode cX6_of 15 = .ok (.lreturn, 1) := by decide +kernel
theorem dX6_of_16 : decode cX6_of 16 = .ok (.iload_n 2, 1) := by decide +kernel
theorem dX6_of_17 : decode cX6_of 17 = .ok (.ifCond .ne 13, 3) := by decide +kernel
theorem dX6_of_20 : decode cX6_of 20 = .ok (.aload_n 0, 1) := by decide +kernel
theorem dX6_of_21 : decode cX6_of 21 = .ok (.getfield 27, 3) := by decide +kernel
theorem dX6_of_24 : decode cX6_of 24 = .ok (.iload_n 1, 1) := by decide +kernel
theorem dX6_of_25 : decode cX6_of 25 = .ok (.iaload, 1) := by decide +kernel
theorem dX6_of_26 : decode cX6_of 26 = .ok (.i2l, 1) := by decide +kernel
theorem dX6_of_27 : decode cX6_of 27 = .ok (.goto 35, 3) := by decide +kernel
theorem dX6_of_30 : decode cX6_of 30 = .ok (.iload_n 2, 1) := by decide +kernel
theorem dX6_of_31 : decode cX6_of 31 = .ok (.iconst 1, 1) := by decide +kernel
theorem dX6_of_32 : decode cX6_of 32 = .ok (.if_icmp .ne 12, 3) := by decide +kernel
theorem dX6_of_35 : decode cX6_of 35 = .ok (.aload_n 0, 1) := by decide +kernel
theorem dX6_of_36 : decode cX6_of 36 = .ok (.getfield 30, 3) := by decide +kernel
theorem dX6_of_39 : decode cX6_of 39 = .ok (.iload_n 1, 1) := by decide +kernel
theorem dX6_of_40 : decode cX6_of 40 = .ok (.laload, 1) := by decide +kernel
theorem dX6_of_41 : decode cX6_of 41 = .ok (.goto 21, 3) := by decide +kernel
theorem dX6_of_44 : decode cX6_of 44 = .ok (.iload_n 2, 1) := by decide +kernel
theorem dX6_of_45 : decode cX6_of 45 = .ok (.iconst 2, 1) := by decide +kernel
theorem dX6_of_46 : decode cX6_of 46 = .ok (.if_icmp .ne 13, 3) := by decide +kernel
theorem dX6_of_49 : decode cX6_of 49 = .ok (.aload_n 0, 1) := by decide +kernel
theorem dX6_of_50 : decode cX6_of 50 = .ok (.getfield 33, 3) := by decide +kernel
theorem dX6_of_53 : decode cX6_of 53 = .ok (.iload_n 1, 1) := by decide +kernel
theorem dX6_of_54 : decode cX6_of 54 = .ok (.iaload, 1) := by decide +kernel
theorem dX6_of_55 : decode cX6_of 55 = .ok (.i2l, 1) := by decide +kernel
theorem dX6_of_56 : decode cX6_of 56 = .ok (.goto 6, 3) := by decide +kernel
theorem dX6_of_59 : decode cX6_of 59 = .ok (.ldc2_w 89, 3) := by decide +kernel
theorem dX6_of_62 : decode cX6_of 62 = .ok (.lreturn, 1) := by decide +kernel
theorem dX6_terms_0 : decode cX6_terms 0 = .ok (.aload_n 0, 1) := by decide +kernel
theorem dX6_terms_1 : decode cX6_terms 1 = .ok (.getfield 46, 3) := by decide +kernel
theorem dX6_terms_4 : decode cX6_terms 4 = .ok (.ireturn, 1) := by decide +kernel
theorem dX6_letters_0 : decode cX6_letters 0 = .ok (.aload_n 0, 1) := by decide +kernel
theorem dX6_letters_1 : decode cX6_letters 1 = .ok (.getfield 61, 3) := by decide +kernel
theorem dX6_letters_4 : decode cX6_letters 4 = .ok (.ireturn, 1) := by decide +kernel
theorem dX6_term_0 : decode cX6_term 0 = .ok (.iload_n 1, 1) := by decide +kernel
theorem dX6_term_1 : decode cX6_term 1 = .ok (.ifCond .lt 39, 3) := by decide +kernel
theorem dX6_term_4 : decode cX6_term 4 = .ok (.iload_n 1, 1) := by decide +kernel
theorem dX6_term_5 : decode cX6_term 5 = .ok (.aload_n 0, 1) := by decide +kernel
theorem dX6_term_6 : decode cX6_term 6 = .ok (.getfield 46, 3) := by decide +kernel
theorem dX6_term_9 : decode cX6_term 9 = .ok (.if_icmp .ge 31, 3) := by decide +kernel
theorem dX6_term_12 : decode cX6_term 12 = .ok (.iload_n 2, 1) := by decide +kernel
theorem dX6_term_13 : decode cX6_term 13 = .ok (.ifCond .lt 27, 3) := by decide +kernel
theorem dX6_term_16 : decode cX6_term 16 = .ok (.iload_n 2, 1) := by decide +kernel
theorem dX6_term_17 : decode cX6_term 17 = .ok (.aload_n 0, 1) := by decide +kernel
theorem dX6_term_18 : decode cX6_term 18 = .ok (.getfield 16, 3) := by decide +kernel
theorem dX6_term_21 : decode cX6_term 21 = .ok (.iload_n 1, 1) := by decide +kernel
theorem dX6_term_22 : decode cX6_term 22 = .ok (.iaload, 1) := by decide +kernel
theorem dX6_term_23 : decode cX6_term 23 = .ok (.if_icmp .ge 17, 3) := by decide +kernel
theorem dX6_term_26 : decode cX6_term 26 = .ok (.aload_n 0, 1) := by decide +kernel
theorem dX6_term_27 : decode cX6_term 27 = .ok (.getfield 13, 3) := by decide +kernel
theorem dX6_term_30 : decode cX6_term 30 = .ok (.bipush 24, 2) := by decide +kernel
theorem dX6_term_32 : decode cX6_term 32 = .ok (.iload_n 1, 1) := by decide +kernel
theorem dX6_term_33 : decode cX6_term 33 = .ok (.imul, 1) := by decide +kernel
theorem dX6_term_34 : decode cX6_term 34 = .ok (.iload_n 2, 1) := by decide +kernel
theorem dX6_term_35 : decode cX6_term 35 = .ok (.iadd, 1) := by decide +kernel
theorem dX6_term_36 : decode cX6_term 36 = .ok (.baload, 1) := by decide +kernel
theorem dX6_term_37 : decode cX6_term 37 = .ok (.goto 4, 3) := by decide +kernel
theorem dX6_term_40 : decode cX6_term 40 = .ok (.iconst (-1), 1) := by decide +kernel
theorem dX6_term_41 : decode cX6_term 41 = .ok (.ireturn, 1) := by decide +kernel
theorem dX6_prefixes_0 : decode cX6_prefixes 0 = .ok (.aload_n 0, 1) := by decide +kernel
theorem dX6_prefixes_1 : decode cX6_prefixes 1 = .ok (.getfield 46, 3) := by decide +kernel
theorem dX6_prefixes_4 : decode cX6_prefixes 4 = .ok (.ifCond .ne 7, 3) := by decide +kernel
theorem dX6_prefixes_7 : decode cX6_prefixes 7 = .ok (.iconst 0, 1) := by decide +kernel
theorem dX6_prefixes_8 : decode cX6_prefixes 8 = .ok (.goto 4, 3) := by decide +kernel
theorem dX6_prefixes_11 : decode cX6_prefixes 11 = .ok (.iconst 1, 1) := by decide +kernel
theorem dX6_prefixes_12 : decode cX6_prefixes 12 = .ok (.istore_n 1, 1) := by decide +kernel
theorem dX6_prefixes_13 : decode cX6_prefixes 13 = .ok (.iconst 0, 1) := by decide +kernel
theorem dX6_prefixes_14 : decode cX6_prefixes 14 = .ok (.istore_n 2, 1) := by decide +kernel
theorem dX6_prefixes_15 : decode cX6_prefixes 15 = .ok (.iload_n 2, 1) := by decide +kernel
theorem dX6_prefixes_16 : decode cX6_prefixes 16 = .ok (.aload_n 0, 1) := by decide +kernel
theorem dX6_prefixes_17 : decode cX6_prefixes 17 = .ok (.getfield 46, 3) := by decide +kernel
theorem dX6_prefixes_20 : decode cX6_prefixes 20 = .ok (.if_icmp .ge 81, 3) := by decide +kernel
theorem dX6_prefixes_23 : decode cX6_prefixes 23 = .ok (.iconst 0, 1) := by decide +kernel
theorem dX6_prefixes_24 : decode cX6_prefixes 24 = .ok (.istore_n 3, 1) := by decide +kernel
theorem dX6_prefixes_25 : decode cX6_prefixes 25 = .ok (.iload_n 2, 1) := by decide +kernel
theorem dX6_prefixes_26 : decode cX6_prefixes 26 = .ok (.ifCond .le 58, 3) := by decide +kernel
theorem dX6_prefixes_29 : decode cX6_prefixes 29 = .ok (.iload_n 3, 1) := by decide +kernel
theorem dX6_prefixes_30 : decode cX6_prefixes 30 = .ok (.aload_n 0, 1) := by decide +kernel
theorem dX6_prefixes_31 : decode cX6_prefixes 31 = .ok (.getfield 16, 3) := by decide +kernel
theorem dX6_prefixes_34 : decode cX6_prefixes 34 = .ok (.iload_n 2, 1) := by decide +kernel
theorem dX6_prefixes_35 : decode cX6_prefixes 35 = .ok (.iconst 1, 1) := by decide +kernel
theorem dX6_prefixes_36 : decode cX6_prefixes 36 = .ok (.isub, 1) := by decide +kernel
theorem dX6_prefixes_37 : decode cX6_prefixes 37 = .ok (.iaload, 1) := by decide +kernel
theorem dX6_prefixes_38 : decode cX6_prefixes 38 = .ok (.if_icmp .ge 46, 3) := by decide +kernel
theorem dX6_prefixes_41 : decode cX6_prefixes 41 = .ok (.iload_n 3, 1) := by decide +kernel
theorem dX6_prefixes_42 : decode cX6_prefixes 42 = .ok (.aload_n 0, 1) := by decide +kernel
theorem dX6_prefixes_43 : decode cX6_prefixes 43 = .ok (.getfield 16, 3) := by decide +kernel
theorem dX6_prefixes_46 : decode cX6_prefixes 46 = .ok (.iload_n 2, 1) := by decide +kernel
theorem dX6_prefixes_47 : decode cX6_prefixes 47 = .ok (.iaload, 1) := by decide +kernel
theorem dX6_prefixes_48 : decode cX6_prefixes 48 = .ok (.if_icmp .ge 36, 3) := by decide +kernel
theorem dX6_prefixes_51 : decode cX6_prefixes 51 = .ok (.aload_n 0, 1) := by decide +kernel
theorem dX6_prefixes_52 : decode cX6_prefixes 52 = .ok (.getfield 13, 3) := by decide +kernel
theorem dX6_prefixes_55 : decode cX6_prefixes 55 = .ok (.bipush 24, 2) := by decide +kernel
theorem dX6_prefixes_57 : decode cX6_prefixes 57 = .ok (.iload_n 2, 1) := by decide +kernel
theorem dX6_prefixes_58 : decode cX6_prefixes 58 = .ok (.iconst 1, 1) := by decide +kernel
theorem dX6_prefixes_59 : decode cX6_prefixes 59 = .ok (.isub, 1) := by decide +kernel
theorem dX6_prefixes_60 : decode cX6_prefixes 60 = .ok (.imul, 1) := by decide +kernel
theorem dX6_prefixes_61 : decode cX6_prefixes 61 = .ok (.iload_n 3, 1) := by decide +kernel
theorem dX6_prefixes_62 : decode cX6_prefixes 62 = .ok (.iadd, 1) := by decide +kernel
theorem dX6_prefixes_63 : decode cX6_prefixes 63 = .ok (.baload, 1) := by decide +kernel
theorem dX6_prefixes_64 : decode cX6_prefixes 64 = .ok (.aload_n 0, 1) := by decide +kernel
theorem dX6_prefixes_65 : decode cX6_prefixes 65 = .ok (.getfield 13, 3) := by decide +kernel
theorem dX6_prefixes_68 : decode cX6_prefixes 68 = .ok (.bipush 24, 2) := by decide +kernel
theorem dX6_prefixes_70 : decode cX6_prefixes 70 = .ok (.iload_n 2, 1) := by decide +kernel
theorem dX6_prefixes_71 : decode cX6_prefixes 71 = .ok (.imul, 1) := by decide +kernel
theorem dX6_prefixes_72 : decode cX6_prefixes 72 = .ok (.iload_n 3, 1) := by decide +kernel
theorem dX6_prefixes_73 : decode cX6_prefixes 73 = .ok (.iadd, 1) := by decide +kernel
theorem dX6_prefixes_74 : decode cX6_prefixes 74 = .ok (.baload, 1) := by decide +kernel
theorem dX6_prefixes_75 : decode cX6_prefixes 75 = .ok (.if_icmp .ne 9, 3) := by decide +kernel
theorem dX6_prefixes_78 : decode cX6_prefixes 78 = .ok (.iinc 3 1, 3) := by decide +kernel
theorem dX6_prefixes_81 : decode cX6_prefixes 81 = .ok (.goto (-56), 3) := by decide +kernel
theorem dX6_prefixes_84 : decode cX6_prefixes 84 = .ok (.iload_n 1, 1) := by decide +kernel
theorem dX6_prefixes_85 : decode cX6_prefixes 85 = .ok (.aload_n 0, 1) := by decide +kernel
theorem dX6_prefixes_86 : decode cX6_prefixes 86 = .ok (.getfield 16, 3) := by decide +kernel
theorem dX6_prefixes_89 : decode cX6_prefixes 89 = .ok (.iload_n 2, 1) := by decide +kernel
theorem dX6_prefixes_90 : decode cX6_prefixes 90 = .ok (.iaload, 1) := by decide +kernel
theorem dX6_prefixes_91 : decode cX6_prefixes 91 = .ok (.iload_n 3, 1) := by decide +kernel
theorem dX6_prefixes_92 : decode cX6_prefixes 92 = .ok (.isub, 1) := by decide +kernel
theorem dX6_prefixes_93 : decode cX6_prefixes 93 = .ok (.iadd, 1) := by decide +kernel
theorem dX6_prefixes_94 : decode cX6_prefixes 94 = .ok (.istore_n 1, 1) := by decide +kernel
theorem dX6_prefixes_95 : decode cX6_prefixes 95 = .ok (.iinc 2 1, 3) := by decide +kernel
theorem dX6_prefixes_98 : decode cX6_prefixes 98 = .ok (.goto (-83), 3) := by decide +kernel
theorem dX6_prefixes_101 : decode cX6_prefixes 101 = .ok (.iload_n 1, 1) := by decide +kernel
theorem dX6_prefixes_102 : decode cX6_prefixes 102 = .ok (.ireturn, 1) := by decide +kernel
end
section
/-! The reference: tape, compare, find, move, add, taken. -/
abbrev MlT : Type := (Nat → Nat) × (Nat → Nat) × (Nat → Nat) × Nat × Nat
abbrev ZM (ml : MlT) (i : Nat) : Nat := ml.2.1 i
abbrev TM (ml : MlT) (i : Nat) : Nat → Nat := fun k => ml.1 (24 * i + k)
def MlB (ml : MlT) : Prop := ml.2.2.2.1 ≤ 600 ∧ (∀ j, ml.2.1 j ≤ 24) ∧ (∀ j, ml.1 j < 128) ∧ (∀ j, ml.2.2.1 j ≤ 1000000000000) ∧ ml.2.2.2.2 ≤ 6000
def smlI (x : Int32) : Int32 := if ¬ x < nI 65 ∧ ¬ nI 90 < x then x + nI 32 else x
theorem lowN_iff {x : Int32} : lowN x ≠ 0 ↔ ((97 ≤ x.toInt ∧ x.toInt ≤ 122) ∨ (65 ≤ x.toInt ∧ x.toInt ≤ 90)) := by
  have e1 : (nI 97).toInt = 97 := nI_toInt (by decide)
  have e2 : (nI 122).toInt = 122 := nI_toInt (by decide)
  have e3 : (nI 65).toInt = 65 := nI_toInt (by decide)
  have e4 : (nI 90).toInt = 90 := nI_toInt (by decide)
  have hs : smB x = true ↔ (97 ≤ x.toInt ∧ x.toInt ≤ 122) := by
    unfold smB
    rw [decide_eq_true_iff, Int32.lt_iff_toInt_lt, Int32.lt_iff_toInt_lt, e1, e2]
    omega
  have hu : (¬ x < nI 65 ∧ ¬ nI 90 < x) ↔ (65 ≤ x.toInt ∧ x.toInt ≤ 90) := by
    rw [Int32.lt_iff_toInt_lt, Int32.lt_iff_toInt_lt, e3, e4]
    omega
  rcases lowN_or x with ⟨h1, h2⟩ | ⟨h1, h2, h3⟩
  · rw [h2]
    constructor
    · intro h
      exact absurd rfl h
    · intro h
      exfalso
      unfold smI at h1
      by_cases hb : smB x = true
      · rw [if_pos hb] at h1
        have := hs.mp hb
        rw [h1] at this
        exact absurd this.1 (by decide +kernel)
      · rw [if_neg hb] at h1
        have hq : ¬ x < nI 65 ∧ ¬ nI 90 < x := hu.mpr (h.resolve_left (fun z => hb (hs.mpr z)))
        rw [if_pos hq] at h1
        have h0 : ¬ x < 0 := fun z => hq.1 (Int32.lt_trans z (by decide +kernel))
        obtain ⟨n, hn, rfl⟩ := nI_of h0
        have h3 := hq.1
        have h4 := hq.2
        rw [nI_ltI hn (by decide)] at h3
        rw [nI_ltI (by decide) hn] at h4
        rw [pk_sub (by omega), nI_add] at h1
        exact absurd (by rw [h1]; decide +kernel) (nI_pos (n := n - 65 + 97) (by omega))
  · refine ⟨fun _ => ?_, fun _ => by omega⟩
    unfold smI at h3
    by_cases hb : smB x = true
    · exact Or.inl (hs.mp hb)
    · rw [if_neg hb] at h3
      by_cases hq : ¬ x < nI 65 ∧ ¬ nI 90 < x
      · exact Or.inr (hu.mp hq)
      · rw [if_neg hq] at h3
        exact absurd (by rw [← h3]; decide +kernel) (nI_pos (n := lowN x) (by omega))
theorem sml_low {x : Int32} (h : lowN x ≠ 0) : smlI x = nI (lowN x) ∧ lowN x < 128 := by
  rcases lowN_or x with ⟨h1, h2⟩ | ⟨h1, h2, h3⟩
  · exact absurd h2 h
  · refine ⟨?_, by omega⟩
    rw [← h3]
    unfold smlI smI
    by_cases hb : smB x = true
    · obtain ⟨n, g1, g2, rfl⟩ := smB_nat hb
      rw [if_pos hb, if_neg (fun z => z.2 ((nI_ltI (by decide) (by omega)).mpr (by omega)))]
    · rw [if_neg hb]
      by_cases hq : ¬ x < nI 65 ∧ ¬ nI 90 < x
      · rw [if_pos hq, if_pos hq]
        have h0 : ¬ x < 0 := fun z => hq.1 (Int32.lt_trans z (by decide +kernel))
        obtain ⟨n, hn, rfl⟩ := nI_of h0
        have h5 := hq.1
        rw [nI_ltI hn (by decide)] at h5
        rw [pk_sub (by omega), nI_add, nI_add]
        congr 1
        omega
      · unfold smI at h3
        rw [if_neg hb, if_neg hq] at h3
        exact absurd (by rw [← h3]; decide +kernel) (nI_pos (n := lowN x) (by omega))
theorem sub_eq0 {p q : Nat} (hp : p < 2 ^ 30) (hq : q < 2 ^ 30) : nI p - nI q = 0 ↔ p = q := by
  constructor
  · intro h
    have h1 := pk_sub_toInt hp hq
    rw [h] at h1
    have h2 : (0 : Int32).toInt = 0 := rfl
    omega
  · intro h
    rw [h, pk_sub (Nat.le_refl _), Nat.sub_self]
    rfl
theorem sub_ge0 {p q : Nat} (hp : p < 2 ^ 30) (hq : q < 2 ^ 30) : 0 ≤ nI p - nI q ↔ q ≤ p := by
  have h1 := pk_sub_toInt hp hq
  rw [Int32.le_iff_toInt_le, h1]
  have h2 : (0 : Int32).toInt = 0 := rfl
  omega
/-- what compare answers -/
def CmpIs (f : Nat → Nat) (n : Nat) (g : Nat → Nat) (z : Nat) (x : Int32) : Prop := (ltF f n g z ∧ x = -1) ∨ (eqF f n g z ∧ x = nI 0) ∨ (ltF g z f n ∧ x = nI 1)
theorem cmp_ex (f : Nat → Nat) (n : Nat) (g : Nat → Nat) (z : Nat) : ∃ x, CmpIs f n g z x := by
  rcases ltF_tri f n g z with h | h | h
  · exact ⟨_, Or.inl ⟨h, rfl⟩⟩
  · exact ⟨_, Or.inr (Or.inl ⟨h, rfl⟩)⟩
  · exact ⟨_, Or.inr (Or.inr ⟨h, rfl⟩)⟩
theorem cpy_lt {f g : Nat → Nat} {sp dp n M : Nat} (hf : ∀ j, f j < M) (hg : ∀ j, g j < M) : ∀ j, va_cpy f g sp dp n j < M := fun j => by
  unfold va_cpy
  split
  · exact hf _
  · exact hg _
theorem cpy_0 (f g : Nat → Nat) (sp dp : Nat) : va_cpy f g sp dp 0 = g := by
  funext j
  unfold va_cpy
  rw [if_neg (by omega)]
theorem cpy_step {f g : Nat → Nat} {sp dp k v : Nat} (hv : v = f (sp + k)) : va_up (va_cpy f g sp dp k) (dp + k) v = va_cpy f g sp dp (k + 1) := by
  funext j
  unfold va_up va_cpy
  by_cases e : j = dp + k
  · rw [if_pos e, if_pos (by omega), hv, e]
    exact cg (by omega)
  · rw [if_neg e]
    by_cases q : dp ≤ j ∧ j < dp + k
    · rw [if_pos q, if_pos (by omega)]
    · rw [if_neg q, if_neg (by omega)]
theorem up_le {f : Nat → Nat} {k v M : Nat} (h : ∀ j, f j ≤ M) (hv : v ≤ M) : ∀ j, va_up f k v j ≤ M := fun j => by
  unfold va_up
  split
  · exact hv
  · exact h j
theorem up_ne {f : Nat → Nat} {k v j : Nat} (h : j ≠ k) : va_up f k v j = f j := if_neg h
theorem up_eq {f : Nat → Nat} {k v : Nat} : va_up f k v k = v := if_pos rfl
/-- the rows from k on have gone one place on -/
def ShM (ml ml2 : MlT) (k : Nat) : Prop := MlB ml2 ∧ ml2.2.2.2.1 = ml.2.2.2.1 ∧ ml2.2.2.2.2 = ml.2.2.2.2 ∧ (∀ i, i < k → ml2.2.1 i = ml.2.1 i ∧ (∀ j, j < 24 → ml2.1 (24 * i + j) = ml.1 (24 * i + j)) ∧ ml2.2.2.1 i = ml.2.2.1 i) ∧ (∀ i, k ≤ i → i < ml.2.2.2.1 → ml2.2.1 (i + 1) = ml.2.1 i ∧ (∀ j, j < 24 → ml2.1 (24 * (i + 1) + j) = ml.1 (24 * i + j)) ∧ ml2.2.2.1 (i + 1) = ml.2.2.1 i)
theorem shM_step {ml ml2 : MlT} {k : Nat} (h : ShM ml ml2 k) (hk : 0 < k) (hc : k ≤ ml.2.2.2.1) : ShM ml (va_cpy ml2.1 ml2.1 (24 * (k - 1)) (24 * k) 24, va_up ml2.2.1 k (ml2.2.1 (k - 1)), va_up ml2.2.2.1 k (ml2.2.2.1 (k - 1)), ml2.2.2.2.1, ml2.2.2.2.2) (k - 1) := by
  obtain ⟨⟨b1, b2, b3, b4, b5⟩, h2, h3, h4, h5⟩ := h
  refine ⟨⟨b1, up_le b2 (b2 _), cpy_lt b3 b3, up_le b4 (b4 _), b5⟩, h2, h3, fun i hi => ?_, fun i hi hc2 => ?_⟩
  · obtain ⟨q1, q2, q3⟩ := h4 i (by omega)
    refine ⟨by show va_up _ _ _ i = _; rw [up_ne (by omega)]; exact q1, fun j hj => ?_, by show va_up _ _ _ i = _; rw [up_ne (by omega)]; exact q3⟩
    show va_cpy ml2.1 ml2.1 _ _ _ _ = _
    rw [pk_cpy_out (Or.inl (by omega))]
    exact q2 j hj
  · rcases Nat.lt_or_ge i k with z | z
    · have e : i = k - 1 := by omega
      obtain ⟨q1, q2, q3⟩ := h4 (k - 1) (by omega)
      rw [e, show k - 1 + 1 = k by omega]
      refine ⟨by show va_up _ _ _ k = _; rw [up_eq]; exact q1, fun j hj => ?_, by show va_up _ _ _ k = _; rw [up_eq]; exact q3⟩
      show va_cpy ml2.1 ml2.1 _ _ _ _ = _
      rw [pk_cpy_in (by omega) (by omega), ← q2 j hj]
      exact cg (by omega)
    · obtain ⟨q1, q2, q3⟩ := h5 i z hc2
      refine ⟨by show va_up _ _ _ (i + 1) = _; rw [up_ne (by omega)]; exact q1, fun j hj => ?_, by show va_up _ _ _ (i + 1) = _; rw [up_ne (by omega)]; exact q3⟩
      show va_cpy ml2.1 ml2.1 _ _ _ _ = _
      rw [pk_cpy_out (Or.inr (by omega))]
      exact q2 j hj
theorem shM_ins {ml ml2 : MlT} {p n wt : Nat} {f : Nat → Nat} (hM : MlB ml) (h : ShM ml ml2 p) (hp : p ≤ ml.2.2.2.1) (hn : n ≤ 24) (hf : ∀ j, j < n → f j < 128) (hr : ml.2.2.2.1 < 600 ∧ ml.2.2.2.2 + n ≤ 6000) (hw : wt ≤ 1000000000000) :
    MlB (va_cpy f ml2.1 0 (24 * p) n, va_up ml2.2.1 p n, va_up ml2.2.2.1 p wt, ml2.2.2.2.1 + 1, ml2.2.2.2.2 + n) ∧ VIns ml.2.2.2.1 p (ZM ml) (TM ml) ml.2.2.1 (ZM (va_cpy f ml2.1 0 (24 * p) n, va_up ml2.2.1 p n, va_up ml2.2.2.1 p wt, ml2.2.2.2.1 + 1, ml2.2.2.2.2 + n)) (TM (va_cpy f ml2.1 0 (24 * p) n, va_up ml2.2.1 p n, va_up ml2.2.2.1 p wt, ml2.2.2.2.1 + 1, ml2.2.2.2.2 + n)) (va_up ml2.2.2.1 p wt) f n wt := by
  obtain ⟨⟨b1, b2, b3, b4, b5⟩, h2, h3, h4, h5⟩ := h
  have hz := hM.2.1
  refine ⟨⟨by show ml2.2.2.2.1 + 1 ≤ 600; omega, up_le b2 hn, fun j => ?_, up_le b4 hw, by show ml2.2.2.2.2 + n ≤ 6000; omega⟩, fun i hi => ?_, ⟨?_, fun k hk => ?_, ?_⟩, fun i hi hc => ?_⟩
  · show va_cpy f ml2.1 0 (24 * p) n j < 128
    unfold va_cpy
    by_cases q : 24 * p ≤ j ∧ j < 24 * p + n
    · rw [if_pos q]
      exact hf _ (by omega)
    · rw [if_neg q]
      exact b3 j
  · obtain ⟨q1, q2, q3⟩ := h4 i hi
    refine ⟨by show va_up _ _ _ i = _; rw [up_ne (by omega)]; exact q1, fun k hk => ?_, by show va_up _ _ _ i = _; rw [up_ne (by omega)]; exact q3⟩
    show va_cpy f ml2.1 0 (24 * p) n (24 * i + k) = ml.1 (24 * i + k)
    have := hz i
    have hk : k < ml.2.1 i := hk
    rw [pk_cpy_out (Or.inl (by omega))]
    exact q2 k (by omega)
  · exact up_eq
  · show va_cpy f ml2.1 0 (24 * p) n (24 * p + k) = f k
    rw [pk_cpy_in (by omega) (by omega)]
    exact cg (by omega)
  · exact up_eq
  · obtain ⟨q1, q2, q3⟩ := h5 i hi hc
    refine ⟨by show va_up _ _ _ (i + 1) = _; rw [up_ne (by omega)]; exact q1, fun k hk => ?_, by show va_up _ _ _ (i + 1) = _; rw [up_ne (by omega)]; exact q3⟩
    show va_cpy f ml2.1 0 (24 * p) n (24 * (i + 1) + k) = ml.1 (24 * i + k)
    have := hz i
    have hk : k < ml.2.1 i := hk
    rw [pk_cpy_out (Or.inr (by omega))]
    exact q2 k (by omega)
abbrev rmX6_isSmall : Room := { frames := 0, cells := 0, slots := 0, locals := 0 }
set_option maxHeartbeats 4000000 in
set_option maxRecDepth 100000 in
theorem mX6_isSmall (l : Launch) (D : va_G) (b : Nat → Nat) (cs : Nat → ClassId) (mt : (Nat → Int32) × Nat) (ml : (Nat → Nat) × (Nat → Nat) × (Nat → Nat) × Nat × Nat) (mr : (Nat → Nat) × (Nat → Nat) × (Nat → Nat) × (Nat → Nat) × Nat) (mk : (Nat → Bool) × (Nat → Nat) × (Nat → Nat)) (x : Int32) : Met l yX6_isSmall wsX6_isSmall rmX6_isSmall (wdP D vwCl (wM b cs mt ml mr mk) (tyX cs) [.int (x)]) (rdQ (.int (bI (smB x)))) 0 0 (fun _ => False) := by
  refine nz_metRi (by decide) rfl (Nat.le_of_ble_eq_true rfl) (bI_nar _) ?_
  intro p e s m args below meth c Q hx hb hml hts hown hP hK hret ls hl
  have hl : lv_has ls 1 [(0, .int (x))] := hl
  have hown : s.vm.findClass RX6 = some m.cls := hown
  refine lv_iload_n hx hb dX6_isSmall_0 rfl (lv_at hl 0 rfl) ?_
  refine lv_bipush (v := nI 97) hx hb dX6_isSmall_1 (by decide +kernel) ?_
  refine lv_icmp_lt (tgt := 16) hx hb dX6_isSmall_3 (by decide) (fun c_3 => ?_) (fun c_3 => ?_)
  · refine lv_iconst (v := nI 0) hx hb dX6_isSmall_16 (by decide +kernel) ?_
    have hz : smB x = false := by unfold smB; rw [decide_eq_false_iff_not]; intro hh; first | exact hh.1 c_3 | exact hh.2 c_9
    rw [hz] at hret
    refine nz_top bI_f ?_
    exact hret 17 ls dX6_isSmall_17
  · refine lv_iload_n hx hb dX6_isSmall_6 rfl (lv_at hl 0 rfl) ?_
    refine lv_bipush (v := nI 122) hx hb dX6_isSmall_7 (by decide +kernel) ?_
    refine lv_icmp_gt (tgt := 16) hx hb dX6_isSmall_9 (by decide) (fun c_9 => ?_) (fun c_9 => ?_)
    · refine lv_iconst (v := nI 0) hx hb dX6_isSmall_16 (by decide +kernel) ?_
      have hz : smB x = false := by unfold smB; rw [decide_eq_false_iff_not]; intro hh; first | exact hh.1 c_3 | exact hh.2 c_9
      rw [hz] at hret
      refine nz_top bI_f ?_
      exact hret 17 ls dX6_isSmall_17
    · refine lv_iconst (v := nI 1) hx hb dX6_isSmall_12 (by decide +kernel) ?_
      refine lv_goto (tgt := 17) hx hb dX6_isSmall_13 (by decide) ?_
      have hz : smB x = true := by unfold smB; rw [decide_eq_true_iff]; exact ⟨c_3, c_9⟩
      rw [hz] at hret
      refine nz_top bI_t ?_
      exact hret 17 ls dX6_isSmall_17
abbrev rmX6_small : Room := { frames := 0, cells := 0, slots := 0, locals := 0 }
set_option maxHeartbeats 4000000 in
set_option maxRecDepth 100000 in
theorem mX6_small (l : Launch) (D : va_G) (b : Nat → Nat) (cs : Nat → ClassId) (mt : (Nat → Int32) × Nat) (ml : (Nat → Nat) × (Nat → Nat) × (Nat → Nat) × Nat × Nat) (mr : (Nat → Nat) × (Nat → Nat) × (Nat → Nat) × (Nat → Nat) × Nat) (mk : (Nat → Bool) × (Nat → Nat) × (Nat → Nat)) (x : Int32) : Met l yX6_small wsX6_small rmX6_small (wdP D vwCl (wM b cs mt ml mr mk) (tyX cs) [.int (x)]) (rdQ (.int (smlI x))) 0 0 (fun _ => False) := by
  refine nz_metRi (by decide) rfl (Nat.le_of_ble_eq_true rfl) rfl ?_
  intro p e s m args below meth c Q hx hb hml hts hown hP hK hret ls hl
  have hl : lv_has ls 1 [(0, .int (x))] := hl
  have hown : s.vm.findClass RX6 = some m.cls := hown
  refine lv_iload_n hx hb dX6_small_0 rfl (lv_at hl 0 rfl) ?_
  refine lv_bipush (v := nI 65) hx hb dX6_small_1 (by decide +kernel) ?_
  refine lv_icmp_lt (tgt := 19) hx hb dX6_small_3 (by decide) (fun c_3 => ?_) (fun c_3 => ?_)
  · refine lv_iload_n hx hb dX6_small_19 rfl (lv_at hl 0 rfl) ?_
    have hz : smlI x = x := by unfold smlI; rw [if_neg (by intro hh; first | exact hh.1 c_3 | exact hh.2 c_9)]
    rw [hz] at hret
    exact hret 20 ls dX6_small_20
  · refine lv_iload_n hx hb dX6_small_6 rfl (lv_at hl 0 rfl) ?_
    refine lv_bipush (v := nI 90) hx hb dX6_small_7 (by decide +kernel) ?_
    refine lv_icmp_gt (tgt := 19) hx hb dX6_small_9 (by decide) (fun c_9 => ?_) (fun c_9 => ?_)
    · refine lv_iload_n hx hb dX6_small_19 rfl (lv_at hl 0 rfl) ?_
      have hz : smlI x = x := by unfold smlI; rw [if_neg (by intro hh; first | exact hh.1 c_3 | exact hh.2 c_9)]
      rw [hz] at hret
      exact hret 20 ls dX6_small_20
    · refine lv_iload_n hx hb dX6_small_12 rfl (lv_at hl 0 rfl) ?_
      refine lv_bipush (v := nI 32) hx hb dX6_small_13 (by decide +kernel) ?_
      refine lv_iadd hx hb dX6_small_15 ?_
      refine lv_goto (tgt := 20) hx hb dX6_small_16 (by decide) ?_
      have hz : smlI x = x + nI (32) := by unfold smlI; rw [if_pos ⟨c_3, c_9⟩]
      rw [hz] at hret
      exact hret 20 ls dX6_small_20
abbrev rmX6_isLetter : Room := { frames := 0, cells := 0, slots := 0, locals := 0 }
set_option maxHeartbeats 4000000 in
set_option maxRecDepth 100000 in
theorem mX6_isLetter (l : Launch) (D : va_G) (b : Nat → Nat) (cs : Nat → ClassId) (mt : (Nat → Int32) × Nat) (ml : (Nat → Nat) × (Nat → Nat) × (Nat → Nat) × Nat × Nat) (mr : (Nat → Nat) × (Nat → Nat) × (Nat → Nat) × (Nat → Nat) × Nat) (mk : (Nat → Bool) × (Nat → Nat) × (Nat → Nat)) (x : Int32) : Met l yX6_isLetter wsX6_isLetter rmX6_isLetter (wdP D vwCl (wM b cs mt ml mr mk) (tyX cs) [.int (x)]) (rdQ (.int (bI (decide (lowN x ≠ 0))))) 0 0 (fun _ => False) := by
  have e97 : (nI 97).toInt = 97 := nI_toInt (by decide)
  have e122 : (nI 122).toInt = 122 := nI_toInt (by decide)
  have e65 : (nI 65).toInt = 65 := nI_toInt (by decide)
  have e90 : (nI 90).toInt = 90 := nI_toInt (by decide)
  refine nz_metRi (by decide) rfl (Nat.le_of_ble_eq_true rfl) (bI_nar _) ?_
  intro p e s m args below meth c Q hx hb hml hts hown hP hK hret ls hl
  have hl : lv_has ls 1 [(0, .int (x))] := hl
  have hown : s.vm.findClass RX6 = some m.cls := hown
  refine lv_iload_n hx hb dX6_isLetter_0 rfl (lv_at hl 0 rfl) ?_
  refine lv_bipush (v := nI 97) hx hb dX6_isLetter_1 (by decide +kernel) ?_
  refine lv_icmp_lt (tgt := 12) hx hb dX6_isLetter_3 (by decide) (fun c_3 => ?_) (fun c_3 => ?_)
  · refine lv_iload_n hx hb dX6_isLetter_12 rfl (lv_at hl 0 rfl) ?_
    refine lv_bipush (v := nI 65) hx hb dX6_isLetter_13 (by decide +kernel) ?_
    refine lv_icmp_lt (tgt := 28) hx hb dX6_isLetter_15 (by decide) (fun c_15 => ?_) (fun c_15 => ?_)
    · refine lv_iconst (v := nI 0) hx hb dX6_isLetter_28 (by decide +kernel) ?_
      simp only [Int32.lt_iff_toInt_lt, Int32.le_iff_toInt_le, e97, e122, e65, e90] at *
      have hz : decide (lowN x ≠ 0) = false := by rw [decide_eq_false_iff_not, lowN_iff]; omega
      rw [hz] at hret
      refine nz_top bI_f ?_
      exact hret 29 ls dX6_isLetter_29
    · refine lv_iload_n hx hb dX6_isLetter_18 rfl (lv_at hl 0 rfl) ?_
      refine lv_bipush (v := nI 90) hx hb dX6_isLetter_19 (by decide +kernel) ?_
      refine lv_icmp_gt (tgt := 28) hx hb dX6_isLetter_21 (by decide) (fun c_21 => ?_) (fun c_21 => ?_)
      · refine lv_iconst (v := nI 0) hx hb dX6_isLetter_28 (by decide +kernel) ?_
        simp only [Int32.lt_iff_toInt_lt, Int32.le_iff_toInt_le, e97, e122, e65, e90] at *
        have hz : decide (lowN x ≠ 0) = false := by rw [decide_eq_false_iff_not, lowN_iff]; omega
        rw [hz] at hret
        refine nz_top bI_f ?_
        exact hret 29 ls dX6_isLetter_29
      · refine lv_iconst (v := nI 1) hx hb dX6_isLetter_24 (by decide +kernel) ?_
        refine lv_goto (tgt := 29) hx hb dX6_isLetter_25 (by decide) ?_
        simp only [Int32.lt_iff_toInt_lt, Int32.le_iff_toInt_le, e97, e122, e65, e90] at *
        have hz : decide (lowN x ≠ 0) = true := by rw [decide_eq_true_iff, lowN_iff]; omega
        rw [hz] at hret
        refine nz_top bI_t ?_
        exact hret 29 ls dX6_isLetter_29
  · refine lv_iload_n hx hb dX6_isLetter_6 rfl (lv_at hl 0 rfl) ?_
    refine lv_bipush (v := nI 122) hx hb dX6_isLetter_7 (by decide +kernel) ?_
    refine lv_icmp_le (tgt := 24) hx hb dX6_isLetter_9 (by decide) (fun c_9 => ?_) (fun c_9 => ?_)
    · refine lv_iconst (v := nI 1) hx hb dX6_isLetter_24 (by decide +kernel) ?_
      refine lv_goto (tgt := 29) hx hb dX6_isLetter_25 (by decide) ?_
      simp only [Int32.lt_iff_toInt_lt, Int32.le_iff_toInt_le, e97, e122, e65, e90] at *
      have hz : decide (lowN x ≠ 0) = true := by rw [decide_eq_true_iff, lowN_iff]; omega
      rw [hz] at hret
      refine nz_top bI_t ?_
      exact hret 29 ls dX6_isLetter_29
    · refine lv_iload_n hx hb dX6_isLetter_12 rfl (lv_at hl 0 rfl) ?_
      refine lv_bipush (v := nI 65) hx hb dX6_isLetter_13 (by decide +kernel) ?_
      refine lv_icmp_lt (tgt := 28) hx hb dX6_isLetter_15 (by decide) (fun c_15 => ?_) (fun c_15 => ?_)
      · refine lv_iconst (v := nI 0) hx hb dX6_isLetter_28 (by decide +kernel) ?_
        simp only [Int32.lt_iff_toInt_lt, Int32.le_iff_toInt_le, e97, e122, e65, e90] at *
        have hz : decide (lowN x ≠ 0) = false := by rw [decide_eq_false_iff_not, lowN_iff]; omega
        rw [hz] at hret
        refine nz_top bI_f ?_
        exact hret 29 ls dX6_isLetter_29
      · refine lv_iload_n hx hb dX6_isLetter_18 rfl (lv_at hl 0 rfl) ?_
        refine lv_bipush (v := nI 90) hx hb dX6_isLetter_19 (by decide +kernel) ?_
        refine lv_icmp_gt (tgt := 28) hx hb dX6_isLetter_21 (by decide) (fun c_21 => ?_) (fun c_21 => ?_)
        · refine lv_iconst (v := nI 0) hx hb dX6_isLetter_28 (by decide +kernel) ?_
          simp only [Int32.lt_iff_toInt_lt, Int32.le_iff_toInt_le, e97, e122, e65, e90] at *
          have hz : decide (lowN x ≠ 0) = false := by rw [decide_eq_false_iff_not, lowN_iff]; omega
          rw [hz] at hret
          refine nz_top bI_f ?_
          exact hret 29 ls dX6_isLetter_29
        · refine lv_iconst (v := nI 1) hx hb dX6_isLetter_24 (by decide +kernel) ?_
          refine lv_goto (tgt := 29) hx hb dX6_isLetter_25 (by decide) ?_
          simp only [Int32.lt_iff_toInt_lt, Int32.le_iff_toInt_le, e97, e122, e65, e90] at *
          have hz : decide (lowN x ≠ 0) = true := by rw [decide_eq_true_iff, lowN_iff]; omega
          rw [hz] at hret
          refine nz_top bI_t ?_
          exact hret 29 ls dX6_isLetter_29
abbrev rmX6_feed : Room := { frames := 0, cells := 0, slots := 0, locals := 0 }
set_option maxHeartbeats 4000000 in
set_option maxRecDepth 100000 in
theorem mX6_feed (l : Launch) (D : va_G) (b : Nat → Nat) (cs : Nat → ClassId) (mt : (Nat → Int32) × Nat) (ml : (Nat → Nat) × (Nat → Nat) × (Nat → Nat) × Nat × Nat) (mr : (Nat → Nat) × (Nat → Nat) × (Nat → Nat) × (Nat → Nat) × Nat) (mk : (Nat → Bool) × (Nat → Nat) × (Nat → Nat)) (v : Int32) (bb : Bool) (hb2 : wInjM b) (hT : mt.2 ≤ 400) (hbb : bb = true ↔ mt.2 ≤ 396) : Met l yX6_feed wsX6_feed rmX6_feed (wdP D vwCl (wM b cs mt ml mr mk) (tyX cs) [.ref (b 0), .int (v)]) (wrQ (some (.int (bif bb then nI (mt.2 + 1 + 1 + 1 + 1) else (-2)))) (fun H => va_P D vwCl (wM b cs (bif bb then tpFeed mt v else mt) ml mr mk) H) (inM b)) 0 0 (inM b) := by
  refine nz_metWi (by decide) rfl (Nat.le_of_ble_eq_true rfl) rfl ?_
  intro p e s m args below meth c Q hx hb hml hts hown hP hK hret ls hl
  have hl : lv_has ls 3 [(0, .ref (b 0)), (1, .int (v))] := hl
  have hown : s.vm.findClass RX6 = some m.cls := hown
  have hinX6 : ∀ w ∈ u_ws RX6 TX6 15, w ∈ wsX6_feed := by decide +kernel
  have hS : va_S (inM b) s.heap s.heap [] := va_S.rf
  obtain ⟨H, hH⟩ : ∃ H, H = s.heap := ⟨_, rfl⟩
  obtain ⟨locs, hlocs⟩ : ∃ locs : List Loc, locs = [] := ⟨_, rfl⟩
  have hP : va_P D vwCl (wM b cs mt ml mr mk) H := hH ▸ hP
  have hS : va_S (inM b) s.heap H locs := by rw [hH, hlocs]; exact va_S.rf
  suffices hgo : W p l e rmX6_feed s m args below meth c H locs 0 0 Q (F0 m 0 ls []) by rw [hH, hlocs] at hgo; exact hgo
  clear hH hlocs
  refine lv_aload_n hx hb dX6_feed_0 rfl (lv_at hl 0 rfl) ?_
  refine va_get (D := D) (ci := 6) (v := .int (nI (mt.2))) (C := RX6) (T := TX6) (N := 15) hx hb hts hinX6 hown hK hP 0 rfl rfl 1 (by decide) (hts (.fieldLink RX6 50 "TypoSuggesterModel" "tapeSize" "I") (by decide +kernel)) (fun _ h9 => h9) rfl dX6_feed_1 ?_
  refine lv_iconst (v := nI 4) hx hb dX6_feed_4 (by decide +kernel) ?_
  refine nz_iadd (a := mt.2) (b := 4) hx hb dX6_feed_5 ?_
  refine lv_sipush (v := nI 400) hx hb dX6_feed_6 (by decide +kernel) ?_
  refine nz_cle (a := mt.2 + 4) (b := 400) (tgt := 15) hx hb dX6_feed_9 (by decide) (by omega) (by omega) (fun c_9 => ?_) (fun c_9 => ?_)
  · refine lv_bipush (v := nI 24) hx hb dX6_feed_15 (by decide +kernel) ?_
    refine lv_istore_n (lv' := [(2, .int (nI (24))), (0, .ref (b 0)), (1, .int (v))]) hx hb dX6_feed_17 rfl hl (by decide) rfl (fun ls hl => ?_)
    refine lv_iload_n hx hb dX6_feed_18 rfl (lv_at hl 0 rfl) ?_
    refine nz_iflt (a := 24) (tgt := 51) hx hb dX6_feed_19 (by decide) (by omega) ?_
    refine lv_aload_n hx hb dX6_feed_22 rfl (lv_at hl 1 rfl) ?_
    refine va_get (D := D) (ci := 6) (v := .ref (b 1)) (C := RX6) (T := TX6) (N := 15) hx hb hts hinX6 hown hK hP 0 rfl rfl 0 (by decide) (hts (.fieldLink RX6 7 "TypoSuggesterModel" "tape" "[B") (by decide +kernel)) (fun _ h9 => h9) rfl dX6_feed_23 ?_
    refine lv_aload_n hx hb dX6_feed_26 rfl (lv_at hl 1 rfl) ?_
    refine va_get (D := D) (ci := 6) (v := .int (nI (mt.2))) (C := RX6) (T := TX6) (N := 15) hx hb hts hinX6 hown hK hP 0 rfl rfl 1 (by decide) (hts (.fieldLink RX6 50 "TypoSuggesterModel" "tapeSize" "I") (by decide +kernel)) (fun _ h9 => h9) rfl dX6_feed_27 ?_
    refine lv_iload_n hx hb dX6_feed_30 rfl (lv_at hl 2 rfl) ?_
    refine lv_iload_n hx hb dX6_feed_31 rfl (lv_at hl 0 rfl) ?_
    refine lv_ishr hx hb dX6_feed_32 ?_
    refine lv_i2b (v := (v >>> ((nI (24)) &&& 31)).toInt8.toInt32) hx hb dX6_feed_33 rfl ?_
    refine nz_bastR (f := mt.1) (k := mt.2) (v := (v >>> ((nI (24)) &&& 31)).toInt8.toInt32) (ws' := wM b cs (upd mt.1 mt.2 ((v >>> ((nI (24)) &&& 31)).toInt8.toInt32).toInt8.toInt32, mt.2) ml mr mk) hx hb hK hP (wM_D hb2) hS 1 0 rfl rfl (by omega) (by decide) dX6_feed_34 rfl (fun H locs hP hS => ?_)
    refine lv_aload_n hx hb dX6_feed_35 rfl (lv_at hl 1 rfl) ?_
    refine lv_dup hx hb dX6_feed_36 rfl ?_
    refine va_get (D := D) (ci := 6) (v := .int (nI (mt.2))) (C := RX6) (T := TX6) (N := 15) hx hb hts hinX6 hown hK hP 0 rfl rfl 1 (by decide) (hts (.fieldLink RX6 50 "TypoSuggesterModel" "tapeSize" "I") (by decide +kernel)) (fun _ h9 => h9) rfl dX6_feed_37 ?_
    refine lv_iconst (v := nI 1) hx hb dX6_feed_40 (by decide +kernel) ?_
    refine nz_iadd (a := mt.2) (b := 1) hx hb dX6_feed_41 ?_
    refine nz_put (D := D) (ci := 6) (v := .int (nI (mt.2 + 1))) (ty := .int) (ws' := wM b cs (upd mt.1 mt.2 ((v >>> ((nI (24)) &&& 31)).toInt8.toInt32).toInt8.toInt32, mt.2 + 1) ml mr mk) (C := RX6) (T := TX6) (N := 15) hx hb hts hinX6 tyX6 tyX6_ok nmX6 hown hK hP (wM_D hb2) hS 0 rfl rfl 1 (by decide) (hts (.fieldLink RX6 50 "TypoSuggesterModel" "tapeSize" "I") (by decide +kernel)) (fun _ h9 => h9) rfl (by decide +kernel) rfl rfl (Nat.le_of_ble_eq_true rfl) dX6_feed_42 rfl (fun H locs hP hS => ?_)
    refine lv_iinc (v := nI (16)) (lv' := [(2, .int (nI (16))), (0, .ref (b 0)), (1, .int (v))]) hx hb dX6_feed_45 hl (k := 0) rfl (by decide +kernel) (by decide) rfl (fun ls hl => ?_)
    refine lv_goto (tgt := 18) hx hb dX6_feed_48 (by decide) ?_
    refine lv_iload_n hx hb dX6_feed_18 rfl (lv_at hl 0 rfl) ?_
    refine nz_iflt (a := 16) (tgt := 51) hx hb dX6_feed_19 (by decide) (by omega) ?_
    refine lv_aload_n hx hb dX6_feed_22 rfl (lv_at hl 1 rfl) ?_
    refine va_get (D := D) (ci := 6) (v := .ref (b 1)) (C := RX6) (T := TX6) (N := 15) hx hb hts hinX6 hown hK hP 0 rfl rfl 0 (by decide) (hts (.fieldLink RX6 7 "TypoSuggesterModel" "tape" "[B") (by decide +kernel)) (fun _ h9 => h9) rfl dX6_feed_23 ?_
    refine lv_aload_n hx hb dX6_feed_26 rfl (lv_at hl 1 rfl) ?_
    refine va_get (D := D) (ci := 6) (v := .int (nI (mt.2 + 1))) (C := RX6) (T := TX6) (N := 15) hx hb hts hinX6 hown hK hP 0 rfl rfl 1 (by decide) (hts (.fieldLink RX6 50 "TypoSuggesterModel" "tapeSize" "I") (by decide +kernel)) (fun _ h9 => h9) rfl dX6_feed_27 ?_
    refine lv_iload_n hx hb dX6_feed_30 rfl (lv_at hl 2 rfl) ?_
    refine lv_iload_n hx hb dX6_feed_31 rfl (lv_at hl 0 rfl) ?_
    refine lv_ishr hx hb dX6_feed_32 ?_
    refine lv_i2b (v := (v >>> ((nI (16)) &&& 31)).toInt8.toInt32) hx hb dX6_feed_33 rfl ?_
    refine nz_bastR (f := upd mt.1 mt.2 ((v >>> ((nI (24)) &&& 31)).toInt8.toInt32).toInt8.toInt32) (k := mt.2 + 1) (v := (v >>> ((nI (16)) &&& 31)).toInt8.toInt32) (ws' := wM b cs (upd (upd mt.1 mt.2 ((v >>> ((nI (24)) &&& 31)).toInt8.toInt32).toInt8.toInt32) (mt.2 + 1) ((v >>> ((nI (16)) &&& 31)).toInt8.toInt32).toInt8.toInt32, mt.2 + 1) ml mr mk) hx hb hK hP (wM_D hb2) hS 1 0 rfl rfl (by omega) (by decide) dX6_feed_34 rfl (fun H locs hP hS => ?_)
    refine lv_aload_n hx hb dX6_feed_35 rfl (lv_at hl 1 rfl) ?_
    refine lv_dup hx hb dX6_feed_36 rfl ?_
    refine va_get (D := D) (ci := 6) (v := .int (nI (mt.2 + 1))) (C := RX6) (T := TX6) (N := 15) hx hb hts hinX6 hown hK hP 0 rfl rfl 1 (by decide) (hts (.fieldLink RX6 50 "TypoSuggesterModel" "tapeSize" "I") (by decide +kernel)) (fun _ h9 => h9) rfl dX6_feed_37 ?_
    refine lv_iconst (v := nI 1) hx hb dX6_feed_40 (by decide +kernel) ?_
    refine nz_iadd (a := mt.2 + 1) (b := 1) hx hb dX6_feed_41 ?_
    refine nz_put (D := D) (ci := 6) (v := .int (nI (mt.2 + 1 + 1))) (ty := .int) (ws' := wM b cs (upd (upd mt.1 mt.2 ((v >>> ((nI (24)) &&& 31)).toInt8.toInt32).toInt8.toInt32) (mt.2 + 1) ((v >>> ((nI (16)) &&& 31)).toInt8.toInt32).toInt8.toInt32, mt.2 + 1 + 1) ml mr mk) (C := RX6) (T := TX6) (N := 15) hx hb hts hinX6 tyX6 tyX6_ok nmX6 hown hK hP (wM_D hb2) hS 0 rfl rfl 1 (by decide) (hts (.fieldLink RX6 50 "TypoSuggesterModel" "tapeSize" "I") (by decide +kernel)) (fun _ h9 => h9) rfl (by decide +kernel) rfl rfl (Nat.le_of_ble_eq_true rfl) dX6_feed_42 rfl (fun H locs hP hS => ?_)
    refine lv_iinc (v := nI (8)) (lv' := [(2, .int (nI (8))), (0, .ref (b 0)), (1, .int (v))]) hx hb dX6_feed_45 hl (k := 0) rfl (by decide +kernel) (by decide) rfl (fun ls hl => ?_)
    refine lv_goto (tgt := 18) hx hb dX6_feed_48 (by decide) ?_
    refine lv_iload_n hx hb dX6_feed_18 rfl (lv_at hl 0 rfl) ?_
    refine nz_iflt (a := 8) (tgt := 51) hx hb dX6_feed_19 (by decide) (by omega) ?_
    refine lv_aload_n hx hb dX6_feed_22 rfl (lv_at hl 1 rfl) ?_
    refine va_get (D := D) (ci := 6) (v := .ref (b 1)) (C := RX6) (T := TX6) (N := 15) hx hb hts hinX6 hown hK hP 0 rfl rfl 0 (by decide) (hts (.fieldLink RX6 7 "TypoSuggesterModel" "tape" "[B") (by decide +kernel)) (fun _ h9 => h9) rfl dX6_feed_23 ?_
    refine lv_aload_n hx hb dX6_feed_26 rfl (lv_at hl 1 rfl) ?_
    refine va_get (D := D) (ci := 6) (v := .int (nI (mt.2 + 1 + 1))) (C := RX6) (T := TX6) (N := 15) hx hb hts hinX6 hown hK hP 0 rfl rfl 1 (by decide) (hts (.fieldLink RX6 50 "TypoSuggesterModel" "tapeSize" "I") (by decide +kernel)) (fun _ h9 => h9) rfl dX6_feed_27 ?_
    refine lv_iload_n hx hb dX6_feed_30 rfl (lv_at hl 2 rfl) ?_
    refine lv_iload_n hx hb dX6_feed_31 rfl (lv_at hl 0 rfl) ?_
    refine lv_ishr hx hb dX6_feed_32 ?_
    refine lv_i2b (v := (v >>> ((nI (8)) &&& 31)).toInt8.toInt32) hx hb dX6_feed_33 rfl ?_
    refine nz_bastR (f := upd (upd mt.1 mt.2 ((v >>> ((nI (24)) &&& 31)).toInt8.toInt32).toInt8.toInt32) (mt.2 + 1) ((v >>> ((nI (16)) &&& 31)).toInt8.toInt32).toInt8.toInt32) (k := mt.2 + 1 + 1) (v := (v >>> ((nI (8)) &&& 31)).toInt8.toInt32) (ws' := wM b cs (upd (upd (upd mt.1 mt.2 ((v >>> ((nI (24)) &&& 31)).toInt8.toInt32).toInt8.toInt32) (mt.2 + 1) ((v >>> ((nI (16)) &&& 31)).toInt8.toInt32).toInt8.toInt32) (mt.2 + 1 + 1) ((v >>> ((nI (8)) &&& 31)).toInt8.toInt32).toInt8.toInt32, mt.2 + 1 + 1) ml mr mk) hx hb hK hP (wM_D hb2) hS 1 0 rfl rfl (by omega) (by decide) dX6_feed_34 rfl (fun H locs hP hS => ?_)
    refine lv_aload_n hx hb dX6_feed_35 rfl (lv_at hl 1 rfl) ?_
    refine lv_dup hx hb dX6_feed_36 rfl ?_
    refine va_get (D := D) (ci := 6) (v := .int (nI (mt.2 + 1 + 1))) (C := RX6) (T := TX6) (N := 15) hx hb hts hinX6 hown hK hP 0 rfl rfl 1 (by decide) (hts (.fieldLink RX6 50 "TypoSuggesterModel" "tapeSize" "I") (by decide +kernel)) (fun _ h9 => h9) rfl dX6_feed_37 ?_
    refine lv_iconst (v := nI 1) hx hb dX6_feed_40 (by decide +kernel) ?_
    refine nz_iadd (a := mt.2 + 1 + 1) (b := 1) hx hb dX6_feed_41 ?_
    refine nz_put (D := D) (ci := 6) (v := .int (nI (mt.2 + 1 + 1 + 1))) (ty := .int) (ws' := wM b cs (upd (upd (upd mt.1 mt.2 ((v >>> ((nI (24)) &&& 31)).toInt8.toInt32).toInt8.toInt32) (mt.2 + 1) ((v >>> ((nI (16)) &&& 31)).toInt8.toInt32).toInt8.toInt32) (mt.2 + 1 + 1) ((v >>> ((nI (8)) &&& 31)).toInt8.toInt32).toInt8.toInt32, mt.2 + 1 + 1 + 1) ml mr mk) (C := RX6) (T := TX6) (N := 15) hx hb hts hinX6 tyX6 tyX6_ok nmX6 hown hK hP (wM_D hb2) hS 0 rfl rfl 1 (by decide) (hts (.fieldLink RX6 50 "TypoSuggesterModel" "tapeSize" "I") (by decide +kernel)) (fun _ h9 => h9) rfl (by decide +kernel) rfl rfl (Nat.le_of_ble_eq_true rfl) dX6_feed_42 rfl (fun H locs hP hS => ?_)
    refine lv_iinc (v := nI (0)) (lv' := [(2, .int (nI (0))), (0, .ref (b 0)), (1, .int (v))]) hx hb dX6_feed_45 hl (k := 0) rfl (by decide +kernel) (by decide) rfl (fun ls hl => ?_)
    refine lv_goto (tgt := 18) hx hb dX6_feed_48 (by decide) ?_
    refine lv_iload_n hx hb dX6_feed_18 rfl (lv_at hl 0 rfl) ?_
    refine nz_iflt (a := 0) (tgt := 51) hx hb dX6_feed_19 (by decide) (by omega) ?_
    refine lv_aload_n hx hb dX6_feed_22 rfl (lv_at hl 1 rfl) ?_
    refine va_get (D := D) (ci := 6) (v := .ref (b 1)) (C := RX6) (T := TX6) (N := 15) hx hb hts hinX6 hown hK hP 0 rfl rfl 0 (by decide) (hts (.fieldLink RX6 7 "TypoSuggesterModel" "tape" "[B") (by decide +kernel)) (fun _ h9 => h9) rfl dX6_feed_23 ?_
    refine lv_aload_n hx hb dX6_feed_26 rfl (lv_at hl 1 rfl) ?_
    refine va_get (D := D) (ci := 6) (v := .int (nI (mt.2 + 1 + 1 + 1))) (C := RX6) (T := TX6) (N := 15) hx hb hts hinX6 hown hK hP 0 rfl rfl 1 (by decide) (hts (.fieldLink RX6 50 "TypoSuggesterModel" "tapeSize" "I") (by decide +kernel)) (fun _ h9 => h9) rfl dX6_feed_27 ?_
    refine lv_iload_n hx hb dX6_feed_30 rfl (lv_at hl 2 rfl) ?_
    refine lv_iload_n hx hb dX6_feed_31 rfl (lv_at hl 0 rfl) ?_
    refine lv_ishr hx hb dX6_feed_32 ?_
    refine lv_i2b (v := (v >>> ((nI (0)) &&& 31)).toInt8.toInt32) hx hb dX6_feed_33 rfl ?_
    refine nz_bastR (f := upd (upd (upd mt.1 mt.2 ((v >>> ((nI (24)) &&& 31)).toInt8.toInt32).toInt8.toInt32) (mt.2 + 1) ((v >>> ((nI (16)) &&& 31)).toInt8.toInt32).toInt8.toInt32) (mt.2 + 1 + 1) ((v >>> ((nI (8)) &&& 31)).toInt8.toInt32).toInt8.toInt32) (k := mt.2 + 1 + 1 + 1) (v := (v >>> ((nI (0)) &&& 31)).toInt8.toInt32) (ws' := wM b cs (upd (upd (upd (upd mt.1 mt.2 ((v >>> ((nI (24)) &&& 31)).toInt8.toInt32).toInt8.toInt32) (mt.2 + 1) ((v >>> ((nI (16)) &&& 31)).toInt8.toInt32).toInt8.toInt32) (mt.2 + 1 + 1) ((v >>> ((nI (8)) &&& 31)).toInt8.toInt32).toInt8.toInt32) (mt.2 + 1 + 1 + 1) ((v >>> ((nI (0)) &&& 31)).toInt8.toInt32).toInt8.toInt32, mt.2 + 1 + 1 + 1) ml mr mk) hx hb hK hP (wM_D hb2) hS 1 0 rfl rfl (by omega) (by decide) dX6_feed_34 rfl (fun H locs hP hS => ?_)
    refine lv_aload_n hx hb dX6_feed_35 rfl (lv_at hl 1 rfl) ?_
    refine lv_dup hx hb dX6_feed_36 rfl ?_
    refine va_get (D := D) (ci := 6) (v := .int (nI (mt.2 + 1 + 1 + 1))) (C := RX6) (T := TX6) (N := 15) hx hb hts hinX6 hown hK hP 0 rfl rfl 1 (by decide) (hts (.fieldLink RX6 50 "TypoSuggesterModel" "tapeSize" "I") (by decide +kernel)) (fun _ h9 => h9) rfl dX6_feed_37 ?_
    refine lv_iconst (v := nI 1) hx hb dX6_feed_40 (by decide +kernel) ?_
    refine nz_iadd (a := mt.2 + 1 + 1 + 1) (b := 1) hx hb dX6_feed_41 ?_
    refine nz_put (D := D) (ci := 6) (v := .int (nI (mt.2 + 1 + 1 + 1 + 1))) (ty := .int) (ws' := wM b cs (upd (upd (upd (upd mt.1 mt.2 ((v >>> ((nI (24)) &&& 31)).toInt8.toInt32).toInt8.toInt32) (mt.2 + 1) ((v >>> ((nI (16)) &&& 31)).toInt8.toInt32).toInt8.toInt32) (mt.2 + 1 + 1) ((v >>> ((nI (8)) &&& 31)).toInt8.toInt32).toInt8.toInt32) (mt.2 + 1 + 1 + 1) ((v >>> ((nI (0)) &&& 31)).toInt8.toInt32).toInt8.toInt32, mt.2 + 1 + 1 + 1 + 1) ml mr mk) (C := RX6) (T := TX6) (N := 15) hx hb hts hinX6 tyX6 tyX6_ok nmX6 hown hK hP (wM_D hb2) hS 0 rfl rfl 1 (by decide) (hts (.fieldLink RX6 50 "TypoSuggesterModel" "tapeSize" "I") (by decide +kernel)) (fun _ h9 => h9) rfl (by decide +kernel) rfl rfl (Nat.le_of_ble_eq_true rfl) dX6_feed_42 rfl (fun H locs hP hS => ?_)
    refine lv_iinc (v := (-8)) (lv' := [(2, .int ((-8))), (0, .ref (b 0)), (1, .int (v))]) hx hb dX6_feed_45 hl (k := 0) rfl (by decide +kernel) (by decide) rfl (fun ls hl => ?_)
    refine lv_goto (tgt := 18) hx hb dX6_feed_48 (by decide) ?_
    refine lv_iload_n hx hb dX6_feed_18 rfl (lv_at hl 0 rfl) ?_
    refine lv_if_lt (tgt := 51) hx hb dX6_feed_19 (by decide) (fun _ => ?_) (fun z => absurd (by decide +kernel) z)
    refine lv_aload_n hx hb dX6_feed_51 rfl (lv_at hl 1 rfl) ?_
    refine va_get (D := D) (ci := 6) (v := .int (nI (mt.2 + 1 + 1 + 1 + 1))) (C := RX6) (T := TX6) (N := 15) hx hb hts hinX6 hown hK hP 0 rfl rfl 1 (by decide) (hts (.fieldLink RX6 50 "TypoSuggesterModel" "tapeSize" "I") (by decide +kernel)) (fun _ h9 => h9) rfl dX6_feed_52 ?_
    have hbv : bb = true := hbb.mpr (by omega)
    subst hbv
    exact hret 55 ls H locs dX6_feed_55 hP hS
  · refine lv_bipush (v := (-2)) hx hb dX6_feed_12 (by decide +kernel) ?_
    have hbv : bb = false := by cases bb with | false => rfl | true => exact absurd (hbb.mp rfl) (by omega)
    subst hbv
    exact hret 14 ls H locs dX6_feed_14 hP hS
abbrev rmX6_cut : Room := { frames := 0, cells := 0, slots := 0, locals := 0 }
set_option maxHeartbeats 4000000 in
set_option maxRecDepth 100000 in
theorem mX6_cut (l : Launch) (D : va_G) (b : Nat → Nat) (cs : Nat → ClassId) (mt : (Nat → Int32) × Nat) (ml : (Nat → Nat) × (Nat → Nat) × (Nat → Nat) × Nat × Nat) (mr : (Nat → Nat) × (Nat → Nat) × (Nat → Nat) × (Nat → Nat) × Nat) (mk : (Nat → Bool) × (Nat → Nat) × (Nat → Nat)) (x : Int32) (hb2 : wInjM b) (hT : mt.2 ≤ 400) : Met l yX6_cut wsX6_cut rmX6_cut (wdP D vwCl (wM b cs mt ml mr mk) (tyX cs) [.ref (b 0), .int (x)]) (wrQ (some (.int (cutI mt.2 x))) (fun H => va_P D vwCl (wM b cs (mt.1, cutN mt.2 x) ml mr mk) H) (inM b)) 0 0 (inM b) := by
  refine nz_metWi (by decide) rfl (Nat.le_of_ble_eq_true rfl) rfl ?_
  intro p e s m args below meth c Q hx hb hml hts hown hP hK hret ls hl
  have hl : lv_has ls 3 [(0, .ref (b 0)), (1, .int (x))] := hl
  have hown : s.vm.findClass RX6 = some m.cls := hown
  have hinX6 : ∀ w ∈ u_ws RX6 TX6 15, w ∈ wsX6_cut := by decide +kernel
  have hS : va_S (inM b) s.heap s.heap [] := va_S.rf
  obtain ⟨H, hH⟩ : ∃ H, H = s.heap := ⟨_, rfl⟩
  obtain ⟨locs, hlocs⟩ : ∃ locs : List Loc, locs = [] := ⟨_, rfl⟩
  have hP : va_P D vwCl (wM b cs mt ml mr mk) H := hH ▸ hP
  have hS : va_S (inM b) s.heap H locs := by rw [hH, hlocs]; exact va_S.rf
  suffices hgo : W p l e rmX6_cut s m args below meth c H locs 0 0 Q (F0 m 0 ls []) by rw [hH, hlocs] at hgo; exact hgo
  clear hH hlocs
  refine lv_iload_n hx hb dX6_cut_0 rfl (lv_at hl 1 rfl) ?_
  refine lv_if_lt (tgt := 12) hx hb dX6_cut_1 (by decide) (fun c_1 => ?_) (fun c_1 => ?_)
  · have hnc : ¬ (¬ x < 0 ∧ x.toNatClampNeg ≤ mt.2) := fun h => h.1 c_1
    refine lv_iconst (v := (-1)) hx hb dX6_cut_12 (by decide +kernel) ?_
    have hz1 : cutI mt.2 x = -1 := if_neg hnc
    have hz2 : cutN mt.2 x = mt.2 := if_neg hnc
    rw [hz1, hz2] at hret
    exact hret 13 ls H locs dX6_cut_13 hP hS
  · obtain ⟨n1, hn1, rfl⟩ := nI_of c_1
    refine lv_iload_n hx hb dX6_cut_4 rfl (lv_at hl 1 rfl) ?_
    refine lv_aload_n hx hb dX6_cut_5 rfl (lv_at hl 0 rfl) ?_
    refine va_get (D := D) (ci := 6) (v := .int (nI (mt.2))) (C := RX6) (T := TX6) (N := 15) hx hb hts hinX6 hown hK hP 0 rfl rfl 1 (by decide) (hts (.fieldLink RX6 50 "TypoSuggesterModel" "tapeSize" "I") (by decide +kernel)) (fun _ h9 => h9) rfl dX6_cut_6 ?_
    refine nz_cle (a := n1) (b := mt.2) (tgt := 14) hx hb dX6_cut_9 (by decide) (by omega) (by omega) (fun c_9 => ?_) (fun c_9 => ?_)
    · refine lv_aload_n hx hb dX6_cut_14 rfl (lv_at hl 0 rfl) ?_
      refine va_get (D := D) (ci := 6) (v := .int (nI (mt.2))) (C := RX6) (T := TX6) (N := 15) hx hb hts hinX6 hown hK hP 0 rfl rfl 1 (by decide) (hts (.fieldLink RX6 50 "TypoSuggesterModel" "tapeSize" "I") (by decide +kernel)) (fun _ h9 => h9) rfl dX6_cut_15 ?_
      refine lv_iload_n hx hb dX6_cut_18 rfl (lv_at hl 1 rfl) ?_
      refine nz_isub (a := mt.2) (b := n1) hx hb dX6_cut_19 (by omega) ?_
      refine lv_istore_n (lv' := [(2, .int (nI (mt.2 - n1))), (0, .ref (b 0)), (1, .int (nI (n1)))]) hx hb dX6_cut_20 rfl hl (by decide) rfl (fun ls hl => ?_)
      refine lv_aload_n hx hb dX6_cut_21 rfl (lv_at hl 1 rfl) ?_
      refine lv_iload_n hx hb dX6_cut_22 rfl (lv_at hl 2 rfl) ?_
      refine nz_put (D := D) (ci := 6) (v := .int (nI (n1))) (ty := .int) (ws' := wM b cs (mt.1, n1) ml mr mk) (C := RX6) (T := TX6) (N := 15) hx hb hts hinX6 tyX6 tyX6_ok nmX6 hown hK hP (wM_D hb2) hS 0 rfl rfl 1 (by decide) (hts (.fieldLink RX6 50 "TypoSuggesterModel" "tapeSize" "I") (by decide +kernel)) (fun _ h9 => h9) rfl (by decide +kernel) rfl rfl (Nat.le_of_ble_eq_true rfl) dX6_cut_23 rfl (fun H locs hP hS => ?_)
      refine lv_iload_n hx hb dX6_cut_26 rfl (lv_at hl 0 rfl) ?_
      have hz1 : cutI mt.2 (nI n1) = nI (mt.2 - n1) := by unfold cutI; rw [nI_clamp hn1, if_pos ⟨nI_pos hn1, c_9⟩]
      have hz2 : cutN mt.2 (nI n1) = n1 := by unfold cutN; rw [nI_clamp hn1, if_pos ⟨nI_pos hn1, c_9⟩]
      rw [hz1, hz2] at hret
      exact hret 27 ls H locs dX6_cut_27 hP hS
    · have hnc : ¬ (¬ nI n1 < 0 ∧ (nI n1).toNatClampNeg ≤ mt.2) := fun h => by have := h.2; rw [nI_clamp hn1] at this; omega
      refine lv_iconst (v := (-1)) hx hb dX6_cut_12 (by decide +kernel) ?_
      have hz1 : cutI mt.2 (nI n1) = -1 := if_neg hnc
      have hz2 : cutN mt.2 (nI n1) = mt.2 := if_neg hnc
      rw [hz1, hz2] at hret
      exact hret 13 ls H locs dX6_cut_13 hP hS
abbrev rmX6_compare : Room := { frames := 1, cells := 0, slots := 0, locals := 20 }
set_option maxHeartbeats 4000000 in
set_option maxRecDepth 100000 in
theorem mX6_compare (l : Launch) (D : va_G) (b : Nat → Nat) (cs : Nat → ClassId) (mt : (Nat → Int32) × Nat) (ml : (Nat → Nat) × (Nat → Nat) × (Nat → Nat) × Nat × Nat) (mr : (Nat → Nat) × (Nat → Nat) × (Nat → Nat) × (Nat → Nat) × Nat) (mk : (Nat → Bool) × (Nat → Nat) × (Nat → Nat)) (fr : Nat) (ln : Nat) (ti : Nat) (x : Int32) (hM : MlB ml) (hfl : fr + ln ≤ 400) (hln : ln ≤ 24) (hlet : ∀ j, j < ln → lowN (mt.1 (fr + j)) ≠ 0) (hti : ti ≤ 600) (hcx : CmpIs (fun j => lowN (mt.1 (fr + j))) ln (TM ml ti) (ZM ml ti) x) : Met l yX6_compare wsX6_compare rmX6_compare (wdP D vwCl (wM b cs mt ml mr mk) (tyX cs) [.ref (b 0), .int (nI (fr)), .int (nI (ln)), .int (nI (ti))]) (rdQ (.int (x))) 0 0 (fun _ => False) := by
  obtain ⟨hM1, hM2, hM3, hM4, hM5⟩ := id hM
  obtain ⟨r, hr⟩ := lcp_ex (fun j => lowN (mt.1 (fr + j))) (TM ml ti) (min ln (ZM ml ti))
  have hr0 : IsLcp (TM ml ti) (fun j => lowN (mt.1 (fr + j))) (min (ZM ml ti) ln) r := by rw [Nat.min_comm]; exact lcp_sym hr
  have hxx : (r ≠ ml.2.1 ti ∧ (r = ln ∨ lowN (mt.1 (fr + r)) < ml.1 (24 * ti + r))) ∧ x = -1 ∨ (r = ln ∧ r = ml.2.1 ti) ∧ x = nI 0 ∨ (r ≠ ln ∧ (r = ml.2.1 ti ∨ ml.1 (24 * ti + r) < lowN (mt.1 (fr + r)))) ∧ x = nI 1 := by
    unfold CmpIs at hcx
    rw [ltF_iff hr, eqF_iff hr, ltF_iff hr0] at hcx
    exact hcx
  have hr1 : r ≤ min ln (ml.2.1 ti) := hr.1
  have hr2 : ∀ j, j < r → lowN (mt.1 (fr + j)) = ml.1 (24 * ti + j) := hr.2.1
  have hr3 : r < min ln (ml.2.1 ti) → lowN (mt.1 (fr + r)) ≠ ml.1 (24 * ti + r) := hr.2.2
  have hz24 := hM2 ti
  refine nz_metRi (by decide) rfl (Nat.le_of_ble_eq_true rfl) rfl ?_
  intro p e s m args below meth c Q hx hb hml hts hown hP hK hret ls hl
  have hl : lv_has ls 6 [(0, .ref (b 0)), (1, .int (nI (fr))), (2, .int (nI (ln))), (3, .int (nI (ti)))] := hl
  have hown : s.vm.findClass RX6 = some m.cls := hown
  have hinX6 : ∀ w ∈ u_ws RX6 TX6 15, w ∈ wsX6_compare := by decide +kernel
  refine lv_iconst (v := nI 0) hx hb dX6_compare_0 (by decide +kernel) ?_
  refine lv_istore (lv' := [(4, .int (nI (0))), (0, .ref (b 0)), (1, .int (nI (fr))), (2, .int (nI (ln))), (3, .int (nI (ti)))]) hx hb dX6_compare_1 hl (by decide) rfl (fun ls hl => ?_)
  have loop : ∀ (fuel : Nat) (k : Nat), (k ≤ r) → r - k < fuel → ∀ ls : Array Slot, lv_has ls 6 [(0, .ref (b 0)), (1, .int (nI (fr))), (2, .int (nI (ln))), (3, .int (nI (ti))), (4, .int (nI (k)))] → W p l e rmX6_compare s m args below meth c s.heap [] 0 0 Q (F0 m 3 ls []) := by
    intro fuel
    induction fuel with
    | zero => intro k hk hf; exact absurd hf (Nat.not_lt_zero _)
    | succ fuel ih =>
      intro k hk hf ls hl
      refine lv_iload hx hb dX6_compare_3 (lv_at hl 4 rfl) ?_
      refine lv_iload_n hx hb dX6_compare_5 rfl (lv_at hl 2 rfl) ?_
      refine nz_cge (a := k) (b := ln) (tgt := 69) hx hb dX6_compare_6 (by decide) (by omega) (by omega) (fun c_6 => ?_) (fun c_6 => ?_)
      · have hkr : k = r := by omega
        subst hkr
        refine lv_iload_n hx hb dX6_compare_69 rfl (lv_at hl 2 rfl) ?_
        refine lv_aload_n hx hb dX6_compare_70 rfl (lv_at hl 0 rfl) ?_
        refine va_get (D := D) (ci := 6) (v := .ref (b 3)) (C := RX6) (T := TX6) (N := 15) hx hb hts hinX6 hown hK hP 0 rfl rfl 5 (by decide) (hts (.fieldLink RX6 16 "TypoSuggesterModel" "sizes" "[I") (by decide +kernel)) (fun _ h9 => h9) rfl dX6_compare_71 ?_
        refine lv_iload_n hx hb dX6_compare_74 rfl (lv_at hl 3 rfl) ?_
        refine nz_iald (f := ml.2.1) (k := ti) hx hb hK hP 3 1 rfl rfl (by omega) (by decide) dX6_compare_75 ?_
        refine nz_cge (a := ln) (b := ml.2.1 ti) (tgt := 83) hx hb dX6_compare_76 (by decide) (by omega) (by omega) (fun c_76 => ?_) (fun c_76 => ?_)
        · refine lv_iload_n hx hb dX6_compare_83 rfl (lv_at hl 2 rfl) ?_
          refine lv_aload_n hx hb dX6_compare_84 rfl (lv_at hl 0 rfl) ?_
          refine va_get (D := D) (ci := 6) (v := .ref (b 3)) (C := RX6) (T := TX6) (N := 15) hx hb hts hinX6 hown hK hP 0 rfl rfl 5 (by decide) (hts (.fieldLink RX6 16 "TypoSuggesterModel" "sizes" "[I") (by decide +kernel)) (fun _ h9 => h9) rfl dX6_compare_85 ?_
          refine lv_iload_n hx hb dX6_compare_88 rfl (lv_at hl 3 rfl) ?_
          refine nz_iald (f := ml.2.1) (k := ti) hx hb hK hP 3 1 rfl rfl (by omega) (by decide) dX6_compare_89 ?_
          refine nz_cle (a := ln) (b := ml.2.1 ti) (tgt := 97) hx hb dX6_compare_90 (by decide) (by omega) (by omega) (fun c_90 => ?_) (fun c_90 => ?_)
          · refine lv_iconst (v := nI 0) hx hb dX6_compare_97 (by decide +kernel) ?_
            have hxv : x = nI (0) := by
              rcases hxx with ⟨h, e⟩ | ⟨h, e⟩ | ⟨h, e⟩
              · first | exact e | (exfalso; omega)
              · first | exact e | (exfalso; omega)
              · first | exact e | (exfalso; omega)
            rw [hxv] at hret
            exact hret 98 ls dX6_compare_98
          · refine lv_iconst (v := nI 1) hx hb dX6_compare_93 (by decide +kernel) ?_
            refine lv_goto (tgt := 98) hx hb dX6_compare_94 (by decide) ?_
            have hxv : x = nI (1) := by
              rcases hxx with ⟨h, e⟩ | ⟨h, e⟩ | ⟨h, e⟩
              · first | exact e | (exfalso; omega)
              · first | exact e | (exfalso; omega)
              · first | exact e | (exfalso; omega)
            rw [hxv] at hret
            exact hret 98 ls dX6_compare_98
        · refine lv_iconst (v := (-1)) hx hb dX6_compare_79 (by decide +kernel) ?_
          refine lv_goto (tgt := 98) hx hb dX6_compare_80 (by decide) ?_
          have hxv : x = (-1) := by
            rcases hxx with ⟨h, e⟩ | ⟨h, e⟩ | ⟨h, e⟩
            · first | exact e | (exfalso; omega)
            · first | exact e | (exfalso; omega)
            · first | exact e | (exfalso; omega)
          rw [hxv] at hret
          exact hret 98 ls dX6_compare_98
      · refine lv_iload hx hb dX6_compare_9 (lv_at hl 4 rfl) ?_
        refine lv_aload_n hx hb dX6_compare_11 rfl (lv_at hl 0 rfl) ?_
        refine va_get (D := D) (ci := 6) (v := .ref (b 3)) (C := RX6) (T := TX6) (N := 15) hx hb hts hinX6 hown hK hP 0 rfl rfl 5 (by decide) (hts (.fieldLink RX6 16 "TypoSuggesterModel" "sizes" "[I") (by decide +kernel)) (fun _ h9 => h9) rfl dX6_compare_12 ?_
        refine lv_iload_n hx hb dX6_compare_15 rfl (lv_at hl 3 rfl) ?_
        refine nz_iald (f := ml.2.1) (k := ti) hx hb hK hP 3 1 rfl rfl (by omega) (by decide) dX6_compare_16 ?_
        refine nz_cge (a := k) (b := ml.2.1 ti) (tgt := 69) hx hb dX6_compare_17 (by decide) (by omega) (by omega) (fun c_17 => ?_) (fun c_17 => ?_)
        · have hkr : k = r := by omega
          subst hkr
          refine lv_iload_n hx hb dX6_compare_69 rfl (lv_at hl 2 rfl) ?_
          refine lv_aload_n hx hb dX6_compare_70 rfl (lv_at hl 0 rfl) ?_
          refine va_get (D := D) (ci := 6) (v := .ref (b 3)) (C := RX6) (T := TX6) (N := 15) hx hb hts hinX6 hown hK hP 0 rfl rfl 5 (by decide) (hts (.fieldLink RX6 16 "TypoSuggesterModel" "sizes" "[I") (by decide +kernel)) (fun _ h9 => h9) rfl dX6_compare_71 ?_
          refine lv_iload_n hx hb dX6_compare_74 rfl (lv_at hl 3 rfl) ?_
          refine nz_iald (f := ml.2.1) (k := ti) hx hb hK hP 3 1 rfl rfl (by omega) (by decide) dX6_compare_75 ?_
          refine nz_cge (a := ln) (b := ml.2.1 ti) (tgt := 83) hx hb dX6_compare_76 (by decide) (by omega) (by omega) (fun c_76 => ?_) (fun c_76 => ?_)
          · refine lv_iload_n hx hb dX6_compare_83 rfl (lv_at hl 2 rfl) ?_
            refine lv_aload_n hx hb dX6_compare_84 rfl (lv_at hl 0 rfl) ?_
            refine va_get (D := D) (ci := 6) (v := .ref (b 3)) (C := RX6) (T := TX6) (N := 15) hx hb hts hinX6 hown hK hP 0 rfl rfl 5 (by decide) (hts (.fieldLink RX6 16 "TypoSuggesterModel" "sizes" "[I") (by decide +kernel)) (fun _ h9 => h9) rfl dX6_compare_85 ?_
            refine lv_iload_n hx hb dX6_compare_88 rfl (lv_at hl 3 rfl) ?_
            refine nz_iald (f := ml.2.1) (k := ti) hx hb hK hP 3 1 rfl rfl (by omega) (by decide) dX6_compare_89 ?_
            refine nz_cle (a := ln) (b := ml.2.1 ti) (tgt := 97) hx hb dX6_compare_90 (by decide) (by omega) (by omega) (fun c_90 => ?_) (fun c_90 => ?_)
            · refine lv_iconst (v := nI 0) hx hb dX6_compare_97 (by decide +kernel) ?_
              have hxv : x = nI (0) := by
                rcases hxx with ⟨h, e⟩ | ⟨h, e⟩ | ⟨h, e⟩
                · first | exact e | (exfalso; omega)
                · first | exact e | (exfalso; omega)
                · first | exact e | (exfalso; omega)
              rw [hxv] at hret
              exact hret 98 ls dX6_compare_98
            · refine lv_iconst (v := nI 1) hx hb dX6_compare_93 (by decide +kernel) ?_
              refine lv_goto (tgt := 98) hx hb dX6_compare_94 (by decide) ?_
              have hxv : x = nI (1) := by
                rcases hxx with ⟨h, e⟩ | ⟨h, e⟩ | ⟨h, e⟩
                · first | exact e | (exfalso; omega)
                · first | exact e | (exfalso; omega)
                · first | exact e | (exfalso; omega)
              rw [hxv] at hret
              exact hret 98 ls dX6_compare_98
          · refine lv_iconst (v := (-1)) hx hb dX6_compare_79 (by decide +kernel) ?_
            refine lv_goto (tgt := 98) hx hb dX6_compare_80 (by decide) ?_
            have hxv : x = (-1) := by
              rcases hxx with ⟨h, e⟩ | ⟨h, e⟩ | ⟨h, e⟩
              · first | exact e | (exfalso; omega)
              · first | exact e | (exfalso; omega)
              · first | exact e | (exfalso; omega)
            rw [hxv] at hret
            exact hret 98 ls dX6_compare_98
        · refine lv_aload_n hx hb dX6_compare_20 rfl (lv_at hl 0 rfl) ?_
          refine va_get (D := D) (ci := 6) (v := .ref (b 1)) (C := RX6) (T := TX6) (N := 15) hx hb hts hinX6 hown hK hP 0 rfl rfl 0 (by decide) (hts (.fieldLink RX6 7 "TypoSuggesterModel" "tape" "[B") (by decide +kernel)) (fun _ h9 => h9) rfl dX6_compare_21 ?_
          refine lv_iload_n hx hb dX6_compare_24 rfl (lv_at hl 1 rfl) ?_
          refine lv_iload hx hb dX6_compare_25 (lv_at hl 4 rfl) ?_
          refine nz_iadd (a := fr) (b := k) hx hb dX6_compare_27 ?_
          refine nz_baldR (f := mt.1) (k := fr + k) hx hb hK hP 1 0 rfl rfl (by omega) (by decide) dX6_compare_28 ?_
          refine nz_callR (va_runS (As := [.int (mt.1 (fr + k))]) (rest := []) ⟨hx, hb, hml, hown, hts⟩ (mX6_small l D b cs mt ml mr mk (mt.1 (fr + k))) (va_cwS 1 hts gX6_compare_X6_small rfl rfl rfl (by decide +kernel) ⟨Nat.le_of_ble_eq_true rfl, Nat.le_of_ble_eq_true rfl⟩) (nz_preS hK hP) rfl rfl hl.1 rfl (lv_room (Nat.le_of_ble_eq_true rfl)) dX6_compare_29 ⟨Nat.zero_le _, Nat.zero_le _⟩) ?_
          have hlk := sml_low (hlet k c_6)
          refine nz_top (y := nI (lowN (mt.1 (fr + k)))) hlk.1 ?_
          refine lv_aload_n hx hb dX6_compare_32 rfl (lv_at hl 0 rfl) ?_
          refine va_get (D := D) (ci := 6) (v := .ref (b 2)) (C := RX6) (T := TX6) (N := 15) hx hb hts hinX6 hown hK hP 0 rfl rfl 4 (by decide) (hts (.fieldLink RX6 13 "TypoSuggesterModel" "letters" "[B") (by decide +kernel)) (fun _ h9 => h9) rfl dX6_compare_33 ?_
          refine lv_bipush (v := nI 24) hx hb dX6_compare_36 (by decide +kernel) ?_
          refine lv_iload_n hx hb dX6_compare_38 rfl (lv_at hl 3 rfl) ?_
          refine nz_imul (a := 24) (b := ti) hx hb dX6_compare_39 ?_
          refine lv_iload hx hb dX6_compare_40 (lv_at hl 4 rfl) ?_
          refine nz_iadd (a := 24 * ti) (b := k) hx hb dX6_compare_42 ?_
          refine nz_bald (f := ml.1) (k := 24 * ti + k) hx hb hK hP 2 0 rfl rfl (by omega) (by decide) dX6_compare_43 ?_
          refine lv_isub hx hb dX6_compare_44 ?_
          refine lv_istore (lv' := [(5, .int (nI (lowN (mt.1 (fr + k))) - nI (ml.1 (24 * ti + k)))), (0, .ref (b 0)), (1, .int (nI (fr))), (2, .int (nI (ln))), (3, .int (nI (ti))), (4, .int (nI (k)))]) hx hb dX6_compare_45 hl (by decide) rfl (fun ls hl => ?_)
          refine lv_iload hx hb dX6_compare_47 (lv_at hl 0 rfl) ?_
          refine lv_if_eq (tgt := 63) hx hb dX6_compare_49 (by decide) (fun c_49 => ?_) (fun c_49 => ?_)
          · have c_49 := (sub_eq0 (by omega) (by have := hM3 (24 * ti + k); omega)).mp c_49
            have hkr : k < r := by
              rcases Nat.lt_or_ge k r with h | h
              · exact h
              · have h2 : k = r := by omega
                rw [h2] at c_6 c_17 c_49
                exact absurd c_49 (hr3 (by omega))
            refine lv_iinc (v := nI (k + 1)) (lv' := [(4, .int (nI (k + 1))), (5, .int (nI (lowN (mt.1 (fr + k))) - nI (ml.1 (24 * ti + k)))), (0, .ref (b 0)), (1, .int (nI (fr))), (2, .int (nI (ln))), (3, .int (nI (ti)))]) hx hb dX6_compare_63 hl (k := 5) rfl (nz_inc1 _) (by decide) rfl (fun ls hl => ?_)
            refine lv_goto (tgt := 3) hx hb dX6_compare_66 (by decide) ?_
            exact ih (k + 1) (by omega) (by omega) ls (lv_sub hl [2, 3, 4, 5, 0] rfl)
          · have c_49 : lowN (mt.1 (fr + k)) ≠ ml.1 (24 * ti + k) := fun h => c_49 ((sub_eq0 (by omega) (by have := hM3 (24 * ti + k); omega)).mpr h)
            have hkr : k = r := by
              rcases Nat.lt_or_ge k r with h | h
              · exact absurd (hr2 k h) c_49
              · omega
            refine lv_iload hx hb dX6_compare_52 (lv_at hl 0 rfl) ?_
            refine lv_if_ge (tgt := 61) hx hb dX6_compare_54 (by decide) (fun c_54 => ?_) (fun c_54 => ?_)
            · have c_54 := (sub_ge0 (by omega) (by have := hM3 (24 * ti + k); omega)).mp c_54
              subst hkr
              refine lv_iconst (v := nI 1) hx hb dX6_compare_61 (by decide +kernel) ?_
              have hxv : x = nI (1) := by
                rcases hxx with ⟨h, e⟩ | ⟨h, e⟩ | ⟨h, e⟩
                · first | exact e | (exfalso; omega)
                · first | exact e | (exfalso; omega)
                · first | exact e | (exfalso; omega)
              rw [hxv] at hret
              exact hret 62 ls dX6_compare_62
            · have c_54 : lowN (mt.1 (fr + k)) < ml.1 (24 * ti + k) := Nat.lt_of_not_le (fun h => c_54 ((sub_ge0 (by omega) (by have := hM3 (24 * ti + k); omega)).mpr h))
              subst hkr
              refine lv_iconst (v := (-1)) hx hb dX6_compare_57 (by decide +kernel) ?_
              refine lv_goto (tgt := 62) hx hb dX6_compare_58 (by decide) ?_
              have hxv : x = (-1) := by
                rcases hxx with ⟨h, e⟩ | ⟨h, e⟩ | ⟨h, e⟩
                · first | exact e | (exfalso; omega)
                · first | exact e | (exfalso; omega)
                · first | exact e | (exfalso; omega)
              rw [hxv] at hret
              exact hret 62 ls dX6_compare_62
  exact loop (r - 0 + 1) 0 (Nat.zero_le _) (Nat.lt_succ_self _) ls (lv_sub hl [1, 2, 3, 4, 0] rfl)
theorem cmp_eq {f : Nat → Nat} {n : Nat} {g : Nat → Nat} {z : Nat} {x : Int32} (h : CmpIs f n g z x) (e : eqF f n g z) : x = 0 := by
  rcases h with ⟨h, _⟩ | ⟨_, h⟩ | ⟨h, _⟩
  · exact absurd e (ltF_eqF h)
  · exact h
  · exact absurd ⟨e.1.symm, fun j hj => (e.2 j (by have := e.1; omega)).symm⟩ (ltF_eqF h)
theorem cmp_0 {f : Nat → Nat} {n : Nat} {g : Nat → Nat} {z : Nat} {x : Int32} (h : CmpIs f n g z x) (e : x = 0) : eqF f n g z := by
  rcases h with ⟨_, h⟩ | ⟨h, _⟩ | ⟨_, h⟩
  · rw [e] at h
    exact absurd h (by decide +kernel)
  · exact h
  · rw [e] at h
    exact absurd h (by decide +kernel)
theorem cmp_neg {f : Nat → Nat} {n : Nat} {g : Nat → Nat} {z : Nat} {x : Int32} (h : CmpIs f n g z x) (e : ¬ 0 ≤ x) : ltF f n g z := by
  rcases h with ⟨h, _⟩ | ⟨_, h⟩ | ⟨_, h⟩
  · exact h
  · rw [h] at e
    exact absurd (by decide +kernel) e
  · rw [h] at e
    exact absurd (by decide +kernel) e
theorem cmp_nn {f : Nat → Nat} {n : Nat} {g : Nat → Nat} {z : Nat} {x : Int32} (h : CmpIs f n g z x) (e : 0 ≤ x) : ¬ ltF f n g z := by
  rcases h with ⟨_, h⟩ | ⟨h, _⟩ | ⟨h, _⟩
  · rw [h] at e
    exact absurd e (by decide +kernel)
  · exact fun z => ltF_eqF z h
  · exact ltF_asym h
abbrev rmX6_find : Room := { frames := 2, cells := 0, slots := 0, locals := 45 }
set_option maxHeartbeats 4000000 in
set_option maxRecDepth 100000 in
theorem mX6_find (l : Launch) (D : va_G) (b : Nat → Nat) (cs : Nat → ClassId) (mt : (Nat → Int32) × Nat) (ml : (Nat → Nat) × (Nat → Nat) × (Nat → Nat) × Nat × Nat) (mr : (Nat → Nat) × (Nat → Nat) × (Nat → Nat) × (Nat → Nat) × Nat) (mk : (Nat → Bool) × (Nat → Nat) × (Nat → Nat)) (fr : Nat) (ln : Nat) (b1 : Bool) (r : Nat) (hM : MlB ml) (hfl : fr + ln ≤ 400) (hln : ln ≤ 24) (hlet : ∀ j, j < ln → lowN (mt.1 (fr + j)) ≠ 0) (hf1 : b1 = true → r < ml.2.2.2.1 ∧ eqF (fun j => lowN (mt.1 (fr + j))) ln (TM ml r) (ZM ml r)) (hf2 : ∀ i, (b1 = true → i < r) → i < ml.2.2.2.1 → ¬ eqF (fun j => lowN (mt.1 (fr + j))) ln (TM ml i) (ZM ml i)) : Met l yX6_find wsX6_find rmX6_find (wdP D vwCl (wM b cs mt ml mr mk) (tyX cs) [.ref (b 0), .int (nI (fr)), .int (nI (ln))]) (rdQ (.int (bif b1 then nI r else (-1)))) 0 0 (fun _ => False) := by
  obtain ⟨hM1, hM2, hM3, hM4, hM5⟩ := id hM
  refine nz_metRi (by decide) rfl (Nat.le_of_ble_eq_true rfl) rfl ?_
  intro p e s m args below meth c Q hx hb hml hts hown hP hK hret ls hl
  have hl : lv_has ls 4 [(0, .ref (b 0)), (1, .int (nI (fr))), (2, .int (nI (ln)))] := hl
  have hown : s.vm.findClass RX6 = some m.cls := hown
  have hinX6 : ∀ w ∈ u_ws RX6 TX6 15, w ∈ wsX6_find := by decide +kernel
  refine lv_iconst (v := nI 0) hx hb dX6_find_0 (by decide +kernel) ?_
  refine lv_istore_n (lv' := [(3, .int (nI (0))), (0, .ref (b 0)), (1, .int (nI (fr))), (2, .int (nI (ln)))]) hx hb dX6_find_1 rfl hl (by decide) rfl (fun ls hl => ?_)
  have loop : ∀ (fuel : Nat) (k : Nat), (k ≤ ml.2.2.2.1) → (b1 = true → k ≤ r) → ml.2.2.2.1 - k < fuel → ∀ ls : Array Slot, lv_has ls 4 [(0, .ref (b 0)), (1, .int (nI (fr))), (2, .int (nI (ln))), (3, .int (nI (k)))] → W p l e rmX6_find s m args below meth c s.heap [] 0 0 Q (F0 m 2 ls []) := by
    intro fuel
    induction fuel with
    | zero => intro k hk hkr hf; exact absurd hf (Nat.not_lt_zero _)
    | succ fuel ih =>
      intro k hk hkr hf ls hl
      refine lv_iload_n hx hb dX6_find_2 rfl (lv_at hl 3 rfl) ?_
      refine lv_aload_n hx hb dX6_find_3 rfl (lv_at hl 0 rfl) ?_
      refine va_get (D := D) (ci := 6) (v := .int (nI (ml.2.2.2.1))) (C := RX6) (T := TX6) (N := 15) hx hb hts hinX6 hown hK hP 0 rfl rfl 2 (by decide) (hts (.fieldLink RX6 46 "TypoSuggesterModel" "count" "I") (by decide +kernel)) (fun _ h9 => h9) rfl dX6_find_4 ?_
      refine nz_cge (a := k) (b := ml.2.2.2.1) (tgt := 28) hx hb dX6_find_7 (by decide) (by omega) (by omega) (fun c_7 => ?_) (fun c_7 => ?_)
      · refine lv_iconst (v := (-1)) hx hb dX6_find_28 (by decide +kernel) ?_
        have hbv : b1 = false := by cases b1 with | false => rfl | true => have h1 := (hf1 rfl).1; have h2 := hkr rfl; omega
        subst hbv
        exact hret 29 ls dX6_find_29
      · refine lv_aload_n hx hb dX6_find_10 rfl (lv_at hl 0 rfl) ?_
        refine lv_iload_n hx hb dX6_find_11 rfl (lv_at hl 1 rfl) ?_
        refine lv_iload_n hx hb dX6_find_12 rfl (lv_at hl 2 rfl) ?_
        refine lv_iload_n hx hb dX6_find_13 rfl (lv_at hl 3 rfl) ?_
        obtain ⟨x, hcx⟩ := cmp_ex (fun j => lowN (mt.1 (fr + j))) ln (TM ml k) (ZM ml k)
        refine nz_callR (va_runV (As := [.int (nI (fr)), .int (nI (ln)), .int (nI (k))]) (rest := []) ⟨hx, hb, hml, hown, hts⟩ (mX6_compare l D b cs mt ml mr mk fr ln k x hM (by omega) (by omega) hlet (by omega) hcx) (cwV 3 hts gX6_find_X6_compare rfl rfl rfl (by decide +kernel) ⟨Nat.le_of_ble_eq_true rfl, Nat.le_of_ble_eq_true rfl⟩) (nz_preV (ci := 6) (q0 := 0) hK hP rfl rfl) rfl rfl hl.1 rfl (lv_room (Nat.le_of_ble_eq_true rfl)) dX6_find_14 ⟨Nat.zero_le _, Nat.zero_le _⟩) ?_
        refine lv_if_ne (tgt := 22) hx hb dX6_find_17 (by decide) (fun c_17 => ?_) (fun c_17 => ?_)
        · refine lv_iinc (v := nI (k + 1)) (lv' := [(3, .int (nI (k + 1))), (0, .ref (b 0)), (1, .int (nI (fr))), (2, .int (nI (ln)))]) hx hb dX6_find_22 hl (k := 3) rfl (nz_inc1 _) (by decide) rfl (fun ls hl => ?_)
          refine lv_goto (tgt := 2) hx hb dX6_find_25 (by decide) ?_
          exact ih (k + 1) (by omega) (fun hb => by rcases Nat.lt_or_ge k r with h | h; exact h; have e : k = r := (by have := hkr hb; omega); rw [e] at hcx; exact absurd (hf1 hb).2 (fun z => c_17 (cmp_eq hcx z))) (by omega) ls (lv_sub hl [1, 2, 3, 0] rfl)
        · refine lv_iload_n hx hb dX6_find_20 rfl (lv_at hl 3 rfl) ?_
          have hek := cmp_0 hcx c_17
          have hbv : b1 = true := by cases b1 with | true => rfl | false => exact absurd hek (hf2 k (fun h => by cases h) c_7)
          subst hbv
          have hkk : k = r := by rcases Nat.lt_or_ge k r with h | h; exact absurd hek (hf2 k (fun _ => h) c_7); have := hkr rfl; omega
          rw [hkk]
          exact hret 21 ls dX6_find_21
  exact loop (ml.2.2.2.1 - 0 + 1) 0 (Nat.zero_le _) (fun _ => Nat.zero_le _) (Nat.lt_succ_self _) ls (lv_sub hl [1, 2, 3, 0] rfl)
abbrev rmX6_move : Room := { frames := 0, cells := 0, slots := 0, locals := 0 }
set_option maxHeartbeats 4000000 in
set_option maxRecDepth 100000 in
theorem mX6_move (l : Launch) (D : va_G) (b : Nat → Nat) (cs : Nat → ClassId) (mt : (Nat → Int32) × Nat) (ml : (Nat → Nat) × (Nat → Nat) × (Nat → Nat) × Nat × Nat) (mr : (Nat → Nat) × (Nat → Nat) × (Nat → Nat) × (Nat → Nat) × Nat) (mk : (Nat → Bool) × (Nat → Nat) × (Nat → Nat)) (fr : Nat) (tt : Nat) (hb2 : wInjM b) (hM : MlB ml) (hfr : fr ≤ 600) (htt : tt ≤ 600) (hne : fr ≠ tt) : Met l yX6_move wsX6_move rmX6_move (wdP D vwCl (wM b cs mt ml mr mk) (tyX cs) [.ref (b 0), .int (nI (fr)), .int (nI (tt))]) (wrQ none (fun H => va_P D vwCl (wM b cs mt (va_cpy ml.1 ml.1 (24 * fr) (24 * tt) 24, va_up ml.2.1 tt (ml.2.1 fr), va_up ml.2.2.1 tt (ml.2.2.1 fr), ml.2.2.2.1, ml.2.2.2.2) mr mk) H) (inM b)) 0 0 (inM b) := by
  obtain ⟨hM1, hM2, hM3, hM4, hM5⟩ := id hM
  refine nz_metWv (by decide) rfl (Nat.le_of_ble_eq_true rfl) ?_
  intro p e s m args below meth c Q hx hb hml hts hown hP hK hret ls hl
  have hl : lv_has ls 4 [(0, .ref (b 0)), (1, .int (nI (fr))), (2, .int (nI (tt)))] := hl
  have hown : s.vm.findClass RX6 = some m.cls := hown
  have hinX6 : ∀ w ∈ u_ws RX6 TX6 15, w ∈ wsX6_move := by decide +kernel
  have hS : va_S (inM b) s.heap s.heap [] := va_S.rf
  obtain ⟨H, hH⟩ : ∃ H, H = s.heap := ⟨_, rfl⟩
  obtain ⟨locs, hlocs⟩ : ∃ locs : List Loc, locs = [] := ⟨_, rfl⟩
  have hP : va_P D vwCl (wM b cs mt ml mr mk) H := hH ▸ hP
  have hS : va_S (inM b) s.heap H locs := by rw [hH, hlocs]; exact va_S.rf
  suffices hgo : W p l e rmX6_move s m args below meth c H locs 0 0 Q (F0 m 0 ls []) by rw [hH, hlocs] at hgo; exact hgo
  clear hH hlocs
  refine lv_iconst (v := nI 0) hx hb dX6_move_0 (by decide +kernel) ?_
  refine lv_istore_n (lv' := [(3, .int (nI (0))), (0, .ref (b 0)), (1, .int (nI (fr))), (2, .int (nI (tt)))]) hx hb dX6_move_1 rfl hl (by decide) rfl (fun ls hl => ?_)
  have hP : va_P D vwCl (wM b cs mt (va_cpy ml.1 ml.1 (24 * fr) (24 * tt) 0, ml.2.1, ml.2.2.1, ml.2.2.2.1, ml.2.2.2.2) mr mk) H := by rw [cpy_0]; exact hP
  have loop : ∀ (fuel : Nat) (k : Nat), (k ≤ 24) → 24 - k < fuel → ∀ (H : Heap) (locs : List Loc), va_P D vwCl (wM b cs mt (va_cpy ml.1 ml.1 (24 * fr) (24 * tt) k, ml.2.1, ml.2.2.1, ml.2.2.2.1, ml.2.2.2.2) mr mk) H → va_S (inM b) s.heap H locs → ∀ ls : Array Slot, lv_has ls 4 [(0, .ref (b 0)), (1, .int (nI (fr))), (2, .int (nI (tt))), (3, .int (nI (k)))] → W p l e rmX6_move s m args below meth c H locs 0 0 Q (F0 m 2 ls []) := by
    intro fuel
    induction fuel with
    | zero => intro k hk hf; exact absurd hf (Nat.not_lt_zero _)
    | succ fuel ih =>
      intro k hk hf H locs hP hS ls hl
      refine lv_iload_n hx hb dX6_move_2 rfl (lv_at hl 3 rfl) ?_
      refine lv_bipush (v := nI 24) hx hb dX6_move_3 (by decide +kernel) ?_
      refine nz_cge (a := k) (b := 24) (tgt := 36) hx hb dX6_move_5 (by decide) (by omega) (by omega) (fun c_5 => ?_) (fun c_5 => ?_)
      · rw [show k = 24 by omega] at hP
        refine lv_aload_n hx hb dX6_move_36 rfl (lv_at hl 0 rfl) ?_
        refine va_get (D := D) (ci := 6) (v := .ref (b 3)) (C := RX6) (T := TX6) (N := 15) hx hb hts hinX6 hown hK hP 0 rfl rfl 5 (by decide) (hts (.fieldLink RX6 16 "TypoSuggesterModel" "sizes" "[I") (by decide +kernel)) (fun _ h9 => h9) rfl dX6_move_37 ?_
        refine lv_iload_n hx hb dX6_move_40 rfl (lv_at hl 2 rfl) ?_
        refine lv_aload_n hx hb dX6_move_41 rfl (lv_at hl 0 rfl) ?_
        refine va_get (D := D) (ci := 6) (v := .ref (b 3)) (C := RX6) (T := TX6) (N := 15) hx hb hts hinX6 hown hK hP 0 rfl rfl 5 (by decide) (hts (.fieldLink RX6 16 "TypoSuggesterModel" "sizes" "[I") (by decide +kernel)) (fun _ h9 => h9) rfl dX6_move_42 ?_
        refine lv_iload_n hx hb dX6_move_45 rfl (lv_at hl 1 rfl) ?_
        refine nz_iald (f := ml.2.1) (k := fr) hx hb hK hP 3 1 rfl rfl (by omega) (by decide) dX6_move_46 ?_
        refine nz_iast (f := ml.2.1) (k := tt) (v := ml.2.1 fr) (ws' := wM b cs mt (va_cpy ml.1 ml.1 (24 * fr) (24 * tt) 24, va_up ml.2.1 tt (ml.2.1 fr), ml.2.2.1, ml.2.2.2.1, ml.2.2.2.2) mr mk) hx hb hK hP (wM_D hb2) hS 3 1 rfl rfl (by omega) (by decide) dX6_move_47 rfl (fun H locs hP hS => ?_)
        refine lv_aload_n hx hb dX6_move_48 rfl (lv_at hl 0 rfl) ?_
        refine va_get (D := D) (ci := 6) (v := .ref (b 4)) (C := RX6) (T := TX6) (N := 15) hx hb hts hinX6 hown hK hP 0 rfl rfl 6 (by decide) (hts (.fieldLink RX6 20 "TypoSuggesterModel" "weights" "[J") (by decide +kernel)) (fun _ h9 => h9) rfl dX6_move_49 ?_
        refine lv_iload_n hx hb dX6_move_52 rfl (lv_at hl 2 rfl) ?_
        refine lv_aload_n hx hb dX6_move_53 rfl (lv_at hl 0 rfl) ?_
        refine va_get (D := D) (ci := 6) (v := .ref (b 4)) (C := RX6) (T := TX6) (N := 15) hx hb hts hinX6 hown hK hP 0 rfl rfl 6 (by decide) (hts (.fieldLink RX6 20 "TypoSuggesterModel" "weights" "[J") (by decide +kernel)) (fun _ h9 => h9) rfl dX6_move_54 ?_
        refine lv_iload_n hx hb dX6_move_57 rfl (lv_at hl 1 rfl) ?_
        refine nz_lald (f := ml.2.2.1) (k := fr) hx hb hK hP 4 2 rfl rfl (by omega) (by decide) dX6_move_58 ?_
        refine nz_last (f := ml.2.2.1) (k := tt) (v := ml.2.2.1 fr) (ws' := wM b cs mt (va_cpy ml.1 ml.1 (24 * fr) (24 * tt) 24, va_up ml.2.1 tt (ml.2.1 fr), va_up ml.2.2.1 tt (ml.2.2.1 fr), ml.2.2.2.1, ml.2.2.2.2) mr mk) hx hb hK hP (wM_D hb2) hS 4 2 rfl rfl (by omega) (by decide) dX6_move_59 rfl (fun H locs hP hS => ?_)
        exact hret 60 ls H locs dX6_move_60 hP hS
      · refine lv_aload_n hx hb dX6_move_8 rfl (lv_at hl 0 rfl) ?_
        refine va_get (D := D) (ci := 6) (v := .ref (b 2)) (C := RX6) (T := TX6) (N := 15) hx hb hts hinX6 hown hK hP 0 rfl rfl 4 (by decide) (hts (.fieldLink RX6 13 "TypoSuggesterModel" "letters" "[B") (by decide +kernel)) (fun _ h9 => h9) rfl dX6_move_9 ?_
        refine lv_bipush (v := nI 24) hx hb dX6_move_12 (by decide +kernel) ?_
        refine lv_iload_n hx hb dX6_move_14 rfl (lv_at hl 2 rfl) ?_
        refine nz_imul (a := 24) (b := tt) hx hb dX6_move_15 ?_
        refine lv_iload_n hx hb dX6_move_16 rfl (lv_at hl 3 rfl) ?_
        refine nz_iadd (a := 24 * tt) (b := k) hx hb dX6_move_17 ?_
        refine lv_aload_n hx hb dX6_move_18 rfl (lv_at hl 0 rfl) ?_
        refine va_get (D := D) (ci := 6) (v := .ref (b 2)) (C := RX6) (T := TX6) (N := 15) hx hb hts hinX6 hown hK hP 0 rfl rfl 4 (by decide) (hts (.fieldLink RX6 13 "TypoSuggesterModel" "letters" "[B") (by decide +kernel)) (fun _ h9 => h9) rfl dX6_move_19 ?_
        refine lv_bipush (v := nI 24) hx hb dX6_move_22 (by decide +kernel) ?_
        refine lv_iload_n hx hb dX6_move_24 rfl (lv_at hl 1 rfl) ?_
        refine nz_imul (a := 24) (b := fr) hx hb dX6_move_25 ?_
        refine lv_iload_n hx hb dX6_move_26 rfl (lv_at hl 3 rfl) ?_
        refine nz_iadd (a := 24 * fr) (b := k) hx hb dX6_move_27 ?_
        refine nz_bald (f := va_cpy ml.1 ml.1 (24 * fr) (24 * tt) k) (k := 24 * fr + k) hx hb hK hP 2 0 rfl rfl (by omega) (by decide) dX6_move_28 ?_
        refine nz_bast (f := va_cpy ml.1 ml.1 (24 * fr) (24 * tt) k) (k := 24 * tt + k) (v := (va_cpy ml.1 ml.1 (24 * fr) (24 * tt) k) (24 * fr + k)) (ws' := wM b cs mt (va_up (va_cpy ml.1 ml.1 (24 * fr) (24 * tt) k) (24 * tt + k) ((va_cpy ml.1 ml.1 (24 * fr) (24 * tt) k) (24 * fr + k)), ml.2.1, ml.2.2.1, ml.2.2.2.1, ml.2.2.2.2) mr mk) hx hb hK hP (wM_D hb2) hS 2 0 rfl rfl (by omega) (by decide) (cpy_lt hM3 hM3 _) dX6_move_29 rfl (fun H locs hP hS => ?_)
        have e_1 : va_up (va_cpy ml.1 ml.1 (24 * fr) (24 * tt) k) (24 * tt + k) ((va_cpy ml.1 ml.1 (24 * fr) (24 * tt) k) (24 * fr + k)) = va_cpy ml.1 ml.1 (24 * fr) (24 * tt) (k + 1) := cpy_step (pk_cpy_out (by omega))
        rw [e_1] at hP
        refine lv_iinc (v := nI (k + 1)) (lv' := [(3, .int (nI (k + 1))), (0, .ref (b 0)), (1, .int (nI (fr))), (2, .int (nI (tt)))]) hx hb dX6_move_30 hl (k := 3) rfl (nz_inc1 _) (by decide) rfl (fun ls hl => ?_)
        refine lv_goto (tgt := 2) hx hb dX6_move_33 (by decide) ?_
        exact ih (k + 1) (by omega) (by omega) H locs hP hS ls (lv_sub hl [1, 2, 3, 0] rfl)
  exact loop (24 - 0 + 1) 0 (Nat.zero_le _) (Nat.lt_succ_self _) H locs hP hS ls (lv_sub hl [1, 2, 3, 0] rfl)
abbrev rmX6_taken : Room := { frames := 1, cells := 0, slots := 0, locals := 20 }
set_option maxHeartbeats 4000000 in
set_option maxRecDepth 100000 in
theorem mX6_taken (l : Launch) (D : va_G) (b : Nat → Nat) (cs : Nat → ClassId) (mt : (Nat → Int32) × Nat) (ml : (Nat → Nat) × (Nat → Nat) × (Nat → Nat) × Nat × Nat) (mr : (Nat → Nat) × (Nat → Nat) × (Nat → Nat) × (Nat → Nat) × Nat) (mk : (Nat → Bool) × (Nat → Nat) × (Nat → Nat)) (lst : Nat) (bb : Bool) (hb2 : wInjM b) (hT : mt.2 ≤ 400) (hls : lst ≤ 1) (hbb : bb = true ↔ (goodT mt ∧ lst ≤ mt.2)) : Met l yX6_taken wsX6_taken rmX6_taken (wdP D vwCl (wM b cs mt ml mr mk) (tyX cs) [.ref (b 0), .int (nI (lst))]) (wrQ (some (.int (bif bb then nI mt.2 else (-1)))) (fun H => va_P D vwCl (wM b cs (mt.1, 0) ml mr mk) H) (inM b)) 0 0 (inM b) := by
  refine nz_metWi (by decide) rfl (Nat.le_of_ble_eq_true rfl) rfl ?_
  intro p e s m args below meth c Q hx hb hml hts hown hP hK hret ls hl
  have hl : lv_has ls 5 [(0, .ref (b 0)), (1, .int (nI (lst)))] := hl
  have hown : s.vm.findClass RX6 = some m.cls := hown
  have hinX6 : ∀ w ∈ u_ws RX6 TX6 15, w ∈ wsX6_taken := by decide +kernel
  have hS : va_S (inM b) s.heap s.heap [] := va_S.rf
  obtain ⟨H, hH⟩ : ∃ H, H = s.heap := ⟨_, rfl⟩
  obtain ⟨locs, hlocs⟩ : ∃ locs : List Loc, locs = [] := ⟨_, rfl⟩
  have hP : va_P D vwCl (wM b cs mt ml mr mk) H := hH ▸ hP
  have hS : va_S (inM b) s.heap H locs := by rw [hH, hlocs]; exact va_S.rf
  suffices hgo : W p l e rmX6_taken s m args below meth c H locs 0 0 Q (F0 m 0 ls []) by rw [hH, hlocs] at hgo; exact hgo
  clear hH hlocs
  refine lv_aload_n hx hb dX6_taken_0 rfl (lv_at hl 0 rfl) ?_
  refine va_get (D := D) (ci := 6) (v := .int (nI (mt.2))) (C := RX6) (T := TX6) (N := 15) hx hb hts hinX6 hown hK hP 0 rfl rfl 1 (by decide) (hts (.fieldLink RX6 50 "TypoSuggesterModel" "tapeSize" "I") (by decide +kernel)) (fun _ h9 => h9) rfl dX6_taken_1 ?_
  refine lv_istore_n (lv' := [(2, .int (nI (mt.2))), (0, .ref (b 0)), (1, .int (nI (lst)))]) hx hb dX6_taken_4 rfl hl (by decide) rfl (fun ls hl => ?_)
  refine lv_aload_n hx hb dX6_taken_5 rfl (lv_at hl 1 rfl) ?_
  refine lv_iconst (v := nI 0) hx hb dX6_taken_6 (by decide +kernel) ?_
  refine nz_put (D := D) (ci := 6) (v := .int (nI (0))) (ty := .int) (ws' := wM b cs (mt.1, 0) ml mr mk) (C := RX6) (T := TX6) (N := 15) hx hb hts hinX6 tyX6 tyX6_ok nmX6 hown hK hP (wM_D hb2) hS 0 rfl rfl 1 (by decide) (hts (.fieldLink RX6 50 "TypoSuggesterModel" "tapeSize" "I") (by decide +kernel)) (fun _ h9 => h9) rfl (by decide +kernel) rfl rfl (Nat.le_of_ble_eq_true rfl) dX6_taken_7 rfl (fun H locs hP hS => ?_)
  refine lv_iload_n hx hb dX6_taken_10 rfl (lv_at hl 0 rfl) ?_
  refine lv_iload_n hx hb dX6_taken_11 rfl (lv_at hl 2 rfl) ?_
  refine nz_clt (a := mt.2) (b := lst) (tgt := 25) hx hb dX6_taken_12 (by decide) (by omega) (by omega) (fun c_12 => ?_) (fun c_12 => ?_)
  · refine lv_iconst (v := nI 0) hx hb dX6_taken_25 (by decide +kernel) ?_
    refine lv_istore_n (lv' := [(3, .int (nI (0))), (2, .int (nI (mt.2))), (0, .ref (b 0)), (1, .int (nI (lst)))]) hx hb dX6_taken_26 rfl hl (by decide) rfl (fun ls hl => ?_)
    have e_1 : (nI (0)) = (bI (false)) := bI_f
    have hl : lv_has ls 5 [(3, .int (bI (false))), (2, .int (nI (mt.2))), (0, .ref (b 0)), (1, .int (nI (lst)))] := by rw [← e_1]; exact hl
    refine lv_iconst (v := nI 0) hx hb dX6_taken_27 (by decide +kernel) ?_
    refine lv_istore (lv' := [(4, .int (nI (0))), (3, .int (bI (false))), (2, .int (nI (mt.2))), (0, .ref (b 0)), (1, .int (nI (lst)))]) hx hb dX6_taken_28 hl (by decide) rfl (fun ls hl => ?_)
    have loop : ∀ (fuel : Nat) (k : Nat) (g : Bool), (k ≤ mt.2) → (g = true ↔ (lst ≤ mt.2 ∧ mt.2 ≤ 24 ∧ ∀ j, j < k → smB (mt.1 j) = true)) → mt.2 - k < fuel → ∀ (H : Heap) (locs : List Loc), va_P D vwCl (wM b cs (mt.1, 0) ml mr mk) H → va_S (inM b) s.heap H locs → ∀ ls : Array Slot, lv_has ls 5 [(0, .ref (b 0)), (2, .int (nI (mt.2))), (3, .int (bI (g))), (4, .int (nI (k)))] → W p l e rmX6_taken s m args below meth c H locs 0 0 Q (F0 m 30 ls []) := by
      intro fuel
      induction fuel with
      | zero => intro k g hk hg hf; exact absurd hf (Nat.not_lt_zero _)
      | succ fuel ih =>
        intro k g hk hg hf H locs hP hS ls hl
        refine lv_iload hx hb dX6_taken_30 (lv_at hl 3 rfl) ?_
        refine lv_iload_n hx hb dX6_taken_32 rfl (lv_at hl 1 rfl) ?_
        refine nz_cge (a := k) (b := mt.2) (tgt := 57) hx hb dX6_taken_33 (by decide) (by omega) (by omega) (fun c_33 => ?_) (fun c_33 => ?_)
        · refine lv_iload_n hx hb dX6_taken_57 rfl (lv_at hl 2 rfl) ?_
          refine nz_ifeqB (tgt := 65) hx hb dX6_taken_58 (by decide) (fun c_58 => ?_) (fun c_58 => ?_)
          · refine lv_iconst (v := (-1)) hx hb dX6_taken_65 (by decide +kernel) ?_
            have hbg : bb = g := by
              have h9 : bb = true ↔ g = true := by
                rw [hbb, hg]
                constructor
                · rintro ⟨h1, h2⟩
                  exact ⟨h2, h1.1, fun j hj => h1.2 j (by omega)⟩
                · rintro ⟨h1, h2, h3⟩
                  refine ⟨⟨h2, fun j hj => ?_⟩, h1⟩
                  have hgt := hg.mpr ⟨h1, h2, h3⟩
                  first | exact absurd (c_37.symm.trans hgt) (by decide) | exact h3 j (by omega)
              cases bb with
              | true => exact (h9.mp rfl).symm
              | false => cases hg8 : g with
                | false => rfl
                | true => exact absurd (h9.mpr hg8) (by decide)
            rw [hbg, c_58] at hret
            exact hret 66 ls H locs dX6_taken_66 hP hS
          · refine lv_iload_n hx hb dX6_taken_61 rfl (lv_at hl 1 rfl) ?_
            refine lv_goto (tgt := 66) hx hb dX6_taken_62 (by decide) ?_
            have hbg : bb = g := by
              have h9 : bb = true ↔ g = true := by
                rw [hbb, hg]
                constructor
                · rintro ⟨h1, h2⟩
                  exact ⟨h2, h1.1, fun j hj => h1.2 j (by omega)⟩
                · rintro ⟨h1, h2, h3⟩
                  refine ⟨⟨h2, fun j hj => ?_⟩, h1⟩
                  have hgt := hg.mpr ⟨h1, h2, h3⟩
                  first | exact absurd (c_37.symm.trans hgt) (by decide) | exact h3 j (by omega)
              cases bb with
              | true => exact (h9.mp rfl).symm
              | false => cases hg8 : g with
                | false => rfl
                | true => exact absurd (h9.mpr hg8) (by decide)
            rw [hbg, c_58] at hret
            exact hret 66 ls H locs dX6_taken_66 hP hS
        · refine lv_iload_n hx hb dX6_taken_36 rfl (lv_at hl 2 rfl) ?_
          refine nz_ifeqB (tgt := 57) hx hb dX6_taken_37 (by decide) (fun c_37 => ?_) (fun c_37 => ?_)
          · refine lv_iload_n hx hb dX6_taken_57 rfl (lv_at hl 2 rfl) ?_
            refine nz_ifeqB (tgt := 65) hx hb dX6_taken_58 (by decide) (fun c_58 => ?_) (fun c_58 => ?_)
            · refine lv_iconst (v := (-1)) hx hb dX6_taken_65 (by decide +kernel) ?_
              have hbg : bb = g := by
                have h9 : bb = true ↔ g = true := by
                  rw [hbb, hg]
                  constructor
                  · rintro ⟨h1, h2⟩
                    exact ⟨h2, h1.1, fun j hj => h1.2 j (by omega)⟩
                  · rintro ⟨h1, h2, h3⟩
                    refine ⟨⟨h2, fun j hj => ?_⟩, h1⟩
                    have hgt := hg.mpr ⟨h1, h2, h3⟩
                    first | exact absurd (c_37.symm.trans hgt) (by decide) | exact h3 j (by omega)
                cases bb with
                | true => exact (h9.mp rfl).symm
                | false => cases hg8 : g with
                  | false => rfl
                  | true => exact absurd (h9.mpr hg8) (by decide)
              rw [hbg, c_58] at hret
              exact hret 66 ls H locs dX6_taken_66 hP hS
            · refine lv_iload_n hx hb dX6_taken_61 rfl (lv_at hl 1 rfl) ?_
              refine lv_goto (tgt := 66) hx hb dX6_taken_62 (by decide) ?_
              have hbg : bb = g := by
                have h9 : bb = true ↔ g = true := by
                  rw [hbb, hg]
                  constructor
                  · rintro ⟨h1, h2⟩
                    exact ⟨h2, h1.1, fun j hj => h1.2 j (by omega)⟩
                  · rintro ⟨h1, h2, h3⟩
                    refine ⟨⟨h2, fun j hj => ?_⟩, h1⟩
                    have hgt := hg.mpr ⟨h1, h2, h3⟩
                    first | exact absurd (c_37.symm.trans hgt) (by decide) | exact h3 j (by omega)
                cases bb with
                | true => exact (h9.mp rfl).symm
                | false => cases hg8 : g with
                  | false => rfl
                  | true => exact absurd (h9.mpr hg8) (by decide)
              rw [hbg, c_58] at hret
              exact hret 66 ls H locs dX6_taken_66 hP hS
          · refine lv_aload_n hx hb dX6_taken_40 rfl (lv_at hl 0 rfl) ?_
            refine va_get (D := D) (ci := 6) (v := .ref (b 1)) (C := RX6) (T := TX6) (N := 15) hx hb hts hinX6 hown hK hP 0 rfl rfl 0 (by decide) (hts (.fieldLink RX6 7 "TypoSuggesterModel" "tape" "[B") (by decide +kernel)) (fun _ h9 => h9) rfl dX6_taken_41 ?_
            refine lv_iload hx hb dX6_taken_44 (lv_at hl 3 rfl) ?_
            refine nz_baldR (f := mt.1) (k := k) hx hb hK hP 1 0 rfl rfl (by omega) (by decide) dX6_taken_46 ?_
            refine nz_callR (va_runS (As := [.int (mt.1 k)]) (rest := []) ⟨hx, hb, hml, hown, hts⟩ (mX6_isSmall l D b cs (mt.1, 0) ml mr mk (mt.1 k)) (va_cwS 1 hts gX6_taken_X6_isSmall rfl rfl rfl (by decide +kernel) ⟨Nat.le_of_ble_eq_true rfl, Nat.le_of_ble_eq_true rfl⟩) (nz_preS hK hP) rfl rfl hl.1 rfl (lv_room (Nat.le_of_ble_eq_true rfl)) dX6_taken_47 ⟨Nat.zero_le _, Nat.zero_le _⟩) ?_
            refine lv_istore_n (lv' := [(3, .int (bI (smB (mt.1 k)))), (0, .ref (b 0)), (2, .int (nI (mt.2))), (4, .int (nI (k)))]) hx hb dX6_taken_50 rfl hl (by decide) rfl (fun ls hl => ?_)
            refine lv_iinc (v := nI (k + 1)) (lv' := [(4, .int (nI (k + 1))), (3, .int (bI (smB (mt.1 k)))), (0, .ref (b 0)), (2, .int (nI (mt.2)))]) hx hb dX6_taken_51 hl (k := 3) rfl (nz_inc1 _) (by decide) rfl (fun ls hl => ?_)
            refine lv_goto (tgt := 30) hx hb dX6_taken_54 (by decide) ?_
            exact ih (k + 1) (smB (mt.1 k)) (by omega) ⟨fun h => ⟨(hg.mp c_37).1, (hg.mp c_37).2.1, lt_s (hg.mp c_37).2.2 h⟩, fun h => h.2.2 k (Nat.lt_succ_self _)⟩ (by omega) H locs hP hS ls (lv_sub hl [2, 3, 1, 0] rfl)
    exact loop (mt.2 - 0 + 1) 0 false (Nat.zero_le _) (⟨(fun h => by cases h), fun h => by have h1 := h.1; have h2 := h.2.1; omega⟩) (Nat.lt_succ_self _) H locs hP hS ls (lv_sub hl [3, 2, 1, 0] rfl)
  · refine lv_iload_n hx hb dX6_taken_15 rfl (lv_at hl 0 rfl) ?_
    refine lv_bipush (v := nI 24) hx hb dX6_taken_16 (by decide +kernel) ?_
    refine nz_cgt (a := mt.2) (b := 24) (tgt := 25) hx hb dX6_taken_18 (by decide) (by omega) (by omega) (fun c_18 => ?_) (fun c_18 => ?_)
    · refine lv_iconst (v := nI 0) hx hb dX6_taken_25 (by decide +kernel) ?_
      refine lv_istore_n (lv' := [(3, .int (nI (0))), (2, .int (nI (mt.2))), (0, .ref (b 0)), (1, .int (nI (lst)))]) hx hb dX6_taken_26 rfl hl (by decide) rfl (fun ls hl => ?_)
      have e_2 : (nI (0)) = (bI (false)) := bI_f
      have hl : lv_has ls 5 [(3, .int (bI (false))), (2, .int (nI (mt.2))), (0, .ref (b 0)), (1, .int (nI (lst)))] := by rw [← e_2]; exact hl
      refine lv_iconst (v := nI 0) hx hb dX6_taken_27 (by decide +kernel) ?_
      refine lv_istore (lv' := [(4, .int (nI (0))), (3, .int (bI (false))), (2, .int (nI (mt.2))), (0, .ref (b 0)), (1, .int (nI (lst)))]) hx hb dX6_taken_28 hl (by decide) rfl (fun ls hl => ?_)
      have loop : ∀ (fuel : Nat) (k : Nat) (g : Bool), (k ≤ mt.2) → (g = true ↔ (lst ≤ mt.2 ∧ mt.2 ≤ 24 ∧ ∀ j, j < k → smB (mt.1 j) = true)) → mt.2 - k < fuel → ∀ (H : Heap) (locs : List Loc), va_P D vwCl (wM b cs (mt.1, 0) ml mr mk) H → va_S (inM b) s.heap H locs → ∀ ls : Array Slot, lv_has ls 5 [(0, .ref (b 0)), (2, .int (nI (mt.2))), (3, .int (bI (g))), (4, .int (nI (k)))] → W p l e rmX6_taken s m args below meth c H locs 0 0 Q (F0 m 30 ls []) := by
        intro fuel
        induction fuel with
        | zero => intro k g hk hg hf; exact absurd hf (Nat.not_lt_zero _)
        | succ fuel ih =>
          intro k g hk hg hf H locs hP hS ls hl
          refine lv_iload hx hb dX6_taken_30 (lv_at hl 3 rfl) ?_
          refine lv_iload_n hx hb dX6_taken_32 rfl (lv_at hl 1 rfl) ?_
          refine nz_cge (a := k) (b := mt.2) (tgt := 57) hx hb dX6_taken_33 (by decide) (by omega) (by omega) (fun c_33 => ?_) (fun c_33 => ?_)
          · refine lv_iload_n hx hb dX6_taken_57 rfl (lv_at hl 2 rfl) ?_
            refine nz_ifeqB (tgt := 65) hx hb dX6_taken_58 (by decide) (fun c_58 => ?_) (fun c_58 => ?_)
            · refine lv_iconst (v := (-1)) hx hb dX6_taken_65 (by decide +kernel) ?_
              have hbg : bb = g := by
                have h9 : bb = true ↔ g = true := by
                  rw [hbb, hg]
                  constructor
                  · rintro ⟨h1, h2⟩
                    exact ⟨h2, h1.1, fun j hj => h1.2 j (by omega)⟩
                  · rintro ⟨h1, h2, h3⟩
                    refine ⟨⟨h2, fun j hj => ?_⟩, h1⟩
                    have hgt := hg.mpr ⟨h1, h2, h3⟩
                    first | exact absurd (c_37.symm.trans hgt) (by decide) | exact h3 j (by omega)
                cases bb with
                | true => exact (h9.mp rfl).symm
                | false => cases hg8 : g with
                  | false => rfl
                  | true => exact absurd (h9.mpr hg8) (by decide)
              rw [hbg, c_58] at hret
              exact hret 66 ls H locs dX6_taken_66 hP hS
            · refine lv_iload_n hx hb dX6_taken_61 rfl (lv_at hl 1 rfl) ?_
              refine lv_goto (tgt := 66) hx hb dX6_taken_62 (by decide) ?_
              have hbg : bb = g := by
                have h9 : bb = true ↔ g = true := by
                  rw [hbb, hg]
                  constructor
                  · rintro ⟨h1, h2⟩
                    exact ⟨h2, h1.1, fun j hj => h1.2 j (by omega)⟩
                  · rintro ⟨h1, h2, h3⟩
                    refine ⟨⟨h2, fun j hj => ?_⟩, h1⟩
                    have hgt := hg.mpr ⟨h1, h2, h3⟩
                    first | exact absurd (c_37.symm.trans hgt) (by decide) | exact h3 j (by omega)
                cases bb with
                | true => exact (h9.mp rfl).symm
                | false => cases hg8 : g with
                  | false => rfl
                  | true => exact absurd (h9.mpr hg8) (by decide)
              rw [hbg, c_58] at hret
              exact hret 66 ls H locs dX6_taken_66 hP hS
          · refine lv_iload_n hx hb dX6_taken_36 rfl (lv_at hl 2 rfl) ?_
            refine nz_ifeqB (tgt := 57) hx hb dX6_taken_37 (by decide) (fun c_37 => ?_) (fun c_37 => ?_)
            · refine lv_iload_n hx hb dX6_taken_57 rfl (lv_at hl 2 rfl) ?_
              refine nz_ifeqB (tgt := 65) hx hb dX6_taken_58 (by decide) (fun c_58 => ?_) (fun c_58 => ?_)
              · refine lv_iconst (v := (-1)) hx hb dX6_taken_65 (by decide +kernel) ?_
                have hbg : bb = g := by
                  have h9 : bb = true ↔ g = true := by
                    rw [hbb, hg]
                    constructor
                    · rintro ⟨h1, h2⟩
                      exact ⟨h2, h1.1, fun j hj => h1.2 j (by omega)⟩
                    · rintro ⟨h1, h2, h3⟩
                      refine ⟨⟨h2, fun j hj => ?_⟩, h1⟩
                      have hgt := hg.mpr ⟨h1, h2, h3⟩
                      first | exact absurd (c_37.symm.trans hgt) (by decide) | exact h3 j (by omega)
                  cases bb with
                  | true => exact (h9.mp rfl).symm
                  | false => cases hg8 : g with
                    | false => rfl
                    | true => exact absurd (h9.mpr hg8) (by decide)
                rw [hbg, c_58] at hret
                exact hret 66 ls H locs dX6_taken_66 hP hS
              · refine lv_iload_n hx hb dX6_taken_61 rfl (lv_at hl 1 rfl) ?_
                refine lv_goto (tgt := 66) hx hb dX6_taken_62 (by decide) ?_
                have hbg : bb = g := by
                  have h9 : bb = true ↔ g = true := by
                    rw [hbb, hg]
                    constructor
                    · rintro ⟨h1, h2⟩
                      exact ⟨h2, h1.1, fun j hj => h1.2 j (by omega)⟩
                    · rintro ⟨h1, h2, h3⟩
                      refine ⟨⟨h2, fun j hj => ?_⟩, h1⟩
                      have hgt := hg.mpr ⟨h1, h2, h3⟩
                      first | exact absurd (c_37.symm.trans hgt) (by decide) | exact h3 j (by omega)
                  cases bb with
                  | true => exact (h9.mp rfl).symm
                  | false => cases hg8 : g with
                    | false => rfl
                    | true => exact absurd (h9.mpr hg8) (by decide)
                rw [hbg, c_58] at hret
                exact hret 66 ls H locs dX6_taken_66 hP hS
            · refine lv_aload_n hx hb dX6_taken_40 rfl (lv_at hl 0 rfl) ?_
              refine va_get (D := D) (ci := 6) (v := .ref (b 1)) (C := RX6) (T := TX6) (N := 15) hx hb hts hinX6 hown hK hP 0 rfl rfl 0 (by decide) (hts (.fieldLink RX6 7 "TypoSuggesterModel" "tape" "[B") (by decide +kernel)) (fun _ h9 => h9) rfl dX6_taken_41 ?_
              refine lv_iload hx hb dX6_taken_44 (lv_at hl 3 rfl) ?_
              refine nz_baldR (f := mt.1) (k := k) hx hb hK hP 1 0 rfl rfl (by omega) (by decide) dX6_taken_46 ?_
              refine nz_callR (va_runS (As := [.int (mt.1 k)]) (rest := []) ⟨hx, hb, hml, hown, hts⟩ (mX6_isSmall l D b cs (mt.1, 0) ml mr mk (mt.1 k)) (va_cwS 1 hts gX6_taken_X6_isSmall rfl rfl rfl (by decide +kernel) ⟨Nat.le_of_ble_eq_true rfl, Nat.le_of_ble_eq_true rfl⟩) (nz_preS hK hP) rfl rfl hl.1 rfl (lv_room (Nat.le_of_ble_eq_true rfl)) dX6_taken_47 ⟨Nat.zero_le _, Nat.zero_le _⟩) ?_
              refine lv_istore_n (lv' := [(3, .int (bI (smB (mt.1 k)))), (0, .ref (b 0)), (2, .int (nI (mt.2))), (4, .int (nI (k)))]) hx hb dX6_taken_50 rfl hl (by decide) rfl (fun ls hl => ?_)
              refine lv_iinc (v := nI (k + 1)) (lv' := [(4, .int (nI (k + 1))), (3, .int (bI (smB (mt.1 k)))), (0, .ref (b 0)), (2, .int (nI (mt.2)))]) hx hb dX6_taken_51 hl (k := 3) rfl (nz_inc1 _) (by decide) rfl (fun ls hl => ?_)
              refine lv_goto (tgt := 30) hx hb dX6_taken_54 (by decide) ?_
              exact ih (k + 1) (smB (mt.1 k)) (by omega) ⟨fun h => ⟨(hg.mp c_37).1, (hg.mp c_37).2.1, lt_s (hg.mp c_37).2.2 h⟩, fun h => h.2.2 k (Nat.lt_succ_self _)⟩ (by omega) H locs hP hS ls (lv_sub hl [2, 3, 1, 0] rfl)
      exact loop (mt.2 - 0 + 1) 0 false (Nat.zero_le _) (⟨(fun h => by cases h), fun h => by have h1 := h.1; have h2 := h.2.1; omega⟩) (Nat.lt_succ_self _) H locs hP hS ls (lv_sub hl [3, 2, 1, 0] rfl)
    · refine lv_iconst (v := nI 1) hx hb dX6_taken_21 (by decide +kernel) ?_
      refine lv_goto (tgt := 26) hx hb dX6_taken_22 (by decide) ?_
      refine lv_istore_n (lv' := [(3, .int (nI (1))), (2, .int (nI (mt.2))), (0, .ref (b 0)), (1, .int (nI (lst)))]) hx hb dX6_taken_26 rfl hl (by decide) rfl (fun ls hl => ?_)
      have e_3 : (nI (1)) = (bI (true)) := bI_t
      have hl : lv_has ls 5 [(3, .int (bI (true))), (2, .int (nI (mt.2))), (0, .ref (b 0)), (1, .int (nI (lst)))] := by rw [← e_3]; exact hl
      refine lv_iconst (v := nI 0) hx hb dX6_taken_27 (by decide +kernel) ?_
      refine lv_istore (lv' := [(4, .int (nI (0))), (3, .int (bI (true))), (2, .int (nI (mt.2))), (0, .ref (b 0)), (1, .int (nI (lst)))]) hx hb dX6_taken_28 hl (by decide) rfl (fun ls hl => ?_)
      have loop : ∀ (fuel : Nat) (k : Nat) (g : Bool), (k ≤ mt.2) → (g = true ↔ (lst ≤ mt.2 ∧ mt.2 ≤ 24 ∧ ∀ j, j < k → smB (mt.1 j) = true)) → mt.2 - k < fuel → ∀ (H : Heap) (locs : List Loc), va_P D vwCl (wM b cs (mt.1, 0) ml mr mk) H → va_S (inM b) s.heap H locs → ∀ ls : Array Slot, lv_has ls 5 [(0, .ref (b 0)), (2, .int (nI (mt.2))), (3, .int (bI (g))), (4, .int (nI (k)))] → W p l e rmX6_taken s m args below meth c H locs 0 0 Q (F0 m 30 ls []) := by
        intro fuel
        induction fuel with
        | zero => intro k g hk hg hf; exact absurd hf (Nat.not_lt_zero _)
        | succ fuel ih =>
          intro k g hk hg hf H locs hP hS ls hl
          refine lv_iload hx hb dX6_taken_30 (lv_at hl 3 rfl) ?_
          refine lv_iload_n hx hb dX6_taken_32 rfl (lv_at hl 1 rfl) ?_
          refine nz_cge (a := k) (b := mt.2) (tgt := 57) hx hb dX6_taken_33 (by decide) (by omega) (by omega) (fun c_33 => ?_) (fun c_33 => ?_)
          · refine lv_iload_n hx hb dX6_taken_57 rfl (lv_at hl 2 rfl) ?_
            refine nz_ifeqB (tgt := 65) hx hb dX6_taken_58 (by decide) (fun c_58 => ?_) (fun c_58 => ?_)
            · refine lv_iconst (v := (-1)) hx hb dX6_taken_65 (by decide +kernel) ?_
              have hbg : bb = g := by
                have h9 : bb = true ↔ g = true := by
                  rw [hbb, hg]
                  constructor
                  · rintro ⟨h1, h2⟩
                    exact ⟨h2, h1.1, fun j hj => h1.2 j (by omega)⟩
                  · rintro ⟨h1, h2, h3⟩
                    refine ⟨⟨h2, fun j hj => ?_⟩, h1⟩
                    have hgt := hg.mpr ⟨h1, h2, h3⟩
                    first | exact absurd (c_37.symm.trans hgt) (by decide) | exact h3 j (by omega)
                cases bb with
                | true => exact (h9.mp rfl).symm
                | false => cases hg8 : g with
                  | false => rfl
                  | true => exact absurd (h9.mpr hg8) (by decide)
              rw [hbg, c_58] at hret
              exact hret 66 ls H locs dX6_taken_66 hP hS
            · refine lv_iload_n hx hb dX6_taken_61 rfl (lv_at hl 1 rfl) ?_
              refine lv_goto (tgt := 66) hx hb dX6_taken_62 (by decide) ?_
              have hbg : bb = g := by
                have h9 : bb = true ↔ g = true := by
                  rw [hbb, hg]
                  constructor
                  · rintro ⟨h1, h2⟩
                    exact ⟨h2, h1.1, fun j hj => h1.2 j (by omega)⟩
                  · rintro ⟨h1, h2, h3⟩
                    refine ⟨⟨h2, fun j hj => ?_⟩, h1⟩
                    have hgt := hg.mpr ⟨h1, h2, h3⟩
                    first | exact absurd (c_37.symm.trans hgt) (by decide) | exact h3 j (by omega)
                cases bb with
                | true => exact (h9.mp rfl).symm
                | false => cases hg8 : g with
                  | false => rfl
                  | true => exact absurd (h9.mpr hg8) (by decide)
              rw [hbg, c_58] at hret
              exact hret 66 ls H locs dX6_taken_66 hP hS
          · refine lv_iload_n hx hb dX6_taken_36 rfl (lv_at hl 2 rfl) ?_
            refine nz_ifeqB (tgt := 57) hx hb dX6_taken_37 (by decide) (fun c_37 => ?_) (fun c_37 => ?_)
            · refine lv_iload_n hx hb dX6_taken_57 rfl (lv_at hl 2 rfl) ?_
              refine nz_ifeqB (tgt := 65) hx hb dX6_taken_58 (by decide) (fun c_58 => ?_) (fun c_58 => ?_)
              · refine lv_iconst (v := (-1)) hx hb dX6_taken_65 (by decide +kernel) ?_
                have hbg : bb = g := by
                  have h9 : bb = true ↔ g = true := by
                    rw [hbb, hg]
                    constructor
                    · rintro ⟨h1, h2⟩
                      exact ⟨h2, h1.1, fun j hj => h1.2 j (by omega)⟩
                    · rintro ⟨h1, h2, h3⟩
                      refine ⟨⟨h2, fun j hj => ?_⟩, h1⟩
                      have hgt := hg.mpr ⟨h1, h2, h3⟩
                      first | exact absurd (c_37.symm.trans hgt) (by decide) | exact h3 j (by omega)
                  cases bb with
                  | true => exact (h9.mp rfl).symm
                  | false => cases hg8 : g with
                    | false => rfl
                    | true => exact absurd (h9.mpr hg8) (by decide)
                rw [hbg, c_58] at hret
                exact hret 66 ls H locs dX6_taken_66 hP hS
              · refine lv_iload_n hx hb dX6_taken_61 rfl (lv_at hl 1 rfl) ?_
                refine lv_goto (tgt := 66) hx hb dX6_taken_62 (by decide) ?_
                have hbg : bb = g := by
                  have h9 : bb = true ↔ g = true := by
                    rw [hbb, hg]
                    constructor
                    · rintro ⟨h1, h2⟩
                      exact ⟨h2, h1.1, fun j hj => h1.2 j (by omega)⟩
                    · rintro ⟨h1, h2, h3⟩
                      refine ⟨⟨h2, fun j hj => ?_⟩, h1⟩
                      have hgt := hg.mpr ⟨h1, h2, h3⟩
                      first | exact absurd (c_37.symm.trans hgt) (by decide) | exact h3 j (by omega)
                  cases bb with
                  | true => exact (h9.mp rfl).symm
                  | false => cases hg8 : g with
                    | false => rfl
                    | true => exact absurd (h9.mpr hg8) (by decide)
                rw [hbg, c_58] at hret
                exact hret 66 ls H locs dX6_taken_66 hP hS
            · refine lv_aload_n hx hb dX6_taken_40 rfl (lv_at hl 0 rfl) ?_
              refine va_get (D := D) (ci := 6) (v := .ref (b 1)) (C := RX6) (T := TX6) (N := 15) hx hb hts hinX6 hown hK hP 0 rfl rfl 0 (by decide) (hts (.fieldLink RX6 7 "TypoSuggesterModel" "tape" "[B") (by decide +kernel)) (fun _ h9 => h9) rfl dX6_taken_41 ?_
              refine lv_iload hx hb dX6_taken_44 (lv_at hl 3 rfl) ?_
              refine nz_baldR (f := mt.1) (k := k) hx hb hK hP 1 0 rfl rfl (by omega) (by decide) dX6_taken_46 ?_
              refine nz_callR (va_runS (As := [.int (mt.1 k)]) (rest := []) ⟨hx, hb, hml, hown, hts⟩ (mX6_isSmall l D b cs (mt.1, 0) ml mr mk (mt.1 k)) (va_cwS 1 hts gX6_taken_X6_isSmall rfl rfl rfl (by decide +kernel) ⟨Nat.le_of_ble_eq_true rfl, Nat.le_of_ble_eq_true rfl⟩) (nz_preS hK hP) rfl rfl hl.1 rfl (lv_room (Nat.le_of_ble_eq_true rfl)) dX6_taken_47 ⟨Nat.zero_le _, Nat.zero_le _⟩) ?_
              refine lv_istore_n (lv' := [(3, .int (bI (smB (mt.1 k)))), (0, .ref (b 0)), (2, .int (nI (mt.2))), (4, .int (nI (k)))]) hx hb dX6_taken_50 rfl hl (by decide) rfl (fun ls hl => ?_)
              refine lv_iinc (v := nI (k + 1)) (lv' := [(4, .int (nI (k + 1))), (3, .int (bI (smB (mt.1 k)))), (0, .ref (b 0)), (2, .int (nI (mt.2)))]) hx hb dX6_taken_51 hl (k := 3) rfl (nz_inc1 _) (by decide) rfl (fun ls hl => ?_)
              refine lv_goto (tgt := 30) hx hb dX6_taken_54 (by decide) ?_
              exact ih (k + 1) (smB (mt.1 k)) (by omega) ⟨fun h => ⟨(hg.mp c_37).1, (hg.mp c_37).2.1, lt_s (hg.mp c_37).2.2 h⟩, fun h => h.2.2 k (Nat.lt_succ_self _)⟩ (by omega) H locs hP hS ls (lv_sub hl [2, 3, 1, 0] rfl)
      exact loop (mt.2 - 0 + 1) 0 true (Nat.zero_le _) (⟨fun _ => ⟨c_12, c_18, fun j h => absurd h (Nat.not_lt_zero _)⟩, fun _ => rfl⟩) (Nat.lt_succ_self _) H locs hP hS ls (lv_sub hl [3, 2, 1, 0] rfl)
theorem cmp_congr {f : Nat → Nat} {n : Nat} {g g' : Nat → Nat} {z z' : Nat} {x : Int32} (hz : z = z') (hg : ∀ j, j < z → g j = g' j) (h : CmpIs f n g z x) : CmpIs f n g' z' x := by
  subst hz
  rcases h with ⟨h, e⟩ | ⟨h, e⟩ | ⟨h, e⟩
  · exact Or.inl ⟨ltF_congr (fun _ _ => rfl) hg h, e⟩
  · exact Or.inr (Or.inl ⟨⟨h.1, fun j hj => (h.2 j hj).trans (hg j (by have := h.1; omega))⟩, e⟩)
  · exact Or.inr (Or.inr ⟨ltF_congr hg (fun _ _ => rfl) h, e⟩)
abbrev rmX6_add : Room := { frames := 2, cells := 0, slots := 0, locals := 45 }
set_option maxHeartbeats 4000000 in
set_option maxRecDepth 100000 in
theorem mX6_add (l : Launch) (D : va_G) (b : Nat → Nat) (cs : Nat → ClassId) (mt : (Nat → Int32) × Nat) (ml : (Nat → Nat) × (Nat → Nat) × (Nat → Nat) × Nat × Nat) (mr : (Nat → Nat) × (Nat → Nat) × (Nat → Nat) × (Nat → Nat) × Nat) (mk : (Nat → Bool) × (Nat → Nat) × (Nat → Nat)) (fr : Nat) (ln : Nat) (wt : Nat) (p9 : Nat) (b2 : Bool) (hb2 : wInjM b) (hM : MlB ml) (hfl : fr + ln ≤ 400) (hln : ln ≤ 24) (hlet : ∀ j, j < ln → lowN (mt.1 (fr + j)) ≠ 0) (hwt : wt ≤ 1000000000000) (hp1 : p9 ≤ ml.2.2.2.1) (hp2 : ∀ i, i < p9 → ltF (TM ml i) (ZM ml i) (fun j => lowN (mt.1 (fr + j))) ln) (hp3 : ∀ i, p9 ≤ i → i < ml.2.2.2.1 → ltF (fun j => lowN (mt.1 (fr + j))) ln (TM ml i) (ZM ml i)) (hb9 : b2 = true ↔ (ml.2.2.2.1 < 600 ∧ ml.2.2.2.2 + ln ≤ 6000)) : Met l yX6_add wsX6_add rmX6_add (wdP D vwCl (wM b cs mt ml mr mk) (tyX cs) [.ref (b 0), .int (nI (fr)), .int (nI (ln)), .long (lN (wt))]) (wrQ (some (.int (bif b2 then nI p9 else (-1)))) (fun H => ∃ ml9, (MlB ml9 ∧ (b2 = true → VIns ml.2.2.2.1 p9 (ZM ml) (TM ml) ml.2.2.1 (ZM ml9) (TM ml9) ml9.2.2.1 (fun j => lowN (mt.1 (fr + j))) ln wt ∧ ml9.2.2.2.1 = ml.2.2.2.1 + 1 ∧ ml9.2.2.2.2 = ml.2.2.2.2 + ln) ∧ (b2 = false → ml9 = ml)) ∧ va_P D vwCl (wM b cs mt ml9 mr mk) H) (inM b)) 0 0 (inM b) := by
  obtain ⟨hM1, hM2, hM3, hM4, hM5⟩ := id hM
  refine nz_metWi (by decide) rfl (Nat.le_of_ble_eq_true rfl) rfl ?_
  intro p e s m args below meth c Q hx hb hml hts hown hP hK hret ls hl
  have hl : lv_has ls 7 [(0, .ref (b 0)), (1, .int (nI (fr))), (2, .int (nI (ln))), (3, .long (lN (wt)))] := hl
  have hown : s.vm.findClass RX6 = some m.cls := hown
  have hinX6 : ∀ w ∈ u_ws RX6 TX6 15, w ∈ wsX6_add := by decide +kernel
  have hS : va_S (inM b) s.heap s.heap [] := va_S.rf
  obtain ⟨H, hH⟩ : ∃ H, H = s.heap := ⟨_, rfl⟩
  obtain ⟨locs, hlocs⟩ : ∃ locs : List Loc, locs = [] := ⟨_, rfl⟩
  have hP : va_P D vwCl (wM b cs mt ml mr mk) H := hH ▸ hP
  have hS : va_S (inM b) s.heap H locs := by rw [hH, hlocs]; exact va_S.rf
  suffices hgo : W p l e rmX6_add s m args below meth c H locs 0 0 Q (F0 m 0 ls []) by rw [hH, hlocs] at hgo; exact hgo
  clear hH hlocs
  refine lv_aload_n hx hb dX6_add_0 rfl (lv_at hl 0 rfl) ?_
  refine va_get (D := D) (ci := 6) (v := .int (nI (ml.2.2.2.1))) (C := RX6) (T := TX6) (N := 15) hx hb hts hinX6 hown hK hP 0 rfl rfl 2 (by decide) (hts (.fieldLink RX6 46 "TypoSuggesterModel" "count" "I") (by decide +kernel)) (fun _ h9 => h9) rfl dX6_add_1 ?_
  refine lv_sipush (v := nI 600) hx hb dX6_add_4 (by decide +kernel) ?_
  refine nz_ceq (a := ml.2.2.2.1) (b := 600) (tgt := 22) hx hb dX6_add_7 (by decide) (by omega) (by omega) (fun c_7 => ?_) (fun c_7 => ?_)
  · refine lv_iconst (v := (-1)) hx hb dX6_add_22 (by decide +kernel) ?_
    have hbv : b2 = false := by cases b2 with | false => rfl | true => exact absurd (hb9.mp rfl) (by omega)
    subst hbv
    exact hret 23 ls H locs dX6_add_23 ⟨ml, ⟨hM, fun h => (by cases h), fun _ => rfl⟩, hP⟩ hS
  · refine lv_aload_n hx hb dX6_add_10 rfl (lv_at hl 0 rfl) ?_
    refine va_get (D := D) (ci := 6) (v := .int (nI (ml.2.2.2.2))) (C := RX6) (T := TX6) (N := 15) hx hb hts hinX6 hown hK hP 0 rfl rfl 3 (by decide) (hts (.fieldLink RX6 61 "TypoSuggesterModel" "letterCount" "I") (by decide +kernel)) (fun _ h9 => h9) rfl dX6_add_11 ?_
    refine lv_iload_n hx hb dX6_add_14 rfl (lv_at hl 2 rfl) ?_
    refine nz_iadd (a := ml.2.2.2.2) (b := ln) hx hb dX6_add_15 ?_
    refine lv_sipush (v := nI 6000) hx hb dX6_add_16 (by decide +kernel) ?_
    refine nz_cle (a := ml.2.2.2.2 + ln) (b := 6000) (tgt := 24) hx hb dX6_add_19 (by decide) (by omega) (by omega) (fun c_19 => ?_) (fun c_19 => ?_)
    · refine lv_aload_n hx hb dX6_add_24 rfl (lv_at hl 0 rfl) ?_
      refine va_get (D := D) (ci := 6) (v := .int (nI (ml.2.2.2.1))) (C := RX6) (T := TX6) (N := 15) hx hb hts hinX6 hown hK hP 0 rfl rfl 2 (by decide) (hts (.fieldLink RX6 46 "TypoSuggesterModel" "count" "I") (by decide +kernel)) (fun _ h9 => h9) rfl dX6_add_25 ?_
      refine lv_istore (lv' := [(5, .int (nI (ml.2.2.2.1))), (0, .ref (b 0)), (1, .int (nI (fr))), (2, .int (nI (ln))), (3, .long (lN (wt)))]) hx hb dX6_add_28 hl (by decide) rfl (fun ls hl => ?_)
      have join : ∀ (ml2 : (Nat → Nat) × (Nat → Nat) × (Nat → Nat) × Nat × Nat), (ShM ml ml2 p9) → ∀ (H : Heap) (locs : List Loc), va_P D vwCl (wM b cs mt ml2 mr mk) H → va_S (inM b) s.heap H locs → ∀ ls : Array Slot, lv_has ls 7 [(0, .ref (b 0)), (1, .int (nI (fr))), (2, .int (nI (ln))), (3, .long (lN (wt))), (5, .int (nI (p9)))] → W p l e rmX6_add s m args below meth c H locs 0 0 Q (F0 m 64 ls []) := by
        intro ml2 hsh H locs hP hS ls hl
        obtain ⟨hN1, hN2, hN3, hN4, hN5⟩ := id hsh.1
        have hnc := hsh.2.1
        have hnl := hsh.2.2.1
        refine lv_iconst (v := nI 0) hx hb dX6_add_64 (by decide +kernel) ?_
        refine lv_istore (lv' := [(6, .int (nI (0))), (0, .ref (b 0)), (1, .int (nI (fr))), (2, .int (nI (ln))), (3, .long (lN (wt))), (5, .int (nI (p9)))]) hx hb dX6_add_65 hl (by decide) rfl (fun ls hl => ?_)
        have hP : va_P D vwCl (wM b cs mt (va_cpy (fun j => lowN (mt.1 (fr + j))) ml2.1 0 (24 * p9) 0, ml2.2.1, ml2.2.2.1, ml2.2.2.2.1, ml2.2.2.2.2) mr mk) H := by rw [cpy_0]; exact hP
        have loop3 : ∀ (fuel : Nat) (k : Nat), (k ≤ ln) → ln - k < fuel → ∀ (H : Heap) (locs : List Loc), va_P D vwCl (wM b cs mt (va_cpy (fun j => lowN (mt.1 (fr + j))) ml2.1 0 (24 * p9) k, ml2.2.1, ml2.2.2.1, ml2.2.2.2.1, ml2.2.2.2.2) mr mk) H → va_S (inM b) s.heap H locs → ∀ ls : Array Slot, lv_has ls 7 [(0, .ref (b 0)), (1, .int (nI (fr))), (2, .int (nI (ln))), (3, .long (lN (wt))), (5, .int (nI (p9))), (6, .int (nI (k)))] → W p l e rmX6_add s m args below meth c H locs 0 0 Q (F0 m 67 ls []) := by
          intro fuel
          induction fuel with
          | zero => intro k hk hf; exact absurd hf (Nat.not_lt_zero _)
          | succ fuel ih =>
            intro k hk hf H locs hP hS ls hl
            refine lv_iload hx hb dX6_add_67 (lv_at hl 5 rfl) ?_
            refine lv_iload_n hx hb dX6_add_69 rfl (lv_at hl 2 rfl) ?_
            refine nz_cge (a := k) (b := ln) (tgt := 105) hx hb dX6_add_70 (by decide) (by omega) (by omega) (fun c_70 => ?_) (fun c_70 => ?_)
            · rw [show k = ln by omega] at hP
              refine lv_aload_n hx hb dX6_add_105 rfl (lv_at hl 0 rfl) ?_
              refine va_get (D := D) (ci := 6) (v := .ref (b 3)) (C := RX6) (T := TX6) (N := 15) hx hb hts hinX6 hown hK hP 0 rfl rfl 5 (by decide) (hts (.fieldLink RX6 16 "TypoSuggesterModel" "sizes" "[I") (by decide +kernel)) (fun _ h9 => h9) rfl dX6_add_106 ?_
              refine lv_iload hx hb dX6_add_109 (lv_at hl 4 rfl) ?_
              refine lv_iload_n hx hb dX6_add_111 rfl (lv_at hl 2 rfl) ?_
              refine nz_iast (f := ml2.2.1) (k := p9) (v := ln) (ws' := wM b cs mt (va_cpy (fun j => lowN (mt.1 (fr + j))) ml2.1 0 (24 * p9) ln, va_up ml2.2.1 p9 ln, ml2.2.2.1, ml2.2.2.2.1, ml2.2.2.2.2) mr mk) hx hb hK hP (wM_D hb2) hS 3 1 rfl rfl (by omega) (by decide) dX6_add_112 rfl (fun H locs hP hS => ?_)
              refine lv_aload_n hx hb dX6_add_113 rfl (lv_at hl 0 rfl) ?_
              refine va_get (D := D) (ci := 6) (v := .ref (b 4)) (C := RX6) (T := TX6) (N := 15) hx hb hts hinX6 hown hK hP 0 rfl rfl 6 (by decide) (hts (.fieldLink RX6 20 "TypoSuggesterModel" "weights" "[J") (by decide +kernel)) (fun _ h9 => h9) rfl dX6_add_114 ?_
              refine lv_iload hx hb dX6_add_117 (lv_at hl 4 rfl) ?_
              refine lv_lload_n hx hb dX6_add_119 rfl (lv_at hl 3 rfl) ?_
              refine nz_last (f := ml2.2.2.1) (k := p9) (v := wt) (ws' := wM b cs mt (va_cpy (fun j => lowN (mt.1 (fr + j))) ml2.1 0 (24 * p9) ln, va_up ml2.2.1 p9 ln, va_up ml2.2.2.1 p9 wt, ml2.2.2.2.1, ml2.2.2.2.2) mr mk) hx hb hK hP (wM_D hb2) hS 4 2 rfl rfl (by omega) (by decide) dX6_add_120 rfl (fun H locs hP hS => ?_)
              refine lv_aload_n hx hb dX6_add_121 rfl (lv_at hl 0 rfl) ?_
              refine lv_dup hx hb dX6_add_122 rfl ?_
              refine va_get (D := D) (ci := 6) (v := .int (nI (ml2.2.2.2.1))) (C := RX6) (T := TX6) (N := 15) hx hb hts hinX6 hown hK hP 0 rfl rfl 2 (by decide) (hts (.fieldLink RX6 46 "TypoSuggesterModel" "count" "I") (by decide +kernel)) (fun _ h9 => h9) rfl dX6_add_123 ?_
              refine lv_iconst (v := nI 1) hx hb dX6_add_126 (by decide +kernel) ?_
              refine nz_iadd (a := ml2.2.2.2.1) (b := 1) hx hb dX6_add_127 ?_
              refine nz_put (D := D) (ci := 6) (v := .int (nI (ml2.2.2.2.1 + 1))) (ty := .int) (ws' := wM b cs mt (va_cpy (fun j => lowN (mt.1 (fr + j))) ml2.1 0 (24 * p9) ln, va_up ml2.2.1 p9 ln, va_up ml2.2.2.1 p9 wt, ml2.2.2.2.1 + 1, ml2.2.2.2.2) mr mk) (C := RX6) (T := TX6) (N := 15) hx hb hts hinX6 tyX6 tyX6_ok nmX6 hown hK hP (wM_D hb2) hS 0 rfl rfl 2 (by decide) (hts (.fieldLink RX6 46 "TypoSuggesterModel" "count" "I") (by decide +kernel)) (fun _ h9 => h9) rfl (by decide +kernel) rfl rfl (Nat.le_of_ble_eq_true rfl) dX6_add_128 rfl (fun H locs hP hS => ?_)
              refine lv_aload_n hx hb dX6_add_131 rfl (lv_at hl 0 rfl) ?_
              refine lv_dup hx hb dX6_add_132 rfl ?_
              refine va_get (D := D) (ci := 6) (v := .int (nI (ml2.2.2.2.2))) (C := RX6) (T := TX6) (N := 15) hx hb hts hinX6 hown hK hP 0 rfl rfl 3 (by decide) (hts (.fieldLink RX6 61 "TypoSuggesterModel" "letterCount" "I") (by decide +kernel)) (fun _ h9 => h9) rfl dX6_add_133 ?_
              refine lv_iload_n hx hb dX6_add_136 rfl (lv_at hl 2 rfl) ?_
              refine nz_iadd (a := ml2.2.2.2.2) (b := ln) hx hb dX6_add_137 ?_
              refine nz_put (D := D) (ci := 6) (v := .int (nI (ml2.2.2.2.2 + ln))) (ty := .int) (ws' := wM b cs mt (va_cpy (fun j => lowN (mt.1 (fr + j))) ml2.1 0 (24 * p9) ln, va_up ml2.2.1 p9 ln, va_up ml2.2.2.1 p9 wt, ml2.2.2.2.1 + 1, ml2.2.2.2.2 + ln) mr mk) (C := RX6) (T := TX6) (N := 15) hx hb hts hinX6 tyX6 tyX6_ok nmX6 hown hK hP (wM_D hb2) hS 0 rfl rfl 3 (by decide) (hts (.fieldLink RX6 61 "TypoSuggesterModel" "letterCount" "I") (by decide +kernel)) (fun _ h9 => h9) rfl (by decide +kernel) rfl rfl (Nat.le_of_ble_eq_true rfl) dX6_add_138 rfl (fun H locs hP hS => ?_)
              refine lv_iload hx hb dX6_add_141 (lv_at hl 4 rfl) ?_
              have hbv : b2 = true := hb9.mpr (by omega)
              subst hbv
              have hin := shM_ins (n := ln) (wt := wt) (f := fun j => lowN (mt.1 (fr + j))) hM hsh hp1 hln (fun j hj => (sml_low (hlet j hj)).2) (by omega) hwt
              refine hret 143 ls H locs dX6_add_143 ⟨_, ⟨hin.1, fun _ => ⟨hin.2, ?_, ?_⟩, fun h => (by cases h)⟩, hP⟩ hS
              · show ml2.2.2.2.1 + 1 = ml.2.2.2.1 + 1
                omega
              · show ml2.2.2.2.2 + ln = ml.2.2.2.2 + ln
                omega
            · refine lv_aload_n hx hb dX6_add_73 rfl (lv_at hl 0 rfl) ?_
              refine va_get (D := D) (ci := 6) (v := .ref (b 2)) (C := RX6) (T := TX6) (N := 15) hx hb hts hinX6 hown hK hP 0 rfl rfl 4 (by decide) (hts (.fieldLink RX6 13 "TypoSuggesterModel" "letters" "[B") (by decide +kernel)) (fun _ h9 => h9) rfl dX6_add_74 ?_
              refine lv_bipush (v := nI 24) hx hb dX6_add_77 (by decide +kernel) ?_
              refine lv_iload hx hb dX6_add_79 (lv_at hl 4 rfl) ?_
              refine nz_imul (a := 24) (b := p9) hx hb dX6_add_81 ?_
              refine lv_iload hx hb dX6_add_82 (lv_at hl 5 rfl) ?_
              refine nz_iadd (a := 24 * p9) (b := k) hx hb dX6_add_84 ?_
              refine lv_aload_n hx hb dX6_add_85 rfl (lv_at hl 0 rfl) ?_
              refine va_get (D := D) (ci := 6) (v := .ref (b 1)) (C := RX6) (T := TX6) (N := 15) hx hb hts hinX6 hown hK hP 0 rfl rfl 0 (by decide) (hts (.fieldLink RX6 7 "TypoSuggesterModel" "tape" "[B") (by decide +kernel)) (fun _ h9 => h9) rfl dX6_add_86 ?_
              refine lv_iload_n hx hb dX6_add_89 rfl (lv_at hl 1 rfl) ?_
              refine lv_iload hx hb dX6_add_90 (lv_at hl 5 rfl) ?_
              refine nz_iadd (a := fr) (b := k) hx hb dX6_add_92 ?_
              refine nz_baldR (f := mt.1) (k := fr + k) hx hb hK hP 1 0 rfl rfl (by omega) (by decide) dX6_add_93 ?_
              refine nz_callR (va_runS (As := [.int (mt.1 (fr + k))]) (rest := [.int (nI (24 * p9 + k)), .ref (b 2)]) ⟨hx, hb, hml, hown, hts⟩ (mX6_small l D b cs mt (va_cpy (fun j => lowN (mt.1 (fr + j))) ml2.1 0 (24 * p9) k, ml2.2.1, ml2.2.2.1, ml2.2.2.2.1, ml2.2.2.2.2) mr mk (mt.1 (fr + k))) (va_cwS 1 hts gX6_add_X6_small rfl rfl rfl (by decide +kernel) ⟨Nat.le_of_ble_eq_true rfl, Nat.le_of_ble_eq_true rfl⟩) (nz_preS hK hP) rfl rfl hl.1 rfl (lv_room (Nat.le_of_ble_eq_true rfl)) dX6_add_94 ⟨Nat.zero_le _, Nat.zero_le _⟩) ?_
              have hlk := sml_low (hlet k c_70)
              refine nz_top (y := nI (lowN (mt.1 (fr + k)))) hlk.1 ?_
              refine lv_i2b (v := nI (lowN (mt.1 (fr + k)))) hx hb dX6_add_97 (nz_b8 _ hlk.2).2.2 ?_
              refine nz_bast (f := va_cpy (fun j => lowN (mt.1 (fr + j))) ml2.1 0 (24 * p9) k) (k := 24 * p9 + k) (v := lowN (mt.1 (fr + k))) (ws' := wM b cs mt (va_up (va_cpy (fun j => lowN (mt.1 (fr + j))) ml2.1 0 (24 * p9) k) (24 * p9 + k) (lowN (mt.1 (fr + k))), ml2.2.1, ml2.2.2.1, ml2.2.2.2.1, ml2.2.2.2.2) mr mk) hx hb hK hP (wM_D hb2) hS 2 0 rfl rfl (by omega) (by decide) hlk.2 dX6_add_98 rfl (fun H locs hP hS => ?_)
              have e_1 : va_up (va_cpy (fun j => lowN (mt.1 (fr + j))) ml2.1 0 (24 * p9) k) (24 * p9 + k) (lowN (mt.1 (fr + k))) = va_cpy (fun j => lowN (mt.1 (fr + j))) ml2.1 0 (24 * p9) (k + 1) := cpy_step (by show _ = lowN (mt.1 (fr + (0 + k))); rw [Nat.zero_add])
              rw [e_1] at hP
              refine lv_iinc (v := nI (k + 1)) (lv' := [(6, .int (nI (k + 1))), (0, .ref (b 0)), (1, .int (nI (fr))), (2, .int (nI (ln))), (3, .long (lN (wt))), (5, .int (nI (p9)))]) hx hb dX6_add_99 hl (k := 5) rfl (nz_inc1 _) (by decide) rfl (fun ls hl => ?_)
              refine lv_goto (tgt := 67) hx hb dX6_add_102 (by decide) ?_
              exact ih (k + 1) (by omega) (by omega) H locs hP hS ls (lv_sub hl [1, 2, 3, 4, 5, 0] rfl)
        exact loop3 (ln - 0 + 1) 0 (Nat.zero_le _) (Nat.lt_succ_self _) H locs hP hS ls (lv_sub hl [1, 2, 3, 4, 5, 0] rfl)
      have loop : ∀ (fuel : Nat) (k : Nat) (ml2 : (Nat → Nat) × (Nat → Nat) × (Nat → Nat) × Nat × Nat), (p9 ≤ k) → (k ≤ ml.2.2.2.1) → (ShM ml ml2 k) → k < fuel → ∀ (H : Heap) (locs : List Loc), va_P D vwCl (wM b cs mt ml2 mr mk) H → va_S (inM b) s.heap H locs → ∀ ls : Array Slot, lv_has ls 7 [(0, .ref (b 0)), (1, .int (nI (fr))), (2, .int (nI (ln))), (3, .long (lN (wt))), (5, .int (nI (k)))] → W p l e rmX6_add s m args below meth c H locs 0 0 Q (F0 m 30 ls []) := by
        intro fuel
        induction fuel with
        | zero => intro k ml2 hk1 hk2 hsh hf; exact absurd hf (Nat.not_lt_zero _)
        | succ fuel ih =>
          intro k ml2 hk1 hk2 hsh hf H locs hP hS ls hl
          refine lv_iload hx hb dX6_add_30 (lv_at hl 4 rfl) ?_
          refine nz_ifle (a := k) (tgt := 64) hx hb dX6_add_32 (by decide) (by omega) (fun c_32 => ?_) (fun c_32 => ?_)
          · have hkp : k = p9 := by omega
            subst hkp
            exact join ml2 hsh H locs hP hS ls (lv_sub hl [0, 1, 2, 3, 4] rfl)
          · refine lv_aload_n hx hb dX6_add_35 rfl (lv_at hl 0 rfl) ?_
            refine lv_iload_n hx hb dX6_add_36 rfl (lv_at hl 1 rfl) ?_
            refine lv_iload_n hx hb dX6_add_37 rfl (lv_at hl 2 rfl) ?_
            refine lv_iload hx hb dX6_add_38 (lv_at hl 4 rfl) ?_
            refine lv_iconst (v := nI 1) hx hb dX6_add_40 (by decide +kernel) ?_
            refine nz_isub (a := k) (b := 1) hx hb dX6_add_41 (by omega) ?_
            obtain ⟨hs1, hs2, hs3⟩ := hsh.2.2.2.1 (k - 1) (by omega)
            have hz9 : ml.2.1 (k - 1) ≤ 24 := hM2 _
            obtain ⟨x, hcx0⟩ := cmp_ex (fun j => lowN (mt.1 (fr + j))) ln (TM ml (k - 1)) (ZM ml (k - 1))
            have hcx : CmpIs (fun j => lowN (mt.1 (fr + j))) ln (TM ml2 (k - 1)) (ZM ml2 (k - 1)) x := cmp_congr hs1.symm (fun j hj => (hs2 j (by omega)).symm) hcx0
            refine nz_callR (va_runV (As := [.int (nI (fr)), .int (nI (ln)), .int (nI (k - 1))]) (rest := []) ⟨hx, hb, hml, hown, hts⟩ (mX6_compare l D b cs mt ml2 mr mk fr ln (k - 1) x hsh.1 (by omega) (by omega) hlet (by omega) hcx) (cwV 3 hts gX6_add_X6_compare rfl rfl rfl (by decide +kernel) ⟨Nat.le_of_ble_eq_true rfl, Nat.le_of_ble_eq_true rfl⟩) (nz_preV (ci := 6) (q0 := 0) hK hP rfl rfl) rfl rfl hl.1 rfl (lv_room (Nat.le_of_ble_eq_true rfl)) dX6_add_42 ⟨Nat.zero_le _, Nat.zero_le _⟩) ?_
            refine lv_if_ge (tgt := 64) hx hb dX6_add_45 (by decide) (fun c_45 => ?_) (fun c_45 => ?_)
            · have hkp : k = p9 := by
                rcases Nat.lt_or_ge p9 k with h | h
                · exact absurd (hp3 (k - 1) (by omega) (by omega)) (cmp_nn hcx0 c_45)
                · omega
              subst hkp
              exact join ml2 hsh H locs hP hS ls (lv_sub hl [0, 1, 2, 3, 4] rfl)
            · have hkp : p9 < k := by
                rcases Nat.lt_or_ge p9 k with h | h
                · exact h
                · exact absurd (hp2 (k - 1) (by omega)) (ltF_asym (cmp_neg hcx0 c_45))
              refine lv_aload_n hx hb dX6_add_48 rfl (lv_at hl 0 rfl) ?_
              refine lv_iload hx hb dX6_add_49 (lv_at hl 4 rfl) ?_
              refine lv_iconst (v := nI 1) hx hb dX6_add_51 (by decide +kernel) ?_
              refine nz_isub (a := k) (b := 1) hx hb dX6_add_52 (by omega) ?_
              refine lv_iload hx hb dX6_add_53 (lv_at hl 4 rfl) ?_
              refine nz_callW (va_runV (As := [.int (nI (k - 1)), .int (nI (k))]) (rest := []) ⟨hx, hb, hml, hown, hts⟩ (mX6_move l D b cs mt ml2 mr mk (k - 1) k hb2 hsh.1 (by omega) (by omega) (by omega)) (cwV 2 hts gX6_add_X6_move rfl rfl rfl (by decide +kernel) ⟨Nat.le_of_ble_eq_true rfl, Nat.le_of_ble_eq_true rfl⟩) (nz_preV (ci := 6) (q0 := 0) hK hP rfl rfl) rfl rfl hl.1 rfl (lv_room (Nat.le_of_ble_eq_true rfl)) dX6_add_55 ⟨Nat.zero_le _, Nat.zero_le _⟩) hS (fun _ h => h) (fun H locs hP _ _ hS => ?_)
              refine lv_iinc (v := nI (k - 1)) (lv' := [(5, .int (nI (k - 1))), (0, .ref (b 0)), (1, .int (nI (fr))), (2, .int (nI (ln))), (3, .long (lN (wt)))]) hx hb dX6_add_58 hl (k := 4) rfl (nz_incm (by omega)) (by decide) rfl (fun ls hl => ?_)
              refine lv_goto (tgt := 30) hx hb dX6_add_61 (by decide) ?_
              exact ih (k - 1) ((va_cpy ml2.1 ml2.1 (24 * (k - 1)) (24 * k) 24, va_up ml2.2.1 k (ml2.2.1 (k - 1)), va_up ml2.2.2.1 k (ml2.2.2.1 (k - 1)), ml2.2.2.2.1, ml2.2.2.2.2)) (by omega) (by omega) (shM_step hsh (by omega) (by omega)) (by omega) H locs hP hS ls (lv_sub hl [1, 2, 3, 4, 0] rfl)
      exact loop (ml.2.2.2.1 + 1) ml.2.2.2.1 ml hp1 (Nat.le_refl _) (⟨hM, rfl, rfl, fun i _ => ⟨rfl, fun _ _ => rfl, rfl⟩, fun i h1 h2 => absurd h2 (by omega)⟩) (Nat.lt_succ_self _) H locs hP hS ls (lv_sub hl [1, 2, 3, 4, 0] rfl)
    · refine lv_iconst (v := (-1)) hx hb dX6_add_22 (by decide +kernel) ?_
      have hbv : b2 = false := by cases b2 with | false => rfl | true => exact absurd (hb9.mp rfl) (by omega)
      subst hbv
      exact hret 23 ls H locs dX6_add_23 ⟨ml, ⟨hM, fun h => (by cases h), fun _ => rfl⟩, hP⟩ hS
end
