def RX0 : String := "ManyNames$Flow"
def TX0 : u_T := fun k => match k with
  | 0 => ("ManyNames$Flow", "rooms", "[I", true)
  | 1 => ("ManyNames$Flow", "ways", "[I", true)
  | 2 => ("ManyNames$Flow", "left", "[I", true)
  | 3 => ("ManyNames$Flow", "open", "[I", true)
  | 4 => ("ManyNames$Flow", "from", "[I", true)
  | 5 => ("ManyNames$Flow", "queue", "[I", true)
  | _ => ("ManyNames$Flow", "reached", "I", false)
def tyX0 : Nat → FieldType := fun k => match k with
  | 0 => .array .int
  | 1 => .array .int
  | 2 => .array .int
  | 3 => .array .int
  | 4 => .array .int
  | 5 => .array .int
  | _ => .int
abbrev wsX00 : List Cond := u_ws RX0 TX0 7
def nm_h (s : String) : Nat := s.toList.foldl (fun x c => x * 131 + c.toNat) 7
theorem nm_of {T : u_T} {n M : Nat} {iv : List Nat} (h : ∀ k, k < n → iv[nm_h (T k).2.1 % M]? = some k) : ∀ a, a < n → ∀ b, b < n → a ≠ b → (T a).2.1 ≠ (T b).2.1 := by
  intro a ha b hb e q
  have h1 := h a ha
  rw [q, h b hb] at h1
  exact e (Option.some.inj h1).symm
theorem nmX0 : ∀ a, a < 7 → ∀ b, b < 7 → a ≠ b → (TX0 a).2.1 ≠ (TX0 b).2.1 := nm_of (M := 19) (iv := [4, 2, 0, 0, 0, 6, 0, 5, 0, 0, 1, 0, 0, 0, 0, 0, 0, 3, 0]) (by decide +kernel)
theorem tyX0_ok : ∀ k, k < 7 → parseFieldDescriptor (TX0 k).2.2.1 = some (tyX0 k) := by decide +kernel
abbrev cX0_init : ByteArray := prog_2_method_1_code
def yX0_init : MethodName := ⟨RX0, "<init>", "()V"⟩
abbrev cX0_clear : ByteArray := prog_2_method_2_code
def yX0_clear : MethodName := ⟨RX0, "clear", "()V"⟩
abbrev cX0_give : ByteArray := prog_2_method_3_code
def yX0_give : MethodName := ⟨RX0, "give", "(II)V"⟩
abbrev cX0_join : ByteArray := prog_2_method_4_code
def yX0_join : MethodName := ⟨RX0, "join", "(III)V"⟩
abbrev cX0_widen : ByteArray := prog_2_method_5_code
def yX0_widen : MethodName := ⟨RX0, "widen", "(III)V"⟩
abbrev cX0_partCheat : ByteArray := prog_2_method_6_code
def yX0_partCheat : MethodName := ⟨RX0, "partCheat", "()V"⟩
abbrev cX0_most : ByteArray := prog_2_method_7_code
def yX0_most : MethodName := ⟨RX0, "most", "(I)I"⟩
abbrev cX0_search : ByteArray := prog_2_method_8_code
def yX0_search : MethodName := ⟨RX0, "search", "(I)I"⟩
abbrev cX0_push : ByteArray := prog_2_method_9_code
def yX0_push : MethodName := ⟨RX0, "push", "(I)I"⟩
def RX1 : String := "ManyNames$Folk"
def TX1 : u_T := fun k => match k with
  | 0 => ("ManyNames$Folk", "price", "[I", true)
  | 1 => ("ManyNames$Folk", "seed", "[Z", true)
  | 2 => ("ManyNames$Folk", "made", "[Z", true)
  | 3 => ("ManyNames$Folk", "finedTo", "[I", true)
  | 4 => ("ManyNames$Folk", "coins", "[I", true)
  | _ => ("ManyNames$Folk", "count", "I", false)
def tyX1 : Nat → FieldType := fun k => match k with
  | 0 => .array .int
  | 1 => .array .boolean
  | 2 => .array .boolean
  | 3 => .array .int
  | 4 => .array .int
  | _ => .int
abbrev wsX10 : List Cond := u_ws RX1 TX1 6
theorem nmX1 : ∀ a, a < 6 → ∀ b, b < 6 → a ≠ b → (TX1 a).2.1 ≠ (TX1 b).2.1 := nm_of (M := 15) (iv := [3, 0, 0, 0, 1, 5, 0, 4, 0, 0, 0, 0, 0, 0, 2]) (by decide +kernel)
theorem tyX1_ok : ∀ k, k < 6 → parseFieldDescriptor (TX1 k).2.2.1 = some (tyX1 k) := by decide +kernel
abbrev cX1_init : ByteArray := prog_3_method_1_code
def yX1_init : MethodName := ⟨RX1, "<init>", "()V"⟩
abbrev cX1_enter : ByteArray := prog_3_method_2_code
def yX1_enter : MethodName := ⟨RX1, "enter", "(I)I"⟩
def RX2 : String := "ManyNames$Sheet"
def TX2 : u_T := fun k => match k with
  | 0 => ("ManyNames$Sheet", "cells", "[I", true)
  | 1 => ("ManyNames$Sheet", "lane", "I", false)
  | _ => ("ManyNames$Sheet", "size", "I", false)
def tyX2 : Nat → FieldType := fun k => match k with
  | 0 => .array .int
  | 1 => .int
  | _ => .int
abbrev wsX20 : List Cond := u_ws RX2 TX2 3
theorem nmX2 : ∀ a, a < 3 → ∀ b, b < 3 → a ≠ b → (TX2 a).2.1 ≠ (TX2 b).2.1 := by decide +kernel
theorem tyX2_ok : ∀ k, k < 3 → parseFieldDescriptor (TX2 k).2.2.1 = some (tyX2 k) := by decide +kernel
abbrev cX2_init : ByteArray := prog_4_method_1_code
def yX2_init : MethodName := ⟨RX2, "<init>", "()V"⟩
abbrev cX2_isNothing : ByteArray := prog_4_method_2_code
def yX2_isNothing : MethodName := ⟨RX2, "isNothing", "()Z"⟩
abbrev cX2_renewRow : ByteArray := prog_4_method_3_code
def yX2_renewRow : MethodName := ⟨RX2, "renewRow", "(II)V"⟩
abbrev cX2_faultAt : ByteArray := prog_4_method_4_code
def yX2_faultAt : MethodName := ⟨RX2, "faultAt", "(I)I"⟩
abbrev cX2_put : ByteArray := prog_4_method_5_code
def yX2_put : MethodName := ⟨RX2, "put", "(II)V"⟩
abbrev cX2_wholeWords : ByteArray := prog_4_method_6_code
def yX2_wholeWords : MethodName := ⟨RX2, "wholeWords", "(III)I"⟩
abbrev cX2_faultOfReading : ByteArray := prog_4_method_7_code
def yX2_faultOfReading : MethodName := ⟨RX2, "faultOfReading", "(III)I"⟩
def RX3 : String := "ManyNames$Tape"
def TX3 : u_T := fun k => match k with
  | 0 => ("ManyNames$Tape", "bytes", "[I", true)
  | 1 => ("ManyNames$Tape", "length", "I", false)
  | 2 => ("ManyNames$Tape", "fault", "I", false)
  | 3 => ("ManyNames$Tape", "place", "I", false)
  | 4 => ("ManyNames$Tape", "start", "I", false)
  | 5 => ("ManyNames$Tape", "token", "I", false)
  | 6 => ("ManyNames$Tape", "value", "I", false)
  | _ => ("ManyNames$Tape", "told", "I", false)
def tyX3 : Nat → FieldType := fun k => match k with
  | 0 => .array .int
  | 1 => .int
  | 2 => .int
  | 3 => .int
  | 4 => .int
  | 5 => .int
  | 6 => .int
  | _ => .int
abbrev wsX30 : List Cond := u_ws RX3 TX3 8
theorem nmX3 : ∀ a, a < 8 → ∀ b, b < 8 → a ≠ b → (TX3 a).2.1 ≠ (TX3 b).2.1 := nm_of (M := 18) (iv := [3, 0, 0, 0, 6, 1, 7, 0, 0, 2, 0, 0, 5, 4, 0, 0, 0, 0]) (by decide +kernel)
theorem tyX3_ok : ∀ k, k < 8 → parseFieldDescriptor (TX3 k).2.2.1 = some (tyX3 k) := by decide +kernel
abbrev cX3_init : ByteArray := prog_5_method_1_code
def yX3_init : MethodName := ⟨RX3, "<init>", "()V"⟩
abbrev cX3_takeEight : ByteArray := prog_5_method_2_code
def yX3_takeEight : MethodName := ⟨RX3, "takeEight", "(J)I"⟩
abbrev cX3_readLines : ByteArray := prog_5_method_3_code
def yX3_readLines : MethodName := ⟨RX3, "readLines", "([I)I"⟩
abbrev cX3_readLine : ByteArray := prog_5_method_4_code
def yX3_readLine : MethodName := ⟨RX3, "readLine", "([I)V"⟩
abbrev cX3_stands : ByteArray := prog_5_method_5_code
def yX3_stands : MethodName := ⟨RX3, "stands", "(I)Z"⟩
abbrev cX3_readToken : ByteArray := prog_5_method_6_code
def yX3_readToken : MethodName := ⟨RX3, "readToken", "()V"⟩
abbrev cX3_isLetter : ByteArray := prog_5_method_7_code
def yX3_isLetter : MethodName := ⟨RX3, "isLetter", "(I)Z"⟩
abbrev cX3_isFigure : ByteArray := prog_5_method_8_code
def yX3_isFigure : MethodName := ⟨RX3, "isFigure", "(I)Z"⟩
abbrev cX3_readRule : ByteArray := prog_5_method_9_code
def yX3_readRule : MethodName := ⟨RX3, "readRule", "()V"⟩
abbrev cX3_readNumber : ByteArray := prog_5_method_10_code
def yX3_readNumber : MethodName := ⟨RX3, "readNumber", "()V"⟩
abbrev cX3_isText : ByteArray := prog_5_method_11_code
def yX3_isText : MethodName := ⟨RX3, "isText", "(Ljava/lang/String;)Z"⟩
abbrev cX3_textOf : ByteArray := prog_5_method_12_code
def yX3_textOf : MethodName := ⟨RX3, "textOf", "(I)Ljava/lang/String;"⟩
def RX4 : String := "ManyNames$Ties"
def TX4 : u_T := fun k => match k with
  | 0 => ("ManyNames$Ties", "first", "[I", true)
  | 1 => ("ManyNames$Ties", "second", "[I", true)
  | 2 => ("ManyNames$Ties", "room", "[I", true)
  | 3 => ("ManyNames$Ties", "kind", "[I", true)
  | 4 => ("ManyNames$Ties", "since", "[I", true)
  | _ => ("ManyNames$Ties", "count", "I", false)
def tyX4 : Nat → FieldType := fun k => match k with
  | 0 => .array .int
  | 1 => .array .int
  | 2 => .array .int
  | 3 => .array .int
  | 4 => .array .int
  | _ => .int
abbrev wsX40 : List Cond := u_ws RX4 TX4 6
theorem nmX4 : ∀ a, a < 6 → ∀ b, b < 6 → a ≠ b → (TX4 a).2.1 ≠ (TX4 b).2.1 := nm_of (M := 14) (iv := [2, 0, 0, 0, 0, 0, 0, 0, 0, 1, 5, 3, 0, 4]) (by decide +kernel)
theorem tyX4_ok : ∀ k, k < 6 → parseFieldDescriptor (TX4 k).2.2.1 = some (tyX4 k) := by decide +kernel
abbrev cX4_init : ByteArray := prog_6_method_1_code
def yX4_init : MethodName := ⟨RX4, "<init>", "()V"⟩
abbrev cX4_enter : ByteArray := prog_6_method_2_code
def yX4_enter : MethodName := ⟨RX4, "enter", "(IIIII)I"⟩
def RX5 : String := "ManyNames$Words"
def TX5 : u_T := fun k => match k with
  | 0 => ("ManyNames$Words", "sayer", "[I", true)
  | 1 => ("ManyNames$Words", "seller", "[I", true)
  | 2 => ("ManyNames$Words", "deal", "[I", true)
  | 3 => ("ManyNames$Words", "mark", "[I", true)
  | 4 => ("ManyNames$Words", "since", "[I", true)
  | 5 => ("ManyNames$Words", "bothEnds", "[I", true)
  | 6 => ("ManyNames$Words", "firstOfDeal", "[Z", true)
  | _ => ("ManyNames$Words", "count", "I", false)
def tyX5 : Nat → FieldType := fun k => match k with
  | 0 => .array .int
  | 1 => .array .int
  | 2 => .array .int
  | 3 => .array .int
  | 4 => .array .int
  | 5 => .array .int
  | 6 => .array .boolean
  | _ => .int
abbrev wsX50 : List Cond := u_ws RX5 TX5 8
theorem nmX5 : ∀ a, a < 8 → ∀ b, b < 8 → a ≠ b → (TX5 a).2.1 ≠ (TX5 b).2.1 := nm_of (M := 14) (iv := [0, 2, 0, 0, 3, 0, 1, 0, 5, 0, 7, 0, 6, 4]) (by decide +kernel)
theorem tyX5_ok : ∀ k, k < 8 → parseFieldDescriptor (TX5 k).2.2.1 = some (tyX5 k) := by decide +kernel
abbrev cX5_init : ByteArray := prog_7_method_1_code
def yX5_init : MethodName := ⟨RX5, "<init>", "()V"⟩
abbrev cX5_enter : ByteArray := prog_7_method_2_code
def yX5_enter : MethodName := ⟨RX5, "enter", "(IIIII)I"⟩
abbrev cX5_isNewDeal : ByteArray := prog_7_method_3_code
def yX5_isNewDeal : MethodName := ⟨RX5, "isNewDeal", "(I)Z"⟩
abbrev cX5_countingOf : ByteArray := prog_7_method_4_code
def yX5_countingOf : MethodName := ⟨RX5, "countingOf", "(II)I"⟩
abbrev cX5_doesCount : ByteArray := prog_7_method_5_code
def yX5_doesCount : MethodName := ⟨RX5, "doesCount", "(I)Z"⟩
abbrev cX5_countingOnes : ByteArray := prog_7_method_6_code
def yX5_countingOnes : MethodName := ⟨RX5, "countingOnes", "()I"⟩
def RX6 : String := "ManyNames"
def TX6 : u_T := fun k => match k with
  | 0 => ("ManyNames", "folk", "LManyNames$Folk;", true)
  | 1 => ("ManyNames", "ties", "LManyNames$Ties;", true)
  | 2 => ("ManyNames", "words", "LManyNames$Words;", true)
  | 3 => ("ManyNames", "tape", "LManyNames$Tape;", true)
  | 4 => ("ManyNames", "flow", "LManyNames$Flow;", true)
  | 5 => ("ManyNames", "sheets", "[LManyNames$Sheet;", true)
  | 6 => ("ManyNames", "held", "[I", true)
  | 7 => ("ManyNames", "draft", "[I", true)
  | 8 => ("ManyNames", "weights", "[I", true)
  | 9 => ("ManyNames", "marks", "[I", true)
  | 10 => ("ManyNames", "stakes", "[I", true)
  | 11 => ("ManyNames", "today", "I", false)
  | _ => ("ManyNames", "lostFault", "I", false)
def tyX6 : Nat → FieldType := fun k => match k with
  | 0 => .object "ManyNames$Folk"
  | 1 => .object "ManyNames$Ties"
  | 2 => .object "ManyNames$Words"
  | 3 => .object "ManyNames$Tape"
  | 4 => .object "ManyNames$Flow"
  | 5 => .array (.object "ManyNames$Sheet")
  | 6 => .array .int
  | 7 => .array .int
  | 8 => .array .int
  | 9 => .array .int
  | 10 => .array .int
  | 11 => .int
  | _ => .int
abbrev wsX60 : List Cond := u_ws RX6 TX6 13
theorem nmX6 : ∀ a, a < 13 → ∀ b, b < 13 → a ≠ b → (TX6 a).2.1 ≠ (TX6 b).2.1 := nm_of (M := 34) (iv := [10, 3, 0, 5, 8, 9, 0, 0, 0, 4, 0, 0, 0, 0, 0, 0, 7, 0, 2, 0, 0, 0, 6, 0, 11, 0, 0, 0, 0, 0, 0, 12, 1, 0]) (by decide +kernel)
theorem tyX6_ok : ∀ k, k < 13 → parseFieldDescriptor (TX6 k).2.2.1 = some (tyX6 k) := by decide +kernel
abbrev cX6_init : ByteArray := prog_1_method_1_code
def yX6_init : MethodName := ⟨RX6, "<init>", "()V"⟩
abbrev cX6_name : ByteArray := prog_1_method_2_code
def yX6_name : MethodName := ⟨RX6, "name", "(I)I"⟩
abbrev cX6_seed : ByteArray := prog_1_method_3_code
def yX6_seed : MethodName := ⟨RX6, "seed", "(IZ)I"⟩
abbrev cX6_pledge : ByteArray := prog_1_method_4_code
def yX6_pledge : MethodName := ⟨RX6, "pledge", "(II)I"⟩
abbrev cX6_tie : ByteArray := prog_1_method_5_code
def yX6_tie : MethodName := ⟨RX6, "tie", "(IIII)I"⟩
abbrev cX6_tieOf : ByteArray := prog_1_method_6_code
def yX6_tieOf : MethodName := ⟨RX6, "tieOf", "(II)I"⟩
abbrev cX6_renew : ByteArray := prog_1_method_7_code
def yX6_renew : MethodName := ⟨RX6, "renew", "(I)I"⟩
abbrev cX6_of : ByteArray := prog_1_method_8_code
def yX6_of : MethodName := ⟨RX6, "of", "(II)I"⟩
abbrev cX6_made : ByteArray := prog_1_method_9_code
def yX6_made : MethodName := ⟨RX6, "made", "(I)I"⟩
abbrev cX6_day : ByteArray := prog_1_method_10_code
def yX6_day : MethodName := ⟨RX6, "day", "(I)I"⟩
abbrev cX6_feed : ByteArray := prog_1_method_11_code
def yX6_feed : MethodName := ⟨RX6, "feed", "(J)I"⟩
abbrev cX6_end : ByteArray := prog_1_method_12_code
def yX6_end : MethodName := ⟨RX6, "end", "(I)I"⟩
abbrev cX6_rules : ByteArray := prog_1_method_13_code
def yX6_rules : MethodName := ⟨RX6, "rules", "()I"⟩
abbrev cX6_fault : ByteArray := prog_1_method_14_code
def yX6_fault : MethodName := ⟨RX6, "fault", "()I"⟩
abbrev cX6_rule : ByteArray := prog_1_method_15_code
def yX6_rule : MethodName := ⟨RX6, "rule", "(I)I"⟩
abbrev cX6_trust : ByteArray := prog_1_method_16_code
def yX6_trust : MethodName := ⟨RX6, "trust", "(I)I"⟩
abbrev cX6_heap : ByteArray := prog_1_method_17_code
def yX6_heap : MethodName := ⟨RX6, "heap", "(I)I"⟩
abbrev cX6_cut : ByteArray := prog_1_method_18_code
def yX6_cut : MethodName := ⟨RX6, "cut", "(II)I"⟩
abbrev cX6_low : ByteArray := prog_1_method_19_code
def yX6_low : MethodName := ⟨RX6, "low", "(I)I"⟩
abbrev cX6_twins : ByteArray := prog_1_method_20_code
def yX6_twins : MethodName := ⟨RX6, "twins", "(I)I"⟩
abbrev cX6_word : ByteArray := prog_1_method_21_code
def yX6_word : MethodName := ⟨RX6, "word", "(IIII)I"⟩
abbrev cX6_wordOf : ByteArray := prog_1_method_22_code
def yX6_wordOf : MethodName := ⟨RX6, "wordOf", "(II)I"⟩
abbrev cX6_weight : ByteArray := prog_1_method_23_code
def yX6_weight : MethodName := ⟨RX6, "weight", "(II)I"⟩
abbrev cX6_sayers : ByteArray := prog_1_method_24_code
def yX6_sayers : MethodName := ⟨RX6, "sayers", "(I)I"⟩
abbrev cX6_mark : ByteArray := prog_1_method_25_code
def yX6_mark : MethodName := ⟨RX6, "mark", "(II)I"⟩
abbrev cX6_span : ByteArray := prog_1_method_26_code
def yX6_span : MethodName := ⟨RX6, "span", "(III)I"⟩
abbrev cX6_ring : ByteArray := prog_1_method_27_code
def yX6_ring : MethodName := ⟨RX6, "ring", "(II)I"⟩
abbrev cX6_odds : ByteArray := prog_1_method_28_code
def yX6_odds : MethodName := ⟨RX6, "odds", "(II)J"⟩
abbrev cX6_oddest : ByteArray := prog_1_method_29_code
def yX6_oddest : MethodName := ⟨RX6, "oddest", "(I)J"⟩
abbrev cX6_gain : ByteArray := prog_1_method_30_code
def yX6_gain : MethodName := ⟨RX6, "gain", "(III)I"⟩
abbrev cX6_best : ByteArray := prog_1_method_31_code
def yX6_best : MethodName := ⟨RX6, "best", "(III)I"⟩
abbrev cX6_sheet : ByteArray := prog_1_method_32_code
def yX6_sheet : MethodName := ⟨RX6, "sheet", "(III)I"⟩
abbrev cX6_lay : ByteArray := prog_1_method_33_code
def yX6_lay : MethodName := ⟨RX6, "lay", "(III)I"⟩
abbrev cX6_read : ByteArray := prog_1_method_34_code
def yX6_read : MethodName := ⟨RX6, "read", "(IIII)I"⟩
abbrev cX6_lost : ByteArray := prog_1_method_35_code
def yX6_lost : MethodName := ⟨RX6, "lost", "()I"⟩
abbrev cX6_count : ByteArray := prog_1_method_36_code
def yX6_count : MethodName := ⟨RX6, "count", "(I)I"⟩
abbrev cX6_within : ByteArray := prog_1_method_37_code
def yX6_within : MethodName := ⟨RX6, "within", "(III)Z"⟩
abbrev cX6_hasBit : ByteArray := prog_1_method_38_code
def yX6_hasBit : MethodName := ⟨RX6, "hasBit", "(II)Z"⟩
abbrev cX6_oneIf : ByteArray := prog_1_method_39_code
def yX6_oneIf : MethodName := ⟨RX6, "oneIf", "(Z)I"⟩
abbrev cX6_isName : ByteArray := prog_1_method_40_code
def yX6_isName : MethodName := ⟨RX6, "isName", "(I)Z"⟩
abbrev cX6_arePair : ByteArray := prog_1_method_41_code
def yX6_arePair : MethodName := ⟨RX6, "arePair", "(II)Z"⟩
abbrev cX6_isHeap : ByteArray := prog_1_method_42_code
def yX6_isHeap : MethodName := ⟨RX6, "isHeap", "(I)Z"⟩
abbrev cX6_isTie : ByteArray := prog_1_method_43_code
def yX6_isTie : MethodName := ⟨RX6, "isTie", "(I)Z"⟩
abbrev cX6_isWord : ByteArray := prog_1_method_44_code
def yX6_isWord : MethodName := ⟨RX6, "isWord", "(I)Z"⟩
abbrev cX6_isSheet : ByteArray := prog_1_method_45_code
def yX6_isSheet : MethodName := ⟨RX6, "isSheet", "(I)Z"⟩
abbrev cX6_isLane : ByteArray := prog_1_method_46_code
def yX6_isLane : MethodName := ⟨RX6, "isLane", "(I)Z"⟩
abbrev cX6_isOffer : ByteArray := prog_1_method_47_code
def yX6_isOffer : MethodName := ⟨RX6, "isOffer", "(II)Z"⟩
abbrev cX6_isFined : ByteArray := prog_1_method_48_code
def yX6_isFined : MethodName := ⟨RX6, "isFined", "(I)Z"⟩
abbrev cX6_isPlain : ByteArray := prog_1_method_49_code
def yX6_isPlain : MethodName := ⟨RX6, "isPlain", "(I)Z"⟩
abbrev cX6_countTrue : ByteArray := prog_1_method_50_code
def yX6_countTrue : MethodName := ⟨RX6, "countTrue", "([Z)I"⟩
abbrev cX6_countFined : ByteArray := prog_1_method_51_code
def yX6_countFined : MethodName := ⟨RX6, "countFined", "()I"⟩
abbrev cX6_standingFor : ByteArray := prog_1_method_52_code
def yX6_standingFor : MethodName := ⟨RX6, "standingFor", "(I)I"⟩
abbrev cX6_pledgeRoom : ByteArray := prog_1_method_53_code
def yX6_pledgeRoom : MethodName := ⟨RX6, "pledgeRoom", "(I)I"⟩
abbrev cX6_givenTo : ByteArray := prog_1_method_54_code
def yX6_givenTo : MethodName := ⟨RX6, "givenTo", "(I)I"⟩
abbrev cX6_faded : ByteArray := prog_1_method_55_code
def yX6_faded : MethodName := ⟨RX6, "faded", "(III)I"⟩
abbrev cX6_hasMadeEnd : ByteArray := prog_1_method_56_code
def yX6_hasMadeEnd : MethodName := ⟨RX6, "hasMadeEnd", "(I)Z"⟩
abbrev cX6_roomOf : ByteArray := prog_1_method_57_code
def yX6_roomOf : MethodName := ⟨RX6, "roomOf", "(I)I"⟩
abbrev cX6_openTies : ByteArray := prog_1_method_58_code
def yX6_openTies : MethodName := ⟨RX6, "openTies", "(I)I"⟩
abbrev cX6_layFlow : ByteArray := prog_1_method_59_code
def yX6_layFlow : MethodName := ⟨RX6, "layFlow", "()V"⟩
abbrev cX6_tiesOutOf : ByteArray := prog_1_method_60_code
def yX6_tiesOutOf : MethodName := ⟨RX6, "tiesOutOf", "(I)I"⟩
abbrev cX6_givenBeyond : ByteArray := prog_1_method_61_code
def yX6_givenBeyond : MethodName := ⟨RX6, "givenBeyond", "(I)I"⟩
abbrev cX6_fillTrusts : ByteArray := prog_1_method_62_code
def yX6_fillTrusts : MethodName := ⟨RX6, "fillTrusts", "()V"⟩
abbrev cX6_refusalOf : ByteArray := prog_1_method_63_code
def yX6_refusalOf : MethodName := ⟨RX6, "refusalOf", "(IIIII)I"⟩
abbrev cX6_sayersOf : ByteArray := prog_1_method_64_code
def yX6_sayersOf : MethodName := ⟨RX6, "sayersOf", "(I)I"⟩
abbrev cX6_weighSayers : ByteArray := prog_1_method_65_code
def yX6_weighSayers : MethodName := ⟨RX6, "weighSayers", "(I)I"⟩
abbrev cX6_summedMarks : ByteArray := prog_1_method_66_code
def yX6_summedMarks : MethodName := ⟨RX6, "summedMarks", "()I"⟩
abbrev cX6_greatestStakes : ByteArray := prog_1_method_67_code
def yX6_greatestStakes : MethodName := ⟨RX6, "greatestStakes", "(IZ)I"⟩
abbrev cX6_inLowest : ByteArray := prog_1_method_68_code
def yX6_inLowest : MethodName := ⟨RX6, "inLowest", "(JJZ)J"⟩
abbrev cX6_commonPart : ByteArray := prog_1_method_69_code
def yX6_commonPart : MethodName := ⟨RX6, "commonPart", "(JJ)J"⟩
abbrev cX6_choose : ByteArray := prog_1_method_70_code
def yX6_choose : MethodName := ⟨RX6, "choose", "(II)J"⟩
abbrev cX6_wordsWithin : ByteArray := prog_1_method_71_code
def yX6_wordsWithin : MethodName := ⟨RX6, "wordsWithin", "(IZ)I"⟩
abbrev cX6_waysOf : ByteArray := prog_1_method_72_code
def yX6_waysOf : MethodName := ⟨RX6, "waysOf", "(II)J"⟩
abbrev cX6_boughtRoom : ByteArray := prog_1_method_73_code
def yX6_boughtRoom : MethodName := ⟨RX6, "boughtRoom", "(I)I"⟩
abbrev cX6_sellingNames : ByteArray := prog_1_method_74_code
def yX6_sellingNames : MethodName := ⟨RX6, "sellingNames", "()I"⟩
abbrev cX6_gainBy : ByteArray := prog_1_method_75_code
def yX6_gainBy : MethodName := ⟨RX6, "gainBy", "(III)I"⟩
def RX7 : String := "ManyNamesModel"
def TX7 : u_T := fun k => match k with
  | 0 => ("ManyNamesModel", "names", "I", false)
  | 1 => ("ManyNamesModel", "price", "[I", true)
  | 2 => ("ManyNamesModel", "isSeed", "[Z", true)
  | 3 => ("ManyNamesModel", "isMade", "[Z", true)
  | 4 => ("ManyNamesModel", "finedTo", "[I", true)
  | 5 => ("ManyNamesModel", "coins", "[I", true)
  | 6 => ("ManyNamesModel", "ties", "I", false)
  | 7 => ("ManyNamesModel", "one", "[I", true)
  | 8 => ("ManyNamesModel", "two", "[I", true)
  | 9 => ("ManyNamesModel", "told", "[I", true)
  | 10 => ("ManyNamesModel", "kind", "[I", true)
  | 11 => ("ManyNamesModel", "since", "[I", true)
  | 12 => ("ManyNamesModel", "today", "I", false)
  | 13 => ("ManyNamesModel", "rules", "[I", true)
  | 14 => ("ManyNamesModel", "draft", "[I", true)
  | 15 => ("ManyNamesModel", "isTold", "[Z", true)
  | 16 => ("ManyNamesModel", "tape", "[I", true)
  | 17 => ("ManyNamesModel", "taped", "I", false)
  | 18 => ("ManyNamesModel", "pos", "I", false)
  | 19 => ("ManyNamesModel", "from", "I", false)
  | 20 => ("ManyNamesModel", "sort", "I", false)
  | 21 => ("ManyNamesModel", "value", "I", false)
  | 22 => ("ManyNamesModel", "fault", "I", false)
  | 23 => ("ManyNamesModel", "wrongAt", "I", false)
  | 24 => ("ManyNamesModel", "left", "[I", true)
  | 25 => ("ManyNamesModel", "by", "[I", true)
  | 26 => ("ManyNamesModel", "row", "[I", true)
  | 27 => ("ManyNamesModel", "words", "I", false)
  | 28 => ("ManyNamesModel", "who", "[I", true)
  | 29 => ("ManyNamesModel", "seller", "[I", true)
  | 30 => ("ManyNamesModel", "deal", "[I", true)
  | 31 => ("ManyNamesModel", "marked", "[I", true)
  | 32 => ("ManyNamesModel", "saidOn", "[I", true)
  | 33 => ("ManyNamesModel", "listed", "I", false)
  | 34 => ("ManyNamesModel", "weights", "[I", true)
  | 35 => ("ManyNamesModel", "marks", "[I", true)
  | 36 => ("ManyNamesModel", "allWeights", "I", false)
  | 37 => ("ManyNamesModel", "allMarks", "I", false)
  | 38 => ("ManyNamesModel", "oddsUp", "J", false)
  | 39 => ("ManyNamesModel", "oddsDown", "J", false)
  | 40 => ("ManyNamesModel", "lanes", "[I", true)
  | 41 => ("ManyNamesModel", "sizes", "[I", true)
  | 42 => ("ManyNamesModel", "cells", "[I", true)
  | _ => ("ManyNamesModel", "lost", "I", false)
def tyX7 : Nat → FieldType := fun k => match k with
  | 0 => .int
  | 1 => .array .int
  | 2 => .array .boolean
  | 3 => .array .boolean
  | 4 => .array .int
  | 5 => .array .int
  | 6 => .int
  | 7 => .array .int
  | 8 => .array .int
  | 9 => .array .int
  | 10 => .array .int
  | 11 => .array .int
  | 12 => .int
  | 13 => .array .int
  | 14 => .array .int
  | 15 => .array .boolean
  | 16 => .array .int
  | 17 => .int
  | 18 => .int
  | 19 => .int
  | 20 => .int
  | 21 => .int
  | 22 => .int
  | 23 => .int
  | 24 => .array .int
  | 25 => .array .int
  | 26 => .array .int
  | 27 => .int
  | 28 => .array .int
  | 29 => .array .int
  | 30 => .array .int
  | 31 => .array .int
  | 32 => .array .int
  | 33 => .int
  | 34 => .array .int
  | 35 => .array .int
  | 36 => .int
  | 37 => .int
  | 38 => .long
  | 39 => .long
  | 40 => .array .int
  | 41 => .array .int
  | 42 => .array .int
  | _ => .int
abbrev wsX70 : List Cond := u_ws RX7 TX7 44
theorem nmX7 : ∀ a, a < 44 → ∀ b, b < 44 → a ≠ b → (TX7 a).2.1 ≠ (TX7 b).2.1 := nm_of (M := 170) (iv := [15, 0, 0, 0, 0, 0, 0, 0, 0, 10, 0, 0, 2, 19, 0, 0, 14, 0, 0, 0, 0, 0, 3, 0, 0, 0, 0, 5, 0, 0, 4, 0, 0, 0, 0, 0, 0, 0, 0, 35, 0, 0, 0, 32, 24, 0, 0, 0, 0, 0, 0, 0, 0, 0, 0, 23, 0, 0, 40, 0, 0, 0, 0, 0, 0, 0, 0, 0, 0, 0, 0, 0, 0, 20, 0, 0, 0, 0, 21, 0, 0, 0, 0, 0, 0, 0, 27, 22, 0, 0, 38, 39, 12, 0, 0, 41, 0, 11, 0, 0, 37, 36, 13, 16, 0, 0, 0, 0, 0, 0, 0, 26, 0, 8, 0, 0, 0, 0, 0, 0, 0, 0, 0, 0, 0, 18, 0, 43, 0, 0, 0, 0, 9, 0, 6, 0, 0, 0, 42, 0, 34, 0, 33, 30, 0, 31, 25, 0, 0, 0, 0, 0, 0, 0, 29, 0, 0, 0, 0, 7, 0, 28, 0, 17, 0, 0, 0, 0, 1, 0]) (by decide +kernel)
theorem tyX7_ok : ∀ k, k < 44 → parseFieldDescriptor (TX7 k).2.2.1 = some (tyX7 k) := by decide +kernel
abbrev cX7_init : ByteArray := prog_9_method_1_code
def yX7_init : MethodName := ⟨RX7, "<init>", "()V"⟩
abbrev cX7_in : ByteArray := prog_9_method_3_code
def yX7_in : MethodName := ⟨RX7, "in", "(JJJ)Z"⟩
abbrev cX7_bits : ByteArray := prog_9_method_4_code
def yX7_bits : MethodName := ⟨RX7, "bits", "(I)I"⟩
abbrev cX7_common : ByteArray := prog_9_method_5_code
def yX7_common : MethodName := ⟨RX7, "common", "(JJ)J"⟩
abbrev cX7_isName : ByteArray := prog_9_method_6_code
def yX7_isName : MethodName := ⟨RX7, "isName", "(I)Z"⟩
abbrev cX7_isFined : ByteArray := prog_9_method_7_code
def yX7_isFined : MethodName := ⟨RX7, "isFined", "(I)Z"⟩
abbrev cX7_name : ByteArray := prog_9_method_8_code
def yX7_name : MethodName := ⟨RX7, "name", "(I)I"⟩
abbrev cX7_seed : ByteArray := prog_9_method_9_code
def yX7_seed : MethodName := ⟨RX7, "seed", "(IZ)I"⟩
abbrev cX7_pledged : ByteArray := prog_9_method_10_code
def yX7_pledged : MethodName := ⟨RX7, "pledged", "(I)I"⟩
abbrev cX7_pledge : ByteArray := prog_9_method_11_code
def yX7_pledge : MethodName := ⟨RX7, "pledge", "(II)I"⟩
abbrev cX7_tie : ByteArray := prog_9_method_12_code
def yX7_tie : MethodName := ⟨RX7, "tie", "(IIII)I"⟩
abbrev cX7_faded : ByteArray := prog_9_method_13_code
def yX7_faded : MethodName := ⟨RX7, "faded", "(III)I"⟩
abbrev cX7_roomOf : ByteArray := prog_9_method_14_code
def yX7_roomOf : MethodName := ⟨RX7, "roomOf", "(I)I"⟩
abbrev cX7_isTie : ByteArray := prog_9_method_15_code
def yX7_isTie : MethodName := ⟨RX7, "isTie", "(I)Z"⟩
abbrev cX7_tieOf : ByteArray := prog_9_method_16_code
def yX7_tieOf : MethodName := ⟨RX7, "tieOf", "(II)I"⟩
abbrev cX7_renew : ByteArray := prog_9_method_17_code
def yX7_renew : MethodName := ⟨RX7, "renew", "(I)I"⟩
abbrev cX7_given : ByteArray := prog_9_method_18_code
def yX7_given : MethodName := ⟨RX7, "given", "(I)I"⟩
abbrev cX7_of : ByteArray := prog_9_method_19_code
def yX7_of : MethodName := ⟨RX7, "of", "(II)I"⟩
abbrev cX7_made : ByteArray := prog_9_method_20_code
def yX7_made : MethodName := ⟨RX7, "made", "(I)I"⟩
abbrev cX7_day : ByteArray := prog_9_method_21_code
def yX7_day : MethodName := ⟨RX7, "day", "(I)I"⟩
abbrev cX7_firstRules : ByteArray := prog_9_method_22_code
def yX7_firstRules : MethodName := ⟨RX7, "firstRules", "()V"⟩
abbrev cX7_keepRules : ByteArray := prog_9_method_23_code
def yX7_keepRules : MethodName := ⟨RX7, "keepRules", "()V"⟩
abbrev cX7_feed : ByteArray := prog_9_method_24_code
def yX7_feed : MethodName := ⟨RX7, "feed", "(J)I"⟩
abbrev cX7_end : ByteArray := prog_9_method_25_code
def yX7_end : MethodName := ⟨RX7, "end", "(I)I"⟩
abbrev cX7_wants : ByteArray := prog_9_method_26_code
def yX7_wants : MethodName := ⟨RX7, "wants", "(ZI)V"⟩
abbrev cX7_look : ByteArray := prog_9_method_27_code
def yX7_look : MethodName := ⟨RX7, "look", "(I)I"⟩
abbrev cX7_is : ByteArray := prog_9_method_28_code
def yX7_is : MethodName := ⟨RX7, "is", "(IIIII)Z"⟩
abbrev cX7_nameNow : ByteArray := prog_9_method_29_code
def yX7_nameNow : MethodName := ⟨RX7, "nameNow", "()I"⟩
abbrev cX7_next : ByteArray := prog_9_method_30_code
def yX7_next : MethodName := ⟨RX7, "next", "()V"⟩
abbrev cX7_least : ByteArray := prog_9_method_31_code
def yX7_least : MethodName := ⟨RX7, "least", "(I)I"⟩
abbrev cX7_most : ByteArray := prog_9_method_32_code
def yX7_most : MethodName := ⟨RX7, "most", "(I)I"⟩
abbrev cX7_readLine : ByteArray := prog_9_method_33_code
def yX7_readLine : MethodName := ⟨RX7, "readLine", "()V"⟩
abbrev cX7_rules : ByteArray := prog_9_method_34_code
def yX7_rules : MethodName := ⟨RX7, "rules", "()I"⟩
abbrev cX7_fault : ByteArray := prog_9_method_35_code
def yX7_fault : MethodName := ⟨RX7, "fault", "()I"⟩
abbrev cX7_rule : ByteArray := prog_9_method_36_code
def yX7_rule : MethodName := ⟨RX7, "rule", "(I)I"⟩
abbrev cX7_begins : ByteArray := prog_9_method_37_code
def yX7_begins : MethodName := ⟨RX7, "begins", "()V"⟩
abbrev cX7_reaches : ByteArray := prog_9_method_38_code
def yX7_reaches : MethodName := ⟨RX7, "reaches", "()Z"⟩
abbrev cX7_flows : ByteArray := prog_9_method_39_code
def yX7_flows : MethodName := ⟨RX7, "flows", "()I"⟩
abbrev cX7_trustOf : ByteArray := prog_9_method_40_code
def yX7_trustOf : MethodName := ⟨RX7, "trustOf", "(I)I"⟩
abbrev cX7_areNames : ByteArray := prog_9_method_41_code
def yX7_areNames : MethodName := ⟨RX7, "areNames", "(I)Z"⟩
abbrev cX7_trust : ByteArray := prog_9_method_42_code
def yX7_trust : MethodName := ⟨RX7, "trust", "(I)I"⟩
abbrev cX7_heap : ByteArray := prog_9_method_43_code
def yX7_heap : MethodName := ⟨RX7, "heap", "(I)I"⟩
abbrev cX7_cut : ByteArray := prog_9_method_44_code
def yX7_cut : MethodName := ⟨RX7, "cut", "(II)I"⟩
abbrev cX7_isPlain : ByteArray := prog_9_method_45_code
def yX7_isPlain : MethodName := ⟨RX7, "isPlain", "(I)Z"⟩
abbrev cX7_low : ByteArray := prog_9_method_46_code
def yX7_low : MethodName := ⟨RX7, "low", "(I)I"⟩
abbrev cX7_twins : ByteArray := prog_9_method_47_code
def yX7_twins : MethodName := ⟨RX7, "twins", "(I)I"⟩
abbrev cX7_isWord : ByteArray := prog_9_method_48_code
def yX7_isWord : MethodName := ⟨RX7, "isWord", "(IIII)Z"⟩
abbrev cX7_says : ByteArray := prog_9_method_49_code
def yX7_says : MethodName := ⟨RX7, "says", "(IIII)V"⟩
abbrev cX7_word : ByteArray := prog_9_method_50_code
def yX7_word : MethodName := ⟨RX7, "word", "(IIII)I"⟩
abbrev cX7_isFirst : ByteArray := prog_9_method_51_code
def yX7_isFirst : MethodName := ⟨RX7, "isFirst", "(I)Z"⟩
abbrev cX7_counts : ByteArray := prog_9_method_52_code
def yX7_counts : MethodName := ⟨RX7, "counts", "(I)Z"⟩
abbrev cX7_wordOf : ByteArray := prog_9_method_53_code
def yX7_wordOf : MethodName := ⟨RX7, "wordOf", "(II)I"⟩
abbrev cX7_wordBy : ByteArray := prog_9_method_54_code
def yX7_wordBy : MethodName := ⟨RX7, "wordBy", "(II)I"⟩
abbrev cX7_sayersOf : ByteArray := prog_9_method_55_code
def yX7_sayersOf : MethodName := ⟨RX7, "sayersOf", "(I)I"⟩
abbrev cX7_weightOf : ByteArray := prog_9_method_56_code
def yX7_weightOf : MethodName := ⟨RX7, "weightOf", "(II)I"⟩
abbrev cX7_weight : ByteArray := prog_9_method_57_code
def yX7_weight : MethodName := ⟨RX7, "weight", "(II)I"⟩
abbrev cX7_sayers : ByteArray := prog_9_method_58_code
def yX7_sayers : MethodName := ⟨RX7, "sayers", "(I)I"⟩
abbrev cX7_lists : ByteArray := prog_9_method_59_code
def yX7_lists : MethodName := ⟨RX7, "lists", "(I)V"⟩
abbrev cX7_fraction : ByteArray := prog_9_method_60_code
def yX7_fraction : MethodName := ⟨RX7, "fraction", "(II)I"⟩
abbrev cX7_mark : ByteArray := prog_9_method_61_code
def yX7_mark : MethodName := ⟨RX7, "mark", "(II)I"⟩
abbrev cX7_moved : ByteArray := prog_9_method_62_code
def yX7_moved : MethodName := ⟨RX7, "moved", "(IZ)I"⟩
abbrev cX7_span : ByteArray := prog_9_method_63_code
def yX7_span : MethodName := ⟨RX7, "span", "(III)I"⟩
abbrev cX7_isGood : ByteArray := prog_9_method_64_code
def yX7_isGood : MethodName := ⟨RX7, "isGood", "(I)Z"⟩
abbrev cX7_isBetween : ByteArray := prog_9_method_65_code
def yX7_isBetween : MethodName := ⟨RX7, "isBetween", "(II)Z"⟩
abbrev cX7_ringOf : ByteArray := prog_9_method_66_code
def yX7_ringOf : MethodName := ⟨RX7, "ringOf", "(II)I"⟩
abbrev cX7_ring : ByteArray := prog_9_method_67_code
def yX7_ring : MethodName := ⟨RX7, "ring", "(II)I"⟩
abbrev cX7_ways : ByteArray := prog_9_method_68_code
def yX7_ways : MethodName := ⟨RX7, "ways", "(II)J"⟩
abbrev cX7_findOdds : ByteArray := prog_9_method_69_code
def yX7_findOdds : MethodName := ⟨RX7, "findOdds", "(I)V"⟩
abbrev cX7_odds : ByteArray := prog_9_method_70_code
def yX7_odds : MethodName := ⟨RX7, "odds", "(II)J"⟩
abbrev cX7_oddest : ByteArray := prog_9_method_71_code
def yX7_oddest : MethodName := ⟨RX7, "oddest", "(I)J"⟩
abbrev cX7_sells : ByteArray := prog_9_method_72_code
def yX7_sells : MethodName := ⟨RX7, "sells", "(I)Z"⟩
abbrev cX7_gainOf : ByteArray := prog_9_method_73_code
def yX7_gainOf : MethodName := ⟨RX7, "gainOf", "(III)I"⟩
abbrev cX7_sellers : ByteArray := prog_9_method_74_code
def yX7_sellers : MethodName := ⟨RX7, "sellers", "()I"⟩
abbrev cX7_gain : ByteArray := prog_9_method_75_code
def yX7_gain : MethodName := ⟨RX7, "gain", "(III)I"⟩
abbrev cX7_best : ByteArray := prog_9_method_76_code
def yX7_best : MethodName := ⟨RX7, "best", "(III)I"⟩
abbrev cX7_isSheet : ByteArray := prog_9_method_77_code
def yX7_isSheet : MethodName := ⟨RX7, "isSheet", "(II)Z"⟩
abbrev cX7_sheet : ByteArray := prog_9_method_78_code
def yX7_sheet : MethodName := ⟨RX7, "sheet", "(III)I"⟩
abbrev cX7_lay : ByteArray := prog_9_method_79_code
def yX7_lay : MethodName := ⟨RX7, "lay", "(III)I"⟩
abbrev cX7_refuses : ByteArray := prog_9_method_80_code
def yX7_refuses : MethodName := ⟨RX7, "refuses", "(IIJ)I"⟩
abbrev cX7_read : ByteArray := prog_9_method_81_code
def yX7_read : MethodName := ⟨RX7, "read", "(IIII)I"⟩
abbrev cX7_lost : ByteArray := prog_9_method_82_code
def yX7_lost : MethodName := ⟨RX7, "lost", "()I"⟩
abbrev cX7_count : ByteArray := prog_9_method_83_code
def yX7_count : MethodName := ⟨RX7, "count", "(I)I"⟩
def RJ6 : String := "java/lang/Integer"
def TJ6 : u_T := fun k => match k with
  | _ => ("", "", "", false)
def tyJ6 : Nat → FieldType := fun k => match k with
  | _ => .int
abbrev wsJ60 : List Cond := u_ws RJ6 TJ6 0
theorem nmJ6 : ∀ a, a < 0 → ∀ b, b < 0 → a ≠ b → (TJ6 a).2.1 ≠ (TJ6 b).2.1 := by decide +kernel
theorem tyJ6_ok : ∀ k, k < 0 → parseFieldDescriptor (TJ6 k).2.2.1 = some (tyJ6 k) := by decide +kernel
abbrev cJ6_bitCount_0f7a4 : ByteArray := prog_10_method_49_code
def yJ6_bitCount_0f7a4 : MethodName := ⟨RJ6, "bitCount", "(I)I"⟩
def RJ9 : String := "java/lang/Math"
def TJ9 : u_T := fun k => match k with
  | _ => ("", "", "", false)
def tyJ9 : Nat → FieldType := fun k => match k with
  | _ => .int
abbrev wsJ90 : List Cond := u_ws RJ9 TJ9 0
theorem nmJ9 : ∀ a, a < 0 → ∀ b, b < 0 → a ≠ b → (TJ9 a).2.1 ≠ (TJ9 b).2.1 := by decide +kernel
theorem tyJ9_ok : ∀ k, k < 0 → parseFieldDescriptor (TJ9 k).2.2.1 = some (tyJ9 k) := by decide +kernel
abbrev cJ9_max_7cf53 : ByteArray := prog_11_method_65_code
def yJ9_max_7cf53 : MethodName := ⟨RJ9, "max", "(II)I"⟩
abbrev cJ9_max_f86c9 : ByteArray := prog_11_method_66_code
def yJ9_max_f86c9 : MethodName := ⟨RJ9, "max", "(JJ)J"⟩
abbrev cJ9_min_7cf53 : ByteArray := prog_11_method_69_code
def yJ9_min_7cf53 : MethodName := ⟨RJ9, "min", "(II)I"⟩
def RJ0 : String := "java/lang/String"
def TJ0 : u_T := fun k => match k with
  | _ => ("", "", "", false)
def tyJ0 : Nat → FieldType := fun k => match k with
  | _ => .int
abbrev wsJ00 : List Cond := u_ws RJ0 TJ0 0
theorem nmJ0 : ∀ a, a < 0 → ∀ b, b < 0 → a ≠ b → (TJ0 a).2.1 ≠ (TJ0 b).2.1 := by decide +kernel
theorem tyJ0_ok : ∀ k, k < 0 → parseFieldDescriptor (TJ0 k).2.2.1 = some (tyJ0 k) := by decide +kernel
abbrev cJ0_length_8abf5 : ByteArray := prog_12_method_54_code
def yJ0_length_8abf5 : MethodName := ⟨RJ0, "length", "()I"⟩
abbrev cJ0_charAt_5068e : ByteArray := prog_12_method_56_code
def yJ0_charAt_5068e : MethodName := ⟨RJ0, "charAt", "(I)C"⟩
abbrev cJ0_coder_7d493 : ByteArray := prog_12_method_152_code
def yJ0_coder_7d493 : MethodName := ⟨RJ0, "coder", "()B"⟩
abbrev cJ0_isLatin1_aae02 : ByteArray := prog_12_method_154_code
def yJ0_isLatin1_aae02 : MethodName := ⟨RJ0, "isLatin1", "()Z"⟩
abbrev cJ0_checkIndex_df160 : ByteArray := prog_12_method_155_code
def yJ0_checkIndex_df160 : MethodName := ⟨RJ0, "checkIndex", "(II)V"⟩
def RJ1 : String := "java/lang/StringLatin1"
def TJ1 : u_T := fun k => match k with
  | _ => ("", "", "", false)
def tyJ1 : Nat → FieldType := fun k => match k with
  | _ => .int
abbrev wsJ10 : List Cond := u_ws RJ1 TJ1 0
theorem nmJ1 : ∀ a, a < 0 → ∀ b, b < 0 → a ≠ b → (TJ1 a).2.1 ≠ (TJ1 b).2.1 := by decide +kernel
theorem tyJ1_ok : ∀ k, k < 0 → parseFieldDescriptor (TJ1 k).2.2.1 = some (tyJ1 k) := by decide +kernel
abbrev cJ1_charAt_3b067 : ByteArray := prog_13_method_2_code
def yJ1_charAt_3b067 : MethodName := ⟨RJ1, "charAt", "([BI)C"⟩
def RJ2 : String := "java/lang/StringUTF16"
def TJ2 : u_T := fun k => match k with
  | _ => ("", "", "", false)
def tyJ2 : Nat → FieldType := fun k => match k with
  | _ => .int
abbrev wsJ20 : List Cond := u_ws RJ2 TJ2 0
theorem nmJ2 : ∀ a, a < 0 → ∀ b, b < 0 → a ≠ b → (TJ2 a).2.1 ≠ (TJ2 b).2.1 := by decide +kernel
theorem tyJ2_ok : ∀ k, k < 0 → parseFieldDescriptor (TJ2 k).2.2.1 = some (tyJ2 k) := by decide +kernel
abbrev cJ2_getChar_3b067 : ByteArray := prog_14_method_5_code
def yJ2_getChar_3b067 : MethodName := ⟨RJ2, "getChar", "([BI)C"⟩
abbrev cJ2_length_9d52b : ByteArray := prog_14_method_6_code
def yJ2_length_9d52b : MethodName := ⟨RJ2, "length", "([B)I"⟩
abbrev cJ2_charAt_3b067 : ByteArray := prog_14_method_83_code
def yJ2_charAt_3b067 : MethodName := ⟨RJ2, "charAt", "([BI)C"⟩
abbrev cJ2_checkIndex_2214a : ByteArray := prog_14_method_91_code
def yJ2_checkIndex_2214a : MethodName := ⟨RJ2, "checkIndex", "(I[B)V"⟩
def RJ10 : String := "java/lang/System"
def TJ10 : u_T := fun k => match k with
  | _ => ("", "", "", false)
def tyJ10 : Nat → FieldType := fun k => match k with
  | _ => .int
abbrev wsJ100 : List Cond := u_ws RJ10 TJ10 0
theorem nmJ10 : ∀ a, a < 0 → ∀ b, b < 0 → a ≠ b → (TJ10 a).2.1 ≠ (TJ10 b).2.1 := by decide +kernel
theorem tyJ10_ok : ∀ k, k < 0 → parseFieldDescriptor (TJ10 k).2.2.1 = some (tyJ10 k) := by decide +kernel
def RJ7 : String := "java/util/Arrays"
def TJ7 : u_T := fun k => match k with
  | _ => ("", "", "", false)
def tyJ7 : Nat → FieldType := fun k => match k with
  | _ => .int
abbrev wsJ70 : List Cond := u_ws RJ7 TJ7 0
theorem nmJ7 : ∀ a, a < 0 → ∀ b, b < 0 → a ≠ b → (TJ7 a).2.1 ≠ (TJ7 b).2.1 := by decide +kernel
theorem tyJ7_ok : ∀ k, k < 0 → parseFieldDescriptor (TJ7 k).2.2.1 = some (tyJ7 k) := by decide +kernel
abbrev cJ7_fill_53178 : ByteArray := prog_16_method_103_code
def yJ7_fill_53178 : MethodName := ⟨RJ7, "fill", "([II)V"⟩
def RJ3 : String := "jdk/internal/util/Preconditions"
def TJ3 : u_T := fun k => match k with
  | _ => ("", "", "", false)
def tyJ3 : Nat → FieldType := fun k => match k with
  | _ => .int
abbrev wsJ30 : List Cond := u_ws RJ3 TJ3 0
theorem nmJ3 : ∀ a, a < 0 → ∀ b, b < 0 → a ≠ b → (TJ3 a).2.1 ≠ (TJ3 b).2.1 := by decide +kernel
theorem tyJ3_ok : ∀ k, k < 0 → parseFieldDescriptor (TJ3 k).2.2.1 = some (tyJ3 k) := by decide +kernel
abbrev cJ3_checkIndex_8e157 : ByteArray := prog_17_method_11_code
def yJ3_checkIndex_8e157 : MethodName := ⟨RJ3, "checkIndex", "(IILjava/util/function/BiFunction;)I"⟩
def RL : String := "ManyNamesLaw"
abbrev cL_law : ByteArray := code
def yL_law : MethodName := ⟨RL, "law", "([I)Z"⟩
abbrev vwCl : List vw_C := [(RX0, TX0, 7), (RX1, TX1, 6), (RX2, TX2, 3), (RX3, TX3, 8), (RX4, TX4, 6), (RX5, TX5, 8), (RX6, TX6, 13), (RX7, TX7, 44)]
theorem dkT_in {ws l : List Cond} {ds : List Nat} (h : (decide (ws.length ≤ ds.length) && dkT l (ds.zip ws)) = true) : ∀ w ∈ ws, w ∈ l := by
  intro w hw
  rw [Bool.and_eq_true] at h
  have e : (ds.zip ws).map Prod.snd = ws := List.map_snd_zip (of_decide_eq_true h.1)
  rw [← e] at hw
  obtain ⟨p, hp, rfl⟩ := List.mem_map.mp hw
  obtain ⟨k, hk⟩ := List.mem_iff_getElem?.mp hp
  exact dkT_at _ _ h.2 k p hk
set_option maxRecDepth 100000 in
theorem inX0 : ∀ w ∈ wsX00, w ∈ lw_tbl := fun w hw => List.mem_append_right _ (dkT_in (l := tables_1) (ds := [174, 1, 1, 1, 1, 1, 1]) (by decide +kernel) w hw)
set_option maxRecDepth 100000 in
theorem inX1 : ∀ w ∈ wsX10, w ∈ lw_tbl := fun w hw => List.mem_append_right _ (dkT_in (l := tables_1) (ds := [43, 1, 1, 1, 1, 1]) (by decide +kernel) w hw)
set_option maxRecDepth 100000 in
theorem inX2 : ∀ w ∈ wsX20, w ∈ lw_tbl := fun w hw => List.mem_append_right _ (dkT_in (l := tables_1) (ds := [206, 1, 1]) (by decide +kernel) w hw)
set_option maxRecDepth 100000 in
theorem inX3 : ∀ w ∈ wsX30, w ∈ lw_tbl := fun w hw => List.mem_append_right _ (dkT_in (l := tables_1) (ds := [143, 1, 1, 1, 1, 1, 1, 1]) (by decide +kernel) w hw)
set_option maxRecDepth 100000 in
theorem inX4 : ∀ w ∈ wsX40, w ∈ lw_tbl := fun w hw => List.mem_append_right _ (dkT_in (l := tables_1) (ds := [76, 1, 1, 1, 1, 1]) (by decide +kernel) w hw)
set_option maxRecDepth 100000 in
theorem inX5 : ∀ w ∈ wsX50, w ∈ lw_tbl := fun w hw => List.mem_append_right _ (dkT_in (l := tables_1) (ds := [110, 1, 1, 1, 1, 1, 1, 1]) (by decide +kernel) w hw)
set_option maxRecDepth 100000 in
theorem inX6 : ∀ w ∈ wsX60, w ∈ lw_tbl := fun w hw => List.mem_append_right _ (dkT_in (l := tables_1) (ds := [226, 1, 1, 1, 1, 1, 1, 1, 1, 1, 1, 1, 1]) (by decide +kernel) w hw)
set_option maxRecDepth 100000 in
theorem inX7 : ∀ w ∈ wsX70, w ∈ lw_tbl := fun w hw => List.mem_append_right _ (dkT_in (l := tables_1) (ds := [820, 1, 1, 1, 1, 1, 1, 1, 1, 1, 1, 1, 1, 1, 1, 1, 1, 1, 1, 1, 1, 1, 1, 1, 1, 1, 1, 1, 1, 1, 1, 1, 1, 1, 1, 1, 1, 1, 1, 1, 1, 1, 1, 1]) (by decide +kernel) w hw)
