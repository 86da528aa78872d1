/-! ===== BEGIN words of one list among another's, by their places ===== -/
theorem goodIn_r {big : List Cond} (ws : List Cond) (ps : List Nat) (hp : ws = ps.filterMap (fun i => big[i]?)) (h : ws.all goodWord = true) : GoodIn big ws := by
  intro w hw
  have h1 := List.all_eq_true.mp h w hw
  rw [hp] at hw
  obtain ⟨i, -, hi⟩ := List.mem_filterMap.mp hw
  have hm : w ∈ big := by first | exact List.mem_of_getElem? hi | exact List.getElem?_mem hi
  exact ⟨hm, good_of_word h1⟩
theorem goodIn_app {big a b : List Cond} (ha : GoodIn big a) (hb : GoodIn big b) : GoodIn big (a ++ b) := fun w h => (List.mem_append.mp h).elim (ha w) (hb w)
theorem goodIn_ca {big a b : List Cond} {c : Cond} (ha : GoodIn big (c :: a)) (hb : GoodIn big b) : GoodIn big (c :: (a ++ b)) := fun w h => (List.mem_cons.mp h).elim (fun e => ha w (List.mem_cons.mpr (Or.inl e))) (fun h => (List.mem_append.mp h).elim (fun h => ha w (List.mem_cons.mpr (Or.inr h))) (hb w))
theorem goodIn_sub {big ws : List Cond} (hm : ∀ w ∈ ws, w ∈ big) (h : ws.all goodWord = true) : GoodIn big ws := fun w hw => ⟨hm w hw, good_of_word (List.all_eq_true.mp h w hw)⟩
/-! ===== END ===== -/


/-! ===== BEGIN printed: names, fields, word lists, decode rows ===== -/
def RX0 : String := "MarkPages$Judge"
def TX0 : u_T := fun k => match k with
  | 0 => ("MarkPages$Judge", "pile", "[I", true)
  | _ => ("MarkPages$Judge", "height", "I", false)
def tyX0 : Nat → FieldType := fun k => match k with
  | 0 => .array .int
  | _ => .int
abbrev wsX00 : List Cond := u_ws RX0 TX0 2
theorem nmX0 : ∀ a, a < 2 → ∀ b, b < 2 → a ≠ b → (TX0 a).2.1 ≠ (TX0 b).2.1 := by decide +kernel
theorem tyX0_ok : ∀ k, k < 2 → parseFieldDescriptor (TX0 k).2.2.1 = some (tyX0 k) := by decide +kernel
abbrev cX0_init : ByteArray := prog_2_method_1_code
def yX0_init : MethodName := ⟨RX0, "<init>", "()V"⟩
abbrev cX0_isSo : ByteArray := prog_2_method_2_code
def yX0_isSo : MethodName := ⟨RX0, "isSo", "(LMarkPages$RuleBook;I[I)Z"⟩
abbrev cX0_take : ByteArray := prog_2_method_3_code
def yX0_take : MethodName := ⟨RX0, "take", "(I[I)V"⟩
abbrev cX0_join : ByteArray := prog_2_method_4_code
def yX0_join : MethodName := ⟨RX0, "join", "(III)I"⟩
abbrev cX0_truth : ByteArray := prog_2_method_5_code
def yX0_truth : MethodName := ⟨RX0, "truth", "(Z)I"⟩
abbrev cX0_push : ByteArray := prog_2_method_6_code
def yX0_push : MethodName := ⟨RX0, "push", "(I)V"⟩
abbrev cX0_pop : ByteArray := prog_2_method_7_code
def yX0_pop : MethodName := ⟨RX0, "pop", "()I"⟩
def RX1 : String := "MarkPages$Out"
def TX1 : u_T := fun k => match k with
  | 0 => ("MarkPages$Out", "bytes", "[I", true)
  | _ => ("MarkPages$Out", "count", "I", false)
def tyX1 : Nat → FieldType := fun k => match k with
  | 0 => .array .int
  | _ => .int
abbrev wsX10 : List Cond := u_ws RX1 TX1 2
theorem nmX1 : ∀ a, a < 2 → ∀ b, b < 2 → a ≠ b → (TX1 a).2.1 ≠ (TX1 b).2.1 := by decide +kernel
theorem tyX1_ok : ∀ k, k < 2 → parseFieldDescriptor (TX1 k).2.2.1 = some (tyX1 k) := by decide +kernel
abbrev cX1_init : ByteArray := prog_3_method_1_code
def yX1_init : MethodName := ⟨RX1, "<init>", "()V"⟩
abbrev cX1_put : ByteArray := prog_3_method_2_code
def yX1_put : MethodName := ⟨RX1, "put", "(I)V"⟩
abbrev cX1_putNumber : ByteArray := prog_3_method_3_code
def yX1_putNumber : MethodName := ⟨RX1, "putNumber", "(I)V"⟩
def RX2 : String := "MarkPages$Page"
def TX2 : u_T := fun k => match k with
  | 0 => ("MarkPages$Page", "sayings", "[I", true)
  | 1 => ("MarkPages$Page", "skills", "[I", true)
  | 2 => ("MarkPages$Page", "ruleNumbers", "[I", true)
  | _ => ("MarkPages$Page", "count", "I", false)
def tyX2 : Nat → FieldType := fun k => match k with
  | 0 => .array .int
  | 1 => .array .int
  | 2 => .array .int
  | _ => .int
abbrev wsX20 : List Cond := u_ws RX2 TX2 4
theorem nmX2 : ∀ a, a < 4 → ∀ b, b < 4 → a ≠ b → (TX2 a).2.1 ≠ (TX2 b).2.1 := by decide +kernel
theorem tyX2_ok : ∀ k, k < 4 → parseFieldDescriptor (TX2 k).2.2.1 = some (tyX2 k) := by decide +kernel
abbrev cX2_init : ByteArray := prog_4_method_1_code
def yX2_init : MethodName := ⟨RX2, "<init>", "()V"⟩
abbrev cX2_add : ByteArray := prog_4_method_2_code
def yX2_add : MethodName := ⟨RX2, "add", "(III)V"⟩
abbrev cX2_hasSort : ByteArray := prog_4_method_3_code
def yX2_hasSort : MethodName := ⟨RX2, "hasSort", "(II)Z"⟩
abbrev cX2_sameLines : ByteArray := prog_4_method_4_code
def yX2_sameLines : MethodName := ⟨RX2, "sameLines", "(LMarkPages$Page;)Z"⟩
def RX3 : String := "MarkPages$Papers"
def TX3 : u_T := fun k => match k with
  | 0 => ("MarkPages$Papers", "mosts", "[I", true)
  | 1 => ("MarkPages$Papers", "skillSets", "[I", true)
  | 2 => ("MarkPages$Papers", "points", "[I", true)
  | 3 => ("MarkPages$Papers", "medians", "[I", true)
  | 4 => ("MarkPages$Papers", "rising", "[I", true)
  | _ => ("MarkPages$Papers", "count", "I", false)
def tyX3 : Nat → FieldType := fun k => match k with
  | 0 => .array .int
  | 1 => .array .int
  | 2 => .array .int
  | 3 => .array .int
  | 4 => .array .int
  | _ => .int
abbrev wsX30 : List Cond := u_ws RX3 TX3 6
theorem nmX3 : ∀ a, a < 6 → ∀ b, b < 6 → a ≠ b → (TX3 a).2.1 ≠ (TX3 b).2.1 := by decide +kernel
theorem tyX3_ok : ∀ k, k < 6 → parseFieldDescriptor (TX3 k).2.2.1 = some (tyX3 k) := by decide +kernel
abbrev cX3_init : ByteArray := prog_5_method_1_code
def yX3_init : MethodName := ⟨RX3, "<init>", "()V"⟩
abbrev cX3_addQuestion : ByteArray := prog_5_method_2_code
def yX3_addQuestion : MethodName := ⟨RX3, "addQuestion", "(II)I"⟩
abbrev cX3_hasQuestion : ByteArray := prog_5_method_3_code
def yX3_hasQuestion : MethodName := ⟨RX3, "hasQuestion", "(I)Z"⟩
abbrev cX3_pointsOf : ByteArray := prog_5_method_4_code
def yX3_pointsOf : MethodName := ⟨RX3, "pointsOf", "(II)I"⟩
abbrev cX3_setPoints : ByteArray := prog_5_method_5_code
def yX3_setPoints : MethodName := ⟨RX3, "setPoints", "(III)V"⟩
abbrev cX3_hasMark : ByteArray := prog_5_method_6_code
def yX3_hasMark : MethodName := ⟨RX3, "hasMark", "(I)Z"⟩
abbrev cX3_markedOf : ByteArray := prog_5_method_7_code
def yX3_markedOf : MethodName := ⟨RX3, "markedOf", "(II)I"⟩
abbrev cX3_measure : ByteArray := prog_5_method_8_code
def yX3_measure : MethodName := ⟨RX3, "measure", "(III[I)V"⟩
abbrev cX3_shareBy : ByteArray := prog_5_method_9_code
def yX3_shareBy : MethodName := ⟨RX3, "shareBy", "(II)I"⟩
abbrev cX3_lastOf : ByteArray := prog_5_method_10_code
def yX3_lastOf : MethodName := ⟨RX3, "lastOf", "(I)I"⟩
abbrev cX3_missedBy : ByteArray := prog_5_method_11_code
def yX3_missedBy : MethodName := ⟨RX3, "missedBy", "(II)I"⟩
abbrev cX3_medianOf : ByteArray := prog_5_method_12_code
def yX3_medianOf : MethodName := ⟨RX3, "medianOf", "(I)I"⟩
abbrev cX3_insertRising : ByteArray := prog_5_method_13_code
def yX3_insertRising : MethodName := ⟨RX3, "insertRising", "(II)V"⟩
def RX4 : String := "MarkPages$RuleBook"
def TX4 : u_T := fun k => match k with
  | 0 => ("MarkPages$RuleBook", "sayings", "[I", true)
  | 1 => ("MarkPages$RuleBook", "skills", "[I", true)
  | 2 => ("MarkPages$RuleBook", "starts", "[I", true)
  | 3 => ("MarkPages$RuleBook", "code", "[I", true)
  | 4 => ("MarkPages$RuleBook", "count", "I", false)
  | _ => ("MarkPages$RuleBook", "used", "I", false)
def tyX4 : Nat → FieldType := fun k => match k with
  | 0 => .array .int
  | 1 => .array .int
  | 2 => .array .int
  | 3 => .array .int
  | 4 => .int
  | _ => .int
abbrev wsX40 : List Cond := u_ws RX4 TX4 6
theorem nmX4 : ∀ a, a < 6 → ∀ b, b < 6 → a ≠ b → (TX4 a).2.1 ≠ (TX4 b).2.1 := by decide +kernel
theorem tyX4_ok : ∀ k, k < 6 → parseFieldDescriptor (TX4 k).2.2.1 = some (tyX4 k) := by decide +kernel
abbrev cX4_init : ByteArray := prog_6_method_1_code
def yX4_init : MethodName := ⟨RX4, "<init>", "()V"⟩
abbrev cX4_clear : ByteArray := prog_6_method_2_code
def yX4_clear : MethodName := ⟨RX4, "clear", "()V"⟩
abbrev cX4_append : ByteArray := prog_6_method_3_code
def yX4_append : MethodName := ⟨RX4, "append", "(I)V"⟩
abbrev cX4_closeRule : ByteArray := prog_6_method_4_code
def yX4_closeRule : MethodName := ⟨RX4, "closeRule", "(II)V"⟩
abbrev cX4_isFor : ByteArray := prog_6_method_5_code
def yX4_isFor : MethodName := ⟨RX4, "isFor", "(II)Z"⟩
def RX5 : String := "MarkPages$RuleReader"
def TX5 : u_T := fun k => match k with
  | 0 => ("MarkPages$RuleReader", "tokens", "LMarkPages$Tokens;", true)
  | 1 => ("MarkPages$RuleReader", "draft", "LMarkPages$RuleBook;", false)
  | 2 => ("MarkPages$RuleReader", "at", "I", false)
  | 3 => ("MarkPages$RuleReader", "now", "I", false)
  | 4 => ("MarkPages$RuleReader", "faultKind", "I", false)
  | _ => ("MarkPages$RuleReader", "faultPlace", "I", false)
def tyX5 : Nat → FieldType := fun k => match k with
  | 0 => .object "MarkPages$Tokens"
  | 1 => .object "MarkPages$RuleBook"
  | 2 => .int
  | 3 => .int
  | 4 => .int
  | _ => .int
abbrev wsX50 : List Cond := u_ws RX5 TX5 6
theorem nmX5 : ∀ a, a < 6 → ∀ b, b < 6 → a ≠ b → (TX5 a).2.1 ≠ (TX5 b).2.1 := by decide +kernel
theorem tyX5_ok : ∀ k, k < 6 → parseFieldDescriptor (TX5 k).2.2.1 = some (tyX5 k) := by decide +kernel
abbrev cX5_init : ByteArray := prog_7_method_1_code
def yX5_init : MethodName := ⟨RX5, "<init>", "()V"⟩
abbrev cX5_begin : ByteArray := prog_7_method_2_code
def yX5_begin : MethodName := ⟨RX5, "begin", "(LMarkPages$Tape;)V"⟩
abbrev cX5_readRule : ByteArray := prog_7_method_3_code
def yX5_readRule : MethodName := ⟨RX5, "readRule", "()Z"⟩
abbrev cX5_readNumber : ByteArray := prog_7_method_4_code
def yX5_readNumber : MethodName := ⟨RX5, "readNumber", "(I)I"⟩
abbrev cX5_readEither : ByteArray := prog_7_method_5_code
def yX5_readEither : MethodName := ⟨RX5, "readEither", "(I)Z"⟩
abbrev cX5_readBoth : ByteArray := prog_7_method_6_code
def yX5_readBoth : MethodName := ⟨RX5, "readBoth", "(I)Z"⟩
abbrev cX5_readCondition : ByteArray := prog_7_method_7_code
def yX5_readCondition : MethodName := ⟨RX5, "readCondition", "(I)Z"⟩
abbrev cX5_readComparison : ByteArray := prog_7_method_8_code
def yX5_readComparison : MethodName := ⟨RX5, "readComparison", "()Z"⟩
abbrev cX5_readSum : ByteArray := prog_7_method_9_code
def yX5_readSum : MethodName := ⟨RX5, "readSum", "()Z"⟩
abbrev cX5_isValue : ByteArray := prog_7_method_10_code
def yX5_isValue : MethodName := ⟨RX5, "isValue", "(I)Z"⟩
abbrev cX5_expect : ByteArray := prog_7_method_11_code
def yX5_expect : MethodName := ⟨RX5, "expect", "(I)Z"⟩
abbrev cX5_advance : ByteArray := prog_7_method_12_code
def yX5_advance : MethodName := ⟨RX5, "advance", "()V"⟩
abbrev cX5_refuse : ByteArray := prog_7_method_13_code
def yX5_refuse : MethodName := ⟨RX5, "refuse", "(I)Z"⟩
def RX6 : String := "MarkPages$Tape"
def TX6 : u_T := fun k => match k with
  | 0 => ("MarkPages$Tape", "bytes", "[I", true)
  | _ => ("MarkPages$Tape", "count", "I", false)
def tyX6 : Nat → FieldType := fun k => match k with
  | 0 => .array .int
  | _ => .int
abbrev wsX60 : List Cond := u_ws RX6 TX6 2
theorem nmX6 : ∀ a, a < 2 → ∀ b, b < 2 → a ≠ b → (TX6 a).2.1 ≠ (TX6 b).2.1 := by decide +kernel
theorem tyX6_ok : ∀ k, k < 2 → parseFieldDescriptor (TX6 k).2.2.1 = some (tyX6 k) := by decide +kernel
abbrev cX6_init : ByteArray := prog_8_method_1_code
def yX6_init : MethodName := ⟨RX6, "<init>", "()V"⟩
abbrev cX6_take : ByteArray := prog_8_method_2_code
def yX6_take : MethodName := ⟨RX6, "take", "(I)V"⟩
def RX7 : String := "MarkPages$Texts"
def TX7 : u_T := fun k => match k with
  | 0 => ("MarkPages$Texts", "width", "I", true)
  | 1 => ("MarkPages$Texts", "lengths", "[I", true)
  | _ => ("MarkPages$Texts", "bytes", "[I", true)
def tyX7 : Nat → FieldType := fun k => match k with
  | 0 => .int
  | 1 => .array .int
  | _ => .array .int
abbrev wsX70 : List Cond := u_ws RX7 TX7 3
theorem nmX7 : ∀ a, a < 3 → ∀ b, b < 3 → a ≠ b → (TX7 a).2.1 ≠ (TX7 b).2.1 := by decide +kernel
theorem tyX7_ok : ∀ k, k < 3 → parseFieldDescriptor (TX7 k).2.2.1 = some (tyX7 k) := by decide +kernel
abbrev cX7_init : ByteArray := prog_9_method_1_code
def yX7_init : MethodName := ⟨RX7, "<init>", "(II)V"⟩
abbrev cX7_keep : ByteArray := prog_9_method_2_code
def yX7_keep : MethodName := ⟨RX7, "keep", "(ILMarkPages$Tape;)Z"⟩
abbrev cX7_byteAt : ByteArray := prog_9_method_3_code
def yX7_byteAt : MethodName := ⟨RX7, "byteAt", "(II)I"⟩
def RX8 : String := "MarkPages$Tokens"
def TX8 : u_T := fun k => match k with
  | 0 => ("MarkPages$Tokens", "kinds", "[I", true)
  | 1 => ("MarkPages$Tokens", "places", "[I", true)
  | _ => ("MarkPages$Tokens", "count", "I", false)
def tyX8 : Nat → FieldType := fun k => match k with
  | 0 => .array .int
  | 1 => .array .int
  | _ => .int
abbrev wsX80 : List Cond := u_ws RX8 TX8 3
theorem nmX8 : ∀ a, a < 3 → ∀ b, b < 3 → a ≠ b → (TX8 a).2.1 ≠ (TX8 b).2.1 := by decide +kernel
theorem tyX8_ok : ∀ k, k < 3 → parseFieldDescriptor (TX8 k).2.2.1 = some (tyX8 k) := by decide +kernel
abbrev cX8_init : ByteArray := prog_10_method_1_code
def yX8_init : MethodName := ⟨RX8, "<init>", "()V"⟩
abbrev cX8_scan : ByteArray := prog_10_method_2_code
def yX8_scan : MethodName := ⟨RX8, "scan", "(LMarkPages$Tape;)V"⟩
abbrev cX8_append : ByteArray := prog_10_method_3_code
def yX8_append : MethodName := ⟨RX8, "append", "(II)V"⟩
abbrev cX8_startsToken : ByteArray := prog_10_method_4_code
def yX8_startsToken : MethodName := ⟨RX8, "startsToken", "(LMarkPages$Tape;I)Z"⟩
abbrev cX8_familyOf : ByteArray := prog_10_method_5_code
def yX8_familyOf : MethodName := ⟨RX8, "familyOf", "(I)I"⟩
abbrev cX8_tokenAt : ByteArray := prog_10_method_6_code
def yX8_tokenAt : MethodName := ⟨RX8, "tokenAt", "(LMarkPages$Tape;I)I"⟩
abbrev cX8_signOf : ByteArray := prog_10_method_7_code
def yX8_signOf : MethodName := ⟨RX8, "signOf", "(I)I"⟩
abbrev cX8_numberOf : ByteArray := prog_10_method_8_code
def yX8_numberOf : MethodName := ⟨RX8, "numberOf", "(LMarkPages$Tape;II)I"⟩
abbrev cX8_keywordOf : ByteArray := prog_10_method_9_code
def yX8_keywordOf : MethodName := ⟨RX8, "keywordOf", "(LMarkPages$Tape;II)I"⟩
abbrev cX8_spells : ByteArray := prog_10_method_10_code
def yX8_spells : MethodName := ⟨RX8, "spells", "(LMarkPages$Tape;IILjava/lang/String;)Z"⟩
abbrev cX8_spelling : ByteArray := prog_10_method_11_code
def yX8_spelling : MethodName := ⟨RX8, "spelling", "(I)Ljava/lang/String;"⟩
def RX9 : String := "MarkPages"
def TX9 : u_T := fun k => match k with
  | 0 => ("MarkPages", "papers", "LMarkPages$Papers;", true)
  | 1 => ("MarkPages", "tape", "LMarkPages$Tape;", true)
  | 2 => ("MarkPages", "reader", "LMarkPages$RuleReader;", true)
  | 3 => ("MarkPages", "judge", "LMarkPages$Judge;", true)
  | 4 => ("MarkPages", "phrases", "LMarkPages$Texts;", true)
  | 5 => ("MarkPages", "names", "LMarkPages$Texts;", true)
  | 6 => ("MarkPages", "pages", "[LMarkPages$Page;", true)
  | 7 => ("MarkPages", "measures", "[[I", true)
  | 8 => ("MarkPages", "trial", "[I", true)
  | 9 => ("MarkPages", "written", "LMarkPages$Out;", true)
  | _ => ("MarkPages", "book", "LMarkPages$RuleBook;", false)
def tyX9 : Nat → FieldType := fun k => match k with
  | 0 => .object "MarkPages$Papers"
  | 1 => .object "MarkPages$Tape"
  | 2 => .object "MarkPages$RuleReader"
  | 3 => .object "MarkPages$Judge"
  | 4 => .object "MarkPages$Texts"
  | 5 => .object "MarkPages$Texts"
  | 6 => .array (.object "MarkPages$Page")
  | 7 => .array (.array .int)
  | 8 => .array .int
  | 9 => .object "MarkPages$Out"
  | _ => .object "MarkPages$RuleBook"
abbrev wsX90 : List Cond := u_ws RX9 TX9 11
theorem nmX9 : ∀ a, a < 11 → ∀ b, b < 11 → a ≠ b → (TX9 a).2.1 ≠ (TX9 b).2.1 := by decide +kernel
theorem tyX9_ok : ∀ k, k < 11 → parseFieldDescriptor (TX9 k).2.2.1 = some (tyX9 k) := by decide +kernel
abbrev cX9_init : ByteArray := prog_1_method_1_code
def yX9_init : MethodName := ⟨RX9, "<init>", "()V"⟩
abbrev cX9_question : ByteArray := prog_1_method_2_code
def yX9_question : MethodName := ⟨RX9, "question", "(II)I"⟩
abbrev cX9_mark : ByteArray := prog_1_method_3_code
def yX9_mark : MethodName := ⟨RX9, "mark", "(III)Z"⟩
abbrev cX9_of : ByteArray := prog_1_method_4_code
def yX9_of : MethodName := ⟨RX9, "of", "(II)I"⟩
abbrev cX9_got : ByteArray := prog_1_method_5_code
def yX9_got : MethodName := ⟨RX9, "got", "(III)I"⟩
abbrev cX9_feed : ByteArray := prog_1_method_6_code
def yX9_feed : MethodName := ⟨RX9, "feed", "(IIIII)I"⟩
abbrev cX9_end : ByteArray := prog_1_method_7_code
def yX9_end : MethodName := ⟨RX9, "end", "(I)Z"⟩
abbrev cX9_rules : ByteArray := prog_1_method_8_code
def yX9_rules : MethodName := ⟨RX9, "rules", "()I"⟩
abbrev cX9_fault : ByteArray := prog_1_method_9_code
def yX9_fault : MethodName := ⟨RX9, "fault", "(I)I"⟩
abbrev cX9_phrase : ByteArray := prog_1_method_10_code
def yX9_phrase : MethodName := ⟨RX9, "phrase", "(II)Z"⟩
abbrev cX9_name : ByteArray := prog_1_method_11_code
def yX9_name : MethodName := ⟨RX9, "name", "(II)Z"⟩
abbrev cX9_page : ByteArray := prog_1_method_12_code
def yX9_page : MethodName := ⟨RX9, "page", "(I)I"⟩
abbrev cX9_line : ByteArray := prog_1_method_13_code
def yX9_line : MethodName := ⟨RX9, "line", "(III)I"⟩
abbrev cX9_write : ByteArray := prog_1_method_14_code
def yX9_write : MethodName := ⟨RX9, "write", "(II)I"⟩
abbrev cX9_out : ByteArray := prog_1_method_15_code
def yX9_out : MethodName := ⟨RX9, "out", "(I)I"⟩
abbrev cX9_alike : ByteArray := prog_1_method_16_code
def yX9_alike : MethodName := ⟨RX9, "alike", "(II)I"⟩
abbrev cX9_sheet : ByteArray := prog_1_method_17_code
def yX9_sheet : MethodName := ⟨RX9, "sheet", "(II)I"⟩
abbrev cX9_group : ByteArray := prog_1_method_18_code
def yX9_group : MethodName := ⟨RX9, "group", "(I)I"⟩
abbrev cX9_isPupil : ByteArray := prog_1_method_19_code
def yX9_isPupil : MethodName := ⟨RX9, "isPupil", "(I)Z"⟩
abbrev cX9_isSkill : ByteArray := prog_1_method_20_code
def yX9_isSkill : MethodName := ⟨RX9, "isSkill", "(I)Z"⟩
abbrev cX9_isTongue : ByteArray := prog_1_method_21_code
def yX9_isTongue : MethodName := ⟨RX9, "isTongue", "(I)Z"⟩
abbrev cX9_rowOf : ByteArray := prog_1_method_22_code
def yX9_rowOf : MethodName := ⟨RX9, "rowOf", "(II)I"⟩
abbrev cX9_keepTape : ByteArray := prog_1_method_23_code
def yX9_keepTape : MethodName := ⟨RX9, "keepTape", "(LMarkPages$Texts;I)Z"⟩
abbrev cX9_freshPage : ByteArray := prog_1_method_24_code
def yX9_freshPage : MethodName := ⟨RX9, "freshPage", "(I)LMarkPages$Page;"⟩
abbrev cX9_addLinesOf : ByteArray := prog_1_method_25_code
def yX9_addLinesOf : MethodName := ⟨RX9, "addLinesOf", "(ILMarkPages$Page;)V"⟩
abbrev cX9_bearersOf : ByteArray := prog_1_method_26_code
def yX9_bearersOf : MethodName := ⟨RX9, "bearersOf", "(III)I"⟩
abbrev cX9_bears : ByteArray := prog_1_method_27_code
def yX9_bears : MethodName := ⟨RX9, "bears", "(IIII)Z"⟩
abbrev cX9_writeLine : ByteArray := prog_1_method_28_code
def yX9_writeLine : MethodName := ⟨RX9, "writeLine", "(III)V"⟩
abbrev cX9_writeName : ByteArray := prog_1_method_29_code
def yX9_writeName : MethodName := ⟨RX9, "writeName", "(I)V"⟩
abbrev cX9_leastAlike : ByteArray := prog_1_method_30_code
def yX9_leastAlike : MethodName := ⟨RX9, "leastAlike", "(I)I"⟩
abbrev cX9_groupsBelow : ByteArray := prog_1_method_31_code
def yX9_groupsBelow : MethodName := ⟨RX9, "groupsBelow", "(I)I"⟩
def RX10 : String := "MarkPagesModel"
def TX10 : u_T := fun k => match k with
  | 0 => ("MarkPagesModel", "questions", "I", false)
  | 1 => ("MarkPagesModel", "most", "[I", true)
  | 2 => ("MarkPagesModel", "skills", "[I", true)
  | 3 => ("MarkPagesModel", "points", "[I", true)
  | 4 => ("MarkPagesModel", "row", "[I", true)
  | 5 => ("MarkPagesModel", "rules", "I", false)
  | 6 => ("MarkPagesModel", "freshRules", "I", false)
  | 7 => ("MarkPagesModel", "freshSteps", "I", false)
  | 8 => ("MarkPagesModel", "saying", "[I", true)
  | 9 => ("MarkPagesModel", "skillOf", "[I", true)
  | 10 => ("MarkPagesModel", "from", "[I", true)
  | 11 => ("MarkPagesModel", "step", "[I", true)
  | 12 => ("MarkPagesModel", "freshSaying", "[I", true)
  | 13 => ("MarkPagesModel", "freshSkill", "[I", true)
  | 14 => ("MarkPagesModel", "freshFrom", "[I", true)
  | 15 => ("MarkPagesModel", "fresh", "[I", true)
  | 16 => ("MarkPagesModel", "pile", "[I", true)
  | 17 => ("MarkPagesModel", "tape", "[I", true)
  | 18 => ("MarkPagesModel", "taped", "I", false)
  | 19 => ("MarkPagesModel", "at", "I", false)
  | 20 => ("MarkPagesModel", "token", "I", false)
  | 21 => ("MarkPagesModel", "tokenAt", "I", false)
  | 22 => ("MarkPagesModel", "value", "I", false)
  | 23 => ("MarkPagesModel", "wrong", "I", false)
  | 24 => ("MarkPagesModel", "wrongAt", "I", false)
  | 25 => ("MarkPagesModel", "faultKind", "I", false)
  | 26 => ("MarkPagesModel", "depth", "I", false)
  | 27 => ("MarkPagesModel", "number", "I", false)
  | 28 => ("MarkPagesModel", "faultPlace", "I", false)
  | 29 => ("MarkPagesModel", "lineRule", "[I", true)
  | 30 => ("MarkPagesModel", "lineSkill", "[I", true)
  | 31 => ("MarkPagesModel", "lines", "I", false)
  | 32 => ("MarkPagesModel", "phraseLong", "[I", true)
  | 33 => ("MarkPagesModel", "phrase", "[I", true)
  | 34 => ("MarkPagesModel", "nameLong", "[I", true)
  | 35 => ("MarkPagesModel", "name", "[I", true)
  | 36 => ("MarkPagesModel", "out", "[I", true)
  | 37 => ("MarkPagesModel", "outs", "I", false)
  | 38 => ("MarkPagesModel", "sayings", "[I", true)
  | _ => ("MarkPagesModel", "others", "[I", true)
def tyX10 : Nat → FieldType := fun k => match k with
  | 0 => .int
  | 1 => .array .int
  | 2 => .array .int
  | 3 => .array .int
  | 4 => .array .int
  | 5 => .int
  | 6 => .int
  | 7 => .int
  | 8 => .array .int
  | 9 => .array .int
  | 10 => .array .int
  | 11 => .array .int
  | 12 => .array .int
  | 13 => .array .int
  | 14 => .array .int
  | 15 => .array .int
  | 16 => .array .int
  | 17 => .array .int
  | 18 => .int
  | 19 => .int
  | 20 => .int
  | 21 => .int
  | 22 => .int
  | 23 => .int
  | 24 => .int
  | 25 => .int
  | 26 => .int
  | 27 => .int
  | 28 => .int
  | 29 => .array .int
  | 30 => .array .int
  | 31 => .int
  | 32 => .array .int
  | 33 => .array .int
  | 34 => .array .int
  | 35 => .array .int
  | 36 => .array .int
  | 37 => .int
  | 38 => .array .int
  | _ => .array .int
abbrev wsX100 : List Cond := u_ws RX10 TX10 40
theorem nmX10 : ∀ a, a < 40 → ∀ b, b < 40 → a ≠ b → (TX10 a).2.1 ≠ (TX10 b).2.1 := by decide +kernel
theorem tyX10_ok : ∀ k, k < 40 → parseFieldDescriptor (TX10 k).2.2.1 = some (tyX10 k) := by decide +kernel
abbrev cX10_init : ByteArray := prog_12_method_1_code
def yX10_init : MethodName := ⟨RX10, "<init>", "()V"⟩
abbrev cX10_isIn : ByteArray := prog_12_method_2_code
def yX10_isIn : MethodName := ⟨RX10, "isIn", "(III)Z"⟩
abbrev cX10_isPupil : ByteArray := prog_12_method_3_code
def yX10_isPupil : MethodName := ⟨RX10, "isPupil", "(I)Z"⟩
abbrev cX10_isSkill : ByteArray := prog_12_method_4_code
def yX10_isSkill : MethodName := ⟨RX10, "isSkill", "(I)Z"⟩
abbrev cX10_isQuestion : ByteArray := prog_12_method_5_code
def yX10_isQuestion : MethodName := ⟨RX10, "isQuestion", "(I)Z"⟩
abbrev cX10_question : ByteArray := prog_12_method_6_code
def yX10_question : MethodName := ⟨RX10, "question", "(II)I"⟩
abbrev cX10_mark : ByteArray := prog_12_method_7_code
def yX10_mark : MethodName := ⟨RX10, "mark", "(III)Z"⟩
abbrev cX10_of : ByteArray := prog_12_method_8_code
def yX10_of : MethodName := ⟨RX10, "of", "(II)I"⟩
abbrev cX10_markedOf : ByteArray := prog_12_method_9_code
def yX10_markedOf : MethodName := ⟨RX10, "markedOf", "(II)I"⟩
abbrev cX10_bits : ByteArray := prog_12_method_10_code
def yX10_bits : MethodName := ⟨RX10, "bits", "(I)I"⟩
abbrev cX10_share : ByteArray := prog_12_method_11_code
def yX10_share : MethodName := ⟨RX10, "share", "(II)I"⟩
abbrev cX10_missed : ByteArray := prog_12_method_12_code
def yX10_missed : MethodName := ⟨RX10, "missed", "(II)I"⟩
abbrev cX10_last : ByteArray := prog_12_method_13_code
def yX10_last : MethodName := ⟨RX10, "last", "(II)I"⟩
abbrev cX10_classOf : ByteArray := prog_12_method_14_code
def yX10_classOf : MethodName := ⟨RX10, "classOf", "(I)I"⟩
abbrev cX10_got : ByteArray := prog_12_method_15_code
def yX10_got : MethodName := ⟨RX10, "got", "(III)I"⟩
abbrev cX10_feed : ByteArray := prog_12_method_16_code
def yX10_feed : MethodName := ⟨RX10, "feed", "(IIIII)I"⟩
abbrev cX10_end : ByteArray := prog_12_method_17_code
def yX10_end : MethodName := ⟨RX10, "end", "(I)Z"⟩
abbrev cX10_see : ByteArray := prog_12_method_18_code
def yX10_see : MethodName := ⟨RX10, "see", "(I)I"⟩
abbrev cX10_isLetter : ByteArray := prog_12_method_19_code
def yX10_isLetter : MethodName := ⟨RX10, "isLetter", "(I)Z"⟩
abbrev cX10_isDigit : ByteArray := prog_12_method_20_code
def yX10_isDigit : MethodName := ⟨RX10, "isDigit", "(I)Z"⟩
abbrev cX10_word : ByteArray := prog_12_method_21_code
def yX10_word : MethodName := ⟨RX10, "word", "(J)I"⟩
abbrev cX10_next0 : ByteArray := prog_12_method_22_code
def yX10_next0 : MethodName := ⟨RX10, "next0", "()V"⟩
abbrev cX10_bad : ByteArray := prog_12_method_23_code
def yX10_bad : MethodName := ⟨RX10, "bad", "(I)Z"⟩
abbrev cX10_need : ByteArray := prog_12_method_24_code
def yX10_need : MethodName := ⟨RX10, "need", "(I)Z"⟩
abbrev cX10_aNumber : ByteArray := prog_12_method_25_code
def yX10_aNumber : MethodName := ⟨RX10, "aNumber", "(I)Z"⟩
abbrev cX10_lay : ByteArray := prog_12_method_26_code
def yX10_lay : MethodName := ⟨RX10, "lay", "(I)V"⟩
abbrev cX10_opens : ByteArray := prog_12_method_27_code
def yX10_opens : MethodName := ⟨RX10, "opens", "()Z"⟩
abbrev cX10_any : ByteArray := prog_12_method_28_code
def yX10_any : MethodName := ⟨RX10, "any", "()Z"⟩
abbrev cX10_all : ByteArray := prog_12_method_29_code
def yX10_all : MethodName := ⟨RX10, "all", "()Z"⟩
abbrev cX10_one : ByteArray := prog_12_method_30_code
def yX10_one : MethodName := ⟨RX10, "one", "()Z"⟩
abbrev cX10_sum : ByteArray := prog_12_method_31_code
def yX10_sum : MethodName := ⟨RX10, "sum", "()Z"⟩
abbrev cX10_unit : ByteArray := prog_12_method_32_code
def yX10_unit : MethodName := ⟨RX10, "unit", "()Z"⟩
abbrev cX10_aRule : ByteArray := prog_12_method_33_code
def yX10_aRule : MethodName := ⟨RX10, "aRule", "()Z"⟩
abbrev cX10_rules : ByteArray := prog_12_method_34_code
def yX10_rules : MethodName := ⟨RX10, "rules", "()I"⟩
abbrev cX10_fault : ByteArray := prog_12_method_35_code
def yX10_fault : MethodName := ⟨RX10, "fault", "(I)I"⟩
abbrev cX10_known : ByteArray := prog_12_method_36_code
def yX10_known : MethodName := ⟨RX10, "known", "(IIII)I"⟩
abbrev cX10_both : ByteArray := prog_12_method_37_code
def yX10_both : MethodName := ⟨RX10, "both", "(III)I"⟩
abbrev cX10_isSo : ByteArray := prog_12_method_38_code
def yX10_isSo : MethodName := ⟨RX10, "isSo", "(IIII)Z"⟩
abbrev cX10_has : ByteArray := prog_12_method_39_code
def yX10_has : MethodName := ⟨RX10, "has", "(II)Z"⟩
abbrev cX10_pages : ByteArray := prog_12_method_40_code
def yX10_pages : MethodName := ⟨RX10, "pages", "(I)V"⟩
abbrev cX10_page : ByteArray := prog_12_method_41_code
def yX10_page : MethodName := ⟨RX10, "page", "(I)I"⟩
abbrev cX10_borne : ByteArray := prog_12_method_42_code
def yX10_borne : MethodName := ⟨RX10, "borne", "(II)I"⟩
abbrev cX10_line : ByteArray := prog_12_method_43_code
def yX10_line : MethodName := ⟨RX10, "line", "(III)I"⟩
abbrev cX10_isTongue : ByteArray := prog_12_method_44_code
def yX10_isTongue : MethodName := ⟨RX10, "isTongue", "(I)Z"⟩
abbrev cX10_phrase : ByteArray := prog_12_method_45_code
def yX10_phrase : MethodName := ⟨RX10, "phrase", "(II)Z"⟩
abbrev cX10_name : ByteArray := prog_12_method_46_code
def yX10_name : MethodName := ⟨RX10, "name", "(II)Z"⟩
abbrev cX10_puts : ByteArray := prog_12_method_47_code
def yX10_puts : MethodName := ⟨RX10, "puts", "(I)V"⟩
abbrev cX10_writes : ByteArray := prog_12_method_48_code
def yX10_writes : MethodName := ⟨RX10, "writes", "(III)V"⟩
abbrev cX10_write : ByteArray := prog_12_method_49_code
def yX10_write : MethodName := ⟨RX10, "write", "(II)I"⟩
abbrev cX10_out : ByteArray := prog_12_method_50_code
def yX10_out : MethodName := ⟨RX10, "out", "(I)I"⟩
abbrev cX10_areAlike : ByteArray := prog_12_method_51_code
def yX10_areAlike : MethodName := ⟨RX10, "areAlike", "(II)Z"⟩
abbrev cX10_alike : ByteArray := prog_12_method_52_code
def yX10_alike : MethodName := ⟨RX10, "alike", "(II)I"⟩
abbrev cX10_sheet : ByteArray := prog_12_method_53_code
def yX10_sheet : MethodName := ⟨RX10, "sheet", "(II)I"⟩
abbrev cX10_hasMark : ByteArray := prog_12_method_54_code
def yX10_hasMark : MethodName := ⟨RX10, "hasMark", "(I)Z"⟩
abbrev cX10_first : ByteArray := prog_12_method_55_code
def yX10_first : MethodName := ⟨RX10, "first", "(I)I"⟩
abbrev cX10_group : ByteArray := prog_12_method_56_code
def yX10_group : MethodName := ⟨RX10, "group", "(I)I"⟩
def RJ6 : String := "java/lang/Integer"
def TJ6 : u_T := fun k => match k with
  | _ => ("", "", "", false)
def tyJ6 : Nat → FieldType := fun k => match k with
  | _ => .int
abbrev wsJ60 : List Cond := u_ws RJ6 TJ6 0
theorem nmJ6 : ∀ a, a < 0 → ∀ b, b < 0 → a ≠ b → (TJ6 a).2.1 ≠ (TJ6 b).2.1 := by decide +kernel
theorem tyJ6_ok : ∀ k, k < 0 → parseFieldDescriptor (TJ6 k).2.2.1 = some (tyJ6 k) := by decide +kernel
abbrev cJ6_bitCount_0f7a4 : ByteArray := prog_13_method_49_code
def yJ6_bitCount_0f7a4 : MethodName := ⟨RJ6, "bitCount", "(I)I"⟩
def RJ0 : String := "java/lang/String"
def TJ0 : u_T := fun k => match k with
  | _ => ("", "", "", false)
def tyJ0 : Nat → FieldType := fun k => match k with
  | _ => .int
abbrev wsJ00 : List Cond := u_ws RJ0 TJ0 0
theorem nmJ0 : ∀ a, a < 0 → ∀ b, b < 0 → a ≠ b → (TJ0 a).2.1 ≠ (TJ0 b).2.1 := by decide +kernel
theorem tyJ0_ok : ∀ k, k < 0 → parseFieldDescriptor (TJ0 k).2.2.1 = some (tyJ0 k) := by decide +kernel
abbrev cJ0_length_8abf5 : ByteArray := prog_14_method_54_code
def yJ0_length_8abf5 : MethodName := ⟨RJ0, "length", "()I"⟩
abbrev cJ0_charAt_5068e : ByteArray := prog_14_method_56_code
def yJ0_charAt_5068e : MethodName := ⟨RJ0, "charAt", "(I)C"⟩
abbrev cJ0_coder_7d493 : ByteArray := prog_14_method_152_code
def yJ0_coder_7d493 : MethodName := ⟨RJ0, "coder", "()B"⟩
abbrev cJ0_isLatin1_aae02 : ByteArray := prog_14_method_154_code
def yJ0_isLatin1_aae02 : MethodName := ⟨RJ0, "isLatin1", "()Z"⟩
abbrev cJ0_checkIndex_df160 : ByteArray := prog_14_method_155_code
def yJ0_checkIndex_df160 : MethodName := ⟨RJ0, "checkIndex", "(II)V"⟩
def RJ1 : String := "java/lang/StringLatin1"
def TJ1 : u_T := fun k => match k with
  | _ => ("", "", "", false)
def tyJ1 : Nat → FieldType := fun k => match k with
  | _ => .int
abbrev wsJ10 : List Cond := u_ws RJ1 TJ1 0
theorem nmJ1 : ∀ a, a < 0 → ∀ b, b < 0 → a ≠ b → (TJ1 a).2.1 ≠ (TJ1 b).2.1 := by decide +kernel
theorem tyJ1_ok : ∀ k, k < 0 → parseFieldDescriptor (TJ1 k).2.2.1 = some (tyJ1 k) := by decide +kernel
abbrev cJ1_charAt_3b067 : ByteArray := prog_15_method_2_code
def yJ1_charAt_3b067 : MethodName := ⟨RJ1, "charAt", "([BI)C"⟩
def RJ2 : String := "java/lang/StringUTF16"
def TJ2 : u_T := fun k => match k with
  | _ => ("", "", "", false)
def tyJ2 : Nat → FieldType := fun k => match k with
  | _ => .int
abbrev wsJ20 : List Cond := u_ws RJ2 TJ2 0
theorem nmJ2 : ∀ a, a < 0 → ∀ b, b < 0 → a ≠ b → (TJ2 a).2.1 ≠ (TJ2 b).2.1 := by decide +kernel
theorem tyJ2_ok : ∀ k, k < 0 → parseFieldDescriptor (TJ2 k).2.2.1 = some (tyJ2 k) := by decide +kernel
abbrev cJ2_getChar_3b067 : ByteArray := prog_16_method_5_code
def yJ2_getChar_3b067 : MethodName := ⟨RJ2, "getChar", "([BI)C"⟩
abbrev cJ2_length_9d52b : ByteArray := prog_16_method_6_code
def yJ2_length_9d52b : MethodName := ⟨RJ2, "length", "([B)I"⟩
abbrev cJ2_charAt_3b067 : ByteArray := prog_16_method_83_code
def yJ2_charAt_3b067 : MethodName := ⟨RJ2, "charAt", "([BI)C"⟩
abbrev cJ2_checkIndex_2214a : ByteArray := prog_16_method_91_code
def yJ2_checkIndex_2214a : MethodName := ⟨RJ2, "checkIndex", "(I[B)V"⟩
def RJ10 : String := "java/lang/System"
def TJ10 : u_T := fun k => match k with
  | _ => ("", "", "", false)
def tyJ10 : Nat → FieldType := fun k => match k with
  | _ => .int
abbrev wsJ100 : List Cond := u_ws RJ10 TJ10 0
theorem nmJ10 : ∀ a, a < 0 → ∀ b, b < 0 → a ≠ b → (TJ10 a).2.1 ≠ (TJ10 b).2.1 := by decide +kernel
theorem tyJ10_ok : ∀ k, k < 0 → parseFieldDescriptor (TJ10 k).2.2.1 = some (tyJ10 k) := by decide +kernel
def RJ7 : String := "java/util/Arrays"
def TJ7 : u_T := fun k => match k with
  | _ => ("", "", "", false)
def tyJ7 : Nat → FieldType := fun k => match k with
  | _ => .int
abbrev wsJ70 : List Cond := u_ws RJ7 TJ7 0
theorem nmJ7 : ∀ a, a < 0 → ∀ b, b < 0 → a ≠ b → (TJ7 a).2.1 ≠ (TJ7 b).2.1 := by decide +kernel
theorem tyJ7_ok : ∀ k, k < 0 → parseFieldDescriptor (TJ7 k).2.2.1 = some (tyJ7 k) := by decide +kernel
abbrev cJ7_fill_53178 : ByteArray := prog_18_method_103_code
def yJ7_fill_53178 : MethodName := ⟨RJ7, "fill", "([II)V"⟩
def RJ3 : String := "jdk/internal/util/Preconditions"
def TJ3 : u_T := fun k => match k with
  | _ => ("", "", "", false)
def tyJ3 : Nat → FieldType := fun k => match k with
  | _ => .int
abbrev wsJ30 : List Cond := u_ws RJ3 TJ3 0
theorem nmJ3 : ∀ a, a < 0 → ∀ b, b < 0 → a ≠ b → (TJ3 a).2.1 ≠ (TJ3 b).2.1 := by decide +kernel
theorem tyJ3_ok : ∀ k, k < 0 → parseFieldDescriptor (TJ3 k).2.2.1 = some (tyJ3 k) := by decide +kernel
abbrev cJ3_checkIndex_8e157 : ByteArray := prog_19_method_11_code
def yJ3_checkIndex_8e157 : MethodName := ⟨RJ3, "checkIndex", "(IILjava/util/function/BiFunction;)I"⟩
def RL : String := "MarkPagesLaw"
abbrev cL_law : ByteArray := code
def yL_law : MethodName := ⟨RL, "law", "([I)Z"⟩
def wsX0_init : List Cond := .code yX0_init cX0_init 1 none :: ([.methodLink RX0 3 objectInit, .instanceMethod objectInit, .code objectInit ⟨#[0xb1]⟩ 1 none, .arrayClass .int, .fieldLink RX0 9 "MarkPages$Judge" "pile" "[I"] ++ wsX00)
def wsX0_push : List Cond := .code yX0_push cX0_push 2 none :: ([.fieldLink RX0 15 "MarkPages$Judge" "height" "I", .fieldLink RX0 9 "MarkPages$Judge" "pile" "[I"] ++ wsX00)
def wsX0_pop : List Cond := .code yX0_pop cX0_pop 1 (some .int) :: ([.fieldLink RX0 15 "MarkPages$Judge" "height" "I", .fieldLink RX0 9 "MarkPages$Judge" "pile" "[I"] ++ wsX00)
def wsX0_truth : List Cond := .code yX0_truth cX0_truth 1 (some .int) :: ([])
def wsX0_join : List Cond := .code yX0_join cX0_join 3 (some .int) :: ([.methodLink RX0 39 yX0_truth, .static yX0_truth, .initialized RX0, .code yX0_truth cX0_truth 1 (some .int)])
def wsX0_take : List Cond := .code yX0_take cX0_take 5 none :: ([.methodLink RX0 35 yX0_push, .instanceMethod yX0_push, .selects RX0 yX0_push yX0_push, .initialized RX0, .code yX0_push cX0_push 2 none, .fieldLink RX0 15 "MarkPages$Judge" "height" "I", .fieldLink RX0 9 "MarkPages$Judge" "pile" "[I", .methodLink RX0 31 yX0_pop, .instanceMethod yX0_pop, .selects RX0 yX0_pop yX0_pop, .code yX0_pop cX0_pop 1 (some .int), .methodLink RX0 39 yX0_truth, .static yX0_truth, .code yX0_truth cX0_truth 1 (some .int), .methodLink RX0 43 yX0_join, .static yX0_join, .code yX0_join cX0_join 3 (some .int)] ++ wsX00)
def wsX0_isSo : List Cond := .code yX0_isSo cX0_isSo 5 (some .boolean) :: ([.fieldLink RX0 15 "MarkPages$Judge" "height" "I", .fieldLink RX0 19 "MarkPages$RuleBook" "starts" "[I", .fieldLink RX0 24 "MarkPages$RuleBook" "code" "[I", .methodLink RX0 27 yX0_take, .instanceMethod yX0_take, .selects RX0 yX0_take yX0_take, .initialized RX0, .code yX0_take cX0_take 5 none, .methodLink RX0 35 yX0_push, .instanceMethod yX0_push, .selects RX0 yX0_push yX0_push, .code yX0_push cX0_push 2 none, .fieldLink RX0 9 "MarkPages$Judge" "pile" "[I", .methodLink RX0 31 yX0_pop, .instanceMethod yX0_pop, .selects RX0 yX0_pop yX0_pop, .code yX0_pop cX0_pop 1 (some .int), .methodLink RX0 39 yX0_truth, .static yX0_truth, .code yX0_truth cX0_truth 1 (some .int), .methodLink RX0 43 yX0_join, .static yX0_join, .code yX0_join cX0_join 3 (some .int)] ++ wsX00 ++ wsX40)
def wsX1_init : List Cond := .code yX1_init cX1_init 1 none :: ([.methodLink RX1 3 objectInit, .instanceMethod objectInit, .code objectInit ⟨#[0xb1]⟩ 1 none, .arrayClass .int, .fieldLink RX1 9 "MarkPages$Out" "bytes" "[I"] ++ wsX10)
def wsX1_put : List Cond := .code yX1_put cX1_put 2 none :: ([.fieldLink RX1 15 "MarkPages$Out" "count" "I", .fieldLink RX1 9 "MarkPages$Out" "bytes" "[I"] ++ wsX10)
def wsX1_putNumber : List Cond := .code yX1_putNumber cX1_putNumber 2 none :: ([.methodLink RX1 19 yX1_put, .instanceMethod yX1_put, .selects RX1 yX1_put yX1_put, .initialized RX1, .code yX1_put cX1_put 2 none, .fieldLink RX1 15 "MarkPages$Out" "count" "I", .fieldLink RX1 9 "MarkPages$Out" "bytes" "[I"] ++ wsX10)
def wsX2_init : List Cond := .code yX2_init cX2_init 1 none :: ([.methodLink RX2 3 objectInit, .instanceMethod objectInit, .code objectInit ⟨#[0xb1]⟩ 1 none, .arrayClass .int, .fieldLink RX2 9 "MarkPages$Page" "sayings" "[I", .fieldLink RX2 15 "MarkPages$Page" "skills" "[I", .fieldLink RX2 18 "MarkPages$Page" "ruleNumbers" "[I"] ++ wsX20)
def wsX2_add : List Cond := .code yX2_add cX2_add 4 none :: ([.fieldLink RX2 21 "MarkPages$Page" "count" "I", .fieldLink RX2 9 "MarkPages$Page" "sayings" "[I", .fieldLink RX2 15 "MarkPages$Page" "skills" "[I", .fieldLink RX2 18 "MarkPages$Page" "ruleNumbers" "[I"] ++ wsX20)
def wsX2_hasSort : List Cond := .code yX2_hasSort cX2_hasSort 4 (some .boolean) :: ([.fieldLink RX2 21 "MarkPages$Page" "count" "I", .fieldLink RX2 15 "MarkPages$Page" "skills" "[I", .fieldLink RX2 9 "MarkPages$Page" "sayings" "[I"] ++ wsX20)
def wsX2_sameLines : List Cond := .code yX2_sameLines cX2_sameLines 3 (some .boolean) :: ([.fieldLink RX2 21 "MarkPages$Page" "count" "I", .fieldLink RX2 9 "MarkPages$Page" "sayings" "[I", .fieldLink RX2 15 "MarkPages$Page" "skills" "[I"] ++ wsX20)
def wsJ7_fill_53178 : List Cond := .code yJ7_fill_53178 cJ7_fill_53178 4 none :: ([])
def wsX3_init : List Cond := .code yX3_init cX3_init 1 none :: ([.methodLink RX3 3 objectInit, .instanceMethod objectInit, .code objectInit ⟨#[0xb1]⟩ 1 none, .arrayClass .int, .fieldLink RX3 9 "MarkPages$Papers" "mosts" "[I", .fieldLink RX3 15 "MarkPages$Papers" "skillSets" "[I", .fieldLink RX3 18 "MarkPages$Papers" "points" "[I", .fieldLink RX3 21 "MarkPages$Papers" "medians" "[I", .fieldLink RX3 24 "MarkPages$Papers" "rising" "[I", .methodLink RX3 27 yJ7_fill_53178, .static yJ7_fill_53178, .initialized RJ7, .code yJ7_fill_53178 cJ7_fill_53178 4 none] ++ wsX30)
def wsX3_addQuestion : List Cond := .code yX3_addQuestion cX3_addQuestion 3 (some .int) :: ([.fieldLink RX3 33 "MarkPages$Papers" "count" "I", .fieldLink RX3 9 "MarkPages$Papers" "mosts" "[I", .fieldLink RX3 15 "MarkPages$Papers" "skillSets" "[I"] ++ wsX30)
def wsX3_hasQuestion : List Cond := .code yX3_hasQuestion cX3_hasQuestion 2 (some .boolean) :: ([.fieldLink RX3 33 "MarkPages$Papers" "count" "I"] ++ wsX30)
def wsX3_pointsOf : List Cond := .code yX3_pointsOf cX3_pointsOf 3 (some .int) :: ([.fieldLink RX3 18 "MarkPages$Papers" "points" "[I"] ++ wsX30)
def wsX3_markedOf : List Cond := .code yX3_markedOf cX3_markedOf 5 (some .int) :: ([.fieldLink RX3 33 "MarkPages$Papers" "count" "I", .fieldLink RX3 15 "MarkPages$Papers" "skillSets" "[I", .methodLink RX3 41 yX3_pointsOf, .instanceMethod yX3_pointsOf, .selects RX3 yX3_pointsOf yX3_pointsOf, .initialized RX3, .code yX3_pointsOf cX3_pointsOf 3 (some .int), .fieldLink RX3 18 "MarkPages$Papers" "points" "[I"] ++ wsX30)
def wsX3_shareBy : List Cond := .code yX3_shareBy cX3_shareBy 6 (some .int) :: ([.fieldLink RX3 33 "MarkPages$Papers" "count" "I", .fieldLink RX3 9 "MarkPages$Papers" "mosts" "[I", .methodLink RX3 41 yX3_pointsOf, .instanceMethod yX3_pointsOf, .selects RX3 yX3_pointsOf yX3_pointsOf, .initialized RX3, .code yX3_pointsOf cX3_pointsOf 3 (some .int), .fieldLink RX3 18 "MarkPages$Papers" "points" "[I"] ++ wsX30)
def wsX3_insertRising : List Cond := .code yX3_insertRising cX3_insertRising 5 none :: ([.fieldLink RX3 24 "MarkPages$Papers" "rising" "[I"] ++ wsX30)
def wsX3_medianOf : List Cond := .code yX3_medianOf cX3_medianOf 5 (some .int) :: ([.fieldLink RX3 24 "MarkPages$Papers" "rising" "[I", .methodLink RX3 59 yX3_markedOf, .instanceMethod yX3_markedOf, .selects RX3 yX3_markedOf yX3_markedOf, .initialized RX3, .code yX3_markedOf cX3_markedOf 5 (some .int), .fieldLink RX3 33 "MarkPages$Papers" "count" "I", .fieldLink RX3 15 "MarkPages$Papers" "skillSets" "[I", .methodLink RX3 41 yX3_pointsOf, .instanceMethod yX3_pointsOf, .selects RX3 yX3_pointsOf yX3_pointsOf, .code yX3_pointsOf cX3_pointsOf 3 (some .int), .fieldLink RX3 18 "MarkPages$Papers" "points" "[I", .methodLink RX3 50 yX3_shareBy, .instanceMethod yX3_shareBy, .selects RX3 yX3_shareBy yX3_shareBy, .code yX3_shareBy cX3_shareBy 6 (some .int), .fieldLink RX3 9 "MarkPages$Papers" "mosts" "[I", .methodLink RX3 62 yX3_insertRising, .instanceMethod yX3_insertRising, .selects RX3 yX3_insertRising yX3_insertRising, .code yX3_insertRising cX3_insertRising 5 none] ++ wsX30)
def wsX3_setPoints_r1 : List Cond := [Cond.fieldLink RX3 18 "MarkPages$Papers" "points" "[I", Cond.fieldLink RX3 21 "MarkPages$Papers" "medians" "[I", Cond.methodLink RX3 37 yX3_medianOf, Cond.instanceMethod yX3_medianOf, Cond.selects RX3 yX3_medianOf yX3_medianOf, Cond.initialized RX3, Cond.code yX3_medianOf cX3_medianOf 5 (some .int), Cond.fieldLink RX3 24 "MarkPages$Papers" "rising" "[I", Cond.methodLink RX3 59 yX3_markedOf, Cond.instanceMethod yX3_markedOf, Cond.selects RX3 yX3_markedOf yX3_markedOf, Cond.code yX3_markedOf cX3_markedOf 5 (some .int), Cond.fieldLink RX3 33 "MarkPages$Papers" "count" "I", Cond.fieldLink RX3 15 "MarkPages$Papers" "skillSets" "[I", Cond.methodLink RX3 41 yX3_pointsOf, Cond.instanceMethod yX3_pointsOf, Cond.selects RX3 yX3_pointsOf yX3_pointsOf, Cond.code yX3_pointsOf cX3_pointsOf 3 (some .int), Cond.methodLink RX3 50 yX3_shareBy, Cond.instanceMethod yX3_shareBy, Cond.selects RX3 yX3_shareBy yX3_shareBy, Cond.code yX3_shareBy cX3_shareBy 6 (some .int), Cond.fieldLink RX3 9 "MarkPages$Papers" "mosts" "[I", Cond.methodLink RX3 62 yX3_insertRising]
def wsX3_setPoints_r2 : List Cond := [Cond.instanceMethod yX3_insertRising, Cond.selects RX3 yX3_insertRising yX3_insertRising, Cond.code yX3_insertRising cX3_insertRising 5 none]
def wsX3_setPoints : List Cond := .code yX3_setPoints cX3_setPoints 5 none :: ((wsX3_setPoints_r1 ++ wsX3_setPoints_r2) ++ wsX30)
def wsX3_hasMark : List Cond := .code yX3_hasMark cX3_hasMark 3 (some .boolean) :: ([.fieldLink RX3 33 "MarkPages$Papers" "count" "I", .methodLink RX3 41 yX3_pointsOf, .instanceMethod yX3_pointsOf, .selects RX3 yX3_pointsOf yX3_pointsOf, .initialized RX3, .code yX3_pointsOf cX3_pointsOf 3 (some .int), .fieldLink RX3 18 "MarkPages$Papers" "points" "[I"] ++ wsX30)
def wsJ6_bitCount_0f7a4 : List Cond := .code yJ6_bitCount_0f7a4 cJ6_bitCount_0f7a4 1 (some .int) :: ([.constant RJ6 265 (1431655765), .constant RJ6 266 (858993459), .constant RJ6 267 (252645135)])
def wsX3_missedBy : List Cond := .code yX3_missedBy cX3_missedBy 5 (some .int) :: ([.fieldLink RX3 33 "MarkPages$Papers" "count" "I", .methodLink RX3 41 yX3_pointsOf, .instanceMethod yX3_pointsOf, .selects RX3 yX3_pointsOf yX3_pointsOf, .initialized RX3, .code yX3_pointsOf cX3_pointsOf 3 (some .int), .fieldLink RX3 18 "MarkPages$Papers" "points" "[I"] ++ wsX30)
def wsX3_lastOf : List Cond := .code yX3_lastOf cX3_lastOf 4 (some .int) :: ([.fieldLink RX3 33 "MarkPages$Papers" "count" "I"] ++ wsX30)
def wsX3_measure_r1 : List Cond := [Cond.fieldLink RX3 21 "MarkPages$Papers" "medians" "[I", Cond.methodLink RX3 45 yJ6_bitCount_0f7a4, Cond.static yJ6_bitCount_0f7a4, Cond.initialized RJ6, Cond.code yJ6_bitCount_0f7a4 cJ6_bitCount_0f7a4 1 (some .int), Cond.constant RJ6 265 (1431655765), Cond.constant RJ6 266 (858993459), Cond.constant RJ6 267 (252645135), Cond.methodLink RX3 50 yX3_shareBy, Cond.instanceMethod yX3_shareBy, Cond.selects RX3 yX3_shareBy yX3_shareBy, Cond.initialized RX3, Cond.code yX3_shareBy cX3_shareBy 6 (some .int), Cond.fieldLink RX3 33 "MarkPages$Papers" "count" "I", Cond.fieldLink RX3 9 "MarkPages$Papers" "mosts" "[I", Cond.methodLink RX3 41 yX3_pointsOf, Cond.instanceMethod yX3_pointsOf, Cond.selects RX3 yX3_pointsOf yX3_pointsOf, Cond.code yX3_pointsOf cX3_pointsOf 3 (some .int), Cond.fieldLink RX3 18 "MarkPages$Papers" "points" "[I", Cond.methodLink RX3 53 yX3_missedBy, Cond.instanceMethod yX3_missedBy, Cond.selects RX3 yX3_missedBy yX3_missedBy, Cond.code yX3_missedBy cX3_missedBy 5 (some .int)]
def wsX3_measure_r2 : List Cond := [Cond.methodLink RX3 56 yX3_lastOf, Cond.instanceMethod yX3_lastOf, Cond.selects RX3 yX3_lastOf yX3_lastOf, Cond.code yX3_lastOf cX3_lastOf 4 (some .int)]
def wsX3_measure : List Cond := .code yX3_measure cX3_measure 5 none :: ((wsX3_measure_r1 ++ wsX3_measure_r2) ++ wsX30)
def wsX4_init : List Cond := .code yX4_init cX4_init 1 none :: ([.methodLink RX4 3 objectInit, .instanceMethod objectInit, .code objectInit ⟨#[0xb1]⟩ 1 none, .arrayClass .int, .fieldLink RX4 9 "MarkPages$RuleBook" "sayings" "[I", .fieldLink RX4 15 "MarkPages$RuleBook" "skills" "[I", .fieldLink RX4 18 "MarkPages$RuleBook" "starts" "[I", .fieldLink RX4 21 "MarkPages$RuleBook" "code" "[I"] ++ wsX40)
def wsX4_clear : List Cond := .code yX4_clear cX4_clear 1 none :: ([.fieldLink RX4 24 "MarkPages$RuleBook" "count" "I", .fieldLink RX4 28 "MarkPages$RuleBook" "used" "I"] ++ wsX40)
def wsX4_append : List Cond := .code yX4_append cX4_append 2 none :: ([.fieldLink RX4 28 "MarkPages$RuleBook" "used" "I", .fieldLink RX4 21 "MarkPages$RuleBook" "code" "[I"] ++ wsX40)
def wsX4_closeRule : List Cond := .code yX4_closeRule cX4_closeRule 3 none :: ([.fieldLink RX4 24 "MarkPages$RuleBook" "count" "I", .fieldLink RX4 9 "MarkPages$RuleBook" "sayings" "[I", .fieldLink RX4 15 "MarkPages$RuleBook" "skills" "[I", .fieldLink RX4 18 "MarkPages$RuleBook" "starts" "[I", .fieldLink RX4 28 "MarkPages$RuleBook" "used" "I"] ++ wsX40)
def wsX4_isFor : List Cond := .code yX4_isFor cX4_isFor 3 (some .boolean) :: ([.fieldLink RX4 15 "MarkPages$RuleBook" "skills" "[I"] ++ wsX40)
def wsX8_init : List Cond := .code yX8_init cX8_init 1 none :: ([.methodLink RX8 3 objectInit, .instanceMethod objectInit, .code objectInit ⟨#[0xb1]⟩ 1 none, .arrayClass .int, .fieldLink RX8 9 "MarkPages$Tokens" "kinds" "[I", .fieldLink RX8 15 "MarkPages$Tokens" "places" "[I"] ++ wsX80)
def wsX5_init_r1 : List Cond := [Cond.methodLink RX5 3 objectInit, Cond.instanceMethod objectInit, Cond.code objectInit ⟨#[0xb1]⟩ 1 none, Cond.classLink RX5 9 RX8, Cond.instantiable RX8 3, Cond.initialized RX8, Cond.fieldLink RX5 12 "MarkPages$RuleReader" "tokens" "LMarkPages$Tokens;", Cond.classLink RX5 18 RX4, Cond.instantiable RX4 6, Cond.initialized RX4, Cond.fieldLink RX5 21 "MarkPages$RuleReader" "draft" "LMarkPages$RuleBook;", Cond.fieldLink RX5 25 "MarkPages$RuleReader" "now" "I", Cond.fieldLink RX5 29 "MarkPages$RuleReader" "faultKind" "I", Cond.fieldLink RX5 32 "MarkPages$RuleReader" "faultPlace" "I", Cond.instanceMethod yX8_init, Cond.code yX8_init cX8_init 1 none, Cond.methodLink RX8 3 objectInit, Cond.arrayClass .int, Cond.fieldLink RX8 9 "MarkPages$Tokens" "kinds" "[I", Cond.fieldLink RX8 15 "MarkPages$Tokens" "places" "[I", Cond.instanceMethod yX4_init, Cond.code yX4_init cX4_init 1 none, Cond.methodLink RX4 3 objectInit, Cond.fieldLink RX4 9 "MarkPages$RuleBook" "sayings" "[I"]
def wsX5_init_r2 : List Cond := [Cond.fieldLink RX4 15 "MarkPages$RuleBook" "skills" "[I", Cond.fieldLink RX4 18 "MarkPages$RuleBook" "starts" "[I", Cond.fieldLink RX4 21 "MarkPages$RuleBook" "code" "[I"]
def wsX5_init : List Cond := .code yX5_init cX5_init 1 none :: ((wsX5_init_r1 ++ wsX5_init_r2) ++ wsX80 ++ wsX50 ++ wsX40)
def wsX8_familyOf : List Cond := .code yX8_familyOf cX8_familyOf 1 (some .int) :: ([])
def wsX8_startsToken : List Cond := .code yX8_startsToken cX8_startsToken 5 (some .boolean) :: ([.fieldLink RX8 37 "MarkPages$Tape" "bytes" "[I", .methodLink RX8 40 yX8_familyOf, .static yX8_familyOf, .initialized RX8, .code yX8_familyOf cX8_familyOf 1 (some .int)] ++ wsX60)
def wsX8_signOf : List Cond := .code yX8_signOf cX8_signOf 1 (some .int) :: ([])
def wsX8_spelling : List Cond := .code yX8_spelling cX8_spelling 1 (some (.object "java/lang/String")) :: ([])
def wsJ0_coder_7d493 : List Cond := .code yJ0_coder_7d493 cJ0_coder_7d493 1 (some .byte) :: ([.fieldLink RJ0 38 "java/lang/String" "COMPACT_STRINGS" "Z", .fieldLink RJ0 15 "java/lang/String" "coder" "B"])
def wsJ0_length_8abf5 : List Cond := .code yJ0_length_8abf5 cJ0_length_8abf5 1 (some .int) :: ([.fieldLink RJ0 9 "java/lang/String" "value" "[B", .methodLink RJ0 335 yJ0_coder_7d493, .instanceMethod yJ0_coder_7d493, .selects RJ0 yJ0_coder_7d493 yJ0_coder_7d493, .initialized RJ0, .code yJ0_coder_7d493 cJ0_coder_7d493 1 (some .byte), .fieldLink RJ0 38 "java/lang/String" "COMPACT_STRINGS" "Z", .fieldLink RJ0 15 "java/lang/String" "coder" "B"])
def wsJ0_isLatin1_aae02 : List Cond := .code yJ0_isLatin1_aae02 cJ0_isLatin1_aae02 1 (some .boolean) :: ([.fieldLink RJ0 38 "java/lang/String" "COMPACT_STRINGS" "Z", .fieldLink RJ0 15 "java/lang/String" "coder" "B"])
def wsJ3_checkIndex_8e157 : List Cond := .code yJ3_checkIndex_8e157 cJ3_checkIndex_8e157 3 (some .int) :: ([])
def wsJ0_checkIndex_df160 : List Cond := .code yJ0_checkIndex_df160 cJ0_checkIndex_df160 2 none :: ([.fieldLink RJ0 1053 "jdk/internal/util/Preconditions" "SIOOBE_FORMATTER" "Ljava/util/function/BiFunction;", .methodLink RJ0 1059 yJ3_checkIndex_8e157, .static yJ3_checkIndex_8e157, .initialized RJ3, .code yJ3_checkIndex_8e157 cJ3_checkIndex_8e157 3 (some .int)])
def wsJ1_charAt_3b067 : List Cond := .code yJ1_charAt_3b067 cJ1_charAt_3b067 2 (some .char) :: ([.methodLink RJ1 9 yJ0_checkIndex_df160, .static yJ0_checkIndex_df160, .initialized RJ0, .code yJ0_checkIndex_df160 cJ0_checkIndex_df160 2 none, .fieldLink RJ0 1053 "jdk/internal/util/Preconditions" "SIOOBE_FORMATTER" "Ljava/util/function/BiFunction;", .methodLink RJ0 1059 yJ3_checkIndex_8e157, .static yJ3_checkIndex_8e157, .initialized RJ3, .code yJ3_checkIndex_8e157 cJ3_checkIndex_8e157 3 (some .int)])
def wsJ2_length_9d52b : List Cond := .code yJ2_length_9d52b cJ2_length_9d52b 1 (some .int) :: ([])
def wsJ2_checkIndex_2214a : List Cond := .code yJ2_checkIndex_2214a cJ2_checkIndex_2214a 2 none :: ([.methodLink RJ2 48 yJ2_length_9d52b, .static yJ2_length_9d52b, .initialized RJ2, .code yJ2_length_9d52b cJ2_length_9d52b 1 (some .int), .methodLink RJ2 414 yJ0_checkIndex_df160, .static yJ0_checkIndex_df160, .initialized RJ0, .code yJ0_checkIndex_df160 cJ0_checkIndex_df160 2 none, .fieldLink RJ0 1053 "jdk/internal/util/Preconditions" "SIOOBE_FORMATTER" "Ljava/util/function/BiFunction;", .methodLink RJ0 1059 yJ3_checkIndex_8e157, .static yJ3_checkIndex_8e157, .initialized RJ3, .code yJ3_checkIndex_8e157 cJ3_checkIndex_8e157 3 (some .int)])
def wsJ2_getChar_3b067 : List Cond := .code yJ2_getChar_3b067 cJ2_getChar_3b067 2 (some .char) :: ([.fieldLink RJ2 44 "java/lang/StringUTF16" "$assertionsDisabled" "Z", .fieldLink RJ2 59 "java/lang/StringUTF16" "HI_BYTE_SHIFT" "I", .fieldLink RJ2 63 "java/lang/StringUTF16" "LO_BYTE_SHIFT" "I", .methodLink RJ2 48 yJ2_length_9d52b, .static yJ2_length_9d52b, .initialized RJ2, .code yJ2_length_9d52b cJ2_length_9d52b 1 (some .int)])
def wsJ2_charAt_3b067 : List Cond := .code yJ2_charAt_3b067 cJ2_charAt_3b067 2 (some .char) :: ([.methodLink RJ2 67 yJ2_checkIndex_2214a, .static yJ2_checkIndex_2214a, .initialized RJ2, .code yJ2_checkIndex_2214a cJ2_checkIndex_2214a 2 none, .methodLink RJ2 48 yJ2_length_9d52b, .static yJ2_length_9d52b, .code yJ2_length_9d52b cJ2_length_9d52b 1 (some .int), .methodLink RJ2 414 yJ0_checkIndex_df160, .static yJ0_checkIndex_df160, .initialized RJ0, .code yJ0_checkIndex_df160 cJ0_checkIndex_df160 2 none, .fieldLink RJ0 1053 "jdk/internal/util/Preconditions" "SIOOBE_FORMATTER" "Ljava/util/function/BiFunction;", .methodLink RJ0 1059 yJ3_checkIndex_8e157, .static yJ3_checkIndex_8e157, .initialized RJ3, .code yJ3_checkIndex_8e157 cJ3_checkIndex_8e157 3 (some .int), .methodLink RJ2 71 yJ2_getChar_3b067, .static yJ2_getChar_3b067, .code yJ2_getChar_3b067 cJ2_getChar_3b067 2 (some .char), .fieldLink RJ2 44 "java/lang/StringUTF16" "$assertionsDisabled" "Z", .fieldLink RJ2 59 "java/lang/StringUTF16" "HI_BYTE_SHIFT" "I", .fieldLink RJ2 63 "java/lang/StringUTF16" "LO_BYTE_SHIFT" "I"])
def wsJ0_charAt_5068e_r1 : List Cond := [Cond.fieldLink RJ0 9 "java/lang/String" "value" "[B", Cond.methodLink RJ0 492 yJ0_isLatin1_aae02, Cond.instanceMethod yJ0_isLatin1_aae02, Cond.selects RJ0 yJ0_isLatin1_aae02 yJ0_isLatin1_aae02, Cond.initialized RJ0, Cond.code yJ0_isLatin1_aae02 cJ0_isLatin1_aae02 1 (some .boolean), Cond.fieldLink RJ0 38 "java/lang/String" "COMPACT_STRINGS" "Z", Cond.fieldLink RJ0 15 "java/lang/String" "coder" "B", Cond.methodLink RJ0 495 yJ1_charAt_3b067, Cond.static yJ1_charAt_3b067, Cond.initialized RJ1, Cond.code yJ1_charAt_3b067 cJ1_charAt_3b067 2 (some .char), Cond.methodLink RJ1 9 yJ0_checkIndex_df160, Cond.static yJ0_checkIndex_df160, Cond.code yJ0_checkIndex_df160 cJ0_checkIndex_df160 2 none, Cond.fieldLink RJ0 1053 "jdk/internal/util/Preconditions" "SIOOBE_FORMATTER" "Ljava/util/function/BiFunction;", Cond.methodLink RJ0 1059 yJ3_checkIndex_8e157, Cond.static yJ3_checkIndex_8e157, Cond.initialized RJ3, Cond.code yJ3_checkIndex_8e157 cJ3_checkIndex_8e157 3 (some .int), Cond.methodLink RJ0 498 yJ2_charAt_3b067, Cond.static yJ2_charAt_3b067, Cond.initialized RJ2, Cond.code yJ2_charAt_3b067 cJ2_charAt_3b067 2 (some .char)]
def wsJ0_charAt_5068e_r2 : List Cond := [Cond.methodLink RJ2 67 yJ2_checkIndex_2214a, Cond.static yJ2_checkIndex_2214a, Cond.code yJ2_checkIndex_2214a cJ2_checkIndex_2214a 2 none, Cond.methodLink RJ2 48 yJ2_length_9d52b, Cond.static yJ2_length_9d52b, Cond.code yJ2_length_9d52b cJ2_length_9d52b 1 (some .int), Cond.methodLink RJ2 414 yJ0_checkIndex_df160, Cond.methodLink RJ2 71 yJ2_getChar_3b067, Cond.static yJ2_getChar_3b067, Cond.code yJ2_getChar_3b067 cJ2_getChar_3b067 2 (some .char), Cond.fieldLink RJ2 44 "java/lang/StringUTF16" "$assertionsDisabled" "Z", Cond.fieldLink RJ2 59 "java/lang/StringUTF16" "HI_BYTE_SHIFT" "I", Cond.fieldLink RJ2 63 "java/lang/StringUTF16" "LO_BYTE_SHIFT" "I"]
def wsJ0_charAt_5068e : List Cond := .code yJ0_charAt_5068e cJ0_charAt_5068e 2 (some .char) :: ((wsJ0_charAt_5068e_r1 ++ wsJ0_charAt_5068e_r2))
def wsX8_spells_r1 : List Cond := [Cond.fieldLink RX8 37 "MarkPages$Tape" "bytes" "[I", Cond.methodLink RX8 62 yJ0_length_8abf5, Cond.instanceMethod yJ0_length_8abf5, Cond.selects RJ0 yJ0_length_8abf5 yJ0_length_8abf5, Cond.initialized RJ0, Cond.code yJ0_length_8abf5 cJ0_length_8abf5 1 (some .int), Cond.fieldLink RJ0 9 "java/lang/String" "value" "[B", Cond.methodLink RJ0 335 yJ0_coder_7d493, Cond.instanceMethod yJ0_coder_7d493, Cond.selects RJ0 yJ0_coder_7d493 yJ0_coder_7d493, Cond.code yJ0_coder_7d493 cJ0_coder_7d493 1 (some .byte), Cond.fieldLink RJ0 38 "java/lang/String" "COMPACT_STRINGS" "Z", Cond.fieldLink RJ0 15 "java/lang/String" "coder" "B", Cond.methodLink RX8 68 yJ0_charAt_5068e, Cond.instanceMethod yJ0_charAt_5068e, Cond.selects RJ0 yJ0_charAt_5068e yJ0_charAt_5068e, Cond.code yJ0_charAt_5068e cJ0_charAt_5068e 2 (some .char), Cond.methodLink RJ0 492 yJ0_isLatin1_aae02, Cond.instanceMethod yJ0_isLatin1_aae02, Cond.selects RJ0 yJ0_isLatin1_aae02 yJ0_isLatin1_aae02, Cond.code yJ0_isLatin1_aae02 cJ0_isLatin1_aae02 1 (some .boolean), Cond.methodLink RJ0 495 yJ1_charAt_3b067, Cond.static yJ1_charAt_3b067, Cond.initialized RJ1]
def wsX8_spells_r2 : List Cond := [Cond.code yJ1_charAt_3b067 cJ1_charAt_3b067 2 (some .char), Cond.methodLink RJ1 9 yJ0_checkIndex_df160, Cond.static yJ0_checkIndex_df160, Cond.code yJ0_checkIndex_df160 cJ0_checkIndex_df160 2 none, Cond.fieldLink RJ0 1053 "jdk/internal/util/Preconditions" "SIOOBE_FORMATTER" "Ljava/util/function/BiFunction;", Cond.methodLink RJ0 1059 yJ3_checkIndex_8e157, Cond.static yJ3_checkIndex_8e157, Cond.initialized RJ3, Cond.code yJ3_checkIndex_8e157 cJ3_checkIndex_8e157 3 (some .int), Cond.methodLink RJ0 498 yJ2_charAt_3b067, Cond.static yJ2_charAt_3b067, Cond.initialized RJ2, Cond.code yJ2_charAt_3b067 cJ2_charAt_3b067 2 (some .char), Cond.methodLink RJ2 67 yJ2_checkIndex_2214a, Cond.static yJ2_checkIndex_2214a, Cond.code yJ2_checkIndex_2214a cJ2_checkIndex_2214a 2 none, Cond.methodLink RJ2 48 yJ2_length_9d52b, Cond.static yJ2_length_9d52b, Cond.code yJ2_length_9d52b cJ2_length_9d52b 1 (some .int), Cond.methodLink RJ2 414 yJ0_checkIndex_df160, Cond.methodLink RJ2 71 yJ2_getChar_3b067, Cond.static yJ2_getChar_3b067, Cond.code yJ2_getChar_3b067 cJ2_getChar_3b067 2 (some .char), Cond.fieldLink RJ2 44 "java/lang/StringUTF16" "$assertionsDisabled" "Z"]
def wsX8_spells_r3 : List Cond := [Cond.fieldLink RJ2 59 "java/lang/StringUTF16" "HI_BYTE_SHIFT" "I", Cond.fieldLink RJ2 63 "java/lang/StringUTF16" "LO_BYTE_SHIFT" "I"]
def wsX8_spells : List Cond := .code yX8_spells cX8_spells 5 (some .boolean) :: ((wsX8_spells_r1 ++ (wsX8_spells_r2 ++ wsX8_spells_r3)) ++ wsX60)
def wsX8_keywordOf_r1 : List Cond := [Cond.methodLink RX8 54 yX8_spelling, Cond.static yX8_spelling, Cond.initialized RX8, Cond.code yX8_spelling cX8_spelling 1 (some (.object "java/lang/String")), Cond.methodLink RX8 58 yX8_spells, Cond.static yX8_spells, Cond.code yX8_spells cX8_spells 5 (some .boolean), Cond.fieldLink RX8 37 "MarkPages$Tape" "bytes" "[I", Cond.methodLink RX8 62 yJ0_length_8abf5, Cond.instanceMethod yJ0_length_8abf5, Cond.selects RJ0 yJ0_length_8abf5 yJ0_length_8abf5, Cond.initialized RJ0, Cond.code yJ0_length_8abf5 cJ0_length_8abf5 1 (some .int), Cond.fieldLink RJ0 9 "java/lang/String" "value" "[B", Cond.methodLink RJ0 335 yJ0_coder_7d493, Cond.instanceMethod yJ0_coder_7d493, Cond.selects RJ0 yJ0_coder_7d493 yJ0_coder_7d493, Cond.code yJ0_coder_7d493 cJ0_coder_7d493 1 (some .byte), Cond.fieldLink RJ0 38 "java/lang/String" "COMPACT_STRINGS" "Z", Cond.fieldLink RJ0 15 "java/lang/String" "coder" "B", Cond.methodLink RX8 68 yJ0_charAt_5068e, Cond.instanceMethod yJ0_charAt_5068e, Cond.selects RJ0 yJ0_charAt_5068e yJ0_charAt_5068e, Cond.code yJ0_charAt_5068e cJ0_charAt_5068e 2 (some .char)]
def wsX8_keywordOf_r2 : List Cond := [Cond.methodLink RJ0 492 yJ0_isLatin1_aae02, Cond.instanceMethod yJ0_isLatin1_aae02, Cond.selects RJ0 yJ0_isLatin1_aae02 yJ0_isLatin1_aae02, Cond.code yJ0_isLatin1_aae02 cJ0_isLatin1_aae02 1 (some .boolean), Cond.methodLink RJ0 495 yJ1_charAt_3b067, Cond.static yJ1_charAt_3b067, Cond.initialized RJ1, Cond.code yJ1_charAt_3b067 cJ1_charAt_3b067 2 (some .char), Cond.methodLink RJ1 9 yJ0_checkIndex_df160, Cond.static yJ0_checkIndex_df160, Cond.code yJ0_checkIndex_df160 cJ0_checkIndex_df160 2 none, Cond.fieldLink RJ0 1053 "jdk/internal/util/Preconditions" "SIOOBE_FORMATTER" "Ljava/util/function/BiFunction;", Cond.methodLink RJ0 1059 yJ3_checkIndex_8e157, Cond.static yJ3_checkIndex_8e157, Cond.initialized RJ3, Cond.code yJ3_checkIndex_8e157 cJ3_checkIndex_8e157 3 (some .int), Cond.methodLink RJ0 498 yJ2_charAt_3b067, Cond.static yJ2_charAt_3b067, Cond.initialized RJ2, Cond.code yJ2_charAt_3b067 cJ2_charAt_3b067 2 (some .char), Cond.methodLink RJ2 67 yJ2_checkIndex_2214a, Cond.static yJ2_checkIndex_2214a, Cond.code yJ2_checkIndex_2214a cJ2_checkIndex_2214a 2 none, Cond.methodLink RJ2 48 yJ2_length_9d52b]
def wsX8_keywordOf_r3 : List Cond := [Cond.static yJ2_length_9d52b, Cond.code yJ2_length_9d52b cJ2_length_9d52b 1 (some .int), Cond.methodLink RJ2 414 yJ0_checkIndex_df160, Cond.methodLink RJ2 71 yJ2_getChar_3b067, Cond.static yJ2_getChar_3b067, Cond.code yJ2_getChar_3b067 cJ2_getChar_3b067 2 (some .char), Cond.fieldLink RJ2 44 "java/lang/StringUTF16" "$assertionsDisabled" "Z", Cond.fieldLink RJ2 59 "java/lang/StringUTF16" "HI_BYTE_SHIFT" "I", Cond.fieldLink RJ2 63 "java/lang/StringUTF16" "LO_BYTE_SHIFT" "I"]
def wsX8_keywordOf : List Cond := .code yX8_keywordOf cX8_keywordOf 4 (some .int) :: ((wsX8_keywordOf_r1 ++ (wsX8_keywordOf_r2 ++ wsX8_keywordOf_r3)) ++ wsX60)
def wsX8_numberOf : List Cond := .code yX8_numberOf cX8_numberOf 5 (some .int) :: ([.fieldLink RX8 37 "MarkPages$Tape" "bytes" "[I"] ++ wsX60)
def wsX8_tokenAt_r1 : List Cond := [Cond.fieldLink RX8 37 "MarkPages$Tape" "bytes" "[I", Cond.fieldLink RX8 22 "MarkPages$Tape" "count" "I", Cond.methodLink RX8 40 yX8_familyOf, Cond.static yX8_familyOf, Cond.initialized RX8, Cond.code yX8_familyOf cX8_familyOf 1 (some .int), Cond.methodLink RX8 44 yX8_signOf, Cond.static yX8_signOf, Cond.code yX8_signOf cX8_signOf 1 (some .int), Cond.methodLink RX8 47 yX8_keywordOf, Cond.static yX8_keywordOf, Cond.code yX8_keywordOf cX8_keywordOf 4 (some .int), Cond.methodLink RX8 54 yX8_spelling, Cond.static yX8_spelling, Cond.code yX8_spelling cX8_spelling 1 (some (.object "java/lang/String")), Cond.methodLink RX8 58 yX8_spells, Cond.static yX8_spells, Cond.code yX8_spells cX8_spells 5 (some .boolean), Cond.methodLink RX8 62 yJ0_length_8abf5, Cond.instanceMethod yJ0_length_8abf5, Cond.selects RJ0 yJ0_length_8abf5 yJ0_length_8abf5, Cond.initialized RJ0, Cond.code yJ0_length_8abf5 cJ0_length_8abf5 1 (some .int), Cond.fieldLink RJ0 9 "java/lang/String" "value" "[B"]
def wsX8_tokenAt_r2 : List Cond := [Cond.methodLink RJ0 335 yJ0_coder_7d493, Cond.instanceMethod yJ0_coder_7d493, Cond.selects RJ0 yJ0_coder_7d493 yJ0_coder_7d493, Cond.code yJ0_coder_7d493 cJ0_coder_7d493 1 (some .byte), Cond.fieldLink RJ0 38 "java/lang/String" "COMPACT_STRINGS" "Z", Cond.fieldLink RJ0 15 "java/lang/String" "coder" "B", Cond.methodLink RX8 68 yJ0_charAt_5068e, Cond.instanceMethod yJ0_charAt_5068e, Cond.selects RJ0 yJ0_charAt_5068e yJ0_charAt_5068e, Cond.code yJ0_charAt_5068e cJ0_charAt_5068e 2 (some .char), Cond.methodLink RJ0 492 yJ0_isLatin1_aae02, Cond.instanceMethod yJ0_isLatin1_aae02, Cond.selects RJ0 yJ0_isLatin1_aae02 yJ0_isLatin1_aae02, Cond.code yJ0_isLatin1_aae02 cJ0_isLatin1_aae02 1 (some .boolean), Cond.methodLink RJ0 495 yJ1_charAt_3b067, Cond.static yJ1_charAt_3b067, Cond.initialized RJ1, Cond.code yJ1_charAt_3b067 cJ1_charAt_3b067 2 (some .char), Cond.methodLink RJ1 9 yJ0_checkIndex_df160, Cond.static yJ0_checkIndex_df160, Cond.code yJ0_checkIndex_df160 cJ0_checkIndex_df160 2 none, Cond.fieldLink RJ0 1053 "jdk/internal/util/Preconditions" "SIOOBE_FORMATTER" "Ljava/util/function/BiFunction;", Cond.methodLink RJ0 1059 yJ3_checkIndex_8e157, Cond.static yJ3_checkIndex_8e157]
def wsX8_tokenAt_r3 : List Cond := [Cond.initialized RJ3, Cond.code yJ3_checkIndex_8e157 cJ3_checkIndex_8e157 3 (some .int), Cond.methodLink RJ0 498 yJ2_charAt_3b067, Cond.static yJ2_charAt_3b067, Cond.initialized RJ2, Cond.code yJ2_charAt_3b067 cJ2_charAt_3b067 2 (some .char), Cond.methodLink RJ2 67 yJ2_checkIndex_2214a, Cond.static yJ2_checkIndex_2214a, Cond.code yJ2_checkIndex_2214a cJ2_checkIndex_2214a 2 none, Cond.methodLink RJ2 48 yJ2_length_9d52b, Cond.static yJ2_length_9d52b, Cond.code yJ2_length_9d52b cJ2_length_9d52b 1 (some .int), Cond.methodLink RJ2 414 yJ0_checkIndex_df160, Cond.methodLink RJ2 71 yJ2_getChar_3b067, Cond.static yJ2_getChar_3b067, Cond.code yJ2_getChar_3b067 cJ2_getChar_3b067 2 (some .char), Cond.fieldLink RJ2 44 "java/lang/StringUTF16" "$assertionsDisabled" "Z", Cond.fieldLink RJ2 59 "java/lang/StringUTF16" "HI_BYTE_SHIFT" "I", Cond.fieldLink RJ2 63 "java/lang/StringUTF16" "LO_BYTE_SHIFT" "I", Cond.methodLink RX8 51 yX8_numberOf, Cond.static yX8_numberOf, Cond.code yX8_numberOf cX8_numberOf 5 (some .int)]
def wsX8_tokenAt : List Cond := .code yX8_tokenAt cX8_tokenAt 4 (some .int) :: ((wsX8_tokenAt_r1 ++ (wsX8_tokenAt_r2 ++ wsX8_tokenAt_r3)) ++ wsX60)
def wsX8_append : List Cond := .code yX8_append cX8_append 3 none :: ([.fieldLink RX8 18 "MarkPages$Tokens" "count" "I", .fieldLink RX8 9 "MarkPages$Tokens" "kinds" "[I", .fieldLink RX8 15 "MarkPages$Tokens" "places" "[I"] ++ wsX80)
def wsX8_scan_r1 : List Cond := [Cond.fieldLink RX8 18 "MarkPages$Tokens" "count" "I", Cond.fieldLink RX8 22 "MarkPages$Tape" "count" "I", Cond.methodLink RX8 25 yX8_startsToken, Cond.static yX8_startsToken, Cond.initialized RX8, Cond.code yX8_startsToken cX8_startsToken 5 (some .boolean), Cond.fieldLink RX8 37 "MarkPages$Tape" "bytes" "[I", Cond.methodLink RX8 40 yX8_familyOf, Cond.static yX8_familyOf, Cond.code yX8_familyOf cX8_familyOf 1 (some .int), Cond.methodLink RX8 29 yX8_tokenAt, Cond.static yX8_tokenAt, Cond.code yX8_tokenAt cX8_tokenAt 4 (some .int), Cond.methodLink RX8 44 yX8_signOf, Cond.static yX8_signOf, Cond.code yX8_signOf cX8_signOf 1 (some .int), Cond.methodLink RX8 47 yX8_keywordOf, Cond.static yX8_keywordOf, Cond.code yX8_keywordOf cX8_keywordOf 4 (some .int), Cond.methodLink RX8 54 yX8_spelling, Cond.static yX8_spelling, Cond.code yX8_spelling cX8_spelling 1 (some (.object "java/lang/String")), Cond.methodLink RX8 58 yX8_spells, Cond.static yX8_spells]
def wsX8_scan_r2 : List Cond := [Cond.code yX8_spells cX8_spells 5 (some .boolean), Cond.methodLink RX8 62 yJ0_length_8abf5, Cond.instanceMethod yJ0_length_8abf5, Cond.selects RJ0 yJ0_length_8abf5 yJ0_length_8abf5, Cond.initialized RJ0, Cond.code yJ0_length_8abf5 cJ0_length_8abf5 1 (some .int), Cond.fieldLink RJ0 9 "java/lang/String" "value" "[B", Cond.methodLink RJ0 335 yJ0_coder_7d493, Cond.instanceMethod yJ0_coder_7d493, Cond.selects RJ0 yJ0_coder_7d493 yJ0_coder_7d493, Cond.code yJ0_coder_7d493 cJ0_coder_7d493 1 (some .byte), Cond.fieldLink RJ0 38 "java/lang/String" "COMPACT_STRINGS" "Z", Cond.fieldLink RJ0 15 "java/lang/String" "coder" "B", Cond.methodLink RX8 68 yJ0_charAt_5068e, Cond.instanceMethod yJ0_charAt_5068e, Cond.selects RJ0 yJ0_charAt_5068e yJ0_charAt_5068e, Cond.code yJ0_charAt_5068e cJ0_charAt_5068e 2 (some .char), Cond.methodLink RJ0 492 yJ0_isLatin1_aae02, Cond.instanceMethod yJ0_isLatin1_aae02, Cond.selects RJ0 yJ0_isLatin1_aae02 yJ0_isLatin1_aae02, Cond.code yJ0_isLatin1_aae02 cJ0_isLatin1_aae02 1 (some .boolean), Cond.methodLink RJ0 495 yJ1_charAt_3b067, Cond.static yJ1_charAt_3b067, Cond.initialized RJ1]
def wsX8_scan_r3 : List Cond := [Cond.code yJ1_charAt_3b067 cJ1_charAt_3b067 2 (some .char), Cond.methodLink RJ1 9 yJ0_checkIndex_df160, Cond.static yJ0_checkIndex_df160, Cond.code yJ0_checkIndex_df160 cJ0_checkIndex_df160 2 none, Cond.fieldLink RJ0 1053 "jdk/internal/util/Preconditions" "SIOOBE_FORMATTER" "Ljava/util/function/BiFunction;", Cond.methodLink RJ0 1059 yJ3_checkIndex_8e157, Cond.static yJ3_checkIndex_8e157, Cond.initialized RJ3, Cond.code yJ3_checkIndex_8e157 cJ3_checkIndex_8e157 3 (some .int), Cond.methodLink RJ0 498 yJ2_charAt_3b067, Cond.static yJ2_charAt_3b067, Cond.initialized RJ2, Cond.code yJ2_charAt_3b067 cJ2_charAt_3b067 2 (some .char), Cond.methodLink RJ2 67 yJ2_checkIndex_2214a, Cond.static yJ2_checkIndex_2214a, Cond.code yJ2_checkIndex_2214a cJ2_checkIndex_2214a 2 none, Cond.methodLink RJ2 48 yJ2_length_9d52b, Cond.static yJ2_length_9d52b, Cond.code yJ2_length_9d52b cJ2_length_9d52b 1 (some .int), Cond.methodLink RJ2 414 yJ0_checkIndex_df160, Cond.methodLink RJ2 71 yJ2_getChar_3b067, Cond.static yJ2_getChar_3b067, Cond.code yJ2_getChar_3b067 cJ2_getChar_3b067 2 (some .char), Cond.fieldLink RJ2 44 "java/lang/StringUTF16" "$assertionsDisabled" "Z"]
def wsX8_scan_r4 : List Cond := [Cond.fieldLink RJ2 59 "java/lang/StringUTF16" "HI_BYTE_SHIFT" "I", Cond.fieldLink RJ2 63 "java/lang/StringUTF16" "LO_BYTE_SHIFT" "I", Cond.methodLink RX8 51 yX8_numberOf, Cond.static yX8_numberOf, Cond.code yX8_numberOf cX8_numberOf 5 (some .int), Cond.methodLink RX8 33 yX8_append, Cond.instanceMethod yX8_append, Cond.selects RX8 yX8_append yX8_append, Cond.code yX8_append cX8_append 3 none, Cond.fieldLink RX8 9 "MarkPages$Tokens" "kinds" "[I", Cond.fieldLink RX8 15 "MarkPages$Tokens" "places" "[I"]
def wsX8_scan : List Cond := .code yX8_scan cX8_scan 3 none :: ((wsX8_scan_r1 ++ (wsX8_scan_r2 ++ (wsX8_scan_r3 ++ wsX8_scan_r4))) ++ wsX80 ++ wsX60)
def wsX5_begin_r1 : List Cond := [Cond.fieldLink RX5 12 "MarkPages$RuleReader" "tokens" "LMarkPages$Tokens;", Cond.fieldLink RX5 21 "MarkPages$RuleReader" "draft" "LMarkPages$RuleBook;", Cond.fieldLink RX5 42 "MarkPages$RuleReader" "at" "I", Cond.fieldLink RX5 45 "MarkPages$Tokens" "kinds" "[I", Cond.fieldLink RX5 25 "MarkPages$RuleReader" "now" "I", Cond.fieldLink RX5 29 "MarkPages$RuleReader" "faultKind" "I", Cond.fieldLink RX5 32 "MarkPages$RuleReader" "faultPlace" "I", Cond.methodLink RX5 35 yX8_scan, Cond.instanceMethod yX8_scan, Cond.selects RX8 yX8_scan yX8_scan, Cond.initialized RX8, Cond.code yX8_scan cX8_scan 3 none, Cond.fieldLink RX8 18 "MarkPages$Tokens" "count" "I", Cond.fieldLink RX8 22 "MarkPages$Tape" "count" "I", Cond.methodLink RX8 25 yX8_startsToken, Cond.static yX8_startsToken, Cond.code yX8_startsToken cX8_startsToken 5 (some .boolean), Cond.fieldLink RX8 37 "MarkPages$Tape" "bytes" "[I", Cond.methodLink RX8 40 yX8_familyOf, Cond.static yX8_familyOf, Cond.code yX8_familyOf cX8_familyOf 1 (some .int), Cond.methodLink RX8 29 yX8_tokenAt, Cond.static yX8_tokenAt, Cond.code yX8_tokenAt cX8_tokenAt 4 (some .int)]
def wsX5_begin_r2 : List Cond := [Cond.methodLink RX8 44 yX8_signOf, Cond.static yX8_signOf, Cond.code yX8_signOf cX8_signOf 1 (some .int), Cond.methodLink RX8 47 yX8_keywordOf, Cond.static yX8_keywordOf, Cond.code yX8_keywordOf cX8_keywordOf 4 (some .int), Cond.methodLink RX8 54 yX8_spelling, Cond.static yX8_spelling, Cond.code yX8_spelling cX8_spelling 1 (some (.object "java/lang/String")), Cond.methodLink RX8 58 yX8_spells, Cond.static yX8_spells, Cond.code yX8_spells cX8_spells 5 (some .boolean), Cond.methodLink RX8 62 yJ0_length_8abf5, Cond.instanceMethod yJ0_length_8abf5, Cond.selects RJ0 yJ0_length_8abf5 yJ0_length_8abf5, Cond.initialized RJ0, Cond.code yJ0_length_8abf5 cJ0_length_8abf5 1 (some .int), Cond.fieldLink RJ0 9 "java/lang/String" "value" "[B", Cond.methodLink RJ0 335 yJ0_coder_7d493, Cond.instanceMethod yJ0_coder_7d493, Cond.selects RJ0 yJ0_coder_7d493 yJ0_coder_7d493, Cond.code yJ0_coder_7d493 cJ0_coder_7d493 1 (some .byte), Cond.fieldLink RJ0 38 "java/lang/String" "COMPACT_STRINGS" "Z", Cond.fieldLink RJ0 15 "java/lang/String" "coder" "B"]
def wsX5_begin_r3 : List Cond := [Cond.methodLink RX8 68 yJ0_charAt_5068e, Cond.instanceMethod yJ0_charAt_5068e, Cond.selects RJ0 yJ0_charAt_5068e yJ0_charAt_5068e, Cond.code yJ0_charAt_5068e cJ0_charAt_5068e 2 (some .char), Cond.methodLink RJ0 492 yJ0_isLatin1_aae02, Cond.instanceMethod yJ0_isLatin1_aae02, Cond.selects RJ0 yJ0_isLatin1_aae02 yJ0_isLatin1_aae02, Cond.code yJ0_isLatin1_aae02 cJ0_isLatin1_aae02 1 (some .boolean), Cond.methodLink RJ0 495 yJ1_charAt_3b067, Cond.static yJ1_charAt_3b067, Cond.initialized RJ1, Cond.code yJ1_charAt_3b067 cJ1_charAt_3b067 2 (some .char), Cond.methodLink RJ1 9 yJ0_checkIndex_df160, Cond.static yJ0_checkIndex_df160, Cond.code yJ0_checkIndex_df160 cJ0_checkIndex_df160 2 none, Cond.fieldLink RJ0 1053 "jdk/internal/util/Preconditions" "SIOOBE_FORMATTER" "Ljava/util/function/BiFunction;", Cond.methodLink RJ0 1059 yJ3_checkIndex_8e157, Cond.static yJ3_checkIndex_8e157, Cond.initialized RJ3, Cond.code yJ3_checkIndex_8e157 cJ3_checkIndex_8e157 3 (some .int), Cond.methodLink RJ0 498 yJ2_charAt_3b067, Cond.static yJ2_charAt_3b067, Cond.initialized RJ2, Cond.code yJ2_charAt_3b067 cJ2_charAt_3b067 2 (some .char)]
def wsX5_begin_r4 : List Cond := [Cond.methodLink RJ2 67 yJ2_checkIndex_2214a, Cond.static yJ2_checkIndex_2214a, Cond.code yJ2_checkIndex_2214a cJ2_checkIndex_2214a 2 none, Cond.methodLink RJ2 48 yJ2_length_9d52b, Cond.static yJ2_length_9d52b, Cond.code yJ2_length_9d52b cJ2_length_9d52b 1 (some .int), Cond.methodLink RJ2 414 yJ0_checkIndex_df160, Cond.methodLink RJ2 71 yJ2_getChar_3b067, Cond.static yJ2_getChar_3b067, Cond.code yJ2_getChar_3b067 cJ2_getChar_3b067 2 (some .char), Cond.fieldLink RJ2 44 "java/lang/StringUTF16" "$assertionsDisabled" "Z", Cond.fieldLink RJ2 59 "java/lang/StringUTF16" "HI_BYTE_SHIFT" "I", Cond.fieldLink RJ2 63 "java/lang/StringUTF16" "LO_BYTE_SHIFT" "I", Cond.methodLink RX8 51 yX8_numberOf, Cond.static yX8_numberOf, Cond.code yX8_numberOf cX8_numberOf 5 (some .int), Cond.methodLink RX8 33 yX8_append, Cond.instanceMethod yX8_append, Cond.selects RX8 yX8_append yX8_append, Cond.code yX8_append cX8_append 3 none, Cond.fieldLink RX8 9 "MarkPages$Tokens" "kinds" "[I", Cond.fieldLink RX8 15 "MarkPages$Tokens" "places" "[I", Cond.methodLink RX5 39 yX4_clear, Cond.instanceMethod yX4_clear]
def wsX5_begin_r5 : List Cond := [Cond.selects RX4 yX4_clear yX4_clear, Cond.initialized RX4, Cond.code yX4_clear cX4_clear 1 none, Cond.fieldLink RX4 24 "MarkPages$RuleBook" "count" "I", Cond.fieldLink RX4 28 "MarkPages$RuleBook" "used" "I"]
def wsX5_begin : List Cond := .code yX5_begin cX5_begin 2 none :: ((wsX5_begin_r1 ++ (wsX5_begin_r2 ++ (wsX5_begin_r3 ++ (wsX5_begin_r4 ++ wsX5_begin_r5)))) ++ wsX50 ++ wsX80 ++ wsX60 ++ wsX40)
def wsX5_refuse : List Cond := .code yX5_refuse cX5_refuse 2 (some .boolean) :: ([.fieldLink RX5 29 "MarkPages$RuleReader" "faultKind" "I", .fieldLink RX5 12 "MarkPages$RuleReader" "tokens" "LMarkPages$Tokens;", .fieldLink RX5 94 "MarkPages$Tokens" "places" "[I", .fieldLink RX5 42 "MarkPages$RuleReader" "at" "I", .fieldLink RX5 32 "MarkPages$RuleReader" "faultPlace" "I"] ++ wsX50 ++ wsX80)
def wsX5_advance : List Cond := .code yX5_advance cX5_advance 1 none :: ([.fieldLink RX5 42 "MarkPages$RuleReader" "at" "I", .fieldLink RX5 12 "MarkPages$RuleReader" "tokens" "LMarkPages$Tokens;", .fieldLink RX5 76 "MarkPages$Tokens" "count" "I", .fieldLink RX5 45 "MarkPages$Tokens" "kinds" "[I", .fieldLink RX5 25 "MarkPages$RuleReader" "now" "I"] ++ wsX50 ++ wsX80)
def wsX5_readNumber : List Cond := .code yX5_readNumber cX5_readNumber 3 (some .int) :: ([.fieldLink RX5 25 "MarkPages$RuleReader" "now" "I", .methodLink RX5 49 yX5_refuse, .instanceMethod yX5_refuse, .selects RX5 yX5_refuse yX5_refuse, .initialized RX5, .code yX5_refuse cX5_refuse 2 (some .boolean), .fieldLink RX5 29 "MarkPages$RuleReader" "faultKind" "I", .fieldLink RX5 12 "MarkPages$RuleReader" "tokens" "LMarkPages$Tokens;", .fieldLink RX5 94 "MarkPages$Tokens" "places" "[I", .fieldLink RX5 42 "MarkPages$RuleReader" "at" "I", .fieldLink RX5 32 "MarkPages$RuleReader" "faultPlace" "I", .methodLink RX5 56 yX5_advance, .instanceMethod yX5_advance, .selects RX5 yX5_advance yX5_advance, .code yX5_advance cX5_advance 1 none, .fieldLink RX5 76 "MarkPages$Tokens" "count" "I", .fieldLink RX5 45 "MarkPages$Tokens" "kinds" "[I"] ++ wsX50 ++ wsX80)
def wsX5_expect : List Cond := .code yX5_expect cX5_expect 2 (some .boolean) :: ([.fieldLink RX5 25 "MarkPages$RuleReader" "now" "I", .methodLink RX5 49 yX5_refuse, .instanceMethod yX5_refuse, .selects RX5 yX5_refuse yX5_refuse, .initialized RX5, .code yX5_refuse cX5_refuse 2 (some .boolean), .fieldLink RX5 29 "MarkPages$RuleReader" "faultKind" "I", .fieldLink RX5 12 "MarkPages$RuleReader" "tokens" "LMarkPages$Tokens;", .fieldLink RX5 94 "MarkPages$Tokens" "places" "[I", .fieldLink RX5 42 "MarkPages$RuleReader" "at" "I", .fieldLink RX5 32 "MarkPages$RuleReader" "faultPlace" "I", .methodLink RX5 56 yX5_advance, .instanceMethod yX5_advance, .selects RX5 yX5_advance yX5_advance, .code yX5_advance cX5_advance 1 none, .fieldLink RX5 76 "MarkPages$Tokens" "count" "I", .fieldLink RX5 45 "MarkPages$Tokens" "kinds" "[I"] ++ wsX50 ++ wsX80)
def wsX5_isValue : List Cond := .code yX5_isValue cX5_isValue 1 (some .boolean) :: ([])
def wsX5_readSum_r1 : List Cond := [Cond.fieldLink RX5 12 "MarkPages$RuleReader" "tokens" "LMarkPages$Tokens;", Cond.fieldLink RX5 76 "MarkPages$Tokens" "count" "I", Cond.fieldLink RX5 25 "MarkPages$RuleReader" "now" "I", Cond.fieldLink RX5 21 "MarkPages$RuleReader" "draft" "LMarkPages$RuleBook;", Cond.methodLink RX5 91 yX5_isValue, Cond.static yX5_isValue, Cond.initialized RX5, Cond.code yX5_isValue cX5_isValue 1 (some .boolean), Cond.methodLink RX5 49 yX5_refuse, Cond.instanceMethod yX5_refuse, Cond.selects RX5 yX5_refuse yX5_refuse, Cond.code yX5_refuse cX5_refuse 2 (some .boolean), Cond.fieldLink RX5 29 "MarkPages$RuleReader" "faultKind" "I", Cond.fieldLink RX5 94 "MarkPages$Tokens" "places" "[I", Cond.fieldLink RX5 42 "MarkPages$RuleReader" "at" "I", Cond.fieldLink RX5 32 "MarkPages$RuleReader" "faultPlace" "I", Cond.methodLink RX5 77 yX4_append, Cond.instanceMethod yX4_append, Cond.selects RX4 yX4_append yX4_append, Cond.initialized RX4, Cond.code yX4_append cX4_append 2 none, Cond.fieldLink RX4 28 "MarkPages$RuleBook" "used" "I", Cond.fieldLink RX4 21 "MarkPages$RuleBook" "code" "[I", Cond.methodLink RX5 56 yX5_advance]
def wsX5_readSum_r2 : List Cond := [Cond.instanceMethod yX5_advance, Cond.selects RX5 yX5_advance yX5_advance, Cond.code yX5_advance cX5_advance 1 none, Cond.fieldLink RX5 45 "MarkPages$Tokens" "kinds" "[I"]
def wsX5_readSum : List Cond := .code yX5_readSum cX5_readSum 3 (some .boolean) :: ((wsX5_readSum_r1 ++ wsX5_readSum_r2) ++ wsX50 ++ wsX80 ++ wsX40)
def wsX5_readComparison_r1 : List Cond := [Cond.fieldLink RX5 25 "MarkPages$RuleReader" "now" "I", Cond.fieldLink RX5 21 "MarkPages$RuleReader" "draft" "LMarkPages$RuleBook;", Cond.methodLink RX5 88 yX5_readSum, Cond.instanceMethod yX5_readSum, Cond.selects RX5 yX5_readSum yX5_readSum, Cond.initialized RX5, Cond.code yX5_readSum cX5_readSum 3 (some .boolean), Cond.fieldLink RX5 12 "MarkPages$RuleReader" "tokens" "LMarkPages$Tokens;", Cond.fieldLink RX5 76 "MarkPages$Tokens" "count" "I", Cond.methodLink RX5 91 yX5_isValue, Cond.static yX5_isValue, Cond.code yX5_isValue cX5_isValue 1 (some .boolean), Cond.methodLink RX5 49 yX5_refuse, Cond.instanceMethod yX5_refuse, Cond.selects RX5 yX5_refuse yX5_refuse, Cond.code yX5_refuse cX5_refuse 2 (some .boolean), Cond.fieldLink RX5 29 "MarkPages$RuleReader" "faultKind" "I", Cond.fieldLink RX5 94 "MarkPages$Tokens" "places" "[I", Cond.fieldLink RX5 42 "MarkPages$RuleReader" "at" "I", Cond.fieldLink RX5 32 "MarkPages$RuleReader" "faultPlace" "I", Cond.methodLink RX5 77 yX4_append, Cond.instanceMethod yX4_append, Cond.selects RX4 yX4_append yX4_append, Cond.initialized RX4]
def wsX5_readComparison_r2 : List Cond := [Cond.code yX4_append cX4_append 2 none, Cond.fieldLink RX4 28 "MarkPages$RuleBook" "used" "I", Cond.fieldLink RX4 21 "MarkPages$RuleBook" "code" "[I", Cond.methodLink RX5 56 yX5_advance, Cond.instanceMethod yX5_advance, Cond.selects RX5 yX5_advance yX5_advance, Cond.code yX5_advance cX5_advance 1 none, Cond.fieldLink RX5 45 "MarkPages$Tokens" "kinds" "[I"]
def wsX5_readComparison : List Cond := .code yX5_readComparison cX5_readComparison 3 (some .boolean) :: ((wsX5_readComparison_r1 ++ wsX5_readComparison_r2) ++ wsX50 ++ wsX80 ++ wsX40)
def wsX5_readBoth_r1 : List Cond := [Cond.fieldLink RX5 12 "MarkPages$RuleReader" "tokens" "LMarkPages$Tokens;", Cond.fieldLink RX5 76 "MarkPages$Tokens" "count" "I", Cond.fieldLink RX5 25 "MarkPages$RuleReader" "now" "I", Cond.fieldLink RX5 21 "MarkPages$RuleReader" "draft" "LMarkPages$RuleBook;", Cond.methodLink RX5 81 yX5_readCondition, Cond.instanceMethod yX5_readCondition, Cond.selects RX5 yX5_readCondition yX5_readCondition, Cond.initialized RX5, Cond.methodLink RX5 56 yX5_advance, Cond.instanceMethod yX5_advance, Cond.selects RX5 yX5_advance yX5_advance, Cond.code yX5_advance cX5_advance 1 none, Cond.fieldLink RX5 42 "MarkPages$RuleReader" "at" "I", Cond.fieldLink RX5 45 "MarkPages$Tokens" "kinds" "[I", Cond.methodLink RX5 77 yX4_append, Cond.instanceMethod yX4_append, Cond.selects RX4 yX4_append yX4_append, Cond.initialized RX4, Cond.code yX4_append cX4_append 2 none, Cond.fieldLink RX4 28 "MarkPages$RuleBook" "used" "I", Cond.fieldLink RX4 21 "MarkPages$RuleBook" "code" "[I", Cond.code yX5_readCondition cX5_readCondition 4 (some .boolean), Cond.methodLink RX5 84 yX5_readComparison, Cond.instanceMethod yX5_readComparison]
def wsX5_readBoth_r2 : List Cond := [Cond.selects RX5 yX5_readComparison yX5_readComparison, Cond.code yX5_readComparison cX5_readComparison 3 (some .boolean), Cond.methodLink RX5 88 yX5_readSum, Cond.instanceMethod yX5_readSum, Cond.selects RX5 yX5_readSum yX5_readSum, Cond.code yX5_readSum cX5_readSum 3 (some .boolean), Cond.methodLink RX5 91 yX5_isValue, Cond.static yX5_isValue, Cond.code yX5_isValue cX5_isValue 1 (some .boolean), Cond.methodLink RX5 49 yX5_refuse, Cond.instanceMethod yX5_refuse, Cond.selects RX5 yX5_refuse yX5_refuse, Cond.code yX5_refuse cX5_refuse 2 (some .boolean), Cond.fieldLink RX5 29 "MarkPages$RuleReader" "faultKind" "I", Cond.fieldLink RX5 94 "MarkPages$Tokens" "places" "[I", Cond.fieldLink RX5 32 "MarkPages$RuleReader" "faultPlace" "I", Cond.methodLink RX5 66 yX5_readEither, Cond.instanceMethod yX5_readEither, Cond.selects RX5 yX5_readEither yX5_readEither, Cond.methodLink RX5 63 yX5_expect, Cond.instanceMethod yX5_expect, Cond.selects RX5 yX5_expect yX5_expect, Cond.code yX5_expect cX5_expect 2 (some .boolean), Cond.code yX5_readEither cX5_readEither 4 (some .boolean)]
def wsX5_readBoth_r3 : List Cond := [Cond.methodLink RX5 73 yX5_readBoth, Cond.instanceMethod yX5_readBoth, Cond.selects RX5 yX5_readBoth yX5_readBoth]
def wsX5_readBoth : List Cond := .code yX5_readBoth cX5_readBoth 4 (some .boolean) :: ((wsX5_readBoth_r1 ++ (wsX5_readBoth_r2 ++ wsX5_readBoth_r3)) ++ wsX50 ++ wsX80 ++ wsX40)
def wsX5_readCondition_r1 : List Cond := [Cond.fieldLink RX5 25 "MarkPages$RuleReader" "now" "I", Cond.fieldLink RX5 21 "MarkPages$RuleReader" "draft" "LMarkPages$RuleBook;", Cond.methodLink RX5 84 yX5_readComparison, Cond.instanceMethod yX5_readComparison, Cond.selects RX5 yX5_readComparison yX5_readComparison, Cond.initialized RX5, Cond.code yX5_readComparison cX5_readComparison 3 (some .boolean), Cond.methodLink RX5 88 yX5_readSum, Cond.instanceMethod yX5_readSum, Cond.selects RX5 yX5_readSum yX5_readSum, Cond.code yX5_readSum cX5_readSum 3 (some .boolean), Cond.fieldLink RX5 12 "MarkPages$RuleReader" "tokens" "LMarkPages$Tokens;", Cond.fieldLink RX5 76 "MarkPages$Tokens" "count" "I", Cond.methodLink RX5 91 yX5_isValue, Cond.static yX5_isValue, Cond.code yX5_isValue cX5_isValue 1 (some .boolean), Cond.methodLink RX5 49 yX5_refuse, Cond.instanceMethod yX5_refuse, Cond.selects RX5 yX5_refuse yX5_refuse, Cond.code yX5_refuse cX5_refuse 2 (some .boolean), Cond.fieldLink RX5 29 "MarkPages$RuleReader" "faultKind" "I", Cond.fieldLink RX5 94 "MarkPages$Tokens" "places" "[I", Cond.fieldLink RX5 42 "MarkPages$RuleReader" "at" "I", Cond.fieldLink RX5 32 "MarkPages$RuleReader" "faultPlace" "I"]
def wsX5_readCondition_r2 : List Cond := [Cond.methodLink RX5 77 yX4_append, Cond.instanceMethod yX4_append, Cond.selects RX4 yX4_append yX4_append, Cond.initialized RX4, Cond.code yX4_append cX4_append 2 none, Cond.fieldLink RX4 28 "MarkPages$RuleBook" "used" "I", Cond.fieldLink RX4 21 "MarkPages$RuleBook" "code" "[I", Cond.methodLink RX5 56 yX5_advance, Cond.instanceMethod yX5_advance, Cond.selects RX5 yX5_advance yX5_advance, Cond.code yX5_advance cX5_advance 1 none, Cond.fieldLink RX5 45 "MarkPages$Tokens" "kinds" "[I", Cond.methodLink RX5 66 yX5_readEither, Cond.instanceMethod yX5_readEither, Cond.selects RX5 yX5_readEither yX5_readEither, Cond.methodLink RX5 63 yX5_expect, Cond.instanceMethod yX5_expect, Cond.selects RX5 yX5_expect yX5_expect, Cond.code yX5_expect cX5_expect 2 (some .boolean), Cond.methodLink RX5 81 yX5_readCondition, Cond.instanceMethod yX5_readCondition, Cond.selects RX5 yX5_readCondition yX5_readCondition, Cond.code yX5_readBoth cX5_readBoth 4 (some .boolean), Cond.code yX5_readEither cX5_readEither 4 (some .boolean)]
def wsX5_readCondition_r3 : List Cond := [Cond.methodLink RX5 73 yX5_readBoth, Cond.instanceMethod yX5_readBoth, Cond.selects RX5 yX5_readBoth yX5_readBoth]
def wsX5_readCondition : List Cond := .code yX5_readCondition cX5_readCondition 4 (some .boolean) :: ((wsX5_readCondition_r1 ++ (wsX5_readCondition_r2 ++ wsX5_readCondition_r3)) ++ wsX50 ++ wsX80 ++ wsX40)
def wsX5_readEither_r1 : List Cond := [Cond.fieldLink RX5 12 "MarkPages$RuleReader" "tokens" "LMarkPages$Tokens;", Cond.fieldLink RX5 76 "MarkPages$Tokens" "count" "I", Cond.fieldLink RX5 25 "MarkPages$RuleReader" "now" "I", Cond.fieldLink RX5 21 "MarkPages$RuleReader" "draft" "LMarkPages$RuleBook;", Cond.methodLink RX5 73 yX5_readBoth, Cond.instanceMethod yX5_readBoth, Cond.selects RX5 yX5_readBoth yX5_readBoth, Cond.initialized RX5, Cond.methodLink RX5 56 yX5_advance, Cond.instanceMethod yX5_advance, Cond.selects RX5 yX5_advance yX5_advance, Cond.code yX5_advance cX5_advance 1 none, Cond.fieldLink RX5 42 "MarkPages$RuleReader" "at" "I", Cond.fieldLink RX5 45 "MarkPages$Tokens" "kinds" "[I", Cond.methodLink RX5 77 yX4_append, Cond.instanceMethod yX4_append, Cond.selects RX4 yX4_append yX4_append, Cond.initialized RX4, Cond.code yX4_append cX4_append 2 none, Cond.fieldLink RX4 28 "MarkPages$RuleBook" "used" "I", Cond.fieldLink RX4 21 "MarkPages$RuleBook" "code" "[I", Cond.code yX5_readBoth cX5_readBoth 4 (some .boolean), Cond.methodLink RX5 81 yX5_readCondition, Cond.instanceMethod yX5_readCondition]
def wsX5_readEither_r2 : List Cond := [Cond.selects RX5 yX5_readCondition yX5_readCondition, Cond.code yX5_readCondition cX5_readCondition 4 (some .boolean), Cond.methodLink RX5 84 yX5_readComparison, Cond.instanceMethod yX5_readComparison, Cond.selects RX5 yX5_readComparison yX5_readComparison, Cond.code yX5_readComparison cX5_readComparison 3 (some .boolean), Cond.methodLink RX5 88 yX5_readSum, Cond.instanceMethod yX5_readSum, Cond.selects RX5 yX5_readSum yX5_readSum, Cond.code yX5_readSum cX5_readSum 3 (some .boolean), Cond.methodLink RX5 91 yX5_isValue, Cond.static yX5_isValue, Cond.code yX5_isValue cX5_isValue 1 (some .boolean), Cond.methodLink RX5 49 yX5_refuse, Cond.instanceMethod yX5_refuse, Cond.selects RX5 yX5_refuse yX5_refuse, Cond.code yX5_refuse cX5_refuse 2 (some .boolean), Cond.fieldLink RX5 29 "MarkPages$RuleReader" "faultKind" "I", Cond.fieldLink RX5 94 "MarkPages$Tokens" "places" "[I", Cond.fieldLink RX5 32 "MarkPages$RuleReader" "faultPlace" "I", Cond.methodLink RX5 66 yX5_readEither, Cond.instanceMethod yX5_readEither, Cond.selects RX5 yX5_readEither yX5_readEither, Cond.methodLink RX5 63 yX5_expect]
def wsX5_readEither_r3 : List Cond := [Cond.instanceMethod yX5_expect, Cond.selects RX5 yX5_expect yX5_expect, Cond.code yX5_expect cX5_expect 2 (some .boolean)]
def wsX5_readEither : List Cond := .code yX5_readEither cX5_readEither 4 (some .boolean) :: ((wsX5_readEither_r1 ++ (wsX5_readEither_r2 ++ wsX5_readEither_r3)) ++ wsX50 ++ wsX80 ++ wsX40)
def wsX5_readRule_r1 : List Cond := [Cond.fieldLink RX5 25 "MarkPages$RuleReader" "now" "I", Cond.fieldLink RX5 21 "MarkPages$RuleReader" "draft" "LMarkPages$RuleBook;", Cond.fieldLink RX5 53 "MarkPages$RuleBook" "count" "I", Cond.methodLink RX5 49 yX5_refuse, Cond.instanceMethod yX5_refuse, Cond.selects RX5 yX5_refuse yX5_refuse, Cond.initialized RX5, Cond.code yX5_refuse cX5_refuse 2 (some .boolean), Cond.fieldLink RX5 29 "MarkPages$RuleReader" "faultKind" "I", Cond.fieldLink RX5 12 "MarkPages$RuleReader" "tokens" "LMarkPages$Tokens;", Cond.fieldLink RX5 94 "MarkPages$Tokens" "places" "[I", Cond.fieldLink RX5 42 "MarkPages$RuleReader" "at" "I", Cond.fieldLink RX5 32 "MarkPages$RuleReader" "faultPlace" "I", Cond.methodLink RX5 56 yX5_advance, Cond.instanceMethod yX5_advance, Cond.selects RX5 yX5_advance yX5_advance, Cond.code yX5_advance cX5_advance 1 none, Cond.fieldLink RX5 76 "MarkPages$Tokens" "count" "I", Cond.fieldLink RX5 45 "MarkPages$Tokens" "kinds" "[I", Cond.methodLink RX5 59 yX5_readNumber, Cond.instanceMethod yX5_readNumber, Cond.selects RX5 yX5_readNumber yX5_readNumber, Cond.code yX5_readNumber cX5_readNumber 3 (some .int), Cond.methodLink RX5 63 yX5_expect]
def wsX5_readRule_r2 : List Cond := [Cond.instanceMethod yX5_expect, Cond.selects RX5 yX5_expect yX5_expect, Cond.code yX5_expect cX5_expect 2 (some .boolean), Cond.methodLink RX5 66 yX5_readEither, Cond.instanceMethod yX5_readEither, Cond.selects RX5 yX5_readEither yX5_readEither, Cond.code yX5_readEither cX5_readEither 4 (some .boolean), Cond.methodLink RX5 73 yX5_readBoth, Cond.instanceMethod yX5_readBoth, Cond.selects RX5 yX5_readBoth yX5_readBoth, Cond.methodLink RX5 77 yX4_append, Cond.instanceMethod yX4_append, Cond.selects RX4 yX4_append yX4_append, Cond.initialized RX4, Cond.code yX4_append cX4_append 2 none, Cond.fieldLink RX4 28 "MarkPages$RuleBook" "used" "I", Cond.fieldLink RX4 21 "MarkPages$RuleBook" "code" "[I", Cond.code yX5_readBoth cX5_readBoth 4 (some .boolean), Cond.methodLink RX5 81 yX5_readCondition, Cond.instanceMethod yX5_readCondition, Cond.selects RX5 yX5_readCondition yX5_readCondition, Cond.code yX5_readCondition cX5_readCondition 4 (some .boolean), Cond.methodLink RX5 84 yX5_readComparison, Cond.instanceMethod yX5_readComparison]
def wsX5_readRule_r3 : List Cond := [Cond.selects RX5 yX5_readComparison yX5_readComparison, Cond.code yX5_readComparison cX5_readComparison 3 (some .boolean), Cond.methodLink RX5 88 yX5_readSum, Cond.instanceMethod yX5_readSum, Cond.selects RX5 yX5_readSum yX5_readSum, Cond.code yX5_readSum cX5_readSum 3 (some .boolean), Cond.methodLink RX5 91 yX5_isValue, Cond.static yX5_isValue, Cond.code yX5_isValue cX5_isValue 1 (some .boolean), Cond.methodLink RX5 69 yX4_closeRule, Cond.instanceMethod yX4_closeRule, Cond.selects RX4 yX4_closeRule yX4_closeRule, Cond.code yX4_closeRule cX4_closeRule 3 none, Cond.fieldLink RX4 24 "MarkPages$RuleBook" "count" "I", Cond.fieldLink RX4 9 "MarkPages$RuleBook" "sayings" "[I", Cond.fieldLink RX4 15 "MarkPages$RuleBook" "skills" "[I", Cond.fieldLink RX4 18 "MarkPages$RuleBook" "starts" "[I"]
def wsX5_readRule : List Cond := .code yX5_readRule cX5_readRule 3 (some .boolean) :: ((wsX5_readRule_r1 ++ (wsX5_readRule_r2 ++ wsX5_readRule_r3)) ++ wsX50 ++ wsX40 ++ wsX80)
def wsX6_init : List Cond := .code yX6_init cX6_init 1 none :: ([.methodLink RX6 3 objectInit, .instanceMethod objectInit, .code objectInit ⟨#[0xb1]⟩ 1 none, .arrayClass .int, .fieldLink RX6 9 "MarkPages$Tape" "bytes" "[I"] ++ wsX60)
def wsX6_take : List Cond := .code yX6_take cX6_take 3 none :: ([.fieldLink RX6 15 "MarkPages$Tape" "count" "I", .fieldLink RX6 9 "MarkPages$Tape" "bytes" "[I"] ++ wsX60)
def wsX7_init : List Cond := .code yX7_init cX7_init 3 none :: ([.methodLink RX7 1 objectInit, .instanceMethod objectInit, .code objectInit ⟨#[0xb1]⟩ 1 none, .fieldLink RX7 7 "MarkPages$Texts" "width" "I", .arrayClass .int, .fieldLink RX7 13 "MarkPages$Texts" "lengths" "[I", .fieldLink RX7 17 "MarkPages$Texts" "bytes" "[I"] ++ wsX70)
def wsX7_keep : List Cond := .code yX7_keep cX7_keep 3 (some .boolean) :: ([.fieldLink RX7 13 "MarkPages$Texts" "lengths" "[I", .fieldLink RX7 20 "MarkPages$Tape" "count" "I", .fieldLink RX7 7 "MarkPages$Texts" "width" "I", .fieldLink RX7 25 "MarkPages$Tape" "bytes" "[I", .fieldLink RX7 17 "MarkPages$Texts" "bytes" "[I", .methodLink RX7 26 arraycopyName, .native arraycopyName, .static arraycopyName, .initialized "java/lang/System"] ++ wsX70 ++ wsX60)
def wsX7_byteAt : List Cond := .code yX7_byteAt cX7_byteAt 3 (some .int) :: ([.fieldLink RX7 17 "MarkPages$Texts" "bytes" "[I", .fieldLink RX7 7 "MarkPages$Texts" "width" "I"] ++ wsX70)
def wsX9_init_r1 : List Cond := [Cond.methodLink RX9 3 objectInit, Cond.instanceMethod objectInit, Cond.code objectInit ⟨#[0xb1]⟩ 1 none, Cond.classLink RX9 9 RX3, Cond.instantiable RX3 6, Cond.initialized RX3, Cond.fieldLink RX9 12 "MarkPages" "papers" "LMarkPages$Papers;", Cond.classLink RX9 16 RX6, Cond.instantiable RX6 2, Cond.initialized RX6, Cond.fieldLink RX9 19 "MarkPages" "tape" "LMarkPages$Tape;", Cond.classLink RX9 23 RX5, Cond.instantiable RX5 6, Cond.initialized RX5, Cond.fieldLink RX9 26 "MarkPages" "reader" "LMarkPages$RuleReader;", Cond.classLink RX9 30 RX0, Cond.instantiable RX0 2, Cond.initialized RX0, Cond.fieldLink RX9 33 "MarkPages" "judge" "LMarkPages$Judge;", Cond.classLink RX9 37 RX7, Cond.instantiable RX7 3, Cond.initialized RX7, Cond.fieldLink RX9 42 "MarkPages" "phrases" "LMarkPages$Texts;", Cond.fieldLink RX9 46 "MarkPages" "names" "LMarkPages$Texts;"]
def wsX9_init_r2 : List Cond := [Cond.classLink RX9 49 RX2, Cond.fieldLink RX9 51 "MarkPages" "pages" "[LMarkPages$Page;", Cond.classLink RX9 55 "[[I", Cond.arrayClass .int, Cond.fieldLink RX9 57 "MarkPages" "measures" "[[I", Cond.fieldLink RX9 60 "MarkPages" "trial" "[I", Cond.classLink RX9 64 RX1, Cond.instantiable RX1 2, Cond.initialized RX1, Cond.fieldLink RX9 67 "MarkPages" "written" "LMarkPages$Out;", Cond.classLink RX9 71 RX4, Cond.instantiable RX4 6, Cond.initialized RX4, Cond.fieldLink RX9 74 "MarkPages" "book" "LMarkPages$RuleBook;", Cond.instantiable RX2 4, Cond.initialized RX2, Cond.methodLink RX9 11 yX3_init, Cond.instanceMethod yX3_init, Cond.code yX3_init cX3_init 1 none, Cond.methodLink RX3 3 objectInit, Cond.fieldLink RX3 9 "MarkPages$Papers" "mosts" "[I", Cond.fieldLink RX3 15 "MarkPages$Papers" "skillSets" "[I", Cond.fieldLink RX3 18 "MarkPages$Papers" "points" "[I", Cond.fieldLink RX3 21 "MarkPages$Papers" "medians" "[I"]
def wsX9_init_r3 : List Cond := [Cond.fieldLink RX3 24 "MarkPages$Papers" "rising" "[I", Cond.methodLink RX3 27 yJ7_fill_53178, Cond.static yJ7_fill_53178, Cond.initialized RJ7, Cond.code yJ7_fill_53178 cJ7_fill_53178 4 none, Cond.instanceMethod yX6_init, Cond.code yX6_init cX6_init 1 none, Cond.methodLink RX6 3 objectInit, Cond.fieldLink RX6 9 "MarkPages$Tape" "bytes" "[I", Cond.instanceMethod yX5_init, Cond.code yX5_init cX5_init 1 none, Cond.methodLink RX5 3 objectInit, Cond.classLink RX5 9 RX8, Cond.instantiable RX8 3, Cond.initialized RX8, Cond.fieldLink RX5 12 "MarkPages$RuleReader" "tokens" "LMarkPages$Tokens;", Cond.classLink RX5 18 RX4, Cond.fieldLink RX5 21 "MarkPages$RuleReader" "draft" "LMarkPages$RuleBook;", Cond.fieldLink RX5 25 "MarkPages$RuleReader" "now" "I", Cond.fieldLink RX5 29 "MarkPages$RuleReader" "faultKind" "I", Cond.fieldLink RX5 32 "MarkPages$RuleReader" "faultPlace" "I", Cond.instanceMethod yX8_init, Cond.code yX8_init cX8_init 1 none, Cond.methodLink RX8 3 objectInit]
def wsX9_init_r4 : List Cond := [Cond.fieldLink RX8 9 "MarkPages$Tokens" "kinds" "[I", Cond.fieldLink RX8 15 "MarkPages$Tokens" "places" "[I", Cond.instanceMethod yX4_init, Cond.code yX4_init cX4_init 1 none, Cond.methodLink RX4 3 objectInit, Cond.fieldLink RX4 9 "MarkPages$RuleBook" "sayings" "[I", Cond.fieldLink RX4 15 "MarkPages$RuleBook" "skills" "[I", Cond.fieldLink RX4 18 "MarkPages$RuleBook" "starts" "[I", Cond.fieldLink RX4 21 "MarkPages$RuleBook" "code" "[I", Cond.instanceMethod yX0_init, Cond.code yX0_init cX0_init 1 none, Cond.methodLink RX0 3 objectInit, Cond.fieldLink RX0 9 "MarkPages$Judge" "pile" "[I", Cond.methodLink RX9 39 yX7_init, Cond.instanceMethod yX7_init, Cond.code yX7_init cX7_init 3 none, Cond.methodLink RX7 1 objectInit, Cond.fieldLink RX7 7 "MarkPages$Texts" "width" "I", Cond.fieldLink RX7 13 "MarkPages$Texts" "lengths" "[I", Cond.fieldLink RX7 17 "MarkPages$Texts" "bytes" "[I", Cond.instanceMethod yX1_init, Cond.code yX1_init cX1_init 1 none, Cond.methodLink RX1 3 objectInit, Cond.fieldLink RX1 9 "MarkPages$Out" "bytes" "[I"]
def wsX9_init_r5 : List Cond := [Cond.instanceMethod yX2_init, Cond.code yX2_init cX2_init 1 none, Cond.methodLink RX2 3 objectInit, Cond.fieldLink RX2 9 "MarkPages$Page" "sayings" "[I", Cond.fieldLink RX2 15 "MarkPages$Page" "skills" "[I", Cond.fieldLink RX2 18 "MarkPages$Page" "ruleNumbers" "[I"]
def wsX9_init : List Cond := .code yX9_init cX9_init 2 none :: ((wsX9_init_r1 ++ (wsX9_init_r2 ++ (wsX9_init_r3 ++ (wsX9_init_r4 ++ wsX9_init_r5)))) ++ wsX30 ++ wsX90 ++ wsX60 ++ wsX50 ++ wsX00 ++ wsX70 ++ wsX10 ++ wsX40 ++ wsX20 ++ wsX80)
def wsX9_question : List Cond := .code yX9_question cX9_question 4 (some .int) :: ([.fieldLink RX9 12 "MarkPages" "papers" "LMarkPages$Papers;", .methodLink RX9 79 yX3_addQuestion, .instanceMethod yX3_addQuestion, .selects RX3 yX3_addQuestion yX3_addQuestion, .initialized RX3, .code yX3_addQuestion cX3_addQuestion 3 (some .int), .fieldLink RX3 33 "MarkPages$Papers" "count" "I", .fieldLink RX3 9 "MarkPages$Papers" "mosts" "[I", .fieldLink RX3 15 "MarkPages$Papers" "skillSets" "[I"] ++ wsX90 ++ wsX30)
def wsX9_isPupil : List Cond := .code yX9_isPupil cX9_isPupil 1 (some .boolean) :: ([])
def wsX9_mark_r1 : List Cond := [Cond.fieldLink RX9 12 "MarkPages" "papers" "LMarkPages$Papers;", Cond.fieldLink RX9 90 "MarkPages$Papers" "mosts" "[I", Cond.methodLink RX9 83 yX9_isPupil, Cond.static yX9_isPupil, Cond.initialized RX9, Cond.code yX9_isPupil cX9_isPupil 1 (some .boolean), Cond.methodLink RX9 87 yX3_hasQuestion, Cond.instanceMethod yX3_hasQuestion, Cond.selects RX3 yX3_hasQuestion yX3_hasQuestion, Cond.initialized RX3, Cond.code yX3_hasQuestion cX3_hasQuestion 2 (some .boolean), Cond.fieldLink RX3 33 "MarkPages$Papers" "count" "I", Cond.methodLink RX9 93 yX3_setPoints, Cond.instanceMethod yX3_setPoints, Cond.selects RX3 yX3_setPoints yX3_setPoints, Cond.code yX3_setPoints cX3_setPoints 5 none, Cond.fieldLink RX3 18 "MarkPages$Papers" "points" "[I", Cond.fieldLink RX3 21 "MarkPages$Papers" "medians" "[I", Cond.methodLink RX3 37 yX3_medianOf, Cond.instanceMethod yX3_medianOf, Cond.selects RX3 yX3_medianOf yX3_medianOf, Cond.code yX3_medianOf cX3_medianOf 5 (some .int), Cond.fieldLink RX3 24 "MarkPages$Papers" "rising" "[I", Cond.methodLink RX3 59 yX3_markedOf]
def wsX9_mark_r2 : List Cond := [Cond.instanceMethod yX3_markedOf, Cond.selects RX3 yX3_markedOf yX3_markedOf, Cond.code yX3_markedOf cX3_markedOf 5 (some .int), Cond.fieldLink RX3 15 "MarkPages$Papers" "skillSets" "[I", Cond.methodLink RX3 41 yX3_pointsOf, Cond.instanceMethod yX3_pointsOf, Cond.selects RX3 yX3_pointsOf yX3_pointsOf, Cond.code yX3_pointsOf cX3_pointsOf 3 (some .int), Cond.methodLink RX3 50 yX3_shareBy, Cond.instanceMethod yX3_shareBy, Cond.selects RX3 yX3_shareBy yX3_shareBy, Cond.code yX3_shareBy cX3_shareBy 6 (some .int), Cond.fieldLink RX3 9 "MarkPages$Papers" "mosts" "[I", Cond.methodLink RX3 62 yX3_insertRising, Cond.instanceMethod yX3_insertRising, Cond.selects RX3 yX3_insertRising yX3_insertRising, Cond.code yX3_insertRising cX3_insertRising 5 none]
def wsX9_mark : List Cond := .code yX9_mark cX9_mark 4 (some .boolean) :: ((wsX9_mark_r1 ++ wsX9_mark_r2) ++ wsX90 ++ wsX30)
def wsX9_of : List Cond := .code yX9_of cX9_of 4 (some .int) :: ([.fieldLink RX9 12 "MarkPages" "papers" "LMarkPages$Papers;", .fieldLink RX9 90 "MarkPages$Papers" "mosts" "[I", .fieldLink RX9 97 "MarkPages$Papers" "skillSets" "[I", .methodLink RX9 87 yX3_hasQuestion, .instanceMethod yX3_hasQuestion, .selects RX3 yX3_hasQuestion yX3_hasQuestion, .initialized RX3, .code yX3_hasQuestion cX3_hasQuestion 2 (some .boolean), .fieldLink RX3 33 "MarkPages$Papers" "count" "I", .methodLink RX9 100 yX3_pointsOf, .instanceMethod yX3_pointsOf, .selects RX3 yX3_pointsOf yX3_pointsOf, .code yX3_pointsOf cX3_pointsOf 3 (some .int), .fieldLink RX3 18 "MarkPages$Papers" "points" "[I"] ++ wsX90 ++ wsX30)
def wsX9_isSkill : List Cond := .code yX9_isSkill cX9_isSkill 1 (some .boolean) :: ([])
def wsX9_got_r1 : List Cond := [Cond.fieldLink RX9 12 "MarkPages" "papers" "LMarkPages$Papers;", Cond.fieldLink RX9 60 "MarkPages" "trial" "[I", Cond.methodLink RX9 83 yX9_isPupil, Cond.static yX9_isPupil, Cond.initialized RX9, Cond.code yX9_isPupil cX9_isPupil 1 (some .boolean), Cond.methodLink RX9 103 yX9_isSkill, Cond.static yX9_isSkill, Cond.code yX9_isSkill cX9_isSkill 1 (some .boolean), Cond.methodLink RX9 106 yX3_markedOf, Cond.instanceMethod yX3_markedOf, Cond.selects RX3 yX3_markedOf yX3_markedOf, Cond.initialized RX3, Cond.code yX3_markedOf cX3_markedOf 5 (some .int), Cond.fieldLink RX3 33 "MarkPages$Papers" "count" "I", Cond.fieldLink RX3 15 "MarkPages$Papers" "skillSets" "[I", Cond.methodLink RX3 41 yX3_pointsOf, Cond.instanceMethod yX3_pointsOf, Cond.selects RX3 yX3_pointsOf yX3_pointsOf, Cond.code yX3_pointsOf cX3_pointsOf 3 (some .int), Cond.fieldLink RX3 18 "MarkPages$Papers" "points" "[I", Cond.methodLink RX9 109 yX3_measure, Cond.instanceMethod yX3_measure, Cond.selects RX3 yX3_measure yX3_measure]
def wsX9_got_r2 : List Cond := [Cond.code yX3_measure cX3_measure 5 none, Cond.fieldLink RX3 21 "MarkPages$Papers" "medians" "[I", Cond.methodLink RX3 45 yJ6_bitCount_0f7a4, Cond.static yJ6_bitCount_0f7a4, Cond.initialized RJ6, Cond.code yJ6_bitCount_0f7a4 cJ6_bitCount_0f7a4 1 (some .int), Cond.constant RJ6 265 (1431655765), Cond.constant RJ6 266 (858993459), Cond.constant RJ6 267 (252645135), Cond.methodLink RX3 50 yX3_shareBy, Cond.instanceMethod yX3_shareBy, Cond.selects RX3 yX3_shareBy yX3_shareBy, Cond.code yX3_shareBy cX3_shareBy 6 (some .int), Cond.fieldLink RX3 9 "MarkPages$Papers" "mosts" "[I", Cond.methodLink RX3 53 yX3_missedBy, Cond.instanceMethod yX3_missedBy, Cond.selects RX3 yX3_missedBy yX3_missedBy, Cond.code yX3_missedBy cX3_missedBy 5 (some .int), Cond.methodLink RX3 56 yX3_lastOf, Cond.instanceMethod yX3_lastOf, Cond.selects RX3 yX3_lastOf yX3_lastOf, Cond.code yX3_lastOf cX3_lastOf 4 (some .int)]
def wsX9_got : List Cond := .code yX9_got cX9_got 4 (some .int) :: ((wsX9_got_r1 ++ wsX9_got_r2) ++ wsX90 ++ wsX30)
def wsX9_feed : List Cond := .code yX9_feed cX9_feed 6 (some .int) :: ([.fieldLink RX9 19 "MarkPages" "tape" "LMarkPages$Tape;", .fieldLink RX9 113 "MarkPages$Tape" "count" "I", .methodLink RX9 117 yX6_take, .instanceMethod yX6_take, .selects RX6 yX6_take yX6_take, .initialized RX6, .code yX6_take cX6_take 3 none, .fieldLink RX6 15 "MarkPages$Tape" "count" "I", .fieldLink RX6 9 "MarkPages$Tape" "bytes" "[I"] ++ wsX90 ++ wsX60)
def wsX9_end : List Cond := .code yX9_end cX9_end 2 (some .boolean) :: ([.fieldLink RX9 19 "MarkPages" "tape" "LMarkPages$Tape;", .fieldLink RX9 113 "MarkPages$Tape" "count" "I"] ++ wsX90 ++ wsX60)
def wsX9_rules_r1 : List Cond := [Cond.fieldLink RX9 26 "MarkPages" "reader" "LMarkPages$RuleReader;", Cond.fieldLink RX9 19 "MarkPages" "tape" "LMarkPages$Tape;", Cond.fieldLink RX9 113 "MarkPages$Tape" "count" "I", Cond.fieldLink RX9 125 "MarkPages$RuleReader" "now" "I", Cond.fieldLink RX9 74 "MarkPages" "book" "LMarkPages$RuleBook;", Cond.fieldLink RX9 132 "MarkPages$RuleReader" "draft" "LMarkPages$RuleBook;", Cond.fieldLink RX9 135 "MarkPages$RuleBook" "count" "I", Cond.methodLink RX9 121 yX5_begin, Cond.instanceMethod yX5_begin, Cond.selects RX5 yX5_begin yX5_begin, Cond.initialized RX5, Cond.code yX5_begin cX5_begin 2 none, Cond.fieldLink RX5 12 "MarkPages$RuleReader" "tokens" "LMarkPages$Tokens;", Cond.fieldLink RX5 21 "MarkPages$RuleReader" "draft" "LMarkPages$RuleBook;", Cond.fieldLink RX5 42 "MarkPages$RuleReader" "at" "I", Cond.fieldLink RX5 45 "MarkPages$Tokens" "kinds" "[I", Cond.fieldLink RX5 25 "MarkPages$RuleReader" "now" "I", Cond.fieldLink RX5 29 "MarkPages$RuleReader" "faultKind" "I", Cond.fieldLink RX5 32 "MarkPages$RuleReader" "faultPlace" "I", Cond.methodLink RX5 35 yX8_scan, Cond.instanceMethod yX8_scan, Cond.selects RX8 yX8_scan yX8_scan, Cond.initialized RX8, Cond.code yX8_scan cX8_scan 3 none]
def wsX9_rules_r2 : List Cond := [Cond.fieldLink RX8 18 "MarkPages$Tokens" "count" "I", Cond.fieldLink RX8 22 "MarkPages$Tape" "count" "I", Cond.methodLink RX8 25 yX8_startsToken, Cond.static yX8_startsToken, Cond.code yX8_startsToken cX8_startsToken 5 (some .boolean), Cond.fieldLink RX8 37 "MarkPages$Tape" "bytes" "[I", Cond.methodLink RX8 40 yX8_familyOf, Cond.static yX8_familyOf, Cond.code yX8_familyOf cX8_familyOf 1 (some .int), Cond.methodLink RX8 29 yX8_tokenAt, Cond.static yX8_tokenAt, Cond.code yX8_tokenAt cX8_tokenAt 4 (some .int), Cond.methodLink RX8 44 yX8_signOf, Cond.static yX8_signOf, Cond.code yX8_signOf cX8_signOf 1 (some .int), Cond.methodLink RX8 47 yX8_keywordOf, Cond.static yX8_keywordOf, Cond.code yX8_keywordOf cX8_keywordOf 4 (some .int), Cond.methodLink RX8 54 yX8_spelling, Cond.static yX8_spelling, Cond.code yX8_spelling cX8_spelling 1 (some (.object "java/lang/String")), Cond.methodLink RX8 58 yX8_spells, Cond.static yX8_spells, Cond.code yX8_spells cX8_spells 5 (some .boolean)]
def wsX9_rules_r3 : List Cond := [Cond.methodLink RX8 62 yJ0_length_8abf5, Cond.instanceMethod yJ0_length_8abf5, Cond.selects RJ0 yJ0_length_8abf5 yJ0_length_8abf5, Cond.initialized RJ0, Cond.code yJ0_length_8abf5 cJ0_length_8abf5 1 (some .int), Cond.fieldLink RJ0 9 "java/lang/String" "value" "[B", Cond.methodLink RJ0 335 yJ0_coder_7d493, Cond.instanceMethod yJ0_coder_7d493, Cond.selects RJ0 yJ0_coder_7d493 yJ0_coder_7d493, Cond.code yJ0_coder_7d493 cJ0_coder_7d493 1 (some .byte), Cond.fieldLink RJ0 38 "java/lang/String" "COMPACT_STRINGS" "Z", Cond.fieldLink RJ0 15 "java/lang/String" "coder" "B", Cond.methodLink RX8 68 yJ0_charAt_5068e, Cond.instanceMethod yJ0_charAt_5068e, Cond.selects RJ0 yJ0_charAt_5068e yJ0_charAt_5068e, Cond.code yJ0_charAt_5068e cJ0_charAt_5068e 2 (some .char), Cond.methodLink RJ0 492 yJ0_isLatin1_aae02, Cond.instanceMethod yJ0_isLatin1_aae02, Cond.selects RJ0 yJ0_isLatin1_aae02 yJ0_isLatin1_aae02, Cond.code yJ0_isLatin1_aae02 cJ0_isLatin1_aae02 1 (some .boolean), Cond.methodLink RJ0 495 yJ1_charAt_3b067, Cond.static yJ1_charAt_3b067, Cond.initialized RJ1, Cond.code yJ1_charAt_3b067 cJ1_charAt_3b067 2 (some .char)]
def wsX9_rules_r4 : List Cond := [Cond.methodLink RJ1 9 yJ0_checkIndex_df160, Cond.static yJ0_checkIndex_df160, Cond.code yJ0_checkIndex_df160 cJ0_checkIndex_df160 2 none, Cond.fieldLink RJ0 1053 "jdk/internal/util/Preconditions" "SIOOBE_FORMATTER" "Ljava/util/function/BiFunction;", Cond.methodLink RJ0 1059 yJ3_checkIndex_8e157, Cond.static yJ3_checkIndex_8e157, Cond.initialized RJ3, Cond.code yJ3_checkIndex_8e157 cJ3_checkIndex_8e157 3 (some .int), Cond.methodLink RJ0 498 yJ2_charAt_3b067, Cond.static yJ2_charAt_3b067, Cond.initialized RJ2, Cond.code yJ2_charAt_3b067 cJ2_charAt_3b067 2 (some .char), Cond.methodLink RJ2 67 yJ2_checkIndex_2214a, Cond.static yJ2_checkIndex_2214a, Cond.code yJ2_checkIndex_2214a cJ2_checkIndex_2214a 2 none, Cond.methodLink RJ2 48 yJ2_length_9d52b, Cond.static yJ2_length_9d52b, Cond.code yJ2_length_9d52b cJ2_length_9d52b 1 (some .int), Cond.methodLink RJ2 414 yJ0_checkIndex_df160, Cond.methodLink RJ2 71 yJ2_getChar_3b067, Cond.static yJ2_getChar_3b067, Cond.code yJ2_getChar_3b067 cJ2_getChar_3b067 2 (some .char), Cond.fieldLink RJ2 44 "java/lang/StringUTF16" "$assertionsDisabled" "Z", Cond.fieldLink RJ2 59 "java/lang/StringUTF16" "HI_BYTE_SHIFT" "I"]
def wsX9_rules_r5 : List Cond := [Cond.fieldLink RJ2 63 "java/lang/StringUTF16" "LO_BYTE_SHIFT" "I", Cond.methodLink RX8 51 yX8_numberOf, Cond.static yX8_numberOf, Cond.code yX8_numberOf cX8_numberOf 5 (some .int), Cond.methodLink RX8 33 yX8_append, Cond.instanceMethod yX8_append, Cond.selects RX8 yX8_append yX8_append, Cond.code yX8_append cX8_append 3 none, Cond.fieldLink RX8 9 "MarkPages$Tokens" "kinds" "[I", Cond.fieldLink RX8 15 "MarkPages$Tokens" "places" "[I", Cond.methodLink RX5 39 yX4_clear, Cond.instanceMethod yX4_clear, Cond.selects RX4 yX4_clear yX4_clear, Cond.initialized RX4, Cond.code yX4_clear cX4_clear 1 none, Cond.fieldLink RX4 24 "MarkPages$RuleBook" "count" "I", Cond.fieldLink RX4 28 "MarkPages$RuleBook" "used" "I", Cond.methodLink RX9 128 yX5_readRule, Cond.instanceMethod yX5_readRule, Cond.selects RX5 yX5_readRule yX5_readRule, Cond.code yX5_readRule cX5_readRule 3 (some .boolean), Cond.fieldLink RX5 53 "MarkPages$RuleBook" "count" "I", Cond.methodLink RX5 49 yX5_refuse, Cond.instanceMethod yX5_refuse]
def wsX9_rules_r6 : List Cond := [Cond.selects RX5 yX5_refuse yX5_refuse, Cond.code yX5_refuse cX5_refuse 2 (some .boolean), Cond.fieldLink RX5 94 "MarkPages$Tokens" "places" "[I", Cond.methodLink RX5 56 yX5_advance, Cond.instanceMethod yX5_advance, Cond.selects RX5 yX5_advance yX5_advance, Cond.code yX5_advance cX5_advance 1 none, Cond.fieldLink RX5 76 "MarkPages$Tokens" "count" "I", Cond.methodLink RX5 59 yX5_readNumber, Cond.instanceMethod yX5_readNumber, Cond.selects RX5 yX5_readNumber yX5_readNumber, Cond.code yX5_readNumber cX5_readNumber 3 (some .int), Cond.methodLink RX5 63 yX5_expect, Cond.instanceMethod yX5_expect, Cond.selects RX5 yX5_expect yX5_expect, Cond.code yX5_expect cX5_expect 2 (some .boolean), Cond.methodLink RX5 66 yX5_readEither, Cond.instanceMethod yX5_readEither, Cond.selects RX5 yX5_readEither yX5_readEither, Cond.code yX5_readEither cX5_readEither 4 (some .boolean), Cond.methodLink RX5 73 yX5_readBoth, Cond.instanceMethod yX5_readBoth, Cond.selects RX5 yX5_readBoth yX5_readBoth, Cond.methodLink RX5 77 yX4_append]
def wsX9_rules_r7 : List Cond := [Cond.instanceMethod yX4_append, Cond.selects RX4 yX4_append yX4_append, Cond.code yX4_append cX4_append 2 none, Cond.fieldLink RX4 21 "MarkPages$RuleBook" "code" "[I", Cond.code yX5_readBoth cX5_readBoth 4 (some .boolean), Cond.methodLink RX5 81 yX5_readCondition, Cond.instanceMethod yX5_readCondition, Cond.selects RX5 yX5_readCondition yX5_readCondition, Cond.code yX5_readCondition cX5_readCondition 4 (some .boolean), Cond.methodLink RX5 84 yX5_readComparison, Cond.instanceMethod yX5_readComparison, Cond.selects RX5 yX5_readComparison yX5_readComparison, Cond.code yX5_readComparison cX5_readComparison 3 (some .boolean), Cond.methodLink RX5 88 yX5_readSum, Cond.instanceMethod yX5_readSum, Cond.selects RX5 yX5_readSum yX5_readSum, Cond.code yX5_readSum cX5_readSum 3 (some .boolean), Cond.methodLink RX5 91 yX5_isValue, Cond.static yX5_isValue, Cond.code yX5_isValue cX5_isValue 1 (some .boolean), Cond.methodLink RX5 69 yX4_closeRule, Cond.instanceMethod yX4_closeRule, Cond.selects RX4 yX4_closeRule yX4_closeRule, Cond.code yX4_closeRule cX4_closeRule 3 none]
def wsX9_rules_r8 : List Cond := [Cond.fieldLink RX4 9 "MarkPages$RuleBook" "sayings" "[I", Cond.fieldLink RX4 15 "MarkPages$RuleBook" "skills" "[I", Cond.fieldLink RX4 18 "MarkPages$RuleBook" "starts" "[I"]
def wsX9_rules : List Cond := .code yX9_rules cX9_rules 3 (some .int) :: ((wsX9_rules_r1 ++ (wsX9_rules_r2 ++ (wsX9_rules_r3 ++ (wsX9_rules_r4 ++ (wsX9_rules_r5 ++ (wsX9_rules_r6 ++ (wsX9_rules_r7 ++ wsX9_rules_r8))))))) ++ wsX90 ++ wsX60 ++ wsX50 ++ wsX40 ++ wsX80)
def wsX9_fault : List Cond := .code yX9_fault cX9_fault 2 (some .int) :: ([.fieldLink RX9 26 "MarkPages" "reader" "LMarkPages$RuleReader;", .fieldLink RX9 136 "MarkPages$RuleReader" "faultKind" "I", .fieldLink RX9 139 "MarkPages$RuleReader" "faultPlace" "I"] ++ wsX90 ++ wsX50)
def wsX9_isTongue : List Cond := .code yX9_isTongue cX9_isTongue 1 (some .boolean) :: ([])
def wsX9_rowOf : List Cond := .code yX9_rowOf cX9_rowOf 2 (some .int) :: ([])
def wsX9_keepTape : List Cond := .code yX9_keepTape cX9_keepTape 4 (some .boolean) :: ([.fieldLink RX9 19 "MarkPages" "tape" "LMarkPages$Tape;", .fieldLink RX9 113 "MarkPages$Tape" "count" "I", .methodLink RX9 195 yX7_keep, .instanceMethod yX7_keep, .selects RX7 yX7_keep yX7_keep, .initialized RX7, .code yX7_keep cX7_keep 3 (some .boolean), .fieldLink RX7 13 "MarkPages$Texts" "lengths" "[I", .fieldLink RX7 20 "MarkPages$Tape" "count" "I", .fieldLink RX7 7 "MarkPages$Texts" "width" "I", .fieldLink RX7 25 "MarkPages$Tape" "bytes" "[I", .fieldLink RX7 17 "MarkPages$Texts" "bytes" "[I", .methodLink RX7 26 arraycopyName, .native arraycopyName, .static arraycopyName, .initialized "java/lang/System"] ++ wsX90 ++ wsX60 ++ wsX70)
def wsX9_phrase_r1 : List Cond := [Cond.fieldLink RX9 42 "MarkPages" "phrases" "LMarkPages$Texts;", Cond.methodLink RX9 142 yX9_isTongue, Cond.static yX9_isTongue, Cond.initialized RX9, Cond.code yX9_isTongue cX9_isTongue 1 (some .boolean), Cond.methodLink RX9 145 yX9_rowOf, Cond.static yX9_rowOf, Cond.code yX9_rowOf cX9_rowOf 2 (some .int), Cond.methodLink RX9 148 yX9_keepTape, Cond.instanceMethod yX9_keepTape, Cond.selects RX9 yX9_keepTape yX9_keepTape, Cond.code yX9_keepTape cX9_keepTape 4 (some .boolean), Cond.fieldLink RX9 19 "MarkPages" "tape" "LMarkPages$Tape;", Cond.fieldLink RX9 113 "MarkPages$Tape" "count" "I", Cond.methodLink RX9 195 yX7_keep, Cond.instanceMethod yX7_keep, Cond.selects RX7 yX7_keep yX7_keep, Cond.initialized RX7, Cond.code yX7_keep cX7_keep 3 (some .boolean), Cond.fieldLink RX7 13 "MarkPages$Texts" "lengths" "[I", Cond.fieldLink RX7 20 "MarkPages$Tape" "count" "I", Cond.fieldLink RX7 7 "MarkPages$Texts" "width" "I", Cond.fieldLink RX7 25 "MarkPages$Tape" "bytes" "[I", Cond.fieldLink RX7 17 "MarkPages$Texts" "bytes" "[I"]
def wsX9_phrase_r2 : List Cond := [Cond.methodLink RX7 26 arraycopyName, Cond.native arraycopyName, Cond.static arraycopyName, Cond.initialized "java/lang/System"]
def wsX9_phrase : List Cond := .code yX9_phrase cX9_phrase 4 (some .boolean) :: ((wsX9_phrase_r1 ++ wsX9_phrase_r2) ++ wsX90 ++ wsX60 ++ wsX70)
def wsX9_name_r1 : List Cond := [Cond.fieldLink RX9 46 "MarkPages" "names" "LMarkPages$Texts;", Cond.methodLink RX9 103 yX9_isSkill, Cond.static yX9_isSkill, Cond.initialized RX9, Cond.code yX9_isSkill cX9_isSkill 1 (some .boolean), Cond.methodLink RX9 142 yX9_isTongue, Cond.static yX9_isTongue, Cond.code yX9_isTongue cX9_isTongue 1 (some .boolean), Cond.methodLink RX9 145 yX9_rowOf, Cond.static yX9_rowOf, Cond.code yX9_rowOf cX9_rowOf 2 (some .int), Cond.methodLink RX9 148 yX9_keepTape, Cond.instanceMethod yX9_keepTape, Cond.selects RX9 yX9_keepTape yX9_keepTape, Cond.code yX9_keepTape cX9_keepTape 4 (some .boolean), Cond.fieldLink RX9 19 "MarkPages" "tape" "LMarkPages$Tape;", Cond.fieldLink RX9 113 "MarkPages$Tape" "count" "I", Cond.methodLink RX9 195 yX7_keep, Cond.instanceMethod yX7_keep, Cond.selects RX7 yX7_keep yX7_keep, Cond.initialized RX7, Cond.code yX7_keep cX7_keep 3 (some .boolean), Cond.fieldLink RX7 13 "MarkPages$Texts" "lengths" "[I", Cond.fieldLink RX7 20 "MarkPages$Tape" "count" "I"]
def wsX9_name_r2 : List Cond := [Cond.fieldLink RX7 7 "MarkPages$Texts" "width" "I", Cond.fieldLink RX7 25 "MarkPages$Tape" "bytes" "[I", Cond.fieldLink RX7 17 "MarkPages$Texts" "bytes" "[I", Cond.methodLink RX7 26 arraycopyName, Cond.native arraycopyName, Cond.static arraycopyName, Cond.initialized "java/lang/System"]
def wsX9_name : List Cond := .code yX9_name cX9_name 4 (some .boolean) :: ((wsX9_name_r1 ++ wsX9_name_r2) ++ wsX90 ++ wsX60 ++ wsX70)
def wsX9_addLinesOf_r1 : List Cond := [Cond.fieldLink RX9 74 "MarkPages" "book" "LMarkPages$RuleBook;", Cond.fieldLink RX9 203 "MarkPages$RuleBook" "sayings" "[I", Cond.fieldLink RX9 57 "MarkPages" "measures" "[[I", Cond.fieldLink RX9 33 "MarkPages" "judge" "LMarkPages$Judge;", Cond.methodLink RX9 204 yX4_isFor, Cond.instanceMethod yX4_isFor, Cond.selects RX4 yX4_isFor yX4_isFor, Cond.initialized RX4, Cond.code yX4_isFor cX4_isFor 3 (some .boolean), Cond.fieldLink RX4 15 "MarkPages$RuleBook" "skills" "[I", Cond.methodLink RX9 181 yX2_hasSort, Cond.instanceMethod yX2_hasSort, Cond.selects RX2 yX2_hasSort yX2_hasSort, Cond.initialized RX2, Cond.code yX2_hasSort cX2_hasSort 4 (some .boolean), Cond.fieldLink RX2 21 "MarkPages$Page" "count" "I", Cond.fieldLink RX2 15 "MarkPages$Page" "skills" "[I", Cond.fieldLink RX2 9 "MarkPages$Page" "sayings" "[I", Cond.methodLink RX9 207 yX0_isSo, Cond.instanceMethod yX0_isSo, Cond.selects RX0 yX0_isSo yX0_isSo, Cond.initialized RX0, Cond.code yX0_isSo cX0_isSo 5 (some .boolean), Cond.fieldLink RX0 15 "MarkPages$Judge" "height" "I"]
def wsX9_addLinesOf_r2 : List Cond := [Cond.fieldLink RX0 19 "MarkPages$RuleBook" "starts" "[I", Cond.fieldLink RX0 24 "MarkPages$RuleBook" "code" "[I", Cond.methodLink RX0 27 yX0_take, Cond.instanceMethod yX0_take, Cond.selects RX0 yX0_take yX0_take, Cond.code yX0_take cX0_take 5 none, Cond.methodLink RX0 35 yX0_push, Cond.instanceMethod yX0_push, Cond.selects RX0 yX0_push yX0_push, Cond.code yX0_push cX0_push 2 none, Cond.fieldLink RX0 9 "MarkPages$Judge" "pile" "[I", Cond.methodLink RX0 31 yX0_pop, Cond.instanceMethod yX0_pop, Cond.selects RX0 yX0_pop yX0_pop, Cond.code yX0_pop cX0_pop 1 (some .int), Cond.methodLink RX0 39 yX0_truth, Cond.static yX0_truth, Cond.code yX0_truth cX0_truth 1 (some .int), Cond.methodLink RX0 43 yX0_join, Cond.static yX0_join, Cond.code yX0_join cX0_join 3 (some .int), Cond.methodLink RX9 211 yX2_add, Cond.instanceMethod yX2_add, Cond.selects RX2 yX2_add yX2_add]
def wsX9_addLinesOf_r3 : List Cond := [Cond.code yX2_add cX2_add 4 none, Cond.fieldLink RX2 18 "MarkPages$Page" "ruleNumbers" "[I"]
def wsX9_addLinesOf : List Cond := .code yX9_addLinesOf cX9_addLinesOf 6 none :: ((wsX9_addLinesOf_r1 ++ (wsX9_addLinesOf_r2 ++ wsX9_addLinesOf_r3)) ++ wsX90 ++ wsX40 ++ wsX20 ++ wsX00)
def wsX9_freshPage_r1 : List Cond := [Cond.fieldLink RX9 51 "MarkPages" "pages" "[LMarkPages$Page;", Cond.fieldLink RX9 156 "MarkPages$Page" "count" "I", Cond.fieldLink RX9 12 "MarkPages" "papers" "LMarkPages$Papers;", Cond.fieldLink RX9 57 "MarkPages" "measures" "[[I", Cond.fieldLink RX9 74 "MarkPages" "book" "LMarkPages$RuleBook;", Cond.fieldLink RX9 135 "MarkPages$RuleBook" "count" "I", Cond.methodLink RX9 106 yX3_markedOf, Cond.instanceMethod yX3_markedOf, Cond.selects RX3 yX3_markedOf yX3_markedOf, Cond.initialized RX3, Cond.code yX3_markedOf cX3_markedOf 5 (some .int), Cond.fieldLink RX3 33 "MarkPages$Papers" "count" "I", Cond.fieldLink RX3 15 "MarkPages$Papers" "skillSets" "[I", Cond.methodLink RX3 41 yX3_pointsOf, Cond.instanceMethod yX3_pointsOf, Cond.selects RX3 yX3_pointsOf yX3_pointsOf, Cond.code yX3_pointsOf cX3_pointsOf 3 (some .int), Cond.fieldLink RX3 18 "MarkPages$Papers" "points" "[I", Cond.methodLink RX9 109 yX3_measure, Cond.instanceMethod yX3_measure, Cond.selects RX3 yX3_measure yX3_measure, Cond.code yX3_measure cX3_measure 5 none, Cond.fieldLink RX3 21 "MarkPages$Papers" "medians" "[I", Cond.methodLink RX3 45 yJ6_bitCount_0f7a4]
def wsX9_freshPage_r2 : List Cond := [Cond.static yJ6_bitCount_0f7a4, Cond.initialized RJ6, Cond.code yJ6_bitCount_0f7a4 cJ6_bitCount_0f7a4 1 (some .int), Cond.constant RJ6 265 (1431655765), Cond.constant RJ6 266 (858993459), Cond.constant RJ6 267 (252645135), Cond.methodLink RX3 50 yX3_shareBy, Cond.instanceMethod yX3_shareBy, Cond.selects RX3 yX3_shareBy yX3_shareBy, Cond.code yX3_shareBy cX3_shareBy 6 (some .int), Cond.fieldLink RX3 9 "MarkPages$Papers" "mosts" "[I", Cond.methodLink RX3 53 yX3_missedBy, Cond.instanceMethod yX3_missedBy, Cond.selects RX3 yX3_missedBy yX3_missedBy, Cond.code yX3_missedBy cX3_missedBy 5 (some .int), Cond.methodLink RX3 56 yX3_lastOf, Cond.instanceMethod yX3_lastOf, Cond.selects RX3 yX3_lastOf yX3_lastOf, Cond.code yX3_lastOf cX3_lastOf 4 (some .int), Cond.methodLink RX9 199 yX9_addLinesOf, Cond.instanceMethod yX9_addLinesOf, Cond.selects RX9 yX9_addLinesOf yX9_addLinesOf, Cond.initialized RX9, Cond.code yX9_addLinesOf cX9_addLinesOf 6 none]
def wsX9_freshPage_r3 : List Cond := [Cond.fieldLink RX9 203 "MarkPages$RuleBook" "sayings" "[I", Cond.fieldLink RX9 33 "MarkPages" "judge" "LMarkPages$Judge;", Cond.methodLink RX9 204 yX4_isFor, Cond.instanceMethod yX4_isFor, Cond.selects RX4 yX4_isFor yX4_isFor, Cond.initialized RX4, Cond.code yX4_isFor cX4_isFor 3 (some .boolean), Cond.fieldLink RX4 15 "MarkPages$RuleBook" "skills" "[I", Cond.methodLink RX9 181 yX2_hasSort, Cond.instanceMethod yX2_hasSort, Cond.selects RX2 yX2_hasSort yX2_hasSort, Cond.initialized RX2, Cond.code yX2_hasSort cX2_hasSort 4 (some .boolean), Cond.fieldLink RX2 21 "MarkPages$Page" "count" "I", Cond.fieldLink RX2 15 "MarkPages$Page" "skills" "[I", Cond.fieldLink RX2 9 "MarkPages$Page" "sayings" "[I", Cond.methodLink RX9 207 yX0_isSo, Cond.instanceMethod yX0_isSo, Cond.selects RX0 yX0_isSo yX0_isSo, Cond.initialized RX0, Cond.code yX0_isSo cX0_isSo 5 (some .boolean), Cond.fieldLink RX0 15 "MarkPages$Judge" "height" "I", Cond.fieldLink RX0 19 "MarkPages$RuleBook" "starts" "[I", Cond.fieldLink RX0 24 "MarkPages$RuleBook" "code" "[I"]
def wsX9_freshPage_r4 : List Cond := [Cond.methodLink RX0 27 yX0_take, Cond.instanceMethod yX0_take, Cond.selects RX0 yX0_take yX0_take, Cond.code yX0_take cX0_take 5 none, Cond.methodLink RX0 35 yX0_push, Cond.instanceMethod yX0_push, Cond.selects RX0 yX0_push yX0_push, Cond.code yX0_push cX0_push 2 none, Cond.fieldLink RX0 9 "MarkPages$Judge" "pile" "[I", Cond.methodLink RX0 31 yX0_pop, Cond.instanceMethod yX0_pop, Cond.selects RX0 yX0_pop yX0_pop, Cond.code yX0_pop cX0_pop 1 (some .int), Cond.methodLink RX0 39 yX0_truth, Cond.static yX0_truth, Cond.code yX0_truth cX0_truth 1 (some .int), Cond.methodLink RX0 43 yX0_join, Cond.static yX0_join, Cond.code yX0_join cX0_join 3 (some .int), Cond.methodLink RX9 211 yX2_add, Cond.instanceMethod yX2_add, Cond.selects RX2 yX2_add yX2_add, Cond.code yX2_add cX2_add 4 none, Cond.fieldLink RX2 18 "MarkPages$Page" "ruleNumbers" "[I"]
def wsX9_freshPage : List Cond := .code yX9_freshPage cX9_freshPage 4 (some (.object "MarkPages$Page")) :: ((wsX9_freshPage_r1 ++ (wsX9_freshPage_r2 ++ (wsX9_freshPage_r3 ++ wsX9_freshPage_r4))) ++ wsX90 ++ wsX20 ++ wsX40 ++ wsX30 ++ wsX00)
def wsX9_page_r1 : List Cond := [Cond.fieldLink RX9 156 "MarkPages$Page" "count" "I", Cond.methodLink RX9 83 yX9_isPupil, Cond.static yX9_isPupil, Cond.initialized RX9, Cond.code yX9_isPupil cX9_isPupil 1 (some .boolean), Cond.methodLink RX9 152 yX9_freshPage, Cond.instanceMethod yX9_freshPage, Cond.selects RX9 yX9_freshPage yX9_freshPage, Cond.code yX9_freshPage cX9_freshPage 4 (some (.object "MarkPages$Page")), Cond.fieldLink RX9 51 "MarkPages" "pages" "[LMarkPages$Page;", Cond.fieldLink RX9 12 "MarkPages" "papers" "LMarkPages$Papers;", Cond.fieldLink RX9 57 "MarkPages" "measures" "[[I", Cond.fieldLink RX9 74 "MarkPages" "book" "LMarkPages$RuleBook;", Cond.fieldLink RX9 135 "MarkPages$RuleBook" "count" "I", Cond.methodLink RX9 106 yX3_markedOf, Cond.instanceMethod yX3_markedOf, Cond.selects RX3 yX3_markedOf yX3_markedOf, Cond.initialized RX3, Cond.code yX3_markedOf cX3_markedOf 5 (some .int), Cond.fieldLink RX3 33 "MarkPages$Papers" "count" "I", Cond.fieldLink RX3 15 "MarkPages$Papers" "skillSets" "[I", Cond.methodLink RX3 41 yX3_pointsOf, Cond.instanceMethod yX3_pointsOf, Cond.selects RX3 yX3_pointsOf yX3_pointsOf]
def wsX9_page_r2 : List Cond := [Cond.code yX3_pointsOf cX3_pointsOf 3 (some .int), Cond.fieldLink RX3 18 "MarkPages$Papers" "points" "[I", Cond.methodLink RX9 109 yX3_measure, Cond.instanceMethod yX3_measure, Cond.selects RX3 yX3_measure yX3_measure, Cond.code yX3_measure cX3_measure 5 none, Cond.fieldLink RX3 21 "MarkPages$Papers" "medians" "[I", Cond.methodLink RX3 45 yJ6_bitCount_0f7a4, Cond.static yJ6_bitCount_0f7a4, Cond.initialized RJ6, Cond.code yJ6_bitCount_0f7a4 cJ6_bitCount_0f7a4 1 (some .int), Cond.constant RJ6 265 (1431655765), Cond.constant RJ6 266 (858993459), Cond.constant RJ6 267 (252645135), Cond.methodLink RX3 50 yX3_shareBy, Cond.instanceMethod yX3_shareBy, Cond.selects RX3 yX3_shareBy yX3_shareBy, Cond.code yX3_shareBy cX3_shareBy 6 (some .int), Cond.fieldLink RX3 9 "MarkPages$Papers" "mosts" "[I", Cond.methodLink RX3 53 yX3_missedBy, Cond.instanceMethod yX3_missedBy, Cond.selects RX3 yX3_missedBy yX3_missedBy, Cond.code yX3_missedBy cX3_missedBy 5 (some .int), Cond.methodLink RX3 56 yX3_lastOf]
def wsX9_page_r3 : List Cond := [Cond.instanceMethod yX3_lastOf, Cond.selects RX3 yX3_lastOf yX3_lastOf, Cond.code yX3_lastOf cX3_lastOf 4 (some .int), Cond.methodLink RX9 199 yX9_addLinesOf, Cond.instanceMethod yX9_addLinesOf, Cond.selects RX9 yX9_addLinesOf yX9_addLinesOf, Cond.code yX9_addLinesOf cX9_addLinesOf 6 none, Cond.fieldLink RX9 203 "MarkPages$RuleBook" "sayings" "[I", Cond.fieldLink RX9 33 "MarkPages" "judge" "LMarkPages$Judge;", Cond.methodLink RX9 204 yX4_isFor, Cond.instanceMethod yX4_isFor, Cond.selects RX4 yX4_isFor yX4_isFor, Cond.initialized RX4, Cond.code yX4_isFor cX4_isFor 3 (some .boolean), Cond.fieldLink RX4 15 "MarkPages$RuleBook" "skills" "[I", Cond.methodLink RX9 181 yX2_hasSort, Cond.instanceMethod yX2_hasSort, Cond.selects RX2 yX2_hasSort yX2_hasSort, Cond.initialized RX2, Cond.code yX2_hasSort cX2_hasSort 4 (some .boolean), Cond.fieldLink RX2 21 "MarkPages$Page" "count" "I", Cond.fieldLink RX2 15 "MarkPages$Page" "skills" "[I", Cond.fieldLink RX2 9 "MarkPages$Page" "sayings" "[I", Cond.methodLink RX9 207 yX0_isSo]
def wsX9_page_r4 : List Cond := [Cond.instanceMethod yX0_isSo, Cond.selects RX0 yX0_isSo yX0_isSo, Cond.initialized RX0, Cond.code yX0_isSo cX0_isSo 5 (some .boolean), Cond.fieldLink RX0 15 "MarkPages$Judge" "height" "I", Cond.fieldLink RX0 19 "MarkPages$RuleBook" "starts" "[I", Cond.fieldLink RX0 24 "MarkPages$RuleBook" "code" "[I", Cond.methodLink RX0 27 yX0_take, Cond.instanceMethod yX0_take, Cond.selects RX0 yX0_take yX0_take, Cond.code yX0_take cX0_take 5 none, Cond.methodLink RX0 35 yX0_push, Cond.instanceMethod yX0_push, Cond.selects RX0 yX0_push yX0_push, Cond.code yX0_push cX0_push 2 none, Cond.fieldLink RX0 9 "MarkPages$Judge" "pile" "[I", Cond.methodLink RX0 31 yX0_pop, Cond.instanceMethod yX0_pop, Cond.selects RX0 yX0_pop yX0_pop, Cond.code yX0_pop cX0_pop 1 (some .int), Cond.methodLink RX0 39 yX0_truth, Cond.static yX0_truth, Cond.code yX0_truth cX0_truth 1 (some .int), Cond.methodLink RX0 43 yX0_join]
def wsX9_page_r5 : List Cond := [Cond.static yX0_join, Cond.code yX0_join cX0_join 3 (some .int), Cond.methodLink RX9 211 yX2_add, Cond.instanceMethod yX2_add, Cond.selects RX2 yX2_add yX2_add, Cond.code yX2_add cX2_add 4 none, Cond.fieldLink RX2 18 "MarkPages$Page" "ruleNumbers" "[I"]
def wsX9_page : List Cond := .code yX9_page cX9_page 2 (some .int) :: ((wsX9_page_r1 ++ (wsX9_page_r2 ++ (wsX9_page_r3 ++ (wsX9_page_r4 ++ wsX9_page_r5)))) ++ wsX20 ++ wsX90 ++ wsX40 ++ wsX30 ++ wsX00)
def wsX9_bears_r1 : List Cond := [Cond.fieldLink RX9 12 "MarkPages" "papers" "LMarkPages$Papers;", Cond.fieldLink RX9 60 "MarkPages" "trial" "[I", Cond.fieldLink RX9 33 "MarkPages" "judge" "LMarkPages$Judge;", Cond.fieldLink RX9 74 "MarkPages" "book" "LMarkPages$RuleBook;", Cond.methodLink RX9 109 yX3_measure, Cond.instanceMethod yX3_measure, Cond.selects RX3 yX3_measure yX3_measure, Cond.initialized RX3, Cond.code yX3_measure cX3_measure 5 none, Cond.fieldLink RX3 21 "MarkPages$Papers" "medians" "[I", Cond.methodLink RX3 45 yJ6_bitCount_0f7a4, Cond.static yJ6_bitCount_0f7a4, Cond.initialized RJ6, Cond.code yJ6_bitCount_0f7a4 cJ6_bitCount_0f7a4 1 (some .int), Cond.constant RJ6 265 (1431655765), Cond.constant RJ6 266 (858993459), Cond.constant RJ6 267 (252645135), Cond.methodLink RX3 50 yX3_shareBy, Cond.instanceMethod yX3_shareBy, Cond.selects RX3 yX3_shareBy yX3_shareBy, Cond.code yX3_shareBy cX3_shareBy 6 (some .int), Cond.fieldLink RX3 33 "MarkPages$Papers" "count" "I", Cond.fieldLink RX3 9 "MarkPages$Papers" "mosts" "[I", Cond.methodLink RX3 41 yX3_pointsOf]
def wsX9_bears_r2 : List Cond := [Cond.instanceMethod yX3_pointsOf, Cond.selects RX3 yX3_pointsOf yX3_pointsOf, Cond.code yX3_pointsOf cX3_pointsOf 3 (some .int), Cond.fieldLink RX3 18 "MarkPages$Papers" "points" "[I", Cond.methodLink RX3 53 yX3_missedBy, Cond.instanceMethod yX3_missedBy, Cond.selects RX3 yX3_missedBy yX3_missedBy, Cond.code yX3_missedBy cX3_missedBy 5 (some .int), Cond.methodLink RX3 56 yX3_lastOf, Cond.instanceMethod yX3_lastOf, Cond.selects RX3 yX3_lastOf yX3_lastOf, Cond.code yX3_lastOf cX3_lastOf 4 (some .int), Cond.methodLink RX9 207 yX0_isSo, Cond.instanceMethod yX0_isSo, Cond.selects RX0 yX0_isSo yX0_isSo, Cond.initialized RX0, Cond.code yX0_isSo cX0_isSo 5 (some .boolean), Cond.fieldLink RX0 15 "MarkPages$Judge" "height" "I", Cond.fieldLink RX0 19 "MarkPages$RuleBook" "starts" "[I", Cond.fieldLink RX0 24 "MarkPages$RuleBook" "code" "[I", Cond.methodLink RX0 27 yX0_take, Cond.instanceMethod yX0_take, Cond.selects RX0 yX0_take yX0_take, Cond.code yX0_take cX0_take 5 none]
def wsX9_bears_r3 : List Cond := [Cond.methodLink RX0 35 yX0_push, Cond.instanceMethod yX0_push, Cond.selects RX0 yX0_push yX0_push, Cond.code yX0_push cX0_push 2 none, Cond.fieldLink RX0 9 "MarkPages$Judge" "pile" "[I", Cond.methodLink RX0 31 yX0_pop, Cond.instanceMethod yX0_pop, Cond.selects RX0 yX0_pop yX0_pop, Cond.code yX0_pop cX0_pop 1 (some .int), Cond.methodLink RX0 39 yX0_truth, Cond.static yX0_truth, Cond.code yX0_truth cX0_truth 1 (some .int), Cond.methodLink RX0 43 yX0_join, Cond.static yX0_join, Cond.code yX0_join cX0_join 3 (some .int)]
def wsX9_bears : List Cond := .code yX9_bears cX9_bears 5 (some .boolean) :: ((wsX9_bears_r1 ++ (wsX9_bears_r2 ++ wsX9_bears_r3)) ++ wsX90 ++ wsX30 ++ wsX00 ++ wsX40)
def wsX9_bearersOf_r1 : List Cond := [Cond.fieldLink RX9 12 "MarkPages" "papers" "LMarkPages$Papers;", Cond.methodLink RX9 106 yX3_markedOf, Cond.instanceMethod yX3_markedOf, Cond.selects RX3 yX3_markedOf yX3_markedOf, Cond.initialized RX3, Cond.code yX3_markedOf cX3_markedOf 5 (some .int), Cond.fieldLink RX3 33 "MarkPages$Papers" "count" "I", Cond.fieldLink RX3 15 "MarkPages$Papers" "skillSets" "[I", Cond.methodLink RX3 41 yX3_pointsOf, Cond.instanceMethod yX3_pointsOf, Cond.selects RX3 yX3_pointsOf yX3_pointsOf, Cond.code yX3_pointsOf cX3_pointsOf 3 (some .int), Cond.fieldLink RX3 18 "MarkPages$Papers" "points" "[I", Cond.methodLink RX9 214 yJ6_bitCount_0f7a4, Cond.static yJ6_bitCount_0f7a4, Cond.initialized RJ6, Cond.code yJ6_bitCount_0f7a4 cJ6_bitCount_0f7a4 1 (some .int), Cond.constant RJ6 265 (1431655765), Cond.constant RJ6 266 (858993459), Cond.constant RJ6 267 (252645135), Cond.methodLink RX9 219 yX9_bears, Cond.instanceMethod yX9_bears, Cond.selects RX9 yX9_bears yX9_bears, Cond.initialized RX9]
def wsX9_bearersOf_r2 : List Cond := [Cond.code yX9_bears cX9_bears 5 (some .boolean), Cond.fieldLink RX9 60 "MarkPages" "trial" "[I", Cond.fieldLink RX9 33 "MarkPages" "judge" "LMarkPages$Judge;", Cond.fieldLink RX9 74 "MarkPages" "book" "LMarkPages$RuleBook;", Cond.methodLink RX9 109 yX3_measure, Cond.instanceMethod yX3_measure, Cond.selects RX3 yX3_measure yX3_measure, Cond.code yX3_measure cX3_measure 5 none, Cond.fieldLink RX3 21 "MarkPages$Papers" "medians" "[I", Cond.methodLink RX3 45 yJ6_bitCount_0f7a4, Cond.methodLink RX3 50 yX3_shareBy, Cond.instanceMethod yX3_shareBy, Cond.selects RX3 yX3_shareBy yX3_shareBy, Cond.code yX3_shareBy cX3_shareBy 6 (some .int), Cond.fieldLink RX3 9 "MarkPages$Papers" "mosts" "[I", Cond.methodLink RX3 53 yX3_missedBy, Cond.instanceMethod yX3_missedBy, Cond.selects RX3 yX3_missedBy yX3_missedBy, Cond.code yX3_missedBy cX3_missedBy 5 (some .int), Cond.methodLink RX3 56 yX3_lastOf, Cond.instanceMethod yX3_lastOf, Cond.selects RX3 yX3_lastOf yX3_lastOf, Cond.code yX3_lastOf cX3_lastOf 4 (some .int), Cond.methodLink RX9 207 yX0_isSo]
def wsX9_bearersOf_r3 : List Cond := [Cond.instanceMethod yX0_isSo, Cond.selects RX0 yX0_isSo yX0_isSo, Cond.initialized RX0, Cond.code yX0_isSo cX0_isSo 5 (some .boolean), Cond.fieldLink RX0 15 "MarkPages$Judge" "height" "I", Cond.fieldLink RX0 19 "MarkPages$RuleBook" "starts" "[I", Cond.fieldLink RX0 24 "MarkPages$RuleBook" "code" "[I", Cond.methodLink RX0 27 yX0_take, Cond.instanceMethod yX0_take, Cond.selects RX0 yX0_take yX0_take, Cond.code yX0_take cX0_take 5 none, Cond.methodLink RX0 35 yX0_push, Cond.instanceMethod yX0_push, Cond.selects RX0 yX0_push yX0_push, Cond.code yX0_push cX0_push 2 none, Cond.fieldLink RX0 9 "MarkPages$Judge" "pile" "[I", Cond.methodLink RX0 31 yX0_pop, Cond.instanceMethod yX0_pop, Cond.selects RX0 yX0_pop yX0_pop, Cond.code yX0_pop cX0_pop 1 (some .int), Cond.methodLink RX0 39 yX0_truth, Cond.static yX0_truth, Cond.code yX0_truth cX0_truth 1 (some .int), Cond.methodLink RX0 43 yX0_join]
def wsX9_bearersOf_r4 : List Cond := [Cond.static yX0_join, Cond.code yX0_join cX0_join 3 (some .int)]
def wsX9_bearersOf : List Cond := .code yX9_bearersOf cX9_bearersOf 9 (some .int) :: ((wsX9_bearersOf_r1 ++ (wsX9_bearersOf_r2 ++ (wsX9_bearersOf_r3 ++ wsX9_bearersOf_r4))) ++ wsX90 ++ wsX30 ++ wsX00 ++ wsX40)
def wsX9_line_r1 : List Cond := [Cond.fieldLink RX9 156 "MarkPages$Page" "count" "I", Cond.fieldLink RX9 157 "MarkPages$Page" "sayings" "[I", Cond.fieldLink RX9 160 "MarkPages$Page" "skills" "[I", Cond.fieldLink RX9 163 "MarkPages$Page" "ruleNumbers" "[I", Cond.methodLink RX9 83 yX9_isPupil, Cond.static yX9_isPupil, Cond.initialized RX9, Cond.code yX9_isPupil cX9_isPupil 1 (some .boolean), Cond.methodLink RX9 152 yX9_freshPage, Cond.instanceMethod yX9_freshPage, Cond.selects RX9 yX9_freshPage yX9_freshPage, Cond.code yX9_freshPage cX9_freshPage 4 (some (.object "MarkPages$Page")), Cond.fieldLink RX9 51 "MarkPages" "pages" "[LMarkPages$Page;", Cond.fieldLink RX9 12 "MarkPages" "papers" "LMarkPages$Papers;", Cond.fieldLink RX9 57 "MarkPages" "measures" "[[I", Cond.fieldLink RX9 74 "MarkPages" "book" "LMarkPages$RuleBook;", Cond.fieldLink RX9 135 "MarkPages$RuleBook" "count" "I", Cond.methodLink RX9 106 yX3_markedOf, Cond.instanceMethod yX3_markedOf, Cond.selects RX3 yX3_markedOf yX3_markedOf, Cond.initialized RX3, Cond.code yX3_markedOf cX3_markedOf 5 (some .int), Cond.fieldLink RX3 33 "MarkPages$Papers" "count" "I", Cond.fieldLink RX3 15 "MarkPages$Papers" "skillSets" "[I"]
def wsX9_line_r2 : List Cond := [Cond.methodLink RX3 41 yX3_pointsOf, Cond.instanceMethod yX3_pointsOf, Cond.selects RX3 yX3_pointsOf yX3_pointsOf, Cond.code yX3_pointsOf cX3_pointsOf 3 (some .int), Cond.fieldLink RX3 18 "MarkPages$Papers" "points" "[I", Cond.methodLink RX9 109 yX3_measure, Cond.instanceMethod yX3_measure, Cond.selects RX3 yX3_measure yX3_measure, Cond.code yX3_measure cX3_measure 5 none, Cond.fieldLink RX3 21 "MarkPages$Papers" "medians" "[I", Cond.methodLink RX3 45 yJ6_bitCount_0f7a4, Cond.static yJ6_bitCount_0f7a4, Cond.initialized RJ6, Cond.code yJ6_bitCount_0f7a4 cJ6_bitCount_0f7a4 1 (some .int), Cond.constant RJ6 265 (1431655765), Cond.constant RJ6 266 (858993459), Cond.constant RJ6 267 (252645135), Cond.methodLink RX3 50 yX3_shareBy, Cond.instanceMethod yX3_shareBy, Cond.selects RX3 yX3_shareBy yX3_shareBy, Cond.code yX3_shareBy cX3_shareBy 6 (some .int), Cond.fieldLink RX3 9 "MarkPages$Papers" "mosts" "[I", Cond.methodLink RX3 53 yX3_missedBy, Cond.instanceMethod yX3_missedBy]
def wsX9_line_r3 : List Cond := [Cond.selects RX3 yX3_missedBy yX3_missedBy, Cond.code yX3_missedBy cX3_missedBy 5 (some .int), Cond.methodLink RX3 56 yX3_lastOf, Cond.instanceMethod yX3_lastOf, Cond.selects RX3 yX3_lastOf yX3_lastOf, Cond.code yX3_lastOf cX3_lastOf 4 (some .int), Cond.methodLink RX9 199 yX9_addLinesOf, Cond.instanceMethod yX9_addLinesOf, Cond.selects RX9 yX9_addLinesOf yX9_addLinesOf, Cond.code yX9_addLinesOf cX9_addLinesOf 6 none, Cond.fieldLink RX9 203 "MarkPages$RuleBook" "sayings" "[I", Cond.fieldLink RX9 33 "MarkPages" "judge" "LMarkPages$Judge;", Cond.methodLink RX9 204 yX4_isFor, Cond.instanceMethod yX4_isFor, Cond.selects RX4 yX4_isFor yX4_isFor, Cond.initialized RX4, Cond.code yX4_isFor cX4_isFor 3 (some .boolean), Cond.fieldLink RX4 15 "MarkPages$RuleBook" "skills" "[I", Cond.methodLink RX9 181 yX2_hasSort, Cond.instanceMethod yX2_hasSort, Cond.selects RX2 yX2_hasSort yX2_hasSort, Cond.initialized RX2, Cond.code yX2_hasSort cX2_hasSort 4 (some .boolean), Cond.fieldLink RX2 21 "MarkPages$Page" "count" "I"]
def wsX9_line_r4 : List Cond := [Cond.fieldLink RX2 15 "MarkPages$Page" "skills" "[I", Cond.fieldLink RX2 9 "MarkPages$Page" "sayings" "[I", Cond.methodLink RX9 207 yX0_isSo, Cond.instanceMethod yX0_isSo, Cond.selects RX0 yX0_isSo yX0_isSo, Cond.initialized RX0, Cond.code yX0_isSo cX0_isSo 5 (some .boolean), Cond.fieldLink RX0 15 "MarkPages$Judge" "height" "I", Cond.fieldLink RX0 19 "MarkPages$RuleBook" "starts" "[I", Cond.fieldLink RX0 24 "MarkPages$RuleBook" "code" "[I", Cond.methodLink RX0 27 yX0_take, Cond.instanceMethod yX0_take, Cond.selects RX0 yX0_take yX0_take, Cond.code yX0_take cX0_take 5 none, Cond.methodLink RX0 35 yX0_push, Cond.instanceMethod yX0_push, Cond.selects RX0 yX0_push yX0_push, Cond.code yX0_push cX0_push 2 none, Cond.fieldLink RX0 9 "MarkPages$Judge" "pile" "[I", Cond.methodLink RX0 31 yX0_pop, Cond.instanceMethod yX0_pop, Cond.selects RX0 yX0_pop yX0_pop, Cond.code yX0_pop cX0_pop 1 (some .int), Cond.methodLink RX0 39 yX0_truth]
def wsX9_line_r5 : List Cond := [Cond.static yX0_truth, Cond.code yX0_truth cX0_truth 1 (some .int), Cond.methodLink RX0 43 yX0_join, Cond.static yX0_join, Cond.code yX0_join cX0_join 3 (some .int), Cond.methodLink RX9 211 yX2_add, Cond.instanceMethod yX2_add, Cond.selects RX2 yX2_add yX2_add, Cond.code yX2_add cX2_add 4 none, Cond.fieldLink RX2 18 "MarkPages$Page" "ruleNumbers" "[I", Cond.methodLink RX9 166 yX9_bearersOf, Cond.instanceMethod yX9_bearersOf, Cond.selects RX9 yX9_bearersOf yX9_bearersOf, Cond.code yX9_bearersOf cX9_bearersOf 9 (some .int), Cond.methodLink RX9 214 yJ6_bitCount_0f7a4, Cond.methodLink RX9 219 yX9_bears, Cond.instanceMethod yX9_bears, Cond.selects RX9 yX9_bears yX9_bears, Cond.code yX9_bears cX9_bears 5 (some .boolean), Cond.fieldLink RX9 60 "MarkPages" "trial" "[I"]
def wsX9_line : List Cond := .code yX9_line cX9_line 5 (some .int) :: ((wsX9_line_r1 ++ (wsX9_line_r2 ++ (wsX9_line_r3 ++ (wsX9_line_r4 ++ wsX9_line_r5)))) ++ wsX20 ++ wsX90 ++ wsX40 ++ wsX30 ++ wsX00)
def wsX9_writeName : List Cond := .code yX9_writeName cX9_writeName 3 none :: ([.fieldLink RX9 46 "MarkPages" "names" "LMarkPages$Texts;", .fieldLink RX9 223 "MarkPages$Texts" "lengths" "[I", .fieldLink RX9 67 "MarkPages" "written" "LMarkPages$Out;", .methodLink RX9 226 yX7_byteAt, .instanceMethod yX7_byteAt, .selects RX7 yX7_byteAt yX7_byteAt, .initialized RX7, .code yX7_byteAt cX7_byteAt 3 (some .int), .fieldLink RX7 17 "MarkPages$Texts" "bytes" "[I", .fieldLink RX7 7 "MarkPages$Texts" "width" "I", .methodLink RX9 235 yX1_put, .instanceMethod yX1_put, .selects RX1 yX1_put yX1_put, .initialized RX1, .code yX1_put cX1_put 2 none, .fieldLink RX1 15 "MarkPages$Out" "count" "I", .fieldLink RX1 9 "MarkPages$Out" "bytes" "[I"] ++ wsX90 ++ wsX70 ++ wsX10)
def wsX9_writeLine_r1 : List Cond := [Cond.fieldLink RX9 42 "MarkPages" "phrases" "LMarkPages$Texts;", Cond.fieldLink RX9 223 "MarkPages$Texts" "lengths" "[I", Cond.fieldLink RX9 67 "MarkPages" "written" "LMarkPages$Out;", Cond.fieldLink RX9 57 "MarkPages" "measures" "[[I", Cond.methodLink RX9 145 yX9_rowOf, Cond.static yX9_rowOf, Cond.initialized RX9, Cond.code yX9_rowOf cX9_rowOf 2 (some .int), Cond.methodLink RX9 226 yX7_byteAt, Cond.instanceMethod yX7_byteAt, Cond.selects RX7 yX7_byteAt yX7_byteAt, Cond.initialized RX7, Cond.code yX7_byteAt cX7_byteAt 3 (some .int), Cond.fieldLink RX7 17 "MarkPages$Texts" "bytes" "[I", Cond.fieldLink RX7 7 "MarkPages$Texts" "width" "I", Cond.methodLink RX9 229 yX9_writeName, Cond.instanceMethod yX9_writeName, Cond.selects RX9 yX9_writeName yX9_writeName, Cond.code yX9_writeName cX9_writeName 3 none, Cond.fieldLink RX9 46 "MarkPages" "names" "LMarkPages$Texts;", Cond.methodLink RX9 235 yX1_put, Cond.instanceMethod yX1_put, Cond.selects RX1 yX1_put yX1_put, Cond.initialized RX1]
def wsX9_writeLine_r2 : List Cond := [Cond.code yX1_put cX1_put 2 none, Cond.fieldLink RX1 15 "MarkPages$Out" "count" "I", Cond.fieldLink RX1 9 "MarkPages$Out" "bytes" "[I", Cond.methodLink RX9 232 yX1_putNumber, Cond.instanceMethod yX1_putNumber, Cond.selects RX1 yX1_putNumber yX1_putNumber, Cond.code yX1_putNumber cX1_putNumber 2 none, Cond.methodLink RX1 19 yX1_put]
def wsX9_writeLine : List Cond := .code yX9_writeLine cX9_writeLine 7 none :: ((wsX9_writeLine_r1 ++ wsX9_writeLine_r2) ++ wsX90 ++ wsX70 ++ wsX10)
def wsX9_write_r1 : List Cond := [Cond.fieldLink RX9 67 "MarkPages" "written" "LMarkPages$Out;", Cond.fieldLink RX9 170 "MarkPages$Out" "count" "I", Cond.fieldLink RX9 156 "MarkPages$Page" "count" "I", Cond.fieldLink RX9 157 "MarkPages$Page" "sayings" "[I", Cond.fieldLink RX9 160 "MarkPages$Page" "skills" "[I", Cond.methodLink RX9 83 yX9_isPupil, Cond.static yX9_isPupil, Cond.initialized RX9, Cond.code yX9_isPupil cX9_isPupil 1 (some .boolean), Cond.methodLink RX9 142 yX9_isTongue, Cond.static yX9_isTongue, Cond.code yX9_isTongue cX9_isTongue 1 (some .boolean), Cond.methodLink RX9 152 yX9_freshPage, Cond.instanceMethod yX9_freshPage, Cond.selects RX9 yX9_freshPage yX9_freshPage, Cond.code yX9_freshPage cX9_freshPage 4 (some (.object "MarkPages$Page")), Cond.fieldLink RX9 51 "MarkPages" "pages" "[LMarkPages$Page;", Cond.fieldLink RX9 12 "MarkPages" "papers" "LMarkPages$Papers;", Cond.fieldLink RX9 57 "MarkPages" "measures" "[[I", Cond.fieldLink RX9 74 "MarkPages" "book" "LMarkPages$RuleBook;", Cond.fieldLink RX9 135 "MarkPages$RuleBook" "count" "I", Cond.methodLink RX9 106 yX3_markedOf, Cond.instanceMethod yX3_markedOf, Cond.selects RX3 yX3_markedOf yX3_markedOf]
def wsX9_write_r2 : List Cond := [Cond.initialized RX3, Cond.code yX3_markedOf cX3_markedOf 5 (some .int), Cond.fieldLink RX3 33 "MarkPages$Papers" "count" "I", Cond.fieldLink RX3 15 "MarkPages$Papers" "skillSets" "[I", Cond.methodLink RX3 41 yX3_pointsOf, Cond.instanceMethod yX3_pointsOf, Cond.selects RX3 yX3_pointsOf yX3_pointsOf, Cond.code yX3_pointsOf cX3_pointsOf 3 (some .int), Cond.fieldLink RX3 18 "MarkPages$Papers" "points" "[I", Cond.methodLink RX9 109 yX3_measure, Cond.instanceMethod yX3_measure, Cond.selects RX3 yX3_measure yX3_measure, Cond.code yX3_measure cX3_measure 5 none, Cond.fieldLink RX3 21 "MarkPages$Papers" "medians" "[I", Cond.methodLink RX3 45 yJ6_bitCount_0f7a4, Cond.static yJ6_bitCount_0f7a4, Cond.initialized RJ6, Cond.code yJ6_bitCount_0f7a4 cJ6_bitCount_0f7a4 1 (some .int), Cond.constant RJ6 265 (1431655765), Cond.constant RJ6 266 (858993459), Cond.constant RJ6 267 (252645135), Cond.methodLink RX3 50 yX3_shareBy, Cond.instanceMethod yX3_shareBy, Cond.selects RX3 yX3_shareBy yX3_shareBy]
def wsX9_write_r3 : List Cond := [Cond.code yX3_shareBy cX3_shareBy 6 (some .int), Cond.fieldLink RX3 9 "MarkPages$Papers" "mosts" "[I", Cond.methodLink RX3 53 yX3_missedBy, Cond.instanceMethod yX3_missedBy, Cond.selects RX3 yX3_missedBy yX3_missedBy, Cond.code yX3_missedBy cX3_missedBy 5 (some .int), Cond.methodLink RX3 56 yX3_lastOf, Cond.instanceMethod yX3_lastOf, Cond.selects RX3 yX3_lastOf yX3_lastOf, Cond.code yX3_lastOf cX3_lastOf 4 (some .int), Cond.methodLink RX9 199 yX9_addLinesOf, Cond.instanceMethod yX9_addLinesOf, Cond.selects RX9 yX9_addLinesOf yX9_addLinesOf, Cond.code yX9_addLinesOf cX9_addLinesOf 6 none, Cond.fieldLink RX9 203 "MarkPages$RuleBook" "sayings" "[I", Cond.fieldLink RX9 33 "MarkPages" "judge" "LMarkPages$Judge;", Cond.methodLink RX9 204 yX4_isFor, Cond.instanceMethod yX4_isFor, Cond.selects RX4 yX4_isFor yX4_isFor, Cond.initialized RX4, Cond.code yX4_isFor cX4_isFor 3 (some .boolean), Cond.fieldLink RX4 15 "MarkPages$RuleBook" "skills" "[I", Cond.methodLink RX9 181 yX2_hasSort, Cond.instanceMethod yX2_hasSort]
def wsX9_write_r4 : List Cond := [Cond.selects RX2 yX2_hasSort yX2_hasSort, Cond.initialized RX2, Cond.code yX2_hasSort cX2_hasSort 4 (some .boolean), Cond.fieldLink RX2 21 "MarkPages$Page" "count" "I", Cond.fieldLink RX2 15 "MarkPages$Page" "skills" "[I", Cond.fieldLink RX2 9 "MarkPages$Page" "sayings" "[I", Cond.methodLink RX9 207 yX0_isSo, Cond.instanceMethod yX0_isSo, Cond.selects RX0 yX0_isSo yX0_isSo, Cond.initialized RX0, Cond.code yX0_isSo cX0_isSo 5 (some .boolean), Cond.fieldLink RX0 15 "MarkPages$Judge" "height" "I", Cond.fieldLink RX0 19 "MarkPages$RuleBook" "starts" "[I", Cond.fieldLink RX0 24 "MarkPages$RuleBook" "code" "[I", Cond.methodLink RX0 27 yX0_take, Cond.instanceMethod yX0_take, Cond.selects RX0 yX0_take yX0_take, Cond.code yX0_take cX0_take 5 none, Cond.methodLink RX0 35 yX0_push, Cond.instanceMethod yX0_push, Cond.selects RX0 yX0_push yX0_push, Cond.code yX0_push cX0_push 2 none, Cond.fieldLink RX0 9 "MarkPages$Judge" "pile" "[I", Cond.methodLink RX0 31 yX0_pop]
def wsX9_write_r5 : List Cond := [Cond.instanceMethod yX0_pop, Cond.selects RX0 yX0_pop yX0_pop, Cond.code yX0_pop cX0_pop 1 (some .int), Cond.methodLink RX0 39 yX0_truth, Cond.static yX0_truth, Cond.code yX0_truth cX0_truth 1 (some .int), Cond.methodLink RX0 43 yX0_join, Cond.static yX0_join, Cond.code yX0_join cX0_join 3 (some .int), Cond.methodLink RX9 211 yX2_add, Cond.instanceMethod yX2_add, Cond.selects RX2 yX2_add yX2_add, Cond.code yX2_add cX2_add 4 none, Cond.fieldLink RX2 18 "MarkPages$Page" "ruleNumbers" "[I", Cond.methodLink RX9 171 yX9_writeLine, Cond.instanceMethod yX9_writeLine, Cond.selects RX9 yX9_writeLine yX9_writeLine, Cond.code yX9_writeLine cX9_writeLine 7 none, Cond.fieldLink RX9 42 "MarkPages" "phrases" "LMarkPages$Texts;", Cond.fieldLink RX9 223 "MarkPages$Texts" "lengths" "[I", Cond.methodLink RX9 145 yX9_rowOf, Cond.static yX9_rowOf, Cond.code yX9_rowOf cX9_rowOf 2 (some .int), Cond.methodLink RX9 226 yX7_byteAt]
def wsX9_write_r6 : List Cond := [Cond.instanceMethod yX7_byteAt, Cond.selects RX7 yX7_byteAt yX7_byteAt, Cond.initialized RX7, Cond.code yX7_byteAt cX7_byteAt 3 (some .int), Cond.fieldLink RX7 17 "MarkPages$Texts" "bytes" "[I", Cond.fieldLink RX7 7 "MarkPages$Texts" "width" "I", Cond.methodLink RX9 229 yX9_writeName, Cond.instanceMethod yX9_writeName, Cond.selects RX9 yX9_writeName yX9_writeName, Cond.code yX9_writeName cX9_writeName 3 none, Cond.fieldLink RX9 46 "MarkPages" "names" "LMarkPages$Texts;", Cond.methodLink RX9 235 yX1_put, Cond.instanceMethod yX1_put, Cond.selects RX1 yX1_put yX1_put, Cond.initialized RX1, Cond.code yX1_put cX1_put 2 none, Cond.fieldLink RX1 15 "MarkPages$Out" "count" "I", Cond.fieldLink RX1 9 "MarkPages$Out" "bytes" "[I", Cond.methodLink RX9 232 yX1_putNumber, Cond.instanceMethod yX1_putNumber, Cond.selects RX1 yX1_putNumber yX1_putNumber, Cond.code yX1_putNumber cX1_putNumber 2 none, Cond.methodLink RX1 19 yX1_put]
def wsX9_write : List Cond := .code yX9_write cX9_write 5 (some .int) :: ((wsX9_write_r1 ++ (wsX9_write_r2 ++ (wsX9_write_r3 ++ (wsX9_write_r4 ++ (wsX9_write_r5 ++ wsX9_write_r6))))) ++ wsX90 ++ wsX10 ++ wsX20 ++ wsX40 ++ wsX30 ++ wsX00 ++ wsX70)
def wsX9_out : List Cond := .code yX9_out cX9_out 2 (some .int) :: ([.fieldLink RX9 67 "MarkPages" "written" "LMarkPages$Out;", .fieldLink RX9 170 "MarkPages$Out" "count" "I", .fieldLink RX9 174 "MarkPages$Out" "bytes" "[I"] ++ wsX90 ++ wsX10)
def wsX9_alike_r1 : List Cond := [Cond.methodLink RX9 83 yX9_isPupil, Cond.static yX9_isPupil, Cond.initialized RX9, Cond.code yX9_isPupil cX9_isPupil 1 (some .boolean), Cond.methodLink RX9 152 yX9_freshPage, Cond.instanceMethod yX9_freshPage, Cond.selects RX9 yX9_freshPage yX9_freshPage, Cond.code yX9_freshPage cX9_freshPage 4 (some (.object "MarkPages$Page")), Cond.fieldLink RX9 51 "MarkPages" "pages" "[LMarkPages$Page;", Cond.fieldLink RX9 156 "MarkPages$Page" "count" "I", Cond.fieldLink RX9 12 "MarkPages" "papers" "LMarkPages$Papers;", Cond.fieldLink RX9 57 "MarkPages" "measures" "[[I", Cond.fieldLink RX9 74 "MarkPages" "book" "LMarkPages$RuleBook;", Cond.fieldLink RX9 135 "MarkPages$RuleBook" "count" "I", Cond.methodLink RX9 106 yX3_markedOf, Cond.instanceMethod yX3_markedOf, Cond.selects RX3 yX3_markedOf yX3_markedOf, Cond.initialized RX3, Cond.code yX3_markedOf cX3_markedOf 5 (some .int), Cond.fieldLink RX3 33 "MarkPages$Papers" "count" "I", Cond.fieldLink RX3 15 "MarkPages$Papers" "skillSets" "[I", Cond.methodLink RX3 41 yX3_pointsOf, Cond.instanceMethod yX3_pointsOf, Cond.selects RX3 yX3_pointsOf yX3_pointsOf]
def wsX9_alike_r2 : List Cond := [Cond.code yX3_pointsOf cX3_pointsOf 3 (some .int), Cond.fieldLink RX3 18 "MarkPages$Papers" "points" "[I", Cond.methodLink RX9 109 yX3_measure, Cond.instanceMethod yX3_measure, Cond.selects RX3 yX3_measure yX3_measure, Cond.code yX3_measure cX3_measure 5 none, Cond.fieldLink RX3 21 "MarkPages$Papers" "medians" "[I", Cond.methodLink RX3 45 yJ6_bitCount_0f7a4, Cond.static yJ6_bitCount_0f7a4, Cond.initialized RJ6, Cond.code yJ6_bitCount_0f7a4 cJ6_bitCount_0f7a4 1 (some .int), Cond.constant RJ6 265 (1431655765), Cond.constant RJ6 266 (858993459), Cond.constant RJ6 267 (252645135), Cond.methodLink RX3 50 yX3_shareBy, Cond.instanceMethod yX3_shareBy, Cond.selects RX3 yX3_shareBy yX3_shareBy, Cond.code yX3_shareBy cX3_shareBy 6 (some .int), Cond.fieldLink RX3 9 "MarkPages$Papers" "mosts" "[I", Cond.methodLink RX3 53 yX3_missedBy, Cond.instanceMethod yX3_missedBy, Cond.selects RX3 yX3_missedBy yX3_missedBy, Cond.code yX3_missedBy cX3_missedBy 5 (some .int), Cond.methodLink RX3 56 yX3_lastOf]
def wsX9_alike_r3 : List Cond := [Cond.instanceMethod yX3_lastOf, Cond.selects RX3 yX3_lastOf yX3_lastOf, Cond.code yX3_lastOf cX3_lastOf 4 (some .int), Cond.methodLink RX9 199 yX9_addLinesOf, Cond.instanceMethod yX9_addLinesOf, Cond.selects RX9 yX9_addLinesOf yX9_addLinesOf, Cond.code yX9_addLinesOf cX9_addLinesOf 6 none, Cond.fieldLink RX9 203 "MarkPages$RuleBook" "sayings" "[I", Cond.fieldLink RX9 33 "MarkPages" "judge" "LMarkPages$Judge;", Cond.methodLink RX9 204 yX4_isFor, Cond.instanceMethod yX4_isFor, Cond.selects RX4 yX4_isFor yX4_isFor, Cond.initialized RX4, Cond.code yX4_isFor cX4_isFor 3 (some .boolean), Cond.fieldLink RX4 15 "MarkPages$RuleBook" "skills" "[I", Cond.methodLink RX9 181 yX2_hasSort, Cond.instanceMethod yX2_hasSort, Cond.selects RX2 yX2_hasSort yX2_hasSort, Cond.initialized RX2, Cond.code yX2_hasSort cX2_hasSort 4 (some .boolean), Cond.fieldLink RX2 21 "MarkPages$Page" "count" "I", Cond.fieldLink RX2 15 "MarkPages$Page" "skills" "[I", Cond.fieldLink RX2 9 "MarkPages$Page" "sayings" "[I", Cond.methodLink RX9 207 yX0_isSo]
def wsX9_alike_r4 : List Cond := [Cond.instanceMethod yX0_isSo, Cond.selects RX0 yX0_isSo yX0_isSo, Cond.initialized RX0, Cond.code yX0_isSo cX0_isSo 5 (some .boolean), Cond.fieldLink RX0 15 "MarkPages$Judge" "height" "I", Cond.fieldLink RX0 19 "MarkPages$RuleBook" "starts" "[I", Cond.fieldLink RX0 24 "MarkPages$RuleBook" "code" "[I", Cond.methodLink RX0 27 yX0_take, Cond.instanceMethod yX0_take, Cond.selects RX0 yX0_take yX0_take, Cond.code yX0_take cX0_take 5 none, Cond.methodLink RX0 35 yX0_push, Cond.instanceMethod yX0_push, Cond.selects RX0 yX0_push yX0_push, Cond.code yX0_push cX0_push 2 none, Cond.fieldLink RX0 9 "MarkPages$Judge" "pile" "[I", Cond.methodLink RX0 31 yX0_pop, Cond.instanceMethod yX0_pop, Cond.selects RX0 yX0_pop yX0_pop, Cond.code yX0_pop cX0_pop 1 (some .int), Cond.methodLink RX0 39 yX0_truth, Cond.static yX0_truth, Cond.code yX0_truth cX0_truth 1 (some .int), Cond.methodLink RX0 43 yX0_join]
def wsX9_alike_r5 : List Cond := [Cond.static yX0_join, Cond.code yX0_join cX0_join 3 (some .int), Cond.methodLink RX9 211 yX2_add, Cond.instanceMethod yX2_add, Cond.selects RX2 yX2_add yX2_add, Cond.code yX2_add cX2_add 4 none, Cond.fieldLink RX2 18 "MarkPages$Page" "ruleNumbers" "[I", Cond.methodLink RX9 177 yX2_sameLines, Cond.instanceMethod yX2_sameLines, Cond.selects RX2 yX2_sameLines yX2_sameLines, Cond.code yX2_sameLines cX2_sameLines 3 (some .boolean)]
def wsX9_alike : List Cond := .code yX9_alike cX9_alike 3 (some .int) :: ((wsX9_alike_r1 ++ (wsX9_alike_r2 ++ (wsX9_alike_r3 ++ (wsX9_alike_r4 ++ wsX9_alike_r5)))) ++ wsX90 ++ wsX20 ++ wsX40 ++ wsX30 ++ wsX00)
def wsX9_sheet_r1 : List Cond := [Cond.methodLink RX9 103 yX9_isSkill, Cond.static yX9_isSkill, Cond.initialized RX9, Cond.code yX9_isSkill cX9_isSkill 1 (some .boolean), Cond.methodLink RX9 152 yX9_freshPage, Cond.instanceMethod yX9_freshPage, Cond.selects RX9 yX9_freshPage yX9_freshPage, Cond.code yX9_freshPage cX9_freshPage 4 (some (.object "MarkPages$Page")), Cond.fieldLink RX9 51 "MarkPages" "pages" "[LMarkPages$Page;", Cond.fieldLink RX9 156 "MarkPages$Page" "count" "I", Cond.fieldLink RX9 12 "MarkPages" "papers" "LMarkPages$Papers;", Cond.fieldLink RX9 57 "MarkPages" "measures" "[[I", Cond.fieldLink RX9 74 "MarkPages" "book" "LMarkPages$RuleBook;", Cond.fieldLink RX9 135 "MarkPages$RuleBook" "count" "I", Cond.methodLink RX9 106 yX3_markedOf, Cond.instanceMethod yX3_markedOf, Cond.selects RX3 yX3_markedOf yX3_markedOf, Cond.initialized RX3, Cond.code yX3_markedOf cX3_markedOf 5 (some .int), Cond.fieldLink RX3 33 "MarkPages$Papers" "count" "I", Cond.fieldLink RX3 15 "MarkPages$Papers" "skillSets" "[I", Cond.methodLink RX3 41 yX3_pointsOf, Cond.instanceMethod yX3_pointsOf, Cond.selects RX3 yX3_pointsOf yX3_pointsOf]
def wsX9_sheet_r2 : List Cond := [Cond.code yX3_pointsOf cX3_pointsOf 3 (some .int), Cond.fieldLink RX3 18 "MarkPages$Papers" "points" "[I", Cond.methodLink RX9 109 yX3_measure, Cond.instanceMethod yX3_measure, Cond.selects RX3 yX3_measure yX3_measure, Cond.code yX3_measure cX3_measure 5 none, Cond.fieldLink RX3 21 "MarkPages$Papers" "medians" "[I", Cond.methodLink RX3 45 yJ6_bitCount_0f7a4, Cond.static yJ6_bitCount_0f7a4, Cond.initialized RJ6, Cond.code yJ6_bitCount_0f7a4 cJ6_bitCount_0f7a4 1 (some .int), Cond.constant RJ6 265 (1431655765), Cond.constant RJ6 266 (858993459), Cond.constant RJ6 267 (252645135), Cond.methodLink RX3 50 yX3_shareBy, Cond.instanceMethod yX3_shareBy, Cond.selects RX3 yX3_shareBy yX3_shareBy, Cond.code yX3_shareBy cX3_shareBy 6 (some .int), Cond.fieldLink RX3 9 "MarkPages$Papers" "mosts" "[I", Cond.methodLink RX3 53 yX3_missedBy, Cond.instanceMethod yX3_missedBy, Cond.selects RX3 yX3_missedBy yX3_missedBy, Cond.code yX3_missedBy cX3_missedBy 5 (some .int), Cond.methodLink RX3 56 yX3_lastOf]
def wsX9_sheet_r3 : List Cond := [Cond.instanceMethod yX3_lastOf, Cond.selects RX3 yX3_lastOf yX3_lastOf, Cond.code yX3_lastOf cX3_lastOf 4 (some .int), Cond.methodLink RX9 199 yX9_addLinesOf, Cond.instanceMethod yX9_addLinesOf, Cond.selects RX9 yX9_addLinesOf yX9_addLinesOf, Cond.code yX9_addLinesOf cX9_addLinesOf 6 none, Cond.fieldLink RX9 203 "MarkPages$RuleBook" "sayings" "[I", Cond.fieldLink RX9 33 "MarkPages" "judge" "LMarkPages$Judge;", Cond.methodLink RX9 204 yX4_isFor, Cond.instanceMethod yX4_isFor, Cond.selects RX4 yX4_isFor yX4_isFor, Cond.initialized RX4, Cond.code yX4_isFor cX4_isFor 3 (some .boolean), Cond.fieldLink RX4 15 "MarkPages$RuleBook" "skills" "[I", Cond.methodLink RX9 181 yX2_hasSort, Cond.instanceMethod yX2_hasSort, Cond.selects RX2 yX2_hasSort yX2_hasSort, Cond.initialized RX2, Cond.code yX2_hasSort cX2_hasSort 4 (some .boolean), Cond.fieldLink RX2 21 "MarkPages$Page" "count" "I", Cond.fieldLink RX2 15 "MarkPages$Page" "skills" "[I", Cond.fieldLink RX2 9 "MarkPages$Page" "sayings" "[I", Cond.methodLink RX9 207 yX0_isSo]
def wsX9_sheet_r4 : List Cond := [Cond.instanceMethod yX0_isSo, Cond.selects RX0 yX0_isSo yX0_isSo, Cond.initialized RX0, Cond.code yX0_isSo cX0_isSo 5 (some .boolean), Cond.fieldLink RX0 15 "MarkPages$Judge" "height" "I", Cond.fieldLink RX0 19 "MarkPages$RuleBook" "starts" "[I", Cond.fieldLink RX0 24 "MarkPages$RuleBook" "code" "[I", Cond.methodLink RX0 27 yX0_take, Cond.instanceMethod yX0_take, Cond.selects RX0 yX0_take yX0_take, Cond.code yX0_take cX0_take 5 none, Cond.methodLink RX0 35 yX0_push, Cond.instanceMethod yX0_push, Cond.selects RX0 yX0_push yX0_push, Cond.code yX0_push cX0_push 2 none, Cond.fieldLink RX0 9 "MarkPages$Judge" "pile" "[I", Cond.methodLink RX0 31 yX0_pop, Cond.instanceMethod yX0_pop, Cond.selects RX0 yX0_pop yX0_pop, Cond.code yX0_pop cX0_pop 1 (some .int), Cond.methodLink RX0 39 yX0_truth, Cond.static yX0_truth, Cond.code yX0_truth cX0_truth 1 (some .int), Cond.methodLink RX0 43 yX0_join]
def wsX9_sheet_r5 : List Cond := [Cond.static yX0_join, Cond.code yX0_join cX0_join 3 (some .int), Cond.methodLink RX9 211 yX2_add, Cond.instanceMethod yX2_add, Cond.selects RX2 yX2_add yX2_add, Cond.code yX2_add cX2_add 4 none, Cond.fieldLink RX2 18 "MarkPages$Page" "ruleNumbers" "[I"]
def wsX9_sheet : List Cond := .code yX9_sheet cX9_sheet 5 (some .int) :: ((wsX9_sheet_r1 ++ (wsX9_sheet_r2 ++ (wsX9_sheet_r3 ++ (wsX9_sheet_r4 ++ wsX9_sheet_r5)))) ++ wsX90 ++ wsX20 ++ wsX40 ++ wsX30 ++ wsX00)
def wsX9_leastAlike : List Cond := .code yX9_leastAlike cX9_leastAlike 3 (some .int) :: ([.fieldLink RX9 12 "MarkPages" "papers" "LMarkPages$Papers;", .fieldLink RX9 51 "MarkPages" "pages" "[LMarkPages$Page;", .methodLink RX9 185 yX3_hasMark, .instanceMethod yX3_hasMark, .selects RX3 yX3_hasMark yX3_hasMark, .initialized RX3, .code yX3_hasMark cX3_hasMark 3 (some .boolean), .fieldLink RX3 33 "MarkPages$Papers" "count" "I", .methodLink RX3 41 yX3_pointsOf, .instanceMethod yX3_pointsOf, .selects RX3 yX3_pointsOf yX3_pointsOf, .code yX3_pointsOf cX3_pointsOf 3 (some .int), .fieldLink RX3 18 "MarkPages$Papers" "points" "[I", .methodLink RX9 177 yX2_sameLines, .instanceMethod yX2_sameLines, .selects RX2 yX2_sameLines yX2_sameLines, .initialized RX2, .code yX2_sameLines cX2_sameLines 3 (some .boolean), .fieldLink RX2 21 "MarkPages$Page" "count" "I", .fieldLink RX2 9 "MarkPages$Page" "sayings" "[I", .fieldLink RX2 15 "MarkPages$Page" "skills" "[I"] ++ wsX90 ++ wsX30 ++ wsX20)
def wsX9_groupsBelow_r1 : List Cond := [Cond.fieldLink RX9 12 "MarkPages" "papers" "LMarkPages$Papers;", Cond.methodLink RX9 185 yX3_hasMark, Cond.instanceMethod yX3_hasMark, Cond.selects RX3 yX3_hasMark yX3_hasMark, Cond.initialized RX3, Cond.code yX3_hasMark cX3_hasMark 3 (some .boolean), Cond.fieldLink RX3 33 "MarkPages$Papers" "count" "I", Cond.methodLink RX3 41 yX3_pointsOf, Cond.instanceMethod yX3_pointsOf, Cond.selects RX3 yX3_pointsOf yX3_pointsOf, Cond.code yX3_pointsOf cX3_pointsOf 3 (some .int), Cond.fieldLink RX3 18 "MarkPages$Papers" "points" "[I", Cond.methodLink RX9 188 yX9_leastAlike, Cond.instanceMethod yX9_leastAlike, Cond.selects RX9 yX9_leastAlike yX9_leastAlike, Cond.initialized RX9, Cond.code yX9_leastAlike cX9_leastAlike 3 (some .int), Cond.fieldLink RX9 51 "MarkPages" "pages" "[LMarkPages$Page;", Cond.methodLink RX9 177 yX2_sameLines, Cond.instanceMethod yX2_sameLines, Cond.selects RX2 yX2_sameLines yX2_sameLines, Cond.initialized RX2, Cond.code yX2_sameLines cX2_sameLines 3 (some .boolean), Cond.fieldLink RX2 21 "MarkPages$Page" "count" "I"]
def wsX9_groupsBelow_r2 : List Cond := [Cond.fieldLink RX2 9 "MarkPages$Page" "sayings" "[I", Cond.fieldLink RX2 15 "MarkPages$Page" "skills" "[I"]
def wsX9_groupsBelow : List Cond := .code yX9_groupsBelow cX9_groupsBelow 4 (some .int) :: ((wsX9_groupsBelow_r1 ++ wsX9_groupsBelow_r2) ++ wsX90 ++ wsX30 ++ wsX20)
def wsX9_group_r1 : List Cond := [Cond.fieldLink RX9 12 "MarkPages" "papers" "LMarkPages$Papers;", Cond.methodLink RX9 83 yX9_isPupil, Cond.static yX9_isPupil, Cond.initialized RX9, Cond.code yX9_isPupil cX9_isPupil 1 (some .boolean), Cond.methodLink RX9 185 yX3_hasMark, Cond.instanceMethod yX3_hasMark, Cond.selects RX3 yX3_hasMark yX3_hasMark, Cond.initialized RX3, Cond.code yX3_hasMark cX3_hasMark 3 (some .boolean), Cond.fieldLink RX3 33 "MarkPages$Papers" "count" "I", Cond.methodLink RX3 41 yX3_pointsOf, Cond.instanceMethod yX3_pointsOf, Cond.selects RX3 yX3_pointsOf yX3_pointsOf, Cond.code yX3_pointsOf cX3_pointsOf 3 (some .int), Cond.fieldLink RX3 18 "MarkPages$Papers" "points" "[I", Cond.methodLink RX9 152 yX9_freshPage, Cond.instanceMethod yX9_freshPage, Cond.selects RX9 yX9_freshPage yX9_freshPage, Cond.code yX9_freshPage cX9_freshPage 4 (some (.object "MarkPages$Page")), Cond.fieldLink RX9 51 "MarkPages" "pages" "[LMarkPages$Page;", Cond.fieldLink RX9 156 "MarkPages$Page" "count" "I", Cond.fieldLink RX9 57 "MarkPages" "measures" "[[I", Cond.fieldLink RX9 74 "MarkPages" "book" "LMarkPages$RuleBook;"]
def wsX9_group_r2 : List Cond := [Cond.fieldLink RX9 135 "MarkPages$RuleBook" "count" "I", Cond.methodLink RX9 106 yX3_markedOf, Cond.instanceMethod yX3_markedOf, Cond.selects RX3 yX3_markedOf yX3_markedOf, Cond.code yX3_markedOf cX3_markedOf 5 (some .int), Cond.fieldLink RX3 15 "MarkPages$Papers" "skillSets" "[I", Cond.methodLink RX9 109 yX3_measure, Cond.instanceMethod yX3_measure, Cond.selects RX3 yX3_measure yX3_measure, Cond.code yX3_measure cX3_measure 5 none, Cond.fieldLink RX3 21 "MarkPages$Papers" "medians" "[I", Cond.methodLink RX3 45 yJ6_bitCount_0f7a4, Cond.static yJ6_bitCount_0f7a4, Cond.initialized RJ6, Cond.code yJ6_bitCount_0f7a4 cJ6_bitCount_0f7a4 1 (some .int), Cond.constant RJ6 265 (1431655765), Cond.constant RJ6 266 (858993459), Cond.constant RJ6 267 (252645135), Cond.methodLink RX3 50 yX3_shareBy, Cond.instanceMethod yX3_shareBy, Cond.selects RX3 yX3_shareBy yX3_shareBy, Cond.code yX3_shareBy cX3_shareBy 6 (some .int), Cond.fieldLink RX3 9 "MarkPages$Papers" "mosts" "[I", Cond.methodLink RX3 53 yX3_missedBy]
def wsX9_group_r3 : List Cond := [Cond.instanceMethod yX3_missedBy, Cond.selects RX3 yX3_missedBy yX3_missedBy, Cond.code yX3_missedBy cX3_missedBy 5 (some .int), Cond.methodLink RX3 56 yX3_lastOf, Cond.instanceMethod yX3_lastOf, Cond.selects RX3 yX3_lastOf yX3_lastOf, Cond.code yX3_lastOf cX3_lastOf 4 (some .int), Cond.methodLink RX9 199 yX9_addLinesOf, Cond.instanceMethod yX9_addLinesOf, Cond.selects RX9 yX9_addLinesOf yX9_addLinesOf, Cond.code yX9_addLinesOf cX9_addLinesOf 6 none, Cond.fieldLink RX9 203 "MarkPages$RuleBook" "sayings" "[I", Cond.fieldLink RX9 33 "MarkPages" "judge" "LMarkPages$Judge;", Cond.methodLink RX9 204 yX4_isFor, Cond.instanceMethod yX4_isFor, Cond.selects RX4 yX4_isFor yX4_isFor, Cond.initialized RX4, Cond.code yX4_isFor cX4_isFor 3 (some .boolean), Cond.fieldLink RX4 15 "MarkPages$RuleBook" "skills" "[I", Cond.methodLink RX9 181 yX2_hasSort, Cond.instanceMethod yX2_hasSort, Cond.selects RX2 yX2_hasSort yX2_hasSort, Cond.initialized RX2, Cond.code yX2_hasSort cX2_hasSort 4 (some .boolean)]
def wsX9_group_r4 : List Cond := [Cond.fieldLink RX2 21 "MarkPages$Page" "count" "I", Cond.fieldLink RX2 15 "MarkPages$Page" "skills" "[I", Cond.fieldLink RX2 9 "MarkPages$Page" "sayings" "[I", Cond.methodLink RX9 207 yX0_isSo, Cond.instanceMethod yX0_isSo, Cond.selects RX0 yX0_isSo yX0_isSo, Cond.initialized RX0, Cond.code yX0_isSo cX0_isSo 5 (some .boolean), Cond.fieldLink RX0 15 "MarkPages$Judge" "height" "I", Cond.fieldLink RX0 19 "MarkPages$RuleBook" "starts" "[I", Cond.fieldLink RX0 24 "MarkPages$RuleBook" "code" "[I", Cond.methodLink RX0 27 yX0_take, Cond.instanceMethod yX0_take, Cond.selects RX0 yX0_take yX0_take, Cond.code yX0_take cX0_take 5 none, Cond.methodLink RX0 35 yX0_push, Cond.instanceMethod yX0_push, Cond.selects RX0 yX0_push yX0_push, Cond.code yX0_push cX0_push 2 none, Cond.fieldLink RX0 9 "MarkPages$Judge" "pile" "[I", Cond.methodLink RX0 31 yX0_pop, Cond.instanceMethod yX0_pop, Cond.selects RX0 yX0_pop yX0_pop, Cond.code yX0_pop cX0_pop 1 (some .int)]
def wsX9_group_r5 : List Cond := [Cond.methodLink RX0 39 yX0_truth, Cond.static yX0_truth, Cond.code yX0_truth cX0_truth 1 (some .int), Cond.methodLink RX0 43 yX0_join, Cond.static yX0_join, Cond.code yX0_join cX0_join 3 (some .int), Cond.methodLink RX9 211 yX2_add, Cond.instanceMethod yX2_add, Cond.selects RX2 yX2_add yX2_add, Cond.code yX2_add cX2_add 4 none, Cond.fieldLink RX2 18 "MarkPages$Page" "ruleNumbers" "[I", Cond.methodLink RX9 188 yX9_leastAlike, Cond.instanceMethod yX9_leastAlike, Cond.selects RX9 yX9_leastAlike yX9_leastAlike, Cond.code yX9_leastAlike cX9_leastAlike 3 (some .int), Cond.methodLink RX9 177 yX2_sameLines, Cond.instanceMethod yX2_sameLines, Cond.selects RX2 yX2_sameLines yX2_sameLines, Cond.code yX2_sameLines cX2_sameLines 3 (some .boolean), Cond.methodLink RX9 192 yX9_groupsBelow, Cond.instanceMethod yX9_groupsBelow, Cond.selects RX9 yX9_groupsBelow yX9_groupsBelow, Cond.code yX9_groupsBelow cX9_groupsBelow 4 (some .int)]
def wsX9_group : List Cond := .code yX9_group cX9_group 4 (some .int) :: ((wsX9_group_r1 ++ (wsX9_group_r2 ++ (wsX9_group_r3 ++ (wsX9_group_r4 ++ wsX9_group_r5)))) ++ wsX90 ++ wsX30 ++ wsX20 ++ wsX40 ++ wsX00)
def wsX10_init_r1 : List Cond := [Cond.methodLink RX10 1 objectInit, Cond.instanceMethod objectInit, Cond.code objectInit ⟨#[0xb1]⟩ 1 none, Cond.arrayClass .int, Cond.fieldLink RX10 7 "MarkPagesModel" "most" "[I", Cond.fieldLink RX10 13 "MarkPagesModel" "skills" "[I", Cond.fieldLink RX10 16 "MarkPagesModel" "points" "[I", Cond.fieldLink RX10 19 "MarkPagesModel" "row" "[I", Cond.fieldLink RX10 22 "MarkPagesModel" "saying" "[I", Cond.fieldLink RX10 25 "MarkPagesModel" "skillOf" "[I", Cond.fieldLink RX10 28 "MarkPagesModel" "from" "[I", Cond.fieldLink RX10 31 "MarkPagesModel" "step" "[I", Cond.fieldLink RX10 34 "MarkPagesModel" "freshSaying" "[I", Cond.fieldLink RX10 37 "MarkPagesModel" "freshSkill" "[I", Cond.fieldLink RX10 40 "MarkPagesModel" "freshFrom" "[I", Cond.fieldLink RX10 43 "MarkPagesModel" "fresh" "[I", Cond.fieldLink RX10 46 "MarkPagesModel" "pile" "[I", Cond.fieldLink RX10 49 "MarkPagesModel" "tape" "[I", Cond.fieldLink RX10 52 "MarkPagesModel" "faultPlace" "I", Cond.fieldLink RX10 56 "MarkPagesModel" "lineRule" "[I", Cond.fieldLink RX10 59 "MarkPagesModel" "lineSkill" "[I", Cond.fieldLink RX10 62 "MarkPagesModel" "phraseLong" "[I", Cond.fieldLink RX10 65 "MarkPagesModel" "phrase" "[I", Cond.fieldLink RX10 68 "MarkPagesModel" "nameLong" "[I"]
def wsX10_init_r2 : List Cond := [Cond.fieldLink RX10 71 "MarkPagesModel" "name" "[I", Cond.fieldLink RX10 74 "MarkPagesModel" "out" "[I", Cond.fieldLink RX10 77 "MarkPagesModel" "sayings" "[I", Cond.fieldLink RX10 80 "MarkPagesModel" "others" "[I"]
def wsX10_init : List Cond := .code yX10_init cX10_init 2 none :: ((wsX10_init_r1 ++ wsX10_init_r2) ++ wsX100)
def wsX10_isIn : List Cond := .code yX10_isIn cX10_isIn 3 (some .boolean) :: ([])
def wsX10_isPupil : List Cond := .code yX10_isPupil cX10_isPupil 1 (some .boolean) :: ([.methodLink RX10 83 yX10_isIn, .static yX10_isIn, .initialized RX10, .code yX10_isIn cX10_isIn 3 (some .boolean)])
def wsX10_isSkill : List Cond := .code yX10_isSkill cX10_isSkill 1 (some .boolean) :: ([.methodLink RX10 83 yX10_isIn, .static yX10_isIn, .initialized RX10, .code yX10_isIn cX10_isIn 3 (some .boolean)])
def wsX10_isQuestion : List Cond := .code yX10_isQuestion cX10_isQuestion 2 (some .boolean) :: ([.fieldLink RX10 87 "MarkPagesModel" "questions" "I", .methodLink RX10 83 yX10_isIn, .static yX10_isIn, .initialized RX10, .code yX10_isIn cX10_isIn 3 (some .boolean)] ++ wsX100)
def wsX10_question : List Cond := .code yX10_question cX10_question 3 (some .int) :: ([.fieldLink RX10 87 "MarkPagesModel" "questions" "I", .fieldLink RX10 7 "MarkPagesModel" "most" "[I", .fieldLink RX10 13 "MarkPagesModel" "skills" "[I", .methodLink RX10 83 yX10_isIn, .static yX10_isIn, .initialized RX10, .code yX10_isIn cX10_isIn 3 (some .boolean)] ++ wsX100)
def wsX10_mark : List Cond := .code yX10_mark cX10_mark 4 (some .boolean) :: ([.fieldLink RX10 7 "MarkPagesModel" "most" "[I", .fieldLink RX10 16 "MarkPagesModel" "points" "[I", .methodLink RX10 90 yX10_isPupil, .static yX10_isPupil, .initialized RX10, .code yX10_isPupil cX10_isPupil 1 (some .boolean), .methodLink RX10 83 yX10_isIn, .static yX10_isIn, .code yX10_isIn cX10_isIn 3 (some .boolean), .methodLink RX10 94 yX10_isQuestion, .instanceMethod yX10_isQuestion, .selects RX10 yX10_isQuestion yX10_isQuestion, .code yX10_isQuestion cX10_isQuestion 2 (some .boolean), .fieldLink RX10 87 "MarkPagesModel" "questions" "I"] ++ wsX100)
def wsX10_of : List Cond := .code yX10_of cX10_of 3 (some .int) :: ([.fieldLink RX10 7 "MarkPagesModel" "most" "[I", .fieldLink RX10 13 "MarkPagesModel" "skills" "[I", .fieldLink RX10 16 "MarkPagesModel" "points" "[I", .methodLink RX10 94 yX10_isQuestion, .instanceMethod yX10_isQuestion, .selects RX10 yX10_isQuestion yX10_isQuestion, .initialized RX10, .code yX10_isQuestion cX10_isQuestion 2 (some .boolean), .fieldLink RX10 87 "MarkPagesModel" "questions" "I", .methodLink RX10 83 yX10_isIn, .static yX10_isIn, .code yX10_isIn cX10_isIn 3 (some .boolean)] ++ wsX100)
def wsX10_markedOf : List Cond := .code yX10_markedOf cX10_markedOf 5 (some .int) :: ([.fieldLink RX10 87 "MarkPagesModel" "questions" "I", .fieldLink RX10 13 "MarkPagesModel" "skills" "[I", .fieldLink RX10 16 "MarkPagesModel" "points" "[I"] ++ wsX100)
def wsX10_bits : List Cond := .code yX10_bits cX10_bits 3 (some .int) :: ([])
def wsX10_share : List Cond := .code yX10_share cX10_share 6 (some .int) :: ([.fieldLink RX10 87 "MarkPagesModel" "questions" "I", .fieldLink RX10 16 "MarkPagesModel" "points" "[I", .fieldLink RX10 7 "MarkPagesModel" "most" "[I"] ++ wsX100)
def wsX10_missed : List Cond := .code yX10_missed cX10_missed 5 (some .int) :: ([.fieldLink RX10 87 "MarkPagesModel" "questions" "I", .fieldLink RX10 16 "MarkPagesModel" "points" "[I"] ++ wsX100)
def wsX10_last : List Cond := .code yX10_last cX10_last 4 (some .int) :: ([.fieldLink RX10 87 "MarkPagesModel" "questions" "I", .fieldLink RX10 16 "MarkPagesModel" "points" "[I", .fieldLink RX10 7 "MarkPagesModel" "most" "[I"] ++ wsX100)
def wsX10_classOf : List Cond := .code yX10_classOf cX10_classOf 7 (some .int) :: ([.fieldLink RX10 19 "MarkPagesModel" "row" "[I", .methodLink RX10 97 yX10_markedOf, .instanceMethod yX10_markedOf, .selects RX10 yX10_markedOf yX10_markedOf, .initialized RX10, .code yX10_markedOf cX10_markedOf 5 (some .int), .fieldLink RX10 87 "MarkPagesModel" "questions" "I", .fieldLink RX10 13 "MarkPagesModel" "skills" "[I", .fieldLink RX10 16 "MarkPagesModel" "points" "[I", .methodLink RX10 101 yX10_share, .instanceMethod yX10_share, .selects RX10 yX10_share yX10_share, .code yX10_share cX10_share 6 (some .int), .fieldLink RX10 7 "MarkPagesModel" "most" "[I"] ++ wsX100)
def wsX10_got_r1 : List Cond := [Cond.methodLink RX10 90 yX10_isPupil, Cond.static yX10_isPupil, Cond.initialized RX10, Cond.code yX10_isPupil cX10_isPupil 1 (some .boolean), Cond.methodLink RX10 83 yX10_isIn, Cond.static yX10_isIn, Cond.code yX10_isIn cX10_isIn 3 (some .boolean), Cond.methodLink RX10 104 yX10_isSkill, Cond.static yX10_isSkill, Cond.code yX10_isSkill cX10_isSkill 1 (some .boolean), Cond.methodLink RX10 97 yX10_markedOf, Cond.instanceMethod yX10_markedOf, Cond.selects RX10 yX10_markedOf yX10_markedOf, Cond.code yX10_markedOf cX10_markedOf 5 (some .int), Cond.fieldLink RX10 87 "MarkPagesModel" "questions" "I", Cond.fieldLink RX10 13 "MarkPagesModel" "skills" "[I", Cond.fieldLink RX10 16 "MarkPagesModel" "points" "[I", Cond.methodLink RX10 107 yX10_bits, Cond.static yX10_bits, Cond.code yX10_bits cX10_bits 3 (some .int), Cond.methodLink RX10 101 yX10_share, Cond.instanceMethod yX10_share, Cond.selects RX10 yX10_share yX10_share, Cond.code yX10_share cX10_share 6 (some .int)]
def wsX10_got_r2 : List Cond := [Cond.fieldLink RX10 7 "MarkPagesModel" "most" "[I", Cond.methodLink RX10 111 yX10_missed, Cond.instanceMethod yX10_missed, Cond.selects RX10 yX10_missed yX10_missed, Cond.code yX10_missed cX10_missed 5 (some .int), Cond.methodLink RX10 114 yX10_last, Cond.instanceMethod yX10_last, Cond.selects RX10 yX10_last yX10_last, Cond.code yX10_last cX10_last 4 (some .int), Cond.methodLink RX10 117 yX10_classOf, Cond.instanceMethod yX10_classOf, Cond.selects RX10 yX10_classOf yX10_classOf, Cond.code yX10_classOf cX10_classOf 7 (some .int), Cond.fieldLink RX10 19 "MarkPagesModel" "row" "[I"]
def wsX10_got : List Cond := .code yX10_got cX10_got 5 (some .int) :: ((wsX10_got_r1 ++ wsX10_got_r2) ++ wsX100)
def wsX10_feed : List Cond := .code yX10_feed cX10_feed 8 (some .int) :: ([.fieldLink RX10 120 "MarkPagesModel" "taped" "I", .fieldLink RX10 49 "MarkPagesModel" "tape" "[I"] ++ wsX100)
def wsX10_end : List Cond := .code yX10_end cX10_end 2 (some .boolean) :: ([.fieldLink RX10 120 "MarkPagesModel" "taped" "I", .methodLink RX10 83 yX10_isIn, .static yX10_isIn, .initialized RX10, .code yX10_isIn cX10_isIn 3 (some .boolean)] ++ wsX100)
def wsX10_see : List Cond := .code yX10_see cX10_see 2 (some .int) :: ([.fieldLink RX10 120 "MarkPagesModel" "taped" "I", .fieldLink RX10 49 "MarkPagesModel" "tape" "[I"] ++ wsX100)
def wsX10_isLetter : List Cond := .code yX10_isLetter cX10_isLetter 1 (some .boolean) :: ([.methodLink RX10 83 yX10_isIn, .static yX10_isIn, .initialized RX10, .code yX10_isIn cX10_isIn 3 (some .boolean)])
def wsX10_isDigit : List Cond := .code yX10_isDigit cX10_isDigit 1 (some .boolean) :: ([.methodLink RX10 83 yX10_isIn, .static yX10_isIn, .initialized RX10, .code yX10_isIn cX10_isIn 3 (some .boolean)])
def wsX10_word : List Cond := .code yX10_word cX10_word 2 (some .int) :: ([.constantLong RX10 123 (7561593), .constantLong RX10 125 (495723310188), .constantLong RX10 127 (2003330414), .constantLong RX10 129 (28530), .constantLong RX10 131 (6385252), .constantLong RX10 133 (7237492), .constantLong RX10 135 (120265298896228), .constantLong RX10 137 (495672455781), .constantLong RX10 139 (120299675936100), .constantLong RX10 141 (1818325876), .constantLong RX10 143 (427020088179)])
def wsX10_next0_r1 : List Cond := [Cond.fieldLink RX10 145 "MarkPagesModel" "at" "I", Cond.fieldLink RX10 151 "MarkPagesModel" "tokenAt" "I", Cond.fieldLink RX10 154 "MarkPagesModel" "token" "I", Cond.fieldLink RX10 167 "MarkPagesModel" "value" "I", Cond.methodLink RX10 148 yX10_see, Cond.instanceMethod yX10_see, Cond.selects RX10 yX10_see yX10_see, Cond.initialized RX10, Cond.code yX10_see cX10_see 2 (some .int), Cond.fieldLink RX10 120 "MarkPagesModel" "taped" "I", Cond.fieldLink RX10 49 "MarkPagesModel" "tape" "[I", Cond.methodLink RX10 157 yX10_isLetter, Cond.static yX10_isLetter, Cond.code yX10_isLetter cX10_isLetter 1 (some .boolean), Cond.methodLink RX10 83 yX10_isIn, Cond.static yX10_isIn, Cond.code yX10_isIn cX10_isIn 3 (some .boolean), Cond.methodLink RX10 160 yX10_word, Cond.static yX10_word, Cond.code yX10_word cX10_word 2 (some .int), Cond.constantLong RX10 123 (7561593), Cond.constantLong RX10 125 (495723310188), Cond.constantLong RX10 127 (2003330414), Cond.constantLong RX10 129 (28530)]
def wsX10_next0_r2 : List Cond := [Cond.constantLong RX10 131 (6385252), Cond.constantLong RX10 133 (7237492), Cond.constantLong RX10 135 (120265298896228), Cond.constantLong RX10 137 (495672455781), Cond.constantLong RX10 139 (120299675936100), Cond.constantLong RX10 141 (1818325876), Cond.constantLong RX10 143 (427020088179), Cond.methodLink RX10 164 yX10_isDigit, Cond.static yX10_isDigit, Cond.code yX10_isDigit cX10_isDigit 1 (some .boolean)]
def wsX10_next0 : List Cond := .code yX10_next0 cX10_next0 5 none :: ((wsX10_next0_r1 ++ wsX10_next0_r2) ++ wsX100)
def wsX10_bad : List Cond := .code yX10_bad cX10_bad 2 (some .boolean) :: ([.fieldLink RX10 170 "MarkPagesModel" "wrong" "I", .fieldLink RX10 151 "MarkPagesModel" "tokenAt" "I", .fieldLink RX10 173 "MarkPagesModel" "wrongAt" "I"] ++ wsX100)
def wsX10_need_r1 : List Cond := [Cond.fieldLink RX10 154 "MarkPagesModel" "token" "I", Cond.methodLink RX10 176 yX10_bad, Cond.instanceMethod yX10_bad, Cond.selects RX10 yX10_bad yX10_bad, Cond.initialized RX10, Cond.code yX10_bad cX10_bad 2 (some .boolean), Cond.fieldLink RX10 170 "MarkPagesModel" "wrong" "I", Cond.fieldLink RX10 151 "MarkPagesModel" "tokenAt" "I", Cond.fieldLink RX10 173 "MarkPagesModel" "wrongAt" "I", Cond.methodLink RX10 179 yX10_next0, Cond.instanceMethod yX10_next0, Cond.selects RX10 yX10_next0 yX10_next0, Cond.code yX10_next0 cX10_next0 5 none, Cond.fieldLink RX10 145 "MarkPagesModel" "at" "I", Cond.fieldLink RX10 167 "MarkPagesModel" "value" "I", Cond.methodLink RX10 148 yX10_see, Cond.instanceMethod yX10_see, Cond.selects RX10 yX10_see yX10_see, Cond.code yX10_see cX10_see 2 (some .int), Cond.fieldLink RX10 120 "MarkPagesModel" "taped" "I", Cond.fieldLink RX10 49 "MarkPagesModel" "tape" "[I", Cond.methodLink RX10 157 yX10_isLetter, Cond.static yX10_isLetter, Cond.code yX10_isLetter cX10_isLetter 1 (some .boolean)]
def wsX10_need_r2 : List Cond := [Cond.methodLink RX10 83 yX10_isIn, Cond.static yX10_isIn, Cond.code yX10_isIn cX10_isIn 3 (some .boolean), Cond.methodLink RX10 160 yX10_word, Cond.static yX10_word, Cond.code yX10_word cX10_word 2 (some .int), Cond.constantLong RX10 123 (7561593), Cond.constantLong RX10 125 (495723310188), Cond.constantLong RX10 127 (2003330414), Cond.constantLong RX10 129 (28530), Cond.constantLong RX10 131 (6385252), Cond.constantLong RX10 133 (7237492), Cond.constantLong RX10 135 (120265298896228), Cond.constantLong RX10 137 (495672455781), Cond.constantLong RX10 139 (120299675936100), Cond.constantLong RX10 141 (1818325876), Cond.constantLong RX10 143 (427020088179), Cond.methodLink RX10 164 yX10_isDigit, Cond.static yX10_isDigit, Cond.code yX10_isDigit cX10_isDigit 1 (some .boolean)]
def wsX10_need : List Cond := .code yX10_need cX10_need 2 (some .boolean) :: ((wsX10_need_r1 ++ wsX10_need_r2) ++ wsX100)
def wsX10_aNumber_r1 : List Cond := [Cond.fieldLink RX10 154 "MarkPagesModel" "token" "I", Cond.fieldLink RX10 167 "MarkPagesModel" "value" "I", Cond.fieldLink RX10 182 "MarkPagesModel" "number" "I", Cond.methodLink RX10 176 yX10_bad, Cond.instanceMethod yX10_bad, Cond.selects RX10 yX10_bad yX10_bad, Cond.initialized RX10, Cond.code yX10_bad cX10_bad 2 (some .boolean), Cond.fieldLink RX10 170 "MarkPagesModel" "wrong" "I", Cond.fieldLink RX10 151 "MarkPagesModel" "tokenAt" "I", Cond.fieldLink RX10 173 "MarkPagesModel" "wrongAt" "I", Cond.methodLink RX10 179 yX10_next0, Cond.instanceMethod yX10_next0, Cond.selects RX10 yX10_next0 yX10_next0, Cond.code yX10_next0 cX10_next0 5 none, Cond.fieldLink RX10 145 "MarkPagesModel" "at" "I", Cond.methodLink RX10 148 yX10_see, Cond.instanceMethod yX10_see, Cond.selects RX10 yX10_see yX10_see, Cond.code yX10_see cX10_see 2 (some .int), Cond.fieldLink RX10 120 "MarkPagesModel" "taped" "I", Cond.fieldLink RX10 49 "MarkPagesModel" "tape" "[I", Cond.methodLink RX10 157 yX10_isLetter, Cond.static yX10_isLetter]
def wsX10_aNumber_r2 : List Cond := [Cond.code yX10_isLetter cX10_isLetter 1 (some .boolean), Cond.methodLink RX10 83 yX10_isIn, Cond.static yX10_isIn, Cond.code yX10_isIn cX10_isIn 3 (some .boolean), Cond.methodLink RX10 160 yX10_word, Cond.static yX10_word, Cond.code yX10_word cX10_word 2 (some .int), Cond.constantLong RX10 123 (7561593), Cond.constantLong RX10 125 (495723310188), Cond.constantLong RX10 127 (2003330414), Cond.constantLong RX10 129 (28530), Cond.constantLong RX10 131 (6385252), Cond.constantLong RX10 133 (7237492), Cond.constantLong RX10 135 (120265298896228), Cond.constantLong RX10 137 (495672455781), Cond.constantLong RX10 139 (120299675936100), Cond.constantLong RX10 141 (1818325876), Cond.constantLong RX10 143 (427020088179), Cond.methodLink RX10 164 yX10_isDigit, Cond.static yX10_isDigit, Cond.code yX10_isDigit cX10_isDigit 1 (some .boolean)]
def wsX10_aNumber : List Cond := .code yX10_aNumber cX10_aNumber 2 (some .boolean) :: ((wsX10_aNumber_r1 ++ wsX10_aNumber_r2) ++ wsX100)
def wsX10_lay : List Cond := .code yX10_lay cX10_lay 2 none :: ([.fieldLink RX10 43 "MarkPagesModel" "fresh" "[I", .fieldLink RX10 185 "MarkPagesModel" "freshSteps" "I"] ++ wsX100)
def wsX10_opens_r1 : List Cond := [Cond.fieldLink RX10 188 "MarkPagesModel" "depth" "I", Cond.methodLink RX10 176 yX10_bad, Cond.instanceMethod yX10_bad, Cond.selects RX10 yX10_bad yX10_bad, Cond.initialized RX10, Cond.code yX10_bad cX10_bad 2 (some .boolean), Cond.fieldLink RX10 170 "MarkPagesModel" "wrong" "I", Cond.fieldLink RX10 151 "MarkPagesModel" "tokenAt" "I", Cond.fieldLink RX10 173 "MarkPagesModel" "wrongAt" "I", Cond.methodLink RX10 179 yX10_next0, Cond.instanceMethod yX10_next0, Cond.selects RX10 yX10_next0 yX10_next0, Cond.code yX10_next0 cX10_next0 5 none, Cond.fieldLink RX10 145 "MarkPagesModel" "at" "I", Cond.fieldLink RX10 154 "MarkPagesModel" "token" "I", Cond.fieldLink RX10 167 "MarkPagesModel" "value" "I", Cond.methodLink RX10 148 yX10_see, Cond.instanceMethod yX10_see, Cond.selects RX10 yX10_see yX10_see, Cond.code yX10_see cX10_see 2 (some .int), Cond.fieldLink RX10 120 "MarkPagesModel" "taped" "I", Cond.fieldLink RX10 49 "MarkPagesModel" "tape" "[I", Cond.methodLink RX10 157 yX10_isLetter, Cond.static yX10_isLetter]
def wsX10_opens_r2 : List Cond := [Cond.code yX10_isLetter cX10_isLetter 1 (some .boolean), Cond.methodLink RX10 83 yX10_isIn, Cond.static yX10_isIn, Cond.code yX10_isIn cX10_isIn 3 (some .boolean), Cond.methodLink RX10 160 yX10_word, Cond.static yX10_word, Cond.code yX10_word cX10_word 2 (some .int), Cond.constantLong RX10 123 (7561593), Cond.constantLong RX10 125 (495723310188), Cond.constantLong RX10 127 (2003330414), Cond.constantLong RX10 129 (28530), Cond.constantLong RX10 131 (6385252), Cond.constantLong RX10 133 (7237492), Cond.constantLong RX10 135 (120265298896228), Cond.constantLong RX10 137 (495672455781), Cond.constantLong RX10 139 (120299675936100), Cond.constantLong RX10 141 (1818325876), Cond.constantLong RX10 143 (427020088179), Cond.methodLink RX10 164 yX10_isDigit, Cond.static yX10_isDigit, Cond.code yX10_isDigit cX10_isDigit 1 (some .boolean)]
def wsX10_opens : List Cond := .code yX10_opens cX10_opens 1 (some .boolean) :: ((wsX10_opens_r1 ++ wsX10_opens_r2) ++ wsX100)
def wsX10_unit_r1 : List Cond := [Cond.fieldLink RX10 154 "MarkPagesModel" "token" "I", Cond.fieldLink RX10 167 "MarkPagesModel" "value" "I", Cond.methodLink RX10 176 yX10_bad, Cond.instanceMethod yX10_bad, Cond.selects RX10 yX10_bad yX10_bad, Cond.initialized RX10, Cond.code yX10_bad cX10_bad 2 (some .boolean), Cond.fieldLink RX10 170 "MarkPagesModel" "wrong" "I", Cond.fieldLink RX10 151 "MarkPagesModel" "tokenAt" "I", Cond.fieldLink RX10 173 "MarkPagesModel" "wrongAt" "I", Cond.methodLink RX10 195 yX10_lay, Cond.instanceMethod yX10_lay, Cond.selects RX10 yX10_lay yX10_lay, Cond.code yX10_lay cX10_lay 2 none, Cond.fieldLink RX10 43 "MarkPagesModel" "fresh" "[I", Cond.fieldLink RX10 185 "MarkPagesModel" "freshSteps" "I", Cond.methodLink RX10 179 yX10_next0, Cond.instanceMethod yX10_next0, Cond.selects RX10 yX10_next0 yX10_next0, Cond.code yX10_next0 cX10_next0 5 none, Cond.fieldLink RX10 145 "MarkPagesModel" "at" "I", Cond.methodLink RX10 148 yX10_see, Cond.instanceMethod yX10_see, Cond.selects RX10 yX10_see yX10_see]
def wsX10_unit_r2 : List Cond := [Cond.code yX10_see cX10_see 2 (some .int), Cond.fieldLink RX10 120 "MarkPagesModel" "taped" "I", Cond.fieldLink RX10 49 "MarkPagesModel" "tape" "[I", Cond.methodLink RX10 157 yX10_isLetter, Cond.static yX10_isLetter, Cond.code yX10_isLetter cX10_isLetter 1 (some .boolean), Cond.methodLink RX10 83 yX10_isIn, Cond.static yX10_isIn, Cond.code yX10_isIn cX10_isIn 3 (some .boolean), Cond.methodLink RX10 160 yX10_word, Cond.static yX10_word, Cond.code yX10_word cX10_word 2 (some .int), Cond.constantLong RX10 123 (7561593), Cond.constantLong RX10 125 (495723310188), Cond.constantLong RX10 127 (2003330414), Cond.constantLong RX10 129 (28530), Cond.constantLong RX10 131 (6385252), Cond.constantLong RX10 133 (7237492), Cond.constantLong RX10 135 (120265298896228), Cond.constantLong RX10 137 (495672455781), Cond.constantLong RX10 139 (120299675936100), Cond.constantLong RX10 141 (1818325876), Cond.constantLong RX10 143 (427020088179), Cond.methodLink RX10 164 yX10_isDigit]
def wsX10_unit_r3 : List Cond := [Cond.static yX10_isDigit, Cond.code yX10_isDigit cX10_isDigit 1 (some .boolean)]
def wsX10_unit : List Cond := .code yX10_unit cX10_unit 1 (some .boolean) :: ((wsX10_unit_r1 ++ (wsX10_unit_r2 ++ wsX10_unit_r3)) ++ wsX100)
def wsX10_sum_r1 : List Cond := [Cond.fieldLink RX10 154 "MarkPagesModel" "token" "I", Cond.methodLink RX10 214 yX10_unit, Cond.instanceMethod yX10_unit, Cond.selects RX10 yX10_unit yX10_unit, Cond.initialized RX10, Cond.code yX10_unit cX10_unit 1 (some .boolean), Cond.fieldLink RX10 167 "MarkPagesModel" "value" "I", Cond.methodLink RX10 176 yX10_bad, Cond.instanceMethod yX10_bad, Cond.selects RX10 yX10_bad yX10_bad, Cond.code yX10_bad cX10_bad 2 (some .boolean), Cond.fieldLink RX10 170 "MarkPagesModel" "wrong" "I", Cond.fieldLink RX10 151 "MarkPagesModel" "tokenAt" "I", Cond.fieldLink RX10 173 "MarkPagesModel" "wrongAt" "I", Cond.methodLink RX10 195 yX10_lay, Cond.instanceMethod yX10_lay, Cond.selects RX10 yX10_lay yX10_lay, Cond.code yX10_lay cX10_lay 2 none, Cond.fieldLink RX10 43 "MarkPagesModel" "fresh" "[I", Cond.fieldLink RX10 185 "MarkPagesModel" "freshSteps" "I", Cond.methodLink RX10 179 yX10_next0, Cond.instanceMethod yX10_next0, Cond.selects RX10 yX10_next0 yX10_next0, Cond.code yX10_next0 cX10_next0 5 none]
def wsX10_sum_r2 : List Cond := [Cond.fieldLink RX10 145 "MarkPagesModel" "at" "I", Cond.methodLink RX10 148 yX10_see, Cond.instanceMethod yX10_see, Cond.selects RX10 yX10_see yX10_see, Cond.code yX10_see cX10_see 2 (some .int), Cond.fieldLink RX10 120 "MarkPagesModel" "taped" "I", Cond.fieldLink RX10 49 "MarkPagesModel" "tape" "[I", Cond.methodLink RX10 157 yX10_isLetter, Cond.static yX10_isLetter, Cond.code yX10_isLetter cX10_isLetter 1 (some .boolean), Cond.methodLink RX10 83 yX10_isIn, Cond.static yX10_isIn, Cond.code yX10_isIn cX10_isIn 3 (some .boolean), Cond.methodLink RX10 160 yX10_word, Cond.static yX10_word, Cond.code yX10_word cX10_word 2 (some .int), Cond.constantLong RX10 123 (7561593), Cond.constantLong RX10 125 (495723310188), Cond.constantLong RX10 127 (2003330414), Cond.constantLong RX10 129 (28530), Cond.constantLong RX10 131 (6385252), Cond.constantLong RX10 133 (7237492), Cond.constantLong RX10 135 (120265298896228), Cond.constantLong RX10 137 (495672455781)]
def wsX10_sum_r3 : List Cond := [Cond.constantLong RX10 139 (120299675936100), Cond.constantLong RX10 141 (1818325876), Cond.constantLong RX10 143 (427020088179), Cond.methodLink RX10 164 yX10_isDigit, Cond.static yX10_isDigit, Cond.code yX10_isDigit cX10_isDigit 1 (some .boolean)]
def wsX10_sum : List Cond := .code yX10_sum cX10_sum 2 (some .boolean) :: ((wsX10_sum_r1 ++ (wsX10_sum_r2 ++ wsX10_sum_r3)) ++ wsX100)
def wsX10_all_r1 : List Cond := [Cond.fieldLink RX10 154 "MarkPagesModel" "token" "I", Cond.methodLink RX10 199 yX10_one, Cond.instanceMethod yX10_one, Cond.selects RX10 yX10_one yX10_one, Cond.initialized RX10, Cond.methodLink RX10 179 yX10_next0, Cond.instanceMethod yX10_next0, Cond.selects RX10 yX10_next0 yX10_next0, Cond.code yX10_next0 cX10_next0 5 none, Cond.fieldLink RX10 145 "MarkPagesModel" "at" "I", Cond.fieldLink RX10 151 "MarkPagesModel" "tokenAt" "I", Cond.fieldLink RX10 167 "MarkPagesModel" "value" "I", Cond.methodLink RX10 148 yX10_see, Cond.instanceMethod yX10_see, Cond.selects RX10 yX10_see yX10_see, Cond.code yX10_see cX10_see 2 (some .int), Cond.fieldLink RX10 120 "MarkPagesModel" "taped" "I", Cond.fieldLink RX10 49 "MarkPagesModel" "tape" "[I", Cond.methodLink RX10 157 yX10_isLetter, Cond.static yX10_isLetter, Cond.code yX10_isLetter cX10_isLetter 1 (some .boolean), Cond.methodLink RX10 83 yX10_isIn, Cond.static yX10_isIn, Cond.code yX10_isIn cX10_isIn 3 (some .boolean)]
def wsX10_all_r2 : List Cond := [Cond.methodLink RX10 160 yX10_word, Cond.static yX10_word, Cond.code yX10_word cX10_word 2 (some .int), Cond.constantLong RX10 123 (7561593), Cond.constantLong RX10 125 (495723310188), Cond.constantLong RX10 127 (2003330414), Cond.constantLong RX10 129 (28530), Cond.constantLong RX10 131 (6385252), Cond.constantLong RX10 133 (7237492), Cond.constantLong RX10 135 (120265298896228), Cond.constantLong RX10 137 (495672455781), Cond.constantLong RX10 139 (120299675936100), Cond.constantLong RX10 141 (1818325876), Cond.constantLong RX10 143 (427020088179), Cond.methodLink RX10 164 yX10_isDigit, Cond.static yX10_isDigit, Cond.code yX10_isDigit cX10_isDigit 1 (some .boolean), Cond.methodLink RX10 195 yX10_lay, Cond.instanceMethod yX10_lay, Cond.selects RX10 yX10_lay yX10_lay, Cond.code yX10_lay cX10_lay 2 none, Cond.fieldLink RX10 43 "MarkPagesModel" "fresh" "[I", Cond.fieldLink RX10 185 "MarkPagesModel" "freshSteps" "I", Cond.code yX10_any cX10_any 1 (some .boolean)]
def wsX10_all_r3 : List Cond := [Cond.methodLink RX10 191 yX10_all, Cond.instanceMethod yX10_all, Cond.selects RX10 yX10_all yX10_all, Cond.code yX10_one cX10_one 2 (some .boolean), Cond.fieldLink RX10 188 "MarkPagesModel" "depth" "I", Cond.methodLink RX10 202 yX10_opens, Cond.instanceMethod yX10_opens, Cond.selects RX10 yX10_opens yX10_opens, Cond.code yX10_opens cX10_opens 1 (some .boolean), Cond.methodLink RX10 176 yX10_bad, Cond.instanceMethod yX10_bad, Cond.selects RX10 yX10_bad yX10_bad, Cond.code yX10_bad cX10_bad 2 (some .boolean), Cond.fieldLink RX10 170 "MarkPagesModel" "wrong" "I", Cond.fieldLink RX10 173 "MarkPagesModel" "wrongAt" "I", Cond.methodLink RX10 205 yX10_any, Cond.instanceMethod yX10_any, Cond.selects RX10 yX10_any yX10_any, Cond.methodLink RX10 208 yX10_need, Cond.instanceMethod yX10_need, Cond.selects RX10 yX10_need yX10_need, Cond.code yX10_need cX10_need 2 (some .boolean), Cond.methodLink RX10 211 yX10_sum, Cond.instanceMethod yX10_sum]
def wsX10_all_r4 : List Cond := [Cond.selects RX10 yX10_sum yX10_sum, Cond.code yX10_sum cX10_sum 2 (some .boolean), Cond.methodLink RX10 214 yX10_unit, Cond.instanceMethod yX10_unit, Cond.selects RX10 yX10_unit yX10_unit, Cond.code yX10_unit cX10_unit 1 (some .boolean)]
def wsX10_all : List Cond := .code yX10_all cX10_all 1 (some .boolean) :: ((wsX10_all_r1 ++ (wsX10_all_r2 ++ (wsX10_all_r3 ++ wsX10_all_r4))) ++ wsX100)
def wsX10_any_r1 : List Cond := [Cond.fieldLink RX10 154 "MarkPagesModel" "token" "I", Cond.methodLink RX10 191 yX10_all, Cond.instanceMethod yX10_all, Cond.selects RX10 yX10_all yX10_all, Cond.initialized RX10, Cond.methodLink RX10 179 yX10_next0, Cond.instanceMethod yX10_next0, Cond.selects RX10 yX10_next0 yX10_next0, Cond.code yX10_next0 cX10_next0 5 none, Cond.fieldLink RX10 145 "MarkPagesModel" "at" "I", Cond.fieldLink RX10 151 "MarkPagesModel" "tokenAt" "I", Cond.fieldLink RX10 167 "MarkPagesModel" "value" "I", Cond.methodLink RX10 148 yX10_see, Cond.instanceMethod yX10_see, Cond.selects RX10 yX10_see yX10_see, Cond.code yX10_see cX10_see 2 (some .int), Cond.fieldLink RX10 120 "MarkPagesModel" "taped" "I", Cond.fieldLink RX10 49 "MarkPagesModel" "tape" "[I", Cond.methodLink RX10 157 yX10_isLetter, Cond.static yX10_isLetter, Cond.code yX10_isLetter cX10_isLetter 1 (some .boolean), Cond.methodLink RX10 83 yX10_isIn, Cond.static yX10_isIn, Cond.code yX10_isIn cX10_isIn 3 (some .boolean)]
def wsX10_any_r2 : List Cond := [Cond.methodLink RX10 160 yX10_word, Cond.static yX10_word, Cond.code yX10_word cX10_word 2 (some .int), Cond.constantLong RX10 123 (7561593), Cond.constantLong RX10 125 (495723310188), Cond.constantLong RX10 127 (2003330414), Cond.constantLong RX10 129 (28530), Cond.constantLong RX10 131 (6385252), Cond.constantLong RX10 133 (7237492), Cond.constantLong RX10 135 (120265298896228), Cond.constantLong RX10 137 (495672455781), Cond.constantLong RX10 139 (120299675936100), Cond.constantLong RX10 141 (1818325876), Cond.constantLong RX10 143 (427020088179), Cond.methodLink RX10 164 yX10_isDigit, Cond.static yX10_isDigit, Cond.code yX10_isDigit cX10_isDigit 1 (some .boolean), Cond.methodLink RX10 195 yX10_lay, Cond.instanceMethod yX10_lay, Cond.selects RX10 yX10_lay yX10_lay, Cond.code yX10_lay cX10_lay 2 none, Cond.fieldLink RX10 43 "MarkPagesModel" "fresh" "[I", Cond.fieldLink RX10 185 "MarkPagesModel" "freshSteps" "I", Cond.code yX10_all cX10_all 1 (some .boolean)]
def wsX10_any_r3 : List Cond := [Cond.methodLink RX10 199 yX10_one, Cond.instanceMethod yX10_one, Cond.selects RX10 yX10_one yX10_one, Cond.code yX10_one cX10_one 2 (some .boolean), Cond.fieldLink RX10 188 "MarkPagesModel" "depth" "I", Cond.methodLink RX10 202 yX10_opens, Cond.instanceMethod yX10_opens, Cond.selects RX10 yX10_opens yX10_opens, Cond.code yX10_opens cX10_opens 1 (some .boolean), Cond.methodLink RX10 176 yX10_bad, Cond.instanceMethod yX10_bad, Cond.selects RX10 yX10_bad yX10_bad, Cond.code yX10_bad cX10_bad 2 (some .boolean), Cond.fieldLink RX10 170 "MarkPagesModel" "wrong" "I", Cond.fieldLink RX10 173 "MarkPagesModel" "wrongAt" "I", Cond.methodLink RX10 205 yX10_any, Cond.instanceMethod yX10_any, Cond.selects RX10 yX10_any yX10_any, Cond.methodLink RX10 208 yX10_need, Cond.instanceMethod yX10_need, Cond.selects RX10 yX10_need yX10_need, Cond.code yX10_need cX10_need 2 (some .boolean), Cond.methodLink RX10 211 yX10_sum, Cond.instanceMethod yX10_sum]
def wsX10_any_r4 : List Cond := [Cond.selects RX10 yX10_sum yX10_sum, Cond.code yX10_sum cX10_sum 2 (some .boolean), Cond.methodLink RX10 214 yX10_unit, Cond.instanceMethod yX10_unit, Cond.selects RX10 yX10_unit yX10_unit, Cond.code yX10_unit cX10_unit 1 (some .boolean)]
def wsX10_any : List Cond := .code yX10_any cX10_any 1 (some .boolean) :: ((wsX10_any_r1 ++ (wsX10_any_r2 ++ (wsX10_any_r3 ++ wsX10_any_r4))) ++ wsX100)
def wsX10_one_r1 : List Cond := [Cond.fieldLink RX10 154 "MarkPagesModel" "token" "I", Cond.fieldLink RX10 188 "MarkPagesModel" "depth" "I", Cond.methodLink RX10 202 yX10_opens, Cond.instanceMethod yX10_opens, Cond.selects RX10 yX10_opens yX10_opens, Cond.initialized RX10, Cond.code yX10_opens cX10_opens 1 (some .boolean), Cond.methodLink RX10 176 yX10_bad, Cond.instanceMethod yX10_bad, Cond.selects RX10 yX10_bad yX10_bad, Cond.code yX10_bad cX10_bad 2 (some .boolean), Cond.fieldLink RX10 170 "MarkPagesModel" "wrong" "I", Cond.fieldLink RX10 151 "MarkPagesModel" "tokenAt" "I", Cond.fieldLink RX10 173 "MarkPagesModel" "wrongAt" "I", Cond.methodLink RX10 179 yX10_next0, Cond.instanceMethod yX10_next0, Cond.selects RX10 yX10_next0 yX10_next0, Cond.code yX10_next0 cX10_next0 5 none, Cond.fieldLink RX10 145 "MarkPagesModel" "at" "I", Cond.fieldLink RX10 167 "MarkPagesModel" "value" "I", Cond.methodLink RX10 148 yX10_see, Cond.instanceMethod yX10_see, Cond.selects RX10 yX10_see yX10_see, Cond.code yX10_see cX10_see 2 (some .int)]
def wsX10_one_r2 : List Cond := [Cond.fieldLink RX10 120 "MarkPagesModel" "taped" "I", Cond.fieldLink RX10 49 "MarkPagesModel" "tape" "[I", Cond.methodLink RX10 157 yX10_isLetter, Cond.static yX10_isLetter, Cond.code yX10_isLetter cX10_isLetter 1 (some .boolean), Cond.methodLink RX10 83 yX10_isIn, Cond.static yX10_isIn, Cond.code yX10_isIn cX10_isIn 3 (some .boolean), Cond.methodLink RX10 160 yX10_word, Cond.static yX10_word, Cond.code yX10_word cX10_word 2 (some .int), Cond.constantLong RX10 123 (7561593), Cond.constantLong RX10 125 (495723310188), Cond.constantLong RX10 127 (2003330414), Cond.constantLong RX10 129 (28530), Cond.constantLong RX10 131 (6385252), Cond.constantLong RX10 133 (7237492), Cond.constantLong RX10 135 (120265298896228), Cond.constantLong RX10 137 (495672455781), Cond.constantLong RX10 139 (120299675936100), Cond.constantLong RX10 141 (1818325876), Cond.constantLong RX10 143 (427020088179), Cond.methodLink RX10 164 yX10_isDigit, Cond.static yX10_isDigit]
def wsX10_one_r3 : List Cond := [Cond.code yX10_isDigit cX10_isDigit 1 (some .boolean), Cond.methodLink RX10 199 yX10_one, Cond.instanceMethod yX10_one, Cond.selects RX10 yX10_one yX10_one, Cond.methodLink RX10 195 yX10_lay, Cond.instanceMethod yX10_lay, Cond.selects RX10 yX10_lay yX10_lay, Cond.code yX10_lay cX10_lay 2 none, Cond.fieldLink RX10 43 "MarkPagesModel" "fresh" "[I", Cond.fieldLink RX10 185 "MarkPagesModel" "freshSteps" "I", Cond.methodLink RX10 205 yX10_any, Cond.instanceMethod yX10_any, Cond.selects RX10 yX10_any yX10_any, Cond.methodLink RX10 208 yX10_need, Cond.instanceMethod yX10_need, Cond.selects RX10 yX10_need yX10_need, Cond.code yX10_need cX10_need 2 (some .boolean), Cond.methodLink RX10 211 yX10_sum, Cond.instanceMethod yX10_sum, Cond.selects RX10 yX10_sum yX10_sum, Cond.code yX10_sum cX10_sum 2 (some .boolean), Cond.methodLink RX10 214 yX10_unit, Cond.instanceMethod yX10_unit, Cond.selects RX10 yX10_unit yX10_unit]
def wsX10_one_r4 : List Cond := [Cond.code yX10_unit cX10_unit 1 (some .boolean), Cond.code yX10_all cX10_all 1 (some .boolean), Cond.code yX10_any cX10_any 1 (some .boolean), Cond.methodLink RX10 191 yX10_all, Cond.instanceMethod yX10_all, Cond.selects RX10 yX10_all yX10_all]
def wsX10_one : List Cond := .code yX10_one cX10_one 2 (some .boolean) :: ((wsX10_one_r1 ++ (wsX10_one_r2 ++ (wsX10_one_r3 ++ wsX10_one_r4))) ++ wsX100)
def wsX10_aRule_r1 : List Cond := [Cond.fieldLink RX10 154 "MarkPagesModel" "token" "I", Cond.fieldLink RX10 217 "MarkPagesModel" "freshRules" "I", Cond.fieldLink RX10 34 "MarkPagesModel" "freshSaying" "[I", Cond.fieldLink RX10 182 "MarkPagesModel" "number" "I", Cond.fieldLink RX10 37 "MarkPagesModel" "freshSkill" "[I", Cond.fieldLink RX10 40 "MarkPagesModel" "freshFrom" "[I", Cond.fieldLink RX10 185 "MarkPagesModel" "freshSteps" "I", Cond.fieldLink RX10 188 "MarkPagesModel" "depth" "I", Cond.methodLink RX10 176 yX10_bad, Cond.instanceMethod yX10_bad, Cond.selects RX10 yX10_bad yX10_bad, Cond.initialized RX10, Cond.code yX10_bad cX10_bad 2 (some .boolean), Cond.fieldLink RX10 170 "MarkPagesModel" "wrong" "I", Cond.fieldLink RX10 151 "MarkPagesModel" "tokenAt" "I", Cond.fieldLink RX10 173 "MarkPagesModel" "wrongAt" "I", Cond.methodLink RX10 179 yX10_next0, Cond.instanceMethod yX10_next0, Cond.selects RX10 yX10_next0 yX10_next0, Cond.code yX10_next0 cX10_next0 5 none, Cond.fieldLink RX10 145 "MarkPagesModel" "at" "I", Cond.fieldLink RX10 167 "MarkPagesModel" "value" "I", Cond.methodLink RX10 148 yX10_see, Cond.instanceMethod yX10_see]
def wsX10_aRule_r2 : List Cond := [Cond.selects RX10 yX10_see yX10_see, Cond.code yX10_see cX10_see 2 (some .int), Cond.fieldLink RX10 120 "MarkPagesModel" "taped" "I", Cond.fieldLink RX10 49 "MarkPagesModel" "tape" "[I", Cond.methodLink RX10 157 yX10_isLetter, Cond.static yX10_isLetter, Cond.code yX10_isLetter cX10_isLetter 1 (some .boolean), Cond.methodLink RX10 83 yX10_isIn, Cond.static yX10_isIn, Cond.code yX10_isIn cX10_isIn 3 (some .boolean), Cond.methodLink RX10 160 yX10_word, Cond.static yX10_word, Cond.code yX10_word cX10_word 2 (some .int), Cond.constantLong RX10 123 (7561593), Cond.constantLong RX10 125 (495723310188), Cond.constantLong RX10 127 (2003330414), Cond.constantLong RX10 129 (28530), Cond.constantLong RX10 131 (6385252), Cond.constantLong RX10 133 (7237492), Cond.constantLong RX10 135 (120265298896228), Cond.constantLong RX10 137 (495672455781), Cond.constantLong RX10 139 (120299675936100), Cond.constantLong RX10 141 (1818325876), Cond.constantLong RX10 143 (427020088179)]
def wsX10_aRule_r3 : List Cond := [Cond.methodLink RX10 164 yX10_isDigit, Cond.static yX10_isDigit, Cond.code yX10_isDigit cX10_isDigit 1 (some .boolean), Cond.methodLink RX10 220 yX10_aNumber, Cond.instanceMethod yX10_aNumber, Cond.selects RX10 yX10_aNumber yX10_aNumber, Cond.code yX10_aNumber cX10_aNumber 2 (some .boolean), Cond.methodLink RX10 208 yX10_need, Cond.instanceMethod yX10_need, Cond.selects RX10 yX10_need yX10_need, Cond.code yX10_need cX10_need 2 (some .boolean), Cond.methodLink RX10 205 yX10_any, Cond.instanceMethod yX10_any, Cond.selects RX10 yX10_any yX10_any, Cond.code yX10_any cX10_any 1 (some .boolean), Cond.methodLink RX10 191 yX10_all, Cond.instanceMethod yX10_all, Cond.selects RX10 yX10_all yX10_all, Cond.methodLink RX10 195 yX10_lay, Cond.instanceMethod yX10_lay, Cond.selects RX10 yX10_lay yX10_lay, Cond.code yX10_lay cX10_lay 2 none, Cond.fieldLink RX10 43 "MarkPagesModel" "fresh" "[I", Cond.code yX10_all cX10_all 1 (some .boolean)]
def wsX10_aRule_r4 : List Cond := [Cond.methodLink RX10 199 yX10_one, Cond.instanceMethod yX10_one, Cond.selects RX10 yX10_one yX10_one, Cond.code yX10_one cX10_one 2 (some .boolean), Cond.methodLink RX10 202 yX10_opens, Cond.instanceMethod yX10_opens, Cond.selects RX10 yX10_opens yX10_opens, Cond.code yX10_opens cX10_opens 1 (some .boolean), Cond.methodLink RX10 211 yX10_sum, Cond.instanceMethod yX10_sum, Cond.selects RX10 yX10_sum yX10_sum, Cond.code yX10_sum cX10_sum 2 (some .boolean), Cond.methodLink RX10 214 yX10_unit, Cond.instanceMethod yX10_unit, Cond.selects RX10 yX10_unit yX10_unit, Cond.code yX10_unit cX10_unit 1 (some .boolean)]
def wsX10_aRule : List Cond := .code yX10_aRule cX10_aRule 1 (some .boolean) :: ((wsX10_aRule_r1 ++ (wsX10_aRule_r2 ++ (wsX10_aRule_r3 ++ wsX10_aRule_r4))) ++ wsX100)
def wsX10_rules_r1 : List Cond := [Cond.fieldLink RX10 170 "MarkPagesModel" "wrong" "I", Cond.fieldLink RX10 145 "MarkPagesModel" "at" "I", Cond.fieldLink RX10 217 "MarkPagesModel" "freshRules" "I", Cond.fieldLink RX10 185 "MarkPagesModel" "freshSteps" "I", Cond.fieldLink RX10 154 "MarkPagesModel" "token" "I", Cond.fieldLink RX10 120 "MarkPagesModel" "taped" "I", Cond.fieldLink RX10 226 "MarkPagesModel" "faultKind" "I", Cond.fieldLink RX10 173 "MarkPagesModel" "wrongAt" "I", Cond.fieldLink RX10 52 "MarkPagesModel" "faultPlace" "I", Cond.fieldLink RX10 229 "MarkPagesModel" "rules" "I", Cond.fieldLink RX10 22 "MarkPagesModel" "saying" "[I", Cond.fieldLink RX10 34 "MarkPagesModel" "freshSaying" "[I", Cond.fieldLink RX10 25 "MarkPagesModel" "skillOf" "[I", Cond.fieldLink RX10 37 "MarkPagesModel" "freshSkill" "[I", Cond.fieldLink RX10 28 "MarkPagesModel" "from" "[I", Cond.fieldLink RX10 40 "MarkPagesModel" "freshFrom" "[I", Cond.fieldLink RX10 31 "MarkPagesModel" "step" "[I", Cond.fieldLink RX10 43 "MarkPagesModel" "fresh" "[I", Cond.methodLink RX10 179 yX10_next0, Cond.instanceMethod yX10_next0, Cond.selects RX10 yX10_next0 yX10_next0, Cond.initialized RX10, Cond.code yX10_next0 cX10_next0 5 none, Cond.fieldLink RX10 151 "MarkPagesModel" "tokenAt" "I"]
def wsX10_rules_r2 : List Cond := [Cond.fieldLink RX10 167 "MarkPagesModel" "value" "I", Cond.methodLink RX10 148 yX10_see, Cond.instanceMethod yX10_see, Cond.selects RX10 yX10_see yX10_see, Cond.code yX10_see cX10_see 2 (some .int), Cond.fieldLink RX10 49 "MarkPagesModel" "tape" "[I", Cond.methodLink RX10 157 yX10_isLetter, Cond.static yX10_isLetter, Cond.code yX10_isLetter cX10_isLetter 1 (some .boolean), Cond.methodLink RX10 83 yX10_isIn, Cond.static yX10_isIn, Cond.code yX10_isIn cX10_isIn 3 (some .boolean), Cond.methodLink RX10 160 yX10_word, Cond.static yX10_word, Cond.code yX10_word cX10_word 2 (some .int), Cond.constantLong RX10 123 (7561593), Cond.constantLong RX10 125 (495723310188), Cond.constantLong RX10 127 (2003330414), Cond.constantLong RX10 129 (28530), Cond.constantLong RX10 131 (6385252), Cond.constantLong RX10 133 (7237492), Cond.constantLong RX10 135 (120265298896228), Cond.constantLong RX10 137 (495672455781), Cond.constantLong RX10 139 (120299675936100)]
def wsX10_rules_r3 : List Cond := [Cond.constantLong RX10 141 (1818325876), Cond.constantLong RX10 143 (427020088179), Cond.methodLink RX10 164 yX10_isDigit, Cond.static yX10_isDigit, Cond.code yX10_isDigit cX10_isDigit 1 (some .boolean), Cond.methodLink RX10 223 yX10_aRule, Cond.instanceMethod yX10_aRule, Cond.selects RX10 yX10_aRule yX10_aRule, Cond.code yX10_aRule cX10_aRule 1 (some .boolean), Cond.fieldLink RX10 182 "MarkPagesModel" "number" "I", Cond.fieldLink RX10 188 "MarkPagesModel" "depth" "I", Cond.methodLink RX10 176 yX10_bad, Cond.instanceMethod yX10_bad, Cond.selects RX10 yX10_bad yX10_bad, Cond.code yX10_bad cX10_bad 2 (some .boolean), Cond.methodLink RX10 220 yX10_aNumber, Cond.instanceMethod yX10_aNumber, Cond.selects RX10 yX10_aNumber yX10_aNumber, Cond.code yX10_aNumber cX10_aNumber 2 (some .boolean), Cond.methodLink RX10 208 yX10_need, Cond.instanceMethod yX10_need, Cond.selects RX10 yX10_need yX10_need, Cond.code yX10_need cX10_need 2 (some .boolean), Cond.methodLink RX10 205 yX10_any]
def wsX10_rules_r4 : List Cond := [Cond.instanceMethod yX10_any, Cond.selects RX10 yX10_any yX10_any, Cond.code yX10_any cX10_any 1 (some .boolean), Cond.methodLink RX10 191 yX10_all, Cond.instanceMethod yX10_all, Cond.selects RX10 yX10_all yX10_all, Cond.methodLink RX10 195 yX10_lay, Cond.instanceMethod yX10_lay, Cond.selects RX10 yX10_lay yX10_lay, Cond.code yX10_lay cX10_lay 2 none, Cond.code yX10_all cX10_all 1 (some .boolean), Cond.methodLink RX10 199 yX10_one, Cond.instanceMethod yX10_one, Cond.selects RX10 yX10_one yX10_one, Cond.code yX10_one cX10_one 2 (some .boolean), Cond.methodLink RX10 202 yX10_opens, Cond.instanceMethod yX10_opens, Cond.selects RX10 yX10_opens yX10_opens, Cond.code yX10_opens cX10_opens 1 (some .boolean), Cond.methodLink RX10 211 yX10_sum, Cond.instanceMethod yX10_sum, Cond.selects RX10 yX10_sum yX10_sum, Cond.code yX10_sum cX10_sum 2 (some .boolean), Cond.methodLink RX10 214 yX10_unit]
def wsX10_rules_r5 : List Cond := [Cond.instanceMethod yX10_unit, Cond.selects RX10 yX10_unit yX10_unit, Cond.code yX10_unit cX10_unit 1 (some .boolean)]
def wsX10_rules : List Cond := .code yX10_rules cX10_rules 3 (some .int) :: ((wsX10_rules_r1 ++ (wsX10_rules_r2 ++ (wsX10_rules_r3 ++ (wsX10_rules_r4 ++ wsX10_rules_r5)))) ++ wsX100)
def wsX10_fault : List Cond := .code yX10_fault cX10_fault 2 (some .int) :: ([.fieldLink RX10 226 "MarkPagesModel" "faultKind" "I", .fieldLink RX10 52 "MarkPagesModel" "faultPlace" "I"] ++ wsX100)
def wsX10_known : List Cond := .code yX10_known cX10_known 5 (some .int) :: ([.methodLink RX10 107 yX10_bits, .static yX10_bits, .initialized RX10, .code yX10_bits cX10_bits 3 (some .int), .methodLink RX10 101 yX10_share, .instanceMethod yX10_share, .selects RX10 yX10_share yX10_share, .code yX10_share cX10_share 6 (some .int), .fieldLink RX10 87 "MarkPagesModel" "questions" "I", .fieldLink RX10 16 "MarkPagesModel" "points" "[I", .fieldLink RX10 7 "MarkPagesModel" "most" "[I", .methodLink RX10 111 yX10_missed, .instanceMethod yX10_missed, .selects RX10 yX10_missed yX10_missed, .code yX10_missed cX10_missed 5 (some .int), .methodLink RX10 114 yX10_last, .instanceMethod yX10_last, .selects RX10 yX10_last yX10_last, .code yX10_last cX10_last 4 (some .int)] ++ wsX100)
def wsX10_both : List Cond := .code yX10_both cX10_both 3 (some .int) :: ([])
def wsX10_isSo_r1 : List Cond := [Cond.fieldLink RX10 28 "MarkPagesModel" "from" "[I", Cond.fieldLink RX10 31 "MarkPagesModel" "step" "[I", Cond.fieldLink RX10 46 "MarkPagesModel" "pile" "[I", Cond.methodLink RX10 232 yX10_known, Cond.instanceMethod yX10_known, Cond.selects RX10 yX10_known yX10_known, Cond.initialized RX10, Cond.code yX10_known cX10_known 5 (some .int), Cond.methodLink RX10 107 yX10_bits, Cond.static yX10_bits, Cond.code yX10_bits cX10_bits 3 (some .int), Cond.methodLink RX10 101 yX10_share, Cond.instanceMethod yX10_share, Cond.selects RX10 yX10_share yX10_share, Cond.code yX10_share cX10_share 6 (some .int), Cond.fieldLink RX10 87 "MarkPagesModel" "questions" "I", Cond.fieldLink RX10 16 "MarkPagesModel" "points" "[I", Cond.fieldLink RX10 7 "MarkPagesModel" "most" "[I", Cond.methodLink RX10 111 yX10_missed, Cond.instanceMethod yX10_missed, Cond.selects RX10 yX10_missed yX10_missed, Cond.code yX10_missed cX10_missed 5 (some .int), Cond.methodLink RX10 114 yX10_last, Cond.instanceMethod yX10_last]
def wsX10_isSo_r2 : List Cond := [Cond.selects RX10 yX10_last yX10_last, Cond.code yX10_last cX10_last 4 (some .int), Cond.methodLink RX10 236 yX10_both, Cond.static yX10_both, Cond.code yX10_both cX10_both 3 (some .int)]
def wsX10_isSo : List Cond := .code yX10_isSo cX10_isSo 8 (some .boolean) :: ((wsX10_isSo_r1 ++ wsX10_isSo_r2) ++ wsX100)
def wsX10_has : List Cond := .code yX10_has cX10_has 5 (some .boolean) :: ([.fieldLink RX10 240 "MarkPagesModel" "lines" "I", .fieldLink RX10 59 "MarkPagesModel" "lineSkill" "[I", .fieldLink RX10 22 "MarkPagesModel" "saying" "[I", .fieldLink RX10 56 "MarkPagesModel" "lineRule" "[I"] ++ wsX100)
def wsX10_pages_r1 : List Cond := [Cond.fieldLink RX10 240 "MarkPagesModel" "lines" "I", Cond.fieldLink RX10 229 "MarkPagesModel" "rules" "I", Cond.fieldLink RX10 25 "MarkPagesModel" "skillOf" "[I", Cond.fieldLink RX10 22 "MarkPagesModel" "saying" "[I", Cond.fieldLink RX10 56 "MarkPagesModel" "lineRule" "[I", Cond.fieldLink RX10 59 "MarkPagesModel" "lineSkill" "[I", Cond.methodLink RX10 97 yX10_markedOf, Cond.instanceMethod yX10_markedOf, Cond.selects RX10 yX10_markedOf yX10_markedOf, Cond.initialized RX10, Cond.code yX10_markedOf cX10_markedOf 5 (some .int), Cond.fieldLink RX10 87 "MarkPagesModel" "questions" "I", Cond.fieldLink RX10 13 "MarkPagesModel" "skills" "[I", Cond.fieldLink RX10 16 "MarkPagesModel" "points" "[I", Cond.methodLink RX10 243 yX10_has, Cond.instanceMethod yX10_has, Cond.selects RX10 yX10_has yX10_has, Cond.code yX10_has cX10_has 5 (some .boolean), Cond.methodLink RX10 117 yX10_classOf, Cond.instanceMethod yX10_classOf, Cond.selects RX10 yX10_classOf yX10_classOf, Cond.code yX10_classOf cX10_classOf 7 (some .int), Cond.fieldLink RX10 19 "MarkPagesModel" "row" "[I", Cond.methodLink RX10 101 yX10_share]
def wsX10_pages_r2 : List Cond := [Cond.instanceMethod yX10_share, Cond.selects RX10 yX10_share yX10_share, Cond.code yX10_share cX10_share 6 (some .int), Cond.fieldLink RX10 7 "MarkPagesModel" "most" "[I", Cond.methodLink RX10 247 yX10_isSo, Cond.instanceMethod yX10_isSo, Cond.selects RX10 yX10_isSo yX10_isSo, Cond.code yX10_isSo cX10_isSo 8 (some .boolean), Cond.fieldLink RX10 28 "MarkPagesModel" "from" "[I", Cond.fieldLink RX10 31 "MarkPagesModel" "step" "[I", Cond.fieldLink RX10 46 "MarkPagesModel" "pile" "[I", Cond.methodLink RX10 232 yX10_known, Cond.instanceMethod yX10_known, Cond.selects RX10 yX10_known yX10_known, Cond.code yX10_known cX10_known 5 (some .int), Cond.methodLink RX10 107 yX10_bits, Cond.static yX10_bits, Cond.code yX10_bits cX10_bits 3 (some .int), Cond.methodLink RX10 111 yX10_missed, Cond.instanceMethod yX10_missed, Cond.selects RX10 yX10_missed yX10_missed, Cond.code yX10_missed cX10_missed 5 (some .int), Cond.methodLink RX10 114 yX10_last, Cond.instanceMethod yX10_last]
def wsX10_pages_r3 : List Cond := [Cond.selects RX10 yX10_last yX10_last, Cond.code yX10_last cX10_last 4 (some .int), Cond.methodLink RX10 236 yX10_both, Cond.static yX10_both, Cond.code yX10_both cX10_both 3 (some .int)]
def wsX10_pages : List Cond := .code yX10_pages cX10_pages 5 none :: ((wsX10_pages_r1 ++ (wsX10_pages_r2 ++ wsX10_pages_r3)) ++ wsX100)
def wsX10_page_r1 : List Cond := [Cond.fieldLink RX10 240 "MarkPagesModel" "lines" "I", Cond.methodLink RX10 90 yX10_isPupil, Cond.static yX10_isPupil, Cond.initialized RX10, Cond.code yX10_isPupil cX10_isPupil 1 (some .boolean), Cond.methodLink RX10 83 yX10_isIn, Cond.static yX10_isIn, Cond.code yX10_isIn cX10_isIn 3 (some .boolean), Cond.methodLink RX10 251 yX10_pages, Cond.instanceMethod yX10_pages, Cond.selects RX10 yX10_pages yX10_pages, Cond.code yX10_pages cX10_pages 5 none, Cond.fieldLink RX10 229 "MarkPagesModel" "rules" "I", Cond.fieldLink RX10 25 "MarkPagesModel" "skillOf" "[I", Cond.fieldLink RX10 22 "MarkPagesModel" "saying" "[I", Cond.fieldLink RX10 56 "MarkPagesModel" "lineRule" "[I", Cond.fieldLink RX10 59 "MarkPagesModel" "lineSkill" "[I", Cond.methodLink RX10 97 yX10_markedOf, Cond.instanceMethod yX10_markedOf, Cond.selects RX10 yX10_markedOf yX10_markedOf, Cond.code yX10_markedOf cX10_markedOf 5 (some .int), Cond.fieldLink RX10 87 "MarkPagesModel" "questions" "I", Cond.fieldLink RX10 13 "MarkPagesModel" "skills" "[I", Cond.fieldLink RX10 16 "MarkPagesModel" "points" "[I"]
def wsX10_page_r2 : List Cond := [Cond.methodLink RX10 243 yX10_has, Cond.instanceMethod yX10_has, Cond.selects RX10 yX10_has yX10_has, Cond.code yX10_has cX10_has 5 (some .boolean), Cond.methodLink RX10 117 yX10_classOf, Cond.instanceMethod yX10_classOf, Cond.selects RX10 yX10_classOf yX10_classOf, Cond.code yX10_classOf cX10_classOf 7 (some .int), Cond.fieldLink RX10 19 "MarkPagesModel" "row" "[I", Cond.methodLink RX10 101 yX10_share, Cond.instanceMethod yX10_share, Cond.selects RX10 yX10_share yX10_share, Cond.code yX10_share cX10_share 6 (some .int), Cond.fieldLink RX10 7 "MarkPagesModel" "most" "[I", Cond.methodLink RX10 247 yX10_isSo, Cond.instanceMethod yX10_isSo, Cond.selects RX10 yX10_isSo yX10_isSo, Cond.code yX10_isSo cX10_isSo 8 (some .boolean), Cond.fieldLink RX10 28 "MarkPagesModel" "from" "[I", Cond.fieldLink RX10 31 "MarkPagesModel" "step" "[I", Cond.fieldLink RX10 46 "MarkPagesModel" "pile" "[I", Cond.methodLink RX10 232 yX10_known, Cond.instanceMethod yX10_known, Cond.selects RX10 yX10_known yX10_known]
def wsX10_page_r3 : List Cond := [Cond.code yX10_known cX10_known 5 (some .int), Cond.methodLink RX10 107 yX10_bits, Cond.static yX10_bits, Cond.code yX10_bits cX10_bits 3 (some .int), Cond.methodLink RX10 111 yX10_missed, Cond.instanceMethod yX10_missed, Cond.selects RX10 yX10_missed yX10_missed, Cond.code yX10_missed cX10_missed 5 (some .int), Cond.methodLink RX10 114 yX10_last, Cond.instanceMethod yX10_last, Cond.selects RX10 yX10_last yX10_last, Cond.code yX10_last cX10_last 4 (some .int), Cond.methodLink RX10 236 yX10_both, Cond.static yX10_both, Cond.code yX10_both cX10_both 3 (some .int)]
def wsX10_page : List Cond := .code yX10_page cX10_page 2 (some .int) :: ((wsX10_page_r1 ++ (wsX10_page_r2 ++ wsX10_page_r3)) ++ wsX100)
def wsX10_borne_r1 : List Cond := [Cond.fieldLink RX10 59 "MarkPagesModel" "lineSkill" "[I", Cond.fieldLink RX10 87 "MarkPagesModel" "questions" "I", Cond.fieldLink RX10 56 "MarkPagesModel" "lineRule" "[I", Cond.methodLink RX10 97 yX10_markedOf, Cond.instanceMethod yX10_markedOf, Cond.selects RX10 yX10_markedOf yX10_markedOf, Cond.initialized RX10, Cond.code yX10_markedOf cX10_markedOf 5 (some .int), Cond.fieldLink RX10 13 "MarkPagesModel" "skills" "[I", Cond.fieldLink RX10 16 "MarkPagesModel" "points" "[I", Cond.methodLink RX10 117 yX10_classOf, Cond.instanceMethod yX10_classOf, Cond.selects RX10 yX10_classOf yX10_classOf, Cond.code yX10_classOf cX10_classOf 7 (some .int), Cond.fieldLink RX10 19 "MarkPagesModel" "row" "[I", Cond.methodLink RX10 101 yX10_share, Cond.instanceMethod yX10_share, Cond.selects RX10 yX10_share yX10_share, Cond.code yX10_share cX10_share 6 (some .int), Cond.fieldLink RX10 7 "MarkPagesModel" "most" "[I", Cond.methodLink RX10 107 yX10_bits, Cond.static yX10_bits, Cond.code yX10_bits cX10_bits 3 (some .int), Cond.methodLink RX10 247 yX10_isSo]
def wsX10_borne_r2 : List Cond := [Cond.instanceMethod yX10_isSo, Cond.selects RX10 yX10_isSo yX10_isSo, Cond.code yX10_isSo cX10_isSo 8 (some .boolean), Cond.fieldLink RX10 28 "MarkPagesModel" "from" "[I", Cond.fieldLink RX10 31 "MarkPagesModel" "step" "[I", Cond.fieldLink RX10 46 "MarkPagesModel" "pile" "[I", Cond.methodLink RX10 232 yX10_known, Cond.instanceMethod yX10_known, Cond.selects RX10 yX10_known yX10_known, Cond.code yX10_known cX10_known 5 (some .int), Cond.methodLink RX10 111 yX10_missed, Cond.instanceMethod yX10_missed, Cond.selects RX10 yX10_missed yX10_missed, Cond.code yX10_missed cX10_missed 5 (some .int), Cond.methodLink RX10 114 yX10_last, Cond.instanceMethod yX10_last, Cond.selects RX10 yX10_last yX10_last, Cond.code yX10_last cX10_last 4 (some .int), Cond.methodLink RX10 236 yX10_both, Cond.static yX10_both, Cond.code yX10_both cX10_both 3 (some .int)]
def wsX10_borne : List Cond := .code yX10_borne cX10_borne 7 (some .int) :: ((wsX10_borne_r1 ++ wsX10_borne_r2) ++ wsX100)
def wsX10_line_r1 : List Cond := [Cond.fieldLink RX10 240 "MarkPagesModel" "lines" "I", Cond.fieldLink RX10 22 "MarkPagesModel" "saying" "[I", Cond.fieldLink RX10 56 "MarkPagesModel" "lineRule" "[I", Cond.fieldLink RX10 59 "MarkPagesModel" "lineSkill" "[I", Cond.methodLink RX10 90 yX10_isPupil, Cond.static yX10_isPupil, Cond.initialized RX10, Cond.code yX10_isPupil cX10_isPupil 1 (some .boolean), Cond.methodLink RX10 83 yX10_isIn, Cond.static yX10_isIn, Cond.code yX10_isIn cX10_isIn 3 (some .boolean), Cond.methodLink RX10 251 yX10_pages, Cond.instanceMethod yX10_pages, Cond.selects RX10 yX10_pages yX10_pages, Cond.code yX10_pages cX10_pages 5 none, Cond.fieldLink RX10 229 "MarkPagesModel" "rules" "I", Cond.fieldLink RX10 25 "MarkPagesModel" "skillOf" "[I", Cond.methodLink RX10 97 yX10_markedOf, Cond.instanceMethod yX10_markedOf, Cond.selects RX10 yX10_markedOf yX10_markedOf, Cond.code yX10_markedOf cX10_markedOf 5 (some .int), Cond.fieldLink RX10 87 "MarkPagesModel" "questions" "I", Cond.fieldLink RX10 13 "MarkPagesModel" "skills" "[I", Cond.fieldLink RX10 16 "MarkPagesModel" "points" "[I"]
def wsX10_line_r2 : List Cond := [Cond.methodLink RX10 243 yX10_has, Cond.instanceMethod yX10_has, Cond.selects RX10 yX10_has yX10_has, Cond.code yX10_has cX10_has 5 (some .boolean), Cond.methodLink RX10 117 yX10_classOf, Cond.instanceMethod yX10_classOf, Cond.selects RX10 yX10_classOf yX10_classOf, Cond.code yX10_classOf cX10_classOf 7 (some .int), Cond.fieldLink RX10 19 "MarkPagesModel" "row" "[I", Cond.methodLink RX10 101 yX10_share, Cond.instanceMethod yX10_share, Cond.selects RX10 yX10_share yX10_share, Cond.code yX10_share cX10_share 6 (some .int), Cond.fieldLink RX10 7 "MarkPagesModel" "most" "[I", Cond.methodLink RX10 247 yX10_isSo, Cond.instanceMethod yX10_isSo, Cond.selects RX10 yX10_isSo yX10_isSo, Cond.code yX10_isSo cX10_isSo 8 (some .boolean), Cond.fieldLink RX10 28 "MarkPagesModel" "from" "[I", Cond.fieldLink RX10 31 "MarkPagesModel" "step" "[I", Cond.fieldLink RX10 46 "MarkPagesModel" "pile" "[I", Cond.methodLink RX10 232 yX10_known, Cond.instanceMethod yX10_known, Cond.selects RX10 yX10_known yX10_known]
def wsX10_line_r3 : List Cond := [Cond.code yX10_known cX10_known 5 (some .int), Cond.methodLink RX10 107 yX10_bits, Cond.static yX10_bits, Cond.code yX10_bits cX10_bits 3 (some .int), Cond.methodLink RX10 111 yX10_missed, Cond.instanceMethod yX10_missed, Cond.selects RX10 yX10_missed yX10_missed, Cond.code yX10_missed cX10_missed 5 (some .int), Cond.methodLink RX10 114 yX10_last, Cond.instanceMethod yX10_last, Cond.selects RX10 yX10_last yX10_last, Cond.code yX10_last cX10_last 4 (some .int), Cond.methodLink RX10 236 yX10_both, Cond.static yX10_both, Cond.code yX10_both cX10_both 3 (some .int), Cond.methodLink RX10 254 yX10_borne, Cond.instanceMethod yX10_borne, Cond.selects RX10 yX10_borne yX10_borne, Cond.code yX10_borne cX10_borne 7 (some .int)]
def wsX10_line : List Cond := .code yX10_line cX10_line 4 (some .int) :: ((wsX10_line_r1 ++ (wsX10_line_r2 ++ wsX10_line_r3)) ++ wsX100)
def wsX10_isTongue : List Cond := .code yX10_isTongue cX10_isTongue 1 (some .boolean) :: ([.methodLink RX10 83 yX10_isIn, .static yX10_isIn, .initialized RX10, .code yX10_isIn cX10_isIn 3 (some .boolean)])
def wsX10_phrase : List Cond := .code yX10_phrase cX10_phrase 5 (some .boolean) :: ([.fieldLink RX10 120 "MarkPagesModel" "taped" "I", .fieldLink RX10 62 "MarkPagesModel" "phraseLong" "[I", .fieldLink RX10 65 "MarkPagesModel" "phrase" "[I", .fieldLink RX10 49 "MarkPagesModel" "tape" "[I", .methodLink RX10 83 yX10_isIn, .static yX10_isIn, .initialized RX10, .code yX10_isIn cX10_isIn 3 (some .boolean), .methodLink RX10 257 yX10_isTongue, .static yX10_isTongue, .code yX10_isTongue cX10_isTongue 1 (some .boolean)] ++ wsX100)
def wsX10_name : List Cond := .code yX10_name cX10_name 5 (some .boolean) :: ([.fieldLink RX10 120 "MarkPagesModel" "taped" "I", .fieldLink RX10 68 "MarkPagesModel" "nameLong" "[I", .fieldLink RX10 71 "MarkPagesModel" "name" "[I", .fieldLink RX10 49 "MarkPagesModel" "tape" "[I", .methodLink RX10 104 yX10_isSkill, .static yX10_isSkill, .initialized RX10, .code yX10_isSkill cX10_isSkill 1 (some .boolean), .methodLink RX10 83 yX10_isIn, .static yX10_isIn, .code yX10_isIn cX10_isIn 3 (some .boolean), .methodLink RX10 257 yX10_isTongue, .static yX10_isTongue, .code yX10_isTongue cX10_isTongue 1 (some .boolean)] ++ wsX100)
def wsX10_puts : List Cond := .code yX10_puts cX10_puts 2 none :: ([.fieldLink RX10 74 "MarkPagesModel" "out" "[I", .fieldLink RX10 260 "MarkPagesModel" "outs" "I"] ++ wsX100)
def wsX10_writes_r1 : List Cond := [Cond.fieldLink RX10 22 "MarkPagesModel" "saying" "[I", Cond.fieldLink RX10 56 "MarkPagesModel" "lineRule" "[I", Cond.fieldLink RX10 59 "MarkPagesModel" "lineSkill" "[I", Cond.fieldLink RX10 62 "MarkPagesModel" "phraseLong" "[I", Cond.fieldLink RX10 65 "MarkPagesModel" "phrase" "[I", Cond.fieldLink RX10 68 "MarkPagesModel" "nameLong" "[I", Cond.fieldLink RX10 71 "MarkPagesModel" "name" "[I", Cond.methodLink RX10 263 yX10_puts, Cond.instanceMethod yX10_puts, Cond.selects RX10 yX10_puts yX10_puts, Cond.initialized RX10, Cond.code yX10_puts cX10_puts 2 none, Cond.fieldLink RX10 74 "MarkPagesModel" "out" "[I", Cond.fieldLink RX10 260 "MarkPagesModel" "outs" "I", Cond.methodLink RX10 97 yX10_markedOf, Cond.instanceMethod yX10_markedOf, Cond.selects RX10 yX10_markedOf yX10_markedOf, Cond.code yX10_markedOf cX10_markedOf 5 (some .int), Cond.fieldLink RX10 87 "MarkPagesModel" "questions" "I", Cond.fieldLink RX10 13 "MarkPagesModel" "skills" "[I", Cond.fieldLink RX10 16 "MarkPagesModel" "points" "[I", Cond.methodLink RX10 101 yX10_share, Cond.instanceMethod yX10_share, Cond.selects RX10 yX10_share yX10_share]
def wsX10_writes_r2 : List Cond := [Cond.code yX10_share cX10_share 6 (some .int), Cond.fieldLink RX10 7 "MarkPagesModel" "most" "[I"]
def wsX10_writes : List Cond := .code yX10_writes cX10_writes 9 none :: ((wsX10_writes_r1 ++ wsX10_writes_r2) ++ wsX100)
def wsX10_write_r1 : List Cond := [Cond.fieldLink RX10 260 "MarkPagesModel" "outs" "I", Cond.fieldLink RX10 240 "MarkPagesModel" "lines" "I", Cond.methodLink RX10 90 yX10_isPupil, Cond.static yX10_isPupil, Cond.initialized RX10, Cond.code yX10_isPupil cX10_isPupil 1 (some .boolean), Cond.methodLink RX10 83 yX10_isIn, Cond.static yX10_isIn, Cond.code yX10_isIn cX10_isIn 3 (some .boolean), Cond.methodLink RX10 257 yX10_isTongue, Cond.static yX10_isTongue, Cond.code yX10_isTongue cX10_isTongue 1 (some .boolean), Cond.methodLink RX10 251 yX10_pages, Cond.instanceMethod yX10_pages, Cond.selects RX10 yX10_pages yX10_pages, Cond.code yX10_pages cX10_pages 5 none, Cond.fieldLink RX10 229 "MarkPagesModel" "rules" "I", Cond.fieldLink RX10 25 "MarkPagesModel" "skillOf" "[I", Cond.fieldLink RX10 22 "MarkPagesModel" "saying" "[I", Cond.fieldLink RX10 56 "MarkPagesModel" "lineRule" "[I", Cond.fieldLink RX10 59 "MarkPagesModel" "lineSkill" "[I", Cond.methodLink RX10 97 yX10_markedOf, Cond.instanceMethod yX10_markedOf, Cond.selects RX10 yX10_markedOf yX10_markedOf]
def wsX10_write_r2 : List Cond := [Cond.code yX10_markedOf cX10_markedOf 5 (some .int), Cond.fieldLink RX10 87 "MarkPagesModel" "questions" "I", Cond.fieldLink RX10 13 "MarkPagesModel" "skills" "[I", Cond.fieldLink RX10 16 "MarkPagesModel" "points" "[I", Cond.methodLink RX10 243 yX10_has, Cond.instanceMethod yX10_has, Cond.selects RX10 yX10_has yX10_has, Cond.code yX10_has cX10_has 5 (some .boolean), Cond.methodLink RX10 117 yX10_classOf, Cond.instanceMethod yX10_classOf, Cond.selects RX10 yX10_classOf yX10_classOf, Cond.code yX10_classOf cX10_classOf 7 (some .int), Cond.fieldLink RX10 19 "MarkPagesModel" "row" "[I", Cond.methodLink RX10 101 yX10_share, Cond.instanceMethod yX10_share, Cond.selects RX10 yX10_share yX10_share, Cond.code yX10_share cX10_share 6 (some .int), Cond.fieldLink RX10 7 "MarkPagesModel" "most" "[I", Cond.methodLink RX10 247 yX10_isSo, Cond.instanceMethod yX10_isSo, Cond.selects RX10 yX10_isSo yX10_isSo, Cond.code yX10_isSo cX10_isSo 8 (some .boolean), Cond.fieldLink RX10 28 "MarkPagesModel" "from" "[I", Cond.fieldLink RX10 31 "MarkPagesModel" "step" "[I"]
def wsX10_write_r3 : List Cond := [Cond.fieldLink RX10 46 "MarkPagesModel" "pile" "[I", Cond.methodLink RX10 232 yX10_known, Cond.instanceMethod yX10_known, Cond.selects RX10 yX10_known yX10_known, Cond.code yX10_known cX10_known 5 (some .int), Cond.methodLink RX10 107 yX10_bits, Cond.static yX10_bits, Cond.code yX10_bits cX10_bits 3 (some .int), Cond.methodLink RX10 111 yX10_missed, Cond.instanceMethod yX10_missed, Cond.selects RX10 yX10_missed yX10_missed, Cond.code yX10_missed cX10_missed 5 (some .int), Cond.methodLink RX10 114 yX10_last, Cond.instanceMethod yX10_last, Cond.selects RX10 yX10_last yX10_last, Cond.code yX10_last cX10_last 4 (some .int), Cond.methodLink RX10 236 yX10_both, Cond.static yX10_both, Cond.code yX10_both cX10_both 3 (some .int), Cond.methodLink RX10 266 yX10_writes, Cond.instanceMethod yX10_writes, Cond.selects RX10 yX10_writes yX10_writes, Cond.code yX10_writes cX10_writes 9 none, Cond.fieldLink RX10 62 "MarkPagesModel" "phraseLong" "[I"]
def wsX10_write_r4 : List Cond := [Cond.fieldLink RX10 65 "MarkPagesModel" "phrase" "[I", Cond.fieldLink RX10 68 "MarkPagesModel" "nameLong" "[I", Cond.fieldLink RX10 71 "MarkPagesModel" "name" "[I", Cond.methodLink RX10 263 yX10_puts, Cond.instanceMethod yX10_puts, Cond.selects RX10 yX10_puts yX10_puts, Cond.code yX10_puts cX10_puts 2 none, Cond.fieldLink RX10 74 "MarkPagesModel" "out" "[I"]
def wsX10_write : List Cond := .code yX10_write cX10_write 4 (some .int) :: ((wsX10_write_r1 ++ (wsX10_write_r2 ++ (wsX10_write_r3 ++ wsX10_write_r4))) ++ wsX100)
def wsX10_out : List Cond := .code yX10_out cX10_out 2 (some .int) :: ([.fieldLink RX10 260 "MarkPagesModel" "outs" "I", .fieldLink RX10 74 "MarkPagesModel" "out" "[I", .methodLink RX10 83 yX10_isIn, .static yX10_isIn, .initialized RX10, .code yX10_isIn cX10_isIn 3 (some .boolean)] ++ wsX100)
def wsX10_areAlike_r1 : List Cond := [Cond.fieldLink RX10 240 "MarkPagesModel" "lines" "I", Cond.fieldLink RX10 77 "MarkPagesModel" "sayings" "[I", Cond.fieldLink RX10 22 "MarkPagesModel" "saying" "[I", Cond.fieldLink RX10 56 "MarkPagesModel" "lineRule" "[I", Cond.fieldLink RX10 80 "MarkPagesModel" "others" "[I", Cond.fieldLink RX10 59 "MarkPagesModel" "lineSkill" "[I", Cond.methodLink RX10 251 yX10_pages, Cond.instanceMethod yX10_pages, Cond.selects RX10 yX10_pages yX10_pages, Cond.initialized RX10, Cond.code yX10_pages cX10_pages 5 none, Cond.fieldLink RX10 229 "MarkPagesModel" "rules" "I", Cond.fieldLink RX10 25 "MarkPagesModel" "skillOf" "[I", Cond.methodLink RX10 97 yX10_markedOf, Cond.instanceMethod yX10_markedOf, Cond.selects RX10 yX10_markedOf yX10_markedOf, Cond.code yX10_markedOf cX10_markedOf 5 (some .int), Cond.fieldLink RX10 87 "MarkPagesModel" "questions" "I", Cond.fieldLink RX10 13 "MarkPagesModel" "skills" "[I", Cond.fieldLink RX10 16 "MarkPagesModel" "points" "[I", Cond.methodLink RX10 243 yX10_has, Cond.instanceMethod yX10_has, Cond.selects RX10 yX10_has yX10_has, Cond.code yX10_has cX10_has 5 (some .boolean)]
def wsX10_areAlike_r2 : List Cond := [Cond.methodLink RX10 117 yX10_classOf, Cond.instanceMethod yX10_classOf, Cond.selects RX10 yX10_classOf yX10_classOf, Cond.code yX10_classOf cX10_classOf 7 (some .int), Cond.fieldLink RX10 19 "MarkPagesModel" "row" "[I", Cond.methodLink RX10 101 yX10_share, Cond.instanceMethod yX10_share, Cond.selects RX10 yX10_share yX10_share, Cond.code yX10_share cX10_share 6 (some .int), Cond.fieldLink RX10 7 "MarkPagesModel" "most" "[I", Cond.methodLink RX10 247 yX10_isSo, Cond.instanceMethod yX10_isSo, Cond.selects RX10 yX10_isSo yX10_isSo, Cond.code yX10_isSo cX10_isSo 8 (some .boolean), Cond.fieldLink RX10 28 "MarkPagesModel" "from" "[I", Cond.fieldLink RX10 31 "MarkPagesModel" "step" "[I", Cond.fieldLink RX10 46 "MarkPagesModel" "pile" "[I", Cond.methodLink RX10 232 yX10_known, Cond.instanceMethod yX10_known, Cond.selects RX10 yX10_known yX10_known, Cond.code yX10_known cX10_known 5 (some .int), Cond.methodLink RX10 107 yX10_bits, Cond.static yX10_bits, Cond.code yX10_bits cX10_bits 3 (some .int)]
def wsX10_areAlike_r3 : List Cond := [Cond.methodLink RX10 111 yX10_missed, Cond.instanceMethod yX10_missed, Cond.selects RX10 yX10_missed yX10_missed, Cond.code yX10_missed cX10_missed 5 (some .int), Cond.methodLink RX10 114 yX10_last, Cond.instanceMethod yX10_last, Cond.selects RX10 yX10_last yX10_last, Cond.code yX10_last cX10_last 4 (some .int), Cond.methodLink RX10 236 yX10_both, Cond.static yX10_both, Cond.code yX10_both cX10_both 3 (some .int)]
def wsX10_areAlike : List Cond := .code yX10_areAlike cX10_areAlike 6 (some .boolean) :: ((wsX10_areAlike_r1 ++ (wsX10_areAlike_r2 ++ wsX10_areAlike_r3)) ++ wsX100)
def wsX10_alike_r1 : List Cond := [Cond.methodLink RX10 90 yX10_isPupil, Cond.static yX10_isPupil, Cond.initialized RX10, Cond.code yX10_isPupil cX10_isPupil 1 (some .boolean), Cond.methodLink RX10 83 yX10_isIn, Cond.static yX10_isIn, Cond.code yX10_isIn cX10_isIn 3 (some .boolean), Cond.methodLink RX10 270 yX10_areAlike, Cond.instanceMethod yX10_areAlike, Cond.selects RX10 yX10_areAlike yX10_areAlike, Cond.code yX10_areAlike cX10_areAlike 6 (some .boolean), Cond.fieldLink RX10 240 "MarkPagesModel" "lines" "I", Cond.fieldLink RX10 77 "MarkPagesModel" "sayings" "[I", Cond.fieldLink RX10 22 "MarkPagesModel" "saying" "[I", Cond.fieldLink RX10 56 "MarkPagesModel" "lineRule" "[I", Cond.fieldLink RX10 80 "MarkPagesModel" "others" "[I", Cond.fieldLink RX10 59 "MarkPagesModel" "lineSkill" "[I", Cond.methodLink RX10 251 yX10_pages, Cond.instanceMethod yX10_pages, Cond.selects RX10 yX10_pages yX10_pages, Cond.code yX10_pages cX10_pages 5 none, Cond.fieldLink RX10 229 "MarkPagesModel" "rules" "I", Cond.fieldLink RX10 25 "MarkPagesModel" "skillOf" "[I", Cond.methodLink RX10 97 yX10_markedOf]
def wsX10_alike_r2 : List Cond := [Cond.instanceMethod yX10_markedOf, Cond.selects RX10 yX10_markedOf yX10_markedOf, Cond.code yX10_markedOf cX10_markedOf 5 (some .int), Cond.fieldLink RX10 87 "MarkPagesModel" "questions" "I", Cond.fieldLink RX10 13 "MarkPagesModel" "skills" "[I", Cond.fieldLink RX10 16 "MarkPagesModel" "points" "[I", Cond.methodLink RX10 243 yX10_has, Cond.instanceMethod yX10_has, Cond.selects RX10 yX10_has yX10_has, Cond.code yX10_has cX10_has 5 (some .boolean), Cond.methodLink RX10 117 yX10_classOf, Cond.instanceMethod yX10_classOf, Cond.selects RX10 yX10_classOf yX10_classOf, Cond.code yX10_classOf cX10_classOf 7 (some .int), Cond.fieldLink RX10 19 "MarkPagesModel" "row" "[I", Cond.methodLink RX10 101 yX10_share, Cond.instanceMethod yX10_share, Cond.selects RX10 yX10_share yX10_share, Cond.code yX10_share cX10_share 6 (some .int), Cond.fieldLink RX10 7 "MarkPagesModel" "most" "[I", Cond.methodLink RX10 247 yX10_isSo, Cond.instanceMethod yX10_isSo, Cond.selects RX10 yX10_isSo yX10_isSo, Cond.code yX10_isSo cX10_isSo 8 (some .boolean)]
def wsX10_alike_r3 : List Cond := [Cond.fieldLink RX10 28 "MarkPagesModel" "from" "[I", Cond.fieldLink RX10 31 "MarkPagesModel" "step" "[I", Cond.fieldLink RX10 46 "MarkPagesModel" "pile" "[I", Cond.methodLink RX10 232 yX10_known, Cond.instanceMethod yX10_known, Cond.selects RX10 yX10_known yX10_known, Cond.code yX10_known cX10_known 5 (some .int), Cond.methodLink RX10 107 yX10_bits, Cond.static yX10_bits, Cond.code yX10_bits cX10_bits 3 (some .int), Cond.methodLink RX10 111 yX10_missed, Cond.instanceMethod yX10_missed, Cond.selects RX10 yX10_missed yX10_missed, Cond.code yX10_missed cX10_missed 5 (some .int), Cond.methodLink RX10 114 yX10_last, Cond.instanceMethod yX10_last, Cond.selects RX10 yX10_last yX10_last, Cond.code yX10_last cX10_last 4 (some .int), Cond.methodLink RX10 236 yX10_both, Cond.static yX10_both, Cond.code yX10_both cX10_both 3 (some .int)]
def wsX10_alike : List Cond := .code yX10_alike cX10_alike 3 (some .int) :: ((wsX10_alike_r1 ++ (wsX10_alike_r2 ++ wsX10_alike_r3)) ++ wsX100)
def wsX10_sheet_r1 : List Cond := [Cond.methodLink RX10 104 yX10_isSkill, Cond.static yX10_isSkill, Cond.initialized RX10, Cond.code yX10_isSkill cX10_isSkill 1 (some .boolean), Cond.methodLink RX10 83 yX10_isIn, Cond.static yX10_isIn, Cond.code yX10_isIn cX10_isIn 3 (some .boolean), Cond.methodLink RX10 251 yX10_pages, Cond.instanceMethod yX10_pages, Cond.selects RX10 yX10_pages yX10_pages, Cond.code yX10_pages cX10_pages 5 none, Cond.fieldLink RX10 240 "MarkPagesModel" "lines" "I", Cond.fieldLink RX10 229 "MarkPagesModel" "rules" "I", Cond.fieldLink RX10 25 "MarkPagesModel" "skillOf" "[I", Cond.fieldLink RX10 22 "MarkPagesModel" "saying" "[I", Cond.fieldLink RX10 56 "MarkPagesModel" "lineRule" "[I", Cond.fieldLink RX10 59 "MarkPagesModel" "lineSkill" "[I", Cond.methodLink RX10 97 yX10_markedOf, Cond.instanceMethod yX10_markedOf, Cond.selects RX10 yX10_markedOf yX10_markedOf, Cond.code yX10_markedOf cX10_markedOf 5 (some .int), Cond.fieldLink RX10 87 "MarkPagesModel" "questions" "I", Cond.fieldLink RX10 13 "MarkPagesModel" "skills" "[I", Cond.fieldLink RX10 16 "MarkPagesModel" "points" "[I"]
def wsX10_sheet_r2 : List Cond := [Cond.methodLink RX10 243 yX10_has, Cond.instanceMethod yX10_has, Cond.selects RX10 yX10_has yX10_has, Cond.code yX10_has cX10_has 5 (some .boolean), Cond.methodLink RX10 117 yX10_classOf, Cond.instanceMethod yX10_classOf, Cond.selects RX10 yX10_classOf yX10_classOf, Cond.code yX10_classOf cX10_classOf 7 (some .int), Cond.fieldLink RX10 19 "MarkPagesModel" "row" "[I", Cond.methodLink RX10 101 yX10_share, Cond.instanceMethod yX10_share, Cond.selects RX10 yX10_share yX10_share, Cond.code yX10_share cX10_share 6 (some .int), Cond.fieldLink RX10 7 "MarkPagesModel" "most" "[I", Cond.methodLink RX10 247 yX10_isSo, Cond.instanceMethod yX10_isSo, Cond.selects RX10 yX10_isSo yX10_isSo, Cond.code yX10_isSo cX10_isSo 8 (some .boolean), Cond.fieldLink RX10 28 "MarkPagesModel" "from" "[I", Cond.fieldLink RX10 31 "MarkPagesModel" "step" "[I", Cond.fieldLink RX10 46 "MarkPagesModel" "pile" "[I", Cond.methodLink RX10 232 yX10_known, Cond.instanceMethod yX10_known, Cond.selects RX10 yX10_known yX10_known]
def wsX10_sheet_r3 : List Cond := [Cond.code yX10_known cX10_known 5 (some .int), Cond.methodLink RX10 107 yX10_bits, Cond.static yX10_bits, Cond.code yX10_bits cX10_bits 3 (some .int), Cond.methodLink RX10 111 yX10_missed, Cond.instanceMethod yX10_missed, Cond.selects RX10 yX10_missed yX10_missed, Cond.code yX10_missed cX10_missed 5 (some .int), Cond.methodLink RX10 114 yX10_last, Cond.instanceMethod yX10_last, Cond.selects RX10 yX10_last yX10_last, Cond.code yX10_last cX10_last 4 (some .int), Cond.methodLink RX10 236 yX10_both, Cond.static yX10_both, Cond.code yX10_both cX10_both 3 (some .int)]
def wsX10_sheet : List Cond := .code yX10_sheet cX10_sheet 5 (some .int) :: ((wsX10_sheet_r1 ++ (wsX10_sheet_r2 ++ wsX10_sheet_r3)) ++ wsX100)
def wsX10_hasMark : List Cond := .code yX10_hasMark cX10_hasMark 4 (some .boolean) :: ([.fieldLink RX10 87 "MarkPagesModel" "questions" "I", .fieldLink RX10 16 "MarkPagesModel" "points" "[I"] ++ wsX100)
def wsX10_first_r1 : List Cond := [Cond.methodLink RX10 273 yX10_hasMark, Cond.instanceMethod yX10_hasMark, Cond.selects RX10 yX10_hasMark yX10_hasMark, Cond.initialized RX10, Cond.code yX10_hasMark cX10_hasMark 4 (some .boolean), Cond.fieldLink RX10 87 "MarkPagesModel" "questions" "I", Cond.fieldLink RX10 16 "MarkPagesModel" "points" "[I", Cond.methodLink RX10 270 yX10_areAlike, Cond.instanceMethod yX10_areAlike, Cond.selects RX10 yX10_areAlike yX10_areAlike, Cond.code yX10_areAlike cX10_areAlike 6 (some .boolean), Cond.fieldLink RX10 240 "MarkPagesModel" "lines" "I", Cond.fieldLink RX10 77 "MarkPagesModel" "sayings" "[I", Cond.fieldLink RX10 22 "MarkPagesModel" "saying" "[I", Cond.fieldLink RX10 56 "MarkPagesModel" "lineRule" "[I", Cond.fieldLink RX10 80 "MarkPagesModel" "others" "[I", Cond.fieldLink RX10 59 "MarkPagesModel" "lineSkill" "[I", Cond.methodLink RX10 251 yX10_pages, Cond.instanceMethod yX10_pages, Cond.selects RX10 yX10_pages yX10_pages, Cond.code yX10_pages cX10_pages 5 none, Cond.fieldLink RX10 229 "MarkPagesModel" "rules" "I", Cond.fieldLink RX10 25 "MarkPagesModel" "skillOf" "[I", Cond.methodLink RX10 97 yX10_markedOf]
def wsX10_first_r2 : List Cond := [Cond.instanceMethod yX10_markedOf, Cond.selects RX10 yX10_markedOf yX10_markedOf, Cond.code yX10_markedOf cX10_markedOf 5 (some .int), Cond.fieldLink RX10 13 "MarkPagesModel" "skills" "[I", Cond.methodLink RX10 243 yX10_has, Cond.instanceMethod yX10_has, Cond.selects RX10 yX10_has yX10_has, Cond.code yX10_has cX10_has 5 (some .boolean), Cond.methodLink RX10 117 yX10_classOf, Cond.instanceMethod yX10_classOf, Cond.selects RX10 yX10_classOf yX10_classOf, Cond.code yX10_classOf cX10_classOf 7 (some .int), Cond.fieldLink RX10 19 "MarkPagesModel" "row" "[I", Cond.methodLink RX10 101 yX10_share, Cond.instanceMethod yX10_share, Cond.selects RX10 yX10_share yX10_share, Cond.code yX10_share cX10_share 6 (some .int), Cond.fieldLink RX10 7 "MarkPagesModel" "most" "[I", Cond.methodLink RX10 247 yX10_isSo, Cond.instanceMethod yX10_isSo, Cond.selects RX10 yX10_isSo yX10_isSo, Cond.code yX10_isSo cX10_isSo 8 (some .boolean), Cond.fieldLink RX10 28 "MarkPagesModel" "from" "[I", Cond.fieldLink RX10 31 "MarkPagesModel" "step" "[I"]
def wsX10_first_r3 : List Cond := [Cond.fieldLink RX10 46 "MarkPagesModel" "pile" "[I", Cond.methodLink RX10 232 yX10_known, Cond.instanceMethod yX10_known, Cond.selects RX10 yX10_known yX10_known, Cond.code yX10_known cX10_known 5 (some .int), Cond.methodLink RX10 107 yX10_bits, Cond.static yX10_bits, Cond.code yX10_bits cX10_bits 3 (some .int), Cond.methodLink RX10 111 yX10_missed, Cond.instanceMethod yX10_missed, Cond.selects RX10 yX10_missed yX10_missed, Cond.code yX10_missed cX10_missed 5 (some .int), Cond.methodLink RX10 114 yX10_last, Cond.instanceMethod yX10_last, Cond.selects RX10 yX10_last yX10_last, Cond.code yX10_last cX10_last 4 (some .int), Cond.methodLink RX10 236 yX10_both, Cond.static yX10_both, Cond.code yX10_both cX10_both 3 (some .int)]
def wsX10_first : List Cond := .code yX10_first cX10_first 3 (some .int) :: ((wsX10_first_r1 ++ (wsX10_first_r2 ++ wsX10_first_r3)) ++ wsX100)
def wsX10_group_r1 : List Cond := [Cond.methodLink RX10 90 yX10_isPupil, Cond.static yX10_isPupil, Cond.initialized RX10, Cond.code yX10_isPupil cX10_isPupil 1 (some .boolean), Cond.methodLink RX10 83 yX10_isIn, Cond.static yX10_isIn, Cond.code yX10_isIn cX10_isIn 3 (some .boolean), Cond.methodLink RX10 273 yX10_hasMark, Cond.instanceMethod yX10_hasMark, Cond.selects RX10 yX10_hasMark yX10_hasMark, Cond.code yX10_hasMark cX10_hasMark 4 (some .boolean), Cond.fieldLink RX10 87 "MarkPagesModel" "questions" "I", Cond.fieldLink RX10 16 "MarkPagesModel" "points" "[I", Cond.methodLink RX10 276 yX10_first, Cond.instanceMethod yX10_first, Cond.selects RX10 yX10_first yX10_first, Cond.code yX10_first cX10_first 3 (some .int), Cond.methodLink RX10 270 yX10_areAlike, Cond.instanceMethod yX10_areAlike, Cond.selects RX10 yX10_areAlike yX10_areAlike, Cond.code yX10_areAlike cX10_areAlike 6 (some .boolean), Cond.fieldLink RX10 240 "MarkPagesModel" "lines" "I", Cond.fieldLink RX10 77 "MarkPagesModel" "sayings" "[I", Cond.fieldLink RX10 22 "MarkPagesModel" "saying" "[I"]
def wsX10_group_r2 : List Cond := [Cond.fieldLink RX10 56 "MarkPagesModel" "lineRule" "[I", Cond.fieldLink RX10 80 "MarkPagesModel" "others" "[I", Cond.fieldLink RX10 59 "MarkPagesModel" "lineSkill" "[I", Cond.methodLink RX10 251 yX10_pages, Cond.instanceMethod yX10_pages, Cond.selects RX10 yX10_pages yX10_pages, Cond.code yX10_pages cX10_pages 5 none, Cond.fieldLink RX10 229 "MarkPagesModel" "rules" "I", Cond.fieldLink RX10 25 "MarkPagesModel" "skillOf" "[I", Cond.methodLink RX10 97 yX10_markedOf, Cond.instanceMethod yX10_markedOf, Cond.selects RX10 yX10_markedOf yX10_markedOf, Cond.code yX10_markedOf cX10_markedOf 5 (some .int), Cond.fieldLink RX10 13 "MarkPagesModel" "skills" "[I", Cond.methodLink RX10 243 yX10_has, Cond.instanceMethod yX10_has, Cond.selects RX10 yX10_has yX10_has, Cond.code yX10_has cX10_has 5 (some .boolean), Cond.methodLink RX10 117 yX10_classOf, Cond.instanceMethod yX10_classOf, Cond.selects RX10 yX10_classOf yX10_classOf, Cond.code yX10_classOf cX10_classOf 7 (some .int), Cond.fieldLink RX10 19 "MarkPagesModel" "row" "[I", Cond.methodLink RX10 101 yX10_share]
def wsX10_group_r3 : List Cond := [Cond.instanceMethod yX10_share, Cond.selects RX10 yX10_share yX10_share, Cond.code yX10_share cX10_share 6 (some .int), Cond.fieldLink RX10 7 "MarkPagesModel" "most" "[I", Cond.methodLink RX10 247 yX10_isSo, Cond.instanceMethod yX10_isSo, Cond.selects RX10 yX10_isSo yX10_isSo, Cond.code yX10_isSo cX10_isSo 8 (some .boolean), Cond.fieldLink RX10 28 "MarkPagesModel" "from" "[I", Cond.fieldLink RX10 31 "MarkPagesModel" "step" "[I", Cond.fieldLink RX10 46 "MarkPagesModel" "pile" "[I", Cond.methodLink RX10 232 yX10_known, Cond.instanceMethod yX10_known, Cond.selects RX10 yX10_known yX10_known, Cond.code yX10_known cX10_known 5 (some .int), Cond.methodLink RX10 107 yX10_bits, Cond.static yX10_bits, Cond.code yX10_bits cX10_bits 3 (some .int), Cond.methodLink RX10 111 yX10_missed, Cond.instanceMethod yX10_missed, Cond.selects RX10 yX10_missed yX10_missed, Cond.code yX10_missed cX10_missed 5 (some .int), Cond.methodLink RX10 114 yX10_last, Cond.instanceMethod yX10_last]
def wsX10_group_r4 : List Cond := [Cond.selects RX10 yX10_last yX10_last, Cond.code yX10_last cX10_last 4 (some .int), Cond.methodLink RX10 236 yX10_both, Cond.static yX10_both, Cond.code yX10_both cX10_both 3 (some .int)]
def wsX10_group : List Cond := .code yX10_group cX10_group 5 (some .int) :: ((wsX10_group_r1 ++ (wsX10_group_r2 ++ (wsX10_group_r3 ++ wsX10_group_r4))) ++ wsX100)
theorem dX0_init_0 : decode cX0_init 0 = .ok (.aload_n 0, 1) := by decide +kernel
theorem dX0_init_1 : decode cX0_init 1 = .ok (.invokespecial 3, 3) := by decide +kernel
theorem dX0_init_4 : decode cX0_init 4 = .ok (.aload_n 0, 1) := by decide +kernel
theorem dX0_init_5 : decode cX0_init 5 = .ok (.bipush 32, 2) := by decide +kernel
theorem dX0_init_7 : decode cX0_init 7 = .ok (.newarray .int, 2) := by decide +kernel
theorem dX0_init_9 : decode cX0_init 9 = .ok (.putfield 9, 3) := by decide +kernel
theorem dX0_init_12 : decode cX0_init 12 = .ok (.return_, 1) := by decide +kernel
set_option maxRecDepth 20000 in
theorem ggX0_isSo_X0_take : GoodIn wsX0_isSo wsX0_take := goodIn_r _ [8, 9, 10, 11, 7, 12, 1, 13, 14, 15, 16, 17, 18, 19, 20, 21, 22, 23, 24, 25] (by decide +kernel) (by decide +kernel)
set_option maxRecDepth 20000 in
theorem gX0_isSo_X0_take : GoodIn wsX0_isSo (wsV RX0 27 RX0 yX0_take wsX0_take) := goodIn_app (goodIn_of _ (by decide +kernel)) ggX0_isSo_X0_take
set_option maxRecDepth 20000 in
theorem ggX0_isSo_X0_pop : GoodIn wsX0_isSo wsX0_pop := goodIn_r _ [17, 1, 13, 24, 25] (by decide +kernel) (by decide +kernel)
set_option maxRecDepth 20000 in
theorem gX0_isSo_X0_pop : GoodIn wsX0_isSo (wsV RX0 31 RX0 yX0_pop wsX0_pop) := goodIn_app (goodIn_of _ (by decide +kernel)) ggX0_isSo_X0_pop
theorem dX0_isSo_0 : decode cX0_isSo 0 = .ok (.aload_n 0, 1) := by decide +kernel
theorem dX0_isSo_1 : decode cX0_isSo 1 = .ok (.iconst 0, 1) := by decide +kernel
theorem dX0_isSo_2 : decode cX0_isSo 2 = .ok (.putfield 15, 3) := by decide +kernel
theorem dX0_isSo_5 : decode cX0_isSo 5 = .ok (.aload_n 1, 1) := by decide +kernel
theorem dX0_isSo_6 : decode cX0_isSo 6 = .ok (.getfield 19, 3) := by decide +kernel
theorem dX0_isSo_9 : decode cX0_isSo 9 = .ok (.iload_n 2, 1) := by decide +kernel
theorem dX0_isSo_10 : decode cX0_isSo 10 = .ok (.iaload, 1) := by decide +kernel
theorem dX0_isSo_11 : decode cX0_isSo 11 = .ok (.istore 4, 2) := by decide +kernel
theorem dX0_isSo_13 : decode cX0_isSo 13 = .ok (.iload 4, 2) := by decide +kernel
theorem dX0_isSo_15 : decode cX0_isSo 15 = .ok (.aload_n 1, 1) := by decide +kernel
theorem dX0_isSo_16 : decode cX0_isSo 16 = .ok (.getfield 19, 3) := by decide +kernel
theorem dX0_isSo_19 : decode cX0_isSo 19 = .ok (.iload_n 2, 1) := by decide +kernel
theorem dX0_isSo_20 : decode cX0_isSo 20 = .ok (.iconst 1, 1) := by decide +kernel
theorem dX0_isSo_21 : decode cX0_isSo 21 = .ok (.iadd, 1) := by decide +kernel
theorem dX0_isSo_22 : decode cX0_isSo 22 = .ok (.iaload, 1) := by decide +kernel
theorem dX0_isSo_23 : decode cX0_isSo 23 = .ok (.if_icmp .ge 21, 3) := by decide +kernel
theorem dX0_isSo_26 : decode cX0_isSo 26 = .ok (.aload_n 0, 1) := by decide +kernel
theorem dX0_isSo_27 : decode cX0_isSo 27 = .ok (.aload_n 1, 1) := by decide +kernel
theorem dX0_isSo_28 : decode cX0_isSo 28 = .ok (.getfield 24, 3) := by decide +kernel
theorem dX0_isSo_31 : decode cX0_isSo 31 = .ok (.iload 4, 2) := by decide +kernel
theorem dX0_isSo_33 : decode cX0_isSo 33 = .ok (.iaload, 1) := by decide +kernel
theorem dX0_isSo_34 : decode cX0_isSo 34 = .ok (.aload_n 3, 1) := by decide +kernel
theorem dX0_isSo_35 : decode cX0_isSo 35 = .ok (.invokevirtual 27, 3) := by decide +kernel
theorem dX0_isSo_38 : decode cX0_isSo 38 = .ok (.iinc 4 1, 3) := by decide +kernel
theorem dX0_isSo_41 : decode cX0_isSo 41 = .ok (.goto (-28), 3) := by decide +kernel
theorem dX0_isSo_44 : decode cX0_isSo 44 = .ok (.aload_n 0, 1) := by decide +kernel
theorem dX0_isSo_45 : decode cX0_isSo 45 = .ok (.invokevirtual 31, 3) := by decide +kernel
theorem dX0_isSo_48 : decode cX0_isSo 48 = .ok (.ifCond .eq 7, 3) := by decide +kernel
theorem dX0_isSo_51 : decode cX0_isSo 51 = .ok (.iconst 1, 1) := by decide +kernel
theorem dX0_isSo_52 : decode cX0_isSo 52 = .ok (.goto 4, 3) := by decide +kernel
theorem dX0_isSo_55 : decode cX0_isSo 55 = .ok (.iconst 0, 1) := by decide +kernel
theorem dX0_isSo_56 : decode cX0_isSo 56 = .ok (.ireturn, 1) := by decide +kernel
set_option maxRecDepth 20000 in
theorem ggX0_take_X0_push : GoodIn wsX0_take wsX0_push := goodIn_r _ [5, 6, 7, 18, 19] (by decide +kernel) (by decide +kernel)
set_option maxRecDepth 20000 in
theorem gX0_take_X0_push : GoodIn wsX0_take (wsV RX0 35 RX0 yX0_push wsX0_push) := goodIn_app (goodIn_of _ (by decide +kernel)) ggX0_take_X0_push
set_option maxRecDepth 20000 in
theorem ggX0_take_X0_pop : GoodIn wsX0_take wsX0_pop := goodIn_r _ [11, 6, 7, 18, 19] (by decide +kernel) (by decide +kernel)
set_option maxRecDepth 20000 in
theorem gX0_take_X0_pop : GoodIn wsX0_take (wsV RX0 31 RX0 yX0_pop wsX0_pop) := goodIn_app (goodIn_of _ (by decide +kernel)) ggX0_take_X0_pop
set_option maxRecDepth 20000 in
theorem ggX0_take_X0_truth : GoodIn wsX0_take wsX0_truth := goodIn_r _ [14] (by decide +kernel) (by decide +kernel)
set_option maxRecDepth 20000 in
theorem gX0_take_X0_truth : GoodIn wsX0_take (va_wsS RX0 39 yX0_truth wsX0_truth) := goodIn_app (goodIn_of _ (by decide +kernel)) ggX0_take_X0_truth
set_option maxRecDepth 20000 in
theorem ggX0_take_X0_join : GoodIn wsX0_take wsX0_join := goodIn_r _ [17, 12, 13, 4, 14] (by decide +kernel) (by decide +kernel)
set_option maxRecDepth 20000 in
theorem gX0_take_X0_join : GoodIn wsX0_take (va_wsS RX0 43 yX0_join wsX0_join) := goodIn_app (goodIn_of _ (by decide +kernel)) ggX0_take_X0_join
theorem dX0_take_0 : decode cX0_take 0 = .ok (.iload_n 1, 1) := by decide +kernel
theorem dX0_take_1 : decode cX0_take 1 = .ok (.sipush 999, 3) := by decide +kernel
theorem dX0_take_4 : decode cX0_take 4 = .ok (.if_icmp .gt 11, 3) := by decide +kernel
theorem dX0_take_7 : decode cX0_take 7 = .ok (.aload_n 0, 1) := by decide +kernel
theorem dX0_take_8 : decode cX0_take 8 = .ok (.iload_n 1, 1) := by decide +kernel
theorem dX0_take_9 : decode cX0_take 9 = .ok (.invokevirtual 35, 3) := by decide +kernel
theorem dX0_take_12 : decode cX0_take 12 = .ok (.goto 82, 3) := by decide +kernel
theorem dX0_take_15 : decode cX0_take 15 = .ok (.iload_n 1, 1) := by decide +kernel
theorem dX0_take_16 : decode cX0_take 16 = .ok (.sipush 1006, 3) := by decide +kernel
theorem dX0_take_19 : decode cX0_take 19 = .ok (.if_icmp .lt 24, 3) := by decide +kernel
theorem dX0_take_22 : decode cX0_take 22 = .ok (.iload_n 1, 1) := by decide +kernel
theorem dX0_take_23 : decode cX0_take 23 = .ok (.sipush 1010, 3) := by decide +kernel
theorem dX0_take_26 : decode cX0_take 26 = .ok (.if_icmp .gt 17, 3) := by decide +kernel
theorem dX0_take_29 : decode cX0_take 29 = .ok (.aload_n 0, 1) := by decide +kernel
theorem dX0_take_30 : decode cX0_take 30 = .ok (.aload_n 2, 1) := by decide +kernel
theorem dX0_take_31 : decode cX0_take 31 = .ok (.iload_n 1, 1) := by decide +kernel
theorem dX0_take_32 : decode cX0_take 32 = .ok (.sipush 1006, 3) := by decide +kernel
theorem dX0_take_35 : decode cX0_take 35 = .ok (.isub, 1) := by decide +kernel
theorem dX0_take_36 : decode cX0_take 36 = .ok (.iaload, 1) := by decide +kernel
theorem dX0_take_37 : decode cX0_take 37 = .ok (.invokevirtual 35, 3) := by decide +kernel
theorem dX0_take_40 : decode cX0_take 40 = .ok (.goto 54, 3) := by decide +kernel
theorem dX0_take_43 : decode cX0_take 43 = .ok (.iload_n 1, 1) := by decide +kernel
theorem dX0_take_44 : decode cX0_take 44 = .ok (.sipush 1005, 3) := by decide +kernel
theorem dX0_take_47 : decode cX0_take 47 = .ok (.if_icmp .ne 25, 3) := by decide +kernel
theorem dX0_take_50 : decode cX0_take 50 = .ok (.aload_n 0, 1) := by decide +kernel
theorem dX0_take_51 : decode cX0_take 51 = .ok (.aload_n 0, 1) := by decide +kernel
theorem dX0_take_52 : decode cX0_take 52 = .ok (.invokevirtual 31, 3) := by decide +kernel
theorem dX0_take_55 : decode cX0_take 55 = .ok (.ifCond .ne 7, 3) := by decide +kernel
theorem dX0_take_58 : decode cX0_take 58 = .ok (.iconst 1, 1) := by decide +kernel
theorem dX0_take_59 : decode cX0_take 59 = .ok (.goto 4, 3) := by decide +kernel
theorem dX0_take_62 : decode cX0_take 62 = .ok (.iconst 0, 1) := by decide +kernel
theorem dX0_take_63 : decode cX0_take 63 = .ok (.invokestatic 39, 3) := by decide +kernel
theorem dX0_take_66 : decode cX0_take 66 = .ok (.invokevirtual 35, 3) := by decide +kernel
theorem dX0_take_69 : decode cX0_take 69 = .ok (.goto 25, 3) := by decide +kernel
theorem dX0_take_72 : decode cX0_take 72 = .ok (.aload_n 0, 1) := by decide +kernel
theorem dX0_take_73 : decode cX0_take 73 = .ok (.invokevirtual 31, 3) := by decide +kernel
theorem dX0_take_76 : decode cX0_take 76 = .ok (.istore_n 3, 1) := by decide +kernel
theorem dX0_take_77 : decode cX0_take 77 = .ok (.aload_n 0, 1) := by decide +kernel
theorem dX0_take_78 : decode cX0_take 78 = .ok (.invokevirtual 31, 3) := by decide +kernel
theorem dX0_take_81 : decode cX0_take 81 = .ok (.istore 4, 2) := by decide +kernel
theorem dX0_take_83 : decode cX0_take 83 = .ok (.aload_n 0, 1) := by decide +kernel
theorem dX0_take_84 : decode cX0_take 84 = .ok (.iload 4, 2) := by decide +kernel
theorem dX0_take_86 : decode cX0_take 86 = .ok (.iload_n 1, 1) := by decide +kernel
theorem dX0_take_87 : decode cX0_take 87 = .ok (.iload_n 3, 1) := by decide +kernel
theorem dX0_take_88 : decode cX0_take 88 = .ok (.invokestatic 43, 3) := by decide +kernel
theorem dX0_take_91 : decode cX0_take 91 = .ok (.invokevirtual 35, 3) := by decide +kernel
theorem dX0_take_94 : decode cX0_take 94 = .ok (.return_, 1) := by decide +kernel
set_option maxRecDepth 20000 in
theorem ggX0_join_X0_truth : GoodIn wsX0_join wsX0_truth := goodIn_r _ [4] (by decide +kernel) (by decide +kernel)
set_option maxRecDepth 20000 in
theorem gX0_join_X0_truth : GoodIn wsX0_join (va_wsS RX0 39 yX0_truth wsX0_truth) := goodIn_app (goodIn_of _ (by decide +kernel)) ggX0_join_X0_truth
theorem dX0_join_0 : decode cX0_join 0 = .ok (.iload_n 1, 1) := by decide +kernel
theorem dX0_join_1 : decode cX0_join 1 = .ok (.lookupswitch 113 #[(1004, 109), (1143, 59), (1145, 63), (1160, 67), (1161, 81), (1162, 95)], 59) := by decide +kernel
theorem dX0_join_60 : decode cX0_join 60 = .ok (.iload_n 0, 1) := by decide +kernel
theorem dX0_join_61 : decode cX0_join 61 = .ok (.iload_n 2, 1) := by decide +kernel
theorem dX0_join_62 : decode cX0_join 62 = .ok (.iadd, 1) := by decide +kernel
theorem dX0_join_63 : decode cX0_join 63 = .ok (.ireturn, 1) := by decide +kernel
theorem dX0_join_64 : decode cX0_join 64 = .ok (.iload_n 0, 1) := by decide +kernel
theorem dX0_join_65 : decode cX0_join 65 = .ok (.iload_n 2, 1) := by decide +kernel
theorem dX0_join_66 : decode cX0_join 66 = .ok (.isub, 1) := by decide +kernel
theorem dX0_join_67 : decode cX0_join 67 = .ok (.ireturn, 1) := by decide +kernel
theorem dX0_join_68 : decode cX0_join 68 = .ok (.iload_n 0, 1) := by decide +kernel
theorem dX0_join_69 : decode cX0_join 69 = .ok (.iload_n 2, 1) := by decide +kernel
theorem dX0_join_70 : decode cX0_join 70 = .ok (.if_icmp .ge 7, 3) := by decide +kernel
theorem dX0_join_73 : decode cX0_join 73 = .ok (.iconst 1, 1) := by decide +kernel
theorem dX0_join_74 : decode cX0_join 74 = .ok (.goto 4, 3) := by decide +kernel
theorem dX0_join_77 : decode cX0_join 77 = .ok (.iconst 0, 1) := by decide +kernel
theorem dX0_join_78 : decode cX0_join 78 = .ok (.invokestatic 39, 3) := by decide +kernel
theorem dX0_join_81 : decode cX0_join 81 = .ok (.ireturn, 1) := by decide +kernel
theorem dX0_join_82 : decode cX0_join 82 = .ok (.iload_n 0, 1) := by decide +kernel
theorem dX0_join_83 : decode cX0_join 83 = .ok (.iload_n 2, 1) := by decide +kernel
theorem dX0_join_84 : decode cX0_join 84 = .ok (.if_icmp .ne 7, 3) := by decide +kernel
theorem dX0_join_87 : decode cX0_join 87 = .ok (.iconst 1, 1) := by decide +kernel
theorem dX0_join_88 : decode cX0_join 88 = .ok (.goto 4, 3) := by decide +kernel
theorem dX0_join_91 : decode cX0_join 91 = .ok (.iconst 0, 1) := by decide +kernel
theorem dX0_join_92 : decode cX0_join 92 = .ok (.invokestatic 39, 3) := by decide +kernel
theorem dX0_join_95 : decode cX0_join 95 = .ok (.ireturn, 1) := by decide +kernel
theorem dX0_join_96 : decode cX0_join 96 = .ok (.iload_n 0, 1) := by decide +kernel
theorem dX0_join_97 : decode cX0_join 97 = .ok (.iload_n 2, 1) := by decide +kernel
theorem dX0_join_98 : decode cX0_join 98 = .ok (.if_icmp .le 7, 3) := by decide +kernel
theorem dX0_join_101 : decode cX0_join 101 = .ok (.iconst 1, 1) := by decide +kernel
theorem dX0_join_102 : decode cX0_join 102 = .ok (.goto 4, 3) := by decide +kernel
theorem dX0_join_105 : decode cX0_join 105 = .ok (.iconst 0, 1) := by decide +kernel
theorem dX0_join_106 : decode cX0_join 106 = .ok (.invokestatic 39, 3) := by decide +kernel
theorem dX0_join_109 : decode cX0_join 109 = .ok (.ireturn, 1) := by decide +kernel
theorem dX0_join_110 : decode cX0_join 110 = .ok (.iload_n 0, 1) := by decide +kernel
theorem dX0_join_111 : decode cX0_join 111 = .ok (.iload_n 2, 1) := by decide +kernel
theorem dX0_join_112 : decode cX0_join 112 = .ok (.iand, 1) := by decide +kernel
theorem dX0_join_113 : decode cX0_join 113 = .ok (.ireturn, 1) := by decide +kernel
theorem dX0_join_114 : decode cX0_join 114 = .ok (.iload_n 0, 1) := by decide +kernel
theorem dX0_join_115 : decode cX0_join 115 = .ok (.iload_n 2, 1) := by decide +kernel
theorem dX0_join_116 : decode cX0_join 116 = .ok (.ior, 1) := by decide +kernel
theorem dX0_join_117 : decode cX0_join 117 = .ok (.ireturn, 1) := by decide +kernel
theorem dX0_truth_0 : decode cX0_truth 0 = .ok (.iload_n 0, 1) := by decide +kernel
theorem dX0_truth_1 : decode cX0_truth 1 = .ok (.ifCond .eq 7, 3) := by decide +kernel
theorem dX0_truth_4 : decode cX0_truth 4 = .ok (.iconst 1, 1) := by decide +kernel
theorem dX0_truth_5 : decode cX0_truth 5 = .ok (.goto 4, 3) := by decide +kernel
theorem dX0_truth_8 : decode cX0_truth 8 = .ok (.iconst 0, 1) := by decide +kernel
theorem dX0_truth_9 : decode cX0_truth 9 = .ok (.ireturn, 1) := by decide +kernel
theorem dX0_push_0 : decode cX0_push 0 = .ok (.aload_n 0, 1) := by decide +kernel
theorem dX0_push_1 : decode cX0_push 1 = .ok (.getfield 15, 3) := by decide +kernel
theorem dX0_push_4 : decode cX0_push 4 = .ok (.bipush 32, 2) := by decide +kernel
theorem dX0_push_6 : decode cX0_push 6 = .ok (.if_icmp .ge 23, 3) := by decide +kernel
theorem dX0_push_9 : decode cX0_push 9 = .ok (.aload_n 0, 1) := by decide +kernel
theorem dX0_push_10 : decode cX0_push 10 = .ok (.getfield 9, 3) := by decide +kernel
theorem dX0_push_13 : decode cX0_push 13 = .ok (.aload_n 0, 1) := by decide +kernel
theorem dX0_push_14 : decode cX0_push 14 = .ok (.getfield 15, 3) := by decide +kernel
theorem dX0_push_17 : decode cX0_push 17 = .ok (.iload_n 1, 1) := by decide +kernel
theorem dX0_push_18 : decode cX0_push 18 = .ok (.iastore, 1) := by decide +kernel
theorem dX0_push_19 : decode cX0_push 19 = .ok (.aload_n 0, 1) := by decide +kernel
theorem dX0_push_20 : decode cX0_push 20 = .ok (.dup, 1) := by decide +kernel
theorem dX0_push_21 : decode cX0_push 21 = .ok (.getfield 15, 3) := by decide +kernel
theorem dX0_push_24 : decode cX0_push 24 = .ok (.iconst 1, 1) := by decide +kernel
theorem dX0_push_25 : decode cX0_push 25 = .ok (.iadd, 1) := by decide +kernel
theorem dX0_push_26 : decode cX0_push 26 = .ok (.putfield 15, 3) := by decide +kernel
theorem dX0_push_29 : decode cX0_push 29 = .ok (.return_, 1) := by decide +kernel
theorem dX0_pop_0 : decode cX0_pop 0 = .ok (.aload_n 0, 1) := by decide +kernel
theorem dX0_pop_1 : decode cX0_pop 1 = .ok (.getfield 15, 3) := by decide +kernel
theorem dX0_pop_4 : decode cX0_pop 4 = .ok (.ifCond .ne 5, 3) := by decide +kernel
theorem dX0_pop_7 : decode cX0_pop 7 = .ok (.iconst 0, 1) := by decide +kernel
theorem dX0_pop_8 : decode cX0_pop 8 = .ok (.ireturn, 1) := by decide +kernel
theorem dX0_pop_9 : decode cX0_pop 9 = .ok (.aload_n 0, 1) := by decide +kernel
theorem dX0_pop_10 : decode cX0_pop 10 = .ok (.dup, 1) := by decide +kernel
theorem dX0_pop_11 : decode cX0_pop 11 = .ok (.getfield 15, 3) := by decide +kernel
theorem dX0_pop_14 : decode cX0_pop 14 = .ok (.iconst 1, 1) := by decide +kernel
theorem dX0_pop_15 : decode cX0_pop 15 = .ok (.isub, 1) := by decide +kernel
theorem dX0_pop_16 : decode cX0_pop 16 = .ok (.putfield 15, 3) := by decide +kernel
theorem dX0_pop_19 : decode cX0_pop 19 = .ok (.aload_n 0, 1) := by decide +kernel
theorem dX0_pop_20 : decode cX0_pop 20 = .ok (.getfield 9, 3) := by decide +kernel
theorem dX0_pop_23 : decode cX0_pop 23 = .ok (.aload_n 0, 1) := by decide +kernel
theorem dX0_pop_24 : decode cX0_pop 24 = .ok (.getfield 15, 3) := by decide +kernel
theorem dX0_pop_27 : decode cX0_pop 27 = .ok (.iaload, 1) := by decide +kernel
theorem dX0_pop_28 : decode cX0_pop 28 = .ok (.ireturn, 1) := by decide +kernel
theorem dX1_init_0 : decode cX1_init 0 = .ok (.aload_n 0, 1) := by decide +kernel
theorem dX1_init_1 : decode cX1_init 1 = .ok (.invokespecial 3, 3) := by decide +kernel
theorem dX1_init_4 : decode cX1_init 4 = .ok (.aload_n 0, 1) := by decide +kernel
theorem dX1_init_5 : decode cX1_init 5 = .ok (.sipush 2412, 3) := by decide +kernel
theorem dX1_init_8 : decode cX1_init 8 = .ok (.newarray .int, 2) := by decide +kernel
theorem dX1_init_10 : decode cX1_init 10 = .ok (.putfield 9, 3) := by decide +kernel
theorem dX1_init_13 : decode cX1_init 13 = .ok (.return_, 1) := by decide +kernel
theorem dX1_put_0 : decode cX1_put 0 = .ok (.aload_n 0, 1) := by decide +kernel
theorem dX1_put_1 : decode cX1_put 1 = .ok (.getfield 15, 3) := by decide +kernel
theorem dX1_put_4 : decode cX1_put 4 = .ok (.sipush 2412, 3) := by decide +kernel
theorem dX1_put_7 : decode cX1_put 7 = .ok (.if_icmp .ge 23, 3) := by decide +kernel
theorem dX1_put_10 : decode cX1_put 10 = .ok (.aload_n 0, 1) := by decide +kernel
theorem dX1_put_11 : decode cX1_put 11 = .ok (.getfield 9, 3) := by decide +kernel
theorem dX1_put_14 : decode cX1_put 14 = .ok (.aload_n 0, 1) := by decide +kernel
theorem dX1_put_15 : decode cX1_put 15 = .ok (.getfield 15, 3) := by decide +kernel
theorem dX1_put_18 : decode cX1_put 18 = .ok (.iload_n 1, 1) := by decide +kernel
theorem dX1_put_19 : decode cX1_put 19 = .ok (.iastore, 1) := by decide +kernel
theorem dX1_put_20 : decode cX1_put 20 = .ok (.aload_n 0, 1) := by decide +kernel
theorem dX1_put_21 : decode cX1_put 21 = .ok (.dup, 1) := by decide +kernel
theorem dX1_put_22 : decode cX1_put 22 = .ok (.getfield 15, 3) := by decide +kernel
theorem dX1_put_25 : decode cX1_put 25 = .ok (.iconst 1, 1) := by decide +kernel
theorem dX1_put_26 : decode cX1_put 26 = .ok (.iadd, 1) := by decide +kernel
theorem dX1_put_27 : decode cX1_put 27 = .ok (.putfield 15, 3) := by decide +kernel
theorem dX1_put_30 : decode cX1_put 30 = .ok (.return_, 1) := by decide +kernel
set_option maxRecDepth 20000 in
theorem ggX1_putNumber_X1_put : GoodIn wsX1_putNumber wsX1_put := goodIn_r _ [5, 6, 7, 8, 9] (by decide +kernel) (by decide +kernel)
set_option maxRecDepth 20000 in
theorem gX1_putNumber_X1_put : GoodIn wsX1_putNumber (wsV RX1 19 RX1 yX1_put wsX1_put) := goodIn_app (goodIn_of _ (by decide +kernel)) ggX1_putNumber_X1_put
theorem dX1_putNumber_0 : decode cX1_putNumber 0 = .ok (.iload_n 1, 1) := by decide +kernel
theorem dX1_putNumber_1 : decode cX1_putNumber 1 = .ok (.bipush 100, 2) := by decide +kernel
theorem dX1_putNumber_3 : decode cX1_putNumber 3 = .ok (.if_icmp .lt 14, 3) := by decide +kernel
theorem dX1_putNumber_6 : decode cX1_putNumber 6 = .ok (.aload_n 0, 1) := by decide +kernel
theorem dX1_putNumber_7 : decode cX1_putNumber 7 = .ok (.bipush 48, 2) := by decide +kernel
theorem dX1_putNumber_9 : decode cX1_putNumber 9 = .ok (.iload_n 1, 1) := by decide +kernel
theorem dX1_putNumber_10 : decode cX1_putNumber 10 = .ok (.bipush 100, 2) := by decide +kernel
theorem dX1_putNumber_12 : decode cX1_putNumber 12 = .ok (.idiv, 1) := by decide +kernel
theorem dX1_putNumber_13 : decode cX1_putNumber 13 = .ok (.iadd, 1) := by decide +kernel
theorem dX1_putNumber_14 : decode cX1_putNumber 14 = .ok (.invokevirtual 19, 3) := by decide +kernel
theorem dX1_putNumber_17 : decode cX1_putNumber 17 = .ok (.iload_n 1, 1) := by decide +kernel
theorem dX1_putNumber_18 : decode cX1_putNumber 18 = .ok (.bipush 10, 2) := by decide +kernel
theorem dX1_putNumber_20 : decode cX1_putNumber 20 = .ok (.if_icmp .lt 17, 3) := by decide +kernel
theorem dX1_putNumber_23 : decode cX1_putNumber 23 = .ok (.aload_n 0, 1) := by decide +kernel
theorem dX1_putNumber_24 : decode cX1_putNumber 24 = .ok (.bipush 48, 2) := by decide +kernel
theorem dX1_putNumber_26 : decode cX1_putNumber 26 = .ok (.iload_n 1, 1) := by decide +kernel
theorem dX1_putNumber_27 : decode cX1_putNumber 27 = .ok (.bipush 10, 2) := by decide +kernel
theorem dX1_putNumber_29 : decode cX1_putNumber 29 = .ok (.idiv, 1) := by decide +kernel
theorem dX1_putNumber_30 : decode cX1_putNumber 30 = .ok (.bipush 10, 2) := by decide +kernel
theorem dX1_putNumber_32 : decode cX1_putNumber 32 = .ok (.irem, 1) := by decide +kernel
theorem dX1_putNumber_33 : decode cX1_putNumber 33 = .ok (.iadd, 1) := by decide +kernel
theorem dX1_putNumber_34 : decode cX1_putNumber 34 = .ok (.invokevirtual 19, 3) := by decide +kernel
theorem dX1_putNumber_37 : decode cX1_putNumber 37 = .ok (.aload_n 0, 1) := by decide +kernel
theorem dX1_putNumber_38 : decode cX1_putNumber 38 = .ok (.bipush 48, 2) := by decide +kernel
theorem dX1_putNumber_40 : decode cX1_putNumber 40 = .ok (.iload_n 1, 1) := by decide +kernel
theorem dX1_putNumber_41 : decode cX1_putNumber 41 = .ok (.bipush 10, 2) := by decide +kernel
theorem dX1_putNumber_43 : decode cX1_putNumber 43 = .ok (.irem, 1) := by decide +kernel
theorem dX1_putNumber_44 : decode cX1_putNumber 44 = .ok (.iadd, 1) := by decide +kernel
theorem dX1_putNumber_45 : decode cX1_putNumber 45 = .ok (.invokevirtual 19, 3) := by decide +kernel
theorem dX1_putNumber_48 : decode cX1_putNumber 48 = .ok (.return_, 1) := by decide +kernel
theorem dX2_init_0 : decode cX2_init 0 = .ok (.aload_n 0, 1) := by decide +kernel
theorem dX2_init_1 : decode cX2_init 1 = .ok (.invokespecial 3, 3) := by decide +kernel
theorem dX2_init_4 : decode cX2_init 4 = .ok (.aload_n 0, 1) := by decide +kernel
theorem dX2_init_5 : decode cX2_init 5 = .ok (.bipush 12, 2) := by decide +kernel
theorem dX2_init_7 : decode cX2_init 7 = .ok (.newarray .int, 2) := by decide +kernel
theorem dX2_init_9 : decode cX2_init 9 = .ok (.putfield 9, 3) := by decide +kernel
theorem dX2_init_12 : decode cX2_init 12 = .ok (.aload_n 0, 1) := by decide +kernel
theorem dX2_init_13 : decode cX2_init 13 = .ok (.bipush 12, 2) := by decide +kernel
theorem dX2_init_15 : decode cX2_init 15 = .ok (.newarray .int, 2) := by decide +kernel
theorem dX2_init_17 : decode cX2_init 17 = .ok (.putfield 15, 3) := by decide +kernel
theorem dX2_init_20 : decode cX2_init 20 = .ok (.aload_n 0, 1) := by decide +kernel
theorem dX2_init_21 : decode cX2_init 21 = .ok (.bipush 12, 2) := by decide +kernel
theorem dX2_init_23 : decode cX2_init 23 = .ok (.newarray .int, 2) := by decide +kernel
theorem dX2_init_25 : decode cX2_init 25 = .ok (.putfield 18, 3) := by decide +kernel
theorem dX2_init_28 : decode cX2_init 28 = .ok (.return_, 1) := by decide +kernel
theorem dX2_add_0 : decode cX2_add 0 = .ok (.aload_n 0, 1) := by decide +kernel
theorem dX2_add_1 : decode cX2_add 1 = .ok (.getfield 21, 3) := by decide +kernel
theorem dX2_add_4 : decode cX2_add 4 = .ok (.bipush 12, 2) := by decide +kernel
theorem dX2_add_6 : decode cX2_add 6 = .ok (.if_icmp .ge 43, 3) := by decide +kernel
theorem dX2_add_9 : decode cX2_add 9 = .ok (.aload_n 0, 1) := by decide +kernel
theorem dX2_add_10 : decode cX2_add 10 = .ok (.getfield 9, 3) := by decide +kernel
theorem dX2_add_13 : decode cX2_add 13 = .ok (.aload_n 0, 1) := by decide +kernel
theorem dX2_add_14 : decode cX2_add 14 = .ok (.getfield 21, 3) := by decide +kernel
theorem dX2_add_17 : decode cX2_add 17 = .ok (.iload_n 1, 1) := by decide +kernel
theorem dX2_add_18 : decode cX2_add 18 = .ok (.iastore, 1) := by decide +kernel
theorem dX2_add_19 : decode cX2_add 19 = .ok (.aload_n 0, 1) := by decide +kernel
theorem dX2_add_20 : decode cX2_add 20 = .ok (.getfield 15, 3) := by decide +kernel
theorem dX2_add_23 : decode cX2_add 23 = .ok (.aload_n 0, 1) := by decide +kernel
theorem dX2_add_24 : decode cX2_add 24 = .ok (.getfield 21, 3) := by decide +kernel
theorem dX2_add_27 : decode cX2_add 27 = .ok (.iload_n 2, 1) := by decide +kernel
theorem dX2_add_28 : decode cX2_add 28 = .ok (.iastore, 1) := by decide +kernel
theorem dX2_add_29 : decode cX2_add 29 = .ok (.aload_n 0, 1) := by decide +kernel
theorem dX2_add_30 : decode cX2_add 30 = .ok (.getfield 18, 3) := by decide +kernel
theorem dX2_add_33 : decode cX2_add 33 = .ok (.aload_n 0, 1) := by decide +kernel
theorem dX2_add_34 : decode cX2_add 34 = .ok (.getfield 21, 3) := by decide +kernel
theorem dX2_add_37 : decode cX2_add 37 = .ok (.iload_n 3, 1) := by decide +kernel
theorem dX2_add_38 : decode cX2_add 38 = .ok (.iastore, 1) := by decide +kernel
theorem dX2_add_39 : decode cX2_add 39 = .ok (.aload_n 0, 1) := by decide +kernel
theorem dX2_add_40 : decode cX2_add 40 = .ok (.dup, 1) := by decide +kernel
theorem dX2_add_41 : decode cX2_add 41 = .ok (.getfield 21, 3) := by decide +kernel
theorem dX2_add_44 : decode cX2_add 44 = .ok (.iconst 1, 1) := by decide +kernel
theorem dX2_add_45 : decode cX2_add 45 = .ok (.iadd, 1) := by decide +kernel
theorem dX2_add_46 : decode cX2_add 46 = .ok (.putfield 21, 3) := by decide +kernel
theorem dX2_add_49 : decode cX2_add 49 = .ok (.return_, 1) := by decide +kernel
theorem dX2_hasSort_0 : decode cX2_hasSort 0 = .ok (.iconst 0, 1) := by decide +kernel
theorem dX2_hasSort_1 : decode cX2_hasSort 1 = .ok (.istore_n 3, 1) := by decide +kernel
theorem dX2_hasSort_2 : decode cX2_hasSort 2 = .ok (.iload_n 3, 1) := by decide +kernel
theorem dX2_hasSort_3 : decode cX2_hasSort 3 = .ok (.aload_n 0, 1) := by decide +kernel
theorem dX2_hasSort_4 : decode cX2_hasSort 4 = .ok (.getfield 21, 3) := by decide +kernel
theorem dX2_hasSort_7 : decode cX2_hasSort 7 = .ok (.if_icmp .ge 34, 3) := by decide +kernel
theorem dX2_hasSort_10 : decode cX2_hasSort 10 = .ok (.aload_n 0, 1) := by decide +kernel
theorem dX2_hasSort_11 : decode cX2_hasSort 11 = .ok (.getfield 15, 3) := by decide +kernel
theorem dX2_hasSort_14 : decode cX2_hasSort 14 = .ok (.iload_n 3, 1) := by decide +kernel
theorem dX2_hasSort_15 : decode cX2_hasSort 15 = .ok (.iaload, 1) := by decide +kernel
theorem dX2_hasSort_16 : decode cX2_hasSort 16 = .ok (.iload_n 1, 1) := by decide +kernel
theorem dX2_hasSort_17 : decode cX2_hasSort 17 = .ok (.if_icmp .ne 18, 3) := by decide +kernel
theorem dX2_hasSort_20 : decode cX2_hasSort 20 = .ok (.aload_n 0, 1) := by decide +kernel
theorem dX2_hasSort_21 : decode cX2_hasSort 21 = .ok (.getfield 9, 3) := by decide +kernel
theorem dX2_hasSort_24 : decode cX2_hasSort 24 = .ok (.iload_n 3, 1) := by decide +kernel
theorem dX2_hasSort_25 : decode cX2_hasSort 25 = .ok (.iaload, 1) := by decide +kernel
theorem dX2_hasSort_26 : decode cX2_hasSort 26 = .ok (.bipush 10, 2) := by decide +kernel
theorem dX2_hasSort_28 : decode cX2_hasSort 28 = .ok (.idiv, 1) := by decide +kernel
theorem dX2_hasSort_29 : decode cX2_hasSort 29 = .ok (.iload_n 2, 1) := by decide +kernel
theorem dX2_hasSort_30 : decode cX2_hasSort 30 = .ok (.if_icmp .ne 5, 3) := by decide +kernel
theorem dX2_hasSort_33 : decode cX2_hasSort 33 = .ok (.iconst 1, 1) := by decide +kernel
theorem dX2_hasSort_34 : decode cX2_hasSort 34 = .ok (.ireturn, 1) := by decide +kernel
theorem dX2_hasSort_35 : decode cX2_hasSort 35 = .ok (.iinc 3 1, 3) := by decide +kernel
theorem dX2_hasSort_38 : decode cX2_hasSort 38 = .ok (.goto (-36), 3) := by decide +kernel
theorem dX2_hasSort_41 : decode cX2_hasSort 41 = .ok (.iconst 0, 1) := by decide +kernel
theorem dX2_hasSort_42 : decode cX2_hasSort 42 = .ok (.ireturn, 1) := by decide +kernel
theorem dX2_sameLines_0 : decode cX2_sameLines 0 = .ok (.aload_n 0, 1) := by decide +kernel
theorem dX2_sameLines_1 : decode cX2_sameLines 1 = .ok (.getfield 21, 3) := by decide +kernel
theorem dX2_sameLines_4 : decode cX2_sameLines 4 = .ok (.aload_n 1, 1) := by decide +kernel
theorem dX2_sameLines_5 : decode cX2_sameLines 5 = .ok (.getfield 21, 3) := by decide +kernel
theorem dX2_sameLines_8 : decode cX2_sameLines 8 = .ok (.if_icmp .eq 5, 3) := by decide +kernel
theorem dX2_sameLines_11 : decode cX2_sameLines 11 = .ok (.iconst 0, 1) := by decide +kernel
theorem dX2_sameLines_12 : decode cX2_sameLines 12 = .ok (.ireturn, 1) := by decide +kernel
theorem dX2_sameLines_13 : decode cX2_sameLines 13 = .ok (.iconst 0, 1) := by decide +kernel
theorem dX2_sameLines_14 : decode cX2_sameLines 14 = .ok (.istore_n 2, 1) := by decide +kernel
theorem dX2_sameLines_15 : decode cX2_sameLines 15 = .ok (.iload_n 2, 1) := by decide +kernel
theorem dX2_sameLines_16 : decode cX2_sameLines 16 = .ok (.aload_n 0, 1) := by decide +kernel
theorem dX2_sameLines_17 : decode cX2_sameLines 17 = .ok (.getfield 21, 3) := by decide +kernel
theorem dX2_sameLines_20 : decode cX2_sameLines 20 = .ok (.if_icmp .ge 41, 3) := by decide +kernel
theorem dX2_sameLines_23 : decode cX2_sameLines 23 = .ok (.aload_n 0, 1) := by decide +kernel
theorem dX2_sameLines_24 : decode cX2_sameLines 24 = .ok (.getfield 9, 3) := by decide +kernel
theorem dX2_sameLines_27 : decode cX2_sameLines 27 = .ok (.iload_n 2, 1) := by decide +kernel
theorem dX2_sameLines_28 : decode cX2_sameLines 28 = .ok (.iaload, 1) := by decide +kernel
theorem dX2_sameLines_29 : decode cX2_sameLines 29 = .ok (.aload_n 1, 1) := by decide +kernel
theorem dX2_sameLines_30 : decode cX2_sameLines 30 = .ok (.getfield 9, 3) := by decide +kernel
theorem dX2_sameLines_33 : decode cX2_sameLines 33 = .ok (.iload_n 2, 1) := by decide +kernel
theorem dX2_sameLines_34 : decode cX2_sameLines 34 = .ok (.iaload, 1) := by decide +kernel
theorem dX2_sameLines_35 : decode cX2_sameLines 35 = .ok (.if_icmp .ne 18, 3) := by decide +kernel
theorem dX2_sameLines_38 : decode cX2_sameLines 38 = .ok (.aload_n 0, 1) := by decide +kernel
theorem dX2_sameLines_39 : decode cX2_sameLines 39 = .ok (.getfield 15, 3) := by decide +kernel
theorem dX2_sameLines_42 : decode cX2_sameLines 42 = .ok (.iload_n 2, 1) := by decide +kernel
theorem dX2_sameLines_43 : decode cX2_sameLines 43 = .ok (.iaload, 1) := by decide +kernel
theorem dX2_sameLines_44 : decode cX2_sameLines 44 = .ok (.aload_n 1, 1) := by decide +kernel
theorem dX2_sameLines_45 : decode cX2_sameLines 45 = .ok (.getfield 15, 3) := by decide +kernel
theorem dX2_sameLines_48 : decode cX2_sameLines 48 = .ok (.iload_n 2, 1) := by decide +kernel
theorem dX2_sameLines_49 : decode cX2_sameLines 49 = .ok (.iaload, 1) := by decide +kernel
theorem dX2_sameLines_50 : decode cX2_sameLines 50 = .ok (.if_icmp .eq 5, 3) := by decide +kernel
theorem dX2_sameLines_53 : decode cX2_sameLines 53 = .ok (.iconst 0, 1) := by decide +kernel
theorem dX2_sameLines_54 : decode cX2_sameLines 54 = .ok (.ireturn, 1) := by decide +kernel
theorem dX2_sameLines_55 : decode cX2_sameLines 55 = .ok (.iinc 2 1, 3) := by decide +kernel
theorem dX2_sameLines_58 : decode cX2_sameLines 58 = .ok (.goto (-43), 3) := by decide +kernel
theorem dX2_sameLines_61 : decode cX2_sameLines 61 = .ok (.iconst 1, 1) := by decide +kernel
theorem dX2_sameLines_62 : decode cX2_sameLines 62 = .ok (.ireturn, 1) := by decide +kernel
set_option maxRecDepth 20000 in
theorem ggX3_init_J7_fill_53178 : GoodIn wsX3_init wsJ7_fill_53178 := goodIn_r _ [13] (by decide +kernel) (by decide +kernel)
set_option maxRecDepth 20000 in
theorem gX3_init_J7_fill_53178 : GoodIn wsX3_init (va_wsS RX3 27 yJ7_fill_53178 wsJ7_fill_53178) := goodIn_app (goodIn_of _ (by decide +kernel)) ggX3_init_J7_fill_53178
theorem dX3_init_0 : decode cX3_init 0 = .ok (.aload_n 0, 1) := by decide +kernel
theorem dX3_init_1 : decode cX3_init 1 = .ok (.invokespecial 3, 3) := by decide +kernel
theorem dX3_init_4 : decode cX3_init 4 = .ok (.aload_n 0, 1) := by decide +kernel
theorem dX3_init_5 : decode cX3_init 5 = .ok (.bipush 10, 2) := by decide +kernel
theorem dX3_init_7 : decode cX3_init 7 = .ok (.newarray .int, 2) := by decide +kernel
theorem dX3_init_9 : decode cX3_init 9 = .ok (.putfield 9, 3) := by decide +kernel
theorem dX3_init_12 : decode cX3_init 12 = .ok (.aload_n 0, 1) := by decide +kernel
theorem dX3_init_13 : decode cX3_init 13 = .ok (.bipush 10, 2) := by decide +kernel
theorem dX3_init_15 : decode cX3_init 15 = .ok (.newarray .int, 2) := by decide +kernel
theorem dX3_init_17 : decode cX3_init 17 = .ok (.putfield 15, 3) := by decide +kernel
theorem dX3_init_20 : decode cX3_init 20 = .ok (.aload_n 0, 1) := by decide +kernel
theorem dX3_init_21 : decode cX3_init 21 = .ok (.bipush 80, 2) := by decide +kernel
theorem dX3_init_23 : decode cX3_init 23 = .ok (.newarray .int, 2) := by decide +kernel
theorem dX3_init_25 : decode cX3_init 25 = .ok (.putfield 18, 3) := by decide +kernel
theorem dX3_init_28 : decode cX3_init 28 = .ok (.aload_n 0, 1) := by decide +kernel
theorem dX3_init_29 : decode cX3_init 29 = .ok (.iconst 5, 1) := by decide +kernel
theorem dX3_init_30 : decode cX3_init 30 = .ok (.newarray .int, 2) := by decide +kernel
theorem dX3_init_32 : decode cX3_init 32 = .ok (.putfield 21, 3) := by decide +kernel
theorem dX3_init_35 : decode cX3_init 35 = .ok (.aload_n 0, 1) := by decide +kernel
theorem dX3_init_36 : decode cX3_init 36 = .ok (.bipush 8, 2) := by decide +kernel
theorem dX3_init_38 : decode cX3_init 38 = .ok (.newarray .int, 2) := by decide +kernel
theorem dX3_init_40 : decode cX3_init 40 = .ok (.putfield 24, 3) := by decide +kernel
theorem dX3_init_43 : decode cX3_init 43 = .ok (.aload_n 0, 1) := by decide +kernel
theorem dX3_init_44 : decode cX3_init 44 = .ok (.getfield 18, 3) := by decide +kernel
theorem dX3_init_47 : decode cX3_init 47 = .ok (.iconst (-1), 1) := by decide +kernel
theorem dX3_init_48 : decode cX3_init 48 = .ok (.invokestatic 27, 3) := by decide +kernel
theorem dX3_init_51 : decode cX3_init 51 = .ok (.return_, 1) := by decide +kernel
theorem dX3_addQuestion_0 : decode cX3_addQuestion 0 = .ok (.aload_n 0, 1) := by decide +kernel
theorem dX3_addQuestion_1 : decode cX3_addQuestion 1 = .ok (.getfield 33, 3) := by decide +kernel
theorem dX3_addQuestion_4 : decode cX3_addQuestion 4 = .ok (.bipush 10, 2) := by decide +kernel
theorem dX3_addQuestion_6 : decode cX3_addQuestion 6 = .ok (.if_icmp .lt 5, 3) := by decide +kernel
theorem dX3_addQuestion_9 : decode cX3_addQuestion 9 = .ok (.iconst (-1), 1) := by decide +kernel
theorem dX3_addQuestion_10 : decode cX3_addQuestion 10 = .ok (.ireturn, 1) := by decide +kernel
theorem dX3_addQuestion_11 : decode cX3_addQuestion 11 = .ok (.aload_n 0, 1) := by decide +kernel
theorem dX3_addQuestion_12 : decode cX3_addQuestion 12 = .ok (.getfield 9, 3) := by decide +kernel
theorem dX3_addQuestion_15 : decode cX3_addQuestion 15 = .ok (.aload_n 0, 1) := by decide +kernel
theorem dX3_addQuestion_16 : decode cX3_addQuestion 16 = .ok (.getfield 33, 3) := by decide +kernel
theorem dX3_addQuestion_19 : decode cX3_addQuestion 19 = .ok (.iload_n 1, 1) := by decide +kernel
theorem dX3_addQuestion_20 : decode cX3_addQuestion 20 = .ok (.iastore, 1) := by decide +kernel
theorem dX3_addQuestion_21 : decode cX3_addQuestion 21 = .ok (.aload_n 0, 1) := by decide +kernel
theorem dX3_addQuestion_22 : decode cX3_addQuestion 22 = .ok (.getfield 15, 3) := by decide +kernel
theorem dX3_addQuestion_25 : decode cX3_addQuestion 25 = .ok (.aload_n 0, 1) := by decide +kernel
theorem dX3_addQuestion_26 : decode cX3_addQuestion 26 = .ok (.getfield 33, 3) := by decide +kernel
theorem dX3_addQuestion_29 : decode cX3_addQuestion 29 = .ok (.iload_n 2, 1) := by decide +kernel
theorem dX3_addQuestion_30 : decode cX3_addQuestion 30 = .ok (.iastore, 1) := by decide +kernel
theorem dX3_addQuestion_31 : decode cX3_addQuestion 31 = .ok (.aload_n 0, 1) := by decide +kernel
theorem dX3_addQuestion_32 : decode cX3_addQuestion 32 = .ok (.dup, 1) := by decide +kernel
theorem dX3_addQuestion_33 : decode cX3_addQuestion 33 = .ok (.getfield 33, 3) := by decide +kernel
theorem dX3_addQuestion_36 : decode cX3_addQuestion 36 = .ok (.iconst 1, 1) := by decide +kernel
theorem dX3_addQuestion_37 : decode cX3_addQuestion 37 = .ok (.iadd, 1) := by decide +kernel
theorem dX3_addQuestion_38 : decode cX3_addQuestion 38 = .ok (.putfield 33, 3) := by decide +kernel
theorem dX3_addQuestion_41 : decode cX3_addQuestion 41 = .ok (.aload_n 0, 1) := by decide +kernel
theorem dX3_addQuestion_42 : decode cX3_addQuestion 42 = .ok (.getfield 33, 3) := by decide +kernel
theorem dX3_addQuestion_45 : decode cX3_addQuestion 45 = .ok (.iconst 1, 1) := by decide +kernel
theorem dX3_addQuestion_46 : decode cX3_addQuestion 46 = .ok (.isub, 1) := by decide +kernel
theorem dX3_addQuestion_47 : decode cX3_addQuestion 47 = .ok (.ireturn, 1) := by decide +kernel
