/-! ===== BEGIN words of one list among another's, by their places ===== -/
theorem goodIn_r {big : List Cond} (ws : List Cond) (ps : List Nat) (hp : ws = ps.filterMap (fun i => big[i]?)) (h : ws.all goodWord = true) : GoodIn big ws := by
  intro w hw
  have h1 := List.all_eq_true.mp h w hw
  rw [hp] at hw
  obtain ⟨i, -, hi⟩ := List.mem_filterMap.mp hw
  have hm : w ∈ big := by first | exact List.mem_of_getElem? hi | exact List.getElem?_mem hi
  exact ⟨hm, good_of_word h1⟩
theorem goodIn_app {big a b : List Cond} (ha : GoodIn big a) (hb : GoodIn big b) : GoodIn big (a ++ b) := fun w h => (List.mem_append.mp h).elim (ha w) (hb w)
theorem goodIn_ca {big a b : List Cond} {c : Cond} (ha : GoodIn big (c :: a)) (hb : GoodIn big b) : GoodIn big (c :: (a ++ b)) := fun w h => (List.mem_cons.mp h).elim (fun e => ha w (List.mem_cons.mpr (Or.inl e))) (fun h => (List.mem_append.mp h).elim (fun h => ha w (List.mem_cons.mpr (Or.inr h))) (hb w))
theorem goodIn_sub {big ws : List Cond} (hm : ∀ w ∈ ws, w ∈ big) (h : ws.all goodWord = true) : GoodIn big ws := fun w hw => ⟨hm w hw, good_of_word (List.all_eq_true.mp h w hw)⟩
/-! ===== END ===== -/

/-! ===== BEGIN printed: names, fields, word lists, decode rows ===== -/
def RX0 : String := "BookOfAll$Entry"
def TX0 : u_T := fun k => match k with
  | 0 => ("BookOfAll$Entry", "number", "I", true)
  | 1 => ("BookOfAll$Entry", "kind", "I", true)
  | 2 => ("BookOfAll$Entry", "heading", "[B", true)
  | 3 => ("BookOfAll$Entry", "firstWord", "J", false)
  | 4 => ("BookOfAll$Entry", "secondWord", "I", false)
  | 5 => ("BookOfAll$Entry", "keyStart", "I", false)
  | 6 => ("BookOfAll$Entry", "keyVolume", "I", false)
  | 7 => ("BookOfAll$Entry", "k", "I", false)
  | 8 => ("BookOfAll$Entry", "field", "I", false)
  | 9 => ("BookOfAll$Entry", "asked", "I", false)
  | 10 => ("BookOfAll$Entry", "to", "I", false)
  | 11 => ("BookOfAll$Entry", "how", "I", false)
  | 12 => ("BookOfAll$Entry", "setWith", "I", false)
  | 13 => ("BookOfAll$Entry", "begins", "I", false)
  | 14 => ("BookOfAll$Entry", "hand", "I", false)
  | 15 => ("BookOfAll$Entry", "lineCount", "I", false)
  | 16 => ("BookOfAll$Entry", "facts", "J", false)
  | _ => ("BookOfAll$Entry", "writers", "I", false)
def tyX0 : Nat → FieldType := fun k => match k with
  | 0 => .int
  | 1 => .int
  | 2 => .array .byte
  | 3 => .long
  | 4 => .int
  | 5 => .int
  | 6 => .int
  | 7 => .int
  | 8 => .int
  | 9 => .int
  | 10 => .int
  | 11 => .int
  | 12 => .int
  | 13 => .int
  | 14 => .int
  | 15 => .int
  | 16 => .long
  | _ => .int
abbrev wsX00 : List Cond := u_ws RX0 TX0 18
theorem nmX0 : ∀ a, a < 18 → ∀ b, b < 18 → a ≠ b → (TX0 a).2.1 ≠ (TX0 b).2.1 := by decide +kernel
theorem tyX0_ok : ∀ k, k < 18 → parseFieldDescriptor (TX0 k).2.2.1 = some (tyX0 k) := by decide +kernel
abbrev cX0_init : ByteArray := prog_2_method_1_code
def yX0_init : MethodName := ⟨RX0, "<init>", "(III)V"⟩
abbrev cX0_byteOf : ByteArray := prog_2_method_2_code
def yX0_byteOf : MethodName := ⟨RX0, "byteOf", "(IIII)I"⟩
abbrev cX0_isDigit : ByteArray := prog_2_method_3_code
def yX0_isDigit : MethodName := ⟨RX0, "isDigit", "(I)Z"⟩
abbrev cX0_isMark : ByteArray := prog_2_method_4_code
def yX0_isMark : MethodName := ⟨RX0, "isMark", "(I)Z"⟩
abbrev cX0_headingSize : ByteArray := prog_2_method_5_code
def yX0_headingSize : MethodName := ⟨RX0, "headingSize", "(III)I"⟩
abbrev cX0_readHeading : ByteArray := prog_2_method_6_code
def yX0_readHeading : MethodName := ⟨RX0, "readHeading", "(III)V"⟩
abbrev cX0_byteAt : ByteArray := prog_2_method_7_code
def yX0_byteAt : MethodName := ⟨RX0, "byteAt", "(I)I"⟩
abbrev cX0_isDone : ByteArray := prog_2_method_8_code
def yX0_isDone : MethodName := ⟨RX0, "isDone", "()Z"⟩
abbrev cX0_isUnfinishedOf : ByteArray := prog_2_method_9_code
def yX0_isUnfinishedOf : MethodName := ⟨RX0, "isUnfinishedOf", "(I)Z"⟩
def RX1 : String := "BookOfAll$Giver"
def TX1 : u_T := fun k => match k with
  | 0 => ("BookOfAll$Giver", "article", "[I", true)
  | 1 => ("BookOfAll$Giver", "lack", "[I", true)
  | 2 => ("BookOfAll$Giver", "chosen", "[I", true)
  | 3 => ("BookOfAll$Giver", "articleCount", "I", false)
  | 4 => ("BookOfAll$Giver", "hand", "[I", true)
  | 5 => ("BookOfAll$Giver", "room", "[I", true)
  | 6 => ("BookOfAll$Giver", "takes", "[I", true)
  | 7 => ("BookOfAll$Giver", "handCount", "I", false)
  | 8 => ("BookOfAll$Giver", "sums", "[I", true)
  | _ => ("BookOfAll$Giver", "reached", "[Z", true)
def tyX1 : Nat → FieldType := fun k => match k with
  | 0 => .array .int
  | 1 => .array .int
  | 2 => .array .int
  | 3 => .int
  | 4 => .array .int
  | 5 => .array .int
  | 6 => .array .int
  | 7 => .int
  | 8 => .array .int
  | _ => .array .boolean
theorem nmX1 : ∀ a, a < 10 → ∀ b, b < 10 → a ≠ b → (TX1 a).2.1 ≠ (TX1 b).2.1 := by decide +kernel
theorem tyX1_ok : ∀ k, k < 10 → parseFieldDescriptor (TX1 k).2.2.1 = some (tyX1 k) := by decide +kernel
abbrev cX1_init : ByteArray := prog_3_method_1_code
def yX1_init : MethodName := ⟨RX1, "<init>", "()V"⟩
abbrev cX1_begin : ByteArray := prog_3_method_2_code
def yX1_begin : MethodName := ⟨RX1, "begin", "()V"⟩
abbrev cX1_addHand : ByteArray := prog_3_method_3_code
def yX1_addHand : MethodName := ⟨RX1, "addHand", "(II)V"⟩
abbrev cX1_addArticle : ByteArray := prog_3_method_4_code
def yX1_addArticle : MethodName := ⟨RX1, "addArticle", "(II)V"⟩
abbrev cX1_handNumber : ByteArray := prog_3_method_5_code
def yX1_handNumber : MethodName := ⟨RX1, "handNumber", "(I)I"⟩
abbrev cX1_allow : ByteArray := prog_3_method_6_code
def yX1_allow : MethodName := ⟨RX1, "allow", "(I)V"⟩
abbrev cX1_handOf : ByteArray := prog_3_method_7_code
def yX1_handOf : MethodName := ⟨RX1, "handOf", "(I)I"⟩
abbrev cX1_choose : ByteArray := prog_3_method_8_code
def yX1_choose : MethodName := ⟨RX1, "choose", "()I"⟩
abbrev cX1_firstHandFor : ByteArray := prog_3_method_9_code
def yX1_firstHandFor : MethodName := ⟨RX1, "firstHandFor", "(II)I"⟩
abbrev cX1_bestFrom : ByteArray := prog_3_method_10_code
def yX1_bestFrom : MethodName := ⟨RX1, "bestFrom", "(I)I"⟩
abbrev cX1_sumLacks : ByteArray := prog_3_method_11_code
def yX1_sumLacks : MethodName := ⟨RX1, "sumLacks", "(II)V"⟩
abbrev cX1_reachWith : ByteArray := prog_3_method_12_code
def yX1_reachWith : MethodName := ⟨RX1, "reachWith", "(III)V"⟩
def RX2 : String := "BookOfAll$Hand"
def TX2 : u_T := fun k => match k with
  | 0 => ("BookOfAll$Hand", "fields", "I", true)
  | 1 => ("BookOfAll$Hand", "skill", "I", true)
  | 2 => ("BookOfAll$Hand", "born", "I", true)
  | 3 => ("BookOfAll$Hand", "lives", "Z", false)
  | 4 => ("BookOfAll$Hand", "enemies", "I", false)
  | _ => ("BookOfAll$Hand", "pay", "I", false)
def tyX2 : Nat → FieldType := fun k => match k with
  | 0 => .int
  | 1 => .int
  | 2 => .int
  | 3 => .boolean
  | 4 => .int
  | _ => .int
abbrev wsX20 : List Cond := u_ws RX2 TX2 6
theorem nmX2 : ∀ a, a < 6 → ∀ b, b < 6 → a ≠ b → (TX2 a).2.1 ≠ (TX2 b).2.1 := by decide +kernel
theorem tyX2_ok : ∀ k, k < 6 → parseFieldDescriptor (TX2 k).2.2.1 = some (tyX2 k) := by decide +kernel
abbrev cX2_init : ByteArray := prog_4_method_1_code
def yX2_init : MethodName := ⟨RX2, "<init>", "(III)V"⟩
def RX3 : String := "BookOfAll$Lengths"
def TX3 : u_T := fun k => match k with
  | 0 => ("BookOfAll$Lengths", "article", "[I", true)
  | 1 => ("BookOfAll$Lengths", "asked", "[I", true)
  | 2 => ("BookOfAll$Lengths", "least", "[I", true)
  | 3 => ("BookOfAll$Lengths", "most", "[I", true)
  | 4 => ("BookOfAll$Lengths", "fitted", "[I", true)
  | 5 => ("BookOfAll$Lengths", "size", "I", false)
  | _ => ("BookOfAll$Lengths", "fixed", "I", false)
def tyX3 : Nat → FieldType := fun k => match k with
  | 0 => .array .int
  | 1 => .array .int
  | 2 => .array .int
  | 3 => .array .int
  | 4 => .array .int
  | 5 => .int
  | _ => .int
theorem nmX3 : ∀ a, a < 7 → ∀ b, b < 7 → a ≠ b → (TX3 a).2.1 ≠ (TX3 b).2.1 := by decide +kernel
theorem tyX3_ok : ∀ k, k < 7 → parseFieldDescriptor (TX3 k).2.2.1 = some (tyX3 k) := by decide +kernel
abbrev cX3_init : ByteArray := prog_5_method_1_code
def yX3_init : MethodName := ⟨RX3, "<init>", "()V"⟩
abbrev cX3_begin : ByteArray := prog_5_method_2_code
def yX3_begin : MethodName := ⟨RX3, "begin", "()V"⟩
abbrev cX3_add : ByteArray := prog_5_method_3_code
def yX3_add : MethodName := ⟨RX3, "add", "(IIII)V"⟩
abbrev cX3_fitTo : ByteArray := prog_5_method_4_code
def yX3_fitTo : MethodName := ⟨RX3, "fitTo", "(I)Z"⟩
abbrev cX3_shift : ByteArray := prog_5_method_5_code
def yX3_shift : MethodName := ⟨RX3, "shift", "([II)V"⟩
abbrev cX3_sumOf : ByteArray := prog_5_method_6_code
def yX3_sumOf : MethodName := ⟨RX3, "sumOf", "([I)I"⟩
abbrev cX3_differences : ByteArray := prog_5_method_7_code
def yX3_differences : MethodName := ⟨RX3, "differences", "()I"⟩
abbrev cX3_fittedOf : ByteArray := prog_5_method_8_code
def yX3_fittedOf : MethodName := ⟨RX3, "fittedOf", "(I)I"⟩
def RX4 : String := "BookOfAll$Line"
def TX4 : u_T := fun k => match k with
  | 0 => ("BookOfAll$Line", "entry", "I", true)
  | 1 => ("BookOfAll$Line", "hand", "I", true)
  | 2 => ("BookOfAll$Line", "term", "I", true)
  | 3 => ("BookOfAll$Line", "fact", "I", false)
  | 4 => ("BookOfAll$Line", "leansOn", "I", false)
  | 5 => ("BookOfAll$Line", "root", "I", false)
  | 6 => ("BookOfAll$Line", "keeps", "I", false)
  | 7 => ("BookOfAll$Line", "place", "I", false)
  | _ => ("BookOfAll$Line", "pay", "I", false)
def tyX4 : Nat → FieldType := fun k => match k with
  | 0 => .int
  | 1 => .int
  | 2 => .int
  | 3 => .int
  | 4 => .int
  | 5 => .int
  | 6 => .int
  | 7 => .int
  | _ => .int
theorem nmX4 : ∀ a, a < 9 → ∀ b, b < 9 → a ≠ b → (TX4 a).2.1 ≠ (TX4 b).2.1 := by decide +kernel
theorem tyX4_ok : ∀ k, k < 9 → parseFieldDescriptor (TX4 k).2.2.1 = some (tyX4 k) := by decide +kernel
abbrev cX4_init : ByteArray := prog_6_method_1_code
def yX4_init : MethodName := ⟨RX4, "<init>", "(III)V"⟩
def RX5 : String := "BookOfAll$News"
def TX5 : u_T := fun k => match k with
  | 0 => ("BookOfAll$News", "latest", "[I", true)
  | 1 => ("BookOfAll$News", "value", "[I", true)
  | 2 => ("BookOfAll$News", "source", "[I", true)
  | 3 => ("BookOfAll$News", "day", "[I", true)
  | 4 => ("BookOfAll$News", "earlier", "[I", true)
  | 5 => ("BookOfAll$News", "tells", "I", false)
  | 6 => ("BookOfAll$News", "wrongLine", "[I", true)
  | 7 => ("BookOfAll$News", "kept", "[I", true)
  | 8 => ("BookOfAll$News", "should", "[I", true)
  | 9 => ("BookOfAll$News", "erratumDay", "[I", true)
  | 10 => ("BookOfAll$News", "missed", "[Z", true)
  | _ => ("BookOfAll$News", "errata", "I", false)
def tyX5 : Nat → FieldType := fun k => match k with
  | 0 => .array .int
  | 1 => .array .int
  | 2 => .array .int
  | 3 => .array .int
  | 4 => .array .int
  | 5 => .int
  | 6 => .array .int
  | 7 => .array .int
  | 8 => .array .int
  | 9 => .array .int
  | 10 => .array .boolean
  | _ => .int
abbrev wsX50 : List Cond := u_ws RX5 TX5 12
theorem nmX5 : ∀ a, a < 12 → ∀ b, b < 12 → a ≠ b → (TX5 a).2.1 ≠ (TX5 b).2.1 := by decide +kernel
theorem tyX5_ok : ∀ k, k < 12 → parseFieldDescriptor (TX5 k).2.2.1 = some (tyX5 k) := by decide +kernel
abbrev cX5_init : ByteArray := prog_7_method_1_code
def yX5_init : MethodName := ⟨RX5, "<init>", "()V"⟩
abbrev cX5_addFact : ByteArray := prog_7_method_2_code
def yX5_addFact : MethodName := ⟨RX5, "addFact", "(IIII)Z"⟩
abbrev cX5_tellOn : ByteArray := prog_7_method_3_code
def yX5_tellOn : MethodName := ⟨RX5, "tellOn", "(II)I"⟩
abbrev cX5_valueOn : ByteArray := prog_7_method_4_code
def yX5_valueOn : MethodName := ⟨RX5, "valueOn", "(II)I"⟩
abbrev cX5_sourceOn : ByteArray := prog_7_method_5_code
def yX5_sourceOn : MethodName := ⟨RX5, "sourceOn", "(II)I"⟩
abbrev cX5_addErratum : ByteArray := prog_7_method_6_code
def yX5_addErratum : MethodName := ⟨RX5, "addErratum", "(IIIIZ)I"⟩
abbrev cX5_missedBy : ByteArray := prog_7_method_7_code
def yX5_missedBy : MethodName := ⟨RX5, "missedBy", "(I)I"⟩
abbrev cX5_keptOn : ByteArray := prog_7_method_8_code
def yX5_keptOn : MethodName := ⟨RX5, "keptOn", "(III)I"⟩
def RX6 : String := "BookOfAll$Order"
def TX6 : u_T := fun k => match k with
  | 0 => ("BookOfAll$Order", "rules", "LBookOfAll$Rules;", true)
  | 1 => ("BookOfAll$Order", "volume", "I", false)
  | 2 => ("BookOfAll$Order", "day", "I", false)
  | 3 => ("BookOfAll$Order", "skips", "Z", false)
  | 4 => ("BookOfAll$Order", "blanksCount", "Z", false)
  | _ => ("BookOfAll$Order", "numbersFirst", "Z", false)
def tyX6 : Nat → FieldType := fun k => match k with
  | 0 => .object "BookOfAll$Rules"
  | 1 => .int
  | 2 => .int
  | 3 => .boolean
  | 4 => .boolean
  | _ => .boolean
abbrev wsX60 : List Cond := u_ws RX6 TX6 6
theorem nmX6 : ∀ a, a < 6 → ∀ b, b < 6 → a ≠ b → (TX6 a).2.1 ≠ (TX6 b).2.1 := by decide +kernel
theorem tyX6_ok : ∀ k, k < 6 → parseFieldDescriptor (TX6 k).2.2.1 = some (tyX6 k) := by decide +kernel
abbrev cX6_init : ByteArray := prog_8_method_1_code
def yX6_init : MethodName := ⟨RX6, "<init>", "(LBookOfAll$Rules;)V"⟩
abbrev cX6_take : ByteArray := prog_8_method_2_code
def yX6_take : MethodName := ⟨RX6, "take", "(II)V"⟩
abbrev cX6_turn : ByteArray := prog_8_method_3_code
def yX6_turn : MethodName := ⟨RX6, "turn", "(I)V"⟩
abbrev cX6_prepare : ByteArray := prog_8_method_4_code
def yX6_prepare : MethodName := ⟨RX6, "prepare", "(LBookOfAll$Entry;)V"⟩
abbrev cX6_isAhead : ByteArray := prog_8_method_5_code
def yX6_isAhead : MethodName := ⟨RX6, "isAhead", "(LBookOfAll$Entry;LBookOfAll$Entry;)Z"⟩
abbrev cX6_compareKeys : ByteArray := prog_8_method_6_code
def yX6_compareKeys : MethodName := ⟨RX6, "compareKeys", "(LBookOfAll$Entry;LBookOfAll$Entry;)I"⟩
abbrev cX6_rank : ByteArray := prog_8_method_7_code
def yX6_rank : MethodName := ⟨RX6, "rank", "(I)I"⟩
def RX7 : String := "BookOfAll$Reader"
def TX7 : u_T := fun k => match k with
  | 0 => ("BookOfAll$Reader", "bytes", "[B", true)
  | 1 => ("BookOfAll$Reader", "size", "I", false)
  | 2 => ("BookOfAll$Reader", "kinds", "[I", true)
  | 3 => ("BookOfAll$Reader", "starts", "[I", true)
  | 4 => ("BookOfAll$Reader", "stops", "[I", true)
  | 5 => ("BookOfAll$Reader", "values", "[I", true)
  | 6 => ("BookOfAll$Reader", "tokens", "I", false)
  | 7 => ("BookOfAll$Reader", "next", "I", false)
  | 8 => ("BookOfAll$Reader", "fault", "I", false)
  | 9 => ("BookOfAll$Reader", "code", "[I", true)
  | 10 => ("BookOfAll$Reader", "codeSize", "I", false)
  | 11 => ("BookOfAll$Reader", "from", "[I", true)
  | 12 => ("BookOfAll$Reader", "to", "[I", true)
  | 13 => ("BookOfAll$Reader", "words", "[J", true)
  | _ => ("BookOfAll$Reader", "wordCount", "I", false)
def tyX7 : Nat → FieldType := fun k => match k with
  | 0 => .array .byte
  | 1 => .int
  | 2 => .array .int
  | 3 => .array .int
  | 4 => .array .int
  | 5 => .array .int
  | 6 => .int
  | 7 => .int
  | 8 => .int
  | 9 => .array .int
  | 10 => .int
  | 11 => .array .int
  | 12 => .array .int
  | 13 => .array .long
  | _ => .int
abbrev wsX70 : List Cond := u_ws RX7 TX7 15
theorem nmX7 : ∀ a, a < 15 → ∀ b, b < 15 → a ≠ b → (TX7 a).2.1 ≠ (TX7 b).2.1 := by decide +kernel
theorem tyX7_ok : ∀ k, k < 15 → parseFieldDescriptor (TX7 k).2.2.1 = some (tyX7 k) := by decide +kernel
abbrev cX7_init : ByteArray := prog_9_method_1_code
def yX7_init : MethodName := ⟨RX7, "<init>", "()V"⟩
abbrev cX7_append : ByteArray := prog_9_method_2_code
def yX7_append : MethodName := ⟨RX7, "append", "(I)V"⟩
abbrev cX7_parse : ByteArray := prog_9_method_3_code
def yX7_parse : MethodName := ⟨RX7, "parse", "()I"⟩
abbrev cX7_compiled : ByteArray := prog_9_method_4_code
def yX7_compiled : MethodName := ⟨RX7, "compiled", "()LBookOfAll$Sheet;"⟩
abbrev cX7_byteAt : ByteArray := prog_9_method_5_code
def yX7_byteAt : MethodName := ⟨RX7, "byteAt", "(I)I"⟩
abbrev cX7_isLetter : ByteArray := prog_9_method_6_code
def yX7_isLetter : MethodName := ⟨RX7, "isLetter", "(I)Z"⟩
abbrev cX7_isSign : ByteArray := prog_9_method_7_code
def yX7_isSign : MethodName := ⟨RX7, "isSign", "(I)Z"⟩
abbrev cX7_scan : ByteArray := prog_9_method_8_code
def yX7_scan : MethodName := ⟨RX7, "scan", "()V"⟩
abbrev cX7_kindAt : ByteArray := prog_9_method_9_code
def yX7_kindAt : MethodName := ⟨RX7, "kindAt", "(I)I"⟩
abbrev cX7_stopAt : ByteArray := prog_9_method_10_code
def yX7_stopAt : MethodName := ⟨RX7, "stopAt", "(II)I"⟩
abbrev cX7_addToken : ByteArray := prog_9_method_11_code
def yX7_addToken : MethodName := ⟨RX7, "addToken", "(III)V"⟩
abbrev cX7_numberAt : ByteArray := prog_9_method_12_code
def yX7_numberAt : MethodName := ⟨RX7, "numberAt", "(II)I"⟩
abbrev cX7_wordAt : ByteArray := prog_9_method_13_code
def yX7_wordAt : MethodName := ⟨RX7, "wordAt", "(II)I"⟩
abbrev cX7_isWordAt : ByteArray := prog_9_method_14_code
def yX7_isWordAt : MethodName := ⟨RX7, "isWordAt", "(III)Z"⟩
abbrev cX7_kind : ByteArray := prog_9_method_15_code
def yX7_kind : MethodName := ⟨RX7, "kind", "()I"⟩
abbrev cX7_word : ByteArray := prog_9_method_16_code
def yX7_word : MethodName := ⟨RX7, "word", "()I"⟩
abbrev cX7_refuse : ByteArray := prog_9_method_17_code
def yX7_refuse : MethodName := ⟨RX7, "refuse", "()V"⟩
abbrev cX7_advance : ByteArray := prog_9_method_18_code
def yX7_advance : MethodName := ⟨RX7, "advance", "()V"⟩
abbrev cX7_expect : ByteArray := prog_9_method_19_code
def yX7_expect : MethodName := ⟨RX7, "expect", "(I)V"⟩
abbrev cX7_emit : ByteArray := prog_9_method_20_code
def yX7_emit : MethodName := ⟨RX7, "emit", "(I)V"⟩
abbrev cX7_readClause : ByteArray := prog_9_method_21_code
def yX7_readClause : MethodName := ⟨RX7, "readClause", "()V"⟩
abbrev cX7_readSkip : ByteArray := prog_9_method_22_code
def yX7_readSkip : MethodName := ⟨RX7, "readSkip", "()V"⟩
abbrev cX7_openSort : ByteArray := prog_9_method_23_code
def yX7_openSort : MethodName := ⟨RX7, "openSort", "()I"⟩
abbrev cX7_closeSort : ByteArray := prog_9_method_24_code
def yX7_closeSort : MethodName := ⟨RX7, "closeSort", "(I)V"⟩
abbrev cX7_readChoice : ByteArray := prog_9_method_25_code
def yX7_readChoice : MethodName := ⟨RX7, "readChoice", "(I)V"⟩
abbrev cX7_readEither : ByteArray := prog_9_method_26_code
def yX7_readEither : MethodName := ⟨RX7, "readEither", "(I)V"⟩
abbrev cX7_readBoth : ByteArray := prog_9_method_27_code
def yX7_readBoth : MethodName := ⟨RX7, "readBoth", "(I)V"⟩
abbrev cX7_readBasic : ByteArray := prog_9_method_28_code
def yX7_readBasic : MethodName := ⟨RX7, "readBasic", "(I)V"⟩
abbrev cX7_readComparison : ByteArray := prog_9_method_29_code
def yX7_readComparison : MethodName := ⟨RX7, "readComparison", "(I)V"⟩
abbrev cX7_readSum : ByteArray := prog_9_method_30_code
def yX7_readSum : MethodName := ⟨RX7, "readSum", "(I)V"⟩
abbrev cX7_readProduct : ByteArray := prog_9_method_31_code
def yX7_readProduct : MethodName := ⟨RX7, "readProduct", "(I)V"⟩
abbrev cX7_readFactor : ByteArray := prog_9_method_32_code
def yX7_readFactor : MethodName := ⟨RX7, "readFactor", "(I)V"⟩
def RX8 : String := "BookOfAll$Rules"
def TX8 : u_T := fun k => match k with
  | 0 => ("BookOfAll$Rules", "sheets", "[LBookOfAll$Sheet;", true)
  | 1 => ("BookOfAll$Rules", "sheetCount", "I", false)
  | 2 => ("BookOfAll$Rules", "putSheet", "[I", true)
  | 3 => ("BookOfAll$Rules", "putVolume", "[I", true)
  | 4 => ("BookOfAll$Rules", "putDay", "[I", true)
  | 5 => ("BookOfAll$Rules", "puts", "I", false)
  | 6 => ("BookOfAll$Rules", "names", "[I", true)
  | _ => ("BookOfAll$Rules", "stack", "[I", true)
def tyX8 : Nat → FieldType := fun k => match k with
  | 0 => .array (.object "BookOfAll$Sheet")
  | 1 => .int
  | 2 => .array .int
  | 3 => .array .int
  | 4 => .array .int
  | 5 => .int
  | 6 => .array .int
  | _ => .array .int
abbrev wsX80 : List Cond := u_ws RX8 TX8 8
theorem nmX8 : ∀ a, a < 8 → ∀ b, b < 8 → a ≠ b → (TX8 a).2.1 ≠ (TX8 b).2.1 := by decide +kernel
theorem tyX8_ok : ∀ k, k < 8 → parseFieldDescriptor (TX8 k).2.2.1 = some (tyX8 k) := by decide +kernel
abbrev cX8_init : ByteArray := prog_10_method_1_code
def yX8_init : MethodName := ⟨RX8, "<init>", "()V"⟩
abbrev cX8_hasRoomForSheet : ByteArray := prog_10_method_2_code
def yX8_hasRoomForSheet : MethodName := ⟨RX8, "hasRoomForSheet", "()Z"⟩
abbrev cX8_keep : ByteArray := prog_10_method_3_code
def yX8_keep : MethodName := ⟨RX8, "keep", "(LBookOfAll$Sheet;)I"⟩
abbrev cX8_put : ByteArray := prog_10_method_4_code
def yX8_put : MethodName := ⟨RX8, "put", "(III)I"⟩
abbrev cX8_sheetOfPut : ByteArray := prog_10_method_5_code
def yX8_sheetOfPut : MethodName := ⟨RX8, "sheetOfPut", "(III)LBookOfAll$Sheet;"⟩
abbrev cX8_inForce : ByteArray := prog_10_method_6_code
def yX8_inForce : MethodName := ⟨RX8, "inForce", "(III)I"⟩
abbrev cX8_skips : ByteArray := prog_10_method_7_code
def yX8_skips : MethodName := ⟨RX8, "skips", "(JII)Z"⟩
abbrev cX8_forgetNames : ByteArray := prog_10_method_8_code
def yX8_forgetNames : MethodName := ⟨RX8, "forgetNames", "()V"⟩
abbrev cX8_name : ByteArray := prog_10_method_9_code
def yX8_name : MethodName := ⟨RX8, "name", "(II)V"⟩
abbrev cX8_valueOf : ByteArray := prog_10_method_10_code
def yX8_valueOf : MethodName := ⟨RX8, "valueOf", "(III)I"⟩
abbrev cX8_run : ByteArray := prog_10_method_11_code
def yX8_run : MethodName := ⟨RX8, "run", "(LBookOfAll$Sheet;I)I"⟩
abbrev cX8_combine : ByteArray := prog_10_method_12_code
def yX8_combine : MethodName := ⟨RX8, "combine", "(III)I"⟩
def RX9 : String := "BookOfAll$Sheet"
def TX9 : u_T := fun k => match k with
  | 0 => ("BookOfAll$Sheet", "code", "[I", false)
  | 1 => ("BookOfAll$Sheet", "from", "[I", false)
  | 2 => ("BookOfAll$Sheet", "to", "[I", false)
  | _ => ("BookOfAll$Sheet", "words", "[J", false)
def tyX9 : Nat → FieldType := fun k => match k with
  | 0 => .array .int
  | 1 => .array .int
  | 2 => .array .int
  | _ => .array .long
abbrev wsX90 : List Cond := u_ws RX9 TX9 4
theorem nmX9 : ∀ a, a < 4 → ∀ b, b < 4 → a ≠ b → (TX9 a).2.1 ≠ (TX9 b).2.1 := by decide +kernel
theorem tyX9_ok : ∀ k, k < 4 → parseFieldDescriptor (TX9 k).2.2.1 = some (tyX9 k) := by decide +kernel
abbrev cX9_init : ByteArray := prog_11_method_1_code
def yX9_init : MethodName := ⟨RX9, "<init>", "()V"⟩
abbrev cX9_sortOf : ByteArray := prog_11_method_2_code
def yX9_sortOf : MethodName := ⟨RX9, "sortOf", "(I)I"⟩
abbrev cX9_has : ByteArray := prog_11_method_3_code
def yX9_has : MethodName := ⟨RX9, "has", "(I)Z"⟩
abbrev cX9_hasWord : ByteArray := prog_11_method_4_code
def yX9_hasWord : MethodName := ⟨RX9, "hasWord", "(J)Z"⟩
def RX10 : String := "BookOfAll$Thief"
def TX10 : u_T := fun k => match k with
  | 0 => ("BookOfAll$Thief", "row", "[I", true)
  | 1 => ("BookOfAll$Thief", "size", "I", false)
  | _ => ("BookOfAll$Thief", "weight", "[I", true)
def tyX10 : Nat → FieldType := fun k => match k with
  | 0 => .array .int
  | 1 => .int
  | _ => .array .int
abbrev wsX100 : List Cond := u_ws RX10 TX10 3
theorem nmX10 : ∀ a, a < 3 → ∀ b, b < 3 → a ≠ b → (TX10 a).2.1 ≠ (TX10 b).2.1 := by decide +kernel
theorem tyX10_ok : ∀ k, k < 3 → parseFieldDescriptor (TX10 k).2.2.1 = some (tyX10 k) := by decide +kernel
abbrev cX10_init : ByteArray := prog_12_method_1_code
def yX10_init : MethodName := ⟨RX10, "<init>", "()V"⟩
abbrev cX10_add : ByteArray := prog_12_method_2_code
def yX10_add : MethodName := ⟨RX10, "add", "(I)I"⟩
abbrev cX10_begin : ByteArray := prog_12_method_3_code
def yX10_begin : MethodName := ⟨RX10, "begin", "()V"⟩
abbrev cX10_meet : ByteArray := prog_12_method_4_code
def yX10_meet : MethodName := ⟨RX10, "meet", "(IZ)V"⟩
abbrev cX10_weightOfAll : ByteArray := prog_12_method_5_code
def yX10_weightOfAll : MethodName := ⟨RX10, "weightOfAll", "()I"⟩
abbrev cX10_changes : ByteArray := prog_12_method_6_code
def yX10_changes : MethodName := ⟨RX10, "changes", "()I"⟩
abbrev cX10_shared : ByteArray := prog_12_method_7_code
def yX10_shared : MethodName := ⟨RX10, "shared", "()I"⟩
def RX11 : String := "BookOfAll$Volume"
def TX11 : u_T := fun k => match k with
  | 0 => ("BookOfAll$Volume", "lastLetter", "I", false)
  | 1 => ("BookOfAll$Volume", "setDay", "I", false)
  | 2 => ("BookOfAll$Volume", "order", "[I", false)
  | 3 => ("BookOfAll$Volume", "laid", "[I", false)
  | 4 => ("BookOfAll$Volume", "laidCount", "I", false)
  | 5 => ("BookOfAll$Volume", "lines", "I", false)
  | _ => ("BookOfAll$Volume", "struck", "I", false)
def tyX11 : Nat → FieldType := fun k => match k with
  | 0 => .int
  | 1 => .int
  | 2 => .array .int
  | 3 => .array .int
  | 4 => .int
  | 5 => .int
  | _ => .int
abbrev wsX110 : List Cond := u_ws RX11 TX11 7
theorem nmX11 : ∀ a, a < 7 → ∀ b, b < 7 → a ≠ b → (TX11 a).2.1 ≠ (TX11 b).2.1 := by decide +kernel
theorem tyX11_ok : ∀ k, k < 7 → parseFieldDescriptor (TX11 k).2.2.1 = some (tyX11 k) := by decide +kernel
abbrev cX11_init : ByteArray := prog_13_method_1_code
def yX11_init : MethodName := ⟨RX11, "<init>", "(I)V"⟩
abbrev cX11_addLaid : ByteArray := prog_13_method_2_code
def yX11_addLaid : MethodName := ⟨RX11, "addLaid", "(I)V"⟩
abbrev cX11_laidAt : ByteArray := prog_13_method_3_code
def yX11_laidAt : MethodName := ⟨RX11, "laidAt", "(I)I"⟩
def RX12 : String := "BookOfAll"
def TX12 : u_T := fun k => match k with
  | 0 => ("BookOfAll", "now", "I", false)
  | 1 => ("BookOfAll", "setBits", "I", false)
  | 2 => ("BookOfAll", "reader", "LBookOfAll$Reader;", true)
  | 3 => ("BookOfAll", "rules", "LBookOfAll$Rules;", true)
  | 4 => ("BookOfAll", "order", "LBookOfAll$Order;", true)
  | 5 => ("BookOfAll", "volumes", "[LBookOfAll$Volume;", true)
  | 6 => ("BookOfAll", "entries", "[LBookOfAll$Entry;", true)
  | 7 => ("BookOfAll", "entryCount", "I", false)
  | 8 => ("BookOfAll", "row", "[I", true)
  | 9 => ("BookOfAll", "rowSize", "I", false)
  | 10 => ("BookOfAll", "hands", "[LBookOfAll$Hand;", true)
  | 11 => ("BookOfAll", "handCount", "I", false)
  | 12 => ("BookOfAll", "lines", "[LBookOfAll$Line;", true)
  | 13 => ("BookOfAll", "lineCount", "I", false)
  | 14 => ("BookOfAll", "news", "LBookOfAll$News;", true)
  | 15 => ("BookOfAll", "firstVolume", "[I", true)
  | 16 => ("BookOfAll", "price", "[I", true)
  | 17 => ("BookOfAll", "fitting", "LBookOfAll$Lengths;", true)
  | 18 => ("BookOfAll", "giver", "LBookOfAll$Giver;", true)
  | _ => ("BookOfAll", "robber", "LBookOfAll$Thief;", true)
def tyX12 : Nat → FieldType := fun k => match k with
  | 0 => .int
  | 1 => .int
  | 2 => .object "BookOfAll$Reader"
  | 3 => .object "BookOfAll$Rules"
  | 4 => .object "BookOfAll$Order"
  | 5 => .array (.object "BookOfAll$Volume")
  | 6 => .array (.object "BookOfAll$Entry")
  | 7 => .int
  | 8 => .array .int
  | 9 => .int
  | 10 => .array (.object "BookOfAll$Hand")
  | 11 => .int
  | 12 => .array (.object "BookOfAll$Line")
  | 13 => .int
  | 14 => .object "BookOfAll$News"
  | 15 => .array .int
  | 16 => .array .int
  | 17 => .object "BookOfAll$Lengths"
  | 18 => .object "BookOfAll$Giver"
  | _ => .object "BookOfAll$Thief"
abbrev wsX120 : List Cond := u_ws RX12 TX12 20
theorem nmX12 : ∀ a, a < 20 → ∀ b, b < 20 → a ≠ b → (TX12 a).2.1 ≠ (TX12 b).2.1 := by decide +kernel
theorem tyX12_ok : ∀ k, k < 20 → parseFieldDescriptor (TX12 k).2.2.1 = some (tyX12 k) := by decide +kernel
abbrev cX12_init : ByteArray := prog_1_method_1_code
def yX12_init : MethodName := ⟨RX12, "<init>", "()V"⟩
abbrev cX12_feed : ByteArray := prog_1_method_2_code
def yX12_feed : MethodName := ⟨RX12, "feed", "(IIIII)I"⟩
abbrev cX12_end : ByteArray := prog_1_method_3_code
def yX12_end : MethodName := ⟨RX12, "end", "(I)Z"⟩
abbrev cX12_fault : ByteArray := prog_1_method_4_code
def yX12_fault : MethodName := ⟨RX12, "fault", "()I"⟩
abbrev cX12_sheet : ByteArray := prog_1_method_5_code
def yX12_sheet : MethodName := ⟨RX12, "sheet", "()I"⟩
abbrev cX12_force : ByteArray := prog_1_method_6_code
def yX12_force : MethodName := ⟨RX12, "force", "(II)I"⟩
abbrev cX12_rule : ByteArray := prog_1_method_7_code
def yX12_rule : MethodName := ⟨RX12, "rule", "(III)I"⟩
abbrev cX12_go : ByteArray := prog_1_method_8_code
def yX12_go : MethodName := ⟨RX12, "go", "(I)I"⟩
abbrev cX12_bound : ByteArray := prog_1_method_9_code
def yX12_bound : MethodName := ⟨RX12, "bound", "(II)Z"⟩
abbrev cX12_lastLetter : ByteArray := prog_1_method_10_code
def yX12_lastLetter : MethodName := ⟨RX12, "lastLetter", "(I)I"⟩
abbrev cX12_isVolume : ByteArray := prog_1_method_11_code
def yX12_isVolume : MethodName := ⟨RX12, "isVolume", "(I)Z"⟩
abbrev cX12_volumeAt : ByteArray := prog_1_method_12_code
def yX12_volumeAt : MethodName := ⟨RX12, "volumeAt", "(I)LBookOfAll$Volume;"⟩
abbrev cX12_isSet : ByteArray := prog_1_method_13_code
def yX12_isSet : MethodName := ⟨RX12, "isSet", "(I)Z"⟩
abbrev cX12_setVolumeAt : ByteArray := prog_1_method_14_code
def yX12_setVolumeAt : MethodName := ⟨RX12, "setVolumeAt", "(I)LBookOfAll$Volume;"⟩
abbrev cX12_article : ByteArray := prog_1_method_15_code
def yX12_article : MethodName := ⟨RX12, "article", "(IIII)I"⟩
abbrev cX12_pointer : ByteArray := prog_1_method_16_code
def yX12_pointer : MethodName := ⟨RX12, "pointer", "(IIII)I"⟩
abbrev cX12_plate : ByteArray := prog_1_method_17_code
def yX12_plate : MethodName := ⟨RX12, "plate", "(IIIII)I"⟩
abbrev cX12_areEntries : ByteArray := prog_1_method_18_code
def yX12_areEntries : MethodName := ⟨RX12, "areEntries", "(II)Z"⟩
abbrev cX12_newEntry : ByteArray := prog_1_method_19_code
def yX12_newEntry : MethodName := ⟨RX12, "newEntry", "(IIII)LBookOfAll$Entry;"⟩
abbrev cX12_sortIntoVolumes : ByteArray := prog_1_method_20_code
def yX12_sortIntoVolumes : MethodName := ⟨RX12, "sortIntoVolumes", "()V"⟩
abbrev cX12_volumeByKey : ByteArray := prog_1_method_21_code
def yX12_volumeByKey : MethodName := ⟨RX12, "volumeByKey", "(LBookOfAll$Entry;)I"⟩
abbrev cX12_entryAt : ByteArray := prog_1_method_22_code
def yX12_entryAt : MethodName := ⟨RX12, "entryAt", "(I)LBookOfAll$Entry;"⟩
abbrev cX12_entryOfKind : ByteArray := prog_1_method_23_code
def yX12_entryOfKind : MethodName := ⟨RX12, "entryOfKind", "(II)LBookOfAll$Entry;"⟩
abbrev cX12_points : ByteArray := prog_1_method_24_code
def yX12_points : MethodName := ⟨RX12, "points", "(II)Z"⟩
abbrev cX12_strike : ByteArray := prog_1_method_25_code
def yX12_strike : MethodName := ⟨RX12, "strike", "(I)Z"⟩
abbrev cX12_later : ByteArray := prog_1_method_26_code
def yX12_later : MethodName := ⟨RX12, "later", "(I)Z"⟩
abbrev cX12_sendAway : ByteArray := prog_1_method_27_code
def yX12_sendAway : MethodName := ⟨RX12, "sendAway", "(II)Z"⟩
abbrev cX12_isLater : ByteArray := prog_1_method_28_code
def yX12_isLater : MethodName := ⟨RX12, "isLater", "(LBookOfAll$Entry;)Z"⟩
abbrev cX12_isStruck : ByteArray := prog_1_method_29_code
def yX12_isStruck : MethodName := ⟨RX12, "isStruck", "(LBookOfAll$Entry;)Z"⟩
abbrev cX12_standing : ByteArray := prog_1_method_30_code
def yX12_standing : MethodName := ⟨RX12, "standing", "(LBookOfAll$Entry;)I"⟩
abbrev cX12_volume : ByteArray := prog_1_method_31_code
def yX12_volume : MethodName := ⟨RX12, "volume", "(I)I"⟩
abbrev cX12_at : ByteArray := prog_1_method_32_code
def yX12_at : MethodName := ⟨RX12, "at", "(II)I"⟩
abbrev cX12_arrange : ByteArray := prog_1_method_33_code
def yX12_arrange : MethodName := ⟨RX12, "arrange", "(I)V"⟩
abbrev cX12_insertIntoRow : ByteArray := prog_1_method_34_code
def yX12_insertIntoRow : MethodName := ⟨RX12, "insertIntoRow", "(LBookOfAll$Entry;)V"⟩
abbrev cX12_inRow : ByteArray := prog_1_method_35_code
def yX12_inRow : MethodName := ⟨RX12, "inRow", "(I)LBookOfAll$Entry;"⟩
abbrev cX12_why : ByteArray := prog_1_method_36_code
def yX12_why : MethodName := ⟨RX12, "why", "(II)I"⟩
abbrev cX12_hand : ByteArray := prog_1_method_37_code
def yX12_hand : MethodName := ⟨RX12, "hand", "(III)I"⟩
abbrev cX12_handAt : ByteArray := prog_1_method_38_code
def yX12_handAt : MethodName := ⟨RX12, "handAt", "(I)LBookOfAll$Hand;"⟩
abbrev cX12_livingHandAt : ByteArray := prog_1_method_39_code
def yX12_livingHandAt : MethodName := ⟨RX12, "livingHandAt", "(I)LBookOfAll$Hand;"⟩
abbrev cX12_enemies : ByteArray := prog_1_method_40_code
def yX12_enemies : MethodName := ⟨RX12, "enemies", "(II)Z"⟩
abbrev cX12_give : ByteArray := prog_1_method_41_code
def yX12_give : MethodName := ⟨RX12, "give", "(II)Z"⟩
abbrev cX12_mayTake : ByteArray := prog_1_method_42_code
def yX12_mayTake : MethodName := ⟨RX12, "mayTake", "(LBookOfAll$Entry;I)Z"⟩
abbrev cX12_valueFor : ByteArray := prog_1_method_43_code
def yX12_valueFor : MethodName := ⟨RX12, "valueFor", "(ILBookOfAll$Entry;I)I"⟩
abbrev cX12_ask : ByteArray := prog_1_method_44_code
def yX12_ask : MethodName := ⟨RX12, "ask", "(LBookOfAll$Entry;II)V"⟩
abbrev cX12_pointersTo : ByteArray := prog_1_method_45_code
def yX12_pointersTo : MethodName := ⟨RX12, "pointersTo", "(I)I"⟩
abbrev cX12_unfinished : ByteArray := prog_1_method_46_code
def yX12_unfinished : MethodName := ⟨RX12, "unfinished", "(I)I"⟩
abbrev cX12_line : ByteArray := prog_1_method_47_code
def yX12_line : MethodName := ⟨RX12, "line", "(III)I"⟩
abbrev cX12_canLean : ByteArray := prog_1_method_48_code
def yX12_canLean : MethodName := ⟨RX12, "canLean", "(I)Z"⟩
abbrev cX12_lean : ByteArray := prog_1_method_49_code
def yX12_lean : MethodName := ⟨RX12, "lean", "(LBookOfAll$Line;I)V"⟩
abbrev cX12_lineAt : ByteArray := prog_1_method_50_code
def yX12_lineAt : MethodName := ⟨RX12, "lineAt", "(I)LBookOfAll$Line;"⟩
abbrev cX12_die : ByteArray := prog_1_method_51_code
def yX12_die : MethodName := ⟨RX12, "die", "(I)I"⟩
abbrev cX12_hangs : ByteArray := prog_1_method_52_code
def yX12_hangs : MethodName := ⟨RX12, "hangs", "(LBookOfAll$Entry;)Z"⟩
abbrev cX12_takers : ByteArray := prog_1_method_53_code
def yX12_takers : MethodName := ⟨RX12, "takers", "(I)I"⟩
abbrev cX12_tell : ByteArray := prog_1_method_54_code
def yX12_tell : MethodName := ⟨RX12, "tell", "(III)Z"⟩
abbrev cX12_known : ByteArray := prog_1_method_55_code
def yX12_known : MethodName := ⟨RX12, "known", "(III)I"⟩
abbrev cX12_stale : ByteArray := prog_1_method_56_code
def yX12_stale : MethodName := ⟨RX12, "stale", "(II)Z"⟩
abbrev cX12_isStale : ByteArray := prog_1_method_57_code
def yX12_isStale : MethodName := ⟨RX12, "isStale", "(LBookOfAll$Line;I)Z"⟩
abbrev cX12_stales : ByteArray := prog_1_method_58_code
def yX12_stales : MethodName := ⟨RX12, "stales", "(I)I"⟩
abbrev cX12_isSetLine : ByteArray := prog_1_method_59_code
def yX12_isSetLine : MethodName := ⟨RX12, "isSetLine", "(LBookOfAll$Line;)Z"⟩
abbrev cX12_mend : ByteArray := prog_1_method_60_code
def yX12_mend : MethodName := ⟨RX12, "mend", "(I)I"⟩
abbrev cX12_erratum : ByteArray := prog_1_method_61_code
def yX12_erratum : MethodName := ⟨RX12, "erratum", "(III)I"⟩
abbrev cX12_misses : ByteArray := prog_1_method_62_code
def yX12_misses : MethodName := ⟨RX12, "misses", "(I)I"⟩
abbrev cX12_told : ByteArray := prog_1_method_63_code
def yX12_told : MethodName := ⟨RX12, "told", "(II)I"⟩
abbrev cX12_set : ByteArray := prog_1_method_64_code
def yX12_set : MethodName := ⟨RX12, "set", "(I)I"⟩
abbrev cX12_rowMayBeSet : ByteArray := prog_1_method_65_code
def yX12_rowMayBeSet : MethodName := ⟨RX12, "rowMayBeSet", "()Z"⟩
abbrev cX12_lay : ByteArray := prog_1_method_66_code
def yX12_lay : MethodName := ⟨RX12, "lay", "(LBookOfAll$Volume;I)V"⟩
abbrev cX12_linesInRow : ByteArray := prog_1_method_67_code
def yX12_linesInRow : MethodName := ⟨RX12, "linesInRow", "()I"⟩
abbrev cX12_layLines : ByteArray := prog_1_method_68_code
def yX12_layLines : MethodName := ⟨RX12, "layLines", "(LBookOfAll$Volume;LBookOfAll$Entry;)V"⟩
abbrev cX12_takenLines : ByteArray := prog_1_method_69_code
def yX12_takenLines : MethodName := ⟨RX12, "takenLines", "(LBookOfAll$Entry;)I"⟩
abbrev cX12_pageOf : ByteArray := prog_1_method_70_code
def yX12_pageOf : MethodName := ⟨RX12, "pageOf", "(I)I"⟩
abbrev cX12_page : ByteArray := prog_1_method_71_code
def yX12_page : MethodName := ⟨RX12, "page", "(I)I"⟩
abbrev cX12_promise : ByteArray := prog_1_method_72_code
def yX12_promise : MethodName := ⟨RX12, "promise", "(I)I"⟩
abbrev cX12_isAway : ByteArray := prog_1_method_73_code
def yX12_isAway : MethodName := ⟨RX12, "isAway", "(LBookOfAll$Entry;)Z"⟩
abbrev cX12_endOf : ByteArray := prog_1_method_74_code
def yX12_endOf : MethodName := ⟨RX12, "endOf", "(LBookOfAll$Entry;)LBookOfAll$Entry;"⟩
abbrev cX12_isBrokenOnTheWay : ByteArray := prog_1_method_75_code
def yX12_isBrokenOnTheWay : MethodName := ⟨RX12, "isBrokenOnTheWay", "(LBookOfAll$Entry;)Z"⟩
abbrev cX12_ends : ByteArray := prog_1_method_76_code
def yX12_ends : MethodName := ⟨RX12, "ends", "(I)I"⟩
abbrev cX12_promised : ByteArray := prog_1_method_77_code
def yX12_promised : MethodName := ⟨RX12, "promised", "(I)I"⟩
abbrev cX12_subscribe : ByteArray := prog_1_method_78_code
def yX12_subscribe : MethodName := ⟨RX12, "subscribe", "(III)Z"⟩
abbrev cX12_isSubscriber : ByteArray := prog_1_method_79_code
def yX12_isSubscriber : MethodName := ⟨RX12, "isSubscriber", "(I)Z"⟩
abbrev cX12_owed : ByteArray := prog_1_method_80_code
def yX12_owed : MethodName := ⟨RX12, "owed", "(II)I"⟩
abbrev cX12_lengths : ByteArray := prog_1_method_81_code
def yX12_lengths : MethodName := ⟨RX12, "lengths", "(II)I"⟩
abbrev cX12_length : ByteArray := prog_1_method_82_code
def yX12_length : MethodName := ⟨RX12, "length", "(II)I"⟩
abbrev cX12_fit : ByteArray := prog_1_method_83_code
def yX12_fit : MethodName := ⟨RX12, "fit", "(II)Z"⟩
abbrev cX12_addToFitting : ByteArray := prog_1_method_84_code
def yX12_addToFitting : MethodName := ⟨RX12, "addToFitting", "(LBookOfAll$Entry;)V"⟩
abbrev cX12_lengthWithin : ByteArray := prog_1_method_85_code
def yX12_lengthWithin : MethodName := ⟨RX12, "lengthWithin", "(I)I"⟩
abbrev cX12_giving : ByteArray := prog_1_method_86_code
def yX12_giving : MethodName := ⟨RX12, "giving", "(III)I"⟩
abbrev cX12_given : ByteArray := prog_1_method_87_code
def yX12_given : MethodName := ⟨RX12, "given", "(IIII)I"⟩
abbrev cX12_canGive : ByteArray := prog_1_method_88_code
def yX12_canGive : MethodName := ⟨RX12, "canGive", "(III)Z"⟩
abbrev cX12_addHands : ByteArray := prog_1_method_89_code
def yX12_addHands : MethodName := ⟨RX12, "addHands", "(II)Z"⟩
abbrev cX12_addArticles : ByteArray := prog_1_method_90_code
def yX12_addArticles : MethodName := ⟨RX12, "addArticles", "(I)Z"⟩
abbrev cX12_index : ByteArray := prog_1_method_91_code
def yX12_index : MethodName := ⟨RX12, "index", "(III)I"⟩
abbrev cX12_steal : ByteArray := prog_1_method_92_code
def yX12_steal : MethodName := ⟨RX12, "steal", "(I)I"⟩
abbrev cX12_forget : ByteArray := prog_1_method_93_code
def yX12_forget : MethodName := ⟨RX12, "forget", "()I"⟩
abbrev cX12_thief : ByteArray := prog_1_method_94_code
def yX12_thief : MethodName := ⟨RX12, "thief", "(II)I"⟩
abbrev cX12_is : ByteArray := prog_1_method_95_code
def yX12_is : MethodName := ⟨RX12, "is", "(II)I"⟩
abbrev cX12_ofArticle : ByteArray := prog_1_method_96_code
def yX12_ofArticle : MethodName := ⟨RX12, "ofArticle", "(LBookOfAll$Entry;I)I"⟩
abbrev cX12_count : ByteArray := prog_1_method_97_code
def yX12_count : MethodName := ⟨RX12, "count", "(I)I"⟩
abbrev cX12_payOfAll : ByteArray := prog_1_method_98_code
def yX12_payOfAll : MethodName := ⟨RX12, "payOfAll", "()I"⟩
abbrev cX12_countOfHand : ByteArray := prog_1_method_99_code
def yX12_countOfHand : MethodName := ⟨RX12, "countOfHand", "(I)I"⟩
def RX13 : String := "BookOfAllModel"
def TX13 : u_T := fun k => match k with
  | 0 => ("BookOfAllModel", "text", "[B", true)
  | 1 => ("BookOfAllModel", "size", "I", false)
  | 2 => ("BookOfAllModel", "at", "I", false)
  | 3 => ("BookOfAllModel", "token", "I", false)
  | 4 => ("BookOfAllModel", "tokenAt", "I", false)
  | 5 => ("BookOfAllModel", "tokenValue", "I", false)
  | 6 => ("BookOfAllModel", "toCome", "[I", true)
  | 7 => ("BookOfAllModel", "coming", "I", false)
  | 8 => ("BookOfAllModel", "deep", "I", false)
  | 9 => ("BookOfAllModel", "slot", "I", false)
  | 10 => ("BookOfAllModel", "does", "[I", true)
  | 11 => ("BookOfAllModel", "doesWith", "[I", true)
  | 12 => ("BookOfAllModel", "doing", "I", false)
  | 13 => ("BookOfAllModel", "slotBegin", "[I", true)
  | 14 => ("BookOfAllModel", "slotEnd", "[I", true)
  | 15 => ("BookOfAllModel", "skips", "I", false)
  | 16 => ("BookOfAllModel", "skipAt", "[I", true)
  | 17 => ("BookOfAllModel", "skipLong", "[I", true)
  | 18 => ("BookOfAllModel", "sheets", "I", false)
  | 19 => ("BookOfAllModel", "codes", "[I", true)
  | 20 => ("BookOfAllModel", "codesWith", "[I", true)
  | 21 => ("BookOfAllModel", "sheetBegin", "[I", true)
  | 22 => ("BookOfAllModel", "sheetEnd", "[I", true)
  | 23 => ("BookOfAllModel", "sheetSkips", "[I", true)
  | 24 => ("BookOfAllModel", "skipText", "[B", true)
  | 25 => ("BookOfAllModel", "skipSize", "[I", true)
  | 26 => ("BookOfAllModel", "forced", "I", false)
  | 27 => ("BookOfAllModel", "forcedSheet", "[I", true)
  | 28 => ("BookOfAllModel", "forcedFor", "[I", true)
  | 29 => ("BookOfAllModel", "forcedIn", "[I", true)
  | 30 => ("BookOfAllModel", "now", "I", false)
  | 31 => ("BookOfAllModel", "bounds", "[I", true)
  | 32 => ("BookOfAllModel", "isSet", "[Z", true)
  | 33 => ("BookOfAllModel", "setIn", "[I", true)
  | 34 => ("BookOfAllModel", "setMany", "[I", true)
  | 35 => ("BookOfAllModel", "setOrder", "[I", true)
  | 36 => ("BookOfAllModel", "setLines", "[I", true)
  | 37 => ("BookOfAllModel", "entries", "I", false)
  | 38 => ("BookOfAllModel", "heading", "[B", true)
  | 39 => ("BookOfAllModel", "headingLong", "[I", true)
  | 40 => ("BookOfAllModel", "kind", "[I", true)
  | 41 => ("BookOfAllModel", "sort", "[I", true)
  | 42 => ("BookOfAllModel", "field", "[I", true)
  | 43 => ("BookOfAllModel", "asked", "[I", true)
  | 44 => ("BookOfAllModel", "leads", "[I", true)
  | 45 => ("BookOfAllModel", "givenTo", "[I", true)
  | 46 => ("BookOfAllModel", "isStruck", "[Z", true)
  | 47 => ("BookOfAllModel", "isLater", "[Z", true)
  | 48 => ("BookOfAllModel", "setWith", "[I", true)
  | 49 => ("BookOfAllModel", "pageOf", "[I", true)
  | 50 => ("BookOfAllModel", "hands", "I", false)
  | 51 => ("BookOfAllModel", "fields", "[I", true)
  | 52 => ("BookOfAllModel", "skill", "[I", true)
  | 53 => ("BookOfAllModel", "born", "[I", true)
  | 54 => ("BookOfAllModel", "isDead", "[Z", true)
  | 55 => ("BookOfAllModel", "areEnemies", "[Z", true)
  | 56 => ("BookOfAllModel", "lines", "I", false)
  | 57 => ("BookOfAllModel", "lineOf", "[I", true)
  | 58 => ("BookOfAllModel", "lineHand", "[I", true)
  | 59 => ("BookOfAllModel", "lineFact", "[I", true)
  | 60 => ("BookOfAllModel", "lineOn", "[I", true)
  | 61 => ("BookOfAllModel", "lineKeeps", "[I", true)
  | 62 => ("BookOfAllModel", "lineTerm", "[I", true)
  | 63 => ("BookOfAllModel", "linePay", "[I", true)
  | 64 => ("BookOfAllModel", "linePage", "[I", true)
  | 65 => ("BookOfAllModel", "linePlace", "[I", true)
  | 66 => ("BookOfAllModel", "told", "I", false)
  | 67 => ("BookOfAllModel", "toldFact", "[I", true)
  | 68 => ("BookOfAllModel", "toldValue", "[I", true)
  | 69 => ("BookOfAllModel", "toldBy", "[I", true)
  | 70 => ("BookOfAllModel", "toldIn", "[I", true)
  | 71 => ("BookOfAllModel", "errata", "I", false)
  | 72 => ("BookOfAllModel", "errorLine", "[I", true)
  | 73 => ("BookOfAllModel", "errorIs", "[I", true)
  | 74 => ("BookOfAllModel", "errorShould", "[I", true)
  | 75 => ("BookOfAllModel", "errorIn", "[I", true)
  | 76 => ("BookOfAllModel", "subscribedFrom", "[I", true)
  | 77 => ("BookOfAllModel", "subscribedFor", "[I", true)
  | 78 => ("BookOfAllModel", "stolen", "I", false)
  | 79 => ("BookOfAllModel", "stole", "[I", true)
  | 80 => ("BookOfAllModel", "names", "[I", true)
  | 81 => ("BookOfAllModel", "heap", "[I", true)
  | 82 => ("BookOfAllModel", "keyOne", "[I", true)
  | 83 => ("BookOfAllModel", "keyTwo", "[I", true)
  | 84 => ("BookOfAllModel", "told12", "[B", true)
  | 85 => ("BookOfAllModel", "order", "[I", true)
  | 86 => ("BookOfAllModel", "missed", "I", false)
  | 87 => ("BookOfAllModel", "low", "[I", true)
  | 88 => ("BookOfAllModel", "high", "[I", true)
  | 89 => ("BookOfAllModel", "longs", "[I", true)
  | 90 => ("BookOfAllModel", "differs", "I", false)
  | 91 => ("BookOfAllModel", "few", "[I", true)
  | 92 => ("BookOfAllModel", "fewHands", "[I", true)
  | 93 => ("BookOfAllModel", "can", "[Z", true)
  | 94 => ("BookOfAllModel", "gets", "[I", true)
  | 95 => ("BookOfAllModel", "lacks", "[I", true)
  | 96 => ("BookOfAllModel", "fewMany", "I", false)
  | 97 => ("BookOfAllModel", "handMany", "I", false)
  | 98 => ("BookOfAllModel", "bestCode", "I", false)
  | 99 => ("BookOfAllModel", "bestMany", "I", false)
  | 100 => ("BookOfAllModel", "bestLines", "I", false)
  | 101 => ("BookOfAllModel", "laidLine", "[I", true)
  | 102 => ("BookOfAllModel", "changes", "[I", true)
  | _ => ("BookOfAllModel", "shared", "[I", true)
def tyX13 : Nat → FieldType := fun k => match k with
  | 0 => .array .byte
  | 1 => .int
  | 2 => .int
  | 3 => .int
  | 4 => .int
  | 5 => .int
  | 6 => .array .int
  | 7 => .int
  | 8 => .int
  | 9 => .int
  | 10 => .array .int
  | 11 => .array .int
  | 12 => .int
  | 13 => .array .int
  | 14 => .array .int
  | 15 => .int
  | 16 => .array .int
  | 17 => .array .int
  | 18 => .int
  | 19 => .array .int
  | 20 => .array .int
  | 21 => .array .int
  | 22 => .array .int
  | 23 => .array .int
  | 24 => .array .byte
  | 25 => .array .int
  | 26 => .int
  | 27 => .array .int
  | 28 => .array .int
  | 29 => .array .int
  | 30 => .int
  | 31 => .array .int
  | 32 => .array .boolean
  | 33 => .array .int
  | 34 => .array .int
  | 35 => .array .int
  | 36 => .array .int
  | 37 => .int
  | 38 => .array .byte
  | 39 => .array .int
  | 40 => .array .int
  | 41 => .array .int
  | 42 => .array .int
  | 43 => .array .int
  | 44 => .array .int
  | 45 => .array .int
  | 46 => .array .boolean
  | 47 => .array .boolean
  | 48 => .array .int
  | 49 => .array .int
  | 50 => .int
  | 51 => .array .int
  | 52 => .array .int
  | 53 => .array .int
  | 54 => .array .boolean
  | 55 => .array .boolean
  | 56 => .int
  | 57 => .array .int
  | 58 => .array .int
  | 59 => .array .int
  | 60 => .array .int
  | 61 => .array .int
  | 62 => .array .int
  | 63 => .array .int
  | 64 => .array .int
  | 65 => .array .int
  | 66 => .int
  | 67 => .array .int
  | 68 => .array .int
  | 69 => .array .int
  | 70 => .array .int
  | 71 => .int
  | 72 => .array .int
  | 73 => .array .int
  | 74 => .array .int
  | 75 => .array .int
  | 76 => .array .int
  | 77 => .array .int
  | 78 => .int
  | 79 => .array .int
  | 80 => .array .int
  | 81 => .array .int
  | 82 => .array .int
  | 83 => .array .int
  | 84 => .array .byte
  | 85 => .array .int
  | 86 => .int
  | 87 => .array .int
  | 88 => .array .int
  | 89 => .array .int
  | 90 => .int
  | 91 => .array .int
  | 92 => .array .int
  | 93 => .array .boolean
  | 94 => .array .int
  | 95 => .array .int
  | 96 => .int
  | 97 => .int
  | 98 => .int
  | 99 => .int
  | 100 => .int
  | 101 => .array .int
  | 102 => .array .int
  | _ => .array .int
theorem nmX13 : ∀ a, a < 104 → ∀ b, b < 104 → a ≠ b → (TX13 a).2.1 ≠ (TX13 b).2.1 := by decide +kernel
theorem tyX13_ok : ∀ k, k < 104 → parseFieldDescriptor (TX13 k).2.2.1 = some (tyX13 k) := by decide +kernel
abbrev cX13_init : ByteArray := prog_15_method_1_code
def yX13_init : MethodName := ⟨RX13, "<init>", "()V"⟩
abbrev cX13_in : ByteArray := prog_15_method_2_code
def yX13_in : MethodName := ⟨RX13, "in", "(III)Z"⟩
abbrev cX13_near : ByteArray := prog_15_method_3_code
def yX13_near : MethodName := ⟨RX13, "near", "(J)I"⟩
abbrev cX13_feed : ByteArray := prog_15_method_4_code
def yX13_feed : MethodName := ⟨RX13, "feed", "(IIIII)I"⟩
abbrev cX13_end : ByteArray := prog_15_method_5_code
def yX13_end : MethodName := ⟨RX13, "end", "(I)Z"⟩
abbrev cX13_isLetter : ByteArray := prog_15_method_6_code
def yX13_isLetter : MethodName := ⟨RX13, "isLetter", "(I)Z"⟩
abbrev cX13_isDigit : ByteArray := prog_15_method_7_code
def yX13_isDigit : MethodName := ⟨RX13, "isDigit", "(I)Z"⟩
abbrev cX13_wordAt : ByteArray := prog_15_method_8_code
def yX13_wordAt : MethodName := ⟨RX13, "wordAt", "(II)I"⟩
abbrev cX13_next : ByteArray := prog_15_method_9_code
def yX13_next : MethodName := ⟨RX13, "next", "()V"⟩
abbrev cX13_isSign : ByteArray := prog_15_method_10_code
def yX13_isSign : MethodName := ⟨RX13, "isSign", "(I)Z"⟩
abbrev cX13_isWord : ByteArray := prog_15_method_11_code
def yX13_isWord : MethodName := ⟨RX13, "isWord", "(I)Z"⟩
abbrev cX13_push : ByteArray := prog_15_method_12_code
def yX13_push : MethodName := ⟨RX13, "push", "(I)V"⟩
abbrev cX13_emits : ByteArray := prog_15_method_13_code
def yX13_emits : MethodName := ⟨RX13, "emits", "(II)V"⟩
abbrev cX13_takes : ByteArray := prog_15_method_14_code
def yX13_takes : MethodName := ⟨RX13, "takes", "()Z"⟩
abbrev cX13_deeper : ByteArray := prog_15_method_15_code
def yX13_deeper : MethodName := ⟨RX13, "deeper", "()Z"⟩
abbrev cX13_steps : ByteArray := prog_15_method_16_code
def yX13_steps : MethodName := ⟨RX13, "steps", "(I)Z"⟩
abbrev cX13_both : ByteArray := prog_15_method_17_code
def yX13_both : MethodName := ⟨RX13, "both", "(II)Z"⟩
abbrev cX13_more : ByteArray := prog_15_method_18_code
def yX13_more : MethodName := ⟨RX13, "more", "(IIIIII)Z"⟩
abbrev cX13_moreWords : ByteArray := prog_15_method_19_code
def yX13_moreWords : MethodName := ⟨RX13, "moreWords", "(IIII)Z"⟩
abbrev cX13_clauses : ByteArray := prog_15_method_20_code
def yX13_clauses : MethodName := ⟨RX13, "clauses", "()Z"⟩
abbrev cX13_begins : ByteArray := prog_15_method_21_code
def yX13_begins : MethodName := ⟨RX13, "begins", "(II)Z"⟩
abbrev cX13_skip : ByteArray := prog_15_method_22_code
def yX13_skip : MethodName := ⟨RX13, "skip", "()Z"⟩
abbrev cX13_choice : ByteArray := prog_15_method_23_code
def yX13_choice : MethodName := ⟨RX13, "choice", "(I)Z"⟩
abbrev cX13_factor : ByteArray := prog_15_method_24_code
def yX13_factor : MethodName := ⟨RX13, "factor", "()Z"⟩
abbrev cX13_holds : ByteArray := prog_15_method_25_code
def yX13_holds : MethodName := ⟨RX13, "holds", "()Z"⟩
abbrev cX13_compares : ByteArray := prog_15_method_26_code
def yX13_compares : MethodName := ⟨RX13, "compares", "()Z"⟩
abbrev cX13_reads : ByteArray := prog_15_method_27_code
def yX13_reads : MethodName := ⟨RX13, "reads", "()I"⟩
abbrev cX13_fault : ByteArray := prog_15_method_28_code
def yX13_fault : MethodName := ⟨RX13, "fault", "()I"⟩
abbrev cX13_sheet : ByteArray := prog_15_method_29_code
def yX13_sheet : MethodName := ⟨RX13, "sheet", "()I"⟩
abbrev cX13_isVolume : ByteArray := prog_15_method_30_code
def yX13_isVolume : MethodName := ⟨RX13, "isVolume", "(I)Z"⟩
abbrev cX13_force : ByteArray := prog_15_method_31_code
def yX13_force : MethodName := ⟨RX13, "force", "(II)I"⟩
abbrev cX13_inForce : ByteArray := prog_15_method_32_code
def yX13_inForce : MethodName := ⟨RX13, "inForce", "(III)I"⟩
abbrev cX13_rule : ByteArray := prog_15_method_33_code
def yX13_rule : MethodName := ⟨RX13, "rule", "(III)I"⟩
abbrev cX13_reckoned : ByteArray := prog_15_method_34_code
def yX13_reckoned : MethodName := ⟨RX13, "reckoned", "(II)I"⟩
abbrev cX13_of : ByteArray := prog_15_method_35_code
def yX13_of : MethodName := ⟨RX13, "of", "(III)I"⟩
abbrev cX13_without : ByteArray := prog_15_method_36_code
def yX13_without : MethodName := ⟨RX13, "without", "(I)I"⟩
abbrev cX13_tells : ByteArray := prog_15_method_37_code
def yX13_tells : MethodName := ⟨RX13, "tells", "(III)I"⟩
abbrev cX13_isSkipped : ByteArray := prog_15_method_38_code
def yX13_isSkipped : MethodName := ⟨RX13, "isSkipped", "(III)Z"⟩
abbrev cX13_key : ByteArray := prog_15_method_39_code
def yX13_key : MethodName := ⟨RX13, "key", "(III[I)I"⟩
abbrev cX13_compared : ByteArray := prog_15_method_40_code
def yX13_compared : MethodName := ⟨RX13, "compared", "(IIII)I"⟩
abbrev cX13_isAhead : ByteArray := prog_15_method_41_code
def yX13_isAhead : MethodName := ⟨RX13, "isAhead", "(IIII)Z"⟩
abbrev cX13_isEntry : ByteArray := prog_15_method_42_code
def yX13_isEntry : MethodName := ⟨RX13, "isEntry", "(I)Z"⟩
abbrev cX13_isArticle : ByteArray := prog_15_method_43_code
def yX13_isArticle : MethodName := ⟨RX13, "isArticle", "(I)Z"⟩
abbrev cX13_go : ByteArray := prog_15_method_44_code
def yX13_go : MethodName := ⟨RX13, "go", "(I)I"⟩
abbrev cX13_bound : ByteArray := prog_15_method_45_code
def yX13_bound : MethodName := ⟨RX13, "bound", "(II)Z"⟩
abbrev cX13_headingOf : ByteArray := prog_15_method_46_code
def yX13_headingOf : MethodName := ⟨RX13, "headingOf", "(III)I"⟩
abbrev cX13_newEntry : ByteArray := prog_15_method_47_code
def yX13_newEntry : MethodName := ⟨RX13, "newEntry", "(II)I"⟩
abbrev cX13_article : ByteArray := prog_15_method_48_code
def yX13_article : MethodName := ⟨RX13, "article", "(IIII)I"⟩
abbrev cX13_pointer : ByteArray := prog_15_method_49_code
def yX13_pointer : MethodName := ⟨RX13, "pointer", "(IIII)I"⟩
abbrev cX13_plate : ByteArray := prog_15_method_50_code
def yX13_plate : MethodName := ⟨RX13, "plate", "(IIIII)I"⟩
abbrev cX13_points : ByteArray := prog_15_method_51_code
def yX13_points : MethodName := ⟨RX13, "points", "(II)Z"⟩
abbrev cX13_byKey : ByteArray := prog_15_method_52_code
def yX13_byKey : MethodName := ⟨RX13, "byKey", "(I)I"⟩
abbrev cX13_volumeOf : ByteArray := prog_15_method_53_code
def yX13_volumeOf : MethodName := ⟨RX13, "volumeOf", "(I)I"⟩
abbrev cX13_volume : ByteArray := prog_15_method_54_code
def yX13_volume : MethodName := ⟨RX13, "volume", "(I)I"⟩
abbrev cX13_canGo : ByteArray := prog_15_method_55_code
def yX13_canGo : MethodName := ⟨RX13, "canGo", "(I)Z"⟩
abbrev cX13_strike : ByteArray := prog_15_method_56_code
def yX13_strike : MethodName := ⟨RX13, "strike", "(I)Z"⟩
abbrev cX13_later : ByteArray := prog_15_method_57_code
def yX13_later : MethodName := ⟨RX13, "later", "(I)Z"⟩
abbrev cX13_orders : ByteArray := prog_15_method_58_code
def yX13_orders : MethodName := ⟨RX13, "orders", "(I)I"⟩
abbrev cX13_at : ByteArray := prog_15_method_59_code
def yX13_at : MethodName := ⟨RX13, "at", "(II)I"⟩
abbrev cX13_why : ByteArray := prog_15_method_60_code
def yX13_why : MethodName := ⟨RX13, "why", "(II)I"⟩
abbrev cX13_isHand : ByteArray := prog_15_method_61_code
def yX13_isHand : MethodName := ⟨RX13, "isHand", "(I)Z"⟩
abbrev cX13_hand : ByteArray := prog_15_method_62_code
def yX13_hand : MethodName := ⟨RX13, "hand", "(III)I"⟩
abbrev cX13_enemies : ByteArray := prog_15_method_63_code
def yX13_enemies : MethodName := ⟨RX13, "enemies", "(II)Z"⟩
abbrev cX13_linesOf : ByteArray := prog_15_method_64_code
def yX13_linesOf : MethodName := ⟨RX13, "linesOf", "(I)I"⟩
abbrev cX13_isDone : ByteArray := prog_15_method_65_code
def yX13_isDone : MethodName := ⟨RX13, "isDone", "(I)Z"⟩
abbrev cX13_factsOf : ByteArray := prog_15_method_66_code
def yX13_factsOf : MethodName := ⟨RX13, "factsOf", "(I)I"⟩
abbrev cX13_lateOf : ByteArray := prog_15_method_67_code
def yX13_lateOf : MethodName := ⟨RX13, "lateOf", "(I)I"⟩
abbrev cX13_asks : ByteArray := prog_15_method_68_code
def yX13_asks : MethodName := ⟨RX13, "asks", "(II)V"⟩
abbrev cX13_mayBeGiven : ByteArray := prog_15_method_69_code
def yX13_mayBeGiven : MethodName := ⟨RX13, "mayBeGiven", "(II)Z"⟩
abbrev cX13_give : ByteArray := prog_15_method_70_code
def yX13_give : MethodName := ⟨RX13, "give", "(II)Z"⟩
abbrev cX13_knownOf : ByteArray := prog_15_method_71_code
def yX13_knownOf : MethodName := ⟨RX13, "knownOf", "(II)I"⟩
abbrev cX13_valueOf : ByteArray := prog_15_method_72_code
def yX13_valueOf : MethodName := ⟨RX13, "valueOf", "(II)I"⟩
abbrev cX13_line : ByteArray := prog_15_method_73_code
def yX13_line : MethodName := ⟨RX13, "line", "(III)I"⟩
abbrev cX13_hangs : ByteArray := prog_15_method_74_code
def yX13_hangs : MethodName := ⟨RX13, "hangs", "(I)Z"⟩
abbrev cX13_die : ByteArray := prog_15_method_75_code
def yX13_die : MethodName := ⟨RX13, "die", "(I)I"⟩
abbrev cX13_takers : ByteArray := prog_15_method_76_code
def yX13_takers : MethodName := ⟨RX13, "takers", "(I)I"⟩
abbrev cX13_tell : ByteArray := prog_15_method_77_code
def yX13_tell : MethodName := ⟨RX13, "tell", "(III)Z"⟩
abbrev cX13_known : ByteArray := prog_15_method_78_code
def yX13_known : MethodName := ⟨RX13, "known", "(III)I"⟩
abbrev cX13_isLine : ByteArray := prog_15_method_79_code
def yX13_isLine : MethodName := ⟨RX13, "isLine", "(I)Z"⟩
abbrev cX13_isSetLine : ByteArray := prog_15_method_80_code
def yX13_isSetLine : MethodName := ⟨RX13, "isSetLine", "(I)Z"⟩
abbrev cX13_keeps : ByteArray := prog_15_method_81_code
def yX13_keeps : MethodName := ⟨RX13, "keeps", "(III)I"⟩
abbrev cX13_isStale : ByteArray := prog_15_method_82_code
def yX13_isStale : MethodName := ⟨RX13, "isStale", "(II)Z"⟩
abbrev cX13_stale : ByteArray := prog_15_method_83_code
def yX13_stale : MethodName := ⟨RX13, "stale", "(II)Z"⟩
abbrev cX13_stales : ByteArray := prog_15_method_84_code
def yX13_stales : MethodName := ⟨RX13, "stales", "(I)I"⟩
abbrev cX13_mend : ByteArray := prog_15_method_85_code
def yX13_mend : MethodName := ⟨RX13, "mend", "(I)I"⟩
abbrev cX13_erratum : ByteArray := prog_15_method_86_code
def yX13_erratum : MethodName := ⟨RX13, "erratum", "(III)I"⟩
abbrev cX13_misses : ByteArray := prog_15_method_87_code
def yX13_misses : MethodName := ⟨RX13, "misses", "(I)I"⟩
abbrev cX13_told : ByteArray := prog_15_method_88_code
def yX13_told : MethodName := ⟨RX13, "told", "(II)I"⟩
abbrev cX13_canBeSet : ByteArray := prog_15_method_89_code
def yX13_canBeSet : MethodName := ⟨RX13, "canBeSet", "(II)Z"⟩
abbrev cX13_set : ByteArray := prog_15_method_90_code
def yX13_set : MethodName := ⟨RX13, "set", "(I)I"⟩
abbrev cX13_page : ByteArray := prog_15_method_91_code
def yX13_page : MethodName := ⟨RX13, "page", "(I)I"⟩
abbrev cX13_isGone : ByteArray := prog_15_method_92_code
def yX13_isGone : MethodName := ⟨RX13, "isGone", "(I)Z"⟩
abbrev cX13_endOf : ByteArray := prog_15_method_93_code
def yX13_endOf : MethodName := ⟨RX13, "endOf", "(I)I"⟩
abbrev cX13_ends : ByteArray := prog_15_method_94_code
def yX13_ends : MethodName := ⟨RX13, "ends", "(I)I"⟩
abbrev cX13_promise : ByteArray := prog_15_method_95_code
def yX13_promise : MethodName := ⟨RX13, "promise", "(I)I"⟩
abbrev cX13_promised : ByteArray := prog_15_method_96_code
def yX13_promised : MethodName := ⟨RX13, "promised", "(I)I"⟩
abbrev cX13_subscribe : ByteArray := prog_15_method_97_code
def yX13_subscribe : MethodName := ⟨RX13, "subscribe", "(III)Z"⟩
abbrev cX13_owed : ByteArray := prog_15_method_98_code
def yX13_owed : MethodName := ⟨RX13, "owed", "(II)I"⟩
abbrev cX13_bounded : ByteArray := prog_15_method_99_code
def yX13_bounded : MethodName := ⟨RX13, "bounded", "(I)I"⟩
abbrev cX13_bringsTo : ByteArray := prog_15_method_100_code
def yX13_bringsTo : MethodName := ⟨RX13, "bringsTo", "(II)I"⟩
abbrev cX13_lengths : ByteArray := prog_15_method_101_code
def yX13_lengths : MethodName := ⟨RX13, "lengths", "(II)I"⟩
abbrev cX13_length : ByteArray := prog_15_method_102_code
def yX13_length : MethodName := ⟨RX13, "length", "(II)I"⟩
abbrev cX13_gives : ByteArray := prog_15_method_103_code
def yX13_gives : MethodName := ⟨RX13, "gives", "(III)Z"⟩
abbrev cX13_way : ByteArray := prog_15_method_104_code
def yX13_way : MethodName := ⟨RX13, "way", "(II)V"⟩
abbrev cX13_giving : ByteArray := prog_15_method_105_code
def yX13_giving : MethodName := ⟨RX13, "giving", "(III)I"⟩
abbrev cX13_given : ByteArray := prog_15_method_106_code
def yX13_given : MethodName := ⟨RX13, "given", "(IIII)I"⟩
abbrev cX13_index : ByteArray := prog_15_method_107_code
def yX13_index : MethodName := ⟨RX13, "index", "(III)I"⟩
abbrev cX13_steal : ByteArray := prog_15_method_108_code
def yX13_steal : MethodName := ⟨RX13, "steal", "(I)I"⟩
abbrev cX13_forget : ByteArray := prog_15_method_109_code
def yX13_forget : MethodName := ⟨RX13, "forget", "()I"⟩
abbrev cX13_thief : ByteArray := prog_15_method_110_code
def yX13_thief : MethodName := ⟨RX13, "thief", "(II)I"⟩
abbrev cX13_laysOn : ByteArray := prog_15_method_111_code
def yX13_laysOn : MethodName := ⟨RX13, "laysOn", "(IIII)V"⟩
abbrev cX13_better : ByteArray := prog_15_method_112_code
def yX13_better : MethodName := ⟨RX13, "better", "(II)V"⟩
abbrev cX13_is : ByteArray := prog_15_method_113_code
def yX13_is : MethodName := ⟨RX13, "is", "(II)I"⟩
abbrev cX13_count : ByteArray := prog_15_method_114_code
def yX13_count : MethodName := ⟨RX13, "count", "(I)I"⟩
def RJ11 : String := "java/lang/Character"
def TJ11 : u_T := fun k => match k with
  | _ => ("", "", "", false)
def tyJ11 : Nat → FieldType := fun k => match k with
  | _ => .int
theorem nmJ11 : ∀ a, a < 0 → ∀ b, b < 0 → a ≠ b → (TJ11 a).2.1 ≠ (TJ11 b).2.1 := by decide +kernel
theorem tyJ11_ok : ∀ k, k < 0 → parseFieldDescriptor (TJ11 k).2.2.1 = some (tyJ11 k) := by decide +kernel
abbrev cJ11_isValidCodePoint_9a6ad : ByteArray := prog_16_method_11_code
def yJ11_isValidCodePoint_9a6ad : MethodName := ⟨RJ11, "isValidCodePoint", "(I)Z"⟩
abbrev cJ11_highSurrogate_5068e : ByteArray := prog_16_method_28_code
def yJ11_highSurrogate_5068e : MethodName := ⟨RJ11, "highSurrogate", "(I)C"⟩
abbrev cJ11_lowSurrogate_5068e : ByteArray := prog_16_method_29_code
def yJ11_lowSurrogate_5068e : MethodName := ⟨RJ11, "lowSurrogate", "(I)C"⟩
def RJx8e188 : String := "java/lang/Cloneable"
def TJx8e188 : u_T := fun k => match k with
  | _ => ("", "", "", false)
def tyJx8e188 : Nat → FieldType := fun k => match k with
  | _ => .int
theorem nmJx8e188 : ∀ a, a < 0 → ∀ b, b < 0 → a ≠ b → (TJx8e188 a).2.1 ≠ (TJx8e188 b).2.1 := by decide +kernel
theorem tyJx8e188_ok : ∀ k, k < 0 → parseFieldDescriptor (TJx8e188 k).2.2.1 = some (tyJx8e188 k) := by decide +kernel
def RJ6 : String := "java/lang/Integer"
def TJ6 : u_T := fun k => match k with
  | _ => ("", "", "", false)
def tyJ6 : Nat → FieldType := fun k => match k with
  | _ => .int
theorem nmJ6 : ∀ a, a < 0 → ∀ b, b < 0 → a ≠ b → (TJ6 a).2.1 ≠ (TJ6 b).2.1 := by decide +kernel
theorem tyJ6_ok : ∀ k, k < 0 → parseFieldDescriptor (TJ6 k).2.2.1 = some (tyJ6 k) := by decide +kernel
abbrev cJ6_numberOfTrailingZeros_0f7a4 : ByteArray := prog_18_method_48_code
def yJ6_numberOfTrailingZeros_0f7a4 : MethodName := ⟨RJ6, "numberOfTrailingZeros", "(I)I"⟩
abbrev cJ6_bitCount_0f7a4 : ByteArray := prog_18_method_49_code
def yJ6_bitCount_0f7a4 : MethodName := ⟨RJ6, "bitCount", "(I)I"⟩
def RJ13 : String := "java/lang/Long"
def TJ13 : u_T := fun k => match k with
  | _ => ("", "", "", false)
def tyJ13 : Nat → FieldType := fun k => match k with
  | _ => .int
theorem nmJ13 : ∀ a, a < 0 → ∀ b, b < 0 → a ≠ b → (TJ13 a).2.1 ≠ (TJ13 b).2.1 := by decide +kernel
theorem tyJ13_ok : ∀ k, k < 0 → parseFieldDescriptor (TJ13 k).2.2.1 = some (tyJ13 k) := by decide +kernel
abbrev cJ13_bitCount_95d88 : ByteArray := prog_19_method_50_code
def yJ13_bitCount_95d88 : MethodName := ⟨RJ13, "bitCount", "(J)I"⟩
def RJ9 : String := "java/lang/Math"
def TJ9 : u_T := fun k => match k with
  | _ => ("", "", "", false)
def tyJ9 : Nat → FieldType := fun k => match k with
  | _ => .int
theorem nmJ9 : ∀ a, a < 0 → ∀ b, b < 0 → a ≠ b → (TJ9 a).2.1 ≠ (TJ9 b).2.1 := by decide +kernel
theorem tyJ9_ok : ∀ k, k < 0 → parseFieldDescriptor (TJ9 k).2.2.1 = some (tyJ9 k) := by decide +kernel
abbrev cJ9_abs_0f7a4 : ByteArray := prog_20_method_59_code
def yJ9_abs_0f7a4 : MethodName := ⟨RJ9, "abs", "(I)I"⟩
abbrev cJ9_max_7cf53 : ByteArray := prog_20_method_65_code
def yJ9_max_7cf53 : MethodName := ⟨RJ9, "max", "(II)I"⟩
abbrev cJ9_max_f86c9 : ByteArray := prog_20_method_66_code
def yJ9_max_f86c9 : MethodName := ⟨RJ9, "max", "(JJ)J"⟩
abbrev cJ9_min_7cf53 : ByteArray := prog_20_method_69_code
def yJ9_min_7cf53 : MethodName := ⟨RJ9, "min", "(II)I"⟩
abbrev cJ9_min_f86c9 : ByteArray := prog_20_method_70_code
def yJ9_min_f86c9 : MethodName := ⟨RJ9, "min", "(JJ)J"⟩
def RJ0 : String := "java/lang/String"
def TJ0 : u_T := fun k => match k with
  | _ => ("", "", "", false)
def tyJ0 : Nat → FieldType := fun k => match k with
  | _ => .int
theorem nmJ0 : ∀ a, a < 0 → ∀ b, b < 0 → a ≠ b → (TJ0 a).2.1 ≠ (TJ0 b).2.1 := by decide +kernel
theorem tyJ0_ok : ∀ k, k < 0 → parseFieldDescriptor (TJ0 k).2.2.1 = some (tyJ0 k) := by decide +kernel
abbrev cJ0_length_8abf5 : ByteArray := prog_21_method_54_code
def yJ0_length_8abf5 : MethodName := ⟨RJ0, "length", "()I"⟩
abbrev cJ0_charAt_5068e : ByteArray := prog_21_method_56_code
def yJ0_charAt_5068e : MethodName := ⟨RJ0, "charAt", "(I)C"⟩
abbrev cJ0_indexOf_0f7a4 : ByteArray := prog_21_method_79_code
def yJ0_indexOf_0f7a4 : MethodName := ⟨RJ0, "indexOf", "(I)I"⟩
abbrev cJ0_indexOf_7cf53 : ByteArray := prog_21_method_80_code
def yJ0_indexOf_7cf53 : MethodName := ⟨RJ0, "indexOf", "(II)I"⟩
abbrev cJ0_coder_7d493 : ByteArray := prog_21_method_152_code
def yJ0_coder_7d493 : MethodName := ⟨RJ0, "coder", "()B"⟩
abbrev cJ0_isLatin1_aae02 : ByteArray := prog_21_method_154_code
def yJ0_isLatin1_aae02 : MethodName := ⟨RJ0, "isLatin1", "()Z"⟩
abbrev cJ0_checkIndex_df160 : ByteArray := prog_21_method_155_code
def yJ0_checkIndex_df160 : MethodName := ⟨RJ0, "checkIndex", "(II)V"⟩
abbrev cJ0_checkBoundsBeginEnd_23922 : ByteArray := prog_21_method_158_code
def yJ0_checkBoundsBeginEnd_23922 : MethodName := ⟨RJ0, "checkBoundsBeginEnd", "(III)V"⟩
def RJ1 : String := "java/lang/StringLatin1"
def TJ1 : u_T := fun k => match k with
  | _ => ("", "", "", false)
def tyJ1 : Nat → FieldType := fun k => match k with
  | _ => .int
theorem nmJ1 : ∀ a, a < 0 → ∀ b, b < 0 → a ≠ b → (TJ1 a).2.1 ≠ (TJ1 b).2.1 := by decide +kernel
theorem tyJ1_ok : ∀ k, k < 0 → parseFieldDescriptor (TJ1 k).2.2.1 = some (tyJ1 k) := by decide +kernel
abbrev cJ1_charAt_3b067 : ByteArray := prog_22_method_2_code
def yJ1_charAt_3b067 : MethodName := ⟨RJ1, "charAt", "([BI)C"⟩
abbrev cJ1_canEncode_9a6ad : ByteArray := prog_22_method_4_code
def yJ1_canEncode_9a6ad : MethodName := ⟨RJ1, "canEncode", "(I)Z"⟩
abbrev cJ1_indexOf_4cfef : ByteArray := prog_22_method_22_code
def yJ1_indexOf_4cfef : MethodName := ⟨RJ1, "indexOf", "([BIII)I"⟩
abbrev cJ1_indexOfChar_4cfef : ByteArray := prog_22_method_23_code
def yJ1_indexOfChar_4cfef : MethodName := ⟨RJ1, "indexOfChar", "([BIII)I"⟩
def RJ2 : String := "java/lang/StringUTF16"
def TJ2 : u_T := fun k => match k with
  | _ => ("", "", "", false)
def tyJ2 : Nat → FieldType := fun k => match k with
  | _ => .int
theorem nmJ2 : ∀ a, a < 0 → ∀ b, b < 0 → a ≠ b → (TJ2 a).2.1 ≠ (TJ2 b).2.1 := by decide +kernel
theorem tyJ2_ok : ∀ k, k < 0 → parseFieldDescriptor (TJ2 k).2.2.1 = some (tyJ2 k) := by decide +kernel
abbrev cJ2_getChar_3b067 : ByteArray := prog_23_method_5_code
def yJ2_getChar_3b067 : MethodName := ⟨RJ2, "getChar", "([BI)C"⟩
abbrev cJ2_length_9d52b : ByteArray := prog_23_method_6_code
def yJ2_length_9d52b : MethodName := ⟨RJ2, "length", "([B)I"⟩
abbrev cJ2_indexOf_4cfef : ByteArray := prog_23_method_40_code
def yJ2_indexOf_4cfef : MethodName := ⟨RJ2, "indexOf", "([BIII)I"⟩
abbrev cJ2_indexOfChar_4cfef : ByteArray := prog_23_method_47_code
def yJ2_indexOfChar_4cfef : MethodName := ⟨RJ2, "indexOfChar", "([BIII)I"⟩
abbrev cJ2_indexOfCharUnsafe_4cfef : ByteArray := prog_23_method_48_code
def yJ2_indexOfCharUnsafe_4cfef : MethodName := ⟨RJ2, "indexOfCharUnsafe", "([BIII)I"⟩
abbrev cJ2_indexOfSupplementary_4cfef : ByteArray := prog_23_method_49_code
def yJ2_indexOfSupplementary_4cfef : MethodName := ⟨RJ2, "indexOfSupplementary", "([BIII)I"⟩
abbrev cJ2_charAt_3b067 : ByteArray := prog_23_method_83_code
def yJ2_charAt_3b067 : MethodName := ⟨RJ2, "charAt", "([BI)C"⟩
abbrev cJ2_checkIndex_2214a : ByteArray := prog_23_method_91_code
def yJ2_checkIndex_2214a : MethodName := ⟨RJ2, "checkIndex", "(I[B)V"⟩
abbrev cJ2_checkBoundsBeginEnd_d044e : ByteArray := prog_23_method_93_code
def yJ2_checkBoundsBeginEnd_d044e : MethodName := ⟨RJ2, "checkBoundsBeginEnd", "(II[B)V"⟩
def RJ10 : String := "java/lang/System"
def TJ10 : u_T := fun k => match k with
  | _ => ("", "", "", false)
def tyJ10 : Nat → FieldType := fun k => match k with
  | _ => .int
theorem nmJ10 : ∀ a, a < 0 → ∀ b, b < 0 → a ≠ b → (TJ10 a).2.1 ≠ (TJ10 b).2.1 := by decide +kernel
theorem tyJ10_ok : ∀ k, k < 0 → parseFieldDescriptor (TJ10 k).2.2.1 = some (tyJ10 k) := by decide +kernel
def RJ7 : String := "java/util/Arrays"
def TJ7 : u_T := fun k => match k with
  | _ => ("", "", "", false)
def tyJ7 : Nat → FieldType := fun k => match k with
  | _ => .int
theorem nmJ7 : ∀ a, a < 0 → ∀ b, b < 0 → a ≠ b → (TJ7 a).2.1 ≠ (TJ7 b).2.1 := by decide +kernel
theorem tyJ7_ok : ∀ k, k < 0 → parseFieldDescriptor (TJ7 k).2.2.1 = some (tyJ7 k) := by decide +kernel
abbrev cJ7_fill_53178 : ByteArray := prog_25_method_103_code
def yJ7_fill_53178 : MethodName := ⟨RJ7, "fill", "([II)V"⟩
abbrev cJ7_copyOf_59c91 : ByteArray := prog_25_method_123_code
def yJ7_copyOf_59c91 : MethodName := ⟨RJ7, "copyOf", "([II)[I"⟩
abbrev cJ7_copyOf_c38d5 : ByteArray := prog_25_method_124_code
def yJ7_copyOf_c38d5 : MethodName := ⟨RJ7, "copyOf", "([JI)[J"⟩
def RJ3 : String := "jdk/internal/util/Preconditions"
def TJ3 : u_T := fun k => match k with
  | _ => ("", "", "", false)
def tyJ3 : Nat → FieldType := fun k => match k with
  | _ => .int
theorem nmJ3 : ∀ a, a < 0 → ∀ b, b < 0 → a ≠ b → (TJ3 a).2.1 ≠ (TJ3 b).2.1 := by decide +kernel
theorem tyJ3_ok : ∀ k, k < 0 → parseFieldDescriptor (TJ3 k).2.2.1 = some (tyJ3 k) := by decide +kernel
abbrev cJ3_checkIndex_8e157 : ByteArray := prog_26_method_11_code
def yJ3_checkIndex_8e157 : MethodName := ⟨RJ3, "checkIndex", "(IILjava/util/function/BiFunction;)I"⟩
abbrev cJ3_checkFromToIndex_8c36e : ByteArray := prog_26_method_12_code
def yJ3_checkFromToIndex_8c36e : MethodName := ⟨RJ3, "checkFromToIndex", "(IIILjava/util/function/BiFunction;)I"⟩
def RL : String := "BookOfAllLaw"
abbrev cL_law : ByteArray := code
def yL_law : MethodName := ⟨RL, "law", "([I)Z"⟩
def wsJ7_fill_53178 : List Cond := .code yJ7_fill_53178 cJ7_fill_53178 4 none :: ([])
def wsX5_tellOn : List Cond := .code yX5_tellOn cX5_tellOn 5 (some .int) :: ([.fieldLink RX5 11 "BookOfAll$News" "latest" "[I", .fieldLink RX5 21 "BookOfAll$News" "day" "[I", .fieldLink RX5 24 "BookOfAll$News" "earlier" "[I"] ++ wsX50)
def wsX5_valueOn : List Cond := .code yX5_valueOn cX5_valueOn 4 (some .int) :: ([.fieldLink RX5 15 "BookOfAll$News" "value" "[I", .methodLink RX5 53 yX5_tellOn, .instanceMethod yX5_tellOn, .selects RX5 yX5_tellOn yX5_tellOn, .initialized RX5, .code yX5_tellOn cX5_tellOn 5 (some .int), .fieldLink RX5 11 "BookOfAll$News" "latest" "[I", .fieldLink RX5 21 "BookOfAll$News" "day" "[I", .fieldLink RX5 24 "BookOfAll$News" "earlier" "[I"] ++ wsX50)
def wsX5_sourceOn : List Cond := .code yX5_sourceOn cX5_sourceOn 4 (some .int) :: ([.fieldLink RX5 18 "BookOfAll$News" "source" "[I", .methodLink RX5 53 yX5_tellOn, .instanceMethod yX5_tellOn, .selects RX5 yX5_tellOn yX5_tellOn, .initialized RX5, .code yX5_tellOn cX5_tellOn 5 (some .int), .fieldLink RX5 11 "BookOfAll$News" "latest" "[I", .fieldLink RX5 21 "BookOfAll$News" "day" "[I", .fieldLink RX5 24 "BookOfAll$News" "earlier" "[I"] ++ wsX50)
def wsX8_inForce : List Cond := .code yX8_inForce cX8_inForce 6 (some .int) :: ([.fieldLink RX8 37 "BookOfAll$Rules" "puts" "I", .fieldLink RX8 17 "BookOfAll$Rules" "putSheet" "[I", .methodLink RX8 40 yX8_sheetOfPut, .instanceMethod yX8_sheetOfPut, .selects RX8 yX8_sheetOfPut yX8_sheetOfPut, .initialized RX8, .code yX8_sheetOfPut cX8_sheetOfPut 6 (some (.object "BookOfAll$Sheet")), .fieldLink RX8 24 "BookOfAll$Rules" "putDay" "[I", .fieldLink RX8 21 "BookOfAll$Rules" "putVolume" "[I", .fieldLink RX8 13 "BookOfAll$Rules" "sheets" "[LBookOfAll$Sheet;", .methodLink RX8 44 yX9_has, .instanceMethod yX9_has, .selects RX9 yX9_has yX9_has, .initialized RX9, .code yX9_has cX9_has 2 (some .boolean), .fieldLink RX9 11 "BookOfAll$Sheet" "from" "[I"] ++ wsX80 ++ wsX90)
def wsX7_byteAt : List Cond := .code yX7_byteAt cX7_byteAt 2 (some .int) :: ([.fieldLink RX7 43 "BookOfAll$Reader" "size" "I", .fieldLink RX7 11 "BookOfAll$Reader" "bytes" "[B"] ++ wsX70)
def wsX7_kindAt_r1 : List Cond := [Cond.fieldLink RX7 43 "BookOfAll$Reader" "size" "I", Cond.methodLink RX7 109 yX7_byteAt, Cond.instanceMethod yX7_byteAt, Cond.selects RX7 yX7_byteAt yX7_byteAt, Cond.initialized RX7, Cond.code yX7_byteAt cX7_byteAt 2 (some .int), Cond.fieldLink RX7 11 "BookOfAll$Reader" "bytes" "[B", Cond.methodLink RX7 122 yX7_isLetter, Cond.static yX7_isLetter, Cond.code yX7_isLetter cX7_isLetter 1 (some .boolean), Cond.methodLink RX7 126 yX0_isDigit, Cond.static yX0_isDigit, Cond.initialized RX0, Cond.code yX0_isDigit cX0_isDigit 1 (some .boolean), Cond.methodLink RX7 131 yX7_isSign, Cond.static yX7_isSign, Cond.code yX7_isSign cX7_isSign 1 (some .boolean), Cond.methodLink RX7 100 yJ0_indexOf_0f7a4, Cond.instanceMethod yJ0_indexOf_0f7a4, Cond.selects RJ0 yJ0_indexOf_0f7a4 yJ0_indexOf_0f7a4, Cond.initialized RJ0, Cond.code yJ0_indexOf_0f7a4 cJ0_indexOf_0f7a4 2 (some .int), Cond.methodLink RJ0 633 yJ0_indexOf_7cf53, Cond.instanceMethod yJ0_indexOf_7cf53]
def wsX7_kindAt_r2 : List Cond := [Cond.selects RJ0 yJ0_indexOf_7cf53 yJ0_indexOf_7cf53, Cond.code yJ0_indexOf_7cf53 cJ0_indexOf_7cf53 3 (some .int), Cond.fieldLink RJ0 9 "java/lang/String" "value" "[B", Cond.methodLink RJ0 492 yJ0_isLatin1_aae02, Cond.instanceMethod yJ0_isLatin1_aae02, Cond.selects RJ0 yJ0_isLatin1_aae02 yJ0_isLatin1_aae02, Cond.code yJ0_isLatin1_aae02 cJ0_isLatin1_aae02 1 (some .boolean), Cond.fieldLink RJ0 38 "java/lang/String" "COMPACT_STRINGS" "Z", Cond.fieldLink RJ0 15 "java/lang/String" "coder" "B", Cond.methodLink RJ0 505 yJ0_length_8abf5, Cond.instanceMethod yJ0_length_8abf5, Cond.selects RJ0 yJ0_length_8abf5 yJ0_length_8abf5, Cond.code yJ0_length_8abf5 cJ0_length_8abf5 1 (some .int), Cond.methodLink RJ0 335 yJ0_coder_7d493, Cond.instanceMethod yJ0_coder_7d493, Cond.selects RJ0 yJ0_coder_7d493 yJ0_coder_7d493, Cond.code yJ0_coder_7d493 cJ0_coder_7d493 1 (some .byte), Cond.methodLink RJ0 637 yJ1_indexOf_4cfef, Cond.static yJ1_indexOf_4cfef, Cond.initialized RJ1, Cond.code yJ1_indexOf_4cfef cJ1_indexOf_4cfef 4 (some .int), Cond.methodLink RJ1 92 Lib.Math.max.name, Cond.static Lib.Math.max.name, Cond.initialized "java/lang/Math"]
def wsX7_kindAt_r3 : List Cond := [Cond.code Lib.Math.max.name Lib.Math.max.code 2 (some .int), Cond.methodLink RJ1 38 Lib.Math.min.name, Cond.static Lib.Math.min.name, Cond.code Lib.Math.min.name Lib.Math.min.code 2 (some .int), Cond.methodLink RJ1 88 yJ1_canEncode_9a6ad, Cond.static yJ1_canEncode_9a6ad, Cond.code yJ1_canEncode_9a6ad cJ1_canEncode_9a6ad 1 (some .boolean), Cond.methodLink RJ1 95 yJ1_indexOfChar_4cfef, Cond.static yJ1_indexOfChar_4cfef, Cond.code yJ1_indexOfChar_4cfef cJ1_indexOfChar_4cfef 6 (some .int), Cond.methodLink RJ0 640 yJ2_indexOf_4cfef, Cond.static yJ2_indexOf_4cfef, Cond.initialized RJ2, Cond.code yJ2_indexOf_4cfef cJ2_indexOf_4cfef 4 (some .int), Cond.methodLink RJ2 224 Lib.Math.max.name, Cond.methodLink RJ2 183 Lib.Math.min.name, Cond.constant RJ2 227 (65536), Cond.methodLink RJ2 228 yJ2_indexOfChar_4cfef, Cond.static yJ2_indexOfChar_4cfef, Cond.code yJ2_indexOfChar_4cfef cJ2_indexOfChar_4cfef 4 (some .int), Cond.methodLink RJ2 96 yJ2_checkBoundsBeginEnd_d044e, Cond.static yJ2_checkBoundsBeginEnd_d044e, Cond.code yJ2_checkBoundsBeginEnd_d044e cJ2_checkBoundsBeginEnd_d044e 3 none, Cond.methodLink RJ2 48 yJ2_length_9d52b]
def wsX7_kindAt_r4 : List Cond := [Cond.static yJ2_length_9d52b, Cond.code yJ2_length_9d52b cJ2_length_9d52b 1 (some .int), Cond.methodLink RJ2 241 yJ0_checkBoundsBeginEnd_23922, Cond.static yJ0_checkBoundsBeginEnd_23922, Cond.code yJ0_checkBoundsBeginEnd_23922 cJ0_checkBoundsBeginEnd_23922 3 none, Cond.fieldLink RJ0 1053 "jdk/internal/util/Preconditions" "SIOOBE_FORMATTER" "Ljava/util/function/BiFunction;", Cond.methodLink RJ0 1062 yJ3_checkFromToIndex_8c36e, Cond.static yJ3_checkFromToIndex_8c36e, Cond.initialized RJ3, Cond.code yJ3_checkFromToIndex_8c36e cJ3_checkFromToIndex_8c36e 4 (some .int), Cond.methodLink RJ2 244 yJ2_indexOfCharUnsafe_4cfef, Cond.static yJ2_indexOfCharUnsafe_4cfef, Cond.code yJ2_indexOfCharUnsafe_4cfef cJ2_indexOfCharUnsafe_4cfef 5 (some .int), Cond.methodLink RJ2 71 yJ2_getChar_3b067, Cond.static yJ2_getChar_3b067, Cond.code yJ2_getChar_3b067 cJ2_getChar_3b067 2 (some .char), Cond.fieldLink RJ2 44 "java/lang/StringUTF16" "$assertionsDisabled" "Z", Cond.fieldLink RJ2 59 "java/lang/StringUTF16" "HI_BYTE_SHIFT" "I", Cond.fieldLink RJ2 63 "java/lang/StringUTF16" "LO_BYTE_SHIFT" "I", Cond.methodLink RJ2 232 yJ2_indexOfSupplementary_4cfef, Cond.static yJ2_indexOfSupplementary_4cfef, Cond.code yJ2_indexOfSupplementary_4cfef cJ2_indexOfSupplementary_4cfef 7 (some .int), Cond.methodLink RJ2 164 yJ11_isValidCodePoint_9a6ad, Cond.static yJ11_isValidCodePoint_9a6ad]
def wsX7_kindAt_r5 : List Cond := [Cond.initialized RJ11, Cond.code yJ11_isValidCodePoint_9a6ad cJ11_isValidCodePoint_9a6ad 2 (some .boolean), Cond.methodLink RJ2 157 yJ11_highSurrogate_5068e, Cond.static yJ11_highSurrogate_5068e, Cond.code yJ11_highSurrogate_5068e cJ11_highSurrogate_5068e 1 (some .char), Cond.constant RJ11 110 (55232), Cond.methodLink RJ2 161 yJ11_lowSurrogate_5068e, Cond.static yJ11_lowSurrogate_5068e, Cond.code yJ11_lowSurrogate_5068e cJ11_lowSurrogate_5068e 1 (some .char), Cond.constant RJ11 76 (56320)]
def wsX7_kindAt : List Cond := .code yX7_kindAt cX7_kindAt 3 (some .int) :: ((wsX7_kindAt_r1 ++ (wsX7_kindAt_r2 ++ (wsX7_kindAt_r3 ++ (wsX7_kindAt_r4 ++ wsX7_kindAt_r5)))) ++ wsX70)
def wsX7_stopAt : List Cond := .code yX7_stopAt cX7_stopAt 4 (some .int) :: ([.fieldLink RX7 43 "BookOfAll$Reader" "size" "I", .methodLink RX7 109 yX7_byteAt, .instanceMethod yX7_byteAt, .selects RX7 yX7_byteAt yX7_byteAt, .initialized RX7, .code yX7_byteAt cX7_byteAt 2 (some .int), .fieldLink RX7 11 "BookOfAll$Reader" "bytes" "[B", .methodLink RX7 122 yX7_isLetter, .static yX7_isLetter, .code yX7_isLetter cX7_isLetter 1 (some .boolean), .methodLink RX7 126 yX0_isDigit, .static yX0_isDigit, .initialized RX0, .code yX0_isDigit cX0_isDigit 1 (some .boolean)] ++ wsX70)
def wsX7_addToken_r1 : List Cond := [Cond.fieldLink RX7 106 "BookOfAll$Reader" "tokens" "I", Cond.fieldLink RX7 15 "BookOfAll$Reader" "kinds" "[I", Cond.fieldLink RX7 19 "BookOfAll$Reader" "starts" "[I", Cond.fieldLink RX7 22 "BookOfAll$Reader" "stops" "[I", Cond.fieldLink RX7 25 "BookOfAll$Reader" "values" "[I", Cond.methodLink RX7 134 yX7_wordAt, Cond.instanceMethod yX7_wordAt, Cond.selects RX7 yX7_wordAt yX7_wordAt, Cond.initialized RX7, Cond.code yX7_wordAt cX7_wordAt 6 (some .int), Cond.methodLink RX7 143 yJ0_length_8abf5, Cond.instanceMethod yJ0_length_8abf5, Cond.selects RJ0 yJ0_length_8abf5 yJ0_length_8abf5, Cond.initialized RJ0, Cond.code yJ0_length_8abf5 cJ0_length_8abf5 1 (some .int), Cond.fieldLink RJ0 9 "java/lang/String" "value" "[B", Cond.methodLink RJ0 335 yJ0_coder_7d493, Cond.instanceMethod yJ0_coder_7d493, Cond.selects RJ0 yJ0_coder_7d493 yJ0_coder_7d493, Cond.code yJ0_coder_7d493 cJ0_coder_7d493 1 (some .byte), Cond.fieldLink RJ0 38 "java/lang/String" "COMPACT_STRINGS" "Z", Cond.fieldLink RJ0 15 "java/lang/String" "coder" "B", Cond.methodLink RX7 146 yJ0_charAt_5068e, Cond.instanceMethod yJ0_charAt_5068e]
def wsX7_addToken_r2 : List Cond := [Cond.selects RJ0 yJ0_charAt_5068e yJ0_charAt_5068e, Cond.code yJ0_charAt_5068e cJ0_charAt_5068e 2 (some .char), Cond.methodLink RJ0 492 yJ0_isLatin1_aae02, Cond.instanceMethod yJ0_isLatin1_aae02, Cond.selects RJ0 yJ0_isLatin1_aae02 yJ0_isLatin1_aae02, Cond.code yJ0_isLatin1_aae02 cJ0_isLatin1_aae02 1 (some .boolean), Cond.methodLink RJ0 495 yJ1_charAt_3b067, Cond.static yJ1_charAt_3b067, Cond.initialized RJ1, Cond.code yJ1_charAt_3b067 cJ1_charAt_3b067 2 (some .char), Cond.methodLink RJ1 9 yJ0_checkIndex_df160, Cond.static yJ0_checkIndex_df160, Cond.code yJ0_checkIndex_df160 cJ0_checkIndex_df160 2 none, Cond.fieldLink RJ0 1053 "jdk/internal/util/Preconditions" "SIOOBE_FORMATTER" "Ljava/util/function/BiFunction;", Cond.methodLink RJ0 1059 yJ3_checkIndex_8e157, Cond.static yJ3_checkIndex_8e157, Cond.initialized RJ3, Cond.code yJ3_checkIndex_8e157 cJ3_checkIndex_8e157 3 (some .int), Cond.methodLink RJ0 498 yJ2_charAt_3b067, Cond.static yJ2_charAt_3b067, Cond.initialized RJ2, Cond.code yJ2_charAt_3b067 cJ2_charAt_3b067 2 (some .char), Cond.methodLink RJ2 67 yJ2_checkIndex_2214a, Cond.static yJ2_checkIndex_2214a]
def wsX7_addToken_r3 : List Cond := [Cond.code yJ2_checkIndex_2214a cJ2_checkIndex_2214a 2 none, Cond.methodLink RJ2 48 yJ2_length_9d52b, Cond.static yJ2_length_9d52b, Cond.code yJ2_length_9d52b cJ2_length_9d52b 1 (some .int), Cond.methodLink RJ2 414 yJ0_checkIndex_df160, Cond.methodLink RJ2 71 yJ2_getChar_3b067, Cond.static yJ2_getChar_3b067, Cond.code yJ2_getChar_3b067 cJ2_getChar_3b067 2 (some .char), Cond.fieldLink RJ2 44 "java/lang/StringUTF16" "$assertionsDisabled" "Z", Cond.fieldLink RJ2 59 "java/lang/StringUTF16" "HI_BYTE_SHIFT" "I", Cond.fieldLink RJ2 63 "java/lang/StringUTF16" "LO_BYTE_SHIFT" "I", Cond.methodLink RX7 150 yX7_isWordAt, Cond.instanceMethod yX7_isWordAt, Cond.selects RX7 yX7_isWordAt yX7_isWordAt, Cond.code yX7_isWordAt cX7_isWordAt 5 (some .boolean), Cond.methodLink RX7 109 yX7_byteAt, Cond.instanceMethod yX7_byteAt, Cond.selects RX7 yX7_byteAt yX7_byteAt, Cond.code yX7_byteAt cX7_byteAt 2 (some .int), Cond.fieldLink RX7 43 "BookOfAll$Reader" "size" "I", Cond.fieldLink RX7 11 "BookOfAll$Reader" "bytes" "[B", Cond.methodLink RX7 137 yX7_numberAt, Cond.instanceMethod yX7_numberAt, Cond.selects RX7 yX7_numberAt yX7_numberAt]
def wsX7_addToken_r4 : List Cond := [Cond.code yX7_numberAt cX7_numberAt 5 (some .int), Cond.constant RX7 140 (99999)]
def wsX7_addToken : List Cond := .code yX7_addToken cX7_addToken 4 none :: ((wsX7_addToken_r1 ++ (wsX7_addToken_r2 ++ (wsX7_addToken_r3 ++ wsX7_addToken_r4))) ++ wsX70)
def wsX7_scan_r1 : List Cond := [Cond.fieldLink RX7 106 "BookOfAll$Reader" "tokens" "I", Cond.fieldLink RX7 43 "BookOfAll$Reader" "size" "I", Cond.methodLink RX7 109 yX7_byteAt, Cond.instanceMethod yX7_byteAt, Cond.selects RX7 yX7_byteAt yX7_byteAt, Cond.initialized RX7, Cond.code yX7_byteAt cX7_byteAt 2 (some .int), Cond.fieldLink RX7 11 "BookOfAll$Reader" "bytes" "[B", Cond.methodLink RX7 112 yX7_kindAt, Cond.instanceMethod yX7_kindAt, Cond.selects RX7 yX7_kindAt yX7_kindAt, Cond.code yX7_kindAt cX7_kindAt 3 (some .int), Cond.methodLink RX7 122 yX7_isLetter, Cond.static yX7_isLetter, Cond.code yX7_isLetter cX7_isLetter 1 (some .boolean), Cond.methodLink RX7 126 yX0_isDigit, Cond.static yX0_isDigit, Cond.initialized RX0, Cond.code yX0_isDigit cX0_isDigit 1 (some .boolean), Cond.methodLink RX7 131 yX7_isSign, Cond.static yX7_isSign, Cond.code yX7_isSign cX7_isSign 1 (some .boolean), Cond.methodLink RX7 100 yJ0_indexOf_0f7a4, Cond.instanceMethod yJ0_indexOf_0f7a4]
def wsX7_scan_r2 : List Cond := [Cond.selects RJ0 yJ0_indexOf_0f7a4 yJ0_indexOf_0f7a4, Cond.initialized RJ0, Cond.code yJ0_indexOf_0f7a4 cJ0_indexOf_0f7a4 2 (some .int), Cond.methodLink RJ0 633 yJ0_indexOf_7cf53, Cond.instanceMethod yJ0_indexOf_7cf53, Cond.selects RJ0 yJ0_indexOf_7cf53 yJ0_indexOf_7cf53, Cond.code yJ0_indexOf_7cf53 cJ0_indexOf_7cf53 3 (some .int), Cond.fieldLink RJ0 9 "java/lang/String" "value" "[B", Cond.methodLink RJ0 492 yJ0_isLatin1_aae02, Cond.instanceMethod yJ0_isLatin1_aae02, Cond.selects RJ0 yJ0_isLatin1_aae02 yJ0_isLatin1_aae02, Cond.code yJ0_isLatin1_aae02 cJ0_isLatin1_aae02 1 (some .boolean), Cond.fieldLink RJ0 38 "java/lang/String" "COMPACT_STRINGS" "Z", Cond.fieldLink RJ0 15 "java/lang/String" "coder" "B", Cond.methodLink RJ0 505 yJ0_length_8abf5, Cond.instanceMethod yJ0_length_8abf5, Cond.selects RJ0 yJ0_length_8abf5 yJ0_length_8abf5, Cond.code yJ0_length_8abf5 cJ0_length_8abf5 1 (some .int), Cond.methodLink RJ0 335 yJ0_coder_7d493, Cond.instanceMethod yJ0_coder_7d493, Cond.selects RJ0 yJ0_coder_7d493 yJ0_coder_7d493, Cond.code yJ0_coder_7d493 cJ0_coder_7d493 1 (some .byte), Cond.methodLink RJ0 637 yJ1_indexOf_4cfef, Cond.static yJ1_indexOf_4cfef]
def wsX7_scan_r3 : List Cond := [Cond.initialized RJ1, Cond.code yJ1_indexOf_4cfef cJ1_indexOf_4cfef 4 (some .int), Cond.methodLink RJ1 92 Lib.Math.max.name, Cond.static Lib.Math.max.name, Cond.initialized "java/lang/Math", Cond.code Lib.Math.max.name Lib.Math.max.code 2 (some .int), Cond.methodLink RJ1 38 Lib.Math.min.name, Cond.static Lib.Math.min.name, Cond.code Lib.Math.min.name Lib.Math.min.code 2 (some .int), Cond.methodLink RJ1 88 yJ1_canEncode_9a6ad, Cond.static yJ1_canEncode_9a6ad, Cond.code yJ1_canEncode_9a6ad cJ1_canEncode_9a6ad 1 (some .boolean), Cond.methodLink RJ1 95 yJ1_indexOfChar_4cfef, Cond.static yJ1_indexOfChar_4cfef, Cond.code yJ1_indexOfChar_4cfef cJ1_indexOfChar_4cfef 6 (some .int), Cond.methodLink RJ0 640 yJ2_indexOf_4cfef, Cond.static yJ2_indexOf_4cfef, Cond.initialized RJ2, Cond.code yJ2_indexOf_4cfef cJ2_indexOf_4cfef 4 (some .int), Cond.methodLink RJ2 224 Lib.Math.max.name, Cond.methodLink RJ2 183 Lib.Math.min.name, Cond.constant RJ2 227 (65536), Cond.methodLink RJ2 228 yJ2_indexOfChar_4cfef, Cond.static yJ2_indexOfChar_4cfef]
def wsX7_scan_r4 : List Cond := [Cond.code yJ2_indexOfChar_4cfef cJ2_indexOfChar_4cfef 4 (some .int), Cond.methodLink RJ2 96 yJ2_checkBoundsBeginEnd_d044e, Cond.static yJ2_checkBoundsBeginEnd_d044e, Cond.code yJ2_checkBoundsBeginEnd_d044e cJ2_checkBoundsBeginEnd_d044e 3 none, Cond.methodLink RJ2 48 yJ2_length_9d52b, Cond.static yJ2_length_9d52b, Cond.code yJ2_length_9d52b cJ2_length_9d52b 1 (some .int), Cond.methodLink RJ2 241 yJ0_checkBoundsBeginEnd_23922, Cond.static yJ0_checkBoundsBeginEnd_23922, Cond.code yJ0_checkBoundsBeginEnd_23922 cJ0_checkBoundsBeginEnd_23922 3 none, Cond.fieldLink RJ0 1053 "jdk/internal/util/Preconditions" "SIOOBE_FORMATTER" "Ljava/util/function/BiFunction;", Cond.methodLink RJ0 1062 yJ3_checkFromToIndex_8c36e, Cond.static yJ3_checkFromToIndex_8c36e, Cond.initialized RJ3, Cond.code yJ3_checkFromToIndex_8c36e cJ3_checkFromToIndex_8c36e 4 (some .int), Cond.methodLink RJ2 244 yJ2_indexOfCharUnsafe_4cfef, Cond.static yJ2_indexOfCharUnsafe_4cfef, Cond.code yJ2_indexOfCharUnsafe_4cfef cJ2_indexOfCharUnsafe_4cfef 5 (some .int), Cond.methodLink RJ2 71 yJ2_getChar_3b067, Cond.static yJ2_getChar_3b067, Cond.code yJ2_getChar_3b067 cJ2_getChar_3b067 2 (some .char), Cond.fieldLink RJ2 44 "java/lang/StringUTF16" "$assertionsDisabled" "Z", Cond.fieldLink RJ2 59 "java/lang/StringUTF16" "HI_BYTE_SHIFT" "I", Cond.fieldLink RJ2 63 "java/lang/StringUTF16" "LO_BYTE_SHIFT" "I"]
def wsX7_scan_r5 : List Cond := [Cond.methodLink RJ2 232 yJ2_indexOfSupplementary_4cfef, Cond.static yJ2_indexOfSupplementary_4cfef, Cond.code yJ2_indexOfSupplementary_4cfef cJ2_indexOfSupplementary_4cfef 7 (some .int), Cond.methodLink RJ2 164 yJ11_isValidCodePoint_9a6ad, Cond.static yJ11_isValidCodePoint_9a6ad, Cond.initialized RJ11, Cond.code yJ11_isValidCodePoint_9a6ad cJ11_isValidCodePoint_9a6ad 2 (some .boolean), Cond.methodLink RJ2 157 yJ11_highSurrogate_5068e, Cond.static yJ11_highSurrogate_5068e, Cond.code yJ11_highSurrogate_5068e cJ11_highSurrogate_5068e 1 (some .char), Cond.constant RJ11 110 (55232), Cond.methodLink RJ2 161 yJ11_lowSurrogate_5068e, Cond.static yJ11_lowSurrogate_5068e, Cond.code yJ11_lowSurrogate_5068e cJ11_lowSurrogate_5068e 1 (some .char), Cond.constant RJ11 76 (56320), Cond.methodLink RX7 115 yX7_stopAt, Cond.instanceMethod yX7_stopAt, Cond.selects RX7 yX7_stopAt yX7_stopAt, Cond.code yX7_stopAt cX7_stopAt 4 (some .int), Cond.methodLink RX7 118 yX7_addToken, Cond.instanceMethod yX7_addToken, Cond.selects RX7 yX7_addToken yX7_addToken, Cond.code yX7_addToken cX7_addToken 4 none, Cond.fieldLink RX7 15 "BookOfAll$Reader" "kinds" "[I"]
def wsX7_scan_r6 : List Cond := [Cond.fieldLink RX7 19 "BookOfAll$Reader" "starts" "[I", Cond.fieldLink RX7 22 "BookOfAll$Reader" "stops" "[I", Cond.fieldLink RX7 25 "BookOfAll$Reader" "values" "[I", Cond.methodLink RX7 134 yX7_wordAt, Cond.instanceMethod yX7_wordAt, Cond.selects RX7 yX7_wordAt yX7_wordAt, Cond.code yX7_wordAt cX7_wordAt 6 (some .int), Cond.methodLink RX7 143 yJ0_length_8abf5, Cond.methodLink RX7 146 yJ0_charAt_5068e, Cond.instanceMethod yJ0_charAt_5068e, Cond.selects RJ0 yJ0_charAt_5068e yJ0_charAt_5068e, Cond.code yJ0_charAt_5068e cJ0_charAt_5068e 2 (some .char), Cond.methodLink RJ0 495 yJ1_charAt_3b067, Cond.static yJ1_charAt_3b067, Cond.code yJ1_charAt_3b067 cJ1_charAt_3b067 2 (some .char), Cond.methodLink RJ1 9 yJ0_checkIndex_df160, Cond.static yJ0_checkIndex_df160, Cond.code yJ0_checkIndex_df160 cJ0_checkIndex_df160 2 none, Cond.methodLink RJ0 1059 yJ3_checkIndex_8e157, Cond.static yJ3_checkIndex_8e157, Cond.code yJ3_checkIndex_8e157 cJ3_checkIndex_8e157 3 (some .int), Cond.methodLink RJ0 498 yJ2_charAt_3b067, Cond.static yJ2_charAt_3b067, Cond.code yJ2_charAt_3b067 cJ2_charAt_3b067 2 (some .char)]
def wsX7_scan_r7 : List Cond := [Cond.methodLink RJ2 67 yJ2_checkIndex_2214a, Cond.static yJ2_checkIndex_2214a, Cond.code yJ2_checkIndex_2214a cJ2_checkIndex_2214a 2 none, Cond.methodLink RJ2 414 yJ0_checkIndex_df160, Cond.methodLink RX7 150 yX7_isWordAt, Cond.instanceMethod yX7_isWordAt, Cond.selects RX7 yX7_isWordAt yX7_isWordAt, Cond.code yX7_isWordAt cX7_isWordAt 5 (some .boolean), Cond.methodLink RX7 137 yX7_numberAt, Cond.instanceMethod yX7_numberAt, Cond.selects RX7 yX7_numberAt yX7_numberAt, Cond.code yX7_numberAt cX7_numberAt 5 (some .int), Cond.constant RX7 140 (99999)]
def wsX7_scan : List Cond := .code yX7_scan cX7_scan 5 none :: ((wsX7_scan_r1 ++ (wsX7_scan_r2 ++ (wsX7_scan_r3 ++ (wsX7_scan_r4 ++ (wsX7_scan_r5 ++ (wsX7_scan_r6 ++ wsX7_scan_r7)))))) ++ wsX70)
def wsX7_kind : List Cond := .code yX7_kind cX7_kind 1 (some .int) :: ([.fieldLink RX7 53 "BookOfAll$Reader" "next" "I", .fieldLink RX7 106 "BookOfAll$Reader" "tokens" "I", .fieldLink RX7 15 "BookOfAll$Reader" "kinds" "[I"] ++ wsX70)
def wsX7_parse_r1 : List Cond := [Cond.fieldLink RX7 50 "BookOfAll$Reader" "fault" "I", Cond.fieldLink RX7 53 "BookOfAll$Reader" "next" "I", Cond.fieldLink RX7 56 "BookOfAll$Reader" "codeSize" "I", Cond.fieldLink RX7 59 "BookOfAll$Reader" "wordCount" "I", Cond.fieldLink RX7 33 "BookOfAll$Reader" "from" "[I", Cond.fieldLink RX7 43 "BookOfAll$Reader" "size" "I", Cond.methodLink RX7 47 yX7_scan, Cond.instanceMethod yX7_scan, Cond.selects RX7 yX7_scan yX7_scan, Cond.initialized RX7, Cond.code yX7_scan cX7_scan 5 none, Cond.fieldLink RX7 106 "BookOfAll$Reader" "tokens" "I", Cond.methodLink RX7 109 yX7_byteAt, Cond.instanceMethod yX7_byteAt, Cond.selects RX7 yX7_byteAt yX7_byteAt, Cond.code yX7_byteAt cX7_byteAt 2 (some .int), Cond.fieldLink RX7 11 "BookOfAll$Reader" "bytes" "[B", Cond.methodLink RX7 112 yX7_kindAt, Cond.instanceMethod yX7_kindAt, Cond.selects RX7 yX7_kindAt yX7_kindAt, Cond.code yX7_kindAt cX7_kindAt 3 (some .int), Cond.methodLink RX7 122 yX7_isLetter, Cond.static yX7_isLetter, Cond.code yX7_isLetter cX7_isLetter 1 (some .boolean)]
def wsX7_parse_r2 : List Cond := [Cond.methodLink RX7 126 yX0_isDigit, Cond.static yX0_isDigit, Cond.initialized RX0, Cond.code yX0_isDigit cX0_isDigit 1 (some .boolean), Cond.methodLink RX7 131 yX7_isSign, Cond.static yX7_isSign, Cond.code yX7_isSign cX7_isSign 1 (some .boolean), Cond.methodLink RX7 100 yJ0_indexOf_0f7a4, Cond.instanceMethod yJ0_indexOf_0f7a4, Cond.selects RJ0 yJ0_indexOf_0f7a4 yJ0_indexOf_0f7a4, Cond.initialized RJ0, Cond.code yJ0_indexOf_0f7a4 cJ0_indexOf_0f7a4 2 (some .int), Cond.methodLink RJ0 633 yJ0_indexOf_7cf53, Cond.instanceMethod yJ0_indexOf_7cf53, Cond.selects RJ0 yJ0_indexOf_7cf53 yJ0_indexOf_7cf53, Cond.code yJ0_indexOf_7cf53 cJ0_indexOf_7cf53 3 (some .int), Cond.fieldLink RJ0 9 "java/lang/String" "value" "[B", Cond.methodLink RJ0 492 yJ0_isLatin1_aae02, Cond.instanceMethod yJ0_isLatin1_aae02, Cond.selects RJ0 yJ0_isLatin1_aae02 yJ0_isLatin1_aae02, Cond.code yJ0_isLatin1_aae02 cJ0_isLatin1_aae02 1 (some .boolean), Cond.fieldLink RJ0 38 "java/lang/String" "COMPACT_STRINGS" "Z", Cond.fieldLink RJ0 15 "java/lang/String" "coder" "B", Cond.methodLink RJ0 505 yJ0_length_8abf5]
def wsX7_parse_r3 : List Cond := [Cond.instanceMethod yJ0_length_8abf5, Cond.selects RJ0 yJ0_length_8abf5 yJ0_length_8abf5, Cond.code yJ0_length_8abf5 cJ0_length_8abf5 1 (some .int), Cond.methodLink RJ0 335 yJ0_coder_7d493, Cond.instanceMethod yJ0_coder_7d493, Cond.selects RJ0 yJ0_coder_7d493 yJ0_coder_7d493, Cond.code yJ0_coder_7d493 cJ0_coder_7d493 1 (some .byte), Cond.methodLink RJ0 637 yJ1_indexOf_4cfef, Cond.static yJ1_indexOf_4cfef, Cond.initialized RJ1, Cond.code yJ1_indexOf_4cfef cJ1_indexOf_4cfef 4 (some .int), Cond.methodLink RJ1 92 Lib.Math.max.name, Cond.static Lib.Math.max.name, Cond.initialized "java/lang/Math", Cond.code Lib.Math.max.name Lib.Math.max.code 2 (some .int), Cond.methodLink RJ1 38 Lib.Math.min.name, Cond.static Lib.Math.min.name, Cond.code Lib.Math.min.name Lib.Math.min.code 2 (some .int), Cond.methodLink RJ1 88 yJ1_canEncode_9a6ad, Cond.static yJ1_canEncode_9a6ad, Cond.code yJ1_canEncode_9a6ad cJ1_canEncode_9a6ad 1 (some .boolean), Cond.methodLink RJ1 95 yJ1_indexOfChar_4cfef, Cond.static yJ1_indexOfChar_4cfef, Cond.code yJ1_indexOfChar_4cfef cJ1_indexOfChar_4cfef 6 (some .int)]
def wsX7_parse_r4 : List Cond := [Cond.methodLink RJ0 640 yJ2_indexOf_4cfef, Cond.static yJ2_indexOf_4cfef, Cond.initialized RJ2, Cond.code yJ2_indexOf_4cfef cJ2_indexOf_4cfef 4 (some .int), Cond.methodLink RJ2 224 Lib.Math.max.name, Cond.methodLink RJ2 183 Lib.Math.min.name, Cond.constant RJ2 227 (65536), Cond.methodLink RJ2 228 yJ2_indexOfChar_4cfef, Cond.static yJ2_indexOfChar_4cfef, Cond.code yJ2_indexOfChar_4cfef cJ2_indexOfChar_4cfef 4 (some .int), Cond.methodLink RJ2 96 yJ2_checkBoundsBeginEnd_d044e, Cond.static yJ2_checkBoundsBeginEnd_d044e, Cond.code yJ2_checkBoundsBeginEnd_d044e cJ2_checkBoundsBeginEnd_d044e 3 none, Cond.methodLink RJ2 48 yJ2_length_9d52b, Cond.static yJ2_length_9d52b, Cond.code yJ2_length_9d52b cJ2_length_9d52b 1 (some .int), Cond.methodLink RJ2 241 yJ0_checkBoundsBeginEnd_23922, Cond.static yJ0_checkBoundsBeginEnd_23922, Cond.code yJ0_checkBoundsBeginEnd_23922 cJ0_checkBoundsBeginEnd_23922 3 none, Cond.fieldLink RJ0 1053 "jdk/internal/util/Preconditions" "SIOOBE_FORMATTER" "Ljava/util/function/BiFunction;", Cond.methodLink RJ0 1062 yJ3_checkFromToIndex_8c36e, Cond.static yJ3_checkFromToIndex_8c36e, Cond.initialized RJ3, Cond.code yJ3_checkFromToIndex_8c36e cJ3_checkFromToIndex_8c36e 4 (some .int)]
def wsX7_parse_r5 : List Cond := [Cond.methodLink RJ2 244 yJ2_indexOfCharUnsafe_4cfef, Cond.static yJ2_indexOfCharUnsafe_4cfef, Cond.code yJ2_indexOfCharUnsafe_4cfef cJ2_indexOfCharUnsafe_4cfef 5 (some .int), Cond.methodLink RJ2 71 yJ2_getChar_3b067, Cond.static yJ2_getChar_3b067, Cond.code yJ2_getChar_3b067 cJ2_getChar_3b067 2 (some .char), Cond.fieldLink RJ2 44 "java/lang/StringUTF16" "$assertionsDisabled" "Z", Cond.fieldLink RJ2 59 "java/lang/StringUTF16" "HI_BYTE_SHIFT" "I", Cond.fieldLink RJ2 63 "java/lang/StringUTF16" "LO_BYTE_SHIFT" "I", Cond.methodLink RJ2 232 yJ2_indexOfSupplementary_4cfef, Cond.static yJ2_indexOfSupplementary_4cfef, Cond.code yJ2_indexOfSupplementary_4cfef cJ2_indexOfSupplementary_4cfef 7 (some .int), Cond.methodLink RJ2 164 yJ11_isValidCodePoint_9a6ad, Cond.static yJ11_isValidCodePoint_9a6ad, Cond.initialized RJ11, Cond.code yJ11_isValidCodePoint_9a6ad cJ11_isValidCodePoint_9a6ad 2 (some .boolean), Cond.methodLink RJ2 157 yJ11_highSurrogate_5068e, Cond.static yJ11_highSurrogate_5068e, Cond.code yJ11_highSurrogate_5068e cJ11_highSurrogate_5068e 1 (some .char), Cond.constant RJ11 110 (55232), Cond.methodLink RJ2 161 yJ11_lowSurrogate_5068e, Cond.static yJ11_lowSurrogate_5068e, Cond.code yJ11_lowSurrogate_5068e cJ11_lowSurrogate_5068e 1 (some .char), Cond.constant RJ11 76 (56320)]
def wsX7_parse_r6 : List Cond := [Cond.methodLink RX7 115 yX7_stopAt, Cond.instanceMethod yX7_stopAt, Cond.selects RX7 yX7_stopAt yX7_stopAt, Cond.code yX7_stopAt cX7_stopAt 4 (some .int), Cond.methodLink RX7 118 yX7_addToken, Cond.instanceMethod yX7_addToken, Cond.selects RX7 yX7_addToken yX7_addToken, Cond.code yX7_addToken cX7_addToken 4 none, Cond.fieldLink RX7 15 "BookOfAll$Reader" "kinds" "[I", Cond.fieldLink RX7 19 "BookOfAll$Reader" "starts" "[I", Cond.fieldLink RX7 22 "BookOfAll$Reader" "stops" "[I", Cond.fieldLink RX7 25 "BookOfAll$Reader" "values" "[I", Cond.methodLink RX7 134 yX7_wordAt, Cond.instanceMethod yX7_wordAt, Cond.selects RX7 yX7_wordAt yX7_wordAt, Cond.code yX7_wordAt cX7_wordAt 6 (some .int), Cond.methodLink RX7 143 yJ0_length_8abf5, Cond.methodLink RX7 146 yJ0_charAt_5068e, Cond.instanceMethod yJ0_charAt_5068e, Cond.selects RJ0 yJ0_charAt_5068e yJ0_charAt_5068e, Cond.code yJ0_charAt_5068e cJ0_charAt_5068e 2 (some .char), Cond.methodLink RJ0 495 yJ1_charAt_3b067, Cond.static yJ1_charAt_3b067, Cond.code yJ1_charAt_3b067 cJ1_charAt_3b067 2 (some .char)]
def wsX7_parse_r7 : List Cond := [Cond.methodLink RJ1 9 yJ0_checkIndex_df160, Cond.static yJ0_checkIndex_df160, Cond.code yJ0_checkIndex_df160 cJ0_checkIndex_df160 2 none, Cond.methodLink RJ0 1059 yJ3_checkIndex_8e157, Cond.static yJ3_checkIndex_8e157, Cond.code yJ3_checkIndex_8e157 cJ3_checkIndex_8e157 3 (some .int), Cond.methodLink RJ0 498 yJ2_charAt_3b067, Cond.static yJ2_charAt_3b067, Cond.code yJ2_charAt_3b067 cJ2_charAt_3b067 2 (some .char), Cond.methodLink RJ2 67 yJ2_checkIndex_2214a, Cond.static yJ2_checkIndex_2214a, Cond.code yJ2_checkIndex_2214a cJ2_checkIndex_2214a 2 none, Cond.methodLink RJ2 414 yJ0_checkIndex_df160, Cond.methodLink RX7 150 yX7_isWordAt, Cond.instanceMethod yX7_isWordAt, Cond.selects RX7 yX7_isWordAt yX7_isWordAt, Cond.code yX7_isWordAt cX7_isWordAt 5 (some .boolean), Cond.methodLink RX7 137 yX7_numberAt, Cond.instanceMethod yX7_numberAt, Cond.selects RX7 yX7_numberAt yX7_numberAt, Cond.code yX7_numberAt cX7_numberAt 5 (some .int), Cond.constant RX7 140 (99999), Cond.methodLink RX7 62 yJ7_fill_53178, Cond.static yJ7_fill_53178]
def wsX7_parse_r8 : List Cond := [Cond.initialized RJ7, Cond.code yJ7_fill_53178 cJ7_fill_53178 4 none, Cond.methodLink RX7 68 yX7_kind, Cond.instanceMethod yX7_kind, Cond.selects RX7 yX7_kind yX7_kind, Cond.code yX7_kind cX7_kind 1 (some .int), Cond.methodLink RX7 72 yX7_readClause, Cond.instanceMethod yX7_readClause, Cond.selects RX7 yX7_readClause yX7_readClause, Cond.code yX7_readClause cX7_readClause 2 none, Cond.methodLink RX7 160 yX7_word, Cond.instanceMethod yX7_word, Cond.selects RX7 yX7_word yX7_word, Cond.code yX7_word cX7_word 1 (some .int), Cond.methodLink RX7 157 yX7_advance, Cond.instanceMethod yX7_advance, Cond.selects RX7 yX7_advance yX7_advance, Cond.code yX7_advance cX7_advance 1 none, Cond.methodLink RX7 163 yX7_readSkip, Cond.instanceMethod yX7_readSkip, Cond.selects RX7 yX7_readSkip yX7_readSkip, Cond.code yX7_readSkip cX7_readSkip 4 none, Cond.fieldLink RX7 39 "BookOfAll$Reader" "words" "[J", Cond.methodLink RX7 154 yX7_refuse]
def wsX7_parse_r9 : List Cond := [Cond.instanceMethod yX7_refuse, Cond.selects RX7 yX7_refuse yX7_refuse, Cond.code yX7_refuse cX7_refuse 1 none, Cond.methodLink RX7 166 yX7_openSort, Cond.instanceMethod yX7_openSort, Cond.selects RX7 yX7_openSort yX7_openSort, Cond.code yX7_openSort cX7_openSort 4 (some .int), Cond.methodLink RX7 169 yX7_readChoice, Cond.instanceMethod yX7_readChoice, Cond.selects RX7 yX7_readChoice yX7_readChoice, Cond.code yX7_readChoice cX7_readChoice 3 none, Cond.methodLink RX7 185 yX7_emit, Cond.instanceMethod yX7_emit, Cond.selects RX7 yX7_emit yX7_emit, Cond.code yX7_emit cX7_emit 2 none, Cond.fieldLink RX7 28 "BookOfAll$Reader" "code" "[I", Cond.methodLink RX7 173 yX7_readEither, Cond.instanceMethod yX7_readEither, Cond.selects RX7 yX7_readEither yX7_readEither, Cond.code yX7_readEither cX7_readEither 3 none, Cond.methodLink RX7 188 yX7_readBoth, Cond.instanceMethod yX7_readBoth, Cond.selects RX7 yX7_readBoth yX7_readBoth, Cond.code yX7_readBasic cX7_readBasic 3 none]
def wsX7_parse_r10 : List Cond := [Cond.methodLink RX7 196 yX7_readComparison, Cond.instanceMethod yX7_readComparison, Cond.selects RX7 yX7_readComparison yX7_readComparison, Cond.code yX7_readComparison cX7_readComparison 3 none, Cond.methodLink RX7 176 yX7_readSum, Cond.instanceMethod yX7_readSum, Cond.selects RX7 yX7_readSum yX7_readSum, Cond.code yX7_readSum cX7_readSum 4 none, Cond.methodLink RX7 199 yX7_readProduct, Cond.instanceMethod yX7_readProduct, Cond.selects RX7 yX7_readProduct yX7_readProduct, Cond.code yX7_readFactor cX7_readFactor 4 none, Cond.methodLink RX7 182 yX7_expect, Cond.instanceMethod yX7_expect, Cond.selects RX7 yX7_expect yX7_expect, Cond.code yX7_expect cX7_expect 2 none, Cond.code yX7_readProduct cX7_readProduct 4 none, Cond.methodLink RX7 202 yX7_readFactor, Cond.instanceMethod yX7_readFactor, Cond.selects RX7 yX7_readFactor yX7_readFactor, Cond.methodLink RX7 193 yX7_readBasic, Cond.instanceMethod yX7_readBasic, Cond.selects RX7 yX7_readBasic yX7_readBasic, Cond.code yX7_readBoth cX7_readBoth 3 none]
def wsX7_parse_r11 : List Cond := [Cond.methodLink RX7 179 yX7_closeSort, Cond.instanceMethod yX7_closeSort, Cond.selects RX7 yX7_closeSort yX7_closeSort, Cond.code yX7_closeSort cX7_closeSort 2 none, Cond.fieldLink RX7 36 "BookOfAll$Reader" "to" "[I"]
def wsX7_parse : List Cond := .code yX7_parse cX7_parse 2 (some .int) :: ((wsX7_parse_r1 ++ (wsX7_parse_r2 ++ (wsX7_parse_r3 ++ (wsX7_parse_r4 ++ (wsX7_parse_r5 ++ (wsX7_parse_r6 ++ (wsX7_parse_r7 ++ (wsX7_parse_r8 ++ (wsX7_parse_r9 ++ (wsX7_parse_r10 ++ wsX7_parse_r11)))))))))) ++ wsX70)
def wsX8_put : List Cond := .code yX8_put cX8_put 4 (some .int) :: ([.fieldLink RX8 33 "BookOfAll$Rules" "sheetCount" "I", .fieldLink RX8 37 "BookOfAll$Rules" "puts" "I", .fieldLink RX8 17 "BookOfAll$Rules" "putSheet" "[I", .fieldLink RX8 21 "BookOfAll$Rules" "putVolume" "[I", .fieldLink RX8 24 "BookOfAll$Rules" "putDay" "[I"] ++ wsX80)
def wsX9_sortOf : List Cond := .code yX9_sortOf cX9_sortOf 3 (some .int) :: ([])
def wsX12_fault_r1 : List Cond := [Cond.fieldLink RX12 10 "BookOfAll" "reader" "LBookOfAll$Reader;", Cond.methodLink RX12 110 yX7_parse, Cond.instanceMethod yX7_parse, Cond.selects RX7 yX7_parse yX7_parse, Cond.initialized RX7, Cond.code yX7_parse cX7_parse 2 (some .int), Cond.fieldLink RX7 50 "BookOfAll$Reader" "fault" "I", Cond.fieldLink RX7 53 "BookOfAll$Reader" "next" "I", Cond.fieldLink RX7 56 "BookOfAll$Reader" "codeSize" "I", Cond.fieldLink RX7 59 "BookOfAll$Reader" "wordCount" "I", Cond.fieldLink RX7 33 "BookOfAll$Reader" "from" "[I", Cond.fieldLink RX7 43 "BookOfAll$Reader" "size" "I", Cond.methodLink RX7 47 yX7_scan, Cond.instanceMethod yX7_scan, Cond.selects RX7 yX7_scan yX7_scan, Cond.code yX7_scan cX7_scan 5 none, Cond.fieldLink RX7 106 "BookOfAll$Reader" "tokens" "I", Cond.methodLink RX7 109 yX7_byteAt, Cond.instanceMethod yX7_byteAt, Cond.selects RX7 yX7_byteAt yX7_byteAt, Cond.code yX7_byteAt cX7_byteAt 2 (some .int), Cond.fieldLink RX7 11 "BookOfAll$Reader" "bytes" "[B", Cond.methodLink RX7 112 yX7_kindAt, Cond.instanceMethod yX7_kindAt]
def wsX12_fault_r2 : List Cond := [Cond.selects RX7 yX7_kindAt yX7_kindAt, Cond.code yX7_kindAt cX7_kindAt 3 (some .int), Cond.methodLink RX7 122 yX7_isLetter, Cond.static yX7_isLetter, Cond.code yX7_isLetter cX7_isLetter 1 (some .boolean), Cond.methodLink RX7 126 yX0_isDigit, Cond.static yX0_isDigit, Cond.initialized RX0, Cond.code yX0_isDigit cX0_isDigit 1 (some .boolean), Cond.methodLink RX7 131 yX7_isSign, Cond.static yX7_isSign, Cond.code yX7_isSign cX7_isSign 1 (some .boolean), Cond.methodLink RX7 100 yJ0_indexOf_0f7a4, Cond.instanceMethod yJ0_indexOf_0f7a4, Cond.selects RJ0 yJ0_indexOf_0f7a4 yJ0_indexOf_0f7a4, Cond.initialized RJ0, Cond.code yJ0_indexOf_0f7a4 cJ0_indexOf_0f7a4 2 (some .int), Cond.methodLink RJ0 633 yJ0_indexOf_7cf53, Cond.instanceMethod yJ0_indexOf_7cf53, Cond.selects RJ0 yJ0_indexOf_7cf53 yJ0_indexOf_7cf53, Cond.code yJ0_indexOf_7cf53 cJ0_indexOf_7cf53 3 (some .int), Cond.fieldLink RJ0 9 "java/lang/String" "value" "[B", Cond.methodLink RJ0 492 yJ0_isLatin1_aae02, Cond.instanceMethod yJ0_isLatin1_aae02]
def wsX12_fault_r3 : List Cond := [Cond.selects RJ0 yJ0_isLatin1_aae02 yJ0_isLatin1_aae02, Cond.code yJ0_isLatin1_aae02 cJ0_isLatin1_aae02 1 (some .boolean), Cond.fieldLink RJ0 38 "java/lang/String" "COMPACT_STRINGS" "Z", Cond.fieldLink RJ0 15 "java/lang/String" "coder" "B", Cond.methodLink RJ0 505 yJ0_length_8abf5, Cond.instanceMethod yJ0_length_8abf5, Cond.selects RJ0 yJ0_length_8abf5 yJ0_length_8abf5, Cond.code yJ0_length_8abf5 cJ0_length_8abf5 1 (some .int), Cond.methodLink RJ0 335 yJ0_coder_7d493, Cond.instanceMethod yJ0_coder_7d493, Cond.selects RJ0 yJ0_coder_7d493 yJ0_coder_7d493, Cond.code yJ0_coder_7d493 cJ0_coder_7d493 1 (some .byte), Cond.methodLink RJ0 637 yJ1_indexOf_4cfef, Cond.static yJ1_indexOf_4cfef, Cond.initialized RJ1, Cond.code yJ1_indexOf_4cfef cJ1_indexOf_4cfef 4 (some .int), Cond.methodLink RJ1 92 Lib.Math.max.name, Cond.static Lib.Math.max.name, Cond.initialized "java/lang/Math", Cond.code Lib.Math.max.name Lib.Math.max.code 2 (some .int), Cond.methodLink RJ1 38 Lib.Math.min.name, Cond.static Lib.Math.min.name, Cond.code Lib.Math.min.name Lib.Math.min.code 2 (some .int), Cond.methodLink RJ1 88 yJ1_canEncode_9a6ad]
def wsX12_fault_r4 : List Cond := [Cond.static yJ1_canEncode_9a6ad, Cond.code yJ1_canEncode_9a6ad cJ1_canEncode_9a6ad 1 (some .boolean), Cond.methodLink RJ1 95 yJ1_indexOfChar_4cfef, Cond.static yJ1_indexOfChar_4cfef, Cond.code yJ1_indexOfChar_4cfef cJ1_indexOfChar_4cfef 6 (some .int), Cond.methodLink RJ0 640 yJ2_indexOf_4cfef, Cond.static yJ2_indexOf_4cfef, Cond.initialized RJ2, Cond.code yJ2_indexOf_4cfef cJ2_indexOf_4cfef 4 (some .int), Cond.methodLink RJ2 224 Lib.Math.max.name, Cond.methodLink RJ2 183 Lib.Math.min.name, Cond.constant RJ2 227 (65536), Cond.methodLink RJ2 228 yJ2_indexOfChar_4cfef, Cond.static yJ2_indexOfChar_4cfef, Cond.code yJ2_indexOfChar_4cfef cJ2_indexOfChar_4cfef 4 (some .int), Cond.methodLink RJ2 96 yJ2_checkBoundsBeginEnd_d044e, Cond.static yJ2_checkBoundsBeginEnd_d044e, Cond.code yJ2_checkBoundsBeginEnd_d044e cJ2_checkBoundsBeginEnd_d044e 3 none, Cond.methodLink RJ2 48 yJ2_length_9d52b, Cond.static yJ2_length_9d52b, Cond.code yJ2_length_9d52b cJ2_length_9d52b 1 (some .int), Cond.methodLink RJ2 241 yJ0_checkBoundsBeginEnd_23922, Cond.static yJ0_checkBoundsBeginEnd_23922, Cond.code yJ0_checkBoundsBeginEnd_23922 cJ0_checkBoundsBeginEnd_23922 3 none]
def wsX12_fault_r5 : List Cond := [Cond.fieldLink RJ0 1053 "jdk/internal/util/Preconditions" "SIOOBE_FORMATTER" "Ljava/util/function/BiFunction;", Cond.methodLink RJ0 1062 yJ3_checkFromToIndex_8c36e, Cond.static yJ3_checkFromToIndex_8c36e, Cond.initialized RJ3, Cond.code yJ3_checkFromToIndex_8c36e cJ3_checkFromToIndex_8c36e 4 (some .int), Cond.methodLink RJ2 244 yJ2_indexOfCharUnsafe_4cfef, Cond.static yJ2_indexOfCharUnsafe_4cfef, Cond.code yJ2_indexOfCharUnsafe_4cfef cJ2_indexOfCharUnsafe_4cfef 5 (some .int), Cond.methodLink RJ2 71 yJ2_getChar_3b067, Cond.static yJ2_getChar_3b067, Cond.code yJ2_getChar_3b067 cJ2_getChar_3b067 2 (some .char), Cond.fieldLink RJ2 44 "java/lang/StringUTF16" "$assertionsDisabled" "Z", Cond.fieldLink RJ2 59 "java/lang/StringUTF16" "HI_BYTE_SHIFT" "I", Cond.fieldLink RJ2 63 "java/lang/StringUTF16" "LO_BYTE_SHIFT" "I", Cond.methodLink RJ2 232 yJ2_indexOfSupplementary_4cfef, Cond.static yJ2_indexOfSupplementary_4cfef, Cond.code yJ2_indexOfSupplementary_4cfef cJ2_indexOfSupplementary_4cfef 7 (some .int), Cond.methodLink RJ2 164 yJ11_isValidCodePoint_9a6ad, Cond.static yJ11_isValidCodePoint_9a6ad, Cond.initialized RJ11, Cond.code yJ11_isValidCodePoint_9a6ad cJ11_isValidCodePoint_9a6ad 2 (some .boolean), Cond.methodLink RJ2 157 yJ11_highSurrogate_5068e, Cond.static yJ11_highSurrogate_5068e, Cond.code yJ11_highSurrogate_5068e cJ11_highSurrogate_5068e 1 (some .char)]
def wsX12_fault_r6 : List Cond := [Cond.constant RJ11 110 (55232), Cond.methodLink RJ2 161 yJ11_lowSurrogate_5068e, Cond.static yJ11_lowSurrogate_5068e, Cond.code yJ11_lowSurrogate_5068e cJ11_lowSurrogate_5068e 1 (some .char), Cond.constant RJ11 76 (56320), Cond.methodLink RX7 115 yX7_stopAt, Cond.instanceMethod yX7_stopAt, Cond.selects RX7 yX7_stopAt yX7_stopAt, Cond.code yX7_stopAt cX7_stopAt 4 (some .int), Cond.methodLink RX7 118 yX7_addToken, Cond.instanceMethod yX7_addToken, Cond.selects RX7 yX7_addToken yX7_addToken, Cond.code yX7_addToken cX7_addToken 4 none, Cond.fieldLink RX7 15 "BookOfAll$Reader" "kinds" "[I", Cond.fieldLink RX7 19 "BookOfAll$Reader" "starts" "[I", Cond.fieldLink RX7 22 "BookOfAll$Reader" "stops" "[I", Cond.fieldLink RX7 25 "BookOfAll$Reader" "values" "[I", Cond.methodLink RX7 134 yX7_wordAt, Cond.instanceMethod yX7_wordAt, Cond.selects RX7 yX7_wordAt yX7_wordAt, Cond.code yX7_wordAt cX7_wordAt 6 (some .int), Cond.methodLink RX7 143 yJ0_length_8abf5, Cond.methodLink RX7 146 yJ0_charAt_5068e, Cond.instanceMethod yJ0_charAt_5068e]
def wsX12_fault_r7 : List Cond := [Cond.selects RJ0 yJ0_charAt_5068e yJ0_charAt_5068e, Cond.code yJ0_charAt_5068e cJ0_charAt_5068e 2 (some .char), Cond.methodLink RJ0 495 yJ1_charAt_3b067, Cond.static yJ1_charAt_3b067, Cond.code yJ1_charAt_3b067 cJ1_charAt_3b067 2 (some .char), Cond.methodLink RJ1 9 yJ0_checkIndex_df160, Cond.static yJ0_checkIndex_df160, Cond.code yJ0_checkIndex_df160 cJ0_checkIndex_df160 2 none, Cond.methodLink RJ0 1059 yJ3_checkIndex_8e157, Cond.static yJ3_checkIndex_8e157, Cond.code yJ3_checkIndex_8e157 cJ3_checkIndex_8e157 3 (some .int), Cond.methodLink RJ0 498 yJ2_charAt_3b067, Cond.static yJ2_charAt_3b067, Cond.code yJ2_charAt_3b067 cJ2_charAt_3b067 2 (some .char), Cond.methodLink RJ2 67 yJ2_checkIndex_2214a, Cond.static yJ2_checkIndex_2214a, Cond.code yJ2_checkIndex_2214a cJ2_checkIndex_2214a 2 none, Cond.methodLink RJ2 414 yJ0_checkIndex_df160, Cond.methodLink RX7 150 yX7_isWordAt, Cond.instanceMethod yX7_isWordAt, Cond.selects RX7 yX7_isWordAt yX7_isWordAt, Cond.code yX7_isWordAt cX7_isWordAt 5 (some .boolean), Cond.methodLink RX7 137 yX7_numberAt, Cond.instanceMethod yX7_numberAt]
def wsX12_fault_r8 : List Cond := [Cond.selects RX7 yX7_numberAt yX7_numberAt, Cond.code yX7_numberAt cX7_numberAt 5 (some .int), Cond.constant RX7 140 (99999), Cond.methodLink RX7 62 yJ7_fill_53178, Cond.static yJ7_fill_53178, Cond.initialized RJ7, Cond.code yJ7_fill_53178 cJ7_fill_53178 4 none, Cond.methodLink RX7 68 yX7_kind, Cond.instanceMethod yX7_kind, Cond.selects RX7 yX7_kind yX7_kind, Cond.code yX7_kind cX7_kind 1 (some .int), Cond.methodLink RX7 72 yX7_readClause, Cond.instanceMethod yX7_readClause, Cond.selects RX7 yX7_readClause yX7_readClause, Cond.code yX7_readClause cX7_readClause 2 none, Cond.methodLink RX7 160 yX7_word, Cond.instanceMethod yX7_word, Cond.selects RX7 yX7_word yX7_word, Cond.code yX7_word cX7_word 1 (some .int), Cond.methodLink RX7 157 yX7_advance, Cond.instanceMethod yX7_advance, Cond.selects RX7 yX7_advance yX7_advance, Cond.code yX7_advance cX7_advance 1 none, Cond.methodLink RX7 163 yX7_readSkip]
def wsX12_fault_r9 : List Cond := [Cond.instanceMethod yX7_readSkip, Cond.selects RX7 yX7_readSkip yX7_readSkip, Cond.code yX7_readSkip cX7_readSkip 4 none, Cond.fieldLink RX7 39 "BookOfAll$Reader" "words" "[J", Cond.methodLink RX7 154 yX7_refuse, Cond.instanceMethod yX7_refuse, Cond.selects RX7 yX7_refuse yX7_refuse, Cond.code yX7_refuse cX7_refuse 1 none, Cond.methodLink RX7 166 yX7_openSort, Cond.instanceMethod yX7_openSort, Cond.selects RX7 yX7_openSort yX7_openSort, Cond.code yX7_openSort cX7_openSort 4 (some .int), Cond.methodLink RX7 169 yX7_readChoice, Cond.instanceMethod yX7_readChoice, Cond.selects RX7 yX7_readChoice yX7_readChoice, Cond.code yX7_readChoice cX7_readChoice 3 none, Cond.methodLink RX7 185 yX7_emit, Cond.instanceMethod yX7_emit, Cond.selects RX7 yX7_emit yX7_emit, Cond.code yX7_emit cX7_emit 2 none, Cond.fieldLink RX7 28 "BookOfAll$Reader" "code" "[I", Cond.methodLink RX7 173 yX7_readEither, Cond.instanceMethod yX7_readEither, Cond.selects RX7 yX7_readEither yX7_readEither]
def wsX12_fault_r10 : List Cond := [Cond.code yX7_readEither cX7_readEither 3 none, Cond.methodLink RX7 188 yX7_readBoth, Cond.instanceMethod yX7_readBoth, Cond.selects RX7 yX7_readBoth yX7_readBoth, Cond.code yX7_readBasic cX7_readBasic 3 none, Cond.methodLink RX7 196 yX7_readComparison, Cond.instanceMethod yX7_readComparison, Cond.selects RX7 yX7_readComparison yX7_readComparison, Cond.code yX7_readComparison cX7_readComparison 3 none, Cond.methodLink RX7 176 yX7_readSum, Cond.instanceMethod yX7_readSum, Cond.selects RX7 yX7_readSum yX7_readSum, Cond.code yX7_readSum cX7_readSum 4 none, Cond.methodLink RX7 199 yX7_readProduct, Cond.instanceMethod yX7_readProduct, Cond.selects RX7 yX7_readProduct yX7_readProduct, Cond.code yX7_readFactor cX7_readFactor 4 none, Cond.methodLink RX7 182 yX7_expect, Cond.instanceMethod yX7_expect, Cond.selects RX7 yX7_expect yX7_expect, Cond.code yX7_expect cX7_expect 2 none, Cond.code yX7_readProduct cX7_readProduct 4 none, Cond.methodLink RX7 202 yX7_readFactor, Cond.instanceMethod yX7_readFactor]
def wsX12_fault_r11 : List Cond := [Cond.selects RX7 yX7_readFactor yX7_readFactor, Cond.methodLink RX7 193 yX7_readBasic, Cond.instanceMethod yX7_readBasic, Cond.selects RX7 yX7_readBasic yX7_readBasic, Cond.code yX7_readBoth cX7_readBoth 3 none, Cond.methodLink RX7 179 yX7_closeSort, Cond.instanceMethod yX7_closeSort, Cond.selects RX7 yX7_closeSort yX7_closeSort, Cond.code yX7_closeSort cX7_closeSort 2 none, Cond.fieldLink RX7 36 "BookOfAll$Reader" "to" "[I"]
def wsX12_fault : List Cond := .code yX12_fault cX12_fault 1 (some .int) :: ((wsX12_fault_r1 ++ (wsX12_fault_r2 ++ (wsX12_fault_r3 ++ (wsX12_fault_r4 ++ (wsX12_fault_r5 ++ (wsX12_fault_r6 ++ (wsX12_fault_r7 ++ (wsX12_fault_r8 ++ (wsX12_fault_r9 ++ (wsX12_fault_r10 ++ wsX12_fault_r11)))))))))) ++ wsX120 ++ wsX70)
def wsX12_isVolume : List Cond := .code yX12_isVolume cX12_isVolume 2 (some .boolean) :: ([])
def wsX12_isSet : List Cond := .code yX12_isSet cX12_isSet 2 (some .boolean) :: ([.fieldLink RX12 158 "BookOfAll" "setBits" "I"] ++ wsX120)
def wsX12_entryAt : List Cond := .code yX12_entryAt cX12_entryAt 2 (some (.object "BookOfAll$Entry")) :: ([.fieldLink RX12 203 "BookOfAll" "entryCount" "I", .fieldLink RX12 43 "BookOfAll" "entries" "[LBookOfAll$Entry;"] ++ wsX120)
def wsX12_force_r1 : List Cond := [Cond.fieldLink RX12 19 "BookOfAll" "rules" "LBookOfAll$Rules;", Cond.fieldLink RX12 133 "BookOfAll" "now" "I", Cond.methodLink RX12 126 yX12_isVolume, Cond.instanceMethod yX12_isVolume, Cond.selects RX12 yX12_isVolume yX12_isVolume, Cond.initialized RX12, Cond.code yX12_isVolume cX12_isVolume 2 (some .boolean), Cond.methodLink RX12 130 yX12_isSet, Cond.instanceMethod yX12_isSet, Cond.selects RX12 yX12_isSet yX12_isSet, Cond.code yX12_isSet cX12_isSet 2 (some .boolean), Cond.fieldLink RX12 158 "BookOfAll" "setBits" "I", Cond.methodLink RX12 136 yX8_put, Cond.instanceMethod yX8_put, Cond.selects RX8 yX8_put yX8_put, Cond.initialized RX8, Cond.code yX8_put cX8_put 4 (some .int), Cond.fieldLink RX8 33 "BookOfAll$Rules" "sheetCount" "I", Cond.fieldLink RX8 37 "BookOfAll$Rules" "puts" "I", Cond.fieldLink RX8 17 "BookOfAll$Rules" "putSheet" "[I", Cond.fieldLink RX8 21 "BookOfAll$Rules" "putVolume" "[I", Cond.fieldLink RX8 24 "BookOfAll$Rules" "putDay" "[I", Cond.methodLink RX12 140 yX12_sortIntoVolumes, Cond.instanceMethod yX12_sortIntoVolumes]
def wsX12_force_r2 : List Cond := [Cond.selects RX12 yX12_sortIntoVolumes yX12_sortIntoVolumes, Cond.code yX12_sortIntoVolumes cX12_sortIntoVolumes 3 none, Cond.fieldLink RX12 28 "BookOfAll" "order" "LBookOfAll$Order;", Cond.fieldLink RX12 203 "BookOfAll" "entryCount" "I", Cond.fieldLink RX12 220 "BookOfAll$Entry" "keyVolume" "I", Cond.methodLink RX12 212 yX6_take, Cond.instanceMethod yX6_take, Cond.selects RX6 yX6_take yX6_take, Cond.initialized RX6, Cond.code yX6_take cX6_take 3 none, Cond.fieldLink RX6 13 "BookOfAll$Order" "volume" "I", Cond.fieldLink RX6 17 "BookOfAll$Order" "day" "I", Cond.fieldLink RX6 20 "BookOfAll$Order" "skips" "Z", Cond.fieldLink RX6 7 "BookOfAll$Order" "rules" "LBookOfAll$Rules;", Cond.fieldLink RX6 32 "BookOfAll$Order" "blanksCount" "Z", Cond.fieldLink RX6 35 "BookOfAll$Order" "numbersFirst" "Z", Cond.methodLink RX6 26 yX8_valueOf, Cond.instanceMethod yX8_valueOf, Cond.selects RX8 yX8_valueOf yX8_valueOf, Cond.code yX8_valueOf cX8_valueOf 6 (some .int), Cond.fieldLink RX8 58 "BookOfAll$Rules" "WITHOUT" "[I", Cond.fieldLink RX8 13 "BookOfAll$Rules" "sheets" "[LBookOfAll$Sheet;", Cond.methodLink RX8 61 yX8_inForce, Cond.instanceMethod yX8_inForce]
def wsX12_force_r3 : List Cond := [Cond.selects RX8 yX8_inForce yX8_inForce, Cond.code yX8_inForce cX8_inForce 6 (some .int), Cond.methodLink RX8 40 yX8_sheetOfPut, Cond.instanceMethod yX8_sheetOfPut, Cond.selects RX8 yX8_sheetOfPut yX8_sheetOfPut, Cond.code yX8_sheetOfPut cX8_sheetOfPut 6 (some (.object "BookOfAll$Sheet")), Cond.methodLink RX8 44 yX9_has, Cond.instanceMethod yX9_has, Cond.selects RX9 yX9_has yX9_has, Cond.initialized RX9, Cond.code yX9_has cX9_has 2 (some .boolean), Cond.fieldLink RX9 11 "BookOfAll$Sheet" "from" "[I", Cond.methodLink RX8 65 yX8_run, Cond.instanceMethod yX8_run, Cond.selects RX8 yX8_run yX8_run, Cond.code yX8_run cX8_run 7 (some .int), Cond.fieldLink RX8 69 "BookOfAll$Sheet" "to" "[I", Cond.fieldLink RX8 72 "BookOfAll$Sheet" "from" "[I", Cond.fieldLink RX8 75 "BookOfAll$Sheet" "code" "[I", Cond.fieldLink RX8 30 "BookOfAll$Rules" "stack" "[I", Cond.fieldLink RX8 27 "BookOfAll$Rules" "names" "[I", Cond.methodLink RX8 78 yX8_combine, Cond.static yX8_combine, Cond.code yX8_combine cX8_combine 5 (some .int)]
def wsX12_force_r4 : List Cond := [Cond.constantLong RX8 81 (-1000000), Cond.constantLong RX8 83 (1000000), Cond.methodLink RX8 85 Lib.MathLoose.min_long.x, Cond.static Lib.MathLoose.min_long.x, Cond.initialized "java/lang/Math", Cond.code Lib.MathLoose.min_long.x Lib.MathLoose.min_long.code 4 (some .long), Cond.methodLink RX8 91 Lib.MathLoose.max_long.x, Cond.static Lib.MathLoose.max_long.x, Cond.code Lib.MathLoose.max_long.x Lib.MathLoose.max_long.code 4 (some .long), Cond.methodLink RX12 189 yX12_entryAt, Cond.instanceMethod yX12_entryAt, Cond.selects RX12 yX12_entryAt yX12_entryAt, Cond.code yX12_entryAt cX12_entryAt 2 (some (.object "BookOfAll$Entry")), Cond.fieldLink RX12 43 "BookOfAll" "entries" "[LBookOfAll$Entry;", Cond.methodLink RX12 216 yX12_volumeByKey, Cond.instanceMethod yX12_volumeByKey, Cond.selects RX12 yX12_volumeByKey yX12_volumeByKey, Cond.code yX12_volumeByKey cX12_volumeByKey 5 (some .int), Cond.fieldLink RX12 227 "BookOfAll$Entry" "keyStart" "I", Cond.fieldLink RX12 236 "BookOfAll$Order" "numbersFirst" "Z", Cond.methodLink RX12 223 yX6_prepare, Cond.instanceMethod yX6_prepare, Cond.selects RX6 yX6_prepare yX6_prepare, Cond.code yX6_prepare cX6_prepare 3 none]
def wsX12_force_r5 : List Cond := [Cond.fieldLink RX6 38 "BookOfAll$Entry" "secondWord" "I", Cond.fieldLink RX6 43 "BookOfAll$Entry" "firstWord" "J", Cond.fieldLink RX6 50 "BookOfAll$Entry" "keyStart" "I", Cond.methodLink RX6 47 yX8_skips, Cond.instanceMethod yX8_skips, Cond.selects RX8 yX8_skips yX8_skips, Cond.code yX8_skips cX8_skips 7 (some .boolean), Cond.methodLink RX8 48 yX9_hasWord, Cond.instanceMethod yX9_hasWord, Cond.selects RX9 yX9_hasWord yX9_hasWord, Cond.code yX9_hasWord cX9_hasWord 4 (some .boolean), Cond.fieldLink RX9 15 "BookOfAll$Sheet" "words" "[J", Cond.methodLink RX12 230 yX0_byteAt, Cond.instanceMethod yX0_byteAt, Cond.selects RX0 yX0_byteAt yX0_byteAt, Cond.initialized RX0, Cond.code yX0_byteAt cX0_byteAt 2 (some .int), Cond.fieldLink RX0 36 "BookOfAll$Entry" "heading" "[B", Cond.methodLink RX12 233 yX0_isDigit, Cond.static yX0_isDigit, Cond.code yX0_isDigit cX0_isDigit 1 (some .boolean), Cond.methodLink RX12 161 yX12_lastLetter, Cond.instanceMethod yX12_lastLetter, Cond.selects RX12 yX12_lastLetter yX12_lastLetter]
def wsX12_force_r6 : List Cond := [Cond.code yX12_lastLetter cX12_lastLetter 3 (some .int), Cond.fieldLink RX12 164 "BookOfAll$Volume" "lastLetter" "I", Cond.methodLink RX12 166 yX12_volumeAt, Cond.instanceMethod yX12_volumeAt, Cond.selects RX12 yX12_volumeAt yX12_volumeAt, Cond.code yX12_volumeAt cX12_volumeAt 2 (some (.object "BookOfAll$Volume")), Cond.fieldLink RX12 34 "BookOfAll" "volumes" "[LBookOfAll$Volume;"]
def wsX12_force : List Cond := .code yX12_force cX12_force 5 (some .int) :: ((wsX12_force_r1 ++ (wsX12_force_r2 ++ (wsX12_force_r3 ++ (wsX12_force_r4 ++ (wsX12_force_r5 ++ wsX12_force_r6))))) ++ wsX120 ++ wsX80 ++ wsX00 ++ wsX60 ++ wsX90 ++ wsX110)
def wsX12_rule_r1 : List Cond := [Cond.fieldLink RX12 133 "BookOfAll" "now" "I", Cond.fieldLink RX12 19 "BookOfAll" "rules" "LBookOfAll$Rules;", Cond.methodLink RX12 143 yX9_sortOf, Cond.static yX9_sortOf, Cond.initialized RX9, Cond.code yX9_sortOf cX9_sortOf 3 (some .int), Cond.methodLink RX12 126 yX12_isVolume, Cond.instanceMethod yX12_isVolume, Cond.selects RX12 yX12_isVolume yX12_isVolume, Cond.initialized RX12, Cond.code yX12_isVolume cX12_isVolume 2 (some .boolean), Cond.methodLink RX12 149 yX8_inForce, Cond.instanceMethod yX8_inForce, Cond.selects RX8 yX8_inForce yX8_inForce, Cond.initialized RX8, Cond.code yX8_inForce cX8_inForce 6 (some .int), Cond.fieldLink RX8 37 "BookOfAll$Rules" "puts" "I", Cond.fieldLink RX8 17 "BookOfAll$Rules" "putSheet" "[I", Cond.methodLink RX8 40 yX8_sheetOfPut, Cond.instanceMethod yX8_sheetOfPut, Cond.selects RX8 yX8_sheetOfPut yX8_sheetOfPut, Cond.code yX8_sheetOfPut cX8_sheetOfPut 6 (some (.object "BookOfAll$Sheet")), Cond.fieldLink RX8 24 "BookOfAll$Rules" "putDay" "[I", Cond.fieldLink RX8 21 "BookOfAll$Rules" "putVolume" "[I"]
def wsX12_rule_r2 : List Cond := [Cond.fieldLink RX8 13 "BookOfAll$Rules" "sheets" "[LBookOfAll$Sheet;", Cond.methodLink RX8 44 yX9_has, Cond.instanceMethod yX9_has, Cond.selects RX9 yX9_has yX9_has, Cond.code yX9_has cX9_has 2 (some .boolean), Cond.fieldLink RX9 11 "BookOfAll$Sheet" "from" "[I"]
def wsX12_rule : List Cond := .code yX12_rule cX12_rule 5 (some .int) :: ((wsX12_rule_r1 ++ wsX12_rule_r2) ++ wsX120 ++ wsX80 ++ wsX90)
def wsX12_pointer_r1 : List Cond := [Cond.fieldLink RX12 193 "BookOfAll$Entry" "to" "I", Cond.fieldLink RX12 186 "BookOfAll$Entry" "number" "I", Cond.methodLink RX12 189 yX12_entryAt, Cond.instanceMethod yX12_entryAt, Cond.selects RX12 yX12_entryAt yX12_entryAt, Cond.initialized RX12, Cond.code yX12_entryAt cX12_entryAt 2 (some (.object "BookOfAll$Entry")), Cond.fieldLink RX12 203 "BookOfAll" "entryCount" "I", Cond.fieldLink RX12 43 "BookOfAll" "entries" "[LBookOfAll$Entry;", Cond.methodLink RX12 173 yX12_newEntry, Cond.instanceMethod yX12_newEntry, Cond.selects RX12 yX12_newEntry yX12_newEntry, Cond.code yX12_newEntry cX12_newEntry 7 (some (.object "BookOfAll$Entry")), Cond.classLink RX12 41 RX0, Cond.instantiable RX0 18, Cond.initialized RX0, Cond.fieldLink RX12 28 "BookOfAll" "order" "LBookOfAll$Order;", Cond.fieldLink RX12 133 "BookOfAll" "now" "I", Cond.fieldLink RX12 220 "BookOfAll$Entry" "keyVolume" "I", Cond.methodLink RX12 200 yX0_headingSize, Cond.static yX0_headingSize, Cond.code yX0_headingSize cX0_headingSize 8 (some .int), Cond.methodLink RX0 44 yX0_byteOf, Cond.static yX0_byteOf]
def wsX12_pointer_r2 : List Cond := [Cond.code yX0_byteOf cX0_byteOf 5 (some .int), Cond.methodLink RX0 48 yX0_isMark, Cond.static yX0_isMark, Cond.code yX0_isMark cX0_isMark 1 (some .boolean), Cond.methodLink RX0 40 yX0_isDigit, Cond.static yX0_isDigit, Cond.code yX0_isDigit cX0_isDigit 1 (some .boolean), Cond.methodLink RX12 206 yX0_init, Cond.instanceMethod yX0_init, Cond.code yX0_init cX0_init 4 none, Cond.methodLink RX0 3 objectInit, Cond.instanceMethod objectInit, Cond.code objectInit ⟨#[0xb1]⟩ 1 none, Cond.fieldLink RX0 9 "BookOfAll$Entry" "to" "I", Cond.fieldLink RX0 15 "BookOfAll$Entry" "setWith" "I", Cond.fieldLink RX0 18 "BookOfAll$Entry" "begins" "I", Cond.fieldLink RX0 21 "BookOfAll$Entry" "hand" "I", Cond.fieldLink RX0 24 "BookOfAll$Entry" "number" "I", Cond.fieldLink RX0 27 "BookOfAll$Entry" "kind" "I", Cond.methodLink RX0 30 Lib.Math.max.name, Cond.static Lib.Math.max.name, Cond.initialized "java/lang/Math", Cond.code Lib.Math.max.name Lib.Math.max.code 2 (some .int), Cond.arrayClass .byte]
def wsX12_pointer_r3 : List Cond := [Cond.fieldLink RX0 36 "BookOfAll$Entry" "heading" "[B", Cond.methodLink RX12 209 yX0_readHeading, Cond.instanceMethod yX0_readHeading, Cond.selects RX0 yX0_readHeading yX0_readHeading, Cond.code yX0_readHeading cX0_readHeading 5 none, Cond.fieldLink RX0 51 "BookOfAll$Entry" "firstWord" "J", Cond.fieldLink RX0 55 "BookOfAll$Entry" "secondWord" "I", Cond.methodLink RX12 212 yX6_take, Cond.instanceMethod yX6_take, Cond.selects RX6 yX6_take yX6_take, Cond.initialized RX6, Cond.code yX6_take cX6_take 3 none, Cond.fieldLink RX6 13 "BookOfAll$Order" "volume" "I", Cond.fieldLink RX6 17 "BookOfAll$Order" "day" "I", Cond.fieldLink RX6 20 "BookOfAll$Order" "skips" "Z", Cond.fieldLink RX6 7 "BookOfAll$Order" "rules" "LBookOfAll$Rules;", Cond.fieldLink RX6 32 "BookOfAll$Order" "blanksCount" "Z", Cond.fieldLink RX6 35 "BookOfAll$Order" "numbersFirst" "Z", Cond.methodLink RX6 26 yX8_valueOf, Cond.instanceMethod yX8_valueOf, Cond.selects RX8 yX8_valueOf yX8_valueOf, Cond.initialized RX8, Cond.code yX8_valueOf cX8_valueOf 6 (some .int), Cond.fieldLink RX8 58 "BookOfAll$Rules" "WITHOUT" "[I"]
def wsX12_pointer_r4 : List Cond := [Cond.fieldLink RX8 13 "BookOfAll$Rules" "sheets" "[LBookOfAll$Sheet;", Cond.methodLink RX8 61 yX8_inForce, Cond.instanceMethod yX8_inForce, Cond.selects RX8 yX8_inForce yX8_inForce, Cond.code yX8_inForce cX8_inForce 6 (some .int), Cond.fieldLink RX8 37 "BookOfAll$Rules" "puts" "I", Cond.fieldLink RX8 17 "BookOfAll$Rules" "putSheet" "[I", Cond.methodLink RX8 40 yX8_sheetOfPut, Cond.instanceMethod yX8_sheetOfPut, Cond.selects RX8 yX8_sheetOfPut yX8_sheetOfPut, Cond.code yX8_sheetOfPut cX8_sheetOfPut 6 (some (.object "BookOfAll$Sheet")), Cond.fieldLink RX8 24 "BookOfAll$Rules" "putDay" "[I", Cond.fieldLink RX8 21 "BookOfAll$Rules" "putVolume" "[I", Cond.methodLink RX8 44 yX9_has, Cond.instanceMethod yX9_has, Cond.selects RX9 yX9_has yX9_has, Cond.initialized RX9, Cond.code yX9_has cX9_has 2 (some .boolean), Cond.fieldLink RX9 11 "BookOfAll$Sheet" "from" "[I", Cond.methodLink RX8 65 yX8_run, Cond.instanceMethod yX8_run, Cond.selects RX8 yX8_run yX8_run, Cond.code yX8_run cX8_run 7 (some .int), Cond.fieldLink RX8 69 "BookOfAll$Sheet" "to" "[I"]
def wsX12_pointer_r5 : List Cond := [Cond.fieldLink RX8 72 "BookOfAll$Sheet" "from" "[I", Cond.fieldLink RX8 75 "BookOfAll$Sheet" "code" "[I", Cond.fieldLink RX8 30 "BookOfAll$Rules" "stack" "[I", Cond.fieldLink RX8 27 "BookOfAll$Rules" "names" "[I", Cond.methodLink RX8 78 yX8_combine, Cond.static yX8_combine, Cond.code yX8_combine cX8_combine 5 (some .int), Cond.constantLong RX8 81 (-1000000), Cond.constantLong RX8 83 (1000000), Cond.methodLink RX8 85 Lib.MathLoose.min_long.x, Cond.static Lib.MathLoose.min_long.x, Cond.code Lib.MathLoose.min_long.x Lib.MathLoose.min_long.code 4 (some .long), Cond.methodLink RX8 91 Lib.MathLoose.max_long.x, Cond.static Lib.MathLoose.max_long.x, Cond.code Lib.MathLoose.max_long.x Lib.MathLoose.max_long.code 4 (some .long), Cond.methodLink RX12 216 yX12_volumeByKey, Cond.instanceMethod yX12_volumeByKey, Cond.selects RX12 yX12_volumeByKey yX12_volumeByKey, Cond.code yX12_volumeByKey cX12_volumeByKey 5 (some .int), Cond.fieldLink RX12 227 "BookOfAll$Entry" "keyStart" "I", Cond.fieldLink RX12 236 "BookOfAll$Order" "numbersFirst" "Z", Cond.methodLink RX12 223 yX6_prepare, Cond.instanceMethod yX6_prepare, Cond.selects RX6 yX6_prepare yX6_prepare]
def wsX12_pointer_r6 : List Cond := [Cond.code yX6_prepare cX6_prepare 3 none, Cond.fieldLink RX6 38 "BookOfAll$Entry" "secondWord" "I", Cond.fieldLink RX6 43 "BookOfAll$Entry" "firstWord" "J", Cond.fieldLink RX6 50 "BookOfAll$Entry" "keyStart" "I", Cond.methodLink RX6 47 yX8_skips, Cond.instanceMethod yX8_skips, Cond.selects RX8 yX8_skips yX8_skips, Cond.code yX8_skips cX8_skips 7 (some .boolean), Cond.methodLink RX8 48 yX9_hasWord, Cond.instanceMethod yX9_hasWord, Cond.selects RX9 yX9_hasWord yX9_hasWord, Cond.code yX9_hasWord cX9_hasWord 4 (some .boolean), Cond.fieldLink RX9 15 "BookOfAll$Sheet" "words" "[J", Cond.methodLink RX12 230 yX0_byteAt, Cond.instanceMethod yX0_byteAt, Cond.selects RX0 yX0_byteAt yX0_byteAt, Cond.code yX0_byteAt cX0_byteAt 2 (some .int), Cond.methodLink RX12 233 yX0_isDigit, Cond.methodLink RX12 161 yX12_lastLetter, Cond.instanceMethod yX12_lastLetter, Cond.selects RX12 yX12_lastLetter yX12_lastLetter, Cond.code yX12_lastLetter cX12_lastLetter 3 (some .int), Cond.fieldLink RX12 164 "BookOfAll$Volume" "lastLetter" "I", Cond.methodLink RX12 166 yX12_volumeAt]
def wsX12_pointer_r7 : List Cond := [Cond.instanceMethod yX12_volumeAt, Cond.selects RX12 yX12_volumeAt yX12_volumeAt, Cond.code yX12_volumeAt cX12_volumeAt 2 (some (.object "BookOfAll$Volume")), Cond.fieldLink RX12 34 "BookOfAll" "volumes" "[LBookOfAll$Volume;", Cond.methodLink RX12 126 yX12_isVolume, Cond.instanceMethod yX12_isVolume, Cond.selects RX12 yX12_isVolume yX12_isVolume, Cond.code yX12_isVolume cX12_isVolume 2 (some .boolean)]
def wsX12_pointer : List Cond := .code yX12_pointer cX12_pointer 6 (some .int) :: ((wsX12_pointer_r1 ++ (wsX12_pointer_r2 ++ (wsX12_pointer_r3 ++ (wsX12_pointer_r4 ++ (wsX12_pointer_r5 ++ (wsX12_pointer_r6 ++ wsX12_pointer_r7)))))) ++ wsX00 ++ wsX120 ++ wsX60 ++ wsX80 ++ wsX90 ++ wsX110)
def wsX12_handAt : List Cond := .code yX12_handAt cX12_handAt 2 (some (.object "BookOfAll$Hand")) :: ([.fieldLink RX12 292 "BookOfAll" "handCount" "I", .fieldLink RX12 53 "BookOfAll" "hands" "[LBookOfAll$Hand;"] ++ wsX120)
def wsX12_known : List Cond := .code yX12_known cX12_known 4 (some .int) :: ([.fieldLink RX12 66 "BookOfAll" "news" "LBookOfAll$News;", .methodLink RX12 389 yX5_valueOn, .instanceMethod yX5_valueOn, .selects RX5 yX5_valueOn yX5_valueOn, .initialized RX5, .code yX5_valueOn cX5_valueOn 4 (some .int), .fieldLink RX5 15 "BookOfAll$News" "value" "[I", .methodLink RX5 53 yX5_tellOn, .instanceMethod yX5_tellOn, .selects RX5 yX5_tellOn yX5_tellOn, .code yX5_tellOn cX5_tellOn 5 (some .int), .fieldLink RX5 11 "BookOfAll$News" "latest" "[I", .fieldLink RX5 21 "BookOfAll$News" "day" "[I", .fieldLink RX5 24 "BookOfAll$News" "earlier" "[I", .methodLink RX12 412 yX5_sourceOn, .instanceMethod yX5_sourceOn, .selects RX5 yX5_sourceOn yX5_sourceOn, .code yX5_sourceOn cX5_sourceOn 4 (some .int), .fieldLink RX5 18 "BookOfAll$News" "source" "[I"] ++ wsX120 ++ wsX50)
def wsX12_forget : List Cond := .code yX12_forget cX12_forget 2 (some .int) :: ([.fieldLink RX12 99 "BookOfAll" "robber" "LBookOfAll$Thief;", .fieldLink RX12 574 "BookOfAll$Thief" "size" "I"] ++ wsX120 ++ wsX100)
def wsX12_payOfAll : List Cond := .code yX12_payOfAll cX12_payOfAll 4 (some .int) :: ([.fieldLink RX12 292 "BookOfAll" "handCount" "I", .fieldLink RX12 388 "BookOfAll$Hand" "pay" "I", .methodLink RX12 296 yX12_handAt, .instanceMethod yX12_handAt, .selects RX12 yX12_handAt yX12_handAt, .initialized RX12, .code yX12_handAt cX12_handAt 2 (some (.object "BookOfAll$Hand")), .fieldLink RX12 53 "BookOfAll" "hands" "[LBookOfAll$Hand;"] ++ wsX120 ++ wsX20)
def wsX12_countOfHand : List Cond := .code yX12_countOfHand cX12_countOfHand 5 (some .int) :: ([.fieldLink RX12 388 "BookOfAll$Hand" "pay" "I", .fieldLink RX12 300 "BookOfAll$Hand" "lives" "Z", .methodLink RX12 296 yX12_handAt, .instanceMethod yX12_handAt, .selects RX12 yX12_handAt yX12_handAt, .initialized RX12, .code yX12_handAt cX12_handAt 2 (some (.object "BookOfAll$Hand")), .fieldLink RX12 292 "BookOfAll" "handCount" "I", .fieldLink RX12 53 "BookOfAll" "hands" "[LBookOfAll$Hand;"] ++ wsX20 ++ wsX120)
def wsX12_count_r1 : List Cond := [Cond.fieldLink RX12 133 "BookOfAll" "now" "I", Cond.fieldLink RX12 203 "BookOfAll" "entryCount" "I", Cond.fieldLink RX12 292 "BookOfAll" "handCount" "I", Cond.fieldLink RX12 370 "BookOfAll" "lineCount" "I", Cond.fieldLink RX12 19 "BookOfAll" "rules" "LBookOfAll$Rules;", Cond.fieldLink RX12 590 "BookOfAll$Rules" "sheetCount" "I", Cond.fieldLink RX12 66 "BookOfAll" "news" "LBookOfAll$News;", Cond.fieldLink RX12 593 "BookOfAll$News" "errata" "I", Cond.fieldLink RX12 158 "BookOfAll" "setBits" "I", Cond.fieldLink RX12 10 "BookOfAll" "reader" "LBookOfAll$Reader;", Cond.fieldLink RX12 103 "BookOfAll$Reader" "size" "I", Cond.methodLink RX12 596 yX12_payOfAll, Cond.instanceMethod yX12_payOfAll, Cond.selects RX12 yX12_payOfAll yX12_payOfAll, Cond.initialized RX12, Cond.code yX12_payOfAll cX12_payOfAll 4 (some .int), Cond.fieldLink RX12 388 "BookOfAll$Hand" "pay" "I", Cond.methodLink RX12 296 yX12_handAt, Cond.instanceMethod yX12_handAt, Cond.selects RX12 yX12_handAt yX12_handAt, Cond.code yX12_handAt cX12_handAt 2 (some (.object "BookOfAll$Hand")), Cond.fieldLink RX12 53 "BookOfAll" "hands" "[LBookOfAll$Hand;", Cond.methodLink RX12 599 yX12_countOfHand, Cond.instanceMethod yX12_countOfHand]
def wsX12_count_r2 : List Cond := [Cond.selects RX12 yX12_countOfHand yX12_countOfHand, Cond.code yX12_countOfHand cX12_countOfHand 5 (some .int), Cond.fieldLink RX12 300 "BookOfAll$Hand" "lives" "Z"]
def wsX12_count : List Cond := .code yX12_count cX12_count 2 (some .int) :: ((wsX12_count_r1 ++ wsX12_count_r2) ++ wsX120 ++ wsX80 ++ wsX50 ++ wsX70 ++ wsX20)
set_option maxRecDepth 20000 in
theorem wsL_law_in : ∀ w ∈ wsL_law, w ∈ lw_tbl := fun w h => (goodIn_p wsL_law [173, 176, 181, 237, 271, 298, 302, 340, 344, 389, 418, 456, 1637, 533, 537, 1955, 541, 1959, 1962, 545, 549, 553, 557, 561, 564, 567, 570, 575, 579, 583, 589, 593, 596, 602, 599, 606, 609, 615, 618, 621, 624, 629, 632, 635, 644, 647, 650, 654, 659, 663, 667, 673, 676, 679, 682, 685, 688, 693, 697, 703, 707, 711, 715, 719, 723, 727, 731, 735, 739, 747, 751, 755, 763, 767, 759, 743, 771, 1966, 1970, 1974, 1977, 1981, 1987, 1992, 1996, 2000, 2004, 2008, 2012, 2016, 2020, 2024, 2028, 2032, 2036, 2040, 2045, 2049, 2053, 2057, 775, 779, 783, 788, 811, 827, 836, 2061, 840, 844, 848, 852, 856, 860, 864, 870, 874, 878, 882, 885, 890, 893, 897, 901, 905, 909, 913, 917, 922, 926, 2065, 2068, 930, 933, 2072, 2076, 938, 2080, 943, 2084, 947, 951, 954, 957, 960, 965, 1039, 2088, 2092, 2096, 1043, 2100, 2104, 1047, 1051, 2108, 1055, 1059, 2112, 1063, 1067, 1071, 2156, 2160, 2120, 2124, 2128, 2132, 2135, 2139, 2142, 2145, 2152, 1075, 2164, 1079, 1083, 2116, 1087, 1091, 1095, 1099, 1103, 1108, 2168, 2172, 2176, 2180, 1113, 1118, 2184, 1122, 1127, 2188, 1155, 1159, 2193, 2197, 1163, 1167, 1171, 1175, 1179, 1183, 1187, 1191, 1194, 1201, 1205, 1209, 2201, 2205, 2209, 2213, 2217, 2221, 2225, 2229, 1214, 1218, 1222, 1226, 1230, 1234, 1275, 2233, 2237, 2241, 1280, 2245, 2249, 1284, 1288, 2253, 1292, 1296, 2257, 1300, 1304, 2261, 1308, 1312, 1316, 2265, 2269, 2273, 2277, 1320, 2281, 1324, 1328, 2285, 2289, 1332, 1336, 2293, 1340, 1344, 2297, 1348, 1352, 2301, 1356, 1360, 1364, 1368, 1372, 1377, 1381, 1385, 2305, 2309, 1389, 2313, 1393, 1397, 1401, 1405, 2325, 2329, 2321, 1409, 2317, 1413, 2333, 1417, 1421, 2337, 1425, 1429, 1433, 2341, 1438, 1442, 1446, 1450, 1454, 1458, 1464, 1468, 1472, 1475, 1479, 2345, 2349, 2352, 1483, 1487, 2356, 1491, 1495, 1499, 1506, 1510, 1514, 1518, 1522, 1526, 1530, 1534, 1538, 1544, 1547, 1552, 1557, 2360, 2364, 2369, 1561, 1565, 2373, 1570, 1574, 2377, 1578, 1582, 2381, 1586, 2385, 1590, 1594, 1598, 1603, 1607, 1611, 2389, 2393, 2397, 1616, 1620, 2401, 1624, 1628, 1632, 2405] (by decide +kernel) (by decide +kernel) w h).1
theorem inlX0 : ∀ w ∈ wsX00, w ∈ wsL_law := fun _ h => List.mem_append_left _ (List.mem_append_left _ (List.mem_append_left _ (List.mem_append_right _ h)))
theorem inX0 : ∀ w ∈ wsX00, w ∈ lw_tbl := fun w h => wsL_law_in w (inlX0 w h)
theorem inlX1 : ∀ w ∈ wsX10, w ∈ wsL_law := fun _ h => List.mem_append_left _ (List.mem_append_left _ (List.mem_append_left _ (List.mem_append_left _ (List.mem_append_left _ (List.mem_append_left _ (List.mem_append_right _ h))))))
theorem inX1 : ∀ w ∈ wsX10, w ∈ lw_tbl := fun w h => wsL_law_in w (inlX1 w h)
theorem inlX2 : ∀ w ∈ wsX20, w ∈ wsL_law := fun _ h => List.mem_append_left _ (List.mem_append_left _ (List.mem_append_right _ h))
theorem inX2 : ∀ w ∈ wsX20, w ∈ lw_tbl := fun w h => wsL_law_in w (inlX2 w h)
theorem inlX3 : ∀ w ∈ wsX30, w ∈ wsL_law := fun _ h => List.mem_append_left _ (List.mem_append_left _ (List.mem_append_left _ (List.mem_append_left _ (List.mem_append_left _ (List.mem_append_left _ (List.mem_append_left _ (List.mem_append_right _ h)))))))
theorem inX3 : ∀ w ∈ wsX30, w ∈ lw_tbl := fun w h => wsL_law_in w (inlX3 w h)
theorem inlX4 : ∀ w ∈ wsX40, w ∈ wsL_law := fun _ h => List.mem_append_left _ (List.mem_append_right _ h)
theorem inX4 : ∀ w ∈ wsX40, w ∈ lw_tbl := fun w h => wsL_law_in w (inlX4 w h)
theorem inlX5 : ∀ w ∈ wsX50, w ∈ wsL_law := fun _ h => List.mem_append_left _ (List.mem_append_left _ (List.mem_append_left _ (List.mem_append_left _ (List.mem_append_left _ (List.mem_append_left _ (List.mem_append_left _ (List.mem_append_left _ (List.mem_append_right _ h))))))))
theorem inX5 : ∀ w ∈ wsX50, w ∈ lw_tbl := fun w h => wsL_law_in w (inlX5 w h)
theorem inlX6 : ∀ w ∈ wsX60, w ∈ wsL_law := fun _ h => List.mem_append_left _ (List.mem_append_left _ (List.mem_append_left _ (List.mem_append_left _ (List.mem_append_left _ (List.mem_append_left _ (List.mem_append_left _ (List.mem_append_left _ (List.mem_append_left _ (List.mem_append_left _ (List.mem_append_right _ h))))))))))
theorem inX6 : ∀ w ∈ wsX60, w ∈ lw_tbl := fun w h => wsL_law_in w (inlX6 w h)
theorem inlX7 : ∀ w ∈ wsX70, w ∈ wsL_law := fun _ h => List.mem_append_left _ (List.mem_append_left _ (List.mem_append_left _ (List.mem_append_left _ (List.mem_append_left _ (List.mem_append_left _ (List.mem_append_left _ (List.mem_append_left _ (List.mem_append_left _ (List.mem_append_left _ (List.mem_append_left _ (List.mem_append_left _ (List.mem_append_right _ h))))))))))))
theorem inX7 : ∀ w ∈ wsX70, w ∈ lw_tbl := fun w h => wsL_law_in w (inlX7 w h)
theorem inlX8 : ∀ w ∈ wsX80, w ∈ wsL_law := fun _ h => List.mem_append_left _ (List.mem_append_left _ (List.mem_append_left _ (List.mem_append_left _ (List.mem_append_left _ (List.mem_append_left _ (List.mem_append_left _ (List.mem_append_left _ (List.mem_append_left _ (List.mem_append_left _ (List.mem_append_left _ (List.mem_append_right _ h)))))))))))
theorem inX8 : ∀ w ∈ wsX80, w ∈ lw_tbl := fun w h => wsL_law_in w (inlX8 w h)
theorem inlX9 : ∀ w ∈ wsX90, w ∈ wsL_law := fun _ h => List.mem_append_left _ (List.mem_append_left _ (List.mem_append_left _ (List.mem_append_left _ (List.mem_append_right _ h))))
theorem inX9 : ∀ w ∈ wsX90, w ∈ lw_tbl := fun w h => wsL_law_in w (inlX9 w h)
theorem inlX10 : ∀ w ∈ wsX100, w ∈ wsL_law := fun _ h => List.mem_append_left _ (List.mem_append_left _ (List.mem_append_left _ (List.mem_append_left _ (List.mem_append_left _ (List.mem_append_right _ h)))))
theorem inX10 : ∀ w ∈ wsX100, w ∈ lw_tbl := fun w h => wsL_law_in w (inlX10 w h)
theorem inlX11 : ∀ w ∈ wsX110, w ∈ wsL_law := fun _ h => List.mem_append_left _ (List.mem_append_left _ (List.mem_append_left _ (List.mem_append_left _ (List.mem_append_left _ (List.mem_append_left _ (List.mem_append_left _ (List.mem_append_left _ (List.mem_append_left _ (List.mem_append_right _ h)))))))))
theorem inX11 : ∀ w ∈ wsX110, w ∈ lw_tbl := fun w h => wsL_law_in w (inlX11 w h)
theorem inlX12 : ∀ w ∈ wsX120, w ∈ wsL_law := fun _ h => List.mem_append_left _ (List.mem_append_left _ (List.mem_append_left _ (List.mem_append_left _ (List.mem_append_left _ (List.mem_append_left _ (List.mem_append_left _ (List.mem_append_left _ (List.mem_append_left _ (List.mem_append_left _ (List.mem_append_left _ (List.mem_append_left _ (List.mem_append_left _ (List.mem_append_left _ (List.mem_append_right _ h))))))))))))))
theorem inX12 : ∀ w ∈ wsX120, w ∈ lw_tbl := fun w h => wsL_law_in w (inlX12 w h)
theorem inlX13 : ∀ w ∈ wsX130, w ∈ wsL_law := fun _ h => List.mem_append_left _ (List.mem_append_left _ (List.mem_append_left _ (List.mem_append_left _ (List.mem_append_left _ (List.mem_append_left _ (List.mem_append_left _ (List.mem_append_left _ (List.mem_append_left _ (List.mem_append_left _ (List.mem_append_left _ (List.mem_append_left _ (List.mem_append_left _ (List.mem_append_right _ h)))))))))))))
theorem inX13 : ∀ w ∈ wsX130, w ∈ lw_tbl := fun w h => wsL_law_in w (inlX13 w h)
theorem inJ11 : ∀ w ∈ wsJ110, w ∈ lw_tbl := by decide +kernel
theorem inJx8e188 : ∀ w ∈ wsJx8e1880, w ∈ lw_tbl := by decide +kernel
theorem inJ6 : ∀ w ∈ wsJ60, w ∈ lw_tbl := by decide +kernel
theorem inJ13 : ∀ w ∈ wsJ130, w ∈ lw_tbl := by decide +kernel
theorem inJ9 : ∀ w ∈ wsJ90, w ∈ lw_tbl := by decide +kernel
theorem inJ0 : ∀ w ∈ wsJ00, w ∈ lw_tbl := by decide +kernel
theorem inJ1 : ∀ w ∈ wsJ10, w ∈ lw_tbl := by decide +kernel
theorem inJ2 : ∀ w ∈ wsJ20, w ∈ lw_tbl := by decide +kernel
theorem inJ10 : ∀ w ∈ wsJ100, w ∈ lw_tbl := by decide +kernel
theorem inJ7 : ∀ w ∈ wsJ70, w ∈ lw_tbl := by decide +kernel
theorem inJ3 : ∀ w ∈ wsJ30, w ∈ lw_tbl := by decide +kernel
theorem dX5_tellOn_0 : decode cX5_tellOn 0 = .ok (.iload_n 1, 1) := by decide +kernel
theorem dX5_tellOn_1 : decode cX5_tellOn 1 = .ok (.ifCond .lt 18, 3) := by decide +kernel
theorem dX5_tellOn_4 : decode cX5_tellOn 4 = .ok (.iload_n 1, 1) := by decide +kernel
theorem dX5_tellOn_5 : decode cX5_tellOn 5 = .ok (.bipush 40, 2) := by decide +kernel
theorem dX5_tellOn_7 : decode cX5_tellOn 7 = .ok (.if_icmp .ge 12, 3) := by decide +kernel
theorem dX5_tellOn_10 : decode cX5_tellOn 10 = .ok (.aload_n 0, 1) := by decide +kernel
theorem dX5_tellOn_11 : decode cX5_tellOn 11 = .ok (.getfield 11, 3) := by decide +kernel
theorem dX5_tellOn_14 : decode cX5_tellOn 14 = .ok (.iload_n 1, 1) := by decide +kernel
theorem dX5_tellOn_15 : decode cX5_tellOn 15 = .ok (.iaload, 1) := by decide +kernel
theorem dX5_tellOn_16 : decode cX5_tellOn 16 = .ok (.goto 4, 3) := by decide +kernel
theorem dX5_tellOn_19 : decode cX5_tellOn 19 = .ok (.iconst (-1), 1) := by decide +kernel
theorem dX5_tellOn_20 : decode cX5_tellOn 20 = .ok (.istore_n 3, 1) := by decide +kernel
theorem dX5_tellOn_21 : decode cX5_tellOn 21 = .ok (.iconst 0, 1) := by decide +kernel
theorem dX5_tellOn_22 : decode cX5_tellOn 22 = .ok (.istore 4, 2) := by decide +kernel
theorem dX5_tellOn_24 : decode cX5_tellOn 24 = .ok (.iload 4, 2) := by decide +kernel
theorem dX5_tellOn_26 : decode cX5_tellOn 26 = .ok (.sipush 600, 3) := by decide +kernel
theorem dX5_tellOn_29 : decode cX5_tellOn 29 = .ok (.if_icmp .ge 39, 3) := by decide +kernel
theorem dX5_tellOn_32 : decode cX5_tellOn 32 = .ok (.iload_n 3, 1) := by decide +kernel
theorem dX5_tellOn_33 : decode cX5_tellOn 33 = .ok (.ifCond .lt 35, 3) := by decide +kernel
theorem dX5_tellOn_68 : decode cX5_tellOn 68 = .ok (.iconst (-1), 1) := by decide +kernel
theorem dX5_tellOn_69 : decode cX5_tellOn 69 = .ok (.ireturn, 1) := by decide +kernel
set_option maxRecDepth 20000 in
theorem ggX5_valueOn_X5_tellOn : GoodIn wsX5_valueOn wsX5_tellOn := goodIn_r _ [6, 7, 8, 9, 10, 11, 12, 13, 14, 15, 16, 17, 18, 19, 20, 21] (by decide +kernel) (by decide +kernel)
set_option maxRecDepth 20000 in
theorem gX5_valueOn_X5_tellOn : GoodIn wsX5_valueOn (wsV RX5 53 RX5 yX5_tellOn wsX5_tellOn) := goodIn_app (goodIn_of _ (by decide +kernel)) ggX5_valueOn_X5_tellOn
theorem dX5_valueOn_0 : decode cX5_valueOn 0 = .ok (.aload_n 0, 1) := by decide +kernel
theorem dX5_valueOn_1 : decode cX5_valueOn 1 = .ok (.iload_n 1, 1) := by decide +kernel
theorem dX5_valueOn_2 : decode cX5_valueOn 2 = .ok (.iload_n 2, 1) := by decide +kernel
theorem dX5_valueOn_3 : decode cX5_valueOn 3 = .ok (.invokevirtual 53, 3) := by decide +kernel
theorem dX5_valueOn_6 : decode cX5_valueOn 6 = .ok (.istore_n 3, 1) := by decide +kernel
theorem dX5_valueOn_7 : decode cX5_valueOn 7 = .ok (.iload_n 3, 1) := by decide +kernel
theorem dX5_valueOn_8 : decode cX5_valueOn 8 = .ok (.ifCond .lt 19, 3) := by decide +kernel
theorem dX5_valueOn_27 : decode cX5_valueOn 27 = .ok (.iconst (-1), 1) := by decide +kernel
theorem dX5_valueOn_28 : decode cX5_valueOn 28 = .ok (.ireturn, 1) := by decide +kernel
set_option maxRecDepth 20000 in
theorem ggX5_sourceOn_X5_tellOn : GoodIn wsX5_sourceOn wsX5_tellOn := goodIn_r _ [6, 7, 8, 9, 10, 11, 12, 13, 14, 15, 16, 17, 18, 19, 20, 21] (by decide +kernel) (by decide +kernel)
set_option maxRecDepth 20000 in
theorem gX5_sourceOn_X5_tellOn : GoodIn wsX5_sourceOn (wsV RX5 53 RX5 yX5_tellOn wsX5_tellOn) := goodIn_app (goodIn_of _ (by decide +kernel)) ggX5_sourceOn_X5_tellOn
theorem dX5_sourceOn_0 : decode cX5_sourceOn 0 = .ok (.aload_n 0, 1) := by decide +kernel
theorem dX5_sourceOn_1 : decode cX5_sourceOn 1 = .ok (.iload_n 1, 1) := by decide +kernel
theorem dX5_sourceOn_2 : decode cX5_sourceOn 2 = .ok (.iload_n 2, 1) := by decide +kernel
theorem dX5_sourceOn_3 : decode cX5_sourceOn 3 = .ok (.invokevirtual 53, 3) := by decide +kernel
theorem dX5_sourceOn_6 : decode cX5_sourceOn 6 = .ok (.istore_n 3, 1) := by decide +kernel
theorem dX5_sourceOn_7 : decode cX5_sourceOn 7 = .ok (.iload_n 3, 1) := by decide +kernel
theorem dX5_sourceOn_8 : decode cX5_sourceOn 8 = .ok (.ifCond .lt 19, 3) := by decide +kernel
theorem dX5_sourceOn_27 : decode cX5_sourceOn 27 = .ok (.iconst (-1), 1) := by decide +kernel
theorem dX5_sourceOn_28 : decode cX5_sourceOn 28 = .ok (.ireturn, 1) := by decide +kernel
set_option maxRecDepth 20000 in
theorem ggX7_parse_X7_scan : GoodIn wsX7_parse wsX7_scan := goodIn_r _ [11, 12, 6, 13, 14, 15, 10, 16, 17, 18, 19, 20, 21, 22, 23, 24, 25, 26, 27, 28, 29, 30, 31, 32, 33, 34, 35, 36, 37, 38, 39, 40, 41, 42, 43, 44, 45, 46, 47, 48, 49, 50, 51, 52, 53, 54, 55, 56, 57, 58, 59, 60, 61, 62, 63, 64, 65, 66, 67, 68, 69, 70, 71, 72, 73, 74, 75, 76, 77, 78, 79, 80, 81, 82, 83, 84, 85, 86, 87, 88, 89, 90, 91, 92, 93, 94, 95, 96, 97, 98, 99, 100, 101, 102, 103, 104, 105, 106, 107, 108, 109, 110, 111, 112, 113, 114, 115, 116, 117, 118, 119, 120, 121, 122, 123, 124, 125, 126, 127, 128, 129, 130, 131, 132, 133, 134, 135, 136, 137, 138, 139, 140, 141, 142, 143, 144, 145, 146, 147, 148, 149, 150, 151, 152, 153, 154, 155, 156, 157, 158, 159, 160, 161, 162, 163, 164, 165, 166, 246, 247, 248, 249, 250, 251, 252, 253, 254, 255, 256, 257, 258, 259, 260] (by decide +kernel) (by decide +kernel)
set_option maxRecDepth 20000 in
theorem gX7_parse_X7_scan : GoodIn wsX7_parse (wsV RX7 47 RX7 yX7_scan wsX7_scan) := goodIn_app (goodIn_of _ (by decide +kernel)) ggX7_parse_X7_scan
set_option maxRecDepth 20000 in
theorem ggX7_parse_J7_fill_53178 : GoodIn wsX7_parse wsJ7_fill_53178 := goodIn_r _ [170] (by decide +kernel) (by decide +kernel)
set_option maxRecDepth 20000 in
theorem gX7_parse_J7_fill_53178 : GoodIn wsX7_parse (va_wsS RX7 62 yJ7_fill_53178 wsJ7_fill_53178) := goodIn_app (goodIn_of _ (by decide +kernel)) ggX7_parse_J7_fill_53178
set_option maxRecDepth 20000 in
theorem ggX7_parse_X7_kind : GoodIn wsX7_parse wsX7_kind := goodIn_r _ [174, 2, 12, 129, 246, 247, 248, 249, 250, 251, 252, 253, 254, 255, 256, 257, 258, 259, 260] (by decide +kernel) (by decide +kernel)
set_option maxRecDepth 20000 in
theorem gX7_parse_X7_kind : GoodIn wsX7_parse (wsV RX7 68 RX7 yX7_kind wsX7_kind) := goodIn_app (goodIn_of _ (by decide +kernel)) ggX7_parse_X7_kind
theorem dX7_parse_0 : decode cX7_parse 0 = .ok (.aload_n 0, 1) := by decide +kernel
theorem dX7_parse_1 : decode cX7_parse 1 = .ok (.invokevirtual 47, 3) := by decide +kernel
theorem dX7_parse_4 : decode cX7_parse 4 = .ok (.aload_n 0, 1) := by decide +kernel
theorem dX7_parse_5 : decode cX7_parse 5 = .ok (.iconst (-1), 1) := by decide +kernel
theorem dX7_parse_6 : decode cX7_parse 6 = .ok (.putfield 50, 3) := by decide +kernel
theorem dX7_parse_9 : decode cX7_parse 9 = .ok (.aload_n 0, 1) := by decide +kernel
theorem dX7_parse_10 : decode cX7_parse 10 = .ok (.iconst 0, 1) := by decide +kernel
theorem dX7_parse_11 : decode cX7_parse 11 = .ok (.putfield 53, 3) := by decide +kernel
theorem dX7_parse_14 : decode cX7_parse 14 = .ok (.aload_n 0, 1) := by decide +kernel
theorem dX7_parse_15 : decode cX7_parse 15 = .ok (.iconst 0, 1) := by decide +kernel
theorem dX7_parse_16 : decode cX7_parse 16 = .ok (.putfield 56, 3) := by decide +kernel
theorem dX7_parse_19 : decode cX7_parse 19 = .ok (.aload_n 0, 1) := by decide +kernel
theorem dX7_parse_20 : decode cX7_parse 20 = .ok (.iconst 0, 1) := by decide +kernel
theorem dX7_parse_21 : decode cX7_parse 21 = .ok (.putfield 59, 3) := by decide +kernel
theorem dX7_parse_24 : decode cX7_parse 24 = .ok (.aload_n 0, 1) := by decide +kernel
theorem dX7_parse_25 : decode cX7_parse 25 = .ok (.getfield 33, 3) := by decide +kernel
theorem dX7_parse_28 : decode cX7_parse 28 = .ok (.iconst (-1), 1) := by decide +kernel
theorem dX7_parse_29 : decode cX7_parse 29 = .ok (.invokestatic 62, 3) := by decide +kernel
theorem dX7_parse_32 : decode cX7_parse 32 = .ok (.iconst 0, 1) := by decide +kernel
theorem dX7_parse_33 : decode cX7_parse 33 = .ok (.istore_n 1, 1) := by decide +kernel
theorem dX7_parse_34 : decode cX7_parse 34 = .ok (.iload_n 1, 1) := by decide +kernel
theorem dX7_parse_35 : decode cX7_parse 35 = .ok (.aload_n 0, 1) := by decide +kernel
theorem dX7_parse_36 : decode cX7_parse 36 = .ok (.getfield 43, 3) := by decide +kernel
theorem dX7_parse_39 : decode cX7_parse 39 = .ok (.if_icmp .gt 28, 3) := by decide +kernel
theorem dX7_parse_42 : decode cX7_parse 42 = .ok (.aload_n 0, 1) := by decide +kernel
theorem dX7_parse_43 : decode cX7_parse 43 = .ok (.getfield 50, 3) := by decide +kernel
theorem dX7_parse_46 : decode cX7_parse 46 = .ok (.iconst (-1), 1) := by decide +kernel
theorem dX7_parse_47 : decode cX7_parse 47 = .ok (.if_icmp .ne 20, 3) := by decide +kernel
theorem dX7_parse_50 : decode cX7_parse 50 = .ok (.aload_n 0, 1) := by decide +kernel
theorem dX7_parse_51 : decode cX7_parse 51 = .ok (.invokevirtual 68, 3) := by decide +kernel
theorem dX7_parse_54 : decode cX7_parse 54 = .ok (.ifCond .eq 13, 3) := by decide +kernel
theorem dX7_parse_67 : decode cX7_parse 67 = .ok (.aload_n 0, 1) := by decide +kernel
theorem dX7_parse_68 : decode cX7_parse 68 = .ok (.getfield 50, 3) := by decide +kernel
theorem dX7_parse_71 : decode cX7_parse 71 = .ok (.ireturn, 1) := by decide +kernel
theorem dX7_byteAt_0 : decode cX7_byteAt 0 = .ok (.iload_n 1, 1) := by decide +kernel
theorem dX7_byteAt_1 : decode cX7_byteAt 1 = .ok (.ifCond .lt 31, 3) := by decide +kernel
theorem dX7_byteAt_4 : decode cX7_byteAt 4 = .ok (.iload_n 1, 1) := by decide +kernel
theorem dX7_byteAt_5 : decode cX7_byteAt 5 = .ok (.aload_n 0, 1) := by decide +kernel
theorem dX7_byteAt_6 : decode cX7_byteAt 6 = .ok (.getfield 43, 3) := by decide +kernel
theorem dX7_byteAt_9 : decode cX7_byteAt 9 = .ok (.if_icmp .ge 23, 3) := by decide +kernel
theorem dX7_byteAt_32 : decode cX7_byteAt 32 = .ok (.iconst 0, 1) := by decide +kernel
theorem dX7_byteAt_33 : decode cX7_byteAt 33 = .ok (.ireturn, 1) := by decide +kernel
set_option maxRecDepth 20000 in
theorem ggX7_scan_X7_kindAt : GoodIn wsX7_scan wsX7_kindAt := goodIn_r _ [12, 2, 3, 4, 5, 6, 7, 8, 13, 14, 15, 16, 17, 18, 19, 20, 21, 22, 23, 24, 25, 26, 27, 28, 29, 30, 31, 32, 33, 34, 35, 36, 37, 38, 39, 40, 41, 42, 43, 44, 45, 46, 47, 48, 49, 50, 51, 52, 53, 54, 55, 56, 57, 58, 59, 60, 61, 62, 63, 64, 65, 66, 67, 68, 69, 70, 71, 72, 73, 74, 75, 76, 77, 78, 79, 80, 81, 82, 83, 84, 85, 86, 87, 88, 89, 90, 91, 92, 93, 94, 95, 96, 97, 98, 99, 100, 101, 102, 103, 104, 105, 106, 107, 108, 109, 110, 111, 158, 159, 160, 161, 162, 163, 164, 165, 166, 167, 168, 169, 170, 171, 172] (by decide +kernel) (by decide +kernel)
set_option maxRecDepth 20000 in
theorem gX7_scan_X7_kindAt : GoodIn wsX7_scan (wsV RX7 112 RX7 yX7_kindAt wsX7_kindAt) := goodIn_app (goodIn_of _ (by decide +kernel)) ggX7_scan_X7_kindAt
set_option maxRecDepth 20000 in
theorem ggX7_scan_X7_stopAt : GoodIn wsX7_scan wsX7_stopAt := goodIn_r _ [115, 2, 3, 4, 5, 6, 7, 8, 13, 14, 15, 16, 17, 18, 19, 158, 159, 160, 161, 162, 163, 164, 165, 166, 167, 168, 169, 170, 171, 172] (by decide +kernel) (by decide +kernel)
set_option maxRecDepth 20000 in
theorem gX7_scan_X7_stopAt : GoodIn wsX7_scan (wsV RX7 115 RX7 yX7_stopAt wsX7_stopAt) := goodIn_app (goodIn_of _ (by decide +kernel)) ggX7_scan_X7_stopAt
set_option maxRecDepth 20000 in
theorem ggX7_scan_X7_addToken : GoodIn wsX7_scan wsX7_addToken := goodIn_r _ [119, 1, 120, 121, 122, 123, 124, 125, 126, 6, 127, 128, 40, 41, 26, 42, 32, 43, 44, 45, 46, 37, 38, 129, 130, 131, 132, 33, 34, 35, 36, 133, 134, 49, 135, 136, 137, 138, 83, 139, 140, 86, 141, 142, 143, 66, 144, 145, 146, 147, 77, 78, 79, 148, 91, 92, 93, 94, 95, 96, 149, 150, 151, 152, 3, 4, 5, 7, 2, 8, 153, 154, 155, 156, 157, 158, 159, 160, 161, 162, 163, 164, 165, 166, 167, 168, 169, 170, 171, 172] (by decide +kernel) (by decide +kernel)
set_option maxRecDepth 20000 in
theorem gX7_scan_X7_addToken : GoodIn wsX7_scan (wsV RX7 118 RX7 yX7_addToken wsX7_addToken) := goodIn_app (goodIn_of _ (by decide +kernel)) ggX7_scan_X7_addToken
theorem dX7_scan_0 : decode cX7_scan 0 = .ok (.aload_n 0, 1) := by decide +kernel
theorem dX7_scan_1 : decode cX7_scan 1 = .ok (.iconst 0, 1) := by decide +kernel
theorem dX7_scan_2 : decode cX7_scan 2 = .ok (.putfield 106, 3) := by decide +kernel
theorem dX7_scan_5 : decode cX7_scan 5 = .ok (.iconst 0, 1) := by decide +kernel
theorem dX7_scan_6 : decode cX7_scan 6 = .ok (.istore_n 1, 1) := by decide +kernel
theorem dX7_scan_7 : decode cX7_scan 7 = .ok (.iconst 1, 1) := by decide +kernel
theorem dX7_scan_8 : decode cX7_scan 8 = .ok (.istore_n 2, 1) := by decide +kernel
theorem dX7_scan_9 : decode cX7_scan 9 = .ok (.iconst 0, 1) := by decide +kernel
theorem dX7_scan_10 : decode cX7_scan 10 = .ok (.istore_n 3, 1) := by decide +kernel
theorem dX7_scan_11 : decode cX7_scan 11 = .ok (.iload_n 3, 1) := by decide +kernel
theorem dX7_scan_12 : decode cX7_scan 12 = .ok (.aload_n 0, 1) := by decide +kernel
theorem dX7_scan_13 : decode cX7_scan 13 = .ok (.getfield 43, 3) := by decide +kernel
theorem dX7_scan_16 : decode cX7_scan 16 = .ok (.if_icmp .gt 77, 3) := by decide +kernel
theorem dX7_scan_19 : decode cX7_scan 19 = .ok (.iload_n 2, 1) := by decide +kernel
theorem dX7_scan_20 : decode cX7_scan 20 = .ok (.ifCond .eq 73, 3) := by decide +kernel
theorem dX7_scan_23 : decode cX7_scan 23 = .ok (.iload_n 2, 1) := by decide +kernel
theorem dX7_scan_24 : decode cX7_scan 24 = .ok (.iconst 3, 1) := by decide +kernel
theorem dX7_scan_25 : decode cX7_scan 25 = .ok (.if_icmp .eq 68, 3) := by decide +kernel
theorem dX7_scan_28 : decode cX7_scan 28 = .ok (.iload_n 1, 1) := by decide +kernel
theorem dX7_scan_29 : decode cX7_scan 29 = .ok (.aload_n 0, 1) := by decide +kernel
theorem dX7_scan_30 : decode cX7_scan 30 = .ok (.getfield 43, 3) := by decide +kernel
theorem dX7_scan_33 : decode cX7_scan 33 = .ok (.if_icmp .ge 29, 3) := by decide +kernel
theorem dX7_scan_62 : decode cX7_scan 62 = .ok (.aload_n 0, 1) := by decide +kernel
theorem dX7_scan_63 : decode cX7_scan 63 = .ok (.iload_n 1, 1) := by decide +kernel
theorem dX7_scan_64 : decode cX7_scan 64 = .ok (.invokevirtual 112, 3) := by decide +kernel
theorem dX7_scan_67 : decode cX7_scan 67 = .ok (.istore_n 2, 1) := by decide +kernel
theorem dX7_scan_68 : decode cX7_scan 68 = .ok (.aload_n 0, 1) := by decide +kernel
theorem dX7_scan_69 : decode cX7_scan 69 = .ok (.iload_n 1, 1) := by decide +kernel
theorem dX7_scan_70 : decode cX7_scan 70 = .ok (.iload_n 2, 1) := by decide +kernel
theorem dX7_scan_71 : decode cX7_scan 71 = .ok (.invokevirtual 115, 3) := by decide +kernel
theorem dX7_scan_74 : decode cX7_scan 74 = .ok (.istore 4, 2) := by decide +kernel
theorem dX7_scan_76 : decode cX7_scan 76 = .ok (.aload_n 0, 1) := by decide +kernel
theorem dX7_scan_77 : decode cX7_scan 77 = .ok (.iload_n 2, 1) := by decide +kernel
theorem dX7_scan_78 : decode cX7_scan 78 = .ok (.iload_n 1, 1) := by decide +kernel
theorem dX7_scan_79 : decode cX7_scan 79 = .ok (.iload 4, 2) := by decide +kernel
theorem dX7_scan_81 : decode cX7_scan 81 = .ok (.invokevirtual 118, 3) := by decide +kernel
theorem dX7_scan_84 : decode cX7_scan 84 = .ok (.iload 4, 2) := by decide +kernel
theorem dX7_scan_86 : decode cX7_scan 86 = .ok (.istore_n 1, 1) := by decide +kernel
theorem dX7_scan_87 : decode cX7_scan 87 = .ok (.iinc 3 1, 3) := by decide +kernel
theorem dX7_scan_90 : decode cX7_scan 90 = .ok (.goto (-79), 3) := by decide +kernel
theorem dX7_scan_93 : decode cX7_scan 93 = .ok (.return_, 1) := by decide +kernel
set_option maxRecDepth 20000 in
theorem ggX7_kindAt_X7_byteAt : GoodIn wsX7_kindAt wsX7_byteAt := goodIn_r _ [6, 1, 7, 107, 108, 109, 110, 111, 112, 113, 114, 115, 116, 117, 118, 119, 120, 121] (by decide +kernel) (by decide +kernel)
set_option maxRecDepth 20000 in
theorem gX7_kindAt_X7_byteAt : GoodIn wsX7_kindAt (wsV RX7 109 RX7 yX7_byteAt wsX7_byteAt) := goodIn_app (goodIn_of _ (by decide +kernel)) ggX7_kindAt_X7_byteAt
theorem dX7_kindAt_0 : decode cX7_kindAt 0 = .ok (.aload_n 0, 1) := by decide +kernel
theorem dX7_kindAt_1 : decode cX7_kindAt 1 = .ok (.iload_n 1, 1) := by decide +kernel
theorem dX7_kindAt_2 : decode cX7_kindAt 2 = .ok (.invokevirtual 109, 3) := by decide +kernel
theorem dX7_kindAt_5 : decode cX7_kindAt 5 = .ok (.istore_n 2, 1) := by decide +kernel
theorem dX7_kindAt_6 : decode cX7_kindAt 6 = .ok (.iload_n 1, 1) := by decide +kernel
theorem dX7_kindAt_7 : decode cX7_kindAt 7 = .ok (.aload_n 0, 1) := by decide +kernel
theorem dX7_kindAt_8 : decode cX7_kindAt 8 = .ok (.getfield 43, 3) := by decide +kernel
theorem dX7_kindAt_11 : decode cX7_kindAt 11 = .ok (.if_icmp .lt 5, 3) := by decide +kernel
theorem dX7_kindAt_14 : decode cX7_kindAt 14 = .ok (.iconst 0, 1) := by decide +kernel
theorem dX7_kindAt_15 : decode cX7_kindAt 15 = .ok (.ireturn, 1) := by decide +kernel
theorem dX7_stopAt_0 : decode cX7_stopAt 0 = .ok (.iload_n 1, 1) := by decide +kernel
theorem dX7_stopAt_1 : decode cX7_stopAt 1 = .ok (.iconst 1, 1) := by decide +kernel
theorem dX7_stopAt_2 : decode cX7_stopAt 2 = .ok (.iadd, 1) := by decide +kernel
theorem dX7_stopAt_3 : decode cX7_stopAt 3 = .ok (.istore_n 3, 1) := by decide +kernel
theorem dX7_stopAt_4 : decode cX7_stopAt 4 = .ok (.iload_n 3, 1) := by decide +kernel
theorem dX7_stopAt_5 : decode cX7_stopAt 5 = .ok (.aload_n 0, 1) := by decide +kernel
theorem dX7_stopAt_6 : decode cX7_stopAt 6 = .ok (.getfield 43, 3) := by decide +kernel
theorem dX7_stopAt_9 : decode cX7_stopAt 9 = .ok (.if_icmp .ge 25, 3) := by decide +kernel
theorem dX7_stopAt_34 : decode cX7_stopAt 34 = .ok (.iload_n 3, 1) := by decide +kernel
theorem dX7_stopAt_35 : decode cX7_stopAt 35 = .ok (.aload_n 0, 1) := by decide +kernel
theorem dX7_stopAt_36 : decode cX7_stopAt 36 = .ok (.getfield 43, 3) := by decide +kernel
theorem dX7_stopAt_39 : decode cX7_stopAt 39 = .ok (.if_icmp .ge 25, 3) := by decide +kernel
theorem dX7_stopAt_64 : decode cX7_stopAt 64 = .ok (.iload_n 3, 1) := by decide +kernel
theorem dX7_stopAt_65 : decode cX7_stopAt 65 = .ok (.ireturn, 1) := by decide +kernel
theorem dX7_addToken_0 : decode cX7_addToken 0 = .ok (.aload_n 0, 1) := by decide +kernel
theorem dX7_addToken_1 : decode cX7_addToken 1 = .ok (.getfield 106, 3) := by decide +kernel
theorem dX7_addToken_4 : decode cX7_addToken 4 = .ok (.ifCond .lt 93, 3) := by decide +kernel
theorem dX7_addToken_7 : decode cX7_addToken 7 = .ok (.aload_n 0, 1) := by decide +kernel
theorem dX7_addToken_8 : decode cX7_addToken 8 = .ok (.getfield 106, 3) := by decide +kernel
theorem dX7_addToken_11 : decode cX7_addToken 11 = .ok (.aload_n 0, 1) := by decide +kernel
theorem dX7_addToken_12 : decode cX7_addToken 12 = .ok (.getfield 15, 3) := by decide +kernel
theorem dX7_addToken_15 : decode cX7_addToken 15 = .ok (.arraylength, 1) := by decide +kernel
theorem dX7_addToken_16 : decode cX7_addToken 16 = .ok (.if_icmp .ge 81, 3) := by decide +kernel
theorem dX7_addToken_19 : decode cX7_addToken 19 = .ok (.aload_n 0, 1) := by decide +kernel
theorem dX7_addToken_20 : decode cX7_addToken 20 = .ok (.getfield 15, 3) := by decide +kernel
theorem dX7_addToken_23 : decode cX7_addToken 23 = .ok (.aload_n 0, 1) := by decide +kernel
theorem dX7_addToken_24 : decode cX7_addToken 24 = .ok (.getfield 106, 3) := by decide +kernel
theorem dX7_addToken_27 : decode cX7_addToken 27 = .ok (.iload_n 1, 1) := by decide +kernel
theorem dX7_addToken_28 : decode cX7_addToken 28 = .ok (.iastore, 1) := by decide +kernel
theorem dX7_addToken_29 : decode cX7_addToken 29 = .ok (.aload_n 0, 1) := by decide +kernel
theorem dX7_addToken_30 : decode cX7_addToken 30 = .ok (.getfield 19, 3) := by decide +kernel
theorem dX7_addToken_33 : decode cX7_addToken 33 = .ok (.aload_n 0, 1) := by decide +kernel
theorem dX7_addToken_34 : decode cX7_addToken 34 = .ok (.getfield 106, 3) := by decide +kernel
theorem dX7_addToken_37 : decode cX7_addToken 37 = .ok (.iload_n 2, 1) := by decide +kernel
theorem dX7_addToken_38 : decode cX7_addToken 38 = .ok (.iastore, 1) := by decide +kernel
theorem dX7_addToken_39 : decode cX7_addToken 39 = .ok (.aload_n 0, 1) := by decide +kernel
theorem dX7_addToken_40 : decode cX7_addToken 40 = .ok (.getfield 22, 3) := by decide +kernel
theorem dX7_addToken_43 : decode cX7_addToken 43 = .ok (.aload_n 0, 1) := by decide +kernel
theorem dX7_addToken_44 : decode cX7_addToken 44 = .ok (.getfield 106, 3) := by decide +kernel
theorem dX7_addToken_47 : decode cX7_addToken 47 = .ok (.iload_n 3, 1) := by decide +kernel
theorem dX7_addToken_48 : decode cX7_addToken 48 = .ok (.iastore, 1) := by decide +kernel
theorem dX7_addToken_49 : decode cX7_addToken 49 = .ok (.aload_n 0, 1) := by decide +kernel
theorem dX7_addToken_50 : decode cX7_addToken 50 = .ok (.getfield 25, 3) := by decide +kernel
theorem dX7_addToken_53 : decode cX7_addToken 53 = .ok (.aload_n 0, 1) := by decide +kernel
theorem dX7_addToken_54 : decode cX7_addToken 54 = .ok (.getfield 106, 3) := by decide +kernel
theorem dX7_addToken_57 : decode cX7_addToken 57 = .ok (.iload_n 1, 1) := by decide +kernel
theorem dX7_addToken_58 : decode cX7_addToken 58 = .ok (.iconst 1, 1) := by decide +kernel
theorem dX7_addToken_59 : decode cX7_addToken 59 = .ok (.if_icmp .ne 12, 3) := by decide +kernel
theorem dX7_addToken_71 : decode cX7_addToken 71 = .ok (.iload_n 1, 1) := by decide +kernel
theorem dX7_addToken_72 : decode cX7_addToken 72 = .ok (.iconst 2, 1) := by decide +kernel
theorem dX7_addToken_73 : decode cX7_addToken 73 = .ok (.if_icmp .ne 12, 3) := by decide +kernel
theorem dX7_addToken_85 : decode cX7_addToken 85 = .ok (.iconst (-1), 1) := by decide +kernel
theorem dX7_addToken_86 : decode cX7_addToken 86 = .ok (.iastore, 1) := by decide +kernel
theorem dX7_addToken_87 : decode cX7_addToken 87 = .ok (.aload_n 0, 1) := by decide +kernel
theorem dX7_addToken_88 : decode cX7_addToken 88 = .ok (.dup, 1) := by decide +kernel
theorem dX7_addToken_89 : decode cX7_addToken 89 = .ok (.getfield 106, 3) := by decide +kernel
theorem dX7_addToken_92 : decode cX7_addToken 92 = .ok (.iconst 1, 1) := by decide +kernel
theorem dX7_addToken_93 : decode cX7_addToken 93 = .ok (.iadd, 1) := by decide +kernel
theorem dX7_addToken_94 : decode cX7_addToken 94 = .ok (.putfield 106, 3) := by decide +kernel
theorem dX7_addToken_97 : decode cX7_addToken 97 = .ok (.return_, 1) := by decide +kernel
theorem dX7_kind_0 : decode cX7_kind 0 = .ok (.aload_n 0, 1) := by decide +kernel
theorem dX7_kind_1 : decode cX7_kind 1 = .ok (.getfield 53, 3) := by decide +kernel
theorem dX7_kind_4 : decode cX7_kind 4 = .ok (.ifCond .lt 38, 3) := by decide +kernel
theorem dX7_kind_7 : decode cX7_kind 7 = .ok (.aload_n 0, 1) := by decide +kernel
theorem dX7_kind_8 : decode cX7_kind 8 = .ok (.getfield 53, 3) := by decide +kernel
theorem dX7_kind_11 : decode cX7_kind 11 = .ok (.aload_n 0, 1) := by decide +kernel
theorem dX7_kind_12 : decode cX7_kind 12 = .ok (.getfield 106, 3) := by decide +kernel
theorem dX7_kind_15 : decode cX7_kind 15 = .ok (.if_icmp .ge 27, 3) := by decide +kernel
theorem dX7_kind_18 : decode cX7_kind 18 = .ok (.aload_n 0, 1) := by decide +kernel
theorem dX7_kind_19 : decode cX7_kind 19 = .ok (.getfield 53, 3) := by decide +kernel
theorem dX7_kind_22 : decode cX7_kind 22 = .ok (.aload_n 0, 1) := by decide +kernel
theorem dX7_kind_23 : decode cX7_kind 23 = .ok (.getfield 15, 3) := by decide +kernel
theorem dX7_kind_26 : decode cX7_kind 26 = .ok (.arraylength, 1) := by decide +kernel
theorem dX7_kind_27 : decode cX7_kind 27 = .ok (.if_icmp .ge 15, 3) := by decide +kernel
theorem dX7_kind_30 : decode cX7_kind 30 = .ok (.aload_n 0, 1) := by decide +kernel
theorem dX7_kind_31 : decode cX7_kind 31 = .ok (.getfield 15, 3) := by decide +kernel
theorem dX7_kind_34 : decode cX7_kind 34 = .ok (.aload_n 0, 1) := by decide +kernel
theorem dX7_kind_35 : decode cX7_kind 35 = .ok (.getfield 53, 3) := by decide +kernel
theorem dX7_kind_38 : decode cX7_kind 38 = .ok (.iaload, 1) := by decide +kernel
theorem dX7_kind_39 : decode cX7_kind 39 = .ok (.goto 4, 3) := by decide +kernel
theorem dX7_kind_43 : decode cX7_kind 43 = .ok (.ireturn, 1) := by decide +kernel
theorem dX8_put_0 : decode cX8_put 0 = .ok (.iload_n 1, 1) := by decide +kernel
theorem dX8_put_1 : decode cX8_put 1 = .ok (.ifCond .lt 27, 3) := by decide +kernel
theorem dX8_put_4 : decode cX8_put 4 = .ok (.iload_n 1, 1) := by decide +kernel
theorem dX8_put_5 : decode cX8_put 5 = .ok (.aload_n 0, 1) := by decide +kernel
theorem dX8_put_6 : decode cX8_put 6 = .ok (.getfield 33, 3) := by decide +kernel
theorem dX8_put_9 : decode cX8_put 9 = .ok (.if_icmp .ge 19, 3) := by decide +kernel
theorem dX8_put_28 : decode cX8_put 28 = .ok (.iconst (-1), 1) := by decide +kernel
theorem dX8_put_29 : decode cX8_put 29 = .ok (.ireturn, 1) := by decide +kernel
theorem dX8_inForce_0 : decode cX8_inForce 0 = .ok (.aload_n 0, 1) := by decide +kernel
theorem dX8_inForce_1 : decode cX8_inForce 1 = .ok (.getfield 37, 3) := by decide +kernel
theorem dX8_inForce_4 : decode cX8_inForce 4 = .ok (.iconst 1, 1) := by decide +kernel
theorem dX8_inForce_5 : decode cX8_inForce 5 = .ok (.isub, 1) := by decide +kernel
theorem dX8_inForce_6 : decode cX8_inForce 6 = .ok (.istore 4, 2) := by decide +kernel
theorem dX8_inForce_8 : decode cX8_inForce 8 = .ok (.iload 4, 2) := by decide +kernel
theorem dX8_inForce_10 : decode cX8_inForce 10 = .ok (.ifCond .lt 41, 3) := by decide +kernel
theorem dX8_inForce_51 : decode cX8_inForce 51 = .ok (.iconst (-1), 1) := by decide +kernel
theorem dX8_inForce_52 : decode cX8_inForce 52 = .ok (.ireturn, 1) := by decide +kernel
theorem dX9_sortOf_0 : decode cX9_sortOf 0 = .ok (.iload_n 0, 1) := by decide +kernel
theorem dX9_sortOf_1 : decode cX9_sortOf 1 = .ok (.ifCond .lt 10, 3) := by decide +kernel
theorem dX9_sortOf_4 : decode cX9_sortOf 4 = .ok (.iload_n 0, 1) := by decide +kernel
theorem dX9_sortOf_5 : decode cX9_sortOf 5 = .ok (.iconst 4, 1) := by decide +kernel
theorem dX9_sortOf_6 : decode cX9_sortOf 6 = .ok (.if_icmp .gt 5, 3) := by decide +kernel
theorem dX9_sortOf_9 : decode cX9_sortOf 9 = .ok (.iload_n 0, 1) := by decide +kernel
theorem dX9_sortOf_10 : decode cX9_sortOf 10 = .ok (.ireturn, 1) := by decide +kernel
theorem dX9_sortOf_11 : decode cX9_sortOf 11 = .ok (.iload_n 0, 1) := by decide +kernel
theorem dX9_sortOf_12 : decode cX9_sortOf 12 = .ok (.bipush 10, 2) := by decide +kernel
theorem dX9_sortOf_14 : decode cX9_sortOf 14 = .ok (.idiv, 1) := by decide +kernel
theorem dX9_sortOf_15 : decode cX9_sortOf 15 = .ok (.istore_n 1, 1) := by decide +kernel
theorem dX9_sortOf_16 : decode cX9_sortOf 16 = .ok (.iload_n 0, 1) := by decide +kernel
theorem dX9_sortOf_17 : decode cX9_sortOf 17 = .ok (.bipush 10, 2) := by decide +kernel
theorem dX9_sortOf_19 : decode cX9_sortOf 19 = .ok (.irem, 1) := by decide +kernel
theorem dX9_sortOf_20 : decode cX9_sortOf 20 = .ok (.istore_n 2, 1) := by decide +kernel
theorem dX9_sortOf_21 : decode cX9_sortOf 21 = .ok (.iload_n 0, 1) := by decide +kernel
theorem dX9_sortOf_22 : decode cX9_sortOf 22 = .ok (.bipush 10, 2) := by decide +kernel
theorem dX9_sortOf_24 : decode cX9_sortOf 24 = .ok (.if_icmp .lt 25, 3) := by decide +kernel
theorem dX9_sortOf_27 : decode cX9_sortOf 27 = .ok (.iload_n 1, 1) := by decide +kernel
theorem dX9_sortOf_28 : decode cX9_sortOf 28 = .ok (.iconst 3, 1) := by decide +kernel
theorem dX9_sortOf_29 : decode cX9_sortOf 29 = .ok (.if_icmp .gt 20, 3) := by decide +kernel
theorem dX9_sortOf_32 : decode cX9_sortOf 32 = .ok (.iload_n 2, 1) := by decide +kernel
theorem dX9_sortOf_33 : decode cX9_sortOf 33 = .ok (.iconst 2, 1) := by decide +kernel
theorem dX9_sortOf_34 : decode cX9_sortOf 34 = .ok (.if_icmp .gt 15, 3) := by decide +kernel
theorem dX9_sortOf_37 : decode cX9_sortOf 37 = .ok (.iconst 5, 1) := by decide +kernel
theorem dX9_sortOf_38 : decode cX9_sortOf 38 = .ok (.iconst 3, 1) := by decide +kernel
theorem dX9_sortOf_39 : decode cX9_sortOf 39 = .ok (.iload_n 1, 1) := by decide +kernel
theorem dX9_sortOf_40 : decode cX9_sortOf 40 = .ok (.iconst 1, 1) := by decide +kernel
theorem dX9_sortOf_41 : decode cX9_sortOf 41 = .ok (.isub, 1) := by decide +kernel
theorem dX9_sortOf_42 : decode cX9_sortOf 42 = .ok (.imul, 1) := by decide +kernel
theorem dX9_sortOf_43 : decode cX9_sortOf 43 = .ok (.iadd, 1) := by decide +kernel
theorem dX9_sortOf_44 : decode cX9_sortOf 44 = .ok (.iload_n 2, 1) := by decide +kernel
theorem dX9_sortOf_45 : decode cX9_sortOf 45 = .ok (.iadd, 1) := by decide +kernel
theorem dX9_sortOf_46 : decode cX9_sortOf 46 = .ok (.goto 4, 3) := by decide +kernel
theorem dX9_sortOf_49 : decode cX9_sortOf 49 = .ok (.iconst (-1), 1) := by decide +kernel
theorem dX9_sortOf_50 : decode cX9_sortOf 50 = .ok (.ireturn, 1) := by decide +kernel
set_option maxRecDepth 20000 in
theorem ggX12_fault_X7_parse : GoodIn wsX12_fault wsX7_parse := goodIn_r _ [6, 7, 8, 9, 10, 11, 12, 13, 14, 15, 5, 16, 17, 18, 19, 20, 21, 22, 23, 24, 25, 26, 27, 28, 29, 30, 31, 32, 33, 34, 35, 36, 37, 38, 39, 40, 41, 42, 43, 44, 45, 46, 47, 48, 49, 50, 51, 52, 53, 54, 55, 56, 57, 58, 59, 60, 61, 62, 63, 64, 65, 66, 67, 68, 69, 70, 71, 72, 73, 74, 75, 76, 77, 78, 79, 80, 81, 82, 83, 84, 85, 86, 87, 88, 89, 90, 91, 92, 93, 94, 95, 96, 97, 98, 99, 100, 101, 102, 103, 104, 105, 106, 107, 108, 109, 110, 111, 112, 113, 114, 115, 116, 117, 118, 119, 120, 121, 122, 123, 124, 125, 126, 127, 128, 129, 130, 131, 132, 133, 134, 135, 136, 137, 138, 139, 140, 141, 142, 143, 144, 145, 146, 147, 148, 149, 150, 151, 152, 153, 154, 155, 156, 157, 158, 159, 160, 161, 162, 163, 164, 165, 166, 167, 168, 169, 170, 171, 172, 173, 174, 175, 176, 177, 178, 179, 180, 181, 182, 183, 184, 185, 186, 187, 188, 189, 190, 191, 192, 193, 194, 195, 196, 197, 198, 199, 200, 201, 202, 203, 204, 205, 206, 207, 208, 209, 210, 211, 212, 213, 214, 215, 216, 217, 218, 219, 220, 221, 222, 223, 224, 225, 226, 227, 228, 229, 230, 231, 232, 233, 234, 235, 236, 237, 238, 239, 240, 241, 242, 243, 244, 245, 246, 247, 248, 249, 250, 271, 272, 273, 274, 275, 276, 277, 278, 279, 280, 281, 282, 283, 284, 285] (by decide +kernel) (by decide +kernel)
set_option maxRecDepth 20000 in
theorem gX12_fault_X7_parse : GoodIn wsX12_fault (wsV RX12 110 RX7 yX7_parse wsX7_parse) := goodIn_app (goodIn_of _ (by decide +kernel)) ggX12_fault_X7_parse
theorem dX12_fault_0 : decode cX12_fault 0 = .ok (.aload_n 0, 1) := by decide +kernel
theorem dX12_fault_1 : decode cX12_fault 1 = .ok (.getfield 10, 3) := by decide +kernel
theorem dX12_fault_4 : decode cX12_fault 4 = .ok (.invokevirtual 110, 3) := by decide +kernel
theorem dX12_fault_7 : decode cX12_fault 7 = .ok (.ireturn, 1) := by decide +kernel
set_option maxRecDepth 20000 in
theorem ggX12_force_X12_isVolume : GoodIn wsX12_force wsX12_isVolume := goodIn_r _ [7] (by decide +kernel) (by decide +kernel)
set_option maxRecDepth 20000 in
theorem gX12_force_X12_isVolume : GoodIn wsX12_force (wsV RX12 126 RX12 yX12_isVolume wsX12_isVolume) := goodIn_app (goodIn_of _ (by decide +kernel)) ggX12_force_X12_isVolume
set_option maxRecDepth 20000 in
theorem ggX12_force_X12_isSet : GoodIn wsX12_force wsX12_isSet := goodIn_r _ [11, 12, 128, 129, 130, 131, 132, 133, 134, 135, 136, 137, 138, 139, 140, 141, 142, 143, 144, 145, 146, 147] (by decide +kernel) (by decide +kernel)
set_option maxRecDepth 20000 in
theorem gX12_force_X12_isSet : GoodIn wsX12_force (wsV RX12 130 RX12 yX12_isSet wsX12_isSet) := goodIn_app (goodIn_of _ (by decide +kernel)) ggX12_force_X12_isSet
set_option maxRecDepth 20000 in
theorem ggX12_force_X8_put : GoodIn wsX12_force wsX8_put := goodIn_r _ [17, 18, 19, 20, 21, 22, 148, 149, 150, 151, 152, 153, 154, 155] (by decide +kernel) (by decide +kernel)
set_option maxRecDepth 20000 in
theorem gX12_force_X8_put : GoodIn wsX12_force (wsV RX12 136 RX8 yX8_put wsX8_put) := goodIn_app (goodIn_of _ (by decide +kernel)) ggX12_force_X8_put
theorem dX12_force_0 : decode cX12_force 0 = .ok (.iload_n 2, 1) := by decide +kernel
theorem dX12_force_1 : decode cX12_force 1 = .ok (.iconst (-1), 1) := by decide +kernel
theorem dX12_force_2 : decode cX12_force 2 = .ok (.if_icmp .ne 7, 3) := by decide +kernel
theorem dX12_force_5 : decode cX12_force 5 = .ok (.iconst 1, 1) := by decide +kernel
theorem dX12_force_6 : decode cX12_force 6 = .ok (.goto 4, 3) := by decide +kernel
theorem dX12_force_9 : decode cX12_force 9 = .ok (.iconst 0, 1) := by decide +kernel
theorem dX12_force_10 : decode cX12_force 10 = .ok (.istore_n 3, 1) := by decide +kernel
theorem dX12_force_11 : decode cX12_force 11 = .ok (.iload_n 3, 1) := by decide +kernel
theorem dX12_force_12 : decode cX12_force 12 = .ok (.ifCond .ne 21, 3) := by decide +kernel
theorem dX12_force_15 : decode cX12_force 15 = .ok (.aload_n 0, 1) := by decide +kernel
theorem dX12_force_16 : decode cX12_force 16 = .ok (.iload_n 2, 1) := by decide +kernel
theorem dX12_force_17 : decode cX12_force 17 = .ok (.invokevirtual 126, 3) := by decide +kernel
theorem dX12_force_20 : decode cX12_force 20 = .ok (.ifCond .eq 11, 3) := by decide +kernel
theorem dX12_force_23 : decode cX12_force 23 = .ok (.aload_n 0, 1) := by decide +kernel
theorem dX12_force_24 : decode cX12_force 24 = .ok (.iload_n 2, 1) := by decide +kernel
theorem dX12_force_25 : decode cX12_force 25 = .ok (.invokevirtual 130, 3) := by decide +kernel
theorem dX12_force_28 : decode cX12_force 28 = .ok (.ifCond .eq 5, 3) := by decide +kernel
theorem dX12_force_31 : decode cX12_force 31 = .ok (.iconst (-1), 1) := by decide +kernel
theorem dX12_force_32 : decode cX12_force 32 = .ok (.ireturn, 1) := by decide +kernel
theorem dX12_force_33 : decode cX12_force 33 = .ok (.aload_n 0, 1) := by decide +kernel
theorem dX12_force_34 : decode cX12_force 34 = .ok (.getfield 19, 3) := by decide +kernel
theorem dX12_force_37 : decode cX12_force 37 = .ok (.iload_n 1, 1) := by decide +kernel
theorem dX12_force_38 : decode cX12_force 38 = .ok (.iload_n 2, 1) := by decide +kernel
theorem dX12_force_39 : decode cX12_force 39 = .ok (.aload_n 0, 1) := by decide +kernel
theorem dX12_force_40 : decode cX12_force 40 = .ok (.getfield 133, 3) := by decide +kernel
theorem dX12_force_43 : decode cX12_force 43 = .ok (.invokevirtual 136, 3) := by decide +kernel
theorem dX12_force_46 : decode cX12_force 46 = .ok (.istore 4, 2) := by decide +kernel
theorem dX12_force_48 : decode cX12_force 48 = .ok (.iload 4, 2) := by decide +kernel
theorem dX12_force_50 : decode cX12_force 50 = .ok (.iconst (-1), 1) := by decide +kernel
theorem dX12_force_51 : decode cX12_force 51 = .ok (.if_icmp .eq 11, 3) := by decide +kernel
theorem dX12_force_62 : decode cX12_force 62 = .ok (.iload 4, 2) := by decide +kernel
theorem dX12_force_64 : decode cX12_force 64 = .ok (.ireturn, 1) := by decide +kernel
set_option maxRecDepth 20000 in
theorem ggX12_rule_X9_sortOf : GoodIn wsX12_rule wsX9_sortOf := goodIn_r _ [6] (by decide +kernel) (by decide +kernel)
set_option maxRecDepth 20000 in
theorem gX12_rule_X9_sortOf : GoodIn wsX12_rule (va_wsS RX12 143 yX9_sortOf wsX9_sortOf) := goodIn_app (goodIn_of _ (by decide +kernel)) ggX12_rule_X9_sortOf
set_option maxRecDepth 20000 in
theorem ggX12_rule_X12_isVolume : GoodIn wsX12_rule wsX12_isVolume := goodIn_r _ [11] (by decide +kernel) (by decide +kernel)
set_option maxRecDepth 20000 in
theorem gX12_rule_X12_isVolume : GoodIn wsX12_rule (wsV RX12 126 RX12 yX12_isVolume wsX12_isVolume) := goodIn_app (goodIn_of _ (by decide +kernel)) ggX12_rule_X12_isVolume
set_option maxRecDepth 20000 in
theorem ggX12_rule_X8_inForce : GoodIn wsX12_rule wsX8_inForce := goodIn_r _ [16, 17, 18, 19, 20, 21, 15, 22, 23, 24, 25, 26, 27, 28, 5, 29, 30, 51, 52, 53, 54, 55, 56, 57, 58, 59, 60, 61, 62] (by decide +kernel) (by decide +kernel)
set_option maxRecDepth 20000 in
theorem gX12_rule_X8_inForce : GoodIn wsX12_rule (wsV RX12 149 RX8 yX8_inForce wsX8_inForce) := goodIn_app (goodIn_of _ (by decide +kernel)) ggX12_rule_X8_inForce
theorem dX12_rule_0 : decode cX12_rule 0 = .ok (.iload_n 1, 1) := by decide +kernel
theorem dX12_rule_1 : decode cX12_rule 1 = .ok (.invokestatic 143, 3) := by decide +kernel
theorem dX12_rule_4 : decode cX12_rule 4 = .ok (.istore 4, 2) := by decide +kernel
theorem dX12_rule_6 : decode cX12_rule 6 = .ok (.iload 4, 2) := by decide +kernel
theorem dX12_rule_8 : decode cX12_rule 8 = .ok (.iconst (-1), 1) := by decide +kernel
theorem dX12_rule_9 : decode cX12_rule 9 = .ok (.if_icmp .eq 23, 3) := by decide +kernel
theorem dX12_rule_12 : decode cX12_rule 12 = .ok (.aload_n 0, 1) := by decide +kernel
theorem dX12_rule_13 : decode cX12_rule 13 = .ok (.iload_n 2, 1) := by decide +kernel
theorem dX12_rule_14 : decode cX12_rule 14 = .ok (.invokevirtual 126, 3) := by decide +kernel
theorem dX12_rule_17 : decode cX12_rule 17 = .ok (.ifCond .eq 15, 3) := by decide +kernel
theorem dX12_rule_20 : decode cX12_rule 20 = .ok (.iload_n 3, 1) := by decide +kernel
theorem dX12_rule_21 : decode cX12_rule 21 = .ok (.ifCond .lt 11, 3) := by decide +kernel
theorem dX12_rule_24 : decode cX12_rule 24 = .ok (.iload_n 3, 1) := by decide +kernel
theorem dX12_rule_25 : decode cX12_rule 25 = .ok (.aload_n 0, 1) := by decide +kernel
theorem dX12_rule_26 : decode cX12_rule 26 = .ok (.getfield 133, 3) := by decide +kernel
theorem dX12_rule_29 : decode cX12_rule 29 = .ok (.if_icmp .le 5, 3) := by decide +kernel
theorem dX12_rule_32 : decode cX12_rule 32 = .ok (.iconst (-1), 1) := by decide +kernel
theorem dX12_rule_33 : decode cX12_rule 33 = .ok (.ireturn, 1) := by decide +kernel
theorem dX12_rule_34 : decode cX12_rule 34 = .ok (.aload_n 0, 1) := by decide +kernel
theorem dX12_rule_35 : decode cX12_rule 35 = .ok (.getfield 19, 3) := by decide +kernel
theorem dX12_rule_38 : decode cX12_rule 38 = .ok (.iload 4, 2) := by decide +kernel
theorem dX12_rule_40 : decode cX12_rule 40 = .ok (.iload_n 2, 1) := by decide +kernel
theorem dX12_rule_41 : decode cX12_rule 41 = .ok (.iload_n 3, 1) := by decide +kernel
theorem dX12_rule_42 : decode cX12_rule 42 = .ok (.invokevirtual 149, 3) := by decide +kernel
theorem dX12_rule_45 : decode cX12_rule 45 = .ok (.ireturn, 1) := by decide +kernel
theorem dX12_isVolume_0 : decode cX12_isVolume 0 = .ok (.iload_n 1, 1) := by decide +kernel
theorem dX12_isVolume_1 : decode cX12_isVolume 1 = .ok (.ifCond .lt 13, 3) := by decide +kernel
theorem dX12_isVolume_4 : decode cX12_isVolume 4 = .ok (.iload_n 1, 1) := by decide +kernel
theorem dX12_isVolume_5 : decode cX12_isVolume 5 = .ok (.bipush 6, 2) := by decide +kernel
theorem dX12_isVolume_7 : decode cX12_isVolume 7 = .ok (.if_icmp .ge 7, 3) := by decide +kernel
theorem dX12_isVolume_10 : decode cX12_isVolume 10 = .ok (.iconst 1, 1) := by decide +kernel
theorem dX12_isVolume_11 : decode cX12_isVolume 11 = .ok (.goto 4, 3) := by decide +kernel
theorem dX12_isVolume_14 : decode cX12_isVolume 14 = .ok (.iconst 0, 1) := by decide +kernel
theorem dX12_isVolume_15 : decode cX12_isVolume 15 = .ok (.ireturn, 1) := by decide +kernel
theorem dX12_isSet_0 : decode cX12_isSet 0 = .ok (.iload_n 1, 1) := by decide +kernel
theorem dX12_isSet_1 : decode cX12_isSet 1 = .ok (.ifCond .lt 18, 3) := by decide +kernel
theorem dX12_isSet_4 : decode cX12_isSet 4 = .ok (.aload_n 0, 1) := by decide +kernel
theorem dX12_isSet_5 : decode cX12_isSet 5 = .ok (.getfield 158, 3) := by decide +kernel
theorem dX12_isSet_8 : decode cX12_isSet 8 = .ok (.iload_n 1, 1) := by decide +kernel
theorem dX12_isSet_9 : decode cX12_isSet 9 = .ok (.ishr, 1) := by decide +kernel
theorem dX12_isSet_10 : decode cX12_isSet 10 = .ok (.iconst 1, 1) := by decide +kernel
theorem dX12_isSet_11 : decode cX12_isSet 11 = .ok (.iand, 1) := by decide +kernel
theorem dX12_isSet_12 : decode cX12_isSet 12 = .ok (.ifCond .eq 7, 3) := by decide +kernel
theorem dX12_isSet_15 : decode cX12_isSet 15 = .ok (.iconst 1, 1) := by decide +kernel
theorem dX12_isSet_16 : decode cX12_isSet 16 = .ok (.goto 4, 3) := by decide +kernel
theorem dX12_isSet_19 : decode cX12_isSet 19 = .ok (.iconst 0, 1) := by decide +kernel
theorem dX12_isSet_20 : decode cX12_isSet 20 = .ok (.ireturn, 1) := by decide +kernel
set_option maxRecDepth 20000 in
theorem ggX12_pointer_X12_entryAt : GoodIn wsX12_pointer wsX12_entryAt := goodIn_r _ [7, 8, 9, 171, 172, 173, 174, 175, 176, 177, 178, 179, 180, 181, 182, 183, 184, 185, 186, 187, 188, 189, 190] (by decide +kernel) (by decide +kernel)
set_option maxRecDepth 20000 in
theorem gX12_pointer_X12_entryAt : GoodIn wsX12_pointer (wsV RX12 189 RX12 yX12_entryAt wsX12_entryAt) := goodIn_app (goodIn_of _ (by decide +kernel)) ggX12_pointer_X12_entryAt
theorem dX12_pointer_0 : decode cX12_pointer 0 = .ok (.aload_n 0, 1) := by decide +kernel
theorem dX12_pointer_1 : decode cX12_pointer 1 = .ok (.iload 4, 2) := by decide +kernel
theorem dX12_pointer_3 : decode cX12_pointer 3 = .ok (.invokevirtual 189, 3) := by decide +kernel
theorem dX12_pointer_6 : decode cX12_pointer 6 = .ok (.ifnonnull 5, 3) := by decide +kernel
theorem dX12_pointer_9 : decode cX12_pointer 9 = .ok (.iconst (-1), 1) := by decide +kernel
theorem dX12_pointer_10 : decode cX12_pointer 10 = .ok (.ireturn, 1) := by decide +kernel
theorem dX12_entryAt_0 : decode cX12_entryAt 0 = .ok (.iload_n 1, 1) := by decide +kernel
theorem dX12_entryAt_1 : decode cX12_entryAt 1 = .ok (.ifCond .lt 26, 3) := by decide +kernel
theorem dX12_entryAt_4 : decode cX12_entryAt 4 = .ok (.iload_n 1, 1) := by decide +kernel
theorem dX12_entryAt_5 : decode cX12_entryAt 5 = .ok (.aload_n 0, 1) := by decide +kernel
theorem dX12_entryAt_6 : decode cX12_entryAt 6 = .ok (.getfield 203, 3) := by decide +kernel
theorem dX12_entryAt_9 : decode cX12_entryAt 9 = .ok (.if_icmp .ge 18, 3) := by decide +kernel
theorem dX12_entryAt_27 : decode cX12_entryAt 27 = .ok (.aconst_null, 1) := by decide +kernel
theorem dX12_entryAt_28 : decode cX12_entryAt 28 = .ok (.areturn, 1) := by decide +kernel
theorem dX12_handAt_0 : decode cX12_handAt 0 = .ok (.iload_n 1, 1) := by decide +kernel
theorem dX12_handAt_1 : decode cX12_handAt 1 = .ok (.ifCond .lt 26, 3) := by decide +kernel
theorem dX12_handAt_4 : decode cX12_handAt 4 = .ok (.iload_n 1, 1) := by decide +kernel
theorem dX12_handAt_5 : decode cX12_handAt 5 = .ok (.aload_n 0, 1) := by decide +kernel
theorem dX12_handAt_6 : decode cX12_handAt 6 = .ok (.getfield 292, 3) := by decide +kernel
theorem dX12_handAt_9 : decode cX12_handAt 9 = .ok (.if_icmp .ge 18, 3) := by decide +kernel
theorem dX12_handAt_27 : decode cX12_handAt 27 = .ok (.aconst_null, 1) := by decide +kernel
theorem dX12_handAt_28 : decode cX12_handAt 28 = .ok (.areturn, 1) := by decide +kernel
set_option maxRecDepth 20000 in
theorem ggX12_known_X5_valueOn : GoodIn wsX12_known wsX5_valueOn := goodIn_r _ [6, 7, 8, 9, 10, 5, 11, 12, 13, 14, 40, 41, 42, 43, 44, 45, 46, 47, 48, 49, 50, 51] (by decide +kernel) (by decide +kernel)
set_option maxRecDepth 20000 in
theorem gX12_known_X5_valueOn : GoodIn wsX12_known (wsV RX12 389 RX5 yX5_valueOn wsX5_valueOn) := goodIn_app (goodIn_of _ (by decide +kernel)) ggX12_known_X5_valueOn
set_option maxRecDepth 20000 in
theorem ggX12_known_X5_sourceOn : GoodIn wsX12_known wsX5_sourceOn := goodIn_r _ [18, 19, 8, 9, 10, 5, 11, 12, 13, 14, 40, 41, 42, 43, 44, 45, 46, 47, 48, 49, 50, 51] (by decide +kernel) (by decide +kernel)
set_option maxRecDepth 20000 in
theorem gX12_known_X5_sourceOn : GoodIn wsX12_known (wsV RX12 412 RX5 yX5_sourceOn wsX5_sourceOn) := goodIn_app (goodIn_of _ (by decide +kernel)) ggX12_known_X5_sourceOn
theorem dX12_known_0 : decode cX12_known 0 = .ok (.iload_n 2, 1) := by decide +kernel
theorem dX12_known_1 : decode cX12_known 1 = .ok (.ifCond .lt 10, 3) := by decide +kernel
theorem dX12_known_4 : decode cX12_known 4 = .ok (.iload_n 2, 1) := by decide +kernel
theorem dX12_known_5 : decode cX12_known 5 = .ok (.sipush 2000, 3) := by decide +kernel
theorem dX12_known_8 : decode cX12_known 8 = .ok (.if_icmp .le 5, 3) := by decide +kernel
theorem dX12_known_11 : decode cX12_known 11 = .ok (.iconst (-1), 1) := by decide +kernel
theorem dX12_known_12 : decode cX12_known 12 = .ok (.ireturn, 1) := by decide +kernel
theorem dX12_known_13 : decode cX12_known 13 = .ok (.iload_n 3, 1) := by decide +kernel
theorem dX12_known_14 : decode cX12_known 14 = .ok (.ifCond .ne 13, 3) := by decide +kernel
theorem dX12_known_17 : decode cX12_known 17 = .ok (.aload_n 0, 1) := by decide +kernel
theorem dX12_known_18 : decode cX12_known 18 = .ok (.getfield 66, 3) := by decide +kernel
theorem dX12_known_21 : decode cX12_known 21 = .ok (.iload_n 1, 1) := by decide +kernel
theorem dX12_known_22 : decode cX12_known 22 = .ok (.iload_n 2, 1) := by decide +kernel
theorem dX12_known_23 : decode cX12_known 23 = .ok (.invokevirtual 389, 3) := by decide +kernel
theorem dX12_known_26 : decode cX12_known 26 = .ok (.ireturn, 1) := by decide +kernel
theorem dX12_known_27 : decode cX12_known 27 = .ok (.iload_n 3, 1) := by decide +kernel
theorem dX12_known_28 : decode cX12_known 28 = .ok (.iconst 1, 1) := by decide +kernel
theorem dX12_known_29 : decode cX12_known 29 = .ok (.if_icmp .ne 15, 3) := by decide +kernel
theorem dX12_known_32 : decode cX12_known 32 = .ok (.aload_n 0, 1) := by decide +kernel
theorem dX12_known_33 : decode cX12_known 33 = .ok (.getfield 66, 3) := by decide +kernel
theorem dX12_known_36 : decode cX12_known 36 = .ok (.iload_n 1, 1) := by decide +kernel
theorem dX12_known_37 : decode cX12_known 37 = .ok (.iload_n 2, 1) := by decide +kernel
theorem dX12_known_38 : decode cX12_known 38 = .ok (.invokevirtual 412, 3) := by decide +kernel
theorem dX12_known_41 : decode cX12_known 41 = .ok (.goto 4, 3) := by decide +kernel
theorem dX12_known_44 : decode cX12_known 44 = .ok (.iconst (-1), 1) := by decide +kernel
theorem dX12_known_45 : decode cX12_known 45 = .ok (.ireturn, 1) := by decide +kernel
theorem dX12_forget_0 : decode cX12_forget 0 = .ok (.aload_n 0, 1) := by decide +kernel
theorem dX12_forget_1 : decode cX12_forget 1 = .ok (.getfield 99, 3) := by decide +kernel
theorem dX12_forget_4 : decode cX12_forget 4 = .ok (.getfield 574, 3) := by decide +kernel
theorem dX12_forget_7 : decode cX12_forget 7 = .ok (.istore_n 1, 1) := by decide +kernel
theorem dX12_forget_8 : decode cX12_forget 8 = .ok (.aload_n 0, 1) := by decide +kernel
theorem dX12_forget_9 : decode cX12_forget 9 = .ok (.getfield 99, 3) := by decide +kernel
theorem dX12_forget_12 : decode cX12_forget 12 = .ok (.iconst 0, 1) := by decide +kernel
theorem dX12_forget_13 : decode cX12_forget 13 = .ok (.putfield 574, 3) := by decide +kernel
theorem dX12_forget_16 : decode cX12_forget 16 = .ok (.iload_n 1, 1) := by decide +kernel
theorem dX12_forget_17 : decode cX12_forget 17 = .ok (.ireturn, 1) := by decide +kernel
set_option maxRecDepth 20000 in
theorem ggX12_count_X12_payOfAll : GoodIn wsX12_count wsX12_payOfAll := goodIn_r _ [16, 3, 17, 18, 19, 20, 15, 21, 22, 28, 29, 30, 31, 32, 33, 34, 35, 36, 37, 38, 39, 40, 41, 42, 43, 44, 45, 46, 47, 83, 84, 85, 86, 87, 88] (by decide +kernel) (by decide +kernel)
set_option maxRecDepth 20000 in
theorem gX12_count_X12_payOfAll : GoodIn wsX12_count (wsV RX12 596 RX12 yX12_payOfAll wsX12_payOfAll) := goodIn_app (goodIn_of _ (by decide +kernel)) ggX12_count_X12_payOfAll
set_option maxRecDepth 20000 in
theorem ggX12_count_X12_countOfHand : GoodIn wsX12_count wsX12_countOfHand := goodIn_r _ [26, 17, 27, 18, 19, 20, 15, 21, 3, 22, 83, 84, 85, 86, 87, 88, 28, 29, 30, 31, 32, 33, 34, 35, 36, 37, 38, 39, 40, 41, 42, 43, 44, 45, 46, 47] (by decide +kernel) (by decide +kernel)
set_option maxRecDepth 20000 in
theorem gX12_count_X12_countOfHand : GoodIn wsX12_count (wsV RX12 599 RX12 yX12_countOfHand wsX12_countOfHand) := goodIn_app (goodIn_of _ (by decide +kernel)) ggX12_count_X12_countOfHand
theorem dX12_count_0 : decode cX12_count 0 = .ok (.iload_n 1, 1) := by decide +kernel
theorem dX12_count_1 : decode cX12_count 1 = .ok (.tableswitch 105 0 8 #[51, 56, 61, 66, 71, 79, 87, 92, 100], 51) := by decide +kernel
theorem dX12_count_52 : decode cX12_count 52 = .ok (.aload_n 0, 1) := by decide +kernel
theorem dX12_count_53 : decode cX12_count 53 = .ok (.getfield 133, 3) := by decide +kernel
theorem dX12_count_56 : decode cX12_count 56 = .ok (.ireturn, 1) := by decide +kernel
theorem dX12_count_57 : decode cX12_count 57 = .ok (.aload_n 0, 1) := by decide +kernel
theorem dX12_count_58 : decode cX12_count 58 = .ok (.getfield 203, 3) := by decide +kernel
theorem dX12_count_61 : decode cX12_count 61 = .ok (.ireturn, 1) := by decide +kernel
theorem dX12_count_62 : decode cX12_count 62 = .ok (.aload_n 0, 1) := by decide +kernel
theorem dX12_count_63 : decode cX12_count 63 = .ok (.getfield 292, 3) := by decide +kernel
theorem dX12_count_66 : decode cX12_count 66 = .ok (.ireturn, 1) := by decide +kernel
theorem dX12_count_67 : decode cX12_count 67 = .ok (.aload_n 0, 1) := by decide +kernel
theorem dX12_count_68 : decode cX12_count 68 = .ok (.getfield 370, 3) := by decide +kernel
theorem dX12_count_71 : decode cX12_count 71 = .ok (.ireturn, 1) := by decide +kernel
theorem dX12_count_72 : decode cX12_count 72 = .ok (.aload_n 0, 1) := by decide +kernel
theorem dX12_count_73 : decode cX12_count 73 = .ok (.getfield 19, 3) := by decide +kernel
theorem dX12_count_76 : decode cX12_count 76 = .ok (.getfield 590, 3) := by decide +kernel
theorem dX12_count_79 : decode cX12_count 79 = .ok (.ireturn, 1) := by decide +kernel
theorem dX12_count_80 : decode cX12_count 80 = .ok (.aload_n 0, 1) := by decide +kernel
theorem dX12_count_81 : decode cX12_count 81 = .ok (.getfield 66, 3) := by decide +kernel
theorem dX12_count_84 : decode cX12_count 84 = .ok (.getfield 593, 3) := by decide +kernel
theorem dX12_count_87 : decode cX12_count 87 = .ok (.ireturn, 1) := by decide +kernel
theorem dX12_count_88 : decode cX12_count 88 = .ok (.aload_n 0, 1) := by decide +kernel
theorem dX12_count_89 : decode cX12_count 89 = .ok (.getfield 158, 3) := by decide +kernel
theorem dX12_count_92 : decode cX12_count 92 = .ok (.ireturn, 1) := by decide +kernel
theorem dX12_count_93 : decode cX12_count 93 = .ok (.aload_n 0, 1) := by decide +kernel
theorem dX12_count_94 : decode cX12_count 94 = .ok (.getfield 10, 3) := by decide +kernel
theorem dX12_count_97 : decode cX12_count 97 = .ok (.getfield 103, 3) := by decide +kernel
theorem dX12_count_100 : decode cX12_count 100 = .ok (.ireturn, 1) := by decide +kernel
theorem dX12_count_101 : decode cX12_count 101 = .ok (.aload_n 0, 1) := by decide +kernel
theorem dX12_count_102 : decode cX12_count 102 = .ok (.invokevirtual 596, 3) := by decide +kernel
theorem dX12_count_105 : decode cX12_count 105 = .ok (.ireturn, 1) := by decide +kernel
theorem dX12_count_106 : decode cX12_count 106 = .ok (.aload_n 0, 1) := by decide +kernel
theorem dX12_count_107 : decode cX12_count 107 = .ok (.iload_n 1, 1) := by decide +kernel
theorem dX12_count_108 : decode cX12_count 108 = .ok (.invokevirtual 599, 3) := by decide +kernel
theorem dX12_count_111 : decode cX12_count 111 = .ok (.ireturn, 1) := by decide +kernel
theorem dX12_payOfAll_0 : decode cX12_payOfAll 0 = .ok (.iconst 0, 1) := by decide +kernel
theorem dX12_payOfAll_1 : decode cX12_payOfAll 1 = .ok (.istore_n 1, 1) := by decide +kernel
theorem dX12_payOfAll_2 : decode cX12_payOfAll 2 = .ok (.iconst 0, 1) := by decide +kernel
theorem dX12_payOfAll_3 : decode cX12_payOfAll 3 = .ok (.istore_n 2, 1) := by decide +kernel
theorem dX12_payOfAll_4 : decode cX12_payOfAll 4 = .ok (.iload_n 2, 1) := by decide +kernel
theorem dX12_payOfAll_5 : decode cX12_payOfAll 5 = .ok (.aload_n 0, 1) := by decide +kernel
theorem dX12_payOfAll_6 : decode cX12_payOfAll 6 = .ok (.getfield 292, 3) := by decide +kernel
theorem dX12_payOfAll_9 : decode cX12_payOfAll 9 = .ok (.if_icmp .ge 30, 3) := by decide +kernel
theorem dX12_payOfAll_39 : decode cX12_payOfAll 39 = .ok (.iload_n 1, 1) := by decide +kernel
theorem dX12_payOfAll_40 : decode cX12_payOfAll 40 = .ok (.ireturn, 1) := by decide +kernel
set_option maxRecDepth 20000 in
theorem ggX12_countOfHand_X12_handAt : GoodIn wsX12_countOfHand wsX12_handAt := goodIn_r _ [7, 8, 9, 16, 17, 18, 19, 20, 21, 22, 23, 24, 25, 26, 27, 28, 29, 30, 31, 32, 33, 34, 35] (by decide +kernel) (by decide +kernel)
set_option maxRecDepth 20000 in
theorem gX12_countOfHand_X12_handAt : GoodIn wsX12_countOfHand (wsV RX12 296 RX12 yX12_handAt wsX12_handAt) := goodIn_app (goodIn_of _ (by decide +kernel)) ggX12_countOfHand_X12_handAt
theorem dX12_countOfHand_0 : decode cX12_countOfHand 0 = .ok (.iload_n 1, 1) := by decide +kernel
theorem dX12_countOfHand_1 : decode cX12_countOfHand 1 = .ok (.bipush 10, 2) := by decide +kernel
theorem dX12_countOfHand_3 : decode cX12_countOfHand 3 = .ok (.if_icmp .lt 13, 3) := by decide +kernel
theorem dX12_countOfHand_6 : decode cX12_countOfHand 6 = .ok (.iload_n 1, 1) := by decide +kernel
theorem dX12_countOfHand_7 : decode cX12_countOfHand 7 = .ok (.bipush 22, 2) := by decide +kernel
theorem dX12_countOfHand_9 : decode cX12_countOfHand 9 = .ok (.if_icmp .ge 7, 3) := by decide +kernel
theorem dX12_countOfHand_12 : decode cX12_countOfHand 12 = .ok (.iconst 1, 1) := by decide +kernel
theorem dX12_countOfHand_13 : decode cX12_countOfHand 13 = .ok (.goto 4, 3) := by decide +kernel
theorem dX12_countOfHand_16 : decode cX12_countOfHand 16 = .ok (.iconst 0, 1) := by decide +kernel
theorem dX12_countOfHand_17 : decode cX12_countOfHand 17 = .ok (.istore_n 2, 1) := by decide +kernel
theorem dX12_countOfHand_18 : decode cX12_countOfHand 18 = .ok (.iload_n 1, 1) := by decide +kernel
theorem dX12_countOfHand_19 : decode cX12_countOfHand 19 = .ok (.bipush 30, 2) := by decide +kernel
theorem dX12_countOfHand_21 : decode cX12_countOfHand 21 = .ok (.if_icmp .lt 13, 3) := by decide +kernel
theorem dX12_countOfHand_24 : decode cX12_countOfHand 24 = .ok (.iload_n 1, 1) := by decide +kernel
theorem dX12_countOfHand_25 : decode cX12_countOfHand 25 = .ok (.bipush 42, 2) := by decide +kernel
theorem dX12_countOfHand_27 : decode cX12_countOfHand 27 = .ok (.if_icmp .ge 7, 3) := by decide +kernel
theorem dX12_countOfHand_30 : decode cX12_countOfHand 30 = .ok (.iconst 1, 1) := by decide +kernel
theorem dX12_countOfHand_31 : decode cX12_countOfHand 31 = .ok (.goto 4, 3) := by decide +kernel
theorem dX12_countOfHand_34 : decode cX12_countOfHand 34 = .ok (.iconst 0, 1) := by decide +kernel
theorem dX12_countOfHand_35 : decode cX12_countOfHand 35 = .ok (.istore_n 3, 1) := by decide +kernel
theorem dX12_countOfHand_36 : decode cX12_countOfHand 36 = .ok (.iload_n 2, 1) := by decide +kernel
theorem dX12_countOfHand_37 : decode cX12_countOfHand 37 = .ok (.ifCond .ne 9, 3) := by decide +kernel
theorem dX12_countOfHand_40 : decode cX12_countOfHand 40 = .ok (.iload_n 3, 1) := by decide +kernel
theorem dX12_countOfHand_41 : decode cX12_countOfHand 41 = .ok (.ifCond .ne 5, 3) := by decide +kernel
theorem dX12_countOfHand_44 : decode cX12_countOfHand 44 = .ok (.iconst (-1), 1) := by decide +kernel
theorem dX12_countOfHand_45 : decode cX12_countOfHand 45 = .ok (.ireturn, 1) := by decide +kernel
theorem dX12_countOfHand_46 : decode cX12_countOfHand 46 = .ok (.aload_n 0, 1) := by decide +kernel
theorem dX12_countOfHand_47 : decode cX12_countOfHand 47 = .ok (.iload_n 2, 1) := by decide +kernel
theorem dX12_countOfHand_48 : decode cX12_countOfHand 48 = .ok (.ifCond .eq 10, 3) := by decide +kernel
theorem dX12_countOfHand_51 : decode cX12_countOfHand 51 = .ok (.iload_n 1, 1) := by decide +kernel
theorem dX12_countOfHand_52 : decode cX12_countOfHand 52 = .ok (.bipush 10, 2) := by decide +kernel
theorem dX12_countOfHand_54 : decode cX12_countOfHand 54 = .ok (.isub, 1) := by decide +kernel
theorem dX12_countOfHand_55 : decode cX12_countOfHand 55 = .ok (.goto 7, 3) := by decide +kernel
theorem dX12_countOfHand_58 : decode cX12_countOfHand 58 = .ok (.iload_n 1, 1) := by decide +kernel
theorem dX12_countOfHand_59 : decode cX12_countOfHand 59 = .ok (.bipush 30, 2) := by decide +kernel
theorem dX12_countOfHand_61 : decode cX12_countOfHand 61 = .ok (.isub, 1) := by decide +kernel
theorem dX12_countOfHand_62 : decode cX12_countOfHand 62 = .ok (.invokevirtual 296, 3) := by decide +kernel
theorem dX12_countOfHand_65 : decode cX12_countOfHand 65 = .ok (.astore 4, 2) := by decide +kernel
theorem dX12_countOfHand_67 : decode cX12_countOfHand 67 = .ok (.aload 4, 2) := by decide +kernel
theorem dX12_countOfHand_69 : decode cX12_countOfHand 69 = .ok (.ifnonnull 5, 3) := by decide +kernel
theorem dX12_countOfHand_72 : decode cX12_countOfHand 72 = .ok (.iconst (-1), 1) := by decide +kernel
theorem dX12_countOfHand_73 : decode cX12_countOfHand 73 = .ok (.ireturn, 1) := by decide +kernel
theorem dJ7_fill_53178_0 : decode cJ7_fill_53178 0 = .ok (.iconst 0, 1) := by decide +kernel
theorem dJ7_fill_53178_1 : decode cJ7_fill_53178 1 = .ok (.istore_n 2, 1) := by decide +kernel
theorem dJ7_fill_53178_2 : decode cJ7_fill_53178 2 = .ok (.aload_n 0, 1) := by decide +kernel
theorem dJ7_fill_53178_3 : decode cJ7_fill_53178 3 = .ok (.arraylength, 1) := by decide +kernel
theorem dJ7_fill_53178_4 : decode cJ7_fill_53178 4 = .ok (.istore_n 3, 1) := by decide +kernel
theorem dJ7_fill_53178_5 : decode cJ7_fill_53178 5 = .ok (.iload_n 2, 1) := by decide +kernel
theorem dJ7_fill_53178_6 : decode cJ7_fill_53178 6 = .ok (.iload_n 3, 1) := by decide +kernel
theorem dJ7_fill_53178_7 : decode cJ7_fill_53178 7 = .ok (.if_icmp .ge 13, 3) := by decide +kernel
theorem dJ7_fill_53178_10 : decode cJ7_fill_53178 10 = .ok (.aload_n 0, 1) := by decide +kernel
theorem dJ7_fill_53178_11 : decode cJ7_fill_53178 11 = .ok (.iload_n 2, 1) := by decide +kernel
theorem dJ7_fill_53178_12 : decode cJ7_fill_53178 12 = .ok (.iload_n 1, 1) := by decide +kernel
theorem dJ7_fill_53178_13 : decode cJ7_fill_53178 13 = .ok (.iastore, 1) := by decide +kernel
theorem dJ7_fill_53178_14 : decode cJ7_fill_53178 14 = .ok (.iinc 2 1, 3) := by decide +kernel
theorem dJ7_fill_53178_17 : decode cJ7_fill_53178 17 = .ok (.goto (-12), 3) := by decide +kernel
theorem dJ7_fill_53178_20 : decode cJ7_fill_53178 20 = .ok (.return_, 1) := by decide +kernel
abbrev vwCl : List vw_C := [(RX0, TX0, 18), (RX1, TX1, 10), (RX2, TX2, 6), (RX3, TX3, 7), (RX4, TX4, 9), (RX5, TX5, 12), (RX6, TX6, 6), (RX7, TX7, 15), (RX8, TX8, 8), (RX9, TX9, 4), (RX10, TX10, 3), (RX11, TX11, 7), (RX12, TX12, 20), (RX13, TX13, 104)]
/-! ===== END names ===== -/
