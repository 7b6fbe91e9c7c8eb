def RX0 : String := "PapersDesk$Ask"
def TX0 : u_T := fun k => match k with
  | 0 => ("PapersDesk$Ask", "number", "I", true)
  | 1 => ("PapersDesk$Ask", "folder", "I", true)
  | 2 => ("PapersDesk$Ask", "from", "I", true)
  | 3 => ("PapersDesk$Ask", "to", "I", true)
  | 4 => ("PapersDesk$Ask", "came", "I", true)
  | 5 => ("PapersDesk$Ask", "words", "[I", true)
  | 6 => ("PapersDesk$Ask", "wordCount", "I", false)
  | 7 => ("PapersDesk$Ask", "repeats", "I", false)
  | 8 => ("PapersDesk$Ask", "pagesGiven", "I", false)
  | 9 => ("PapersDesk$Ask", "stopped", "Z", false)
  | 10 => ("PapersDesk$Ask", "settledDay", "I", false)
  | _ => ("PapersDesk$Ask", "workedDays", "I", false)
def tyX0 : Nat → FieldType := fun k => match k with
  | 0 => .int
  | 1 => .int
  | 2 => .int
  | 3 => .int
  | 4 => .int
  | 5 => .array .int
  | 6 => .int
  | 7 => .int
  | 8 => .int
  | 9 => .boolean
  | 10 => .int
  | _ => .int
abbrev wsX00 : List Cond := u_ws RX0 TX0 12
theorem nmX0 : ∀ a, a < 12 → ∀ b, b < 12 → a ≠ b → (TX0 a).2.1 ≠ (TX0 b).2.1 := by decide +kernel
theorem tyX0_ok : ∀ k, k < 12 → parseFieldDescriptor (TX0 k).2.2.1 = some (tyX0 k) := by decide +kernel
abbrev cX0_init : ByteArray := prog_2_method_1_code
def yX0_init : MethodName := ⟨RX0, "<init>", "(IIIII)V"⟩
abbrev cX0_addWord : ByteArray := prog_2_method_2_code
def yX0_addWord : MethodName := ⟨RX0, "addWord", "(I)V"⟩
abbrev cX0_hasWord : ByteArray := prog_2_method_3_code
def yX0_hasWord : MethodName := ⟨RX0, "hasWord", "(I)Z"⟩
abbrev cX0_hasWordsOf : ByteArray := prog_2_method_4_code
def yX0_hasWordsOf : MethodName := ⟨RX0, "hasWordsOf", "(LPapersDesk$Ask;)Z"⟩
abbrev cX0_asksSameAs : ByteArray := prog_2_method_5_code
def yX0_asksSameAs : MethodName := ⟨RX0, "asksSameAs", "(LPapersDesk$Ask;)Z"⟩
abbrev cX0_isWorkingDay : ByteArray := prog_2_method_6_code
def yX0_isWorkingDay : MethodName := ⟨RX0, "isWorkingDay", "(I)Z"⟩
abbrev cX0_countThrough : ByteArray := prog_2_method_7_code
def yX0_countThrough : MethodName := ⟨RX0, "countThrough", "(I)V"⟩
abbrev cX0_skipThrough : ByteArray := prog_2_method_8_code
def yX0_skipThrough : MethodName := ⟨RX0, "skipThrough", "(I)V"⟩
abbrev cX0_dueDay : ByteArray := prog_2_method_9_code
def yX0_dueDay : MethodName := ⟨RX0, "dueDay", "()I"⟩
abbrev cX0_isOverdueOn : ByteArray := prog_2_method_10_code
def yX0_isOverdueOn : MethodName := ⟨RX0, "isOverdueOn", "(I)Z"⟩
def RX1 : String := "PapersDesk$Gift"
def TX1 : u_T := fun k => match k with
  | 0 => ("PapersDesk$Gift", "ask", "I", true)
  | 1 => ("PapersDesk$Gift", "page", "I", true)
  | 2 => ("PapersDesk$Gift", "day", "I", true)
  | 3 => ("PapersDesk$Gift", "blackWords", "I", true)
  | _ => ("PapersDesk$Gift", "words", "[I", true)
def tyX1 : Nat → FieldType := fun k => match k with
  | 0 => .int
  | 1 => .int
  | 2 => .int
  | 3 => .int
  | _ => .array .int
abbrev wsX10 : List Cond := u_ws RX1 TX1 5
theorem nmX1 : ∀ a, a < 5 → ∀ b, b < 5 → a ≠ b → (TX1 a).2.1 ≠ (TX1 b).2.1 := by decide +kernel
theorem tyX1_ok : ∀ k, k < 5 → parseFieldDescriptor (TX1 k).2.2.1 = some (tyX1 k) := by decide +kernel
abbrev cX1_init : ByteArray := prog_3_method_1_code
def yX1_init : MethodName := ⟨RX1, "<init>", "(ILPapersDesk$Page;II)V"⟩
def RX2 : String := "PapersDesk$Page"
def TX2 : u_T := fun k => match k with
  | 0 => ("PapersDesk$Page", "number", "I", true)
  | 1 => ("PapersDesk$Page", "paper", "LPapersDesk$Paper;", true)
  | _ => ("PapersDesk$Page", "text", "LPapersDesk$Text;", true)
def tyX2 : Nat → FieldType := fun k => match k with
  | 0 => .int
  | 1 => .object "PapersDesk$Paper"
  | _ => .object "PapersDesk$Text"
abbrev wsX20 : List Cond := u_ws RX2 TX2 3
theorem nmX2 : ∀ a, a < 3 → ∀ b, b < 3 → a ≠ b → (TX2 a).2.1 ≠ (TX2 b).2.1 := by decide +kernel
theorem tyX2_ok : ∀ k, k < 3 → parseFieldDescriptor (TX2 k).2.2.1 = some (tyX2 k) := by decide +kernel
abbrev cX2_init : ByteArray := prog_4_method_1_code
def yX2_init : MethodName := ⟨RX2, "<init>", "(ILPapersDesk$Paper;LPapersDesk$Text;)V"⟩
def RX3 : String := "PapersDesk$Paper"
def TX3 : u_T := fun k => match k with
  | 0 => ("PapersDesk$Paper", "number", "I", true)
  | 1 => ("PapersDesk$Paper", "folder", "I", true)
  | 2 => ("PapersDesk$Paper", "day", "I", true)
  | 3 => ("PapersDesk$Paper", "pages", "Ljava/util/ArrayList;", true)
  | 4 => ("PapersDesk$Paper", "thirds", "I", false)
  | _ => ("PapersDesk$Paper", "fits", "Z", false)
def tyX3 : Nat → FieldType := fun k => match k with
  | 0 => .int
  | 1 => .int
  | 2 => .int
  | 3 => .object "java/util/ArrayList"
  | 4 => .int
  | _ => .boolean
abbrev wsX30 : List Cond := u_ws RX3 TX3 6
theorem nmX3 : ∀ a, a < 6 → ∀ b, b < 6 → a ≠ b → (TX3 a).2.1 ≠ (TX3 b).2.1 := by decide +kernel
theorem tyX3_ok : ∀ k, k < 6 → parseFieldDescriptor (TX3 k).2.2.1 = some (tyX3 k) := by decide +kernel
abbrev cX3_init : ByteArray := prog_5_method_1_code
def yX3_init : MethodName := ⟨RX3, "<init>", "(III)V"⟩
abbrev cX3_shows : ByteArray := prog_5_method_2_code
def yX3_shows : MethodName := ⟨RX3, "shows", "(II)Z"⟩
def RX4 : String := "PapersDesk$RuleReader"
def TX4 : u_T := fun k => match k with
  | 0 => ("PapersDesk$RuleReader", "tape", "LPapersDesk$Tape;", true)
  | 1 => ("PapersDesk$RuleReader", "rules", "LPapersDesk$Rules;", true)
  | 2 => ("PapersDesk$RuleReader", "at", "I", false)
  | 3 => ("PapersDesk$RuleReader", "token", "I", false)
  | _ => ("PapersDesk$RuleReader", "fault", "I", false)
def tyX4 : Nat → FieldType := fun k => match k with
  | 0 => .object "PapersDesk$Tape"
  | 1 => .object "PapersDesk$Rules"
  | 2 => .int
  | 3 => .int
  | _ => .int
abbrev wsX40 : List Cond := u_ws RX4 TX4 5
theorem nmX4 : ∀ a, a < 5 → ∀ b, b < 5 → a ≠ b → (TX4 a).2.1 ≠ (TX4 b).2.1 := by decide +kernel
theorem tyX4_ok : ∀ k, k < 5 → parseFieldDescriptor (TX4 k).2.2.1 = some (tyX4 k) := by decide +kernel
abbrev cX4_init : ByteArray := prog_6_method_1_code
def yX4_init : MethodName := ⟨RX4, "<init>", "(LPapersDesk$Tape;LPapersDesk$Rules;)V"⟩
abbrev cX4_readAll : ByteArray := prog_6_method_2_code
def yX4_readAll : MethodName := ⟨RX4, "readAll", "()I"⟩
abbrev cX4_step : ByteArray := prog_6_method_3_code
def yX4_step : MethodName := ⟨RX4, "step", "()V"⟩
abbrev cX4_refuse : ByteArray := prog_6_method_4_code
def yX4_refuse : MethodName := ⟨RX4, "refuse", "(I)Z"⟩
abbrev cX4_take : ByteArray := prog_6_method_5_code
def yX4_take : MethodName := ⟨RX4, "take", "(I)Z"⟩
abbrev cX4_readLine : ByteArray := prog_6_method_6_code
def yX4_readLine : MethodName := ⟨RX4, "readLine", "()Z"⟩
abbrev cX4_readExpression : ByteArray := prog_6_method_7_code
def yX4_readExpression : MethodName := ⟨RX4, "readExpression", "(I)Z"⟩
abbrev cX4_readTest : ByteArray := prog_6_method_8_code
def yX4_readTest : MethodName := ⟨RX4, "readTest", "(I)Z"⟩
abbrev cX4_readSum : ByteArray := prog_6_method_9_code
def yX4_readSum : MethodName := ⟨RX4, "readSum", "(I)Z"⟩
abbrev cX4_readPart : ByteArray := prog_6_method_10_code
def yX4_readPart : MethodName := ⟨RX4, "readPart", "(I)Z"⟩
def RX5 : String := "PapersDesk$Rules"
def TX5 : u_T := fun k => match k with
  | 0 => ("PapersDesk$Rules", "lines", "I", false)
  | 1 => ("PapersDesk$Rules", "lineGround", "[I", true)
  | 2 => ("PapersDesk$Rules", "lineEnd", "[I", true)
  | 3 => ("PapersDesk$Rules", "code", "[I", true)
  | 4 => ("PapersDesk$Rules", "codeLength", "I", false)
  | _ => ("PapersDesk$Rules", "stack", "[I", true)
def tyX5 : Nat → FieldType := fun k => match k with
  | 0 => .int
  | 1 => .array .int
  | 2 => .array .int
  | 3 => .array .int
  | 4 => .int
  | _ => .array .int
abbrev wsX50 : List Cond := u_ws RX5 TX5 6
theorem nmX5 : ∀ a, a < 6 → ∀ b, b < 6 → a ≠ b → (TX5 a).2.1 ≠ (TX5 b).2.1 := by decide +kernel
theorem tyX5_ok : ∀ k, k < 6 → parseFieldDescriptor (TX5 k).2.2.1 = some (tyX5 k) := by decide +kernel
abbrev cX5_init : ByteArray := prog_7_method_1_code
def yX5_init : MethodName := ⟨RX5, "<init>", "()V"⟩
abbrev cX5_wipe : ByteArray := prog_7_method_2_code
def yX5_wipe : MethodName := ⟨RX5, "wipe", "()V"⟩
abbrev cX5_isOperand : ByteArray := prog_7_method_3_code
def yX5_isOperand : MethodName := ⟨RX5, "isOperand", "(I)Z"⟩
abbrev cX5_putCode : ByteArray := prog_7_method_4_code
def yX5_putCode : MethodName := ⟨RX5, "putCode", "(I)V"⟩
abbrev cX5_closeLine : ByteArray := prog_7_method_5_code
def yX5_closeLine : MethodName := ⟨RX5, "closeLine", "(I)V"⟩
abbrev cX5_groundsHolding : ByteArray := prog_7_method_6_code
def yX5_groundsHolding : MethodName := ⟨RX5, "groundsHolding", "(LPapersDesk$Paper;I)I"⟩
abbrev cX5_valueOf : ByteArray := prog_7_method_7_code
def yX5_valueOf : MethodName := ⟨RX5, "valueOf", "(IILPapersDesk$Paper;I)I"⟩
abbrev cX5_valueOfOperand : ByteArray := prog_7_method_8_code
def yX5_valueOfOperand : MethodName := ⟨RX5, "valueOfOperand", "(ILPapersDesk$Paper;I)I"⟩
abbrev cX5_join : ByteArray := prog_7_method_9_code
def yX5_join : MethodName := ⟨RX5, "join", "(III)I"⟩
def RX6 : String := "PapersDesk$Tape"
def TX6 : u_T := fun k => match k with
  | 0 => ("PapersDesk$Tape", "signs", "[C", true)
  | 1 => ("PapersDesk$Tape", "length", "I", false)
  | 2 => ("PapersDesk$Tape", "tokens", "[I", true)
  | _ => ("PapersDesk$Tape", "places", "[I", true)
def tyX6 : Nat → FieldType := fun k => match k with
  | 0 => .array .char
  | 1 => .int
  | 2 => .array .int
  | _ => .array .int
abbrev wsX60 : List Cond := u_ws RX6 TX6 4
theorem nmX6 : ∀ a, a < 4 → ∀ b, b < 4 → a ≠ b → (TX6 a).2.1 ≠ (TX6 b).2.1 := by decide +kernel
theorem tyX6_ok : ∀ k, k < 4 → parseFieldDescriptor (TX6 k).2.2.1 = some (tyX6 k) := by decide +kernel
abbrev cX6_init : ByteArray := prog_8_method_1_code
def yX6_init : MethodName := ⟨RX6, "<init>", "()V"⟩
abbrev cX6_putBytes : ByteArray := prog_8_method_2_code
def yX6_putBytes : MethodName := ⟨RX6, "putBytes", "(J)V"⟩
abbrev cX6_putSign : ByteArray := prog_8_method_3_code
def yX6_putSign : MethodName := ⟨RX6, "putSign", "(C)V"⟩
abbrev cX6_wipe : ByteArray := prog_8_method_4_code
def yX6_wipe : MethodName := ⟨RX6, "wipe", "()V"⟩
abbrev cX6_tokenAt : ByteArray := prog_8_method_5_code
def yX6_tokenAt : MethodName := ⟨RX6, "tokenAt", "(I)I"⟩
abbrev cX6_placeOf : ByteArray := prog_8_method_6_code
def yX6_placeOf : MethodName := ⟨RX6, "placeOf", "(I)I"⟩
abbrev cX6_cut : ByteArray := prog_8_method_7_code
def yX6_cut : MethodName := ⟨RX6, "cut", "()V"⟩
abbrev cX6_skipBlanks : ByteArray := prog_8_method_8_code
def yX6_skipBlanks : MethodName := ⟨RX6, "skipBlanks", "(I)I"⟩
abbrev cX6_endOfToken : ByteArray := prog_8_method_9_code
def yX6_endOfToken : MethodName := ⟨RX6, "endOfToken", "(I)I"⟩
abbrev cX6_isLetter : ByteArray := prog_8_method_10_code
def yX6_isLetter : MethodName := ⟨RX6, "isLetter", "(C)Z"⟩
abbrev cX6_isDigit : ByteArray := prog_8_method_11_code
def yX6_isDigit : MethodName := ⟨RX6, "isDigit", "(C)Z"⟩
abbrev cX6_kindOf : ByteArray := prog_8_method_12_code
def yX6_kindOf : MethodName := ⟨RX6, "kindOf", "(II)I"⟩
abbrev cX6_valueOfDigits : ByteArray := prog_8_method_13_code
def yX6_valueOfDigits : MethodName := ⟨RX6, "valueOfDigits", "(II)I"⟩
abbrev cX6_kindOfSign : ByteArray := prog_8_method_14_code
def yX6_kindOfSign : MethodName := ⟨RX6, "kindOfSign", "(I)I"⟩
abbrev cX6_kindOfWord : ByteArray := prog_8_method_15_code
def yX6_kindOfWord : MethodName := ⟨RX6, "kindOfWord", "(II)I"⟩
abbrev cX6_spells : ByteArray := prog_8_method_16_code
def yX6_spells : MethodName := ⟨RX6, "spells", "(IILjava/lang/String;)Z"⟩
def RX7 : String := "PapersDesk$Text"
def TX7 : u_T := fun k => match k with
  | 0 => ("PapersDesk$Text", "number", "I", true)
  | 1 => ("PapersDesk$Text", "words", "[I", true)
  | 2 => ("PapersDesk$Text", "judged", "Z", false)
  | 3 => ("PapersDesk$Text", "seen", "Z", false)
  | 4 => ("PapersDesk$Text", "givenFor", "I", false)
  | 5 => ("PapersDesk$Text", "spans", "I", false)
  | 6 => ("PapersDesk$Text", "spanFrom", "[I", true)
  | 7 => ("PapersDesk$Text", "spanTo", "[I", true)
  | _ => ("PapersDesk$Text", "spanGround", "[I", true)
def tyX7 : Nat → FieldType := fun k => match k with
  | 0 => .int
  | 1 => .array .int
  | 2 => .boolean
  | 3 => .boolean
  | 4 => .int
  | 5 => .int
  | 6 => .array .int
  | 7 => .array .int
  | _ => .array .int
abbrev wsX70 : List Cond := u_ws RX7 TX7 9
theorem nmX7 : ∀ a, a < 9 → ∀ b, b < 9 → a ≠ b → (TX7 a).2.1 ≠ (TX7 b).2.1 := by decide +kernel
theorem tyX7_ok : ∀ k, k < 9 → parseFieldDescriptor (TX7 k).2.2.1 = some (tyX7 k) := by decide +kernel
abbrev cX7_init : ByteArray := prog_9_method_1_code
def yX7_init : MethodName := ⟨RX7, "<init>", "(I[II)V"⟩
abbrev cX7_reads : ByteArray := prog_9_method_2_code
def yX7_reads : MethodName := ⟨RX7, "reads", "([II)Z"⟩
abbrev cX7_wasGivenFor : ByteArray := prog_9_method_3_code
def yX7_wasGivenFor : MethodName := ⟨RX7, "wasGivenFor", "(LPapersDesk$Ask;)Z"⟩
abbrev cX7_noteGivenFor : ByteArray := prog_9_method_4_code
def yX7_noteGivenFor : MethodName := ⟨RX7, "noteGivenFor", "(LPapersDesk$Ask;)V"⟩
abbrev cX7_addSpan : ByteArray := prog_9_method_5_code
def yX7_addSpan : MethodName := ⟨RX7, "addSpan", "(III)V"⟩
abbrev cX7_dropSpan : ByteArray := prog_9_method_6_code
def yX7_dropSpan : MethodName := ⟨RX7, "dropSpan", "(I)V"⟩
abbrev cX7_isBlackAt : ByteArray := prog_9_method_7_code
def yX7_isBlackAt : MethodName := ⟨RX7, "isBlackAt", "(II)Z"⟩
abbrev cX7_wordShown : ByteArray := prog_9_method_8_code
def yX7_wordShown : MethodName := ⟨RX7, "wordShown", "(II)I"⟩
abbrev cX7_countBlack : ByteArray := prog_9_method_9_code
def yX7_countBlack : MethodName := ⟨RX7, "countBlack", "(I)I"⟩
abbrev cX7_showsWord : ByteArray := prog_9_method_10_code
def yX7_showsWord : MethodName := ⟨RX7, "showsWord", "(II)Z"⟩
def RX8 : String := "PapersDesk"
def TX8 : u_T := fun k => match k with
  | 0 => ("PapersDesk", "now", "I", false)
  | 1 => ("PapersDesk", "folderIn", "[I", true)
  | 2 => ("PapersDesk", "folders", "I", false)
  | 3 => ("PapersDesk", "told", "[I", true)
  | 4 => ("PapersDesk", "toldWords", "I", false)
  | 5 => ("PapersDesk", "papers", "Ljava/util/ArrayList;", true)
  | 6 => ("PapersDesk", "pages", "Ljava/util/ArrayList;", true)
  | 7 => ("PapersDesk", "texts", "Ljava/util/ArrayList;", true)
  | 8 => ("PapersDesk", "asks", "Ljava/util/ArrayList;", true)
  | 9 => ("PapersDesk", "gifts", "Ljava/util/ArrayList;", true)
  | 10 => ("PapersDesk", "heardPersons", "I", false)
  | 11 => ("PapersDesk", "tape", "LPapersDesk$Tape;", true)
  | 12 => ("PapersDesk", "inForce", "LPapersDesk$Rules;", false)
  | _ => ("PapersDesk", "draft", "LPapersDesk$Rules;", false)
def tyX8 : Nat → FieldType := fun k => match k with
  | 0 => .int
  | 1 => .array .int
  | 2 => .int
  | 3 => .array .int
  | 4 => .int
  | 5 => .object "java/util/ArrayList"
  | 6 => .object "java/util/ArrayList"
  | 7 => .object "java/util/ArrayList"
  | 8 => .object "java/util/ArrayList"
  | 9 => .object "java/util/ArrayList"
  | 10 => .int
  | 11 => .object "PapersDesk$Tape"
  | 12 => .object "PapersDesk$Rules"
  | _ => .object "PapersDesk$Rules"
abbrev wsX80 : List Cond := u_ws RX8 TX8 14
theorem nmX8 : ∀ a, a < 14 → ∀ b, b < 14 → a ≠ b → (TX8 a).2.1 ≠ (TX8 b).2.1 := by decide +kernel
theorem tyX8_ok : ∀ k, k < 14 → parseFieldDescriptor (TX8 k).2.2.1 = some (tyX8 k) := by decide +kernel
abbrev cX8_init : ByteArray := prog_1_method_1_code
def yX8_init : MethodName := ⟨RX8, "<init>", "()V"⟩
abbrev cX8_days : ByteArray := prog_1_method_2_code
def yX8_days : MethodName := ⟨RX8, "days", "(I)I"⟩
abbrev cX8_folder : ByteArray := prog_1_method_3_code
def yX8_folder : MethodName := ⟨RX8, "folder", "(I)I"⟩
abbrev cX8_word : ByteArray := prog_1_method_4_code
def yX8_word : MethodName := ⟨RX8, "word", "(I)I"⟩
abbrev cX8_paper : ByteArray := prog_1_method_5_code
def yX8_paper : MethodName := ⟨RX8, "paper", "(II)I"⟩
abbrev cX8_page : ByteArray := prog_1_method_6_code
def yX8_page : MethodName := ⟨RX8, "page", "(I)I"⟩
abbrev cX8_third : ByteArray := prog_1_method_7_code
def yX8_third : MethodName := ⟨RX8, "third", "(IIZ)Z"⟩
abbrev cX8_heard : ByteArray := prog_1_method_8_code
def yX8_heard : MethodName := ⟨RX8, "heard", "(I)Z"⟩
abbrev cX8_judge : ByteArray := prog_1_method_9_code
def yX8_judge : MethodName := ⟨RX8, "judge", "(IZ)Z"⟩
abbrev cX8_black : ByteArray := prog_1_method_10_code
def yX8_black : MethodName := ⟨RX8, "black", "(IIII)I"⟩
abbrev cX8_clear : ByteArray := prog_1_method_11_code
def yX8_clear : MethodName := ⟨RX8, "clear", "(II)Z"⟩
abbrev cX8_feed : ByteArray := prog_1_method_12_code
def yX8_feed : MethodName := ⟨RX8, "feed", "(JJJ)I"⟩
abbrev cX8_rules : ByteArray := prog_1_method_13_code
def yX8_rules : MethodName := ⟨RX8, "rules", "()I"⟩
abbrev cX8_ask : ByteArray := prog_1_method_14_code
def yX8_ask : MethodName := ⟨RX8, "ask", "(III)I"⟩
abbrev cX8_narrow : ByteArray := prog_1_method_15_code
def yX8_narrow : MethodName := ⟨RX8, "narrow", "(II)I"⟩
abbrev cX8_stop : ByteArray := prog_1_method_16_code
def yX8_stop : MethodName := ⟨RX8, "stop", "(IZ)Z"⟩
abbrev cX8_due : ByteArray := prog_1_method_17_code
def yX8_due : MethodName := ⟨RX8, "due", "(I)I"⟩
abbrev cX8_found : ByteArray := prog_1_method_18_code
def yX8_found : MethodName := ⟨RX8, "found", "(I)I"⟩
abbrev cX8_finds : ByteArray := prog_1_method_19_code
def yX8_finds : MethodName := ⟨RX8, "finds", "(II)I"⟩
abbrev cX8_answer : ByteArray := prog_1_method_20_code
def yX8_answer : MethodName := ⟨RX8, "answer", "(II)I"⟩
abbrev cX8_given : ByteArray := prog_1_method_21_code
def yX8_given : MethodName := ⟨RX8, "given", "(II)I"⟩
abbrev cX8_look : ByteArray := prog_1_method_22_code
def yX8_look : MethodName := ⟨RX8, "look", "(II)I"⟩
abbrev cX8_read : ByteArray := prog_1_method_23_code
def yX8_read : MethodName := ⟨RX8, "read", "(II)I"⟩
abbrev cX8_count : ByteArray := prog_1_method_24_code
def yX8_count : MethodName := ⟨RX8, "count", "(I)I"⟩
abbrev cX8_isFolder : ByteArray := prog_1_method_25_code
def yX8_isFolder : MethodName := ⟨RX8, "isFolder", "(I)Z"⟩
abbrev cX8_isWord : ByteArray := prog_1_method_26_code
def yX8_isWord : MethodName := ⟨RX8, "isWord", "(I)Z"⟩
abbrev cX8_isPerson : ByteArray := prog_1_method_27_code
def yX8_isPerson : MethodName := ⟨RX8, "isPerson", "(I)Z"⟩
abbrev cX8_paperAt : ByteArray := prog_1_method_28_code
def yX8_paperAt : MethodName := ⟨RX8, "paperAt", "(I)LPapersDesk$Paper;"⟩
abbrev cX8_textAt : ByteArray := prog_1_method_29_code
def yX8_textAt : MethodName := ⟨RX8, "textAt", "(I)LPapersDesk$Text;"⟩
abbrev cX8_askAt : ByteArray := prog_1_method_30_code
def yX8_askAt : MethodName := ⟨RX8, "askAt", "(I)LPapersDesk$Ask;"⟩
abbrev cX8_placeAsked : ByteArray := prog_1_method_31_code
def yX8_placeAsked : MethodName := ⟨RX8, "placeAsked", "(II)I"⟩
abbrev cX8_canTakePage : ByteArray := prog_1_method_32_code
def yX8_canTakePage : MethodName := ⟨RX8, "canTakePage", "()Z"⟩
abbrev cX8_addToldPage : ByteArray := prog_1_method_33_code
def yX8_addToldPage : MethodName := ⟨RX8, "addToldPage", "(LPapersDesk$Paper;)V"⟩
abbrev cX8_toldText : ByteArray := prog_1_method_34_code
def yX8_toldText : MethodName := ⟨RX8, "toldText", "()LPapersDesk$Text;"⟩
abbrev cX8_countJudged : ByteArray := prog_1_method_35_code
def yX8_countJudged : MethodName := ⟨RX8, "countJudged", "()I"⟩
abbrev cX8_leastSame : ByteArray := prog_1_method_36_code
def yX8_leastSame : MethodName := ⟨RX8, "leastSame", "(LPapersDesk$Ask;)I"⟩
abbrev cX8_markFitting : ByteArray := prog_1_method_37_code
def yX8_markFitting : MethodName := ⟨RX8, "markFitting", "(LPapersDesk$Ask;)I"⟩
abbrev cX8_isFitting : ByteArray := prog_1_method_38_code
def yX8_isFitting : MethodName := ⟨RX8, "isFitting", "(LPapersDesk$Paper;LPapersDesk$Ask;)Z"⟩
abbrev cX8_liesIn : ByteArray := prog_1_method_39_code
def yX8_liesIn : MethodName := ⟨RX8, "liesIn", "(II)Z"⟩
abbrev cX8_givePages : ByteArray := prog_1_method_40_code
def yX8_givePages : MethodName := ⟨RX8, "givePages", "(LPapersDesk$Ask;LPapersDesk$Ask;I)I"⟩
abbrev cX8_isLeft : ByteArray := prog_1_method_41_code
def yX8_isLeft : MethodName := ⟨RX8, "isLeft", "(LPapersDesk$Page;LPapersDesk$Ask;)Z"⟩
abbrev cX8_isReady : ByteArray := prog_1_method_42_code
def yX8_isReady : MethodName := ⟨RX8, "isReady", "(LPapersDesk$Page;)Z"⟩
abbrev cX8_countLeft : ByteArray := prog_1_method_43_code
def yX8_countLeft : MethodName := ⟨RX8, "countLeft", "(LPapersDesk$Ask;Z)I"⟩
def RX9 : String := "PapersDeskModel"
def TX9 : u_T := fun k => match k with
  | 0 => ("PapersDeskModel", "thrown", "I", false)
  | 1 => ("PapersDeskModel", "tape", "[I", true)
  | 2 => ("PapersDeskModel", "taped", "I", false)
  | 3 => ("PapersDeskModel", "size", "I", false)
  | 4 => ("PapersDeskModel", "sort", "[I", true)
  | 5 => ("PapersDeskModel", "place", "[I", true)
  | 6 => ("PapersDeskModel", "value", "[J", true)
  | 7 => ("PapersDeskModel", "at", "I", false)
  | 8 => ("PapersDeskModel", "fault", "I", false)
  | 9 => ("PapersDeskModel", "words", "[J", true)
  | 10 => ("PapersDeskModel", "lines", "[I", true)
  | 11 => ("PapersDeskModel", "lineN", "[I", true)
  | 12 => ("PapersDeskModel", "lineAt", "[I", true)
  | 13 => ("PapersDeskModel", "op", "[I", true)
  | 14 => ("PapersDeskModel", "one", "[I", true)
  | 15 => ("PapersDeskModel", "holds", "I", false)
  | 16 => ("PapersDeskModel", "next", "I", false)
  | 17 => ("PapersDeskModel", "codes", "I", false)
  | 18 => ("PapersDeskModel", "deep", "I", false)
  | 19 => ("PapersDeskModel", "sumWaits", "[I", true)
  | 20 => ("PapersDeskModel", "signWaits", "[I", true)
  | 21 => ("PapersDeskModel", "andWaits", "[I", true)
  | 22 => ("PapersDeskModel", "known", "[I", true)
  | 23 => ("PapersDeskModel", "pile", "[I", true)
  | 24 => ("PapersDeskModel", "now", "I", false)
  | 25 => ("PapersDeskModel", "folders", "I", false)
  | 26 => ("PapersDeskModel", "inFolder", "[I", true)
  | 27 => ("PapersDeskModel", "papers", "I", false)
  | 28 => ("PapersDeskModel", "folderOf", "[I", true)
  | 29 => ("PapersDeskModel", "dayOf", "[I", true)
  | 30 => ("PapersDeskModel", "thirds", "[I", true)
  | 31 => ("PapersDeskModel", "pages", "I", false)
  | 32 => ("PapersDeskModel", "paperOf", "[I", true)
  | 33 => ("PapersDeskModel", "textOf", "[I", true)
  | 34 => ("PapersDeskModel", "sizes", "[I", true)
  | 35 => ("PapersDeskModel", "row", "[I", true)
  | 36 => ("PapersDeskModel", "texts", "I", false)
  | 37 => ("PapersDeskModel", "firstPage", "[I", true)
  | 38 => ("PapersDeskModel", "isJudged", "[Z", true)
  | 39 => ("PapersDeskModel", "spans", "[I", true)
  | 40 => ("PapersDeskModel", "spanFrom", "[I", true)
  | 41 => ("PapersDeskModel", "spanTo", "[I", true)
  | 42 => ("PapersDeskModel", "spanGround", "[I", true)
  | 43 => ("PapersDeskModel", "isHeard", "[Z", true)
  | 44 => ("PapersDeskModel", "waiting", "I", false)
  | 45 => ("PapersDeskModel", "draft", "[I", true)
  | 46 => ("PapersDeskModel", "asks", "I", false)
  | 47 => ("PapersDeskModel", "askFolder", "[I", true)
  | 48 => ("PapersDeskModel", "askFrom", "[I", true)
  | 49 => ("PapersDeskModel", "askTo", "[I", true)
  | 50 => ("PapersDeskModel", "askWords", "[I", true)
  | 51 => ("PapersDeskModel", "askWord", "[I", true)
  | 52 => ("PapersDeskModel", "came", "[I", true)
  | 53 => ("PapersDeskModel", "repeats", "[I", true)
  | 54 => ("PapersDeskModel", "stoppedOn", "[I", true)
  | 55 => ("PapersDeskModel", "isOff", "[Z", true)
  | 56 => ("PapersDeskModel", "isGiven", "[Z", true)
  | 57 => ("PapersDeskModel", "givens", "I", false)
  | 58 => ("PapersDeskModel", "givenAsk", "[I", true)
  | 59 => ("PapersDeskModel", "givenPage", "[I", true)
  | 60 => ("PapersDeskModel", "givenDay", "[I", true)
  | 61 => ("PapersDeskModel", "givenWord", "[I", true)
  | 62 => ("PapersDeskModel", "isFit", "[Z", true)
  | _ => ("PapersDeskModel", "isLeft", "[Z", true)
def tyX9 : Nat → FieldType := fun k => match k with
  | 0 => .int
  | 1 => .array .int
  | 2 => .int
  | 3 => .int
  | 4 => .array .int
  | 5 => .array .int
  | 6 => .array .long
  | 7 => .int
  | 8 => .int
  | 9 => .array .long
  | 10 => .array .int
  | 11 => .array .int
  | 12 => .array .int
  | 13 => .array .int
  | 14 => .array .int
  | 15 => .int
  | 16 => .int
  | 17 => .int
  | 18 => .int
  | 19 => .array .int
  | 20 => .array .int
  | 21 => .array .int
  | 22 => .array .int
  | 23 => .array .int
  | 24 => .int
  | 25 => .int
  | 26 => .array .int
  | 27 => .int
  | 28 => .array .int
  | 29 => .array .int
  | 30 => .array .int
  | 31 => .int
  | 32 => .array .int
  | 33 => .array .int
  | 34 => .array .int
  | 35 => .array .int
  | 36 => .int
  | 37 => .array .int
  | 38 => .array .boolean
  | 39 => .array .int
  | 40 => .array .int
  | 41 => .array .int
  | 42 => .array .int
  | 43 => .array .boolean
  | 44 => .int
  | 45 => .array .int
  | 46 => .int
  | 47 => .array .int
  | 48 => .array .int
  | 49 => .array .int
  | 50 => .array .int
  | 51 => .array .int
  | 52 => .array .int
  | 53 => .array .int
  | 54 => .array .int
  | 55 => .array .boolean
  | 56 => .array .boolean
  | 57 => .int
  | 58 => .array .int
  | 59 => .array .int
  | 60 => .array .int
  | 61 => .array .int
  | 62 => .array .boolean
  | _ => .array .boolean
abbrev wsX90 : List Cond := u_ws RX9 TX9 64
theorem nmX9 : ∀ a, a < 64 → ∀ b, b < 64 → a ≠ b → (TX9 a).2.1 ≠ (TX9 b).2.1 := by decide +kernel
theorem tyX9_ok : ∀ k, k < 64 → parseFieldDescriptor (TX9 k).2.2.1 = some (tyX9 k) := by decide +kernel
abbrev cX9_init : ByteArray := prog_11_method_1_code
def yX9_init : MethodName := ⟨RX9, "<init>", "()V"⟩
abbrev cX9_thrown : ByteArray := prog_11_method_2_code
def yX9_thrown : MethodName := ⟨RX9, "thrown", "()I"⟩
abbrev cX9_feed : ByteArray := prog_11_method_3_code
def yX9_feed : MethodName := ⟨RX9, "feed", "(JJJ)I"⟩
abbrev cX9_lay : ByteArray := prog_11_method_4_code
def yX9_lay : MethodName := ⟨RX9, "lay", "(J)V"⟩
abbrev cX9_isLetter : ByteArray := prog_11_method_5_code
def yX9_isLetter : MethodName := ⟨RX9, "isLetter", "(I)Z"⟩
abbrev cX9_isDigit : ByteArray := prog_11_method_6_code
def yX9_isDigit : MethodName := ⟨RX9, "isDigit", "(I)Z"⟩
abbrev cX9_rank : ByteArray := prog_11_method_7_code
def yX9_rank : MethodName := ⟨RX9, "rank", "(I)I"⟩
abbrev cX9_isSignOf : ByteArray := prog_11_method_8_code
def yX9_isSignOf : MethodName := ⟨RX9, "isSignOf", "(I)Z"⟩
abbrev cX9_cutAll : ByteArray := prog_11_method_9_code
def yX9_cutAll : MethodName := ⟨RX9, "cutAll", "()V"⟩
abbrev cX9_wrong : ByteArray := prog_11_method_10_code
def yX9_wrong : MethodName := ⟨RX9, "wrong", "(I)V"⟩
abbrev cX9_isSign : ByteArray := prog_11_method_11_code
def yX9_isSign : MethodName := ⟨RX9, "isSign", "(I)Z"⟩
abbrev cX9_isWord : ByteArray := prog_11_method_12_code
def yX9_isWord : MethodName := ⟨RX9, "isWord", "(I)Z"⟩
abbrev cX9_takeSign : ByteArray := prog_11_method_13_code
def yX9_takeSign : MethodName := ⟨RX9, "takeSign", "(I)V"⟩
abbrev cX9_hasSign : ByteArray := prog_11_method_14_code
def yX9_hasSign : MethodName := ⟨RX9, "hasSign", "(I)Z"⟩
abbrev cX9_hasWord : ByteArray := prog_11_method_15_code
def yX9_hasWord : MethodName := ⟨RX9, "hasWord", "(I)Z"⟩
abbrev cX9_takeWord : ByteArray := prog_11_method_16_code
def yX9_takeWord : MethodName := ⟨RX9, "takeWord", "(I)V"⟩
abbrev cX9_emit : ByteArray := prog_11_method_17_code
def yX9_emit : MethodName := ⟨RX9, "emit", "(II)V"⟩
abbrev cX9_rules : ByteArray := prog_11_method_18_code
def yX9_rules : MethodName := ⟨RX9, "rules", "()I"⟩
abbrev cX9_line : ByteArray := prog_11_method_19_code
def yX9_line : MethodName := ⟨RX9, "line", "()V"⟩
abbrev cX9_opens : ByteArray := prog_11_method_20_code
def yX9_opens : MethodName := ⟨RX9, "opens", "()V"⟩
abbrev cX9_partWord : ByteArray := prog_11_method_21_code
def yX9_partWord : MethodName := ⟨RX9, "partWord", "()I"⟩
abbrev cX9_part : ByteArray := prog_11_method_22_code
def yX9_part : MethodName := ⟨RX9, "part", "()Z"⟩
abbrev cX9_goesOnBehind : ByteArray := prog_11_method_23_code
def yX9_goesOnBehind : MethodName := ⟨RX9, "goesOnBehind", "()Z"⟩
abbrev cX9_worth : ByteArray := prog_11_method_24_code
def yX9_worth : MethodName := ⟨RX9, "worth", "(I)I"⟩
abbrev cX9_days : ByteArray := prog_11_method_25_code
def yX9_days : MethodName := ⟨RX9, "days", "(I)I"⟩
abbrev cX9_isFolder : ByteArray := prog_11_method_26_code
def yX9_isFolder : MethodName := ⟨RX9, "isFolder", "(I)Z"⟩
abbrev cX9_folder : ByteArray := prog_11_method_27_code
def yX9_folder : MethodName := ⟨RX9, "folder", "(I)I"⟩
abbrev cX9_isUnder : ByteArray := prog_11_method_28_code
def yX9_isUnder : MethodName := ⟨RX9, "isUnder", "(II)Z"⟩
abbrev cX9_isOne : ByteArray := prog_11_method_29_code
def yX9_isOne : MethodName := ⟨RX9, "isOne", "(I)Z"⟩
abbrev cX9_word : ByteArray := prog_11_method_30_code
def yX9_word : MethodName := ⟨RX9, "word", "(I)I"⟩
abbrev cX9_isDraft : ByteArray := prog_11_method_31_code
def yX9_isDraft : MethodName := ⟨RX9, "isDraft", "(I)Z"⟩
abbrev cX9_newPage : ByteArray := prog_11_method_32_code
def yX9_newPage : MethodName := ⟨RX9, "newPage", "(I)I"⟩
abbrev cX9_paper : ByteArray := prog_11_method_33_code
def yX9_paper : MethodName := ⟨RX9, "paper", "(II)I"⟩
abbrev cX9_isPaper : ByteArray := prog_11_method_34_code
def yX9_isPaper : MethodName := ⟨RX9, "isPaper", "(I)Z"⟩
abbrev cX9_page : ByteArray := prog_11_method_35_code
def yX9_page : MethodName := ⟨RX9, "page", "(I)I"⟩
abbrev cX9_isPerson : ByteArray := prog_11_method_36_code
def yX9_isPerson : MethodName := ⟨RX9, "isPerson", "(I)Z"⟩
abbrev cX9_third : ByteArray := prog_11_method_37_code
def yX9_third : MethodName := ⟨RX9, "third", "(IIZ)Z"⟩
abbrev cX9_heard : ByteArray := prog_11_method_38_code
def yX9_heard : MethodName := ⟨RX9, "heard", "(I)Z"⟩
abbrev cX9_isText : ByteArray := prog_11_method_39_code
def yX9_isText : MethodName := ⟨RX9, "isText", "(I)Z"⟩
abbrev cX9_judge : ByteArray := prog_11_method_40_code
def yX9_judge : MethodName := ⟨RX9, "judge", "(IZ)Z"⟩
abbrev cX9_black : ByteArray := prog_11_method_41_code
def yX9_black : MethodName := ⟨RX9, "black", "(IIII)I"⟩
abbrev cX9_clear : ByteArray := prog_11_method_42_code
def yX9_clear : MethodName := ⟨RX9, "clear", "(II)Z"⟩
abbrev cX9_pagesOf : ByteArray := prog_11_method_43_code
def yX9_pagesOf : MethodName := ⟨RX9, "pagesOf", "(I)I"⟩
abbrev cX9_bits : ByteArray := prog_11_method_44_code
def yX9_bits : MethodName := ⟨RX9, "bits", "(I)I"⟩
abbrev cX9_isGround : ByteArray := prog_11_method_45_code
def yX9_isGround : MethodName := ⟨RX9, "isGround", "(II)Z"⟩
abbrev cX9_isBlack : ByteArray := prog_11_method_46_code
def yX9_isBlack : MethodName := ⟨RX9, "isBlack", "(II)Z"⟩
abbrev cX9_wordOn : ByteArray := prog_11_method_47_code
def yX9_wordOn : MethodName := ⟨RX9, "wordOn", "(II)I"⟩
abbrev cX9_blacks : ByteArray := prog_11_method_48_code
def yX9_blacks : MethodName := ⟨RX9, "blacks", "(I)I"⟩
abbrev cX9_read : ByteArray := prog_11_method_49_code
def yX9_read : MethodName := ⟨RX9, "read", "(II)I"⟩
abbrev cX9_ask : ByteArray := prog_11_method_50_code
def yX9_ask : MethodName := ⟨RX9, "ask", "(III)I"⟩
abbrev cX9_asksFor : ByteArray := prog_11_method_51_code
def yX9_asksFor : MethodName := ⟨RX9, "asksFor", "(II)Z"⟩
abbrev cX9_hasAll : ByteArray := prog_11_method_52_code
def yX9_hasAll : MethodName := ⟨RX9, "hasAll", "(II)Z"⟩
abbrev cX9_isAsk : ByteArray := prog_11_method_53_code
def yX9_isAsk : MethodName := ⟨RX9, "isAsk", "(I)Z"⟩
abbrev cX9_stands : ByteArray := prog_11_method_54_code
def yX9_stands : MethodName := ⟨RX9, "stands", "(II)Z"⟩
abbrev cX9_fits : ByteArray := prog_11_method_55_code
def yX9_fits : MethodName := ⟨RX9, "fits", "(II)Z"⟩
abbrev cX9_found : ByteArray := prog_11_method_56_code
def yX9_found : MethodName := ⟨RX9, "found", "(I)I"⟩
abbrev cX9_countOf : ByteArray := prog_11_method_57_code
def yX9_countOf : MethodName := ⟨RX9, "countOf", "(I)I"⟩
abbrev cX9_finds : ByteArray := prog_11_method_58_code
def yX9_finds : MethodName := ⟨RX9, "finds", "(II)I"⟩
abbrev cX9_narrow : ByteArray := prog_11_method_59_code
def yX9_narrow : MethodName := ⟨RX9, "narrow", "(II)I"⟩
abbrev cX9_stop : ByteArray := prog_11_method_60_code
def yX9_stop : MethodName := ⟨RX9, "stop", "(IZ)Z"⟩
abbrev cX9_dueOf : ByteArray := prog_11_method_61_code
def yX9_dueOf : MethodName := ⟨RX9, "dueOf", "(I)I"⟩
abbrev cX9_due : ByteArray := prog_11_method_62_code
def yX9_due : MethodName := ⟨RX9, "due", "(I)I"⟩
abbrev cX9_findFits : ByteArray := prog_11_method_63_code
def yX9_findFits : MethodName := ⟨RX9, "findFits", "(I)V"⟩
abbrev cX9_mayGo : ByteArray := prog_11_method_64_code
def yX9_mayGo : MethodName := ⟨RX9, "mayGo", "(I)Z"⟩
abbrev cX9_wasGivenAhead : ByteArray := prog_11_method_65_code
def yX9_wasGivenAhead : MethodName := ⟨RX9, "wasGivenAhead", "(II)Z"⟩
abbrev cX9_gives : ByteArray := prog_11_method_66_code
def yX9_gives : MethodName := ⟨RX9, "gives", "(II)V"⟩
abbrev cX9_answer : ByteArray := prog_11_method_67_code
def yX9_answer : MethodName := ⟨RX9, "answer", "(II)I"⟩
abbrev cX9_given : ByteArray := prog_11_method_68_code
def yX9_given : MethodName := ⟨RX9, "given", "(II)I"⟩
abbrev cX9_left : ByteArray := prog_11_method_69_code
def yX9_left : MethodName := ⟨RX9, "left", "(IZ)I"⟩
abbrev cX9_givenFor : ByteArray := prog_11_method_70_code
def yX9_givenFor : MethodName := ⟨RX9, "givenFor", "(I)I"⟩
abbrev cX9_look : ByteArray := prog_11_method_71_code
def yX9_look : MethodName := ⟨RX9, "look", "(II)I"⟩
abbrev cX9_count : ByteArray := prog_11_method_72_code
def yX9_count : MethodName := ⟨RX9, "count", "(I)I"⟩
def RJx145de : String := "java/io/Serializable"
def TJx145de : u_T := fun k => match k with
  | _ => ("", "", "", false)
def tyJx145de : Nat → FieldType := fun k => match k with
  | _ => .int
abbrev wsJx145de0 : List Cond := u_ws RJx145de TJx145de 0
theorem nmJx145de : ∀ a, a < 0 → ∀ b, b < 0 → a ≠ b → (TJx145de a).2.1 ≠ (TJx145de b).2.1 := by decide +kernel
theorem tyJx145de_ok : ∀ k, k < 0 → parseFieldDescriptor (TJx145de k).2.2.1 = some (tyJx145de k) := by decide +kernel
def RJx8e188 : String := "java/lang/Cloneable"
def TJx8e188 : u_T := fun k => match k with
  | _ => ("", "", "", false)
def tyJx8e188 : Nat → FieldType := fun k => match k with
  | _ => .int
abbrev wsJx8e1880 : List Cond := u_ws RJx8e188 TJx8e188 0
theorem nmJx8e188 : ∀ a, a < 0 → ∀ b, b < 0 → a ≠ b → (TJx8e188 a).2.1 ≠ (TJx8e188 b).2.1 := by decide +kernel
theorem tyJx8e188_ok : ∀ k, k < 0 → parseFieldDescriptor (TJx8e188 k).2.2.1 = some (tyJx8e188 k) := by decide +kernel
def RJ6 : String := "java/lang/Integer"
def TJ6 : u_T := fun k => match k with
  | _ => ("", "", "", false)
def tyJ6 : Nat → FieldType := fun k => match k with
  | _ => .int
abbrev wsJ60 : List Cond := u_ws RJ6 TJ6 0
theorem nmJ6 : ∀ a, a < 0 → ∀ b, b < 0 → a ≠ b → (TJ6 a).2.1 ≠ (TJ6 b).2.1 := by decide +kernel
theorem tyJ6_ok : ∀ k, k < 0 → parseFieldDescriptor (TJ6 k).2.2.1 = some (tyJ6 k) := by decide +kernel
abbrev cJ6_bitCount_0f7a4 : ByteArray := prog_15_method_49_code
def yJ6_bitCount_0f7a4 : MethodName := ⟨RJ6, "bitCount", "(I)I"⟩
def RJxab1ab : String := "java/lang/Iterable"
def TJxab1ab : u_T := fun k => match k with
  | _ => ("", "", "", false)
def tyJxab1ab : Nat → FieldType := fun k => match k with
  | _ => .int
abbrev wsJxab1ab0 : List Cond := u_ws RJxab1ab TJxab1ab 0
theorem nmJxab1ab : ∀ a, a < 0 → ∀ b, b < 0 → a ≠ b → (TJxab1ab a).2.1 ≠ (TJxab1ab b).2.1 := by decide +kernel
theorem tyJxab1ab_ok : ∀ k, k < 0 → parseFieldDescriptor (TJxab1ab k).2.2.1 = some (tyJxab1ab k) := by decide +kernel
def RJ9 : String := "java/lang/Math"
def TJ9 : u_T := fun k => match k with
  | _ => ("", "", "", false)
def tyJ9 : Nat → FieldType := fun k => match k with
  | _ => .int
abbrev wsJ90 : List Cond := u_ws RJ9 TJ9 0
theorem nmJ9 : ∀ a, a < 0 → ∀ b, b < 0 → a ≠ b → (TJ9 a).2.1 ≠ (TJ9 b).2.1 := by decide +kernel
theorem tyJ9_ok : ∀ k, k < 0 → parseFieldDescriptor (TJ9 k).2.2.1 = some (tyJ9 k) := by decide +kernel
abbrev cJ9_max_7cf53 : ByteArray := prog_17_method_65_code
def yJ9_max_7cf53 : MethodName := ⟨RJ9, "max", "(II)I"⟩
abbrev cJ9_min_7cf53 : ByteArray := prog_17_method_69_code
def yJ9_min_7cf53 : MethodName := ⟨RJ9, "min", "(II)I"⟩
def RJ0 : String := "java/lang/String"
def TJ0 : u_T := fun k => match k with
  | _ => ("", "", "", false)
def tyJ0 : Nat → FieldType := fun k => match k with
  | _ => .int
abbrev wsJ00 : List Cond := u_ws RJ0 TJ0 0
theorem nmJ0 : ∀ a, a < 0 → ∀ b, b < 0 → a ≠ b → (TJ0 a).2.1 ≠ (TJ0 b).2.1 := by decide +kernel
theorem tyJ0_ok : ∀ k, k < 0 → parseFieldDescriptor (TJ0 k).2.2.1 = some (tyJ0 k) := by decide +kernel
abbrev cJ0_length_8abf5 : ByteArray := prog_19_method_54_code
def yJ0_length_8abf5 : MethodName := ⟨RJ0, "length", "()I"⟩
abbrev cJ0_charAt_5068e : ByteArray := prog_19_method_56_code
def yJ0_charAt_5068e : MethodName := ⟨RJ0, "charAt", "(I)C"⟩
abbrev cJ0_coder_7d493 : ByteArray := prog_19_method_152_code
def yJ0_coder_7d493 : MethodName := ⟨RJ0, "coder", "()B"⟩
abbrev cJ0_isLatin1_aae02 : ByteArray := prog_19_method_154_code
def yJ0_isLatin1_aae02 : MethodName := ⟨RJ0, "isLatin1", "()Z"⟩
abbrev cJ0_checkIndex_df160 : ByteArray := prog_19_method_155_code
def yJ0_checkIndex_df160 : MethodName := ⟨RJ0, "checkIndex", "(II)V"⟩
def RJ1 : String := "java/lang/StringLatin1"
def TJ1 : u_T := fun k => match k with
  | _ => ("", "", "", false)
def tyJ1 : Nat → FieldType := fun k => match k with
  | _ => .int
abbrev wsJ10 : List Cond := u_ws RJ1 TJ1 0
theorem nmJ1 : ∀ a, a < 0 → ∀ b, b < 0 → a ≠ b → (TJ1 a).2.1 ≠ (TJ1 b).2.1 := by decide +kernel
theorem tyJ1_ok : ∀ k, k < 0 → parseFieldDescriptor (TJ1 k).2.2.1 = some (tyJ1 k) := by decide +kernel
abbrev cJ1_charAt_3b067 : ByteArray := prog_20_method_2_code
def yJ1_charAt_3b067 : MethodName := ⟨RJ1, "charAt", "([BI)C"⟩
def RJ2 : String := "java/lang/StringUTF16"
def TJ2 : u_T := fun k => match k with
  | _ => ("", "", "", false)
def tyJ2 : Nat → FieldType := fun k => match k with
  | _ => .int
abbrev wsJ20 : List Cond := u_ws RJ2 TJ2 0
theorem nmJ2 : ∀ a, a < 0 → ∀ b, b < 0 → a ≠ b → (TJ2 a).2.1 ≠ (TJ2 b).2.1 := by decide +kernel
theorem tyJ2_ok : ∀ k, k < 0 → parseFieldDescriptor (TJ2 k).2.2.1 = some (tyJ2 k) := by decide +kernel
abbrev cJ2_getChar_3b067 : ByteArray := prog_21_method_5_code
def yJ2_getChar_3b067 : MethodName := ⟨RJ2, "getChar", "([BI)C"⟩
abbrev cJ2_length_9d52b : ByteArray := prog_21_method_6_code
def yJ2_length_9d52b : MethodName := ⟨RJ2, "length", "([B)I"⟩
abbrev cJ2_charAt_3b067 : ByteArray := prog_21_method_83_code
def yJ2_charAt_3b067 : MethodName := ⟨RJ2, "charAt", "([BI)C"⟩
abbrev cJ2_checkIndex_2214a : ByteArray := prog_21_method_91_code
def yJ2_checkIndex_2214a : MethodName := ⟨RJ2, "checkIndex", "(I[B)V"⟩
def RJ10 : String := "java/lang/System"
def TJ10 : u_T := fun k => match k with
  | _ => ("", "", "", false)
def tyJ10 : Nat → FieldType := fun k => match k with
  | _ => .int
abbrev wsJ100 : List Cond := u_ws RJ10 TJ10 0
theorem nmJ10 : ∀ a, a < 0 → ∀ b, b < 0 → a ≠ b → (TJ10 a).2.1 ≠ (TJ10 b).2.1 := by decide +kernel
theorem tyJ10_ok : ∀ k, k < 0 → parseFieldDescriptor (TJ10 k).2.2.1 = some (tyJ10 k) := by decide +kernel
def RJxa1e45 : String := "java/util/AbstractCollection"
def TJxa1e45 : u_T := fun k => match k with
  | _ => ("", "", "", false)
def tyJxa1e45 : Nat → FieldType := fun k => match k with
  | _ => .int
abbrev wsJxa1e450 : List Cond := u_ws RJxa1e45 TJxa1e45 0
theorem nmJxa1e45 : ∀ a, a < 0 → ∀ b, b < 0 → a ≠ b → (TJxa1e45 a).2.1 ≠ (TJxa1e45 b).2.1 := by decide +kernel
theorem tyJxa1e45_ok : ∀ k, k < 0 → parseFieldDescriptor (TJxa1e45 k).2.2.1 = some (tyJxa1e45 k) := by decide +kernel
abbrev cJxa1e45_init_da8c8 : ByteArray := prog_24_method_1_code
def yJxa1e45_init_da8c8 : MethodName := ⟨RJxa1e45, "<init>", "()V"⟩
def RJxc12de : String := "java/util/AbstractList"
def TJxc12de : u_T := fun k => match k with
  | _ => ("", "", "", false)
def tyJxc12de : Nat → FieldType := fun k => match k with
  | _ => .int
abbrev wsJxc12de0 : List Cond := u_ws RJxc12de TJxc12de 0
theorem nmJxc12de : ∀ a, a < 0 → ∀ b, b < 0 → a ≠ b → (TJxc12de a).2.1 ≠ (TJxc12de b).2.1 := by decide +kernel
theorem tyJxc12de_ok : ∀ k, k < 0 → parseFieldDescriptor (TJxc12de k).2.2.1 = some (tyJxc12de k) := by decide +kernel
abbrev cJxc12de_init_da8c8 : ByteArray := prog_25_method_1_code
def yJxc12de_init_da8c8 : MethodName := ⟨RJxc12de, "<init>", "()V"⟩
def RJx4a65c : String := "java/util/ArrayList"
def TJx4a65c : u_T := fun k => match k with
  | 0 => ("java/util/AbstractList", "modCount", "I", false)
  | 1 => ("java/util/ArrayList", "elementData", "[Ljava/lang/Object;", false)
  | _ => ("java/util/ArrayList", "size", "I", false)
def tyJx4a65c : Nat → FieldType := fun k => match k with
  | 0 => .int
  | 1 => .array (.object "java/lang/Object")
  | _ => .int
abbrev wsJx4a65c0 : List Cond := u_ws RJx4a65c TJx4a65c 3
theorem nmJx4a65c : ∀ a, a < 3 → ∀ b, b < 3 → a ≠ b → (TJx4a65c a).2.1 ≠ (TJx4a65c b).2.1 := by decide +kernel
theorem tyJx4a65c_ok : ∀ k, k < 3 → parseFieldDescriptor (TJx4a65c k).2.2.1 = some (tyJx4a65c k) := by decide +kernel
abbrev cJx4a65c_init_da8c8 : ByteArray := prog_26_method_2_code
def yJx4a65c_init_da8c8 : MethodName := ⟨RJx4a65c, "<init>", "()V"⟩
abbrev cJx4a65c_grow_92f84 : ByteArray := prog_26_method_6_code
def yJx4a65c_grow_92f84 : MethodName := ⟨RJx4a65c, "grow", "(I)[Ljava/lang/Object;"⟩
abbrev cJx4a65c_grow_d5877 : ByteArray := prog_26_method_7_code
def yJx4a65c_grow_d5877 : MethodName := ⟨RJx4a65c, "grow", "()[Ljava/lang/Object;"⟩
abbrev cJx4a65c_size_8abf5 : ByteArray := prog_26_method_8_code
def yJx4a65c_size_8abf5 : MethodName := ⟨RJx4a65c, "size", "()I"⟩
abbrev cJx4a65c_elementData_915e3 : ByteArray := prog_26_method_18_code
def yJx4a65c_elementData_915e3 : MethodName := ⟨RJx4a65c, "elementData", "(I)Ljava/lang/Object;"⟩
abbrev cJx4a65c_get_915e3 : ByteArray := prog_26_method_20_code
def yJx4a65c_get_915e3 : MethodName := ⟨RJx4a65c, "get", "(I)Ljava/lang/Object;"⟩
abbrev cJx4a65c_add_72be8 : ByteArray := prog_26_method_24_code
def yJx4a65c_add_72be8 : MethodName := ⟨RJx4a65c, "add", "(Ljava/lang/Object;[Ljava/lang/Object;I)V"⟩
abbrev cJx4a65c_add_9ea2d : ByteArray := prog_26_method_25_code
def yJx4a65c_add_9ea2d : MethodName := ⟨RJx4a65c, "add", "(Ljava/lang/Object;)Z"⟩
def RJ7 : String := "java/util/Arrays"
def TJ7 : u_T := fun k => match k with
  | _ => ("", "", "", false)
def tyJ7 : Nat → FieldType := fun k => match k with
  | _ => .int
abbrev wsJ70 : List Cond := u_ws RJ7 TJ7 0
theorem nmJ7 : ∀ a, a < 0 → ∀ b, b < 0 → a ≠ b → (TJ7 a).2.1 ≠ (TJ7 b).2.1 := by decide +kernel
theorem tyJ7_ok : ∀ k, k < 0 → parseFieldDescriptor (TJ7 k).2.2.1 = some (tyJ7 k) := by decide +kernel
abbrev cJ7_copyOf_1904c : ByteArray := prog_27_method_119_code
def yJ7_copyOf_1904c : MethodName := ⟨RJ7, "copyOf", "([Ljava/lang/Object;I)[Ljava/lang/Object;"⟩
abbrev cJ7_copyOf_6403c : ByteArray := prog_27_method_120_code
def yJ7_copyOf_6403c : MethodName := ⟨RJ7, "copyOf", "([Ljava/lang/Object;ILjava/lang/Class;)[Ljava/lang/Object;"⟩
abbrev cJ7_copyOf_59c91 : ByteArray := prog_27_method_123_code
def yJ7_copyOf_59c91 : MethodName := ⟨RJ7, "copyOf", "([II)[I"⟩
def RJx5ef63 : String := "java/util/Collection"
def TJx5ef63 : u_T := fun k => match k with
  | _ => ("", "", "", false)
def tyJx5ef63 : Nat → FieldType := fun k => match k with
  | _ => .int
abbrev wsJx5ef630 : List Cond := u_ws RJx5ef63 TJx5ef63 0
theorem nmJx5ef63 : ∀ a, a < 0 → ∀ b, b < 0 → a ≠ b → (TJx5ef63 a).2.1 ≠ (TJx5ef63 b).2.1 := by decide +kernel
theorem tyJx5ef63_ok : ∀ k, k < 0 → parseFieldDescriptor (TJx5ef63 k).2.2.1 = some (tyJx5ef63 k) := by decide +kernel
def RJxbd725 : String := "java/util/List"
def TJxbd725 : u_T := fun k => match k with
  | _ => ("", "", "", false)
def tyJxbd725 : Nat → FieldType := fun k => match k with
  | _ => .int
abbrev wsJxbd7250 : List Cond := u_ws RJxbd725 TJxbd725 0
theorem nmJxbd725 : ∀ a, a < 0 → ∀ b, b < 0 → a ≠ b → (TJxbd725 a).2.1 ≠ (TJxbd725 b).2.1 := by decide +kernel
theorem tyJxbd725_ok : ∀ k, k < 0 → parseFieldDescriptor (TJxbd725 k).2.2.1 = some (tyJxbd725 k) := by decide +kernel
def RJ15 : String := "java/util/Objects"
def TJ15 : u_T := fun k => match k with
  | _ => ("", "", "", false)
def tyJ15 : Nat → FieldType := fun k => match k with
  | _ => .int
abbrev wsJ150 : List Cond := u_ws RJ15 TJ15 0
theorem nmJ15 : ∀ a, a < 0 → ∀ b, b < 0 → a ≠ b → (TJ15 a).2.1 ≠ (TJ15 b).2.1 := by decide +kernel
theorem tyJ15_ok : ∀ k, k < 0 → parseFieldDescriptor (TJ15 k).2.2.1 = some (tyJ15 k) := by decide +kernel
abbrev cJ15_checkIndex_7cf53 : ByteArray := prog_31_method_17_code
def yJ15_checkIndex_7cf53 : MethodName := ⟨RJ15, "checkIndex", "(II)I"⟩
def RJxf0a74 : String := "java/util/RandomAccess"
def TJxf0a74 : u_T := fun k => match k with
  | _ => ("", "", "", false)
def tyJxf0a74 : Nat → FieldType := fun k => match k with
  | _ => .int
abbrev wsJxf0a740 : List Cond := u_ws RJxf0a74 TJxf0a74 0
theorem nmJxf0a74 : ∀ a, a < 0 → ∀ b, b < 0 → a ≠ b → (TJxf0a74 a).2.1 ≠ (TJxf0a74 b).2.1 := by decide +kernel
theorem tyJxf0a74_ok : ∀ k, k < 0 → parseFieldDescriptor (TJxf0a74 k).2.2.1 = some (tyJxf0a74 k) := by decide +kernel
def RJxa66e6 : String := "java/util/SequencedCollection"
def TJxa66e6 : u_T := fun k => match k with
  | _ => ("", "", "", false)
def tyJxa66e6 : Nat → FieldType := fun k => match k with
  | _ => .int
abbrev wsJxa66e60 : List Cond := u_ws RJxa66e6 TJxa66e6 0
theorem nmJxa66e6 : ∀ a, a < 0 → ∀ b, b < 0 → a ≠ b → (TJxa66e6 a).2.1 ≠ (TJxa66e6 b).2.1 := by decide +kernel
theorem tyJxa66e6_ok : ∀ k, k < 0 → parseFieldDescriptor (TJxa66e6 k).2.2.1 = some (tyJxa66e6 k) := by decide +kernel
def RJ8 : String := "jdk/internal/util/ArraysSupport"
def TJ8 : u_T := fun k => match k with
  | _ => ("", "", "", false)
def tyJ8 : Nat → FieldType := fun k => match k with
  | _ => .int
abbrev wsJ80 : List Cond := u_ws RJ8 TJ8 0
theorem nmJ8 : ∀ a, a < 0 → ∀ b, b < 0 → a ≠ b → (TJ8 a).2.1 ≠ (TJ8 b).2.1 := by decide +kernel
theorem tyJ8_ok : ∀ k, k < 0 → parseFieldDescriptor (TJ8 k).2.2.1 = some (tyJ8 k) := by decide +kernel
abbrev cJ8_newLength_cabcc : ByteArray := prog_34_method_27_code
def yJ8_newLength_cabcc : MethodName := ⟨RJ8, "newLength", "(III)I"⟩
abbrev cJ8_hugeLength_7cf53 : ByteArray := prog_34_method_28_code
def yJ8_hugeLength_7cf53 : MethodName := ⟨RJ8, "hugeLength", "(II)I"⟩
def RJ3 : String := "jdk/internal/util/Preconditions"
def TJ3 : u_T := fun k => match k with
  | _ => ("", "", "", false)
def tyJ3 : Nat → FieldType := fun k => match k with
  | _ => .int
abbrev wsJ30 : List Cond := u_ws RJ3 TJ3 0
theorem nmJ3 : ∀ a, a < 0 → ∀ b, b < 0 → a ≠ b → (TJ3 a).2.1 ≠ (TJ3 b).2.1 := by decide +kernel
theorem tyJ3_ok : ∀ k, k < 0 → parseFieldDescriptor (TJ3 k).2.2.1 = some (tyJ3 k) := by decide +kernel
abbrev cJ3_checkIndex_8e157 : ByteArray := prog_35_method_11_code
def yJ3_checkIndex_8e157 : MethodName := ⟨RJ3, "checkIndex", "(IILjava/util/function/BiFunction;)I"⟩
def RL : String := "PapersDeskLaw"
abbrev cL_look : ByteArray := method_3_code
def yL_look : MethodName := ⟨RL, "look", "(LPapersDesk;II[J)I"⟩
abbrev cL_law : ByteArray := code
def yL_law : MethodName := ⟨RL, "law", "([I)Z"⟩
abbrev vwCl : List vw_C := [(RJx4a65c, TJx4a65c, 3), (RX0, TX0, 12), (RX1, TX1, 5), (RX2, TX2, 3), (RX3, TX3, 6), (RX4, TX4, 5), (RX5, TX5, 6), (RX6, TX6, 4), (RX7, TX7, 9), (RX8, TX8, 14), (RX9, TX9, 64)]
