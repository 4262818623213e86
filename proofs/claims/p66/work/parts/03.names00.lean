/-! ===== BEGIN printed: names, fields, word lists, decode rows ===== -/
def RX0 : String := "RecipeScheduler$1"
def TX0 : u_T := fun k => match k with
  | _ => ("", "", "", false)
def tyX0 : Nat → FieldType := fun k => match k with
  | _ => .int
abbrev wsX00 : List Cond := u_ws RX0 TX0 0
theorem nmX0 : ∀ a, a < 0 → ∀ b, b < 0 → a ≠ b → (TX0 a).2.1 ≠ (TX0 b).2.1 := by decide +kernel
theorem tyX0_ok : ∀ k, k < 0 → parseFieldDescriptor (TX0 k).2.2.1 = some (tyX0 k) := by decide +kernel
def RX1 : String := "RecipeScheduler$Command"
def TX1 : u_T := fun k => match k with
  | _ => ("", "", "", false)
def tyX1 : Nat → FieldType := fun k => match k with
  | _ => .int
abbrev wsX10 : List Cond := u_ws RX1 TX1 0
theorem nmX1 : ∀ a, a < 0 → ∀ b, b < 0 → a ≠ b → (TX1 a).2.1 ≠ (TX1 b).2.1 := by decide +kernel
theorem tyX1_ok : ∀ k, k < 0 → parseFieldDescriptor (TX1 k).2.2.1 = some (tyX1 k) := by decide +kernel
def RX2 : String := "RecipeScheduler$History"
def TX2 : u_T := fun k => match k with
  | 0 => ("RecipeScheduler$History", "states", "[LRecipeScheduler$State;", true)
  | 1 => ("RecipeScheduler$History", "next", "I", false)
  | _ => ("RecipeScheduler$History", "count", "I", false)
def tyX2 : Nat → FieldType := fun k => match k with
  | 0 => .array (.object "RecipeScheduler$State")
  | 1 => .int
  | _ => .int
abbrev wsX20 : List Cond := u_ws RX2 TX2 3
theorem nmX2 : ∀ a, a < 3 → ∀ b, b < 3 → a ≠ b → (TX2 a).2.1 ≠ (TX2 b).2.1 := by decide +kernel
theorem tyX2_ok : ∀ k, k < 3 → parseFieldDescriptor (TX2 k).2.2.1 = some (tyX2 k) := by decide +kernel
abbrev cX2_init : ByteArray := prog_4_method_1_code
def yX2_init : MethodName := ⟨RX2, "<init>", "()V"⟩
abbrev cX2_push : ByteArray := prog_4_method_2_code
def yX2_push : MethodName := ⟨RX2, "push", "(LRecipeScheduler$State;)V"⟩
def RX3 : String := "RecipeScheduler$Kitchen"
def TX3 : u_T := fun k => match k with
  | 0 => ("RecipeScheduler$Kitchen", "recipe", "LRecipeScheduler$Recipe;", false)
  | 1 => ("RecipeScheduler$Kitchen", "state", "LRecipeScheduler$State;", true)
  | 2 => ("RecipeScheduler$Kitchen", "path", "[I", true)
  | 3 => ("RecipeScheduler$Kitchen", "order", "[I", true)
  | _ => ("RecipeScheduler$Kitchen", "head", "[I", true)
def tyX3 : Nat → FieldType := fun k => match k with
  | 0 => .object "RecipeScheduler$Recipe"
  | 1 => .object "RecipeScheduler$State"
  | 2 => .array .int
  | 3 => .array .int
  | _ => .array .int
abbrev wsX30 : List Cond := u_ws RX3 TX3 5
theorem nmX3 : ∀ a, a < 5 → ∀ b, b < 5 → a ≠ b → (TX3 a).2.1 ≠ (TX3 b).2.1 := by decide +kernel
theorem tyX3_ok : ∀ k, k < 5 → parseFieldDescriptor (TX3 k).2.2.1 = some (tyX3 k) := by decide +kernel
abbrev cX3_init : ByteArray := prog_5_method_1_code
def yX3_init : MethodName := ⟨RX3, "<init>", "(LRecipeScheduler$Recipe;)V"⟩
abbrev cX3_open : ByteArray := prog_5_method_2_code
def yX3_open : MethodName := ⟨RX3, "open", "(LRecipeScheduler$Recipe;)V"⟩
abbrev cX3_runMinutes : ByteArray := prog_5_method_4_code
def yX3_runMinutes : MethodName := ⟨RX3, "runMinutes", "(I)I"⟩
abbrev cX3_runMinute : ByteArray := prog_5_method_7_code
def yX3_runMinute : MethodName := ⟨RX3, "runMinute", "()I"⟩
abbrev cX3_work : ByteArray := prog_5_method_8_code
def yX3_work : MethodName := ⟨RX3, "work", "()I"⟩
abbrev cX3_growOld : ByteArray := prog_5_method_9_code
def yX3_growOld : MethodName := ⟨RX3, "growOld", "(I)V"⟩
abbrev cX3_startSteps : ByteArray := prog_5_method_10_code
def yX3_startSteps : MethodName := ⟨RX3, "startSteps", "()V"⟩
abbrev cX3_readySteps : ByteArray := prog_5_method_11_code
def yX3_readySteps : MethodName := ⟨RX3, "readySteps", "()I"⟩
abbrev cX3_isContinued : ByteArray := prog_5_method_12_code
def yX3_isContinued : MethodName := ⟨RX3, "isContinued", "(I)Z"⟩
abbrev cX3_isRedoable : ByteArray := prog_5_method_13_code
def yX3_isRedoable : MethodName := ⟨RX3, "isRedoable", "(I)Z"⟩
abbrev cX3_hasFreeCook : ByteArray := prog_5_method_14_code
def yX3_hasFreeCook : MethodName := ⟨RX3, "hasFreeCook", "(I)Z"⟩
abbrev cX3_hasFreePan : ByteArray := prog_5_method_15_code
def yX3_hasFreePan : MethodName := ⟨RX3, "hasFreePan", "(I)Z"⟩
abbrev cX3_occupants : ByteArray := prog_5_method_16_code
def yX3_occupants : MethodName := ⟨RX3, "occupants", "(I)I"⟩
abbrev cX3_rank : ByteArray := prog_5_method_17_code
def yX3_rank : MethodName := ⟨RX3, "rank", "()V"⟩
abbrev cX3_longestOf : ByteArray := prog_5_method_18_code
def yX3_longestOf : MethodName := ⟨RX3, "longestOf", "(I)I"⟩
abbrev cX3_dishTaste : ByteArray := prog_5_method_26_code
def yX3_dishTaste : MethodName := ⟨RX3, "dishTaste", "()I"⟩
abbrev cX3_servingObstacle : ByteArray := prog_5_method_27_code
def yX3_servingObstacle : MethodName := ⟨RX3, "servingObstacle", "()I"⟩
abbrev cX3_prematureSteps : ByteArray := prog_5_method_28_code
def yX3_prematureSteps : MethodName := ⟨RX3, "prematureSteps", "()I"⟩
def RX4 : String := "RecipeScheduler$Names"
def TX4 : u_T := fun k => match k with
  | 0 => ("RecipeScheduler$Names", "letters", "[[B", true)
  | 1 => ("RecipeScheduler$Names", "lengths", "[I", true)
  | _ => ("RecipeScheduler$Names", "count", "I", false)
def tyX4 : Nat → FieldType := fun k => match k with
  | 0 => .array (.array .byte)
  | 1 => .array .int
  | _ => .int
abbrev wsX40 : List Cond := u_ws RX4 TX4 3
theorem nmX4 : ∀ a, a < 3 → ∀ b, b < 3 → a ≠ b → (TX4 a).2.1 ≠ (TX4 b).2.1 := by decide +kernel
theorem tyX4_ok : ∀ k, k < 3 → parseFieldDescriptor (TX4 k).2.2.1 = some (tyX4 k) := by decide +kernel
abbrev cX4_init : ByteArray := prog_6_method_1_code
def yX4_init : MethodName := ⟨RX4, "<init>", "(I)V"⟩
abbrev cX4_isFull : ByteArray := prog_6_method_2_code
def yX4_isFull : MethodName := ⟨RX4, "isFull", "()Z"⟩
abbrev cX4_indexOf : ByteArray := prog_6_method_3_code
def yX4_indexOf : MethodName := ⟨RX4, "indexOf", "(LRecipeScheduler$Text;II)I"⟩
abbrev cX4_matches : ByteArray := prog_6_method_4_code
def yX4_matches : MethodName := ⟨RX4, "matches", "(ILRecipeScheduler$Text;I)Z"⟩
abbrev cX4_prepare : ByteArray := prog_6_method_5_code
def yX4_prepare : MethodName := ⟨RX4, "prepare", "(LRecipeScheduler$Text;II)V"⟩
def RX5 : String := "RecipeScheduler$Recipe"
def TX5 : u_T := fun k => match k with
  | 0 => ("RecipeScheduler$Recipe", "cooks", "I", false)
  | 1 => ("RecipeScheduler$Recipe", "hold", "I", false)
  | 2 => ("RecipeScheduler$Recipe", "lowest", "I", false)
  | 3 => ("RecipeScheduler$Recipe", "highest", "I", false)
  | 4 => ("RecipeScheduler$Recipe", "pans", "LRecipeScheduler$Names;", true)
  | 5 => ("RecipeScheduler$Recipe", "capacity", "[I", true)
  | 6 => ("RecipeScheduler$Recipe", "panUsers", "[I", true)
  | 7 => ("RecipeScheduler$Recipe", "steps", "LRecipeScheduler$Names;", true)
  | 8 => ("RecipeScheduler$Recipe", "duration", "[I", true)
  | 9 => ("RecipeScheduler$Recipe", "taste", "[I", true)
  | 10 => ("RecipeScheduler$Recipe", "pan", "[I", true)
  | 11 => ("RecipeScheduler$Recipe", "predecessors", "[[I", true)
  | 12 => ("RecipeScheduler$Recipe", "predecessorCount", "[I", true)
  | 13 => ("RecipeScheduler$Recipe", "predecessorSet", "[I", true)
  | 14 => ("RecipeScheduler$Recipe", "successorSet", "[I", true)
  | 15 => ("RecipeScheduler$Recipe", "hot", "I", false)
  | _ => ("RecipeScheduler$Recipe", "alone", "I", false)
def tyX5 : Nat → FieldType := fun k => match k with
  | 0 => .int
  | 1 => .int
  | 2 => .int
  | 3 => .int
  | 4 => .object "RecipeScheduler$Names"
  | 5 => .array .int
  | 6 => .array .int
  | 7 => .object "RecipeScheduler$Names"
  | 8 => .array .int
  | 9 => .array .int
  | 10 => .array .int
  | 11 => .array (.array .int)
  | 12 => .array .int
  | 13 => .array .int
  | 14 => .array .int
  | 15 => .int
  | _ => .int
abbrev wsX50 : List Cond := u_ws RX5 TX5 17
theorem nmX5 : ∀ a, a < 17 → ∀ b, b < 17 → a ≠ b → (TX5 a).2.1 ≠ (TX5 b).2.1 := by decide +kernel
theorem tyX5_ok : ∀ k, k < 17 → parseFieldDescriptor (TX5 k).2.2.1 = some (tyX5 k) := by decide +kernel
abbrev cX5_init : ByteArray := prog_7_method_1_code
def yX5_init : MethodName := ⟨RX5, "<init>", "()V"⟩
abbrev cX5_clear : ByteArray := prog_7_method_2_code
def yX5_clear : MethodName := ⟨RX5, "clear", "()V"⟩
abbrev cX5_addPredecessor : ByteArray := prog_7_method_3_code
def yX5_addPredecessor : MethodName := ⟨RX5, "addPredecessor", "(II)V"⟩
abbrev cX5_allSteps : ByteArray := prog_7_method_4_code
def yX5_allSteps : MethodName := ⟨RX5, "allSteps", "()I"⟩
def RX6 : String := "RecipeScheduler$ScriptReader"
def TX6 : u_T := fun k => match k with
  | 0 => ("RecipeScheduler$ScriptReader", "tokens", "LRecipeScheduler$Tokens;", true)
  | 1 => ("RecipeScheduler$ScriptReader", "commands", "[LRecipeScheduler$Command;", true)
  | 2 => ("RecipeScheduler$ScriptReader", "steps", "[I", true)
  | 3 => ("RecipeScheduler$ScriptReader", "numbers", "[I", true)
  | _ => ("RecipeScheduler$ScriptReader", "count", "I", false)
def tyX6 : Nat → FieldType := fun k => match k with
  | 0 => .object "RecipeScheduler$Tokens"
  | 1 => .array (.object "RecipeScheduler$Command")
  | 2 => .array .int
  | 3 => .array .int
  | _ => .int
abbrev wsX60 : List Cond := u_ws RX6 TX6 5
theorem nmX6 : ∀ a, a < 5 → ∀ b, b < 5 → a ≠ b → (TX6 a).2.1 ≠ (TX6 b).2.1 := by decide +kernel
theorem tyX6_ok : ∀ k, k < 5 → parseFieldDescriptor (TX6 k).2.2.1 = some (tyX6 k) := by decide +kernel
abbrev cX6_init : ByteArray := prog_8_method_1_code
def yX6_init : MethodName := ⟨RX6, "<init>", "(LRecipeScheduler$Tokens;)V"⟩
def RX7 : String := "RecipeScheduler$SetupReader"
def TX7 : u_T := fun k => match k with
  | _ => ("RecipeScheduler$SetupReader", "tokens", "LRecipeScheduler$Tokens;", true)
def tyX7 : Nat → FieldType := fun k => match k with
  | _ => .object "RecipeScheduler$Tokens"
abbrev wsX70 : List Cond := u_ws RX7 TX7 1
theorem nmX7 : ∀ a, a < 1 → ∀ b, b < 1 → a ≠ b → (TX7 a).2.1 ≠ (TX7 b).2.1 := by decide +kernel
theorem tyX7_ok : ∀ k, k < 1 → parseFieldDescriptor (TX7 k).2.2.1 = some (tyX7 k) := by decide +kernel
abbrev cX7_init : ByteArray := prog_9_method_1_code
def yX7_init : MethodName := ⟨RX7, "<init>", "(LRecipeScheduler$Tokens;)V"⟩
abbrev cX7_readInto : ByteArray := prog_9_method_2_code
def yX7_readInto : MethodName := ⟨RX7, "readInto", "(LRecipeScheduler$Recipe;)V"⟩
abbrev cX7_readHead : ByteArray := prog_9_method_3_code
def yX7_readHead : MethodName := ⟨RX7, "readHead", "(LRecipeScheduler$Recipe;)V"⟩
abbrev cX7_readPan : ByteArray := prog_9_method_4_code
def yX7_readPan : MethodName := ⟨RX7, "readPan", "(LRecipeScheduler$Recipe;)V"⟩
abbrev cX7_readStep : ByteArray := prog_9_method_5_code
def yX7_readStep : MethodName := ⟨RX7, "readStep", "(LRecipeScheduler$Recipe;)V"⟩
abbrev cX7_readPanOf : ByteArray := prog_9_method_6_code
def yX7_readPanOf : MethodName := ⟨RX7, "readPanOf", "(LRecipeScheduler$Recipe;I)V"⟩
abbrev cX7_readPredecessors : ByteArray := prog_9_method_7_code
def yX7_readPredecessors : MethodName := ⟨RX7, "readPredecessors", "(LRecipeScheduler$Recipe;I)V"⟩
def RX8 : String := "RecipeScheduler$State"
def TX8 : u_T := fun k => match k with
  | 0 => ("RecipeScheduler$State", "cooks", "I", false)
  | 1 => ("RecipeScheduler$State", "minute", "I", false)
  | 2 => ("RecipeScheduler$State", "salt", "I", false)
  | 3 => ("RecipeScheduler$State", "cookMinutes", "I", false)
  | 4 => ("RecipeScheduler$State", "stops", "I", false)
  | 5 => ("RecipeScheduler$State", "served", "Z", false)
  | 6 => ("RecipeScheduler$State", "running", "I", false)
  | 7 => ("RecipeScheduler$State", "done", "I", false)
  | 8 => ("RecipeScheduler$State", "burnt", "I", false)
  | 9 => ("RecipeScheduler$State", "duration", "[I", true)
  | 10 => ("RecipeScheduler$State", "remaining", "[I", true)
  | 11 => ("RecipeScheduler$State", "age", "[I", true)
  | 12 => ("RecipeScheduler$State", "starts", "[I", true)
  | 13 => ("RecipeScheduler$State", "completions", "[I", true)
  | _ => ("RecipeScheduler$State", "burns", "[I", true)
def tyX8 : Nat → FieldType := fun k => match k with
  | 0 => .int
  | 1 => .int
  | 2 => .int
  | 3 => .int
  | 4 => .int
  | 5 => .boolean
  | 6 => .int
  | 7 => .int
  | 8 => .int
  | 9 => .array .int
  | 10 => .array .int
  | 11 => .array .int
  | 12 => .array .int
  | 13 => .array .int
  | _ => .array .int
abbrev wsX80 : List Cond := u_ws RX8 TX8 15
theorem nmX8 : ∀ a, a < 15 → ∀ b, b < 15 → a ≠ b → (TX8 a).2.1 ≠ (TX8 b).2.1 := by decide +kernel
theorem tyX8_ok : ∀ k, k < 15 → parseFieldDescriptor (TX8 k).2.2.1 = some (tyX8 k) := by decide +kernel
abbrev cX8_init : ByteArray := prog_10_method_1_code
def yX8_init : MethodName := ⟨RX8, "<init>", "()V"⟩
abbrev cX8_begin : ByteArray := prog_10_method_2_code
def yX8_begin : MethodName := ⟨RX8, "begin", "(LRecipeScheduler$Recipe;)V"⟩
abbrev cX8_copyFrom : ByteArray := prog_10_method_3_code
def yX8_copyFrom : MethodName := ⟨RX8, "copyFrom", "(LRecipeScheduler$State;)V"⟩
abbrev cX8_statusOf : ByteArray := prog_10_method_4_code
def yX8_statusOf : MethodName := ⟨RX8, "statusOf", "(I)I"⟩
abbrev cX8_start : ByteArray := prog_10_method_5_code
def yX8_start : MethodName := ⟨RX8, "start", "(I)V"⟩
abbrev cX8_complete : ByteArray := prog_10_method_6_code
def yX8_complete : MethodName := ⟨RX8, "complete", "(I)V"⟩
abbrev cX8_burn : ByteArray := prog_10_method_7_code
def yX8_burn : MethodName := ⟨RX8, "burn", "(I)V"⟩
abbrev cX8_halt : ByteArray := prog_10_method_8_code
def yX8_halt : MethodName := ⟨RX8, "halt", "(I)I"⟩
abbrev cX8_discard : ByteArray := prog_10_method_9_code
def yX8_discard : MethodName := ⟨RX8, "discard", "(I)I"⟩
def RX9 : String := "RecipeScheduler$Text"
def TX9 : u_T := fun k => match k with
  | 0 => ("RecipeScheduler$Text", "bytes", "[B", true)
  | _ => ("RecipeScheduler$Text", "length", "I", false)
def tyX9 : Nat → FieldType := fun k => match k with
  | 0 => .array .byte
  | _ => .int
abbrev wsX90 : List Cond := u_ws RX9 TX9 2
theorem nmX9 : ∀ a, a < 2 → ∀ b, b < 2 → a ≠ b → (TX9 a).2.1 ≠ (TX9 b).2.1 := by decide +kernel
theorem tyX9_ok : ∀ k, k < 2 → parseFieldDescriptor (TX9 k).2.2.1 = some (tyX9 k) := by decide +kernel
abbrev cX9_init : ByteArray := prog_11_method_1_code
def yX9_init : MethodName := ⟨RX9, "<init>", "(I)V"⟩
abbrev cX9_addByte : ByteArray := prog_11_method_2_code
def yX9_addByte : MethodName := ⟨RX9, "addByte", "(I)V"⟩
abbrev cX9_addFourBytes : ByteArray := prog_11_method_3_code
def yX9_addFourBytes : MethodName := ⟨RX9, "addFourBytes", "(I)V"⟩
abbrev cX9_addString : ByteArray := prog_11_method_5_code
def yX9_addString : MethodName := ⟨RX9, "addString", "(Ljava/lang/String;)V"⟩
def RX10 : String := "RecipeScheduler$Tokens"
def TX10 : u_T := fun k => match k with
  | 0 => ("RecipeScheduler$Tokens", "text", "LRecipeScheduler$Text;", true)
  | 1 => ("RecipeScheduler$Tokens", "kind", "I", false)
  | 2 => ("RecipeScheduler$Tokens", "start", "I", false)
  | 3 => ("RecipeScheduler$Tokens", "end", "I", false)
  | 4 => ("RecipeScheduler$Tokens", "errorCode", "I", false)
  | _ => ("RecipeScheduler$Tokens", "errorPosition", "I", false)
def tyX10 : Nat → FieldType := fun k => match k with
  | 0 => .object "RecipeScheduler$Text"
  | 1 => .int
  | 2 => .int
  | 3 => .int
  | 4 => .int
  | _ => .int
abbrev wsX100 : List Cond := u_ws RX10 TX10 6
theorem nmX10 : ∀ a, a < 6 → ∀ b, b < 6 → a ≠ b → (TX10 a).2.1 ≠ (TX10 b).2.1 := by decide +kernel
theorem tyX10_ok : ∀ k, k < 6 → parseFieldDescriptor (TX10 k).2.2.1 = some (tyX10 k) := by decide +kernel
abbrev cX10_init : ByteArray := prog_12_method_1_code
def yX10_init : MethodName := ⟨RX10, "<init>", "(LRecipeScheduler$Text;)V"⟩
abbrev cX10_begin : ByteArray := prog_12_method_2_code
def yX10_begin : MethodName := ⟨RX10, "begin", "()V"⟩
abbrev cX10_advance : ByteArray := prog_12_method_3_code
def yX10_advance : MethodName := ⟨RX10, "advance", "()V"⟩
abbrev cX10_passRun : ByteArray := prog_12_method_4_code
def yX10_passRun : MethodName := ⟨RX10, "passRun", "(II)V"⟩
abbrev cX10_fail : ByteArray := prog_12_method_5_code
def yX10_fail : MethodName := ⟨RX10, "fail", "(I)V"⟩
abbrev cX10_mayGoOn : ByteArray := prog_12_method_6_code
def yX10_mayGoOn : MethodName := ⟨RX10, "mayGoOn", "()Z"⟩
abbrev cX10_isAnyWord : ByteArray := prog_12_method_7_code
def yX10_isAnyWord : MethodName := ⟨RX10, "isAnyWord", "()Z"⟩
abbrev cX10_isWord : ByteArray := prog_12_method_8_code
def yX10_isWord : MethodName := ⟨RX10, "isWord", "(Ljava/lang/String;)Z"⟩
abbrev cX10_accept : ByteArray := prog_12_method_9_code
def yX10_accept : MethodName := ⟨RX10, "accept", "(Ljava/lang/String;)Z"⟩
abbrev cX10_expectSemicolon : ByteArray := prog_12_method_10_code
def yX10_expectSemicolon : MethodName := ⟨RX10, "expectSemicolon", "()V"⟩
abbrev cX10_expectNumber : ByteArray := prog_12_method_11_code
def yX10_expectNumber : MethodName := ⟨RX10, "expectNumber", "(II)I"⟩
abbrev cX10_findName : ByteArray := prog_12_method_12_code
def yX10_findName : MethodName := ⟨RX10, "findName", "(LRecipeScheduler$Names;)I"⟩
abbrev cX10_expectNewName : ByteArray := prog_12_method_13_code
def yX10_expectNewName : MethodName := ⟨RX10, "expectNewName", "(LRecipeScheduler$Names;)V"⟩
abbrev cX10_isGap : ByteArray := prog_12_method_14_code
def yX10_isGap : MethodName := ⟨RX10, "isGap", "(I)Z"⟩
def RX11 : String := "RecipeScheduler"
def TX11 : u_T := fun k => match k with
  | 0 => ("RecipeScheduler", "input", "LRecipeScheduler$Text;", true)
  | 1 => ("RecipeScheduler", "output", "LRecipeScheduler$Text;", true)
  | 2 => ("RecipeScheduler", "tokens", "LRecipeScheduler$Tokens;", true)
  | 3 => ("RecipeScheduler", "setupReader", "LRecipeScheduler$SetupReader;", true)
  | 4 => ("RecipeScheduler", "scriptReader", "LRecipeScheduler$ScriptReader;", true)
  | 5 => ("RecipeScheduler", "now", "LRecipeScheduler$Kitchen;", true)
  | 6 => ("RecipeScheduler", "forecast", "LRecipeScheduler$Kitchen;", true)
  | 7 => ("RecipeScheduler", "history", "LRecipeScheduler$History;", true)
  | 8 => ("RecipeScheduler", "saved", "[LRecipeScheduler$State;", true)
  | 9 => ("RecipeScheduler", "isSaved", "[Z", true)
  | _ => ("RecipeScheduler", "spare", "LRecipeScheduler$Recipe;", false)
def tyX11 : Nat → FieldType := fun k => match k with
  | 0 => .object "RecipeScheduler$Text"
  | 1 => .object "RecipeScheduler$Text"
  | 2 => .object "RecipeScheduler$Tokens"
  | 3 => .object "RecipeScheduler$SetupReader"
  | 4 => .object "RecipeScheduler$ScriptReader"
  | 5 => .object "RecipeScheduler$Kitchen"
  | 6 => .object "RecipeScheduler$Kitchen"
  | 7 => .object "RecipeScheduler$History"
  | 8 => .array (.object "RecipeScheduler$State")
  | 9 => .array .boolean
  | _ => .object "RecipeScheduler$Recipe"
abbrev wsX110 : List Cond := u_ws RX11 TX11 11
theorem nmX11 : ∀ a, a < 11 → ∀ b, b < 11 → a ≠ b → (TX11 a).2.1 ≠ (TX11 b).2.1 := by decide +kernel
theorem tyX11_ok : ∀ k, k < 11 → parseFieldDescriptor (TX11 k).2.2.1 = some (tyX11 k) := by decide +kernel
abbrev cX11_init : ByteArray := prog_1_method_1_code
def yX11_init : MethodName := ⟨RX11, "<init>", "()V"⟩
abbrev cX11_append : ByteArray := prog_1_method_2_code
def yX11_append : MethodName := ⟨RX11, "append", "(IIIII)I"⟩
abbrev cX11_truncate : ByteArray := prog_1_method_3_code
def yX11_truncate : MethodName := ⟨RX11, "truncate", "(I)I"⟩
abbrev cX11_load : ByteArray := prog_1_method_4_code
def yX11_load : MethodName := ⟨RX11, "load", "()I"⟩
abbrev cX11_stepCount : ByteArray := prog_1_method_7_code
def yX11_stepCount : MethodName := ⟨RX11, "stepCount", "()I"⟩
abbrev cX11_cooks : ByteArray := prog_1_method_8_code
def yX11_cooks : MethodName := ⟨RX11, "cooks", "()I"⟩
abbrev cX11_minute : ByteArray := prog_1_method_9_code
def yX11_minute : MethodName := ⟨RX11, "minute", "()I"⟩
abbrev cX11_salt : ByteArray := prog_1_method_10_code
def yX11_salt : MethodName := ⟨RX11, "salt", "()I"⟩
abbrev cX11_taste : ByteArray := prog_1_method_11_code
def yX11_taste : MethodName := ⟨RX11, "taste", "()I"⟩
abbrev cX11_starts : ByteArray := prog_1_method_13_code
def yX11_starts : MethodName := ⟨RX11, "starts", "()I"⟩
abbrev cX11_completions : ByteArray := prog_1_method_14_code
def yX11_completions : MethodName := ⟨RX11, "completions", "()I"⟩
abbrev cX11_burns : ByteArray := prog_1_method_15_code
def yX11_burns : MethodName := ⟨RX11, "burns", "()I"⟩
abbrev cX11_cookMinutes : ByteArray := prog_1_method_16_code
def yX11_cookMinutes : MethodName := ⟨RX11, "cookMinutes", "()I"⟩
abbrev cX11_panCapacity : ByteArray := prog_1_method_17_code
def yX11_panCapacity : MethodName := ⟨RX11, "panCapacity", "(I)I"⟩
abbrev cX11_duration : ByteArray := prog_1_method_19_code
def yX11_duration : MethodName := ⟨RX11, "duration", "(I)I"⟩
abbrev cX11_stepTaste : ByteArray := prog_1_method_20_code
def yX11_stepTaste : MethodName := ⟨RX11, "stepTaste", "(I)I"⟩
abbrev cX11_panType : ByteArray := prog_1_method_21_code
def yX11_panType : MethodName := ⟨RX11, "panType", "(I)I"⟩
abbrev cX11_isHot : ByteArray := prog_1_method_22_code
def yX11_isHot : MethodName := ⟨RX11, "isHot", "(I)Z"⟩
abbrev cX11_isUnattended : ByteArray := prog_1_method_23_code
def yX11_isUnattended : MethodName := ⟨RX11, "isUnattended", "(I)Z"⟩
abbrev cX11_predecessor : ByteArray := prog_1_method_24_code
def yX11_predecessor : MethodName := ⟨RX11, "predecessor", "(II)I"⟩
abbrev cX11_status : ByteArray := prog_1_method_30_code
def yX11_status : MethodName := ⟨RX11, "status", "(I)I"⟩
abbrev cX11_remaining : ByteArray := prog_1_method_31_code
def yX11_remaining : MethodName := ⟨RX11, "remaining", "(I)I"⟩
abbrev cX11_age : ByteArray := prog_1_method_32_code
def yX11_age : MethodName := ⟨RX11, "age", "(I)I"⟩
abbrev cX11_isTakenUp : ByteArray := prog_1_method_34_code
def yX11_isTakenUp : MethodName := ⟨RX11, "isTakenUp", "(I)Z"⟩
abbrev cX11_whyNotServed : ByteArray := prog_1_method_39_code
def yX11_whyNotServed : MethodName := ⟨RX11, "whyNotServed", "()I"⟩
abbrev cX11_inconsistencies : ByteArray := prog_1_method_51_code
def yX11_inconsistencies : MethodName := ⟨RX11, "inconsistencies", "()I"⟩
abbrev cX11_pass : ByteArray := prog_1_method_52_code
def yX11_pass : MethodName := ⟨RX11, "pass", "(I)I"⟩
abbrev cX11_addSalt : ByteArray := prog_1_method_53_code
def yX11_addSalt : MethodName := ⟨RX11, "addSalt", "(I)I"⟩
abbrev cX11_stop : ByteArray := prog_1_method_54_code
def yX11_stop : MethodName := ⟨RX11, "stop", "(I)I"⟩
abbrev cX11_redo : ByteArray := prog_1_method_55_code
def yX11_redo : MethodName := ⟨RX11, "redo", "(I)I"⟩
abbrev cX11_setCooks : ByteArray := prog_1_method_56_code
def yX11_setCooks : MethodName := ⟨RX11, "setCooks", "(I)I"⟩
abbrev cX11_setDuration : ByteArray := prog_1_method_57_code
def yX11_setDuration : MethodName := ⟨RX11, "setDuration", "(II)I"⟩
abbrev cX11_serve : ByteArray := prog_1_method_58_code
def yX11_serve : MethodName := ⟨RX11, "serve", "()I"⟩
abbrev cX11_requireStep : ByteArray := prog_1_method_65_code
def yX11_requireStep : MethodName := ⟨RX11, "requireStep", "(I)V"⟩
abbrev cX11_requirePan : ByteArray := prog_1_method_66_code
def yX11_requirePan : MethodName := ⟨RX11, "requirePan", "(I)V"⟩
abbrev cX11_requireCooks : ByteArray := prog_1_method_68_code
def yX11_requireCooks : MethodName := ⟨RX11, "requireCooks", "(I)V"⟩
abbrev cX11_requireNoError : ByteArray := prog_1_method_69_code
def yX11_requireNoError : MethodName := ⟨RX11, "requireNoError", "()V"⟩
abbrev cX11_isPassLength : ByteArray := prog_1_method_70_code
def yX11_isPassLength : MethodName := ⟨RX11, "isPassLength", "(I)Z"⟩
abbrev cX11_fitsClock : ByteArray := prog_1_method_71_code
def yX11_fitsClock : MethodName := ⟨RX11, "fitsClock", "(I)Z"⟩
abbrev cX11_isSaltAmount : ByteArray := prog_1_method_72_code
def yX11_isSaltAmount : MethodName := ⟨RX11, "isSaltAmount", "(I)Z"⟩
abbrev cX11_isCookCount : ByteArray := prog_1_method_73_code
def yX11_isCookCount : MethodName := ⟨RX11, "isCookCount", "(I)Z"⟩
abbrev cX11_isDuration : ByteArray := prog_1_method_74_code
def yX11_isDuration : MethodName := ⟨RX11, "isDuration", "(I)Z"⟩
abbrev cX11_isWithin : ByteArray := prog_1_method_81_code
def yX11_isWithin : MethodName := ⟨RX11, "isWithin", "(III)Z"⟩
abbrev cX11_contains : ByteArray := prog_1_method_82_code
def yX11_contains : MethodName := ⟨RX11, "contains", "(II)Z"⟩
abbrev cX11_sum : ByteArray := prog_1_method_84_code
def yX11_sum : MethodName := ⟨RX11, "sum", "([II)I"⟩
def RX12 : String := "RecipeSchedulerLaw$Kitchen"
def TX12 : u_T := fun k => match k with
  | 0 => ("RecipeSchedulerLaw$Kitchen", "x", "LRecipeScheduler;", true)
  | 1 => ("RecipeSchedulerLaw$Kitchen", "many", "I", true)
  | 2 => ("RecipeSchedulerLaw$Kitchen", "hold", "I", true)
  | 3 => ("RecipeSchedulerLaw$Kitchen", "status", "[I", true)
  | 4 => ("RecipeSchedulerLaw$Kitchen", "left", "[I", true)
  | 5 => ("RecipeSchedulerLaw$Kitchen", "age", "[I", true)
  | 6 => ("RecipeSchedulerLaw$Kitchen", "path", "[I", true)
  | 7 => ("RecipeSchedulerLaw$Kitchen", "minute", "I", false)
  | 8 => ("RecipeSchedulerLaw$Kitchen", "starts", "I", false)
  | 9 => ("RecipeSchedulerLaw$Kitchen", "completions", "I", false)
  | 10 => ("RecipeSchedulerLaw$Kitchen", "burns", "I", false)
  | _ => ("RecipeSchedulerLaw$Kitchen", "cookMinutes", "I", false)
def tyX12 : Nat → FieldType := fun k => match k with
  | 0 => .object "RecipeScheduler"
  | 1 => .int
  | 2 => .int
  | 3 => .array .int
  | 4 => .array .int
  | 5 => .array .int
  | 6 => .array .int
  | 7 => .int
  | 8 => .int
  | 9 => .int
  | 10 => .int
  | _ => .int
abbrev wsX120 : List Cond := u_ws RX12 TX12 12
theorem nmX12 : ∀ a, a < 12 → ∀ b, b < 12 → a ≠ b → (TX12 a).2.1 ≠ (TX12 b).2.1 := by decide +kernel
theorem tyX12_ok : ∀ k, k < 12 → parseFieldDescriptor (TX12 k).2.2.1 = some (tyX12 k) := by decide +kernel
abbrev cX12_init : ByteArray := prog_14_method_1_code
def yX12_init : MethodName := ⟨RX12, "<init>", "(LRecipeScheduler;I)V"⟩
abbrev cX12_read : ByteArray := prog_14_method_2_code
def yX12_read : MethodName := ⟨RX12, "read", "()V"⟩
abbrev cX12_isAfter : ByteArray := prog_14_method_3_code
def yX12_isAfter : MethodName := ⟨RX12, "isAfter", "(II)Z"⟩
abbrev cX12_follows : ByteArray := prog_14_method_4_code
def yX12_follows : MethodName := ⟨RX12, "follows", "(III)Z"⟩
abbrev cX12_isReady : ByteArray := prog_14_method_5_code
def yX12_isReady : MethodName := ⟨RX12, "isReady", "(I)Z"⟩
abbrev cX12_canStart : ByteArray := prog_14_method_6_code
def yX12_canStart : MethodName := ⟨RX12, "canStart", "(I)Z"⟩
abbrev cX12_pass : ByteArray := prog_14_method_7_code
def yX12_pass : MethodName := ⟨RX12, "pass", "()V"⟩
abbrev cX12_next : ByteArray := prog_14_method_8_code
def yX12_next : MethodName := ⟨RX12, "next", "([Z)I"⟩
abbrev cX12_agrees : ByteArray := prog_14_method_9_code
def yX12_agrees : MethodName := ⟨RX12, "agrees", "()Z"⟩
def RX13 : String := "RecipeSchedulerModel"
def TX13 : u_T := fun k => match k with
  | _ => ("", "", "", false)
def tyX13 : Nat → FieldType := fun k => match k with
  | _ => .int
abbrev wsX130 : List Cond := u_ws RX13 TX13 0
theorem nmX13 : ∀ a, a < 0 → ∀ b, b < 0 → a ≠ b → (TX13 a).2.1 ≠ (TX13 b).2.1 := by decide +kernel
theorem tyX13_ok : ∀ k, k < 0 → parseFieldDescriptor (TX13 k).2.2.1 = some (tyX13 k) := by decide +kernel
def RJx145de : String := "java/io/Serializable"
def TJx145de : u_T := fun k => match k with
  | _ => ("", "", "", false)
def tyJx145de : Nat → FieldType := fun k => match k with
  | _ => .int
abbrev wsJx145de0 : List Cond := u_ws RJx145de TJx145de 0
theorem nmJx145de : ∀ a, a < 0 → ∀ b, b < 0 → a ≠ b → (TJx145de a).2.1 ≠ (TJx145de b).2.1 := by decide +kernel
theorem tyJx145de_ok : ∀ k, k < 0 → parseFieldDescriptor (TJx145de k).2.2.1 = some (tyJx145de k) := by decide +kernel
def RJ5 : String := "java/lang/AbstractStringBuilder"
def TJ5 : u_T := fun k => match k with
  | _ => ("", "", "", false)
def tyJ5 : Nat → FieldType := fun k => match k with
  | _ => .int
abbrev wsJ50 : List Cond := u_ws RJ5 TJ5 0
theorem nmJ5 : ∀ a, a < 0 → ∀ b, b < 0 → a ≠ b → (TJ5 a).2.1 ≠ (TJ5 b).2.1 := by decide +kernel
theorem tyJ5_ok : ∀ k, k < 0 → parseFieldDescriptor (TJ5 k).2.2.1 = some (tyJ5 k) := by decide +kernel
abbrev cJ5_init_a7421 : ByteArray := prog_16_method_3_code
def yJ5_init_a7421 : MethodName := ⟨RJ5, "<init>", "(Ljava/lang/String;)V"⟩
abbrev cJ5_length_8abf5 : ByteArray := prog_16_method_6_code
def yJ5_length_8abf5 : MethodName := ⟨RJ5, "length", "()I"⟩
abbrev cJ5_ensureCapacityInternal_d00df : ByteArray := prog_16_method_9_code
def yJ5_ensureCapacityInternal_d00df : MethodName := ⟨RJ5, "ensureCapacityInternal", "(I)V"⟩
abbrev cJ5_newCapacity_0f7a4 : ByteArray := prog_16_method_10_code
def yJ5_newCapacity_0f7a4 : MethodName := ⟨RJ5, "newCapacity", "(I)I"⟩
abbrev cJ5_inflate_da8c8 : ByteArray := prog_16_method_11_code
def yJ5_inflate_da8c8 : MethodName := ⟨RJ5, "inflate", "()V"⟩
abbrev cJ5_append_cf1ce : ByteArray := prog_16_method_22_code
def yJ5_append_cf1ce : MethodName := ⟨RJ5, "append", "(Ljava/lang/String;)Ljava/lang/AbstractStringBuilder;"⟩
abbrev cJ5_appendNull_278bc : ByteArray := prog_16_method_26_code
def yJ5_appendNull_278bc : MethodName := ⟨RJ5, "appendNull", "()Ljava/lang/AbstractStringBuilder;"⟩
abbrev cJ5_append_3fe6f : ByteArray := prog_16_method_31_code
def yJ5_append_3fe6f : MethodName := ⟨RJ5, "append", "(C)Ljava/lang/AbstractStringBuilder;"⟩
abbrev cJ5_append_c97b9 : ByteArray := prog_16_method_32_code
def yJ5_append_c97b9 : MethodName := ⟨RJ5, "append", "(I)Ljava/lang/AbstractStringBuilder;"⟩
abbrev cJ5_getValue_6d5f1 : ByteArray := prog_16_method_64_code
def yJ5_getValue_6d5f1 : MethodName := ⟨RJ5, "getValue", "()[B"⟩
abbrev cJ5_isLatin1_aae02 : ByteArray := prog_16_method_68_code
def yJ5_isLatin1_aae02 : MethodName := ⟨RJ5, "isLatin1", "()Z"⟩
abbrev cJ5_inflateIfNeededFor_a7421 : ByteArray := prog_16_method_71_code
def yJ5_inflateIfNeededFor_a7421 : MethodName := ⟨RJ5, "inflateIfNeededFor", "(Ljava/lang/String;)V"⟩
abbrev cJ5_putStringAt_47b60 : ByteArray := prog_16_method_73_code
def yJ5_putStringAt_47b60 : MethodName := ⟨RJ5, "putStringAt", "(ILjava/lang/String;)V"⟩
def RJx2cfe8 : String := "java/lang/Appendable"
def TJx2cfe8 : u_T := fun k => match k with
  | _ => ("", "", "", false)
def tyJx2cfe8 : Nat → FieldType := fun k => match k with
  | _ => .int
abbrev wsJx2cfe80 : List Cond := u_ws RJx2cfe8 TJx2cfe8 0
theorem nmJx2cfe8 : ∀ a, a < 0 → ∀ b, b < 0 → a ≠ b → (TJx2cfe8 a).2.1 ≠ (TJx2cfe8 b).2.1 := by decide +kernel
theorem tyJx2cfe8_ok : ∀ k, k < 0 → parseFieldDescriptor (TJx2cfe8 k).2.2.1 = some (tyJx2cfe8 k) := by decide +kernel
def RJx9f9b0 : String := "java/lang/CharSequence"
def TJx9f9b0 : u_T := fun k => match k with
  | _ => ("", "", "", false)
def tyJx9f9b0 : Nat → FieldType := fun k => match k with
  | _ => .int
abbrev wsJx9f9b00 : List Cond := u_ws RJx9f9b0 TJx9f9b0 0
theorem nmJx9f9b0 : ∀ a, a < 0 → ∀ b, b < 0 → a ≠ b → (TJx9f9b0 a).2.1 ≠ (TJx9f9b0 b).2.1 := by decide +kernel
theorem tyJx9f9b0_ok : ∀ k, k < 0 → parseFieldDescriptor (TJx9f9b0 k).2.2.1 = some (tyJx9f9b0 k) := by decide +kernel
def RJx8e188 : String := "java/lang/Cloneable"
def TJx8e188 : u_T := fun k => match k with
  | _ => ("", "", "", false)
def tyJx8e188 : Nat → FieldType := fun k => match k with
  | _ => .int
abbrev wsJx8e1880 : List Cond := u_ws RJx8e188 TJx8e188 0
theorem nmJx8e188 : ∀ a, a < 0 → ∀ b, b < 0 → a ≠ b → (TJx8e188 a).2.1 ≠ (TJx8e188 b).2.1 := by decide +kernel
theorem tyJx8e188_ok : ∀ k, k < 0 → parseFieldDescriptor (TJx8e188 k).2.2.1 = some (tyJx8e188 k) := by decide +kernel
def RJxb160c : String := "java/lang/Comparable"
def TJxb160c : u_T := fun k => match k with
  | _ => ("", "", "", false)
def tyJxb160c : Nat → FieldType := fun k => match k with
  | _ => .int
abbrev wsJxb160c0 : List Cond := u_ws RJxb160c TJxb160c 0
theorem nmJxb160c : ∀ a, a < 0 → ∀ b, b < 0 → a ≠ b → (TJxb160c a).2.1 ≠ (TJxb160c b).2.1 := by decide +kernel
theorem tyJxb160c_ok : ∀ k, k < 0 → parseFieldDescriptor (TJxb160c k).2.2.1 = some (tyJxb160c k) := by decide +kernel
def RJx29ce0 : String := "java/lang/Enum"
def TJx29ce0 : u_T := fun k => match k with
  | _ => ("", "", "", false)
def tyJx29ce0 : Nat → FieldType := fun k => match k with
  | _ => .int
abbrev wsJx29ce00 : List Cond := u_ws RJx29ce0 TJx29ce0 0
theorem nmJx29ce0 : ∀ a, a < 0 → ∀ b, b < 0 → a ≠ b → (TJx29ce0 a).2.1 ≠ (TJx29ce0 b).2.1 := by decide +kernel
theorem tyJx29ce0_ok : ∀ k, k < 0 → parseFieldDescriptor (TJx29ce0 k).2.2.1 = some (tyJx29ce0 k) := by decide +kernel
def RJ6 : String := "java/lang/Integer"
def TJ6 : u_T := fun k => match k with
  | _ => ("", "", "", false)
def tyJ6 : Nat → FieldType := fun k => match k with
  | _ => .int
abbrev wsJ60 : List Cond := u_ws RJ6 TJ6 0
theorem nmJ6 : ∀ a, a < 0 → ∀ b, b < 0 → a ≠ b → (TJ6 a).2.1 ≠ (TJ6 b).2.1 := by decide +kernel
theorem tyJ6_ok : ∀ k, k < 0 → parseFieldDescriptor (TJ6 k).2.2.1 = some (tyJ6 k) := by decide +kernel
abbrev cJ6_getChars_ba4f3 : ByteArray := prog_23_method_12_code
def yJ6_getChars_ba4f3 : MethodName := ⟨RJ6, "getChars", "(II[B)I"⟩
abbrev cJ6_stringSize_0f7a4 : ByteArray := prog_23_method_13_code
def yJ6_stringSize_0f7a4 : MethodName := ⟨RJ6, "stringSize", "(I)I"⟩
abbrev cJ6_bitCount_0f7a4 : ByteArray := prog_23_method_49_code
def yJ6_bitCount_0f7a4 : MethodName := ⟨RJ6, "bitCount", "(I)I"⟩
def RJ9 : String := "java/lang/Math"
def TJ9 : u_T := fun k => match k with
  | _ => ("", "", "", false)
def tyJ9 : Nat → FieldType := fun k => match k with
  | _ => .int
abbrev wsJ90 : List Cond := u_ws RJ9 TJ9 0
theorem nmJ9 : ∀ a, a < 0 → ∀ b, b < 0 → a ≠ b → (TJ9 a).2.1 ≠ (TJ9 b).2.1 := by decide +kernel
theorem tyJ9_ok : ∀ k, k < 0 → parseFieldDescriptor (TJ9 k).2.2.1 = some (tyJ9 k) := by decide +kernel
abbrev cJ9_max_7cf53 : ByteArray := prog_24_method_65_code
def yJ9_max_7cf53 : MethodName := ⟨RJ9, "max", "(II)I"⟩
abbrev cJ9_min_7cf53 : ByteArray := prog_24_method_69_code
def yJ9_min_7cf53 : MethodName := ⟨RJ9, "min", "(II)I"⟩
def RJxd2413 : String := "java/lang/Number"
def TJxd2413 : u_T := fun k => match k with
  | _ => ("", "", "", false)
def tyJxd2413 : Nat → FieldType := fun k => match k with
  | _ => .int
abbrev wsJxd24130 : List Cond := u_ws RJxd2413 TJxd2413 0
theorem nmJxd2413 : ∀ a, a < 0 → ∀ b, b < 0 → a ≠ b → (TJxd2413 a).2.1 ≠ (TJxd2413 b).2.1 := by decide +kernel
theorem tyJxd2413_ok : ∀ k, k < 0 → parseFieldDescriptor (TJxd2413 k).2.2.1 = some (tyJxd2413 k) := by decide +kernel
def RJ0 : String := "java/lang/String"
def TJ0 : u_T := fun k => match k with
  | 0 => ("java/lang/String", "value", "[B", true)
  | 1 => ("java/lang/String", "coder", "B", true)
  | 2 => ("java/lang/String", "hash", "I", false)
  | _ => ("java/lang/String", "hashIsZero", "Z", false)
def tyJ0 : Nat → FieldType := fun k => match k with
  | 0 => .array .byte
  | 1 => .byte
  | 2 => .int
  | _ => .boolean
abbrev wsJ00 : List Cond := u_ws RJ0 TJ0 4
theorem nmJ0 : ∀ a, a < 4 → ∀ b, b < 4 → a ≠ b → (TJ0 a).2.1 ≠ (TJ0 b).2.1 := by decide +kernel
theorem tyJ0_ok : ∀ k, k < 4 → parseFieldDescriptor (TJ0 k).2.2.1 = some (tyJ0 k) := by decide +kernel
abbrev cJ0_init_81219 : ByteArray := prog_27_method_53_code
def yJ0_init_81219 : MethodName := ⟨RJ0, "<init>", "(Ljava/lang/StringBuilder;)V"⟩
abbrev cJ0_length_8abf5 : ByteArray := prog_27_method_54_code
def yJ0_length_8abf5 : MethodName := ⟨RJ0, "length", "()I"⟩
abbrev cJ0_charAt_5068e : ByteArray := prog_27_method_56_code
def yJ0_charAt_5068e : MethodName := ⟨RJ0, "charAt", "(I)C"⟩
abbrev cJ0_getBytes_840e7 : ByteArray := prog_27_method_147_code
def yJ0_getBytes_840e7 : MethodName := ⟨RJ0, "getBytes", "([BIB)V"⟩
abbrev cJ0_init_db425 : ByteArray := prog_27_method_150_code
def yJ0_init_db425 : MethodName := ⟨RJ0, "<init>", "(Ljava/lang/AbstractStringBuilder;Ljava/lang/Void;)V"⟩
abbrev cJ0_coder_7d493 : ByteArray := prog_27_method_152_code
def yJ0_coder_7d493 : MethodName := ⟨RJ0, "coder", "()B"⟩
abbrev cJ0_isLatin1_aae02 : ByteArray := prog_27_method_154_code
def yJ0_isLatin1_aae02 : MethodName := ⟨RJ0, "isLatin1", "()Z"⟩
abbrev cJ0_checkIndex_df160 : ByteArray := prog_27_method_155_code
def yJ0_checkIndex_df160 : MethodName := ⟨RJ0, "checkIndex", "(II)V"⟩
abbrev cJ0_checkBoundsOffCount_cabcc : ByteArray := prog_27_method_157_code
def yJ0_checkBoundsOffCount_cabcc : MethodName := ⟨RJ0, "checkBoundsOffCount", "(III)I"⟩
abbrev cJ0_checkBoundsBeginEnd_23922 : ByteArray := prog_27_method_158_code
def yJ0_checkBoundsBeginEnd_23922 : MethodName := ⟨RJ0, "checkBoundsBeginEnd", "(III)V"⟩
def RJ4 : String := "java/lang/StringBuilder"
def TJ4 : u_T := fun k => match k with
  | 0 => ("java/lang/AbstractStringBuilder", "value", "[B", false)
  | 1 => ("java/lang/AbstractStringBuilder", "coder", "B", false)
  | 2 => ("java/lang/AbstractStringBuilder", "maybeLatin1", "Z", false)
  | _ => ("java/lang/AbstractStringBuilder", "count", "I", false)
def tyJ4 : Nat → FieldType := fun k => match k with
  | 0 => .array .byte
  | 1 => .byte
  | 2 => .boolean
  | _ => .int
abbrev wsJ40 : List Cond := u_ws RJ4 TJ4 4
theorem nmJ4 : ∀ a, a < 4 → ∀ b, b < 4 → a ≠ b → (TJ4 a).2.1 ≠ (TJ4 b).2.1 := by decide +kernel
theorem tyJ4_ok : ∀ k, k < 4 → parseFieldDescriptor (TJ4 k).2.2.1 = some (tyJ4 k) := by decide +kernel
abbrev cJ4_init_a7421 : ByteArray := prog_28_method_3_code
def yJ4_init_a7421 : MethodName := ⟨RJ4, "<init>", "(Ljava/lang/String;)V"⟩
abbrev cJ4_append_15ec4 : ByteArray := prog_28_method_7_code
def yJ4_append_15ec4 : MethodName := ⟨RJ4, "append", "(Ljava/lang/String;)Ljava/lang/StringBuilder;"⟩
abbrev cJ4_append_cf468 : ByteArray := prog_28_method_14_code
def yJ4_append_cf468 : MethodName := ⟨RJ4, "append", "(C)Ljava/lang/StringBuilder;"⟩
abbrev cJ4_append_bf812 : ByteArray := prog_28_method_15_code
def yJ4_append_bf812 : MethodName := ⟨RJ4, "append", "(I)Ljava/lang/StringBuilder;"⟩
abbrev cJ4_toString_0e30d : ByteArray := prog_28_method_42_code
def yJ4_toString_0e30d : MethodName := ⟨RJ4, "toString", "()Ljava/lang/String;"⟩
abbrev cJ4_append_cf1ce : ByteArray := prog_28_method_80_code
def yJ4_append_cf1ce : MethodName := ⟨RJ4, "append", "(Ljava/lang/String;)Ljava/lang/AbstractStringBuilder;"⟩
abbrev cJ4_length_8abf5 : ByteArray := prog_28_method_93_code
def yJ4_length_8abf5 : MethodName := ⟨RJ4, "length", "()I"⟩
def RJ1 : String := "java/lang/StringLatin1"
def TJ1 : u_T := fun k => match k with
  | _ => ("", "", "", false)
def tyJ1 : Nat → FieldType := fun k => match k with
  | _ => .int
abbrev wsJ10 : List Cond := u_ws RJ1 TJ1 0
theorem nmJ1 : ∀ a, a < 0 → ∀ b, b < 0 → a ≠ b → (TJ1 a).2.1 ≠ (TJ1 b).2.1 := by decide +kernel
theorem tyJ1_ok : ∀ k, k < 0 → parseFieldDescriptor (TJ1 k).2.2.1 = some (tyJ1 k) := by decide +kernel
abbrev cJ1_charAt_3b067 : ByteArray := prog_29_method_2_code
def yJ1_charAt_3b067 : MethodName := ⟨RJ1, "charAt", "([BI)C"⟩
abbrev cJ1_canEncode_fc78d : ByteArray := prog_29_method_3_code
def yJ1_canEncode_fc78d : MethodName := ⟨RJ1, "canEncode", "(C)Z"⟩
abbrev cJ1_inflate_0e8fd : ByteArray := prog_29_method_50_code
def yJ1_inflate_0e8fd : MethodName := ⟨RJ1, "inflate", "([BI[BII)V"⟩
def RJ2 : String := "java/lang/StringUTF16"
def TJ2 : u_T := fun k => match k with
  | _ => ("", "", "", false)
def tyJ2 : Nat → FieldType := fun k => match k with
  | _ => .int
abbrev wsJ20 : List Cond := u_ws RJ2 TJ2 0
theorem nmJ2 : ∀ a, a < 0 → ∀ b, b < 0 → a ≠ b → (TJ2 a).2.1 ≠ (TJ2 b).2.1 := by decide +kernel
theorem tyJ2_ok : ∀ k, k < 0 → parseFieldDescriptor (TJ2 k).2.2.1 = some (tyJ2 k) := by decide +kernel
abbrev cJ2_newBytesFor_77867 : ByteArray := prog_30_method_2_code
def yJ2_newBytesFor_77867 : MethodName := ⟨RJ2, "newBytesFor", "(I)[B"⟩
abbrev cJ2_newBytesLength_0f7a4 : ByteArray := prog_30_method_3_code
def yJ2_newBytesLength_0f7a4 : MethodName := ⟨RJ2, "newBytesLength", "(I)I"⟩
abbrev cJ2_putChar_b72d1 : ByteArray := prog_30_method_4_code
def yJ2_putChar_b72d1 : MethodName := ⟨RJ2, "putChar", "([BII)V"⟩
abbrev cJ2_getChar_3b067 : ByteArray := prog_30_method_5_code
def yJ2_getChar_3b067 : MethodName := ⟨RJ2, "getChar", "([BI)C"⟩
abbrev cJ2_length_9d52b : ByteArray := prog_30_method_6_code
def yJ2_length_9d52b : MethodName := ⟨RJ2, "length", "([B)I"⟩
abbrev cJ2_coderFromArrayLen_85cad : ByteArray := prog_30_method_15_code
def yJ2_coderFromArrayLen_85cad : MethodName := ⟨RJ2, "coderFromArrayLen", "([BI)B"⟩
abbrev cJ2_compress_39247 : ByteArray := prog_30_method_17_code
def yJ2_compress_39247 : MethodName := ⟨RJ2, "compress", "([BII)[B"⟩
abbrev cJ2_compress_5af95 : ByteArray := prog_30_method_22_code
def yJ2_compress_5af95 : MethodName := ⟨RJ2, "compress", "([BI[BII)I"⟩
abbrev cJ2_putCharSB_b72d1 : ByteArray := prog_30_method_71_code
def yJ2_putCharSB_b72d1 : MethodName := ⟨RJ2, "putCharSB", "([BII)V"⟩
abbrev cJ2_getChars_46870 : ByteArray := prog_30_method_77_code
def yJ2_getChars_46870 : MethodName := ⟨RJ2, "getChars", "(III[B)I"⟩
abbrev cJ2_putCharsAt_cd4e5 : ByteArray := prog_30_method_81_code
def yJ2_putCharsAt_cd4e5 : MethodName := ⟨RJ2, "putCharsAt", "([BICCCC)I"⟩
abbrev cJ2_charAt_3b067 : ByteArray := prog_30_method_83_code
def yJ2_charAt_3b067 : MethodName := ⟨RJ2, "charAt", "([BI)C"⟩
abbrev cJ2_inflate_0e8fd : ByteArray := prog_30_method_86_code
def yJ2_inflate_0e8fd : MethodName := ⟨RJ2, "inflate", "([BI[BII)V"⟩
abbrev cJ2_getChars_ba4f3 : ByteArray := prog_30_method_89_code
def yJ2_getChars_ba4f3 : MethodName := ⟨RJ2, "getChars", "(II[B)I"⟩
abbrev cJ2_checkIndex_2214a : ByteArray := prog_30_method_91_code
def yJ2_checkIndex_2214a : MethodName := ⟨RJ2, "checkIndex", "(I[B)V"⟩
abbrev cJ2_checkBoundsBeginEnd_d044e : ByteArray := prog_30_method_93_code
def yJ2_checkBoundsBeginEnd_d044e : MethodName := ⟨RJ2, "checkBoundsBeginEnd", "(II[B)V"⟩
abbrev cJ2_checkBoundsOffCount_d044e : ByteArray := prog_30_method_94_code
def yJ2_checkBoundsOffCount_d044e : MethodName := ⟨RJ2, "checkBoundsOffCount", "(II[B)V"⟩
def RJ10 : String := "java/lang/System"
def TJ10 : u_T := fun k => match k with
  | _ => ("", "", "", false)
def tyJ10 : Nat → FieldType := fun k => match k with
  | _ => .int
abbrev wsJ100 : List Cond := u_ws RJ10 TJ10 0
theorem nmJ10 : ∀ a, a < 0 → ∀ b, b < 0 → a ≠ b → (TJ10 a).2.1 ≠ (TJ10 b).2.1 := by decide +kernel
theorem tyJ10_ok : ∀ k, k < 0 → parseFieldDescriptor (TJ10 k).2.2.1 = some (tyJ10 k) := by decide +kernel
def RJxfd54e : String := "java/lang/constant/Constable"
def TJxfd54e : u_T := fun k => match k with
  | _ => ("", "", "", false)
def tyJxfd54e : Nat → FieldType := fun k => match k with
  | _ => .int
abbrev wsJxfd54e0 : List Cond := u_ws RJxfd54e TJxfd54e 0
theorem nmJxfd54e : ∀ a, a < 0 → ∀ b, b < 0 → a ≠ b → (TJxfd54e a).2.1 ≠ (TJxfd54e b).2.1 := by decide +kernel
theorem tyJxfd54e_ok : ∀ k, k < 0 → parseFieldDescriptor (TJxfd54e k).2.2.1 = some (tyJxfd54e k) := by decide +kernel
def RJx3cf43 : String := "java/lang/constant/ConstantDesc"
def TJx3cf43 : u_T := fun k => match k with
  | _ => ("", "", "", false)
def tyJx3cf43 : Nat → FieldType := fun k => match k with
  | _ => .int
abbrev wsJx3cf430 : List Cond := u_ws RJx3cf43 TJx3cf43 0
theorem nmJx3cf43 : ∀ a, a < 0 → ∀ b, b < 0 → a ≠ b → (TJx3cf43 a).2.1 ≠ (TJx3cf43 b).2.1 := by decide +kernel
theorem tyJx3cf43_ok : ∀ k, k < 0 → parseFieldDescriptor (TJx3cf43 k).2.2.1 = some (tyJx3cf43 k) := by decide +kernel
def RJ7 : String := "java/util/Arrays"
def TJ7 : u_T := fun k => match k with
  | _ => ("", "", "", false)
def tyJ7 : Nat → FieldType := fun k => match k with
  | _ => .int
abbrev wsJ70 : List Cond := u_ws RJ7 TJ7 0
theorem nmJ7 : ∀ a, a < 0 → ∀ b, b < 0 → a ≠ b → (TJ7 a).2.1 ≠ (TJ7 b).2.1 := by decide +kernel
theorem tyJ7_ok : ∀ k, k < 0 → parseFieldDescriptor (TJ7 k).2.2.1 = some (tyJ7 k) := by decide +kernel
abbrev cJ7_fill_53178 : ByteArray := prog_33_method_103_code
def yJ7_fill_53178 : MethodName := ⟨RJ7, "fill", "([II)V"⟩
abbrev cJ7_copyOf_9075b : ByteArray := prog_33_method_121_code
def yJ7_copyOf_9075b : MethodName := ⟨RJ7, "copyOf", "([BI)[B"⟩
abbrev cJ7_checkLength_df160 : ByteArray := prog_33_method_131_code
def yJ7_checkLength_df160 : MethodName := ⟨RJ7, "checkLength", "(II)V"⟩
abbrev cJ7_copyOfRange_39247 : ByteArray := prog_33_method_132_code
def yJ7_copyOfRange_39247 : MethodName := ⟨RJ7, "copyOfRange", "([BII)[B"⟩
abbrev cJ7_copyOfRangeByte_39247 : ByteArray := prog_33_method_133_code
def yJ7_copyOfRangeByte_39247 : MethodName := ⟨RJ7, "copyOfRangeByte", "([BII)[B"⟩
def RJ8 : String := "jdk/internal/util/ArraysSupport"
def TJ8 : u_T := fun k => match k with
  | _ => ("", "", "", false)
def tyJ8 : Nat → FieldType := fun k => match k with
  | _ => .int
abbrev wsJ80 : List Cond := u_ws RJ8 TJ8 0
theorem nmJ8 : ∀ a, a < 0 → ∀ b, b < 0 → a ≠ b → (TJ8 a).2.1 ≠ (TJ8 b).2.1 := by decide +kernel
theorem tyJ8_ok : ∀ k, k < 0 → parseFieldDescriptor (TJ8 k).2.2.1 = some (tyJ8 k) := by decide +kernel
abbrev cJ8_newLength_cabcc : ByteArray := prog_34_method_27_code
def yJ8_newLength_cabcc : MethodName := ⟨RJ8, "newLength", "(III)I"⟩
abbrev cJ8_hugeLength_7cf53 : ByteArray := prog_34_method_28_code
def yJ8_hugeLength_7cf53 : MethodName := ⟨RJ8, "hugeLength", "(II)I"⟩
def RJ3 : String := "jdk/internal/util/Preconditions"
def TJ3 : u_T := fun k => match k with
  | _ => ("", "", "", false)
def tyJ3 : Nat → FieldType := fun k => match k with
  | _ => .int
abbrev wsJ30 : List Cond := u_ws RJ3 TJ3 0
theorem nmJ3 : ∀ a, a < 0 → ∀ b, b < 0 → a ≠ b → (TJ3 a).2.1 ≠ (TJ3 b).2.1 := by decide +kernel
theorem tyJ3_ok : ∀ k, k < 0 → parseFieldDescriptor (TJ3 k).2.2.1 = some (tyJ3 k) := by decide +kernel
abbrev cJ3_checkIndex_8e157 : ByteArray := prog_35_method_11_code
def yJ3_checkIndex_8e157 : MethodName := ⟨RJ3, "checkIndex", "(IILjava/util/function/BiFunction;)I"⟩
abbrev cJ3_checkFromToIndex_8c36e : ByteArray := prog_35_method_12_code
def yJ3_checkFromToIndex_8c36e : MethodName := ⟨RJ3, "checkFromToIndex", "(IIILjava/util/function/BiFunction;)I"⟩
abbrev cJ3_checkFromIndexSize_8c36e : ByteArray := prog_35_method_13_code
def yJ3_checkFromIndexSize_8c36e : MethodName := ⟨RJ3, "checkFromIndexSize", "(IIILjava/util/function/BiFunction;)I"⟩
def RL : String := "RecipeSchedulerLaw"
abbrev cL_pick : ByteArray := method_2_code
def yL_pick : MethodName := ⟨RL, "pick", "([III)I"⟩
abbrev cL_word : ByteArray := method_3_code
def yL_word : MethodName := ⟨RL, "word", "(Ljava/lang/String;I)I"⟩
abbrev cL_say : ByteArray := method_4_code
def yL_say : MethodName := ⟨RL, "say", "(LRecipeScheduler;Ljava/lang/String;)Z"⟩
abbrev cL_setup : ByteArray := method_5_code
def yL_setup : MethodName := ⟨RL, "setup", "([II)Ljava/lang/String;"⟩
abbrev cL_act : ByteArray := method_6_code
def yL_act : MethodName := ⟨RL, "act", "(LRecipeScheduler;I)V"⟩
abbrev cL_law : ByteArray := code
def yL_law : MethodName := ⟨RL, "law", "([I)Z"⟩
def wsX8_init : List Cond := .code yX8_init cX8_init 1 none :: ([.methodLink RX8 3 objectInit, .instanceMethod objectInit, .code objectInit ⟨#[0xb1]⟩ 1 none, .arrayClass .int, .fieldLink RX8 9 "RecipeScheduler$State" "duration" "[I", .fieldLink RX8 15 "RecipeScheduler$State" "remaining" "[I", .fieldLink RX8 18 "RecipeScheduler$State" "age" "[I", .fieldLink RX8 21 "RecipeScheduler$State" "starts" "[I", .fieldLink RX8 24 "RecipeScheduler$State" "completions" "[I", .fieldLink RX8 27 "RecipeScheduler$State" "burns" "[I"] ++ wsX80)
def wsX2_init : List Cond := .code yX2_init cX2_init 2 none :: ([.methodLink RX2 3 objectInit, .instanceMethod objectInit, .code objectInit ⟨#[0xb1]⟩ 1 none, .classLink RX2 9 RX8, .fieldLink RX2 11 "RecipeScheduler$History" "states" "[LRecipeScheduler$State;", .instantiable RX8 15, .initialized RX8, .instanceMethod yX8_init, .code yX8_init cX8_init 1 none, .methodLink RX8 3 objectInit, .arrayClass .int, .fieldLink RX8 9 "RecipeScheduler$State" "duration" "[I", .fieldLink RX8 15 "RecipeScheduler$State" "remaining" "[I", .fieldLink RX8 18 "RecipeScheduler$State" "age" "[I", .fieldLink RX8 21 "RecipeScheduler$State" "starts" "[I", .fieldLink RX8 24 "RecipeScheduler$State" "completions" "[I", .fieldLink RX8 27 "RecipeScheduler$State" "burns" "[I"] ++ wsX20 ++ wsX80)
def wsX8_copyFrom : List Cond := .code yX8_copyFrom cX8_copyFrom 2 none :: ([.fieldLink RX8 36 "RecipeScheduler$State" "cooks" "I", .fieldLink RX8 37 "RecipeScheduler$State" "minute" "I", .fieldLink RX8 40 "RecipeScheduler$State" "salt" "I", .fieldLink RX8 43 "RecipeScheduler$State" "cookMinutes" "I", .fieldLink RX8 46 "RecipeScheduler$State" "stops" "I", .fieldLink RX8 49 "RecipeScheduler$State" "served" "Z", .fieldLink RX8 53 "RecipeScheduler$State" "running" "I", .fieldLink RX8 56 "RecipeScheduler$State" "done" "I", .fieldLink RX8 59 "RecipeScheduler$State" "burnt" "I", .fieldLink RX8 9 "RecipeScheduler$State" "duration" "[I", .methodLink RX8 63 arraycopyName, .native arraycopyName, .static arraycopyName, .initialized "java/lang/System", .fieldLink RX8 15 "RecipeScheduler$State" "remaining" "[I", .fieldLink RX8 18 "RecipeScheduler$State" "age" "[I", .fieldLink RX8 21 "RecipeScheduler$State" "starts" "[I", .fieldLink RX8 24 "RecipeScheduler$State" "completions" "[I", .fieldLink RX8 27 "RecipeScheduler$State" "burns" "[I"] ++ wsX80)
def wsX2_push_r1 : List Cond := [Cond.fieldLink RX2 11 "RecipeScheduler$History" "states" "[LRecipeScheduler$State;", Cond.fieldLink RX2 18 "RecipeScheduler$History" "next" "I", Cond.fieldLink RX2 26 "RecipeScheduler$History" "count" "I", Cond.methodLink RX2 29 Lib.Math.min.name, Cond.static Lib.Math.min.name, Cond.initialized "java/lang/Math", Cond.code Lib.Math.min.name Lib.Math.min.code 2 (some .int), Cond.methodLink RX2 22 yX8_copyFrom, Cond.instanceMethod yX8_copyFrom, Cond.selects RX8 yX8_copyFrom yX8_copyFrom, Cond.initialized RX8, Cond.code yX8_copyFrom cX8_copyFrom 2 none, Cond.fieldLink RX8 36 "RecipeScheduler$State" "cooks" "I", Cond.fieldLink RX8 37 "RecipeScheduler$State" "minute" "I", Cond.fieldLink RX8 40 "RecipeScheduler$State" "salt" "I", Cond.fieldLink RX8 43 "RecipeScheduler$State" "cookMinutes" "I", Cond.fieldLink RX8 46 "RecipeScheduler$State" "stops" "I", Cond.fieldLink RX8 49 "RecipeScheduler$State" "served" "Z", Cond.fieldLink RX8 53 "RecipeScheduler$State" "running" "I", Cond.fieldLink RX8 56 "RecipeScheduler$State" "done" "I", Cond.fieldLink RX8 59 "RecipeScheduler$State" "burnt" "I", Cond.fieldLink RX8 9 "RecipeScheduler$State" "duration" "[I", Cond.methodLink RX8 63 arraycopyName, Cond.native arraycopyName]
def wsX2_push_r2 : List Cond := [Cond.static arraycopyName, Cond.initialized "java/lang/System", Cond.fieldLink RX8 15 "RecipeScheduler$State" "remaining" "[I", Cond.fieldLink RX8 18 "RecipeScheduler$State" "age" "[I", Cond.fieldLink RX8 21 "RecipeScheduler$State" "starts" "[I", Cond.fieldLink RX8 24 "RecipeScheduler$State" "completions" "[I", Cond.fieldLink RX8 27 "RecipeScheduler$State" "burns" "[I"]
def wsX2_push : List Cond := .code yX2_push cX2_push 2 none :: ((wsX2_push_r1 ++ wsX2_push_r2) ++ wsX20 ++ wsX80)
def wsJ7_fill_53178 : List Cond := .code yJ7_fill_53178 cJ7_fill_53178 4 none :: ([])
def wsX8_begin : List Cond := .code yX8_begin cX8_begin 2 none :: ([.fieldLink RX8 36 "RecipeScheduler$State" "cooks" "I", .fieldLink RX8 37 "RecipeScheduler$State" "minute" "I", .fieldLink RX8 40 "RecipeScheduler$State" "salt" "I", .fieldLink RX8 43 "RecipeScheduler$State" "cookMinutes" "I", .fieldLink RX8 46 "RecipeScheduler$State" "stops" "I", .fieldLink RX8 49 "RecipeScheduler$State" "served" "Z", .fieldLink RX8 53 "RecipeScheduler$State" "running" "I", .fieldLink RX8 56 "RecipeScheduler$State" "done" "I", .fieldLink RX8 59 "RecipeScheduler$State" "burnt" "I", .fieldLink RX8 9 "RecipeScheduler$State" "duration" "[I", .methodLink RX8 63 arraycopyName, .native arraycopyName, .static arraycopyName, .initialized "java/lang/System", .fieldLink RX8 15 "RecipeScheduler$State" "remaining" "[I", .fieldLink RX8 18 "RecipeScheduler$State" "age" "[I", .fieldLink RX8 21 "RecipeScheduler$State" "starts" "[I", .fieldLink RX8 24 "RecipeScheduler$State" "completions" "[I", .fieldLink RX8 27 "RecipeScheduler$State" "burns" "[I", .methodLink RX8 69 yJ7_fill_53178, .static yJ7_fill_53178, .initialized RJ7, .code yJ7_fill_53178 cJ7_fill_53178 4 none] ++ wsX50 ++ wsX80)
def wsX3_init_r1 : List Cond := [Cond.methodLink RX3 3 objectInit, Cond.instanceMethod objectInit, Cond.code objectInit ⟨#[0xb1]⟩ 1 none, Cond.classLink RX3 9 RX8, Cond.instantiable RX8 15, Cond.initialized RX8, Cond.fieldLink RX3 12 "RecipeScheduler$Kitchen" "state" "LRecipeScheduler$State;", Cond.arrayClass .int, Cond.fieldLink RX3 18 "RecipeScheduler$Kitchen" "path" "[I", Cond.fieldLink RX3 22 "RecipeScheduler$Kitchen" "order" "[I", Cond.fieldLink RX3 25 "RecipeScheduler$Kitchen" "head" "[I", Cond.fieldLink RX3 28 "RecipeScheduler$Kitchen" "recipe" "LRecipeScheduler$Recipe;", Cond.instanceMethod yX8_init, Cond.code yX8_init cX8_init 1 none, Cond.methodLink RX8 3 objectInit, Cond.fieldLink RX8 9 "RecipeScheduler$State" "duration" "[I", Cond.fieldLink RX8 15 "RecipeScheduler$State" "remaining" "[I", Cond.fieldLink RX8 18 "RecipeScheduler$State" "age" "[I", Cond.fieldLink RX8 21 "RecipeScheduler$State" "starts" "[I", Cond.fieldLink RX8 24 "RecipeScheduler$State" "completions" "[I", Cond.fieldLink RX8 27 "RecipeScheduler$State" "burns" "[I", Cond.methodLink RX3 32 yX8_begin, Cond.instanceMethod yX8_begin, Cond.selects RX8 yX8_begin yX8_begin]
def wsX3_init_r2 : List Cond := [Cond.code yX8_begin cX8_begin 2 none, Cond.fieldLink RX8 36 "RecipeScheduler$State" "cooks" "I", Cond.fieldLink RX8 37 "RecipeScheduler$State" "minute" "I", Cond.fieldLink RX8 40 "RecipeScheduler$State" "salt" "I", Cond.fieldLink RX8 43 "RecipeScheduler$State" "cookMinutes" "I", Cond.fieldLink RX8 46 "RecipeScheduler$State" "stops" "I", Cond.fieldLink RX8 49 "RecipeScheduler$State" "served" "Z", Cond.fieldLink RX8 53 "RecipeScheduler$State" "running" "I", Cond.fieldLink RX8 56 "RecipeScheduler$State" "done" "I", Cond.fieldLink RX8 59 "RecipeScheduler$State" "burnt" "I", Cond.methodLink RX8 63 arraycopyName, Cond.native arraycopyName, Cond.static arraycopyName, Cond.initialized "java/lang/System", Cond.methodLink RX8 69 yJ7_fill_53178, Cond.static yJ7_fill_53178, Cond.initialized RJ7, Cond.code yJ7_fill_53178 cJ7_fill_53178 4 none]
def wsX3_init : List Cond := .code yX3_init cX3_init 2 none :: ((wsX3_init_r1 ++ wsX3_init_r2) ++ wsX80 ++ wsX30 ++ wsX50)
def wsX3_open_r1 : List Cond := [Cond.fieldLink RX3 28 "RecipeScheduler$Kitchen" "recipe" "LRecipeScheduler$Recipe;", Cond.fieldLink RX3 12 "RecipeScheduler$Kitchen" "state" "LRecipeScheduler$State;", Cond.methodLink RX3 32 yX8_begin, Cond.instanceMethod yX8_begin, Cond.selects RX8 yX8_begin yX8_begin, Cond.initialized RX8, Cond.code yX8_begin cX8_begin 2 none, Cond.fieldLink RX8 36 "RecipeScheduler$State" "cooks" "I", Cond.fieldLink RX8 37 "RecipeScheduler$State" "minute" "I", Cond.fieldLink RX8 40 "RecipeScheduler$State" "salt" "I", Cond.fieldLink RX8 43 "RecipeScheduler$State" "cookMinutes" "I", Cond.fieldLink RX8 46 "RecipeScheduler$State" "stops" "I", Cond.fieldLink RX8 49 "RecipeScheduler$State" "served" "Z", Cond.fieldLink RX8 53 "RecipeScheduler$State" "running" "I", Cond.fieldLink RX8 56 "RecipeScheduler$State" "done" "I", Cond.fieldLink RX8 59 "RecipeScheduler$State" "burnt" "I", Cond.fieldLink RX8 9 "RecipeScheduler$State" "duration" "[I", Cond.methodLink RX8 63 arraycopyName, Cond.native arraycopyName, Cond.static arraycopyName, Cond.initialized "java/lang/System", Cond.fieldLink RX8 15 "RecipeScheduler$State" "remaining" "[I", Cond.fieldLink RX8 18 "RecipeScheduler$State" "age" "[I", Cond.fieldLink RX8 21 "RecipeScheduler$State" "starts" "[I"]
def wsX3_open_r2 : List Cond := [Cond.fieldLink RX8 24 "RecipeScheduler$State" "completions" "[I", Cond.fieldLink RX8 27 "RecipeScheduler$State" "burns" "[I", Cond.methodLink RX8 69 yJ7_fill_53178, Cond.static yJ7_fill_53178, Cond.initialized RJ7, Cond.code yJ7_fill_53178 cJ7_fill_53178 4 none]
def wsX3_open : List Cond := .code yX3_open cX3_open 2 none :: ((wsX3_open_r1 ++ wsX3_open_r2) ++ wsX30 ++ wsX50 ++ wsX80)
def wsX11_contains : List Cond := .code yX11_contains cX11_contains 2 (some .boolean) :: ([])
def wsX3_longestOf : List Cond := .code yX3_longestOf cX3_longestOf 4 (some .int) :: ([.fieldLink RX3 28 "RecipeScheduler$Kitchen" "recipe" "LRecipeScheduler$Recipe;", .fieldLink RX3 18 "RecipeScheduler$Kitchen" "path" "[I", .static yX11_contains, .initialized RX11, .code yX11_contains cX11_contains 2 (some .boolean)] ++ wsX30 ++ wsX50 ++ wsX40)
def wsX3_rank : List Cond := .code yX3_rank cX3_rank 3 none :: ([.fieldLink RX3 28 "RecipeScheduler$Kitchen" "recipe" "LRecipeScheduler$Recipe;", .fieldLink RX3 18 "RecipeScheduler$Kitchen" "path" "[I", .fieldLink RX3 12 "RecipeScheduler$Kitchen" "state" "LRecipeScheduler$State;", .fieldLink RX3 22 "RecipeScheduler$Kitchen" "order" "[I", .methodLink RX3 159 yX3_longestOf, .instanceMethod yX3_longestOf, .selects RX3 yX3_longestOf yX3_longestOf, .initialized RX3, .code yX3_longestOf cX3_longestOf 4 (some .int), .static yX11_contains, .initialized RX11, .code yX11_contains cX11_contains 2 (some .boolean)] ++ wsX30 ++ wsX50 ++ wsX40 ++ wsX80)
def wsJ6_bitCount_0f7a4 : List Cond := .code yJ6_bitCount_0f7a4 cJ6_bitCount_0f7a4 1 (some .int) :: ([.constant RJ6 265 (1431655765), .constant RJ6 266 (858993459), .constant RJ6 267 (252645135)])
def wsX8_complete : List Cond := .code yX8_complete cX8_complete 2 none :: ([.fieldLink RX8 53 "RecipeScheduler$State" "running" "I", .fieldLink RX8 56 "RecipeScheduler$State" "done" "I", .fieldLink RX8 24 "RecipeScheduler$State" "completions" "[I"] ++ wsX80)
def wsX3_work : List Cond := .code yX3_work cX3_work 4 (some .int) :: ([.fieldLink RX3 12 "RecipeScheduler$Kitchen" "state" "LRecipeScheduler$State;", .fieldLink RX3 28 "RecipeScheduler$Kitchen" "recipe" "LRecipeScheduler$Recipe;", .methodLink RX3 76 yJ6_bitCount_0f7a4, .static yJ6_bitCount_0f7a4, .initialized RJ6, .code yJ6_bitCount_0f7a4 cJ6_bitCount_0f7a4 1 (some .int), .constant RJ6 265 (1431655765), .constant RJ6 266 (858993459), .constant RJ6 267 (252645135), .static yX11_contains, .initialized RX11, .code yX11_contains cX11_contains 2 (some .boolean), .methodLink RX3 107 yX8_complete, .instanceMethod yX8_complete, .selects RX8 yX8_complete yX8_complete, .initialized RX8, .code yX8_complete cX8_complete 2 none, .fieldLink RX8 53 "RecipeScheduler$State" "running" "I", .fieldLink RX8 56 "RecipeScheduler$State" "done" "I", .fieldLink RX8 24 "RecipeScheduler$State" "completions" "[I"] ++ wsX30 ++ wsX80 ++ wsX50 ++ wsX40)
def wsX3_isContinued : List Cond := .code yX3_isContinued cX3_isContinued 2 (some .boolean) :: ([.fieldLink RX3 28 "RecipeScheduler$Kitchen" "recipe" "LRecipeScheduler$Recipe;", .fieldLink RX3 12 "RecipeScheduler$Kitchen" "state" "LRecipeScheduler$State;"] ++ wsX30 ++ wsX50 ++ wsX80)
def wsX8_burn : List Cond := .code yX8_burn cX8_burn 2 none :: ([.fieldLink RX8 56 "RecipeScheduler$State" "done" "I", .fieldLink RX8 59 "RecipeScheduler$State" "burnt" "I", .fieldLink RX8 18 "RecipeScheduler$State" "age" "[I", .fieldLink RX8 27 "RecipeScheduler$State" "burns" "[I"] ++ wsX80)
def wsX3_growOld : List Cond := .code yX3_growOld cX3_growOld 4 none :: ([.fieldLink RX3 12 "RecipeScheduler$Kitchen" "state" "LRecipeScheduler$State;", .fieldLink RX3 28 "RecipeScheduler$Kitchen" "recipe" "LRecipeScheduler$Recipe;", .static yX11_contains, .initialized RX11, .code yX11_contains cX11_contains 2 (some .boolean), .methodLink RX3 113 yX3_isContinued, .instanceMethod yX3_isContinued, .selects RX3 yX3_isContinued yX3_isContinued, .initialized RX3, .code yX3_isContinued cX3_isContinued 2 (some .boolean), .methodLink RX3 123 yX8_burn, .instanceMethod yX8_burn, .selects RX8 yX8_burn yX8_burn, .initialized RX8, .code yX8_burn cX8_burn 2 none, .fieldLink RX8 56 "RecipeScheduler$State" "done" "I", .fieldLink RX8 59 "RecipeScheduler$State" "burnt" "I", .fieldLink RX8 18 "RecipeScheduler$State" "age" "[I", .fieldLink RX8 27 "RecipeScheduler$State" "burns" "[I"] ++ wsX30 ++ wsX80 ++ wsX50 ++ wsX40)
def wsX5_allSteps : List Cond := .code yX5_allSteps cX5_allSteps 1 (some .int) :: ([.fieldLink RX5 27 "RecipeScheduler$Recipe" "steps" "LRecipeScheduler$Names;"] ++ wsX50 ++ wsX40)
def wsX3_readySteps : List Cond := .code yX3_readySteps cX3_readySteps 4 (some .int) :: ([.fieldLink RX3 28 "RecipeScheduler$Kitchen" "recipe" "LRecipeScheduler$Recipe;", .fieldLink RX3 12 "RecipeScheduler$Kitchen" "state" "LRecipeScheduler$State;", .methodLink RX3 51 yX5_allSteps, .instanceMethod yX5_allSteps, .selects RX5 yX5_allSteps yX5_allSteps, .initialized RX5, .code yX5_allSteps cX5_allSteps 1 (some .int), .fieldLink RX5 27 "RecipeScheduler$Recipe" "steps" "LRecipeScheduler$Names;", .static yX11_contains, .initialized RX11, .code yX11_contains cX11_contains 2 (some .boolean)] ++ wsX30 ++ wsX80 ++ wsX50 ++ wsX40)
def wsX3_hasFreeCook : List Cond := .code yX3_hasFreeCook cX3_hasFreeCook 2 (some .boolean) :: ([.fieldLink RX3 28 "RecipeScheduler$Kitchen" "recipe" "LRecipeScheduler$Recipe;", .fieldLink RX3 12 "RecipeScheduler$Kitchen" "state" "LRecipeScheduler$State;", .static yX11_contains, .initialized RX11, .code yX11_contains cX11_contains 2 (some .boolean), .methodLink RX3 76 yJ6_bitCount_0f7a4, .static yJ6_bitCount_0f7a4, .initialized RJ6, .code yJ6_bitCount_0f7a4 cJ6_bitCount_0f7a4 1 (some .int), .constant RJ6 265 (1431655765), .constant RJ6 266 (858993459), .constant RJ6 267 (252645135)] ++ wsX30 ++ wsX50 ++ wsX80)
def wsX3_occupants : List Cond := .code yX3_occupants cX3_occupants 7 (some .int) :: ([.fieldLink RX3 28 "RecipeScheduler$Kitchen" "recipe" "LRecipeScheduler$Recipe;", .fieldLink RX3 12 "RecipeScheduler$Kitchen" "state" "LRecipeScheduler$State;"] ++ wsX30 ++ wsX50 ++ wsX80 ++ wsX40)
def wsX3_hasFreePan : List Cond := .code yX3_hasFreePan cX3_hasFreePan 3 (some .boolean) :: ([.fieldLink RX3 28 "RecipeScheduler$Kitchen" "recipe" "LRecipeScheduler$Recipe;", .methodLink RX3 150 yX3_occupants, .instanceMethod yX3_occupants, .selects RX3 yX3_occupants yX3_occupants, .initialized RX3, .code yX3_occupants cX3_occupants 7 (some .int), .fieldLink RX3 12 "RecipeScheduler$Kitchen" "state" "LRecipeScheduler$State;", .methodLink RX3 76 yJ6_bitCount_0f7a4, .static yJ6_bitCount_0f7a4, .initialized RJ6, .code yJ6_bitCount_0f7a4 cJ6_bitCount_0f7a4 1 (some .int), .constant RJ6 265 (1431655765), .constant RJ6 266 (858993459), .constant RJ6 267 (252645135)] ++ wsX30 ++ wsX50 ++ wsX80 ++ wsX40)
def wsX8_start : List Cond := .code yX8_start cX8_start 2 none :: ([.fieldLink RX8 59 "RecipeScheduler$State" "burnt" "I", .fieldLink RX8 53 "RecipeScheduler$State" "running" "I", .fieldLink RX8 15 "RecipeScheduler$State" "remaining" "[I", .fieldLink RX8 9 "RecipeScheduler$State" "duration" "[I", .fieldLink RX8 21 "RecipeScheduler$State" "starts" "[I"] ++ wsX80)
def wsX3_startSteps_r1 : List Cond := [Cond.fieldLink RX3 28 "RecipeScheduler$Kitchen" "recipe" "LRecipeScheduler$Recipe;", Cond.fieldLink RX3 22 "RecipeScheduler$Kitchen" "order" "[I", Cond.fieldLink RX3 12 "RecipeScheduler$Kitchen" "state" "LRecipeScheduler$State;", Cond.methodLink RX3 126 yX3_readySteps, Cond.instanceMethod yX3_readySteps, Cond.selects RX3 yX3_readySteps yX3_readySteps, Cond.initialized RX3, Cond.code yX3_readySteps cX3_readySteps 4 (some .int), Cond.methodLink RX3 51 yX5_allSteps, Cond.instanceMethod yX5_allSteps, Cond.selects RX5 yX5_allSteps yX5_allSteps, Cond.initialized RX5, Cond.code yX5_allSteps cX5_allSteps 1 (some .int), Cond.fieldLink RX5 27 "RecipeScheduler$Recipe" "steps" "LRecipeScheduler$Names;", Cond.static yX11_contains, Cond.initialized RX11, Cond.code yX11_contains cX11_contains 2 (some .boolean), Cond.methodLink RX3 129 yX3_hasFreeCook, Cond.instanceMethod yX3_hasFreeCook, Cond.selects RX3 yX3_hasFreeCook yX3_hasFreeCook, Cond.code yX3_hasFreeCook cX3_hasFreeCook 2 (some .boolean), Cond.methodLink RX3 76 yJ6_bitCount_0f7a4, Cond.static yJ6_bitCount_0f7a4, Cond.initialized RJ6]
def wsX3_startSteps_r2 : List Cond := [Cond.code yJ6_bitCount_0f7a4 cJ6_bitCount_0f7a4 1 (some .int), Cond.constant RJ6 265 (1431655765), Cond.constant RJ6 266 (858993459), Cond.constant RJ6 267 (252645135), Cond.methodLink RX3 132 yX3_hasFreePan, Cond.instanceMethod yX3_hasFreePan, Cond.selects RX3 yX3_hasFreePan yX3_hasFreePan, Cond.code yX3_hasFreePan cX3_hasFreePan 3 (some .boolean), Cond.methodLink RX3 150 yX3_occupants, Cond.instanceMethod yX3_occupants, Cond.selects RX3 yX3_occupants yX3_occupants, Cond.code yX3_occupants cX3_occupants 7 (some .int), Cond.methodLink RX3 135 yX8_start, Cond.instanceMethod yX8_start, Cond.selects RX8 yX8_start yX8_start, Cond.initialized RX8, Cond.code yX8_start cX8_start 2 none, Cond.fieldLink RX8 59 "RecipeScheduler$State" "burnt" "I", Cond.fieldLink RX8 53 "RecipeScheduler$State" "running" "I", Cond.fieldLink RX8 15 "RecipeScheduler$State" "remaining" "[I", Cond.fieldLink RX8 9 "RecipeScheduler$State" "duration" "[I", Cond.fieldLink RX8 21 "RecipeScheduler$State" "starts" "[I"]
def wsX3_startSteps : List Cond := .code yX3_startSteps cX3_startSteps 4 none :: ((wsX3_startSteps_r1 ++ wsX3_startSteps_r2) ++ wsX30 ++ wsX50 ++ wsX40 ++ wsX80)
def wsX3_runMinute_r1 : List Cond := [Cond.fieldLink RX3 12 "RecipeScheduler$Kitchen" "state" "LRecipeScheduler$State;", Cond.methodLink RX3 63 yX3_work, Cond.instanceMethod yX3_work, Cond.selects RX3 yX3_work yX3_work, Cond.initialized RX3, Cond.code yX3_work cX3_work 4 (some .int), Cond.fieldLink RX3 28 "RecipeScheduler$Kitchen" "recipe" "LRecipeScheduler$Recipe;", Cond.methodLink RX3 76 yJ6_bitCount_0f7a4, Cond.static yJ6_bitCount_0f7a4, Cond.initialized RJ6, Cond.code yJ6_bitCount_0f7a4 cJ6_bitCount_0f7a4 1 (some .int), Cond.constant RJ6 265 (1431655765), Cond.constant RJ6 266 (858993459), Cond.constant RJ6 267 (252645135), Cond.static yX11_contains, Cond.initialized RX11, Cond.code yX11_contains cX11_contains 2 (some .boolean), Cond.methodLink RX3 107 yX8_complete, Cond.instanceMethod yX8_complete, Cond.selects RX8 yX8_complete yX8_complete, Cond.initialized RX8, Cond.code yX8_complete cX8_complete 2 none, Cond.fieldLink RX8 53 "RecipeScheduler$State" "running" "I", Cond.fieldLink RX8 56 "RecipeScheduler$State" "done" "I"]
def wsX3_runMinute_r2 : List Cond := [Cond.fieldLink RX8 24 "RecipeScheduler$State" "completions" "[I", Cond.methodLink RX3 66 yX3_growOld, Cond.instanceMethod yX3_growOld, Cond.selects RX3 yX3_growOld yX3_growOld, Cond.code yX3_growOld cX3_growOld 4 none, Cond.methodLink RX3 113 yX3_isContinued, Cond.instanceMethod yX3_isContinued, Cond.selects RX3 yX3_isContinued yX3_isContinued, Cond.code yX3_isContinued cX3_isContinued 2 (some .boolean), Cond.methodLink RX3 123 yX8_burn, Cond.instanceMethod yX8_burn, Cond.selects RX8 yX8_burn yX8_burn, Cond.code yX8_burn cX8_burn 2 none, Cond.fieldLink RX8 59 "RecipeScheduler$State" "burnt" "I", Cond.fieldLink RX8 18 "RecipeScheduler$State" "age" "[I", Cond.fieldLink RX8 27 "RecipeScheduler$State" "burns" "[I", Cond.methodLink RX3 70 yX3_startSteps, Cond.instanceMethod yX3_startSteps, Cond.selects RX3 yX3_startSteps yX3_startSteps, Cond.code yX3_startSteps cX3_startSteps 4 none, Cond.fieldLink RX3 22 "RecipeScheduler$Kitchen" "order" "[I", Cond.methodLink RX3 126 yX3_readySteps, Cond.instanceMethod yX3_readySteps, Cond.selects RX3 yX3_readySteps yX3_readySteps]
def wsX3_runMinute_r3 : List Cond := [Cond.code yX3_readySteps cX3_readySteps 4 (some .int), Cond.methodLink RX3 51 yX5_allSteps, Cond.instanceMethod yX5_allSteps, Cond.selects RX5 yX5_allSteps yX5_allSteps, Cond.initialized RX5, Cond.code yX5_allSteps cX5_allSteps 1 (some .int), Cond.fieldLink RX5 27 "RecipeScheduler$Recipe" "steps" "LRecipeScheduler$Names;", Cond.methodLink RX3 129 yX3_hasFreeCook, Cond.instanceMethod yX3_hasFreeCook, Cond.selects RX3 yX3_hasFreeCook yX3_hasFreeCook, Cond.code yX3_hasFreeCook cX3_hasFreeCook 2 (some .boolean), Cond.methodLink RX3 132 yX3_hasFreePan, Cond.instanceMethod yX3_hasFreePan, Cond.selects RX3 yX3_hasFreePan yX3_hasFreePan, Cond.code yX3_hasFreePan cX3_hasFreePan 3 (some .boolean), Cond.methodLink RX3 150 yX3_occupants, Cond.instanceMethod yX3_occupants, Cond.selects RX3 yX3_occupants yX3_occupants, Cond.code yX3_occupants cX3_occupants 7 (some .int), Cond.methodLink RX3 135 yX8_start, Cond.instanceMethod yX8_start, Cond.selects RX8 yX8_start yX8_start, Cond.code yX8_start cX8_start 2 none, Cond.fieldLink RX8 15 "RecipeScheduler$State" "remaining" "[I"]
def wsX3_runMinute_r4 : List Cond := [Cond.fieldLink RX8 9 "RecipeScheduler$State" "duration" "[I", Cond.fieldLink RX8 21 "RecipeScheduler$State" "starts" "[I"]
def wsX3_runMinute : List Cond := .code yX3_runMinute cX3_runMinute 2 (some .int) :: ((wsX3_runMinute_r1 ++ (wsX3_runMinute_r2 ++ (wsX3_runMinute_r3 ++ wsX3_runMinute_r4))) ++ wsX30 ++ wsX80 ++ wsX50 ++ wsX40)
def wsX3_runMinutes_r1 : List Cond := [Cond.methodLink RX3 40 yX3_rank, Cond.instanceMethod yX3_rank, Cond.selects RX3 yX3_rank yX3_rank, Cond.initialized RX3, Cond.code yX3_rank cX3_rank 3 none, Cond.fieldLink RX3 28 "RecipeScheduler$Kitchen" "recipe" "LRecipeScheduler$Recipe;", Cond.fieldLink RX3 18 "RecipeScheduler$Kitchen" "path" "[I", Cond.fieldLink RX3 12 "RecipeScheduler$Kitchen" "state" "LRecipeScheduler$State;", Cond.fieldLink RX3 22 "RecipeScheduler$Kitchen" "order" "[I", Cond.methodLink RX3 159 yX3_longestOf, Cond.instanceMethod yX3_longestOf, Cond.selects RX3 yX3_longestOf yX3_longestOf, Cond.code yX3_longestOf cX3_longestOf 4 (some .int), Cond.static yX11_contains, Cond.initialized RX11, Cond.code yX11_contains cX11_contains 2 (some .boolean), Cond.methodLink RX3 43 yX3_runMinute, Cond.instanceMethod yX3_runMinute, Cond.selects RX3 yX3_runMinute yX3_runMinute, Cond.code yX3_runMinute cX3_runMinute 2 (some .int), Cond.methodLink RX3 63 yX3_work, Cond.instanceMethod yX3_work, Cond.selects RX3 yX3_work yX3_work, Cond.code yX3_work cX3_work 4 (some .int)]
def wsX3_runMinutes_r2 : List Cond := [Cond.methodLink RX3 76 yJ6_bitCount_0f7a4, Cond.static yJ6_bitCount_0f7a4, Cond.initialized RJ6, Cond.code yJ6_bitCount_0f7a4 cJ6_bitCount_0f7a4 1 (some .int), Cond.constant RJ6 265 (1431655765), Cond.constant RJ6 266 (858993459), Cond.constant RJ6 267 (252645135), Cond.methodLink RX3 107 yX8_complete, Cond.instanceMethod yX8_complete, Cond.selects RX8 yX8_complete yX8_complete, Cond.initialized RX8, Cond.code yX8_complete cX8_complete 2 none, Cond.fieldLink RX8 53 "RecipeScheduler$State" "running" "I", Cond.fieldLink RX8 56 "RecipeScheduler$State" "done" "I", Cond.fieldLink RX8 24 "RecipeScheduler$State" "completions" "[I", Cond.methodLink RX3 66 yX3_growOld, Cond.instanceMethod yX3_growOld, Cond.selects RX3 yX3_growOld yX3_growOld, Cond.code yX3_growOld cX3_growOld 4 none, Cond.methodLink RX3 113 yX3_isContinued, Cond.instanceMethod yX3_isContinued, Cond.selects RX3 yX3_isContinued yX3_isContinued, Cond.code yX3_isContinued cX3_isContinued 2 (some .boolean), Cond.methodLink RX3 123 yX8_burn]
def wsX3_runMinutes_r3 : List Cond := [Cond.instanceMethod yX8_burn, Cond.selects RX8 yX8_burn yX8_burn, Cond.code yX8_burn cX8_burn 2 none, Cond.fieldLink RX8 59 "RecipeScheduler$State" "burnt" "I", Cond.fieldLink RX8 18 "RecipeScheduler$State" "age" "[I", Cond.fieldLink RX8 27 "RecipeScheduler$State" "burns" "[I", Cond.methodLink RX3 70 yX3_startSteps, Cond.instanceMethod yX3_startSteps, Cond.selects RX3 yX3_startSteps yX3_startSteps, Cond.code yX3_startSteps cX3_startSteps 4 none, Cond.methodLink RX3 126 yX3_readySteps, Cond.instanceMethod yX3_readySteps, Cond.selects RX3 yX3_readySteps yX3_readySteps, Cond.code yX3_readySteps cX3_readySteps 4 (some .int), Cond.methodLink RX3 51 yX5_allSteps, Cond.instanceMethod yX5_allSteps, Cond.selects RX5 yX5_allSteps yX5_allSteps, Cond.initialized RX5, Cond.code yX5_allSteps cX5_allSteps 1 (some .int), Cond.fieldLink RX5 27 "RecipeScheduler$Recipe" "steps" "LRecipeScheduler$Names;", Cond.methodLink RX3 129 yX3_hasFreeCook, Cond.instanceMethod yX3_hasFreeCook, Cond.selects RX3 yX3_hasFreeCook yX3_hasFreeCook, Cond.code yX3_hasFreeCook cX3_hasFreeCook 2 (some .boolean)]
def wsX3_runMinutes_r4 : List Cond := [Cond.methodLink RX3 132 yX3_hasFreePan, Cond.instanceMethod yX3_hasFreePan, Cond.selects RX3 yX3_hasFreePan yX3_hasFreePan, Cond.code yX3_hasFreePan cX3_hasFreePan 3 (some .boolean), Cond.methodLink RX3 150 yX3_occupants, Cond.instanceMethod yX3_occupants, Cond.selects RX3 yX3_occupants yX3_occupants, Cond.code yX3_occupants cX3_occupants 7 (some .int), Cond.methodLink RX3 135 yX8_start, Cond.instanceMethod yX8_start, Cond.selects RX8 yX8_start yX8_start, Cond.code yX8_start cX8_start 2 none, Cond.fieldLink RX8 15 "RecipeScheduler$State" "remaining" "[I", Cond.fieldLink RX8 9 "RecipeScheduler$State" "duration" "[I", Cond.fieldLink RX8 21 "RecipeScheduler$State" "starts" "[I"]
def wsX3_runMinutes : List Cond := .code yX3_runMinutes cX3_runMinutes 4 (some .int) :: ((wsX3_runMinutes_r1 ++ (wsX3_runMinutes_r2 ++ (wsX3_runMinutes_r3 ++ wsX3_runMinutes_r4))) ++ wsX30 ++ wsX50 ++ wsX40 ++ wsX80)
def wsX3_isRedoable : List Cond := .code yX3_isRedoable cX3_isRedoable 2 (some .boolean) :: ([.fieldLink RX3 12 "RecipeScheduler$Kitchen" "state" "LRecipeScheduler$State;", .static yX11_contains, .initialized RX11, .code yX11_contains cX11_contains 2 (some .boolean), .methodLink RX3 113 yX3_isContinued, .instanceMethod yX3_isContinued, .selects RX3 yX3_isContinued yX3_isContinued, .initialized RX3, .code yX3_isContinued cX3_isContinued 2 (some .boolean), .fieldLink RX3 28 "RecipeScheduler$Kitchen" "recipe" "LRecipeScheduler$Recipe;"] ++ wsX30 ++ wsX80 ++ wsX50)
def wsX3_dishTaste : List Cond := .code yX3_dishTaste cX3_dishTaste 3 (some .int) :: ([.fieldLink RX3 12 "RecipeScheduler$Kitchen" "state" "LRecipeScheduler$State;", .fieldLink RX3 28 "RecipeScheduler$Kitchen" "recipe" "LRecipeScheduler$Recipe;", .static yX11_contains, .initialized RX11, .code yX11_contains cX11_contains 2 (some .boolean)] ++ wsX30 ++ wsX80 ++ wsX50 ++ wsX40)
def wsX3_servingObstacle : List Cond := .code yX3_servingObstacle cX3_servingObstacle 1 (some .int) :: ([.fieldLink RX3 12 "RecipeScheduler$Kitchen" "state" "LRecipeScheduler$State;", .fieldLink RX3 28 "RecipeScheduler$Kitchen" "recipe" "LRecipeScheduler$Recipe;", .methodLink RX3 51 yX5_allSteps, .instanceMethod yX5_allSteps, .selects RX5 yX5_allSteps yX5_allSteps, .initialized RX5, .code yX5_allSteps cX5_allSteps 1 (some .int), .fieldLink RX5 27 "RecipeScheduler$Recipe" "steps" "LRecipeScheduler$Names;", .methodLink RX3 200 yX3_dishTaste, .instanceMethod yX3_dishTaste, .selects RX3 yX3_dishTaste yX3_dishTaste, .initialized RX3, .code yX3_dishTaste cX3_dishTaste 3 (some .int), .static yX11_contains, .initialized RX11, .code yX11_contains cX11_contains 2 (some .boolean)] ++ wsX30 ++ wsX80 ++ wsX50 ++ wsX40)
def wsX3_prematureSteps : List Cond := .code yX3_prematureSteps cX3_prematureSteps 4 (some .int) :: ([.fieldLink RX3 28 "RecipeScheduler$Kitchen" "recipe" "LRecipeScheduler$Recipe;", .fieldLink RX3 12 "RecipeScheduler$Kitchen" "state" "LRecipeScheduler$State;", .static yX11_contains, .initialized RX11, .code yX11_contains cX11_contains 2 (some .boolean)] ++ wsX30 ++ wsX50 ++ wsX40 ++ wsX80)
def wsX4_init : List Cond := .code yX4_init cX4_init 2 none :: ([.methodLink RX4 3 objectInit, .instanceMethod objectInit, .code objectInit ⟨#[0xb1]⟩ 1 none, .classLink RX4 9 "[[B", .arrayClass .byte, .fieldLink RX4 11 "RecipeScheduler$Names" "letters" "[[B", .arrayClass .int, .fieldLink RX4 16 "RecipeScheduler$Names" "lengths" "[I"] ++ wsX40)
def wsX4_isFull : List Cond := .code yX4_isFull cX4_isFull 1 (some .boolean) :: ([.fieldLink RX4 20 "RecipeScheduler$Names" "count" "I", .fieldLink RX4 16 "RecipeScheduler$Names" "lengths" "[I"] ++ wsX40)
def wsX4_matches : List Cond := .code yX4_matches cX4_matches 5 (some .boolean) :: ([.fieldLink RX4 16 "RecipeScheduler$Names" "lengths" "[I", .fieldLink RX4 11 "RecipeScheduler$Names" "letters" "[[B"] ++ wsX40 ++ wsX90)
def wsX4_indexOf : List Cond := .code yX4_indexOf cX4_indexOf 5 (some .int) :: ([.fieldLink RX4 20 "RecipeScheduler$Names" "count" "I", .fieldLink RX4 16 "RecipeScheduler$Names" "lengths" "[I", .methodLink RX4 24 yX4_matches, .instanceMethod yX4_matches, .selects RX4 yX4_matches yX4_matches, .initialized RX4, .code yX4_matches cX4_matches 5 (some .boolean), .fieldLink RX4 11 "RecipeScheduler$Names" "letters" "[[B"] ++ wsX40 ++ wsX90)
def wsX4_prepare : List Cond := .code yX4_prepare cX4_prepare 5 none :: ([.fieldLink RX4 16 "RecipeScheduler$Names" "lengths" "[I", .fieldLink RX4 20 "RecipeScheduler$Names" "count" "I", .fieldLink RX4 11 "RecipeScheduler$Names" "letters" "[[B", .methodLink RX4 34 yX4_isFull, .instanceMethod yX4_isFull, .selects RX4 yX4_isFull yX4_isFull, .initialized RX4, .code yX4_isFull cX4_isFull 1 (some .boolean)] ++ wsX40 ++ wsX90)
def wsX5_init_r1 : List Cond := [Cond.methodLink RX5 3 objectInit, Cond.instanceMethod objectInit, Cond.code objectInit ⟨#[0xb1]⟩ 1 none, Cond.classLink RX5 9 RX4, Cond.instantiable RX4 3, Cond.initialized RX4, Cond.fieldLink RX5 14 "RecipeScheduler$Recipe" "pans" "LRecipeScheduler$Names;", Cond.arrayClass .int, Cond.fieldLink RX5 20 "RecipeScheduler$Recipe" "capacity" "[I", Cond.fieldLink RX5 24 "RecipeScheduler$Recipe" "panUsers" "[I", Cond.fieldLink RX5 27 "RecipeScheduler$Recipe" "steps" "LRecipeScheduler$Names;", Cond.fieldLink RX5 30 "RecipeScheduler$Recipe" "duration" "[I", Cond.fieldLink RX5 33 "RecipeScheduler$Recipe" "taste" "[I", Cond.fieldLink RX5 36 "RecipeScheduler$Recipe" "pan" "[I", Cond.classLink RX5 39 "[[I", Cond.fieldLink RX5 41 "RecipeScheduler$Recipe" "predecessors" "[[I", Cond.fieldLink RX5 44 "RecipeScheduler$Recipe" "predecessorCount" "[I", Cond.fieldLink RX5 47 "RecipeScheduler$Recipe" "predecessorSet" "[I", Cond.fieldLink RX5 50 "RecipeScheduler$Recipe" "successorSet" "[I", Cond.methodLink RX5 11 yX4_init, Cond.instanceMethod yX4_init, Cond.code yX4_init cX4_init 2 none, Cond.methodLink RX4 3 objectInit, Cond.classLink RX4 9 "[[B"]
def wsX5_init_r2 : List Cond := [Cond.arrayClass .byte, Cond.fieldLink RX4 11 "RecipeScheduler$Names" "letters" "[[B", Cond.fieldLink RX4 16 "RecipeScheduler$Names" "lengths" "[I"]
def wsX5_init : List Cond := .code yX5_init cX5_init 1 none :: ((wsX5_init_r1 ++ wsX5_init_r2) ++ wsX40 ++ wsX50)
def wsX5_clear : List Cond := .code yX5_clear cX5_clear 1 none :: ([.fieldLink RX5 14 "RecipeScheduler$Recipe" "pans" "LRecipeScheduler$Names;", .fieldLink RX5 27 "RecipeScheduler$Recipe" "steps" "LRecipeScheduler$Names;", .fieldLink RX5 57 "RecipeScheduler$Recipe" "hot" "I", .fieldLink RX5 60 "RecipeScheduler$Recipe" "alone" "I", .fieldLink RX5 24 "RecipeScheduler$Recipe" "panUsers" "[I", .fieldLink RX5 44 "RecipeScheduler$Recipe" "predecessorCount" "[I", .fieldLink RX5 47 "RecipeScheduler$Recipe" "predecessorSet" "[I", .fieldLink RX5 50 "RecipeScheduler$Recipe" "successorSet" "[I", .methodLink RX5 63 yJ7_fill_53178, .static yJ7_fill_53178, .initialized RJ7, .code yJ7_fill_53178 cJ7_fill_53178 4 none] ++ wsX50 ++ wsX40)
def wsX5_addPredecessor : List Cond := .code yX5_addPredecessor cX5_addPredecessor 3 none :: ([.fieldLink RX5 41 "RecipeScheduler$Recipe" "predecessors" "[[I", .fieldLink RX5 44 "RecipeScheduler$Recipe" "predecessorCount" "[I", .fieldLink RX5 47 "RecipeScheduler$Recipe" "predecessorSet" "[I", .fieldLink RX5 50 "RecipeScheduler$Recipe" "successorSet" "[I"] ++ wsX50)
def wsX6_init : List Cond := .code yX6_init cX6_init 3 none :: ([.methodLink RX6 3 objectInit, .instanceMethod objectInit, .code objectInit ⟨#[0xb1]⟩ 1 none, .classLink RX6 9 RX1, .fieldLink RX6 11 "RecipeScheduler$ScriptReader" "commands" "[LRecipeScheduler$Command;", .arrayClass .int, .fieldLink RX6 17 "RecipeScheduler$ScriptReader" "steps" "[I", .fieldLink RX6 21 "RecipeScheduler$ScriptReader" "numbers" "[I", .fieldLink RX6 24 "RecipeScheduler$ScriptReader" "tokens" "LRecipeScheduler$Tokens;", .fieldLink RX6 28 "RecipeScheduler$Command" "PASS" "LRecipeScheduler$Command;"] ++ wsX60)
def wsX7_init : List Cond := .code yX7_init cX7_init 2 none :: ([.methodLink RX7 3 objectInit, .instanceMethod objectInit, .code objectInit ⟨#[0xb1]⟩ 1 none, .fieldLink RX7 9 "RecipeScheduler$SetupReader" "tokens" "LRecipeScheduler$Tokens;"] ++ wsX70)
def wsX10_isGap : List Cond := .code yX10_isGap cX10_isGap 1 (some .boolean) :: ([])
def wsX11_isWithin : List Cond := .code yX11_isWithin cX11_isWithin 3 (some .boolean) :: ([])
def wsX10_passRun : List Cond := .code yX10_passRun cX10_passRun 3 none :: ([.fieldLink RX10 22 "RecipeScheduler$Tokens" "end" "I", .fieldLink RX10 9 "RecipeScheduler$Tokens" "text" "LRecipeScheduler$Text;"] ++ wsX100 ++ wsX90)
def wsX10_advance : List Cond := .code yX10_advance cX10_advance 1 none :: ([.fieldLink RX10 22 "RecipeScheduler$Tokens" "end" "I", .fieldLink RX10 28 "RecipeScheduler$Tokens" "start" "I", .fieldLink RX10 9 "RecipeScheduler$Tokens" "text" "LRecipeScheduler$Text;", .fieldLink RX10 44 "RecipeScheduler$Tokens" "kind" "I", .methodLink RX10 40 yX10_isGap, .static yX10_isGap, .initialized RX10, .code yX10_isGap cX10_isGap 1 (some .boolean), .static yX11_isWithin, .initialized RX11, .code yX11_isWithin cX11_isWithin 3 (some .boolean), .methodLink RX10 51 yX10_passRun, .instanceMethod yX10_passRun, .selects RX10 yX10_passRun yX10_passRun, .code yX10_passRun cX10_passRun 3 none] ++ wsX100 ++ wsX90)
def wsX10_begin : List Cond := .code yX10_begin cX10_begin 1 none :: ([.fieldLink RX10 19 "RecipeScheduler$Tokens" "errorCode" "I", .fieldLink RX10 15 "RecipeScheduler$Tokens" "errorPosition" "I", .fieldLink RX10 22 "RecipeScheduler$Tokens" "end" "I", .methodLink RX10 25 yX10_advance, .instanceMethod yX10_advance, .selects RX10 yX10_advance yX10_advance, .initialized RX10, .code yX10_advance cX10_advance 1 none, .fieldLink RX10 28 "RecipeScheduler$Tokens" "start" "I", .fieldLink RX10 9 "RecipeScheduler$Tokens" "text" "LRecipeScheduler$Text;", .fieldLink RX10 44 "RecipeScheduler$Tokens" "kind" "I", .methodLink RX10 40 yX10_isGap, .static yX10_isGap, .code yX10_isGap cX10_isGap 1 (some .boolean), .static yX11_isWithin, .initialized RX11, .code yX11_isWithin cX11_isWithin 3 (some .boolean), .methodLink RX10 51 yX10_passRun, .instanceMethod yX10_passRun, .selects RX10 yX10_passRun yX10_passRun, .code yX10_passRun cX10_passRun 3 none] ++ wsX100 ++ wsX90)
def wsJ0_coder_7d493 : List Cond := .code yJ0_coder_7d493 cJ0_coder_7d493 1 (some .byte) :: ([.fieldLink RJ0 38 "java/lang/String" "COMPACT_STRINGS" "Z", .fieldLink RJ0 15 "java/lang/String" "coder" "B"] ++ wsJ00)
def wsJ0_length_8abf5 : List Cond := .code yJ0_length_8abf5 cJ0_length_8abf5 1 (some .int) :: ([.fieldLink RJ0 9 "java/lang/String" "value" "[B", .methodLink RJ0 335 yJ0_coder_7d493, .instanceMethod yJ0_coder_7d493, .selects RJ0 yJ0_coder_7d493 yJ0_coder_7d493, .initialized RJ0, .code yJ0_coder_7d493 cJ0_coder_7d493 1 (some .byte), .fieldLink RJ0 38 "java/lang/String" "COMPACT_STRINGS" "Z", .fieldLink RJ0 15 "java/lang/String" "coder" "B"] ++ wsJ00)
def wsJ0_isLatin1_aae02 : List Cond := .code yJ0_isLatin1_aae02 cJ0_isLatin1_aae02 1 (some .boolean) :: ([.fieldLink RJ0 38 "java/lang/String" "COMPACT_STRINGS" "Z", .fieldLink RJ0 15 "java/lang/String" "coder" "B"] ++ wsJ00)
def wsJ3_checkIndex_8e157 : List Cond := .code yJ3_checkIndex_8e157 cJ3_checkIndex_8e157 3 (some .int) :: ([])
def wsJ0_checkIndex_df160 : List Cond := .code yJ0_checkIndex_df160 cJ0_checkIndex_df160 2 none :: ([.fieldLink RJ0 1053 "jdk/internal/util/Preconditions" "SIOOBE_FORMATTER" "Ljava/util/function/BiFunction;", .methodLink RJ0 1059 yJ3_checkIndex_8e157, .static yJ3_checkIndex_8e157, .initialized RJ3, .code yJ3_checkIndex_8e157 cJ3_checkIndex_8e157 3 (some .int)])
def wsJ1_charAt_3b067 : List Cond := .code yJ1_charAt_3b067 cJ1_charAt_3b067 2 (some .char) :: ([.methodLink RJ1 9 yJ0_checkIndex_df160, .static yJ0_checkIndex_df160, .initialized RJ0, .code yJ0_checkIndex_df160 cJ0_checkIndex_df160 2 none, .fieldLink RJ0 1053 "jdk/internal/util/Preconditions" "SIOOBE_FORMATTER" "Ljava/util/function/BiFunction;", .methodLink RJ0 1059 yJ3_checkIndex_8e157, .static yJ3_checkIndex_8e157, .initialized RJ3, .code yJ3_checkIndex_8e157 cJ3_checkIndex_8e157 3 (some .int)])
def wsJ2_length_9d52b : List Cond := .code yJ2_length_9d52b cJ2_length_9d52b 1 (some .int) :: ([])
def wsJ2_checkIndex_2214a : List Cond := .code yJ2_checkIndex_2214a cJ2_checkIndex_2214a 2 none :: ([.methodLink RJ2 48 yJ2_length_9d52b, .static yJ2_length_9d52b, .initialized RJ2, .code yJ2_length_9d52b cJ2_length_9d52b 1 (some .int), .methodLink RJ2 414 yJ0_checkIndex_df160, .static yJ0_checkIndex_df160, .initialized RJ0, .code yJ0_checkIndex_df160 cJ0_checkIndex_df160 2 none, .fieldLink RJ0 1053 "jdk/internal/util/Preconditions" "SIOOBE_FORMATTER" "Ljava/util/function/BiFunction;", .methodLink RJ0 1059 yJ3_checkIndex_8e157, .static yJ3_checkIndex_8e157, .initialized RJ3, .code yJ3_checkIndex_8e157 cJ3_checkIndex_8e157 3 (some .int)])
def wsJ2_getChar_3b067 : List Cond := .code yJ2_getChar_3b067 cJ2_getChar_3b067 2 (some .char) :: ([.fieldLink RJ2 44 "java/lang/StringUTF16" "$assertionsDisabled" "Z", .fieldLink RJ2 59 "java/lang/StringUTF16" "HI_BYTE_SHIFT" "I", .fieldLink RJ2 63 "java/lang/StringUTF16" "LO_BYTE_SHIFT" "I", .methodLink RJ2 48 yJ2_length_9d52b, .static yJ2_length_9d52b, .initialized RJ2, .code yJ2_length_9d52b cJ2_length_9d52b 1 (some .int)])
def wsJ2_charAt_3b067 : List Cond := .code yJ2_charAt_3b067 cJ2_charAt_3b067 2 (some .char) :: ([.methodLink RJ2 67 yJ2_checkIndex_2214a, .static yJ2_checkIndex_2214a, .initialized RJ2, .code yJ2_checkIndex_2214a cJ2_checkIndex_2214a 2 none, .methodLink RJ2 48 yJ2_length_9d52b, .static yJ2_length_9d52b, .code yJ2_length_9d52b cJ2_length_9d52b 1 (some .int), .methodLink RJ2 414 yJ0_checkIndex_df160, .static yJ0_checkIndex_df160, .initialized RJ0, .code yJ0_checkIndex_df160 cJ0_checkIndex_df160 2 none, .fieldLink RJ0 1053 "jdk/internal/util/Preconditions" "SIOOBE_FORMATTER" "Ljava/util/function/BiFunction;", .methodLink RJ0 1059 yJ3_checkIndex_8e157, .static yJ3_checkIndex_8e157, .initialized RJ3, .code yJ3_checkIndex_8e157 cJ3_checkIndex_8e157 3 (some .int), .methodLink RJ2 71 yJ2_getChar_3b067, .static yJ2_getChar_3b067, .code yJ2_getChar_3b067 cJ2_getChar_3b067 2 (some .char), .fieldLink RJ2 44 "java/lang/StringUTF16" "$assertionsDisabled" "Z", .fieldLink RJ2 59 "java/lang/StringUTF16" "HI_BYTE_SHIFT" "I", .fieldLink RJ2 63 "java/lang/StringUTF16" "LO_BYTE_SHIFT" "I"])
def wsJ0_charAt_5068e_r1 : List Cond := [Cond.fieldLink RJ0 9 "java/lang/String" "value" "[B", Cond.methodLink RJ0 492 yJ0_isLatin1_aae02, Cond.instanceMethod yJ0_isLatin1_aae02, Cond.selects RJ0 yJ0_isLatin1_aae02 yJ0_isLatin1_aae02, Cond.initialized RJ0, Cond.code yJ0_isLatin1_aae02 cJ0_isLatin1_aae02 1 (some .boolean), Cond.fieldLink RJ0 38 "java/lang/String" "COMPACT_STRINGS" "Z", Cond.fieldLink RJ0 15 "java/lang/String" "coder" "B", Cond.methodLink RJ0 495 yJ1_charAt_3b067, Cond.static yJ1_charAt_3b067, Cond.initialized RJ1, Cond.code yJ1_charAt_3b067 cJ1_charAt_3b067 2 (some .char), Cond.methodLink RJ1 9 yJ0_checkIndex_df160, Cond.static yJ0_checkIndex_df160, Cond.code yJ0_checkIndex_df160 cJ0_checkIndex_df160 2 none, Cond.fieldLink RJ0 1053 "jdk/internal/util/Preconditions" "SIOOBE_FORMATTER" "Ljava/util/function/BiFunction;", Cond.methodLink RJ0 1059 yJ3_checkIndex_8e157, Cond.static yJ3_checkIndex_8e157, Cond.initialized RJ3, Cond.code yJ3_checkIndex_8e157 cJ3_checkIndex_8e157 3 (some .int), Cond.methodLink RJ0 498 yJ2_charAt_3b067, Cond.static yJ2_charAt_3b067, Cond.initialized RJ2, Cond.code yJ2_charAt_3b067 cJ2_charAt_3b067 2 (some .char)]
def wsJ0_charAt_5068e_r2 : List Cond := [Cond.methodLink RJ2 67 yJ2_checkIndex_2214a, Cond.static yJ2_checkIndex_2214a, Cond.code yJ2_checkIndex_2214a cJ2_checkIndex_2214a 2 none, Cond.methodLink RJ2 48 yJ2_length_9d52b, Cond.static yJ2_length_9d52b, Cond.code yJ2_length_9d52b cJ2_length_9d52b 1 (some .int), Cond.methodLink RJ2 414 yJ0_checkIndex_df160, Cond.methodLink RJ2 71 yJ2_getChar_3b067, Cond.static yJ2_getChar_3b067, Cond.code yJ2_getChar_3b067 cJ2_getChar_3b067 2 (some .char), Cond.fieldLink RJ2 44 "java/lang/StringUTF16" "$assertionsDisabled" "Z", Cond.fieldLink RJ2 59 "java/lang/StringUTF16" "HI_BYTE_SHIFT" "I", Cond.fieldLink RJ2 63 "java/lang/StringUTF16" "LO_BYTE_SHIFT" "I"]
def wsJ0_charAt_5068e : List Cond := .code yJ0_charAt_5068e cJ0_charAt_5068e 2 (some .char) :: ((wsJ0_charAt_5068e_r1 ++ wsJ0_charAt_5068e_r2) ++ wsJ00)
def wsX10_isWord_r1 : List Cond := [Cond.fieldLink RX10 44 "RecipeScheduler$Tokens" "kind" "I", Cond.fieldLink RX10 22 "RecipeScheduler$Tokens" "end" "I", Cond.fieldLink RX10 28 "RecipeScheduler$Tokens" "start" "I", Cond.fieldLink RX10 9 "RecipeScheduler$Tokens" "text" "LRecipeScheduler$Text;", Cond.methodLink RX10 55 yJ0_length_8abf5, Cond.instanceMethod yJ0_length_8abf5, Cond.selects RJ0 yJ0_length_8abf5 yJ0_length_8abf5, Cond.initialized RJ0, Cond.code yJ0_length_8abf5 cJ0_length_8abf5 1 (some .int), Cond.fieldLink RJ0 9 "java/lang/String" "value" "[B", Cond.methodLink RJ0 335 yJ0_coder_7d493, Cond.instanceMethod yJ0_coder_7d493, Cond.selects RJ0 yJ0_coder_7d493 yJ0_coder_7d493, Cond.code yJ0_coder_7d493 cJ0_coder_7d493 1 (some .byte), Cond.fieldLink RJ0 38 "java/lang/String" "COMPACT_STRINGS" "Z", Cond.fieldLink RJ0 15 "java/lang/String" "coder" "B", Cond.methodLink RX10 60 yJ0_charAt_5068e, Cond.instanceMethod yJ0_charAt_5068e, Cond.selects RJ0 yJ0_charAt_5068e yJ0_charAt_5068e, Cond.code yJ0_charAt_5068e cJ0_charAt_5068e 2 (some .char), Cond.methodLink RJ0 492 yJ0_isLatin1_aae02, Cond.instanceMethod yJ0_isLatin1_aae02, Cond.selects RJ0 yJ0_isLatin1_aae02 yJ0_isLatin1_aae02, Cond.code yJ0_isLatin1_aae02 cJ0_isLatin1_aae02 1 (some .boolean)]
def wsX10_isWord_r2 : List Cond := [Cond.methodLink RJ0 495 yJ1_charAt_3b067, Cond.static yJ1_charAt_3b067, Cond.initialized RJ1, Cond.code yJ1_charAt_3b067 cJ1_charAt_3b067 2 (some .char), Cond.methodLink RJ1 9 yJ0_checkIndex_df160, Cond.static yJ0_checkIndex_df160, Cond.code yJ0_checkIndex_df160 cJ0_checkIndex_df160 2 none, Cond.fieldLink RJ0 1053 "jdk/internal/util/Preconditions" "SIOOBE_FORMATTER" "Ljava/util/function/BiFunction;", Cond.methodLink RJ0 1059 yJ3_checkIndex_8e157, Cond.static yJ3_checkIndex_8e157, Cond.initialized RJ3, Cond.code yJ3_checkIndex_8e157 cJ3_checkIndex_8e157 3 (some .int), Cond.methodLink RJ0 498 yJ2_charAt_3b067, Cond.static yJ2_charAt_3b067, Cond.initialized RJ2, Cond.code yJ2_charAt_3b067 cJ2_charAt_3b067 2 (some .char), Cond.methodLink RJ2 67 yJ2_checkIndex_2214a, Cond.static yJ2_checkIndex_2214a, Cond.code yJ2_checkIndex_2214a cJ2_checkIndex_2214a 2 none, Cond.methodLink RJ2 48 yJ2_length_9d52b, Cond.static yJ2_length_9d52b, Cond.code yJ2_length_9d52b cJ2_length_9d52b 1 (some .int), Cond.methodLink RJ2 414 yJ0_checkIndex_df160, Cond.methodLink RJ2 71 yJ2_getChar_3b067]
def wsX10_isWord_r3 : List Cond := [Cond.static yJ2_getChar_3b067, Cond.code yJ2_getChar_3b067 cJ2_getChar_3b067 2 (some .char), Cond.fieldLink RJ2 44 "java/lang/StringUTF16" "$assertionsDisabled" "Z", Cond.fieldLink RJ2 59 "java/lang/StringUTF16" "HI_BYTE_SHIFT" "I", Cond.fieldLink RJ2 63 "java/lang/StringUTF16" "LO_BYTE_SHIFT" "I"]
def wsX10_isWord : List Cond := .code yX10_isWord cX10_isWord 3 (some .boolean) :: ((wsX10_isWord_r1 ++ (wsX10_isWord_r2 ++ wsX10_isWord_r3)) ++ wsX100 ++ wsX90 ++ wsJ00)
def wsX10_accept_r1 : List Cond := [Cond.methodLink RX10 64 yX10_isWord, Cond.instanceMethod yX10_isWord, Cond.selects RX10 yX10_isWord yX10_isWord, Cond.initialized RX10, Cond.code yX10_isWord cX10_isWord 3 (some .boolean), Cond.fieldLink RX10 44 "RecipeScheduler$Tokens" "kind" "I", Cond.fieldLink RX10 22 "RecipeScheduler$Tokens" "end" "I", Cond.fieldLink RX10 28 "RecipeScheduler$Tokens" "start" "I", Cond.fieldLink RX10 9 "RecipeScheduler$Tokens" "text" "LRecipeScheduler$Text;", Cond.methodLink RX10 55 yJ0_length_8abf5, Cond.instanceMethod yJ0_length_8abf5, Cond.selects RJ0 yJ0_length_8abf5 yJ0_length_8abf5, Cond.initialized RJ0, Cond.code yJ0_length_8abf5 cJ0_length_8abf5 1 (some .int), Cond.fieldLink RJ0 9 "java/lang/String" "value" "[B", Cond.methodLink RJ0 335 yJ0_coder_7d493, Cond.instanceMethod yJ0_coder_7d493, Cond.selects RJ0 yJ0_coder_7d493 yJ0_coder_7d493, Cond.code yJ0_coder_7d493 cJ0_coder_7d493 1 (some .byte), Cond.fieldLink RJ0 38 "java/lang/String" "COMPACT_STRINGS" "Z", Cond.fieldLink RJ0 15 "java/lang/String" "coder" "B", Cond.methodLink RX10 60 yJ0_charAt_5068e, Cond.instanceMethod yJ0_charAt_5068e, Cond.selects RJ0 yJ0_charAt_5068e yJ0_charAt_5068e]
def wsX10_accept_r2 : List Cond := [Cond.code yJ0_charAt_5068e cJ0_charAt_5068e 2 (some .char), Cond.methodLink RJ0 492 yJ0_isLatin1_aae02, Cond.instanceMethod yJ0_isLatin1_aae02, Cond.selects RJ0 yJ0_isLatin1_aae02 yJ0_isLatin1_aae02, Cond.code yJ0_isLatin1_aae02 cJ0_isLatin1_aae02 1 (some .boolean), Cond.methodLink RJ0 495 yJ1_charAt_3b067, Cond.static yJ1_charAt_3b067, Cond.initialized RJ1, Cond.code yJ1_charAt_3b067 cJ1_charAt_3b067 2 (some .char), Cond.methodLink RJ1 9 yJ0_checkIndex_df160, Cond.static yJ0_checkIndex_df160, Cond.code yJ0_checkIndex_df160 cJ0_checkIndex_df160 2 none, Cond.fieldLink RJ0 1053 "jdk/internal/util/Preconditions" "SIOOBE_FORMATTER" "Ljava/util/function/BiFunction;", Cond.methodLink RJ0 1059 yJ3_checkIndex_8e157, Cond.static yJ3_checkIndex_8e157, Cond.initialized RJ3, Cond.code yJ3_checkIndex_8e157 cJ3_checkIndex_8e157 3 (some .int), Cond.methodLink RJ0 498 yJ2_charAt_3b067, Cond.static yJ2_charAt_3b067, Cond.initialized RJ2, Cond.code yJ2_charAt_3b067 cJ2_charAt_3b067 2 (some .char), Cond.methodLink RJ2 67 yJ2_checkIndex_2214a, Cond.static yJ2_checkIndex_2214a, Cond.code yJ2_checkIndex_2214a cJ2_checkIndex_2214a 2 none]
def wsX10_accept_r3 : List Cond := [Cond.methodLink RJ2 48 yJ2_length_9d52b, Cond.static yJ2_length_9d52b, Cond.code yJ2_length_9d52b cJ2_length_9d52b 1 (some .int), Cond.methodLink RJ2 414 yJ0_checkIndex_df160, Cond.methodLink RJ2 71 yJ2_getChar_3b067, Cond.static yJ2_getChar_3b067, Cond.code yJ2_getChar_3b067 cJ2_getChar_3b067 2 (some .char), Cond.fieldLink RJ2 44 "java/lang/StringUTF16" "$assertionsDisabled" "Z", Cond.fieldLink RJ2 59 "java/lang/StringUTF16" "HI_BYTE_SHIFT" "I", Cond.fieldLink RJ2 63 "java/lang/StringUTF16" "LO_BYTE_SHIFT" "I", Cond.methodLink RX10 25 yX10_advance, Cond.instanceMethod yX10_advance, Cond.selects RX10 yX10_advance yX10_advance, Cond.code yX10_advance cX10_advance 1 none, Cond.methodLink RX10 40 yX10_isGap, Cond.static yX10_isGap, Cond.code yX10_isGap cX10_isGap 1 (some .boolean), Cond.static yX11_isWithin, Cond.initialized RX11, Cond.code yX11_isWithin cX11_isWithin 3 (some .boolean), Cond.methodLink RX10 51 yX10_passRun, Cond.instanceMethod yX10_passRun, Cond.selects RX10 yX10_passRun yX10_passRun, Cond.code yX10_passRun cX10_passRun 3 none]
def wsX10_accept : List Cond := .code yX10_accept cX10_accept 3 (some .boolean) :: ((wsX10_accept_r1 ++ (wsX10_accept_r2 ++ wsX10_accept_r3)) ++ wsX100 ++ wsX90 ++ wsJ00)
def wsX10_fail : List Cond := .code yX10_fail cX10_fail 2 none :: ([.fieldLink RX10 44 "RecipeScheduler$Tokens" "kind" "I", .fieldLink RX10 19 "RecipeScheduler$Tokens" "errorCode" "I", .fieldLink RX10 28 "RecipeScheduler$Tokens" "start" "I", .fieldLink RX10 15 "RecipeScheduler$Tokens" "errorPosition" "I"] ++ wsX100)
def wsX10_expectNumber_r1 : List Cond := [Cond.fieldLink RX10 44 "RecipeScheduler$Tokens" "kind" "I", Cond.fieldLink RX10 28 "RecipeScheduler$Tokens" "start" "I", Cond.fieldLink RX10 22 "RecipeScheduler$Tokens" "end" "I", Cond.fieldLink RX10 9 "RecipeScheduler$Tokens" "text" "LRecipeScheduler$Text;", Cond.methodLink RX10 68 yX10_fail, Cond.instanceMethod yX10_fail, Cond.selects RX10 yX10_fail yX10_fail, Cond.initialized RX10, Cond.code yX10_fail cX10_fail 2 none, Cond.fieldLink RX10 19 "RecipeScheduler$Tokens" "errorCode" "I", Cond.fieldLink RX10 15 "RecipeScheduler$Tokens" "errorPosition" "I", Cond.static yX11_isWithin, Cond.initialized RX11, Cond.code yX11_isWithin cX11_isWithin 3 (some .boolean), Cond.methodLink RX10 25 yX10_advance, Cond.instanceMethod yX10_advance, Cond.selects RX10 yX10_advance yX10_advance, Cond.code yX10_advance cX10_advance 1 none, Cond.methodLink RX10 40 yX10_isGap, Cond.static yX10_isGap, Cond.code yX10_isGap cX10_isGap 1 (some .boolean), Cond.methodLink RX10 51 yX10_passRun, Cond.instanceMethod yX10_passRun, Cond.selects RX10 yX10_passRun yX10_passRun]
def wsX10_expectNumber_r2 : List Cond := [Cond.code yX10_passRun cX10_passRun 3 none]
def wsX10_expectNumber : List Cond := .code yX10_expectNumber cX10_expectNumber 5 (some .int) :: ((wsX10_expectNumber_r1 ++ wsX10_expectNumber_r2) ++ wsX100 ++ wsX90)
def wsX10_expectSemicolon_r1 : List Cond := [Cond.fieldLink RX10 44 "RecipeScheduler$Tokens" "kind" "I", Cond.methodLink RX10 68 yX10_fail, Cond.instanceMethod yX10_fail, Cond.selects RX10 yX10_fail yX10_fail, Cond.initialized RX10, Cond.code yX10_fail cX10_fail 2 none, Cond.fieldLink RX10 19 "RecipeScheduler$Tokens" "errorCode" "I", Cond.fieldLink RX10 28 "RecipeScheduler$Tokens" "start" "I", Cond.fieldLink RX10 15 "RecipeScheduler$Tokens" "errorPosition" "I", Cond.methodLink RX10 25 yX10_advance, Cond.instanceMethod yX10_advance, Cond.selects RX10 yX10_advance yX10_advance, Cond.code yX10_advance cX10_advance 1 none, Cond.fieldLink RX10 22 "RecipeScheduler$Tokens" "end" "I", Cond.fieldLink RX10 9 "RecipeScheduler$Tokens" "text" "LRecipeScheduler$Text;", Cond.methodLink RX10 40 yX10_isGap, Cond.static yX10_isGap, Cond.code yX10_isGap cX10_isGap 1 (some .boolean), Cond.static yX11_isWithin, Cond.initialized RX11, Cond.code yX11_isWithin cX11_isWithin 3 (some .boolean), Cond.methodLink RX10 51 yX10_passRun, Cond.instanceMethod yX10_passRun, Cond.selects RX10 yX10_passRun yX10_passRun]
def wsX10_expectSemicolon_r2 : List Cond := [Cond.code yX10_passRun cX10_passRun 3 none]
def wsX10_expectSemicolon : List Cond := .code yX10_expectSemicolon cX10_expectSemicolon 1 none :: ((wsX10_expectSemicolon_r1 ++ wsX10_expectSemicolon_r2) ++ wsX100 ++ wsX90)
def wsX7_readHead_r1 : List Cond := [Cond.fieldLink RX7 9 "RecipeScheduler$SetupReader" "tokens" "LRecipeScheduler$Tokens;", Cond.methodLink RX7 47 yX10_accept, Cond.instanceMethod yX10_accept, Cond.selects RX10 yX10_accept yX10_accept, Cond.initialized RX10, Cond.code yX10_accept cX10_accept 3 (some .boolean), Cond.methodLink RX10 64 yX10_isWord, Cond.instanceMethod yX10_isWord, Cond.selects RX10 yX10_isWord yX10_isWord, Cond.code yX10_isWord cX10_isWord 3 (some .boolean), Cond.fieldLink RX10 44 "RecipeScheduler$Tokens" "kind" "I", Cond.fieldLink RX10 22 "RecipeScheduler$Tokens" "end" "I", Cond.fieldLink RX10 28 "RecipeScheduler$Tokens" "start" "I", Cond.fieldLink RX10 9 "RecipeScheduler$Tokens" "text" "LRecipeScheduler$Text;", Cond.methodLink RX10 55 yJ0_length_8abf5, Cond.instanceMethod yJ0_length_8abf5, Cond.selects RJ0 yJ0_length_8abf5 yJ0_length_8abf5, Cond.initialized RJ0, Cond.code yJ0_length_8abf5 cJ0_length_8abf5 1 (some .int), Cond.fieldLink RJ0 9 "java/lang/String" "value" "[B", Cond.methodLink RJ0 335 yJ0_coder_7d493, Cond.instanceMethod yJ0_coder_7d493, Cond.selects RJ0 yJ0_coder_7d493 yJ0_coder_7d493, Cond.code yJ0_coder_7d493 cJ0_coder_7d493 1 (some .byte)]
def wsX7_readHead_r2 : List Cond := [Cond.fieldLink RJ0 38 "java/lang/String" "COMPACT_STRINGS" "Z", Cond.fieldLink RJ0 15 "java/lang/String" "coder" "B", Cond.methodLink RX10 60 yJ0_charAt_5068e, Cond.instanceMethod yJ0_charAt_5068e, Cond.selects RJ0 yJ0_charAt_5068e yJ0_charAt_5068e, Cond.code yJ0_charAt_5068e cJ0_charAt_5068e 2 (some .char), Cond.methodLink RJ0 492 yJ0_isLatin1_aae02, Cond.instanceMethod yJ0_isLatin1_aae02, Cond.selects RJ0 yJ0_isLatin1_aae02 yJ0_isLatin1_aae02, Cond.code yJ0_isLatin1_aae02 cJ0_isLatin1_aae02 1 (some .boolean), Cond.methodLink RJ0 495 yJ1_charAt_3b067, Cond.static yJ1_charAt_3b067, Cond.initialized RJ1, Cond.code yJ1_charAt_3b067 cJ1_charAt_3b067 2 (some .char), Cond.methodLink RJ1 9 yJ0_checkIndex_df160, Cond.static yJ0_checkIndex_df160, Cond.code yJ0_checkIndex_df160 cJ0_checkIndex_df160 2 none, Cond.fieldLink RJ0 1053 "jdk/internal/util/Preconditions" "SIOOBE_FORMATTER" "Ljava/util/function/BiFunction;", Cond.methodLink RJ0 1059 yJ3_checkIndex_8e157, Cond.static yJ3_checkIndex_8e157, Cond.initialized RJ3, Cond.code yJ3_checkIndex_8e157 cJ3_checkIndex_8e157 3 (some .int), Cond.methodLink RJ0 498 yJ2_charAt_3b067, Cond.static yJ2_charAt_3b067]
def wsX7_readHead_r3 : List Cond := [Cond.initialized RJ2, Cond.code yJ2_charAt_3b067 cJ2_charAt_3b067 2 (some .char), Cond.methodLink RJ2 67 yJ2_checkIndex_2214a, Cond.static yJ2_checkIndex_2214a, Cond.code yJ2_checkIndex_2214a cJ2_checkIndex_2214a 2 none, Cond.methodLink RJ2 48 yJ2_length_9d52b, Cond.static yJ2_length_9d52b, Cond.code yJ2_length_9d52b cJ2_length_9d52b 1 (some .int), Cond.methodLink RJ2 414 yJ0_checkIndex_df160, Cond.methodLink RJ2 71 yJ2_getChar_3b067, Cond.static yJ2_getChar_3b067, Cond.code yJ2_getChar_3b067 cJ2_getChar_3b067 2 (some .char), Cond.fieldLink RJ2 44 "java/lang/StringUTF16" "$assertionsDisabled" "Z", Cond.fieldLink RJ2 59 "java/lang/StringUTF16" "HI_BYTE_SHIFT" "I", Cond.fieldLink RJ2 63 "java/lang/StringUTF16" "LO_BYTE_SHIFT" "I", Cond.methodLink RX10 25 yX10_advance, Cond.instanceMethod yX10_advance, Cond.selects RX10 yX10_advance yX10_advance, Cond.code yX10_advance cX10_advance 1 none, Cond.methodLink RX10 40 yX10_isGap, Cond.static yX10_isGap, Cond.code yX10_isGap cX10_isGap 1 (some .boolean), Cond.static yX11_isWithin, Cond.initialized RX11]
def wsX7_readHead_r4 : List Cond := [Cond.code yX11_isWithin cX11_isWithin 3 (some .boolean), Cond.methodLink RX10 51 yX10_passRun, Cond.instanceMethod yX10_passRun, Cond.selects RX10 yX10_passRun yX10_passRun, Cond.code yX10_passRun cX10_passRun 3 none, Cond.methodLink RX7 50 yX10_fail, Cond.instanceMethod yX10_fail, Cond.selects RX10 yX10_fail yX10_fail, Cond.code yX10_fail cX10_fail 2 none, Cond.fieldLink RX10 19 "RecipeScheduler$Tokens" "errorCode" "I", Cond.fieldLink RX10 15 "RecipeScheduler$Tokens" "errorPosition" "I", Cond.methodLink RX7 54 yX10_expectNumber, Cond.instanceMethod yX10_expectNumber, Cond.selects RX10 yX10_expectNumber yX10_expectNumber, Cond.code yX10_expectNumber cX10_expectNumber 5 (some .int), Cond.methodLink RX10 68 yX10_fail, Cond.methodLink RX7 71 yX10_expectSemicolon, Cond.instanceMethod yX10_expectSemicolon, Cond.selects RX10 yX10_expectSemicolon yX10_expectSemicolon, Cond.code yX10_expectSemicolon cX10_expectSemicolon 1 none]
def wsX7_readHead : List Cond := .code yX7_readHead cX7_readHead 2 none :: ((wsX7_readHead_r1 ++ (wsX7_readHead_r2 ++ (wsX7_readHead_r3 ++ wsX7_readHead_r4))) ++ wsX70 ++ wsX50 ++ wsX100 ++ wsX90 ++ wsJ00)
def wsX10_expectNewName_r1 : List Cond := [Cond.fieldLink RX10 44 "RecipeScheduler$Tokens" "kind" "I", Cond.fieldLink RX10 22 "RecipeScheduler$Tokens" "end" "I", Cond.fieldLink RX10 28 "RecipeScheduler$Tokens" "start" "I", Cond.fieldLink RX10 9 "RecipeScheduler$Tokens" "text" "LRecipeScheduler$Text;", Cond.methodLink RX10 68 yX10_fail, Cond.instanceMethod yX10_fail, Cond.selects RX10 yX10_fail yX10_fail, Cond.initialized RX10, Cond.code yX10_fail cX10_fail 2 none, Cond.fieldLink RX10 19 "RecipeScheduler$Tokens" "errorCode" "I", Cond.fieldLink RX10 15 "RecipeScheduler$Tokens" "errorPosition" "I", Cond.methodLink RX10 72 yX4_indexOf, Cond.instanceMethod yX4_indexOf, Cond.selects RX4 yX4_indexOf yX4_indexOf, Cond.initialized RX4, Cond.code yX4_indexOf cX4_indexOf 5 (some .int), Cond.fieldLink RX4 20 "RecipeScheduler$Names" "count" "I", Cond.fieldLink RX4 16 "RecipeScheduler$Names" "lengths" "[I", Cond.methodLink RX4 24 yX4_matches, Cond.instanceMethod yX4_matches, Cond.selects RX4 yX4_matches yX4_matches, Cond.code yX4_matches cX4_matches 5 (some .boolean), Cond.fieldLink RX4 11 "RecipeScheduler$Names" "letters" "[[B", Cond.methodLink RX10 78 yX4_prepare]
def wsX10_expectNewName_r2 : List Cond := [Cond.instanceMethod yX4_prepare, Cond.selects RX4 yX4_prepare yX4_prepare, Cond.code yX4_prepare cX4_prepare 5 none, Cond.methodLink RX4 34 yX4_isFull, Cond.instanceMethod yX4_isFull, Cond.selects RX4 yX4_isFull yX4_isFull, Cond.code yX4_isFull cX4_isFull 1 (some .boolean), Cond.methodLink RX10 25 yX10_advance, Cond.instanceMethod yX10_advance, Cond.selects RX10 yX10_advance yX10_advance, Cond.code yX10_advance cX10_advance 1 none, Cond.methodLink RX10 40 yX10_isGap, Cond.static yX10_isGap, Cond.code yX10_isGap cX10_isGap 1 (some .boolean), Cond.static yX11_isWithin, Cond.initialized RX11, Cond.code yX11_isWithin cX11_isWithin 3 (some .boolean), Cond.methodLink RX10 51 yX10_passRun, Cond.instanceMethod yX10_passRun, Cond.selects RX10 yX10_passRun yX10_passRun, Cond.code yX10_passRun cX10_passRun 3 none]
def wsX10_expectNewName : List Cond := .code yX10_expectNewName cX10_expectNewName 2 none :: ((wsX10_expectNewName_r1 ++ wsX10_expectNewName_r2) ++ wsX100 ++ wsX40 ++ wsX90)
def wsX7_readPan_r1 : List Cond := [Cond.fieldLink RX7 9 "RecipeScheduler$SetupReader" "tokens" "LRecipeScheduler$Tokens;", Cond.methodLink RX7 83 yX4_isFull, Cond.instanceMethod yX4_isFull, Cond.selects RX4 yX4_isFull yX4_isFull, Cond.initialized RX4, Cond.code yX4_isFull cX4_isFull 1 (some .boolean), Cond.fieldLink RX4 20 "RecipeScheduler$Names" "count" "I", Cond.fieldLink RX4 16 "RecipeScheduler$Names" "lengths" "[I", Cond.methodLink RX7 50 yX10_fail, Cond.instanceMethod yX10_fail, Cond.selects RX10 yX10_fail yX10_fail, Cond.initialized RX10, Cond.code yX10_fail cX10_fail 2 none, Cond.fieldLink RX10 44 "RecipeScheduler$Tokens" "kind" "I", Cond.fieldLink RX10 19 "RecipeScheduler$Tokens" "errorCode" "I", Cond.fieldLink RX10 28 "RecipeScheduler$Tokens" "start" "I", Cond.fieldLink RX10 15 "RecipeScheduler$Tokens" "errorPosition" "I", Cond.methodLink RX7 86 yX10_advance, Cond.instanceMethod yX10_advance, Cond.selects RX10 yX10_advance yX10_advance, Cond.code yX10_advance cX10_advance 1 none, Cond.fieldLink RX10 22 "RecipeScheduler$Tokens" "end" "I", Cond.fieldLink RX10 9 "RecipeScheduler$Tokens" "text" "LRecipeScheduler$Text;", Cond.methodLink RX10 40 yX10_isGap]
def wsX7_readPan_r2 : List Cond := [Cond.static yX10_isGap, Cond.code yX10_isGap cX10_isGap 1 (some .boolean), Cond.static yX11_isWithin, Cond.initialized RX11, Cond.code yX11_isWithin cX11_isWithin 3 (some .boolean), Cond.methodLink RX10 51 yX10_passRun, Cond.instanceMethod yX10_passRun, Cond.selects RX10 yX10_passRun yX10_passRun, Cond.code yX10_passRun cX10_passRun 3 none, Cond.methodLink RX7 89 yX10_expectNewName, Cond.instanceMethod yX10_expectNewName, Cond.selects RX10 yX10_expectNewName yX10_expectNewName, Cond.code yX10_expectNewName cX10_expectNewName 2 none, Cond.methodLink RX10 68 yX10_fail, Cond.methodLink RX10 72 yX4_indexOf, Cond.instanceMethod yX4_indexOf, Cond.selects RX4 yX4_indexOf yX4_indexOf, Cond.code yX4_indexOf cX4_indexOf 5 (some .int), Cond.methodLink RX4 24 yX4_matches, Cond.instanceMethod yX4_matches, Cond.selects RX4 yX4_matches yX4_matches, Cond.code yX4_matches cX4_matches 5 (some .boolean), Cond.fieldLink RX4 11 "RecipeScheduler$Names" "letters" "[[B", Cond.methodLink RX10 78 yX4_prepare]
def wsX7_readPan_r3 : List Cond := [Cond.instanceMethod yX4_prepare, Cond.selects RX4 yX4_prepare yX4_prepare, Cond.code yX4_prepare cX4_prepare 5 none, Cond.methodLink RX4 34 yX4_isFull, Cond.methodLink RX10 25 yX10_advance, Cond.methodLink RX7 54 yX10_expectNumber, Cond.instanceMethod yX10_expectNumber, Cond.selects RX10 yX10_expectNumber yX10_expectNumber, Cond.code yX10_expectNumber cX10_expectNumber 5 (some .int), Cond.methodLink RX7 71 yX10_expectSemicolon, Cond.instanceMethod yX10_expectSemicolon, Cond.selects RX10 yX10_expectSemicolon yX10_expectSemicolon, Cond.code yX10_expectSemicolon cX10_expectSemicolon 1 none]
def wsX7_readPan : List Cond := .code yX7_readPan cX7_readPan 3 none :: ((wsX7_readPan_r1 ++ (wsX7_readPan_r2 ++ wsX7_readPan_r3)) ++ wsX50 ++ wsX40 ++ wsX70 ++ wsX100 ++ wsX90)
def wsX10_findName : List Cond := .code yX10_findName cX10_findName 3 (some .int) :: ([.fieldLink RX10 44 "RecipeScheduler$Tokens" "kind" "I", .fieldLink RX10 9 "RecipeScheduler$Tokens" "text" "LRecipeScheduler$Text;", .fieldLink RX10 28 "RecipeScheduler$Tokens" "start" "I", .fieldLink RX10 22 "RecipeScheduler$Tokens" "end" "I", .methodLink RX10 68 yX10_fail, .instanceMethod yX10_fail, .selects RX10 yX10_fail yX10_fail, .initialized RX10, .code yX10_fail cX10_fail 2 none, .fieldLink RX10 19 "RecipeScheduler$Tokens" "errorCode" "I", .fieldLink RX10 15 "RecipeScheduler$Tokens" "errorPosition" "I", .methodLink RX10 72 yX4_indexOf, .instanceMethod yX4_indexOf, .selects RX4 yX4_indexOf yX4_indexOf, .initialized RX4, .code yX4_indexOf cX4_indexOf 5 (some .int), .fieldLink RX4 20 "RecipeScheduler$Names" "count" "I", .fieldLink RX4 16 "RecipeScheduler$Names" "lengths" "[I", .methodLink RX4 24 yX4_matches, .instanceMethod yX4_matches, .selects RX4 yX4_matches yX4_matches, .code yX4_matches cX4_matches 5 (some .boolean), .fieldLink RX4 11 "RecipeScheduler$Names" "letters" "[[B"] ++ wsX100 ++ wsX40 ++ wsX90)
def wsX7_readPanOf_r1 : List Cond := [Cond.fieldLink RX7 9 "RecipeScheduler$SetupReader" "tokens" "LRecipeScheduler$Tokens;", Cond.methodLink RX7 47 yX10_accept, Cond.instanceMethod yX10_accept, Cond.selects RX10 yX10_accept yX10_accept, Cond.initialized RX10, Cond.code yX10_accept cX10_accept 3 (some .boolean), Cond.methodLink RX10 64 yX10_isWord, Cond.instanceMethod yX10_isWord, Cond.selects RX10 yX10_isWord yX10_isWord, Cond.code yX10_isWord cX10_isWord 3 (some .boolean), Cond.fieldLink RX10 44 "RecipeScheduler$Tokens" "kind" "I", Cond.fieldLink RX10 22 "RecipeScheduler$Tokens" "end" "I", Cond.fieldLink RX10 28 "RecipeScheduler$Tokens" "start" "I", Cond.fieldLink RX10 9 "RecipeScheduler$Tokens" "text" "LRecipeScheduler$Text;", Cond.methodLink RX10 55 yJ0_length_8abf5, Cond.instanceMethod yJ0_length_8abf5, Cond.selects RJ0 yJ0_length_8abf5 yJ0_length_8abf5, Cond.initialized RJ0, Cond.code yJ0_length_8abf5 cJ0_length_8abf5 1 (some .int), Cond.fieldLink RJ0 9 "java/lang/String" "value" "[B", Cond.methodLink RJ0 335 yJ0_coder_7d493, Cond.instanceMethod yJ0_coder_7d493, Cond.selects RJ0 yJ0_coder_7d493 yJ0_coder_7d493, Cond.code yJ0_coder_7d493 cJ0_coder_7d493 1 (some .byte)]
def wsX7_readPanOf_r2 : List Cond := [Cond.fieldLink RJ0 38 "java/lang/String" "COMPACT_STRINGS" "Z", Cond.fieldLink RJ0 15 "java/lang/String" "coder" "B", Cond.methodLink RX10 60 yJ0_charAt_5068e, Cond.instanceMethod yJ0_charAt_5068e, Cond.selects RJ0 yJ0_charAt_5068e yJ0_charAt_5068e, Cond.code yJ0_charAt_5068e cJ0_charAt_5068e 2 (some .char), Cond.methodLink RJ0 492 yJ0_isLatin1_aae02, Cond.instanceMethod yJ0_isLatin1_aae02, Cond.selects RJ0 yJ0_isLatin1_aae02 yJ0_isLatin1_aae02, Cond.code yJ0_isLatin1_aae02 cJ0_isLatin1_aae02 1 (some .boolean), Cond.methodLink RJ0 495 yJ1_charAt_3b067, Cond.static yJ1_charAt_3b067, Cond.initialized RJ1, Cond.code yJ1_charAt_3b067 cJ1_charAt_3b067 2 (some .char), Cond.methodLink RJ1 9 yJ0_checkIndex_df160, Cond.static yJ0_checkIndex_df160, Cond.code yJ0_checkIndex_df160 cJ0_checkIndex_df160 2 none, Cond.fieldLink RJ0 1053 "jdk/internal/util/Preconditions" "SIOOBE_FORMATTER" "Ljava/util/function/BiFunction;", Cond.methodLink RJ0 1059 yJ3_checkIndex_8e157, Cond.static yJ3_checkIndex_8e157, Cond.initialized RJ3, Cond.code yJ3_checkIndex_8e157 cJ3_checkIndex_8e157 3 (some .int), Cond.methodLink RJ0 498 yJ2_charAt_3b067, Cond.static yJ2_charAt_3b067]
def wsX7_readPanOf_r3 : List Cond := [Cond.initialized RJ2, Cond.code yJ2_charAt_3b067 cJ2_charAt_3b067 2 (some .char), Cond.methodLink RJ2 67 yJ2_checkIndex_2214a, Cond.static yJ2_checkIndex_2214a, Cond.code yJ2_checkIndex_2214a cJ2_checkIndex_2214a 2 none, Cond.methodLink RJ2 48 yJ2_length_9d52b, Cond.static yJ2_length_9d52b, Cond.code yJ2_length_9d52b cJ2_length_9d52b 1 (some .int), Cond.methodLink RJ2 414 yJ0_checkIndex_df160, Cond.methodLink RJ2 71 yJ2_getChar_3b067, Cond.static yJ2_getChar_3b067, Cond.code yJ2_getChar_3b067 cJ2_getChar_3b067 2 (some .char), Cond.fieldLink RJ2 44 "java/lang/StringUTF16" "$assertionsDisabled" "Z", Cond.fieldLink RJ2 59 "java/lang/StringUTF16" "HI_BYTE_SHIFT" "I", Cond.fieldLink RJ2 63 "java/lang/StringUTF16" "LO_BYTE_SHIFT" "I", Cond.methodLink RX10 25 yX10_advance, Cond.instanceMethod yX10_advance, Cond.selects RX10 yX10_advance yX10_advance, Cond.code yX10_advance cX10_advance 1 none, Cond.methodLink RX10 40 yX10_isGap, Cond.static yX10_isGap, Cond.code yX10_isGap cX10_isGap 1 (some .boolean), Cond.static yX11_isWithin, Cond.initialized RX11]
def wsX7_readPanOf_r4 : List Cond := [Cond.code yX11_isWithin cX11_isWithin 3 (some .boolean), Cond.methodLink RX10 51 yX10_passRun, Cond.instanceMethod yX10_passRun, Cond.selects RX10 yX10_passRun yX10_passRun, Cond.code yX10_passRun cX10_passRun 3 none, Cond.methodLink RX7 129 yX10_findName, Cond.instanceMethod yX10_findName, Cond.selects RX10 yX10_findName yX10_findName, Cond.code yX10_findName cX10_findName 3 (some .int), Cond.methodLink RX10 68 yX10_fail, Cond.instanceMethod yX10_fail, Cond.selects RX10 yX10_fail yX10_fail, Cond.code yX10_fail cX10_fail 2 none, Cond.fieldLink RX10 19 "RecipeScheduler$Tokens" "errorCode" "I", Cond.fieldLink RX10 15 "RecipeScheduler$Tokens" "errorPosition" "I", Cond.methodLink RX10 72 yX4_indexOf, Cond.instanceMethod yX4_indexOf, Cond.selects RX4 yX4_indexOf yX4_indexOf, Cond.initialized RX4, Cond.code yX4_indexOf cX4_indexOf 5 (some .int), Cond.fieldLink RX4 20 "RecipeScheduler$Names" "count" "I", Cond.fieldLink RX4 16 "RecipeScheduler$Names" "lengths" "[I", Cond.methodLink RX4 24 yX4_matches, Cond.instanceMethod yX4_matches]
def wsX7_readPanOf_r5 : List Cond := [Cond.selects RX4 yX4_matches yX4_matches, Cond.code yX4_matches cX4_matches 5 (some .boolean), Cond.fieldLink RX4 11 "RecipeScheduler$Names" "letters" "[[B", Cond.methodLink RX7 86 yX10_advance]
def wsX7_readPanOf : List Cond := .code yX7_readPanOf cX7_readPanOf 4 none :: ((wsX7_readPanOf_r1 ++ (wsX7_readPanOf_r2 ++ (wsX7_readPanOf_r3 ++ (wsX7_readPanOf_r4 ++ wsX7_readPanOf_r5)))) ++ wsX50 ++ wsX70 ++ wsX100 ++ wsX90 ++ wsJ00 ++ wsX40)
def wsX10_isAnyWord : List Cond := .code yX10_isAnyWord cX10_isAnyWord 1 (some .boolean) :: ([.fieldLink RX10 44 "RecipeScheduler$Tokens" "kind" "I"] ++ wsX100)
def wsX7_readPredecessors_r1 : List Cond := [Cond.fieldLink RX7 9 "RecipeScheduler$SetupReader" "tokens" "LRecipeScheduler$Tokens;", Cond.methodLink RX7 136 yX10_isAnyWord, Cond.instanceMethod yX10_isAnyWord, Cond.selects RX10 yX10_isAnyWord yX10_isAnyWord, Cond.initialized RX10, Cond.code yX10_isAnyWord cX10_isAnyWord 1 (some .boolean), Cond.fieldLink RX10 44 "RecipeScheduler$Tokens" "kind" "I", Cond.methodLink RX7 129 yX10_findName, Cond.instanceMethod yX10_findName, Cond.selects RX10 yX10_findName yX10_findName, Cond.code yX10_findName cX10_findName 3 (some .int), Cond.fieldLink RX10 9 "RecipeScheduler$Tokens" "text" "LRecipeScheduler$Text;", Cond.fieldLink RX10 28 "RecipeScheduler$Tokens" "start" "I", Cond.fieldLink RX10 22 "RecipeScheduler$Tokens" "end" "I", Cond.methodLink RX10 68 yX10_fail, Cond.instanceMethod yX10_fail, Cond.selects RX10 yX10_fail yX10_fail, Cond.code yX10_fail cX10_fail 2 none, Cond.fieldLink RX10 19 "RecipeScheduler$Tokens" "errorCode" "I", Cond.fieldLink RX10 15 "RecipeScheduler$Tokens" "errorPosition" "I", Cond.methodLink RX10 72 yX4_indexOf, Cond.instanceMethod yX4_indexOf, Cond.selects RX4 yX4_indexOf yX4_indexOf, Cond.initialized RX4]
def wsX7_readPredecessors_r2 : List Cond := [Cond.code yX4_indexOf cX4_indexOf 5 (some .int), Cond.fieldLink RX4 20 "RecipeScheduler$Names" "count" "I", Cond.fieldLink RX4 16 "RecipeScheduler$Names" "lengths" "[I", Cond.methodLink RX4 24 yX4_matches, Cond.instanceMethod yX4_matches, Cond.selects RX4 yX4_matches yX4_matches, Cond.code yX4_matches cX4_matches 5 (some .boolean), Cond.fieldLink RX4 11 "RecipeScheduler$Names" "letters" "[[B", Cond.static yX11_contains, Cond.initialized RX11, Cond.code yX11_contains cX11_contains 2 (some .boolean), Cond.methodLink RX7 50 yX10_fail, Cond.methodLink RX7 149 yX5_addPredecessor, Cond.instanceMethod yX5_addPredecessor, Cond.selects RX5 yX5_addPredecessor yX5_addPredecessor, Cond.initialized RX5, Cond.code yX5_addPredecessor cX5_addPredecessor 3 none, Cond.fieldLink RX5 41 "RecipeScheduler$Recipe" "predecessors" "[[I", Cond.fieldLink RX5 44 "RecipeScheduler$Recipe" "predecessorCount" "[I", Cond.fieldLink RX5 47 "RecipeScheduler$Recipe" "predecessorSet" "[I", Cond.fieldLink RX5 50 "RecipeScheduler$Recipe" "successorSet" "[I", Cond.methodLink RX7 86 yX10_advance, Cond.instanceMethod yX10_advance, Cond.selects RX10 yX10_advance yX10_advance]
def wsX7_readPredecessors_r3 : List Cond := [Cond.code yX10_advance cX10_advance 1 none, Cond.methodLink RX10 40 yX10_isGap, Cond.static yX10_isGap, Cond.code yX10_isGap cX10_isGap 1 (some .boolean), Cond.static yX11_isWithin, Cond.code yX11_isWithin cX11_isWithin 3 (some .boolean), Cond.methodLink RX10 51 yX10_passRun, Cond.instanceMethod yX10_passRun, Cond.selects RX10 yX10_passRun yX10_passRun, Cond.code yX10_passRun cX10_passRun 3 none]
def wsX7_readPredecessors : List Cond := .code yX7_readPredecessors cX7_readPredecessors 5 none :: ((wsX7_readPredecessors_r1 ++ (wsX7_readPredecessors_r2 ++ wsX7_readPredecessors_r3)) ++ wsX70 ++ wsX50 ++ wsX100 ++ wsX40 ++ wsX90)
def wsX7_readStep_r1 : List Cond := [Cond.fieldLink RX7 9 "RecipeScheduler$SetupReader" "tokens" "LRecipeScheduler$Tokens;", Cond.methodLink RX7 31 yX10_isWord, Cond.instanceMethod yX10_isWord, Cond.selects RX10 yX10_isWord yX10_isWord, Cond.initialized RX10, Cond.code yX10_isWord cX10_isWord 3 (some .boolean), Cond.fieldLink RX10 44 "RecipeScheduler$Tokens" "kind" "I", Cond.fieldLink RX10 22 "RecipeScheduler$Tokens" "end" "I", Cond.fieldLink RX10 28 "RecipeScheduler$Tokens" "start" "I", Cond.fieldLink RX10 9 "RecipeScheduler$Tokens" "text" "LRecipeScheduler$Text;", Cond.methodLink RX10 55 yJ0_length_8abf5, Cond.instanceMethod yJ0_length_8abf5, Cond.selects RJ0 yJ0_length_8abf5 yJ0_length_8abf5, Cond.initialized RJ0, Cond.code yJ0_length_8abf5 cJ0_length_8abf5 1 (some .int), Cond.fieldLink RJ0 9 "java/lang/String" "value" "[B", Cond.methodLink RJ0 335 yJ0_coder_7d493, Cond.instanceMethod yJ0_coder_7d493, Cond.selects RJ0 yJ0_coder_7d493 yJ0_coder_7d493, Cond.code yJ0_coder_7d493 cJ0_coder_7d493 1 (some .byte), Cond.fieldLink RJ0 38 "java/lang/String" "COMPACT_STRINGS" "Z", Cond.fieldLink RJ0 15 "java/lang/String" "coder" "B", Cond.methodLink RX10 60 yJ0_charAt_5068e, Cond.instanceMethod yJ0_charAt_5068e]
abbrev vwCl : List vw_C := [(RJ0, TJ0, 4), (RJ4, TJ4, 4), (RX2, TX2, 3), (RX3, TX3, 5), (RX4, TX4, 3), (RX5, TX5, 17), (RX6, TX6, 5), (RX7, TX7, 1), (RX8, TX8, 15), (RX9, TX9, 2), (RX10, TX10, 6), (RX11, TX11, 11), (RX12, TX12, 12)]
