def RX0 : String := "ButtonRegistry$1"
def TX0 : u_T := fun k => match k with
  | _ => ("", "", "", false)
def tyX0 : Nat → FieldType := fun k => match k with
  | _ => .int
abbrev wsX00 : List Cond := u_ws RX0 TX0 0
theorem nmX0 : ∀ a, a < 0 → ∀ b, b < 0 → a ≠ b → (TX0 a).2.1 ≠ (TX0 b).2.1 := by decide +kernel
theorem tyX0_ok : ∀ k, k < 0 → parseFieldDescriptor (TX0 k).2.2.1 = some (tyX0 k) := by decide +kernel
def RX1 : String := "ButtonRegistry$Case"
def TX1 : u_T := fun k => match k with
  | 0 => ("ButtonRegistry$Case", "id", "I", true)
  | 1 => ("ButtonRegistry$Case", "plaintiff", "I", true)
  | 2 => ("ButtonRegistry$Case", "defendant", "I", true)
  | 3 => ("ButtonRegistry$Case", "claim", "I", true)
  | 4 => ("ButtonRegistry$Case", "duration", "I", true)
  | 5 => ("ButtonRegistry$Case", "deadline", "I", true)
  | 6 => ("ButtonRegistry$Case", "matter", "Ljava/lang/String;", true)
  | 7 => ("ButtonRegistry$Case", "standing", "C", false)
  | 8 => ("ButtonRegistry$Case", "percentage", "I", false)
  | 9 => ("ButtonRegistry$Case", "award", "I", false)
  | 10 => ("ButtonRegistry$Case", "cost", "I", false)
  | 11 => ("ButtonRegistry$Case", "decidedBy", "I", false)
  | 12 => ("ButtonRegistry$Case", "addedAs", "I", false)
  | _ => ("ButtonRegistry$Case", "appealed", "Z", false)
def tyX1 : Nat → FieldType := fun k => match k with
  | 0 => .int
  | 1 => .int
  | 2 => .int
  | 3 => .int
  | 4 => .int
  | 5 => .int
  | 6 => .object "java/lang/String"
  | 7 => .char
  | 8 => .int
  | 9 => .int
  | 10 => .int
  | 11 => .int
  | 12 => .int
  | _ => .boolean
abbrev wsX10 : List Cond := u_ws RX1 TX1 14
theorem nmX1 : ∀ a, a < 14 → ∀ b, b < 14 → a ≠ b → (TX1 a).2.1 ≠ (TX1 b).2.1 := by decide +kernel
theorem tyX1_ok : ∀ k, k < 14 → parseFieldDescriptor (TX1 k).2.2.1 = some (tyX1 k) := by decide +kernel
abbrev cX1_init : ByteArray := prog_3_method_1_code
def yX1_init : MethodName := ⟨RX1, "<init>", "(IIIIIILjava/lang/String;)V"⟩
abbrev cX1_copy : ByteArray := prog_3_method_2_code
def yX1_copy : MethodName := ⟨RX1, "copy", "()LButtonRegistry$Case;"⟩
abbrev cX1_ruleAt : ByteArray := prog_3_method_3_code
def yX1_ruleAt : MethodName := ⟨RX1, "ruleAt", "(I)V"⟩
abbrev cX1_ranksBefore : ByteArray := prog_3_method_4_code
def yX1_ranksBefore : MethodName := ⟨RX1, "ranksBefore", "(LButtonRegistry$Case;)Z"⟩
def RX2 : String := "ButtonRegistry$Court"
def TX2 : u_T := fun k => match k with
  | 0 => ("ButtonRegistry$Court", "threads", "LButtonRegistry$Threads;", true)
  | _ => ("ButtonRegistry$Court", "ruler", "LButtonRegistry$Ruler;", true)
def tyX2 : Nat → FieldType := fun k => match k with
  | 0 => .object "ButtonRegistry$Threads"
  | _ => .object "ButtonRegistry$Ruler"
abbrev wsX20 : List Cond := u_ws RX2 TX2 2
theorem nmX2 : ∀ a, a < 2 → ∀ b, b < 2 → a ≠ b → (TX2 a).2.1 ≠ (TX2 b).2.1 := by decide +kernel
theorem tyX2_ok : ∀ k, k < 2 → parseFieldDescriptor (TX2 k).2.2.1 = some (tyX2 k) := by decide +kernel
abbrev cX2_init : ByteArray := prog_4_method_1_code
def yX2_init : MethodName := ⟨RX2, "<init>", "()V"⟩
abbrev cX2_perform : ByteArray := prog_4_method_2_code
def yX2_perform : MethodName := ⟨RX2, "perform", "(LButtonRegistry$State;LButtonRegistry$Order;)I"⟩
abbrev cX2_isBetween : ByteArray := prog_4_method_3_code
def yX2_isBetween : MethodName := ⟨RX2, "isBetween", "(III)Z"⟩
abbrev cX2_enterButton : ByteArray := prog_4_method_4_code
def yX2_enterButton : MethodName := ⟨RX2, "enterButton", "(LButtonRegistry$State;)I"⟩
abbrev cX2_joinButtons : ByteArray := prog_4_method_5_code
def yX2_joinButtons : MethodName := ⟨RX2, "joinButtons", "(LButtonRegistry$State;III)I"⟩
abbrev cX2_separateButtons : ByteArray := prog_4_method_6_code
def yX2_separateButtons : MethodName := ⟨RX2, "separateButtons", "(LButtonRegistry$State;II)I"⟩
abbrev cX2_enterPrecedent : ByteArray := prog_4_method_7_code
def yX2_enterPrecedent : MethodName := ⟨RX2, "enterPrecedent", "(LButtonRegistry$State;ILjava/lang/String;)I"⟩
abbrev cX2_enterCase : ByteArray := prog_4_method_8_code
def yX2_enterCase : MethodName := ⟨RX2, "enterCase", "(LButtonRegistry$State;IIIIILjava/lang/String;)I"⟩
abbrev cX2_hearCase : ByteArray := prog_4_method_9_code
def yX2_hearCase : MethodName := ⟨RX2, "hearCase", "(LButtonRegistry$State;I)I"⟩
abbrev cX2_addRuling : ByteArray := prog_4_method_10_code
def yX2_addRuling : MethodName := ⟨RX2, "addRuling", "(LButtonRegistry$State;LButtonRegistry$Case;)V"⟩
abbrev cX2_appealCase : ByteArray := prog_4_method_11_code
def yX2_appealCase : MethodName := ⟨RX2, "appealCase", "(LButtonRegistry$State;I)I"⟩
abbrev cX2_nearestOf : ByteArray := prog_4_method_12_code
def yX2_nearestOf : MethodName := ⟨RX2, "nearestOf", "(LButtonRegistry$State;Ljava/lang/String;II)I"⟩
abbrev cX2_percentageBy : ByteArray := prog_4_method_13_code
def yX2_percentageBy : MethodName := ⟨RX2, "percentageBy", "(LButtonRegistry$State;ILjava/lang/String;)I"⟩
abbrev cX2_moveAward : ByteArray := prog_4_method_14_code
def yX2_moveAward : MethodName := ⟨RX2, "moveAward", "(LButtonRegistry$State;LButtonRegistry$Case;I)V"⟩
abbrev cX2_shareCost : ByteArray := prog_4_method_15_code
def yX2_shareCost : MethodName := ⟨RX2, "shareCost", "(LButtonRegistry$State;LButtonRegistry$Case;)V"⟩
abbrev cX2_withdrawCase : ByteArray := prog_4_method_16_code
def yX2_withdrawCase : MethodName := ⟨RX2, "withdrawCase", "(LButtonRegistry$State;I)I"⟩
abbrev cX2_closeCase : ByteArray := prog_4_method_17_code
def yX2_closeCase : MethodName := ⟨RX2, "closeCase", "(LButtonRegistry$State;I)I"⟩
abbrev cX2_moveCoins : ByteArray := prog_4_method_18_code
def yX2_moveCoins : MethodName := ⟨RX2, "moveCoins", "(LButtonRegistry$State;III)I"⟩
abbrev cX2_letDaysPass : ByteArray := prog_4_method_19_code
def yX2_letDaysPass : MethodName := ⟨RX2, "letDaysPass", "(LButtonRegistry$State;I)I"⟩
def RX3 : String := "ButtonRegistry$Docket"
def TX3 : u_T := fun k => match k with
  | 0 => ("ButtonRegistry$Docket", "filed", "Ljava/util/ArrayList;", true)
  | _ => ("ButtonRegistry$Docket", "bestAfter", "[I", true)
def tyX3 : Nat → FieldType := fun k => match k with
  | 0 => .object "java/util/ArrayList"
  | _ => .array .int
abbrev wsX30 : List Cond := u_ws RX3 TX3 2
theorem nmX3 : ∀ a, a < 2 → ∀ b, b < 2 → a ≠ b → (TX3 a).2.1 ≠ (TX3 b).2.1 := by decide +kernel
theorem tyX3_ok : ∀ k, k < 2 → parseFieldDescriptor (TX3 k).2.2.1 = some (tyX3 k) := by decide +kernel
abbrev cX3_init : ByteArray := prog_5_method_1_code
def yX3_init : MethodName := ⟨RX3, "<init>", "()V"⟩
abbrev cX3_byDays : ByteArray := prog_5_method_2_code
def yX3_byDays : MethodName := ⟨RX3, "byDays", "(LButtonRegistry$State;)I"⟩
abbrev cX3_addToTable : ByteArray := prog_5_method_3_code
def yX3_addToTable : MethodName := ⟨RX3, "addToTable", "(LButtonRegistry$Case;I)V"⟩
abbrev cX3_collectFiled : ByteArray := prog_5_method_6_code
def yX3_collectFiled : MethodName := ⟨RX3, "collectFiled", "(LButtonRegistry$State;)V"⟩
abbrev cX3_placeOf : ByteArray := prog_5_method_7_code
def yX3_placeOf : MethodName := ⟨RX3, "placeOf", "(LButtonRegistry$Case;)I"⟩
def RX4 : String := "ButtonRegistry$Order"
def TX4 : u_T := fun k => match k with
  | 0 => ("ButtonRegistry$Order", "verb", "LButtonRegistry$Verb;", true)
  | 1 => ("ButtonRegistry$Order", "numbers", "[I", true)
  | 2 => ("ButtonRegistry$Order", "count", "I", false)
  | _ => ("ButtonRegistry$Order", "matter", "Ljava/lang/String;", false)
def tyX4 : Nat → FieldType := fun k => match k with
  | 0 => .object "ButtonRegistry$Verb"
  | 1 => .array .int
  | 2 => .int
  | _ => .object "java/lang/String"
abbrev wsX40 : List Cond := u_ws RX4 TX4 4
theorem nmX4 : ∀ a, a < 4 → ∀ b, b < 4 → a ≠ b → (TX4 a).2.1 ≠ (TX4 b).2.1 := by decide +kernel
theorem tyX4_ok : ∀ k, k < 4 → parseFieldDescriptor (TX4 k).2.2.1 = some (tyX4 k) := by decide +kernel
abbrev cX4_init : ByteArray := prog_6_method_1_code
def yX4_init : MethodName := ⟨RX4, "<init>", "(LButtonRegistry$Verb;)V"⟩
abbrev cX4_addNumber : ByteArray := prog_6_method_2_code
def yX4_addNumber : MethodName := ⟨RX4, "addNumber", "(I)V"⟩
abbrev cX4_setMatter : ByteArray := prog_6_method_3_code
def yX4_setMatter : MethodName := ⟨RX4, "setMatter", "(Ljava/lang/String;)V"⟩
abbrev cX4_number : ByteArray := prog_6_method_4_code
def yX4_number : MethodName := ⟨RX4, "number", "(I)I"⟩
def RX5 : String := "ButtonRegistry$Precedent"
def TX5 : u_T := fun k => match k with
  | 0 => ("ButtonRegistry$Precedent", "matter", "Ljava/lang/String;", true)
  | _ => ("ButtonRegistry$Precedent", "percentage", "I", true)
def tyX5 : Nat → FieldType := fun k => match k with
  | 0 => .object "java/lang/String"
  | _ => .int
abbrev wsX50 : List Cond := u_ws RX5 TX5 2
theorem nmX5 : ∀ a, a < 2 → ∀ b, b < 2 → a ≠ b → (TX5 a).2.1 ≠ (TX5 b).2.1 := by decide +kernel
theorem tyX5_ok : ∀ k, k < 2 → parseFieldDescriptor (TX5 k).2.2.1 = some (tyX5 k) := by decide +kernel
abbrev cX5_init : ByteArray := prog_7_method_1_code
def yX5_init : MethodName := ⟨RX5, "<init>", "(Ljava/lang/String;I)V"⟩
def RX6 : String := "ButtonRegistry$Ruler"
def TX6 : u_T := fun k => match k with
  | 0 => ("ButtonRegistry$Ruler", "firstLetters", "[C", true)
  | 1 => ("ButtonRegistry$Ruler", "secondLetters", "[C", true)
  | _ => ("ButtonRegistry$Ruler", "table", "[I", true)
def tyX6 : Nat → FieldType := fun k => match k with
  | 0 => .array .char
  | 1 => .array .char
  | _ => .array .int
abbrev wsX60 : List Cond := u_ws RX6 TX6 3
theorem nmX6 : ∀ a, a < 3 → ∀ b, b < 3 → a ≠ b → (TX6 a).2.1 ≠ (TX6 b).2.1 := by decide +kernel
theorem tyX6_ok : ∀ k, k < 3 → parseFieldDescriptor (TX6 k).2.2.1 = some (tyX6 k) := by decide +kernel
abbrev cX6_init : ByteArray := prog_8_method_1_code
def yX6_init : MethodName := ⟨RX6, "<init>", "()V"⟩
abbrev cX6_byBeginnings : ByteArray := prog_8_method_2_code
def yX6_byBeginnings : MethodName := ⟨RX6, "byBeginnings", "(Ljava/lang/String;Ljava/lang/String;)I"⟩
abbrev cX6_beginningsDistance : ByteArray := prog_8_method_3_code
def yX6_beginningsDistance : MethodName := ⟨RX6, "beginningsDistance", "(II)I"⟩
abbrev cX6_byEnds : ByteArray := prog_8_method_4_code
def yX6_byEnds : MethodName := ⟨RX6, "byEnds", "(Ljava/lang/String;Ljava/lang/String;)I"⟩
abbrev cX6_endsDistance : ByteArray := prog_8_method_5_code
def yX6_endsDistance : MethodName := ⟨RX6, "endsDistance", "(LButtonRegistry$Ruler;II)I"⟩
abbrev cX6_putLetters : ByteArray := prog_8_method_6_code
def yX6_putLetters : MethodName := ⟨RX6, "putLetters", "(Ljava/lang/String;[C)I"⟩
abbrev cX6_sameLetter : ByteArray := prog_8_method_7_code
def yX6_sameLetter : MethodName := ⟨RX6, "sameLetter", "(II)Z"⟩
abbrev cX6_cellAt : ByteArray := prog_8_method_8_code
def yX6_cellAt : MethodName := ⟨RX6, "cellAt", "(II)I"⟩
abbrev cX6_putCell : ByteArray := prog_8_method_9_code
def yX6_putCell : MethodName := ⟨RX6, "putCell", "(III)V"⟩
def RX7 : String := "ButtonRegistry$ScriptReader"
def TX7 : u_T := fun k => match k with
  | 0 => ("ButtonRegistry$ScriptReader", "orders", "Ljava/util/ArrayList;", true)
  | 1 => ("ButtonRegistry$ScriptReader", "position", "I", false)
  | _ => ("ButtonRegistry$ScriptReader", "text", "Ljava/lang/String;", true)
def tyX7 : Nat → FieldType := fun k => match k with
  | 0 => .object "java/util/ArrayList"
  | 1 => .int
  | _ => .object "java/lang/String"
abbrev wsX70 : List Cond := u_ws RX7 TX7 3
theorem nmX7 : ∀ a, a < 3 → ∀ b, b < 3 → a ≠ b → (TX7 a).2.1 ≠ (TX7 b).2.1 := by decide +kernel
theorem tyX7_ok : ∀ k, k < 3 → parseFieldDescriptor (TX7 k).2.2.1 = some (tyX7 k) := by decide +kernel
abbrev cX7_init : ByteArray := prog_9_method_1_code
def yX7_init : MethodName := ⟨RX7, "<init>", "(Ljava/lang/String;)V"⟩
abbrev cX7_readScript : ByteArray := prog_9_method_2_code
def yX7_readScript : MethodName := ⟨RX7, "readScript", "()Z"⟩
abbrev cX7_readCommand : ByteArray := prog_9_method_3_code
def yX7_readCommand : MethodName := ⟨RX7, "readCommand", "()Z"⟩
abbrev cX7_readForm : ByteArray := prog_9_method_4_code
def yX7_readForm : MethodName := ⟨RX7, "readForm", "(LButtonRegistry$Order;)Z"⟩
abbrev cX7_readPart : ByteArray := prog_9_method_5_code
def yX7_readPart : MethodName := ⟨RX7, "readPart", "(LButtonRegistry$Order;C)Z"⟩
abbrev cX7_readSign : ByteArray := prog_9_method_6_code
def yX7_readSign : MethodName := ⟨RX7, "readSign", "(C)Z"⟩
abbrev cX7_readNumber : ByteArray := prog_9_method_7_code
def yX7_readNumber : MethodName := ⟨RX7, "readNumber", "(LButtonRegistry$Order;I)Z"⟩
abbrev cX7_readMatter : ByteArray := prog_9_method_8_code
def yX7_readMatter : MethodName := ⟨RX7, "readMatter", "(LButtonRegistry$Order;)Z"⟩
def RX8 : String := "ButtonRegistry$Settlement"
def TX8 : u_T := fun k => match k with
  | 0 => ("ButtonRegistry$Settlement", "accounts", "[I", true)
  | 1 => ("ButtonRegistry$Settlement", "mostParts", "[I", true)
  | _ => ("ButtonRegistry$Settlement", "count", "I", false)
def tyX8 : Nat → FieldType := fun k => match k with
  | 0 => .array .int
  | 1 => .array .int
  | _ => .int
abbrev wsX80 : List Cond := u_ws RX8 TX8 3
theorem nmX8 : ∀ a, a < 3 → ∀ b, b < 3 → a ≠ b → (TX8 a).2.1 ≠ (TX8 b).2.1 := by decide +kernel
theorem tyX8_ok : ∀ k, k < 3 → parseFieldDescriptor (TX8 k).2.2.1 = some (tyX8 k) := by decide +kernel
abbrev cX8_init : ByteArray := prog_10_method_1_code
def yX8_init : MethodName := ⟨RX8, "<init>", "()V"⟩
abbrev cX8_bySets : ByteArray := prog_10_method_2_code
def yX8_bySets : MethodName := ⟨RX8, "bySets", "(LButtonRegistry$State;)I"⟩
abbrev cX8_partsOf : ByteArray := prog_10_method_3_code
def yX8_partsOf : MethodName := ⟨RX8, "partsOf", "(I)I"⟩
abbrev cX8_collectAccounts : ByteArray := prog_10_method_6_code
def yX8_collectAccounts : MethodName := ⟨RX8, "collectAccounts", "(LButtonRegistry$State;)V"⟩
abbrev cX8_addAccount : ByteArray := prog_10_method_7_code
def yX8_addAccount : MethodName := ⟨RX8, "addAccount", "(I)V"⟩
def RX9 : String := "ButtonRegistry$State"
def TX9 : u_T := fun k => match k with
  | 0 => ("ButtonRegistry$State", "balances", "[I", true)
  | 1 => ("ButtonRegistry$State", "tensions", "[I", true)
  | 2 => ("ButtonRegistry$State", "cases", "Ljava/util/ArrayList;", true)
  | 3 => ("ButtonRegistry$State", "precedents", "Ljava/util/ArrayList;", true)
  | 4 => ("ButtonRegistry$State", "buttons", "I", false)
  | 5 => ("ButtonRegistry$State", "chest", "I", false)
  | 6 => ("ButtonRegistry$State", "today", "I", false)
  | _ => ("ButtonRegistry$State", "nextId", "I", false)
def tyX9 : Nat → FieldType := fun k => match k with
  | 0 => .array .int
  | 1 => .array .int
  | 2 => .object "java/util/ArrayList"
  | 3 => .object "java/util/ArrayList"
  | 4 => .int
  | 5 => .int
  | 6 => .int
  | _ => .int
abbrev wsX90 : List Cond := u_ws RX9 TX9 8
theorem nmX9 : ∀ a, a < 8 → ∀ b, b < 8 → a ≠ b → (TX9 a).2.1 ≠ (TX9 b).2.1 := by decide +kernel
theorem tyX9_ok : ∀ k, k < 8 → parseFieldDescriptor (TX9 k).2.2.1 = some (tyX9 k) := by decide +kernel
abbrev cX9_init : ByteArray := prog_11_method_1_code
def yX9_init : MethodName := ⟨RX9, "<init>", "()V"⟩
abbrev cX9_copy : ByteArray := prog_11_method_2_code
def yX9_copy : MethodName := ⟨RX9, "copy", "()LButtonRegistry$State;"⟩
abbrev cX9_hasButton : ByteArray := prog_11_method_3_code
def yX9_hasButton : MethodName := ⟨RX9, "hasButton", "(I)Z"⟩
abbrev cX9_balanceOf : ByteArray := prog_11_method_4_code
def yX9_balanceOf : MethodName := ⟨RX9, "balanceOf", "(I)I"⟩
abbrev cX9_addCoins : ByteArray := prog_11_method_5_code
def yX9_addCoins : MethodName := ⟨RX9, "addCoins", "(II)V"⟩
abbrev cX9_payToChest : ByteArray := prog_11_method_6_code
def yX9_payToChest : MethodName := ⟨RX9, "payToChest", "(II)V"⟩
abbrev cX9_tensionBetween : ByteArray := prog_11_method_8_code
def yX9_tensionBetween : MethodName := ⟨RX9, "tensionBetween", "(II)I"⟩
abbrev cX9_putTension : ByteArray := prog_11_method_9_code
def yX9_putTension : MethodName := ⟨RX9, "putTension", "(III)V"⟩
abbrev cX9_putCell : ByteArray := prog_11_method_10_code
def yX9_putCell : MethodName := ⟨RX9, "putCell", "(II)V"⟩
abbrev cX9_bondsOf : ByteArray := prog_11_method_11_code
def yX9_bondsOf : MethodName := ⟨RX9, "bondsOf", "(I)I"⟩
abbrev cX9_buttonsBefore : ByteArray := prog_11_method_12_code
def yX9_buttonsBefore : MethodName := ⟨RX9, "buttonsBefore", "(I)I"⟩
abbrev cX9_buttonRanksBefore : ByteArray := prog_11_method_13_code
def yX9_buttonRanksBefore : MethodName := ⟨RX9, "buttonRanksBefore", "(II)Z"⟩
abbrev cX9_positionOf : ByteArray := prog_11_method_14_code
def yX9_positionOf : MethodName := ⟨RX9, "positionOf", "(I)I"⟩
abbrev cX9_casesBefore : ByteArray := prog_11_method_15_code
def yX9_casesBefore : MethodName := ⟨RX9, "casesBefore", "(LButtonRegistry$Case;)I"⟩
def RX10 : String := "ButtonRegistry$Threads"
def TX10 : u_T := fun k => match k with
  | 0 => ("ButtonRegistry$Threads", "groups", "[I", true)
  | 1 => ("ButtonRegistry$Threads", "strains", "[I", true)
  | _ => ("ButtonRegistry$Threads", "inTree", "[Z", true)
def tyX10 : Nat → FieldType := fun k => match k with
  | 0 => .array .int
  | 1 => .array .int
  | _ => .array .boolean
abbrev wsX100 : List Cond := u_ws RX10 TX10 3
theorem nmX10 : ∀ a, a < 3 → ∀ b, b < 3 → a ≠ b → (TX10 a).2.1 ≠ (TX10 b).2.1 := by decide +kernel
theorem tyX10_ok : ∀ k, k < 3 → parseFieldDescriptor (TX10 k).2.2.1 = some (tyX10 k) := by decide +kernel
abbrev cX10_init : ByteArray := prog_12_method_1_code
def yX10_init : MethodName := ⟨RX10, "<init>", "()V"⟩
abbrev cX10_strainByJoining : ByteArray := prog_12_method_2_code
def yX10_strainByJoining : MethodName := ⟨RX10, "strainByJoining", "(LButtonRegistry$State;II)I"⟩
abbrev cX10_forestByJoining : ByteArray := prog_12_method_3_code
def yX10_forestByJoining : MethodName := ⟨RX10, "forestByJoining", "(LButtonRegistry$State;)I"⟩
abbrev cX10_separateAll : ByteArray := prog_12_method_5_code
def yX10_separateAll : MethodName := ⟨RX10, "separateAll", "()V"⟩
abbrev cX10_groupOf : ByteArray := prog_12_method_6_code
def yX10_groupOf : MethodName := ⟨RX10, "groupOf", "(I)I"⟩
abbrev cX10_joinBonds : ByteArray := prog_12_method_7_code
def yX10_joinBonds : MethodName := ⟨RX10, "joinBonds", "(LButtonRegistry$State;I)I"⟩
abbrev cX10_joinGroups : ByteArray := prog_12_method_8_code
def yX10_joinGroups : MethodName := ⟨RX10, "joinGroups", "(II)V"⟩
abbrev cX10_strainFromTable : ByteArray := prog_12_method_9_code
def yX10_strainFromTable : MethodName := ⟨RX10, "strainFromTable", "(LButtonRegistry$State;II)I"⟩
abbrev cX10_strainAt : ByteArray := prog_12_method_10_code
def yX10_strainAt : MethodName := ⟨RX10, "strainAt", "(II)I"⟩
def RX11 : String := "ButtonRegistry$Verb"
def TX11 : u_T := fun k => match k with
  | _ => ("", "", "", false)
def tyX11 : Nat → FieldType := fun k => match k with
  | _ => .int
abbrev wsX110 : List Cond := u_ws RX11 TX11 0
theorem nmX11 : ∀ a, a < 0 → ∀ b, b < 0 → a ≠ b → (TX11 a).2.1 ≠ (TX11 b).2.1 := by decide +kernel
theorem tyX11_ok : ∀ k, k < 0 → parseFieldDescriptor (TX11 k).2.2.1 = some (tyX11 k) := by decide +kernel
def RX12 : String := "ButtonRegistry"
def TX12 : u_T := fun k => match k with
  | 0 => ("ButtonRegistry", "now", "LButtonRegistry$State;", false)
  | 1 => ("ButtonRegistry", "snapshot", "LButtonRegistry$State;", false)
  | 2 => ("ButtonRegistry", "snapshotTaken", "Z", false)
  | 3 => ("ButtonRegistry", "earlier", "Ljava/util/ArrayList;", true)
  | 4 => ("ButtonRegistry", "word", "Ljava/lang/StringBuilder;", true)
  | 5 => ("ButtonRegistry", "script", "Ljava/lang/StringBuilder;", true)
  | 6 => ("ButtonRegistry", "output", "Ljava/lang/StringBuilder;", true)
  | 7 => ("ButtonRegistry", "latestErrorPosition", "I", false)
  | 8 => ("ButtonRegistry", "latestFailedCommand", "I", false)
  | 9 => ("ButtonRegistry", "court", "LButtonRegistry$Court;", true)
  | 10 => ("ButtonRegistry", "docket", "LButtonRegistry$Docket;", true)
  | _ => ("ButtonRegistry", "settlement", "LButtonRegistry$Settlement;", true)
def tyX12 : Nat → FieldType := fun k => match k with
  | 0 => .object "ButtonRegistry$State"
  | 1 => .object "ButtonRegistry$State"
  | 2 => .boolean
  | 3 => .object "java/util/ArrayList"
  | 4 => .object "java/lang/StringBuilder"
  | 5 => .object "java/lang/StringBuilder"
  | 6 => .object "java/lang/StringBuilder"
  | 7 => .int
  | 8 => .int
  | 9 => .object "ButtonRegistry$Court"
  | 10 => .object "ButtonRegistry$Docket"
  | _ => .object "ButtonRegistry$Settlement"
abbrev wsX120 : List Cond := u_ws RX12 TX12 12
theorem nmX12 : ∀ a, a < 12 → ∀ b, b < 12 → a ≠ b → (TX12 a).2.1 ≠ (TX12 b).2.1 := by decide +kernel
theorem tyX12_ok : ∀ k, k < 12 → parseFieldDescriptor (TX12 k).2.2.1 = some (tyX12 k) := by decide +kernel
abbrev cX12_init : ByteArray := prog_1_method_1_code
def yX12_init : MethodName := ⟨RX12, "<init>", "()V"⟩
abbrev cX12_addButton : ByteArray := prog_1_method_2_code
def yX12_addButton : MethodName := ⟨RX12, "addButton", "()I"⟩
abbrev cX12_setBond : ByteArray := prog_1_method_3_code
def yX12_setBond : MethodName := ⟨RX12, "setBond", "(III)I"⟩
abbrev cX12_cutBond : ByteArray := prog_1_method_4_code
def yX12_cutBond : MethodName := ⟨RX12, "cutBond", "(II)I"⟩
abbrev cX12_addPrecedent : ByteArray := prog_1_method_5_code
def yX12_addPrecedent : MethodName := ⟨RX12, "addPrecedent", "(I)I"⟩
abbrev cX12_fileCase : ByteArray := prog_1_method_6_code
def yX12_fileCase : MethodName := ⟨RX12, "fileCase", "(IIIII)I"⟩
abbrev cX12_hear : ByteArray := prog_1_method_7_code
def yX12_hear : MethodName := ⟨RX12, "hear", "(I)I"⟩
abbrev cX12_appeal : ByteArray := prog_1_method_8_code
def yX12_appeal : MethodName := ⟨RX12, "appeal", "(I)I"⟩
abbrev cX12_withdraw : ByteArray := prog_1_method_9_code
def yX12_withdraw : MethodName := ⟨RX12, "withdraw", "(I)I"⟩
abbrev cX12_close : ByteArray := prog_1_method_10_code
def yX12_close : MethodName := ⟨RX12, "close", "(I)I"⟩
abbrev cX12_give : ByteArray := prog_1_method_11_code
def yX12_give : MethodName := ⟨RX12, "give", "(III)I"⟩
abbrev cX12_passDays : ByteArray := prog_1_method_12_code
def yX12_passDays : MethodName := ⟨RX12, "passDays", "(I)I"⟩
abbrev cX12_accept : ByteArray := prog_1_method_13_code
def yX12_accept : MethodName := ⟨RX12, "accept", "(LButtonRegistry$State;I)I"⟩
abbrev cX12_refuseFault : ByteArray := prog_1_method_14_code
def yX12_refuseFault : MethodName := ⟨RX12, "refuseFault", "(I)V"⟩
abbrev cX12_typeLetter : ByteArray := prog_1_method_15_code
def yX12_typeLetter : MethodName := ⟨RX12, "typeLetter", "(C)I"⟩
abbrev cX12_clearWord : ByteArray := prog_1_method_16_code
def yX12_clearWord : MethodName := ⟨RX12, "clearWord", "()I"⟩
abbrev cX12_isLetter : ByteArray := prog_1_method_17_code
def yX12_isLetter : MethodName := ⟨RX12, "isLetter", "(C)Z"⟩
abbrev cX12_isDigit : ByteArray := prog_1_method_18_code
def yX12_isDigit : MethodName := ⟨RX12, "isDigit", "(C)Z"⟩
abbrev cX12_day : ByteArray := prog_1_method_19_code
def yX12_day : MethodName := ⟨RX12, "day", "()I"⟩
abbrev cX12_buttonCount : ByteArray := prog_1_method_20_code
def yX12_buttonCount : MethodName := ⟨RX12, "buttonCount", "()I"⟩
abbrev cX12_balance : ByteArray := prog_1_method_21_code
def yX12_balance : MethodName := ⟨RX12, "balance", "(I)I"⟩
abbrev cX12_chest : ByteArray := prog_1_method_22_code
def yX12_chest : MethodName := ⟨RX12, "chest", "()I"⟩
abbrev cX12_tension : ByteArray := prog_1_method_23_code
def yX12_tension : MethodName := ⟨RX12, "tension", "(II)I"⟩
abbrev cX12_strain : ByteArray := prog_1_method_24_code
def yX12_strain : MethodName := ⟨RX12, "strain", "(II)I"⟩
abbrev cX12_strainByTable : ByteArray := prog_1_method_25_code
def yX12_strainByTable : MethodName := ⟨RX12, "strainByTable", "(II)I"⟩
abbrev cX12_forestTension : ByteArray := prog_1_method_26_code
def yX12_forestTension : MethodName := ⟨RX12, "forestTension", "()I"⟩
abbrev cX12_buttonByBalance : ByteArray := prog_1_method_29_code
def yX12_buttonByBalance : MethodName := ⟨RX12, "buttonByBalance", "(I)I"⟩
abbrev cX12_requireButton : ByteArray := prog_1_method_30_code
def yX12_requireButton : MethodName := ⟨RX12, "requireButton", "(I)V"⟩
abbrev cX12_requirePair : ByteArray := prog_1_method_31_code
def yX12_requirePair : MethodName := ⟨RX12, "requirePair", "(II)V"⟩
abbrev cX12_caseCount : ByteArray := prog_1_method_32_code
def yX12_caseCount : MethodName := ⟨RX12, "caseCount", "()I"⟩
abbrev cX12_caseAt : ByteArray := prog_1_method_33_code
def yX12_caseAt : MethodName := ⟨RX12, "caseAt", "(I)I"⟩
abbrev cX12_plaintiff : ByteArray := prog_1_method_34_code
def yX12_plaintiff : MethodName := ⟨RX12, "plaintiff", "(I)I"⟩
abbrev cX12_defendant : ByteArray := prog_1_method_35_code
def yX12_defendant : MethodName := ⟨RX12, "defendant", "(I)I"⟩
abbrev cX12_claim : ByteArray := prog_1_method_36_code
def yX12_claim : MethodName := ⟨RX12, "claim", "(I)I"⟩
abbrev cX12_duration : ByteArray := prog_1_method_37_code
def yX12_duration : MethodName := ⟨RX12, "duration", "(I)I"⟩
abbrev cX12_deadline : ByteArray := prog_1_method_38_code
def yX12_deadline : MethodName := ⟨RX12, "deadline", "(I)I"⟩
abbrev cX12_state : ByteArray := prog_1_method_39_code
def yX12_state : MethodName := ⟨RX12, "state", "(I)C"⟩
abbrev cX12_matterLength : ByteArray := prog_1_method_40_code
def yX12_matterLength : MethodName := ⟨RX12, "matterLength", "(I)I"⟩
abbrev cX12_matterLetter : ByteArray := prog_1_method_41_code
def yX12_matterLetter : MethodName := ⟨RX12, "matterLetter", "(II)C"⟩
abbrev cX12_percentage : ByteArray := prog_1_method_42_code
def yX12_percentage : MethodName := ⟨RX12, "percentage", "(I)I"⟩
abbrev cX12_award : ByteArray := prog_1_method_43_code
def yX12_award : MethodName := ⟨RX12, "award", "(I)I"⟩
abbrev cX12_cost : ByteArray := prog_1_method_44_code
def yX12_cost : MethodName := ⟨RX12, "cost", "(I)I"⟩
abbrev cX12_caseByClaim : ByteArray := prog_1_method_45_code
def yX12_caseByClaim : MethodName := ⟨RX12, "caseByClaim", "(I)I"⟩
abbrev cX12_meanClaim : ByteArray := prog_1_method_46_code
def yX12_meanClaim : MethodName := ⟨RX12, "meanClaim", "()D"⟩
abbrev cX12_ruledShare : ByteArray := prog_1_method_47_code
def yX12_ruledShare : MethodName := ⟨RX12, "ruledShare", "()F"⟩
abbrev cX12_existingCase : ByteArray := prog_1_method_48_code
def yX12_existingCase : MethodName := ⟨RX12, "existingCase", "(I)LButtonRegistry$Case;"⟩
abbrev cX12_decidedCase : ByteArray := prog_1_method_49_code
def yX12_decidedCase : MethodName := ⟨RX12, "decidedCase", "(I)LButtonRegistry$Case;"⟩
abbrev cX12_nearestPrecedent : ByteArray := prog_1_method_50_code
def yX12_nearestPrecedent : MethodName := ⟨RX12, "nearestPrecedent", "(I)I"⟩
abbrev cX12_precedentCount : ByteArray := prog_1_method_51_code
def yX12_precedentCount : MethodName := ⟨RX12, "precedentCount", "()I"⟩
abbrev cX12_precedentPercentage : ByteArray := prog_1_method_52_code
def yX12_precedentPercentage : MethodName := ⟨RX12, "precedentPercentage", "(I)I"⟩
abbrev cX12_distance : ByteArray := prog_1_method_53_code
def yX12_distance : MethodName := ⟨RX12, "distance", "(II)I"⟩
abbrev cX12_distanceByEnds : ByteArray := prog_1_method_54_code
def yX12_distanceByEnds : MethodName := ⟨RX12, "distanceByEnds", "(II)I"⟩
abbrev cX12_existingPrecedent : ByteArray := prog_1_method_55_code
def yX12_existingPrecedent : MethodName := ⟨RX12, "existingPrecedent", "(I)LButtonRegistry$Precedent;"⟩
abbrev cX12_bestDocket : ByteArray := prog_1_method_56_code
def yX12_bestDocket : MethodName := ⟨RX12, "bestDocket", "()I"⟩
abbrev cX12_fewestTransfers : ByteArray := prog_1_method_58_code
def yX12_fewestTransfers : MethodName := ⟨RX12, "fewestTransfers", "()I"⟩
abbrev cX12_renderCase : ByteArray := prog_1_method_63_code
def yX12_renderCase : MethodName := ⟨RX12, "renderCase", "(I)I"⟩
abbrev cX12_renderBonds : ByteArray := prog_1_method_64_code
def yX12_renderBonds : MethodName := ⟨RX12, "renderBonds", "(I)I"⟩
abbrev cX12_outputAt : ByteArray := prog_1_method_65_code
def yX12_outputAt : MethodName := ⟨RX12, "outputAt", "(I)C"⟩
abbrev cX12_type : ByteArray := prog_1_method_66_code
def yX12_type : MethodName := ⟨RX12, "type", "(C)I"⟩
abbrev cX12_runScript : ByteArray := prog_1_method_67_code
def yX12_runScript : MethodName := ⟨RX12, "runScript", "()I"⟩
abbrev cX12_errorPosition : ByteArray := prog_1_method_68_code
def yX12_errorPosition : MethodName := ⟨RX12, "errorPosition", "()I"⟩
abbrev cX12_failedCommand : ByteArray := prog_1_method_69_code
def yX12_failedCommand : MethodName := ⟨RX12, "failedCommand", "()I"⟩
abbrev cX12_undo : ByteArray := prog_1_method_70_code
def yX12_undo : MethodName := ⟨RX12, "undo", "()I"⟩
abbrev cX12_save : ByteArray := prog_1_method_71_code
def yX12_save : MethodName := ⟨RX12, "save", "()I"⟩
abbrev cX12_restore : ByteArray := prog_1_method_72_code
def yX12_restore : MethodName := ⟨RX12, "restore", "()I"⟩
def RX13 : String := "ButtonRegistryModel"
def TX13 : u_T := fun k => match k with
  | _ => ("", "", "", false)
def tyX13 : Nat → FieldType := fun k => match k with
  | _ => .int
abbrev wsX130 : List Cond := u_ws RX13 TX13 0
theorem nmX13 : ∀ a, a < 0 → ∀ b, b < 0 → a ≠ b → (TX13 a).2.1 ≠ (TX13 b).2.1 := by decide +kernel
theorem tyX13_ok : ∀ k, k < 0 → parseFieldDescriptor (TX13 k).2.2.1 = some (tyX13 k) := by decide +kernel
def RJx145de : String := "java/io/Serializable"
def TJx145de : u_T := fun k => match k with
  | _ => ("", "", "", false)
def tyJx145de : Nat → FieldType := fun k => match k with
  | _ => .int
abbrev wsJx145de0 : List Cond := u_ws RJx145de TJx145de 0
theorem nmJx145de : ∀ a, a < 0 → ∀ b, b < 0 → a ≠ b → (TJx145de a).2.1 ≠ (TJx145de b).2.1 := by decide +kernel
theorem tyJx145de_ok : ∀ k, k < 0 → parseFieldDescriptor (TJx145de k).2.2.1 = some (tyJx145de k) := by decide +kernel
def RJ5 : String := "java/lang/AbstractStringBuilder"
def TJ5 : u_T := fun k => match k with
  | _ => ("", "", "", false)
def tyJ5 : Nat → FieldType := fun k => match k with
  | _ => .int
abbrev wsJ50 : List Cond := u_ws RJ5 TJ5 0
theorem nmJ5 : ∀ a, a < 0 → ∀ b, b < 0 → a ≠ b → (TJ5 a).2.1 ≠ (TJ5 b).2.1 := by decide +kernel
theorem tyJ5_ok : ∀ k, k < 0 → parseFieldDescriptor (TJ5 k).2.2.1 = some (tyJ5 k) := by decide +kernel
abbrev cJ5_init_d00df : ByteArray := prog_17_method_2_code
def yJ5_init_d00df : MethodName := ⟨RJ5, "<init>", "(I)V"⟩
abbrev cJ5_length_8abf5 : ByteArray := prog_17_method_6_code
def yJ5_length_8abf5 : MethodName := ⟨RJ5, "length", "()I"⟩
abbrev cJ5_ensureCapacityInternal_d00df : ByteArray := prog_17_method_9_code
def yJ5_ensureCapacityInternal_d00df : MethodName := ⟨RJ5, "ensureCapacityInternal", "(I)V"⟩
abbrev cJ5_newCapacity_0f7a4 : ByteArray := prog_17_method_10_code
def yJ5_newCapacity_0f7a4 : MethodName := ⟨RJ5, "newCapacity", "(I)I"⟩
abbrev cJ5_inflate_da8c8 : ByteArray := prog_17_method_11_code
def yJ5_inflate_da8c8 : MethodName := ⟨RJ5, "inflate", "()V"⟩
abbrev cJ5_setLength_d00df : ByteArray := prog_17_method_13_code
def yJ5_setLength_d00df : MethodName := ⟨RJ5, "setLength", "(I)V"⟩
abbrev cJ5_charAt_5068e : ByteArray := prog_17_method_14_code
def yJ5_charAt_5068e : MethodName := ⟨RJ5, "charAt", "(I)C"⟩
abbrev cJ5_append_cf1ce : ByteArray := prog_17_method_22_code
def yJ5_append_cf1ce : MethodName := ⟨RJ5, "append", "(Ljava/lang/String;)Ljava/lang/AbstractStringBuilder;"⟩
abbrev cJ5_appendNull_278bc : ByteArray := prog_17_method_26_code
def yJ5_appendNull_278bc : MethodName := ⟨RJ5, "appendNull", "()Ljava/lang/AbstractStringBuilder;"⟩
abbrev cJ5_append_3fe6f : ByteArray := prog_17_method_31_code
def yJ5_append_3fe6f : MethodName := ⟨RJ5, "append", "(C)Ljava/lang/AbstractStringBuilder;"⟩
abbrev cJ5_append_c97b9 : ByteArray := prog_17_method_32_code
def yJ5_append_c97b9 : MethodName := ⟨RJ5, "append", "(I)Ljava/lang/AbstractStringBuilder;"⟩
abbrev cJ5_getValue_6d5f1 : ByteArray := prog_17_method_64_code
def yJ5_getValue_6d5f1 : MethodName := ⟨RJ5, "getValue", "()[B"⟩
abbrev cJ5_isLatin1_aae02 : ByteArray := prog_17_method_68_code
def yJ5_isLatin1_aae02 : MethodName := ⟨RJ5, "isLatin1", "()Z"⟩
abbrev cJ5_inflateIfNeededFor_a7421 : ByteArray := prog_17_method_71_code
def yJ5_inflateIfNeededFor_a7421 : MethodName := ⟨RJ5, "inflateIfNeededFor", "(Ljava/lang/String;)V"⟩
abbrev cJ5_putStringAt_47b60 : ByteArray := prog_17_method_73_code
def yJ5_putStringAt_47b60 : MethodName := ⟨RJ5, "putStringAt", "(ILjava/lang/String;)V"⟩
def RJx2cfe8 : String := "java/lang/Appendable"
def TJx2cfe8 : u_T := fun k => match k with
  | _ => ("", "", "", false)
def tyJx2cfe8 : Nat → FieldType := fun k => match k with
  | _ => .int
abbrev wsJx2cfe80 : List Cond := u_ws RJx2cfe8 TJx2cfe8 0
theorem nmJx2cfe8 : ∀ a, a < 0 → ∀ b, b < 0 → a ≠ b → (TJx2cfe8 a).2.1 ≠ (TJx2cfe8 b).2.1 := by decide +kernel
theorem tyJx2cfe8_ok : ∀ k, k < 0 → parseFieldDescriptor (TJx2cfe8 k).2.2.1 = some (tyJx2cfe8 k) := by decide +kernel
def RJx00060 : String := "java/lang/ArrayIndexOutOfBoundsException"
def TJx00060 : u_T := fun k => match k with
  | 0 => ("java/lang/Throwable", "cause", "Ljava/lang/Throwable;", false)
  | 1 => ("java/lang/Throwable", "stackTrace", "[Ljava/lang/StackTraceElement;", false)
  | 2 => ("java/lang/Throwable", "suppressedExceptions", "Ljava/util/List;", false)
  | 3 => ("java/lang/Throwable", "detailMessage", "Ljava/lang/String;", false)
  | 4 => ("java/lang/Throwable", "backtrace", "Ljava/lang/Object;", false)
  | _ => ("java/lang/Throwable", "depth", "I", false)
def tyJx00060 : Nat → FieldType := fun k => match k with
  | 0 => .object "java/lang/Throwable"
  | 1 => .array (.object "java/lang/StackTraceElement")
  | 2 => .object "java/util/List"
  | 3 => .object "java/lang/String"
  | 4 => .object "java/lang/Object"
  | _ => .int
abbrev wsJx000600 : List Cond := u_ws RJx00060 TJx00060 6
theorem nmJx00060 : ∀ a, a < 6 → ∀ b, b < 6 → a ≠ b → (TJx00060 a).2.1 ≠ (TJx00060 b).2.1 := by decide +kernel
theorem tyJx00060_ok : ∀ k, k < 6 → parseFieldDescriptor (TJx00060 k).2.2.1 = some (tyJx00060 k) := by decide +kernel
abbrev cJx00060_init_a7421 : ByteArray := prog_20_method_2_code
def yJx00060_init_a7421 : MethodName := ⟨RJx00060, "<init>", "(Ljava/lang/String;)V"⟩
abbrev cJx00060_init_d00df : ByteArray := prog_20_method_3_code
def yJx00060_init_d00df : MethodName := ⟨RJx00060, "<init>", "(I)V"⟩
def RJx9f9b0 : String := "java/lang/CharSequence"
def TJx9f9b0 : u_T := fun k => match k with
  | _ => ("", "", "", false)
def tyJx9f9b0 : Nat → FieldType := fun k => match k with
  | _ => .int
abbrev wsJx9f9b00 : List Cond := u_ws RJx9f9b0 TJx9f9b0 0
theorem nmJx9f9b0 : ∀ a, a < 0 → ∀ b, b < 0 → a ≠ b → (TJx9f9b0 a).2.1 ≠ (TJx9f9b0 b).2.1 := by decide +kernel
theorem tyJx9f9b0_ok : ∀ k, k < 0 → parseFieldDescriptor (TJx9f9b0 k).2.2.1 = some (tyJx9f9b0 k) := by decide +kernel
def RJx8e188 : String := "java/lang/Cloneable"
def TJx8e188 : u_T := fun k => match k with
  | _ => ("", "", "", false)
def tyJx8e188 : Nat → FieldType := fun k => match k with
  | _ => .int
abbrev wsJx8e1880 : List Cond := u_ws RJx8e188 TJx8e188 0
theorem nmJx8e188 : ∀ a, a < 0 → ∀ b, b < 0 → a ≠ b → (TJx8e188 a).2.1 ≠ (TJx8e188 b).2.1 := by decide +kernel
theorem tyJx8e188_ok : ∀ k, k < 0 → parseFieldDescriptor (TJx8e188 k).2.2.1 = some (tyJx8e188 k) := by decide +kernel
def RJxb160c : String := "java/lang/Comparable"
def TJxb160c : u_T := fun k => match k with
  | _ => ("", "", "", false)
def tyJxb160c : Nat → FieldType := fun k => match k with
  | _ => .int
abbrev wsJxb160c0 : List Cond := u_ws RJxb160c TJxb160c 0
theorem nmJxb160c : ∀ a, a < 0 → ∀ b, b < 0 → a ≠ b → (TJxb160c a).2.1 ≠ (TJxb160c b).2.1 := by decide +kernel
theorem tyJxb160c_ok : ∀ k, k < 0 → parseFieldDescriptor (TJxb160c k).2.2.1 = some (tyJxb160c k) := by decide +kernel
def RJxe99ae : String := "java/lang/Double"
def TJxe99ae : u_T := fun k => match k with
  | _ => ("", "", "", false)
def tyJxe99ae : Nat → FieldType := fun k => match k with
  | _ => .int
abbrev wsJxe99ae0 : List Cond := u_ws RJxe99ae TJxe99ae 0
theorem nmJxe99ae : ∀ a, a < 0 → ∀ b, b < 0 → a ≠ b → (TJxe99ae a).2.1 ≠ (TJxe99ae b).2.1 := by decide +kernel
theorem tyJxe99ae_ok : ∀ k, k < 0 → parseFieldDescriptor (TJxe99ae k).2.2.1 = some (tyJxe99ae k) := by decide +kernel
abbrev cJxe99ae_isNaN_b9ae7 : ByteArray := prog_24_method_6_code
def yJxe99ae_isNaN_b9ae7 : MethodName := ⟨RJxe99ae, "isNaN", "(D)Z"⟩
abbrev cJxe99ae_doubleToLongBits_ccdee : ByteArray := prog_24_method_23_code
def yJxe99ae_doubleToLongBits_ccdee : MethodName := ⟨RJxe99ae, "doubleToLongBits", "(D)J"⟩
def RJx29ce0 : String := "java/lang/Enum"
def TJx29ce0 : u_T := fun k => match k with
  | _ => ("", "", "", false)
def tyJx29ce0 : Nat → FieldType := fun k => match k with
  | _ => .int
abbrev wsJx29ce00 : List Cond := u_ws RJx29ce0 TJx29ce0 0
theorem nmJx29ce0 : ∀ a, a < 0 → ∀ b, b < 0 → a ≠ b → (TJx29ce0 a).2.1 ≠ (TJx29ce0 b).2.1 := by decide +kernel
theorem tyJx29ce0_ok : ∀ k, k < 0 → parseFieldDescriptor (TJx29ce0 k).2.2.1 = some (tyJx29ce0 k) := by decide +kernel
abbrev cJx29ce0_ordinal_8abf5 : ByteArray := prog_25_method_2_code
def yJx29ce0_ordinal_8abf5 : MethodName := ⟨RJx29ce0, "ordinal", "()I"⟩
def RJxf58ca : String := "java/lang/Float"
def TJxf58ca : u_T := fun k => match k with
  | _ => ("", "", "", false)
def tyJxf58ca : Nat → FieldType := fun k => match k with
  | _ => .int
abbrev wsJxf58ca0 : List Cond := u_ws RJxf58ca TJxf58ca 0
theorem nmJxf58ca : ∀ a, a < 0 → ∀ b, b < 0 → a ≠ b → (TJxf58ca a).2.1 ≠ (TJxf58ca b).2.1 := by decide +kernel
theorem tyJxf58ca_ok : ∀ k, k < 0 → parseFieldDescriptor (TJxf58ca k).2.2.1 = some (tyJxf58ca k) := by decide +kernel
abbrev cJxf58ca_isNaN_12338 : ByteArray := prog_27_method_6_code
def yJxf58ca_isNaN_12338 : MethodName := ⟨RJxf58ca, "isNaN", "(F)Z"⟩
abbrev cJxf58ca_floatToIntBits_5c35a : ByteArray := prog_27_method_24_code
def yJxf58ca_floatToIntBits_5c35a : MethodName := ⟨RJxf58ca, "floatToIntBits", "(F)I"⟩
def RJ6 : String := "java/lang/Integer"
def TJ6 : u_T := fun k => match k with
  | _ => ("", "", "", false)
def tyJ6 : Nat → FieldType := fun k => match k with
  | _ => .int
abbrev wsJ60 : List Cond := u_ws RJ6 TJ6 0
theorem nmJ6 : ∀ a, a < 0 → ∀ b, b < 0 → a ≠ b → (TJ6 a).2.1 ≠ (TJ6 b).2.1 := by decide +kernel
theorem tyJ6_ok : ∀ k, k < 0 → parseFieldDescriptor (TJ6 k).2.2.1 = some (tyJ6 k) := by decide +kernel
abbrev cJ6_getChars_ba4f3 : ByteArray := prog_31_method_12_code
def yJ6_getChars_ba4f3 : MethodName := ⟨RJ6, "getChars", "(II[B)I"⟩
abbrev cJ6_stringSize_0f7a4 : ByteArray := prog_31_method_13_code
def yJ6_stringSize_0f7a4 : MethodName := ⟨RJ6, "stringSize", "(I)I"⟩
def RJxab1ab : String := "java/lang/Iterable"
def TJxab1ab : u_T := fun k => match k with
  | _ => ("", "", "", false)
def tyJxab1ab : Nat → FieldType := fun k => match k with
  | _ => .int
abbrev wsJxab1ab0 : List Cond := u_ws RJxab1ab TJxab1ab 0
theorem nmJxab1ab : ∀ a, a < 0 → ∀ b, b < 0 → a ≠ b → (TJxab1ab a).2.1 ≠ (TJxab1ab b).2.1 := by decide +kernel
theorem tyJxab1ab_ok : ∀ k, k < 0 → parseFieldDescriptor (TJxab1ab k).2.2.1 = some (tyJxab1ab k) := by decide +kernel
def RJ9 : String := "java/lang/Math"
def TJ9 : u_T := fun k => match k with
  | _ => ("", "", "", false)
def tyJ9 : Nat → FieldType := fun k => match k with
  | _ => .int
abbrev wsJ90 : List Cond := u_ws RJ9 TJ9 0
theorem nmJ9 : ∀ a, a < 0 → ∀ b, b < 0 → a ≠ b → (TJ9 a).2.1 ≠ (TJ9 b).2.1 := by decide +kernel
theorem tyJ9_ok : ∀ k, k < 0 → parseFieldDescriptor (TJ9 k).2.2.1 = some (tyJ9 k) := by decide +kernel
abbrev cJ9_max_7cf53 : ByteArray := prog_33_method_65_code
def yJ9_max_7cf53 : MethodName := ⟨RJ9, "max", "(II)I"⟩
abbrev cJ9_min_7cf53 : ByteArray := prog_33_method_69_code
def yJ9_min_7cf53 : MethodName := ⟨RJ9, "min", "(II)I"⟩
def RJxd2413 : String := "java/lang/Number"
def TJxd2413 : u_T := fun k => match k with
  | _ => ("", "", "", false)
def tyJxd2413 : Nat → FieldType := fun k => match k with
  | _ => .int
abbrev wsJxd24130 : List Cond := u_ws RJxd2413 TJxd2413 0
theorem nmJxd2413 : ∀ a, a < 0 → ∀ b, b < 0 → a ≠ b → (TJxd2413 a).2.1 ≠ (TJxd2413 b).2.1 := by decide +kernel
theorem tyJxd2413_ok : ∀ k, k < 0 → parseFieldDescriptor (TJxd2413 k).2.2.1 = some (tyJxd2413 k) := by decide +kernel
def RJ0 : String := "java/lang/String"
def TJ0 : u_T := fun k => match k with
  | 0 => ("java/lang/String", "value", "[B", true)
  | 1 => ("java/lang/String", "coder", "B", true)
  | 2 => ("java/lang/String", "hash", "I", false)
  | _ => ("java/lang/String", "hashIsZero", "Z", false)
def tyJ0 : Nat → FieldType := fun k => match k with
  | 0 => .array .byte
  | 1 => .byte
  | 2 => .int
  | _ => .boolean
abbrev wsJ00 : List Cond := u_ws RJ0 TJ0 4
theorem nmJ0 : ∀ a, a < 4 → ∀ b, b < 4 → a ≠ b → (TJ0 a).2.1 ≠ (TJ0 b).2.1 := by decide +kernel
theorem tyJ0_ok : ∀ k, k < 4 → parseFieldDescriptor (TJ0 k).2.2.1 = some (tyJ0 k) := by decide +kernel
abbrev cJ0_init_81219 : ByteArray := prog_36_method_53_code
def yJ0_init_81219 : MethodName := ⟨RJ0, "<init>", "(Ljava/lang/StringBuilder;)V"⟩
abbrev cJ0_length_8abf5 : ByteArray := prog_36_method_54_code
def yJ0_length_8abf5 : MethodName := ⟨RJ0, "length", "()I"⟩
abbrev cJ0_isEmpty_aae02 : ByteArray := prog_36_method_55_code
def yJ0_isEmpty_aae02 : MethodName := ⟨RJ0, "isEmpty", "()Z"⟩
abbrev cJ0_charAt_5068e : ByteArray := prog_36_method_56_code
def yJ0_charAt_5068e : MethodName := ⟨RJ0, "charAt", "(I)C"⟩
abbrev cJ0_substring_37a41 : ByteArray := prog_36_method_92_code
def yJ0_substring_37a41 : MethodName := ⟨RJ0, "substring", "(II)Ljava/lang/String;"⟩
abbrev cJ0_getBytes_840e7 : ByteArray := prog_36_method_147_code
def yJ0_getBytes_840e7 : MethodName := ⟨RJ0, "getBytes", "([BIB)V"⟩
abbrev cJ0_init_db425 : ByteArray := prog_36_method_150_code
def yJ0_init_db425 : MethodName := ⟨RJ0, "<init>", "(Ljava/lang/AbstractStringBuilder;Ljava/lang/Void;)V"⟩
abbrev cJ0_init_031fb : ByteArray := prog_36_method_151_code
def yJ0_init_031fb : MethodName := ⟨RJ0, "<init>", "([BB)V"⟩
abbrev cJ0_coder_7d493 : ByteArray := prog_36_method_152_code
def yJ0_coder_7d493 : MethodName := ⟨RJ0, "coder", "()B"⟩
abbrev cJ0_isLatin1_aae02 : ByteArray := prog_36_method_154_code
def yJ0_isLatin1_aae02 : MethodName := ⟨RJ0, "isLatin1", "()Z"⟩
abbrev cJ0_checkIndex_df160 : ByteArray := prog_36_method_155_code
def yJ0_checkIndex_df160 : MethodName := ⟨RJ0, "checkIndex", "(II)V"⟩
abbrev cJ0_checkBoundsOffCount_cabcc : ByteArray := prog_36_method_157_code
def yJ0_checkBoundsOffCount_cabcc : MethodName := ⟨RJ0, "checkBoundsOffCount", "(III)I"⟩
abbrev cJ0_checkBoundsBeginEnd_23922 : ByteArray := prog_36_method_158_code
def yJ0_checkBoundsBeginEnd_23922 : MethodName := ⟨RJ0, "checkBoundsBeginEnd", "(III)V"⟩
def RJ4 : String := "java/lang/StringBuilder"
def TJ4 : u_T := fun k => match k with
  | 0 => ("java/lang/AbstractStringBuilder", "value", "[B", false)
  | 1 => ("java/lang/AbstractStringBuilder", "coder", "B", false)
  | 2 => ("java/lang/AbstractStringBuilder", "maybeLatin1", "Z", false)
  | _ => ("java/lang/AbstractStringBuilder", "count", "I", false)
def tyJ4 : Nat → FieldType := fun k => match k with
  | 0 => .array .byte
  | 1 => .byte
  | 2 => .boolean
  | _ => .int
abbrev wsJ40 : List Cond := u_ws RJ4 TJ4 4
theorem nmJ4 : ∀ a, a < 4 → ∀ b, b < 4 → a ≠ b → (TJ4 a).2.1 ≠ (TJ4 b).2.1 := by decide +kernel
theorem tyJ4_ok : ∀ k, k < 4 → parseFieldDescriptor (TJ4 k).2.2.1 = some (tyJ4 k) := by decide +kernel
abbrev cJ4_init_da8c8 : ByteArray := prog_37_method_1_code
def yJ4_init_da8c8 : MethodName := ⟨RJ4, "<init>", "()V"⟩
abbrev cJ4_append_15ec4 : ByteArray := prog_37_method_7_code
def yJ4_append_15ec4 : MethodName := ⟨RJ4, "append", "(Ljava/lang/String;)Ljava/lang/StringBuilder;"⟩
abbrev cJ4_append_cf468 : ByteArray := prog_37_method_14_code
def yJ4_append_cf468 : MethodName := ⟨RJ4, "append", "(C)Ljava/lang/StringBuilder;"⟩
abbrev cJ4_append_bf812 : ByteArray := prog_37_method_15_code
def yJ4_append_bf812 : MethodName := ⟨RJ4, "append", "(I)Ljava/lang/StringBuilder;"⟩
abbrev cJ4_toString_0e30d : ByteArray := prog_37_method_42_code
def yJ4_toString_0e30d : MethodName := ⟨RJ4, "toString", "()Ljava/lang/String;"⟩
abbrev cJ4_charAt_5068e : ByteArray := prog_37_method_88_code
def yJ4_charAt_5068e : MethodName := ⟨RJ4, "charAt", "(I)C"⟩
abbrev cJ4_setLength_d00df : ByteArray := prog_37_method_89_code
def yJ4_setLength_d00df : MethodName := ⟨RJ4, "setLength", "(I)V"⟩
abbrev cJ4_length_8abf5 : ByteArray := prog_37_method_93_code
def yJ4_length_8abf5 : MethodName := ⟨RJ4, "length", "()I"⟩
def RJx7c733 : String := "java/lang/StringIndexOutOfBoundsException"
def TJx7c733 : u_T := fun k => match k with
  | 0 => ("java/lang/Throwable", "backtrace", "Ljava/lang/Object;", false)
  | 1 => ("java/lang/Throwable", "detailMessage", "Ljava/lang/String;", false)
  | 2 => ("java/lang/Throwable", "cause", "Ljava/lang/Throwable;", false)
  | 3 => ("java/lang/Throwable", "stackTrace", "[Ljava/lang/StackTraceElement;", false)
  | 4 => ("java/lang/Throwable", "depth", "I", false)
  | _ => ("java/lang/Throwable", "suppressedExceptions", "Ljava/util/List;", false)
def tyJx7c733 : Nat → FieldType := fun k => match k with
  | 0 => .object "java/lang/Object"
  | 1 => .object "java/lang/String"
  | 2 => .object "java/lang/Throwable"
  | 3 => .array (.object "java/lang/StackTraceElement")
  | 4 => .int
  | _ => .object "java/util/List"
abbrev wsJx7c7330 : List Cond := u_ws RJx7c733 TJx7c733 6
theorem nmJx7c733 : ∀ a, a < 6 → ∀ b, b < 6 → a ≠ b → (TJx7c733 a).2.1 ≠ (TJx7c733 b).2.1 := by decide +kernel
theorem tyJx7c733_ok : ∀ k, k < 6 → parseFieldDescriptor (TJx7c733 k).2.2.1 = some (tyJx7c733 k) := by decide +kernel
abbrev cJx7c733_init_d00df : ByteArray := prog_38_method_3_code
def yJx7c733_init_d00df : MethodName := ⟨RJx7c733, "<init>", "(I)V"⟩
def RJ1 : String := "java/lang/StringLatin1"
def TJ1 : u_T := fun k => match k with
  | _ => ("", "", "", false)
def tyJ1 : Nat → FieldType := fun k => match k with
  | _ => .int
abbrev wsJ10 : List Cond := u_ws RJ1 TJ1 0
theorem nmJ1 : ∀ a, a < 0 → ∀ b, b < 0 → a ≠ b → (TJ1 a).2.1 ≠ (TJ1 b).2.1 := by decide +kernel
theorem tyJ1_ok : ∀ k, k < 0 → parseFieldDescriptor (TJ1 k).2.2.1 = some (tyJ1 k) := by decide +kernel
abbrev cJ1_charAt_3b067 : ByteArray := prog_39_method_2_code
def yJ1_charAt_3b067 : MethodName := ⟨RJ1, "charAt", "([BI)C"⟩
abbrev cJ1_canEncode_fc78d : ByteArray := prog_39_method_3_code
def yJ1_canEncode_fc78d : MethodName := ⟨RJ1, "canEncode", "(C)Z"⟩
abbrev cJ1_newString_b4f7a : ByteArray := prog_39_method_47_code
def yJ1_newString_b4f7a : MethodName := ⟨RJ1, "newString", "([BII)Ljava/lang/String;"⟩
abbrev cJ1_fillNull_b72d1 : ByteArray := prog_39_method_48_code
def yJ1_fillNull_b72d1 : MethodName := ⟨RJ1, "fillNull", "([BII)V"⟩
abbrev cJ1_inflate_0e8fd : ByteArray := prog_39_method_50_code
def yJ1_inflate_0e8fd : MethodName := ⟨RJ1, "inflate", "([BI[BII)V"⟩
def RJ2 : String := "java/lang/StringUTF16"
def TJ2 : u_T := fun k => match k with
  | _ => ("", "", "", false)
def tyJ2 : Nat → FieldType := fun k => match k with
  | _ => .int
abbrev wsJ20 : List Cond := u_ws RJ2 TJ2 0
theorem nmJ2 : ∀ a, a < 0 → ∀ b, b < 0 → a ≠ b → (TJ2 a).2.1 ≠ (TJ2 b).2.1 := by decide +kernel
theorem tyJ2_ok : ∀ k, k < 0 → parseFieldDescriptor (TJ2 k).2.2.1 = some (tyJ2 k) := by decide +kernel
abbrev cJ2_newBytesFor_77867 : ByteArray := prog_40_method_2_code
def yJ2_newBytesFor_77867 : MethodName := ⟨RJ2, "newBytesFor", "(I)[B"⟩
abbrev cJ2_newBytesLength_0f7a4 : ByteArray := prog_40_method_3_code
def yJ2_newBytesLength_0f7a4 : MethodName := ⟨RJ2, "newBytesLength", "(I)I"⟩
abbrev cJ2_putChar_b72d1 : ByteArray := prog_40_method_4_code
def yJ2_putChar_b72d1 : MethodName := ⟨RJ2, "putChar", "([BII)V"⟩
abbrev cJ2_getChar_3b067 : ByteArray := prog_40_method_5_code
def yJ2_getChar_3b067 : MethodName := ⟨RJ2, "getChar", "([BI)C"⟩
abbrev cJ2_length_9d52b : ByteArray := prog_40_method_6_code
def yJ2_length_9d52b : MethodName := ⟨RJ2, "length", "([B)I"⟩
abbrev cJ2_coderFromArrayLen_85cad : ByteArray := prog_40_method_15_code
def yJ2_coderFromArrayLen_85cad : MethodName := ⟨RJ2, "coderFromArrayLen", "([BI)B"⟩
abbrev cJ2_compress_39247 : ByteArray := prog_40_method_17_code
def yJ2_compress_39247 : MethodName := ⟨RJ2, "compress", "([BII)[B"⟩
abbrev cJ2_compress_5af95 : ByteArray := prog_40_method_22_code
def yJ2_compress_5af95 : MethodName := ⟨RJ2, "compress", "([BI[BII)I"⟩
abbrev cJ2_newString_b4f7a : ByteArray := prog_40_method_69_code
def yJ2_newString_b4f7a : MethodName := ⟨RJ2, "newString", "([BII)Ljava/lang/String;"⟩
abbrev cJ2_fillNull_b72d1 : ByteArray := prog_40_method_70_code
def yJ2_fillNull_b72d1 : MethodName := ⟨RJ2, "fillNull", "([BII)V"⟩
abbrev cJ2_putCharSB_b72d1 : ByteArray := prog_40_method_71_code
def yJ2_putCharSB_b72d1 : MethodName := ⟨RJ2, "putCharSB", "([BII)V"⟩
abbrev cJ2_getChars_46870 : ByteArray := prog_40_method_77_code
def yJ2_getChars_46870 : MethodName := ⟨RJ2, "getChars", "(III[B)I"⟩
abbrev cJ2_putCharsAt_cd4e5 : ByteArray := prog_40_method_81_code
def yJ2_putCharsAt_cd4e5 : MethodName := ⟨RJ2, "putCharsAt", "([BICCCC)I"⟩
abbrev cJ2_charAt_3b067 : ByteArray := prog_40_method_83_code
def yJ2_charAt_3b067 : MethodName := ⟨RJ2, "charAt", "([BI)C"⟩
abbrev cJ2_inflate_0e8fd : ByteArray := prog_40_method_86_code
def yJ2_inflate_0e8fd : MethodName := ⟨RJ2, "inflate", "([BI[BII)V"⟩
abbrev cJ2_getChars_ba4f3 : ByteArray := prog_40_method_89_code
def yJ2_getChars_ba4f3 : MethodName := ⟨RJ2, "getChars", "(II[B)I"⟩
abbrev cJ2_checkIndex_2214a : ByteArray := prog_40_method_91_code
def yJ2_checkIndex_2214a : MethodName := ⟨RJ2, "checkIndex", "(I[B)V"⟩
abbrev cJ2_checkBoundsBeginEnd_d044e : ByteArray := prog_40_method_93_code
def yJ2_checkBoundsBeginEnd_d044e : MethodName := ⟨RJ2, "checkBoundsBeginEnd", "(II[B)V"⟩
abbrev cJ2_checkBoundsOffCount_d044e : ByteArray := prog_40_method_94_code
def yJ2_checkBoundsOffCount_d044e : MethodName := ⟨RJ2, "checkBoundsOffCount", "(II[B)V"⟩
def RJ10 : String := "java/lang/System"
def TJ10 : u_T := fun k => match k with
  | _ => ("", "", "", false)
def tyJ10 : Nat → FieldType := fun k => match k with
  | _ => .int
abbrev wsJ100 : List Cond := u_ws RJ10 TJ10 0
theorem nmJ10 : ∀ a, a < 0 → ∀ b, b < 0 → a ≠ b → (TJ10 a).2.1 ≠ (TJ10 b).2.1 := by decide +kernel
theorem tyJ10_ok : ∀ k, k < 0 → parseFieldDescriptor (TJ10 k).2.2.1 = some (tyJ10 k) := by decide +kernel
def RJxfd54e : String := "java/lang/constant/Constable"
def TJxfd54e : u_T := fun k => match k with
  | _ => ("", "", "", false)
def tyJxfd54e : Nat → FieldType := fun k => match k with
  | _ => .int
abbrev wsJxfd54e0 : List Cond := u_ws RJxfd54e TJxfd54e 0
theorem nmJxfd54e : ∀ a, a < 0 → ∀ b, b < 0 → a ≠ b → (TJxfd54e a).2.1 ≠ (TJxfd54e b).2.1 := by decide +kernel
theorem tyJxfd54e_ok : ∀ k, k < 0 → parseFieldDescriptor (TJxfd54e k).2.2.1 = some (tyJxfd54e k) := by decide +kernel
def RJx3cf43 : String := "java/lang/constant/ConstantDesc"
def TJx3cf43 : u_T := fun k => match k with
  | _ => ("", "", "", false)
def tyJx3cf43 : Nat → FieldType := fun k => match k with
  | _ => .int
abbrev wsJx3cf430 : List Cond := u_ws RJx3cf43 TJx3cf43 0
theorem nmJx3cf43 : ∀ a, a < 0 → ∀ b, b < 0 → a ≠ b → (TJx3cf43 a).2.1 ≠ (TJx3cf43 b).2.1 := by decide +kernel
theorem tyJx3cf43_ok : ∀ k, k < 0 → parseFieldDescriptor (TJx3cf43 k).2.2.1 = some (tyJx3cf43 k) := by decide +kernel
def RJxa1e45 : String := "java/util/AbstractCollection"
def TJxa1e45 : u_T := fun k => match k with
  | _ => ("", "", "", false)
def tyJxa1e45 : Nat → FieldType := fun k => match k with
  | _ => .int
abbrev wsJxa1e450 : List Cond := u_ws RJxa1e45 TJxa1e45 0
theorem nmJxa1e45 : ∀ a, a < 0 → ∀ b, b < 0 → a ≠ b → (TJxa1e45 a).2.1 ≠ (TJxa1e45 b).2.1 := by decide +kernel
theorem tyJxa1e45_ok : ∀ k, k < 0 → parseFieldDescriptor (TJxa1e45 k).2.2.1 = some (tyJxa1e45 k) := by decide +kernel
abbrev cJxa1e45_init_da8c8 : ByteArray := prog_46_method_1_code
def yJxa1e45_init_da8c8 : MethodName := ⟨RJxa1e45, "<init>", "()V"⟩
def RJxc12de : String := "java/util/AbstractList"
def TJxc12de : u_T := fun k => match k with
  | _ => ("", "", "", false)
def tyJxc12de : Nat → FieldType := fun k => match k with
  | _ => .int
abbrev wsJxc12de0 : List Cond := u_ws RJxc12de TJxc12de 0
theorem nmJxc12de : ∀ a, a < 0 → ∀ b, b < 0 → a ≠ b → (TJxc12de a).2.1 ≠ (TJxc12de b).2.1 := by decide +kernel
theorem tyJxc12de_ok : ∀ k, k < 0 → parseFieldDescriptor (TJxc12de k).2.2.1 = some (tyJxc12de k) := by decide +kernel
abbrev cJxc12de_init_da8c8 : ByteArray := prog_47_method_1_code
def yJxc12de_init_da8c8 : MethodName := ⟨RJxc12de, "<init>", "()V"⟩
def RJx4a65c : String := "java/util/ArrayList"
def TJx4a65c : u_T := fun k => match k with
  | 0 => ("java/util/AbstractList", "modCount", "I", false)
  | 1 => ("java/util/ArrayList", "elementData", "[Ljava/lang/Object;", false)
  | _ => ("java/util/ArrayList", "size", "I", false)
def tyJx4a65c : Nat → FieldType := fun k => match k with
  | 0 => .int
  | 1 => .array (.object "java/lang/Object")
  | _ => .int
abbrev wsJx4a65c0 : List Cond := u_ws RJx4a65c TJx4a65c 3
theorem nmJx4a65c : ∀ a, a < 3 → ∀ b, b < 3 → a ≠ b → (TJx4a65c a).2.1 ≠ (TJx4a65c b).2.1 := by decide +kernel
theorem tyJx4a65c_ok : ∀ k, k < 3 → parseFieldDescriptor (TJx4a65c k).2.2.1 = some (tyJx4a65c k) := by decide +kernel
abbrev cJx4a65c_init_da8c8 : ByteArray := prog_48_method_2_code
def yJx4a65c_init_da8c8 : MethodName := ⟨RJx4a65c, "<init>", "()V"⟩
abbrev cJx4a65c_grow_92f84 : ByteArray := prog_48_method_6_code
def yJx4a65c_grow_92f84 : MethodName := ⟨RJx4a65c, "grow", "(I)[Ljava/lang/Object;"⟩
abbrev cJx4a65c_grow_d5877 : ByteArray := prog_48_method_7_code
def yJx4a65c_grow_d5877 : MethodName := ⟨RJx4a65c, "grow", "()[Ljava/lang/Object;"⟩
abbrev cJx4a65c_size_8abf5 : ByteArray := prog_48_method_8_code
def yJx4a65c_size_8abf5 : MethodName := ⟨RJx4a65c, "size", "()I"⟩
abbrev cJx4a65c_isEmpty_aae02 : ByteArray := prog_48_method_9_code
def yJx4a65c_isEmpty_aae02 : MethodName := ⟨RJx4a65c, "isEmpty", "()Z"⟩
abbrev cJx4a65c_elementData_915e3 : ByteArray := prog_48_method_18_code
def yJx4a65c_elementData_915e3 : MethodName := ⟨RJx4a65c, "elementData", "(I)Ljava/lang/Object;"⟩
abbrev cJx4a65c_get_915e3 : ByteArray := prog_48_method_20_code
def yJx4a65c_get_915e3 : MethodName := ⟨RJx4a65c, "get", "(I)Ljava/lang/Object;"⟩
abbrev cJx4a65c_set_bcc79 : ByteArray := prog_48_method_23_code
def yJx4a65c_set_bcc79 : MethodName := ⟨RJx4a65c, "set", "(ILjava/lang/Object;)Ljava/lang/Object;"⟩
abbrev cJx4a65c_add_72be8 : ByteArray := prog_48_method_24_code
def yJx4a65c_add_72be8 : MethodName := ⟨RJx4a65c, "add", "(Ljava/lang/Object;[Ljava/lang/Object;I)V"⟩
abbrev cJx4a65c_add_9ea2d : ByteArray := prog_48_method_25_code
def yJx4a65c_add_9ea2d : MethodName := ⟨RJx4a65c, "add", "(Ljava/lang/Object;)Z"⟩
abbrev cJx4a65c_add_7a177 : ByteArray := prog_48_method_26_code
def yJx4a65c_add_7a177 : MethodName := ⟨RJx4a65c, "add", "(ILjava/lang/Object;)V"⟩
abbrev cJx4a65c_remove_915e3 : ByteArray := prog_48_method_29_code
def yJx4a65c_remove_915e3 : MethodName := ⟨RJx4a65c, "remove", "(I)Ljava/lang/Object;"⟩
abbrev cJx4a65c_fastRemove_b59b0 : ByteArray := prog_48_method_39_code
def yJx4a65c_fastRemove_b59b0 : MethodName := ⟨RJx4a65c, "fastRemove", "([Ljava/lang/Object;I)V"⟩
abbrev cJx4a65c_clear_da8c8 : ByteArray := prog_48_method_40_code
def yJx4a65c_clear_da8c8 : MethodName := ⟨RJx4a65c, "clear", "()V"⟩
abbrev cJx4a65c_rangeCheckForAdd_d00df : ByteArray := prog_48_method_45_code
def yJx4a65c_rangeCheckForAdd_d00df : MethodName := ⟨RJx4a65c, "rangeCheckForAdd", "(I)V"⟩
abbrev cJx4a65c_outOfBoundsMsg_b52d3 : ByteArray := prog_48_method_46_code
def yJx4a65c_outOfBoundsMsg_b52d3 : MethodName := ⟨RJx4a65c, "outOfBoundsMsg", "(I)Ljava/lang/String;"⟩
def RJ7 : String := "java/util/Arrays"
def TJ7 : u_T := fun k => match k with
  | _ => ("", "", "", false)
def tyJ7 : Nat → FieldType := fun k => match k with
  | _ => .int
abbrev wsJ70 : List Cond := u_ws RJ7 TJ7 0
theorem nmJ7 : ∀ a, a < 0 → ∀ b, b < 0 → a ≠ b → (TJ7 a).2.1 ≠ (TJ7 b).2.1 := by decide +kernel
theorem tyJ7_ok : ∀ k, k < 0 → parseFieldDescriptor (TJ7 k).2.2.1 = some (tyJ7 k) := by decide +kernel
abbrev cJ7_rangeCheck_23922 : ByteArray := prog_49_method_30_code
def yJ7_rangeCheck_23922 : MethodName := ⟨RJ7, "rangeCheck", "(III)V"⟩
abbrev cJ7_fill_eb02e : ByteArray := prog_49_method_110_code
def yJ7_fill_eb02e : MethodName := ⟨RJ7, "fill", "([BIIB)V"⟩
abbrev cJ7_copyOf_1904c : ByteArray := prog_49_method_119_code
def yJ7_copyOf_1904c : MethodName := ⟨RJ7, "copyOf", "([Ljava/lang/Object;I)[Ljava/lang/Object;"⟩
abbrev cJ7_copyOf_6403c : ByteArray := prog_49_method_120_code
def yJ7_copyOf_6403c : MethodName := ⟨RJ7, "copyOf", "([Ljava/lang/Object;ILjava/lang/Class;)[Ljava/lang/Object;"⟩
abbrev cJ7_copyOf_9075b : ByteArray := prog_49_method_121_code
def yJ7_copyOf_9075b : MethodName := ⟨RJ7, "copyOf", "([BI)[B"⟩
abbrev cJ7_checkLength_df160 : ByteArray := prog_49_method_131_code
def yJ7_checkLength_df160 : MethodName := ⟨RJ7, "checkLength", "(II)V"⟩
abbrev cJ7_copyOfRange_39247 : ByteArray := prog_49_method_132_code
def yJ7_copyOfRange_39247 : MethodName := ⟨RJ7, "copyOfRange", "([BII)[B"⟩
abbrev cJ7_copyOfRangeByte_39247 : ByteArray := prog_49_method_133_code
def yJ7_copyOfRangeByte_39247 : MethodName := ⟨RJ7, "copyOfRangeByte", "([BII)[B"⟩
def RJx5ef63 : String := "java/util/Collection"
def TJx5ef63 : u_T := fun k => match k with
  | _ => ("", "", "", false)
def tyJx5ef63 : Nat → FieldType := fun k => match k with
  | _ => .int
abbrev wsJx5ef630 : List Cond := u_ws RJx5ef63 TJx5ef63 0
theorem nmJx5ef63 : ∀ a, a < 0 → ∀ b, b < 0 → a ≠ b → (TJx5ef63 a).2.1 ≠ (TJx5ef63 b).2.1 := by decide +kernel
theorem tyJx5ef63_ok : ∀ k, k < 0 → parseFieldDescriptor (TJx5ef63 k).2.2.1 = some (tyJx5ef63 k) := by decide +kernel
def RJxbd725 : String := "java/util/List"
def TJxbd725 : u_T := fun k => match k with
  | _ => ("", "", "", false)
def tyJxbd725 : Nat → FieldType := fun k => match k with
  | _ => .int
abbrev wsJxbd7250 : List Cond := u_ws RJxbd725 TJxbd725 0
theorem nmJxbd725 : ∀ a, a < 0 → ∀ b, b < 0 → a ≠ b → (TJxbd725 a).2.1 ≠ (TJxbd725 b).2.1 := by decide +kernel
theorem tyJxbd725_ok : ∀ k, k < 0 → parseFieldDescriptor (TJxbd725 k).2.2.1 = some (tyJxbd725 k) := by decide +kernel
def RJ15 : String := "java/util/Objects"
def TJ15 : u_T := fun k => match k with
  | _ => ("", "", "", false)
def tyJ15 : Nat → FieldType := fun k => match k with
  | _ => .int
abbrev wsJ150 : List Cond := u_ws RJ15 TJ15 0
theorem nmJ15 : ∀ a, a < 0 → ∀ b, b < 0 → a ≠ b → (TJ15 a).2.1 ≠ (TJ15 b).2.1 := by decide +kernel
theorem tyJ15_ok : ∀ k, k < 0 → parseFieldDescriptor (TJ15 k).2.2.1 = some (tyJ15 k) := by decide +kernel
abbrev cJ15_checkIndex_7cf53 : ByteArray := prog_53_method_17_code
def yJ15_checkIndex_7cf53 : MethodName := ⟨RJ15, "checkIndex", "(II)I"⟩
def RJxf0a74 : String := "java/util/RandomAccess"
def TJxf0a74 : u_T := fun k => match k with
  | _ => ("", "", "", false)
def tyJxf0a74 : Nat → FieldType := fun k => match k with
  | _ => .int
abbrev wsJxf0a740 : List Cond := u_ws RJxf0a74 TJxf0a74 0
theorem nmJxf0a74 : ∀ a, a < 0 → ∀ b, b < 0 → a ≠ b → (TJxf0a74 a).2.1 ≠ (TJxf0a74 b).2.1 := by decide +kernel
theorem tyJxf0a74_ok : ∀ k, k < 0 → parseFieldDescriptor (TJxf0a74 k).2.2.1 = some (tyJxf0a74 k) := by decide +kernel
def RJxa66e6 : String := "java/util/SequencedCollection"
def TJxa66e6 : u_T := fun k => match k with
  | _ => ("", "", "", false)
def tyJxa66e6 : Nat → FieldType := fun k => match k with
  | _ => .int
abbrev wsJxa66e60 : List Cond := u_ws RJxa66e6 TJxa66e6 0
theorem nmJxa66e6 : ∀ a, a < 0 → ∀ b, b < 0 → a ≠ b → (TJxa66e6 a).2.1 ≠ (TJxa66e6 b).2.1 := by decide +kernel
theorem tyJxa66e6_ok : ∀ k, k < 0 → parseFieldDescriptor (TJxa66e6 k).2.2.1 = some (tyJxa66e6 k) := by decide +kernel
def RJ8 : String := "jdk/internal/util/ArraysSupport"
def TJ8 : u_T := fun k => match k with
  | _ => ("", "", "", false)
def tyJ8 : Nat → FieldType := fun k => match k with
  | _ => .int
abbrev wsJ80 : List Cond := u_ws RJ8 TJ8 0
theorem nmJ8 : ∀ a, a < 0 → ∀ b, b < 0 → a ≠ b → (TJ8 a).2.1 ≠ (TJ8 b).2.1 := by decide +kernel
theorem tyJ8_ok : ∀ k, k < 0 → parseFieldDescriptor (TJ8 k).2.2.1 = some (tyJ8 k) := by decide +kernel
abbrev cJ8_newLength_cabcc : ByteArray := prog_56_method_27_code
def yJ8_newLength_cabcc : MethodName := ⟨RJ8, "newLength", "(III)I"⟩
abbrev cJ8_hugeLength_7cf53 : ByteArray := prog_56_method_28_code
def yJ8_hugeLength_7cf53 : MethodName := ⟨RJ8, "hugeLength", "(II)I"⟩
def RJ3 : String := "jdk/internal/util/Preconditions"
def TJ3 : u_T := fun k => match k with
  | _ => ("", "", "", false)
def tyJ3 : Nat → FieldType := fun k => match k with
  | _ => .int
abbrev wsJ30 : List Cond := u_ws RJ3 TJ3 0
theorem nmJ3 : ∀ a, a < 0 → ∀ b, b < 0 → a ≠ b → (TJ3 a).2.1 ≠ (TJ3 b).2.1 := by decide +kernel
theorem tyJ3_ok : ∀ k, k < 0 → parseFieldDescriptor (TJ3 k).2.2.1 = some (tyJ3 k) := by decide +kernel
abbrev cJ3_checkIndex_8e157 : ByteArray := prog_57_method_11_code
def yJ3_checkIndex_8e157 : MethodName := ⟨RJ3, "checkIndex", "(IILjava/util/function/BiFunction;)I"⟩
abbrev cJ3_checkFromToIndex_8c36e : ByteArray := prog_57_method_12_code
def yJ3_checkFromToIndex_8c36e : MethodName := ⟨RJ3, "checkFromToIndex", "(IIILjava/util/function/BiFunction;)I"⟩
abbrev cJ3_checkFromIndexSize_8c36e : ByteArray := prog_57_method_13_code
def yJ3_checkFromIndexSize_8c36e : MethodName := ⟨RJ3, "checkFromIndexSize", "(IIILjava/util/function/BiFunction;)I"⟩
def RL : String := "ButtonRegistryLaw"
abbrev cL_at : ByteArray := method_2_code
def yL_at : MethodName := ⟨RL, "at", "([II)I"⟩
abbrev cL_some : ByteArray := method_3_code
def yL_some : MethodName := ⟨RL, "some", "(II)I"⟩
abbrev cL_addButton : ByteArray := method_4_code
def yL_addButton : MethodName := ⟨RL, "addButton", "(LButtonRegistry;)I"⟩
abbrev cL_setBond : ByteArray := method_5_code
def yL_setBond : MethodName := ⟨RL, "setBond", "(LButtonRegistry;III)I"⟩
abbrev cL_cutBond : ByteArray := method_6_code
def yL_cutBond : MethodName := ⟨RL, "cutBond", "(LButtonRegistry;II)I"⟩
abbrev cL_typeLetter : ByteArray := method_7_code
def yL_typeLetter : MethodName := ⟨RL, "typeLetter", "(LButtonRegistry;C)I"⟩
abbrev cL_addPrecedent : ByteArray := method_8_code
def yL_addPrecedent : MethodName := ⟨RL, "addPrecedent", "(LButtonRegistry;I)I"⟩
abbrev cL_fileCase : ByteArray := method_9_code
def yL_fileCase : MethodName := ⟨RL, "fileCase", "(LButtonRegistry;IIIII)I"⟩
abbrev cL_hear : ByteArray := method_10_code
def yL_hear : MethodName := ⟨RL, "hear", "(LButtonRegistry;I)I"⟩
abbrev cL_appeal : ByteArray := method_11_code
def yL_appeal : MethodName := ⟨RL, "appeal", "(LButtonRegistry;I)I"⟩
abbrev cL_withdraw : ByteArray := method_12_code
def yL_withdraw : MethodName := ⟨RL, "withdraw", "(LButtonRegistry;I)I"⟩
abbrev cL_close : ByteArray := method_13_code
def yL_close : MethodName := ⟨RL, "close", "(LButtonRegistry;I)I"⟩
abbrev cL_give : ByteArray := method_14_code
def yL_give : MethodName := ⟨RL, "give", "(LButtonRegistry;III)I"⟩
abbrev cL_passDays : ByteArray := method_15_code
def yL_passDays : MethodName := ⟨RL, "passDays", "(LButtonRegistry;I)I"⟩
abbrev cL_tension : ByteArray := method_16_code
def yL_tension : MethodName := ⟨RL, "tension", "(LButtonRegistry;II)I"⟩
abbrev cL_strain : ByteArray := method_17_code
def yL_strain : MethodName := ⟨RL, "strain", "(LButtonRegistry;II)I"⟩
abbrev cL_strainByTable : ByteArray := method_18_code
def yL_strainByTable : MethodName := ⟨RL, "strainByTable", "(LButtonRegistry;II)I"⟩
abbrev cL_caseAt : ByteArray := method_19_code
def yL_caseAt : MethodName := ⟨RL, "caseAt", "(LButtonRegistry;I)I"⟩
abbrev cL_plaintiff : ByteArray := method_20_code
def yL_plaintiff : MethodName := ⟨RL, "plaintiff", "(LButtonRegistry;I)I"⟩
abbrev cL_defendant : ByteArray := method_21_code
def yL_defendant : MethodName := ⟨RL, "defendant", "(LButtonRegistry;I)I"⟩
abbrev cL_claim : ByteArray := method_22_code
def yL_claim : MethodName := ⟨RL, "claim", "(LButtonRegistry;I)I"⟩
abbrev cL_duration : ByteArray := method_23_code
def yL_duration : MethodName := ⟨RL, "duration", "(LButtonRegistry;I)I"⟩
abbrev cL_deadline : ByteArray := method_24_code
def yL_deadline : MethodName := ⟨RL, "deadline", "(LButtonRegistry;I)I"⟩
abbrev cL_state : ByteArray := method_25_code
def yL_state : MethodName := ⟨RL, "state", "(LButtonRegistry;I)I"⟩
abbrev cL_matterLength : ByteArray := method_26_code
def yL_matterLength : MethodName := ⟨RL, "matterLength", "(LButtonRegistry;I)I"⟩
abbrev cL_matterLetter : ByteArray := method_27_code
def yL_matterLetter : MethodName := ⟨RL, "matterLetter", "(LButtonRegistry;II)I"⟩
abbrev cL_percentage : ByteArray := method_28_code
def yL_percentage : MethodName := ⟨RL, "percentage", "(LButtonRegistry;I)I"⟩
abbrev cL_award : ByteArray := method_29_code
def yL_award : MethodName := ⟨RL, "award", "(LButtonRegistry;I)I"⟩
abbrev cL_cost : ByteArray := method_30_code
def yL_cost : MethodName := ⟨RL, "cost", "(LButtonRegistry;I)I"⟩
abbrev cL_nearest : ByteArray := method_31_code
def yL_nearest : MethodName := ⟨RL, "nearest", "(LButtonRegistry;I)I"⟩
abbrev cL_percent : ByteArray := method_32_code
def yL_percent : MethodName := ⟨RL, "percent", "(LButtonRegistry;I)I"⟩
abbrev cL_distance : ByteArray := method_33_code
def yL_distance : MethodName := ⟨RL, "distance", "(LButtonRegistry;II)I"⟩
abbrev cL_byEnds : ByteArray := method_34_code
def yL_byEnds : MethodName := ⟨RL, "byEnds", "(LButtonRegistry;II)I"⟩
abbrev cL_byClaim : ByteArray := method_35_code
def yL_byClaim : MethodName := ⟨RL, "byClaim", "(LButtonRegistry;I)I"⟩
abbrev cL_byBalance : ByteArray := method_36_code
def yL_byBalance : MethodName := ⟨RL, "byBalance", "(LButtonRegistry;I)I"⟩
abbrev cL_meanClaim : ByteArray := method_37_code
def yL_meanClaim : MethodName := ⟨RL, "meanClaim", "(LButtonRegistry;)D"⟩
abbrev cL_ruledShare : ByteArray := method_38_code
def yL_ruledShare : MethodName := ⟨RL, "ruledShare", "(LButtonRegistry;)F"⟩
abbrev cL_renderCase : ByteArray := method_39_code
def yL_renderCase : MethodName := ⟨RL, "renderCase", "(LButtonRegistry;I)I"⟩
abbrev cL_renderBonds : ByteArray := method_40_code
def yL_renderBonds : MethodName := ⟨RL, "renderBonds", "(LButtonRegistry;I)I"⟩
abbrev cL_outputAt : ByteArray := method_41_code
def yL_outputAt : MethodName := ⟨RL, "outputAt", "(LButtonRegistry;I)I"⟩
abbrev cL_type : ByteArray := method_42_code
def yL_type : MethodName := ⟨RL, "type", "(LButtonRegistry;C)I"⟩
abbrev cL_run : ByteArray := method_43_code
def yL_run : MethodName := ⟨RL, "run", "(LButtonRegistry;)I"⟩
abbrev cL_errorPosition : ByteArray := method_44_code
def yL_errorPosition : MethodName := ⟨RL, "errorPosition", "(LButtonRegistry;)I"⟩
abbrev cL_failedCommand : ByteArray := method_45_code
def yL_failedCommand : MethodName := ⟨RL, "failedCommand", "(LButtonRegistry;)I"⟩
abbrev cL_undo : ByteArray := method_46_code
def yL_undo : MethodName := ⟨RL, "undo", "(LButtonRegistry;)I"⟩
abbrev cL_restore : ByteArray := method_47_code
def yL_restore : MethodName := ⟨RL, "restore", "(LButtonRegistry;)I"⟩
abbrev cL_balance : ByteArray := method_48_code
def yL_balance : MethodName := ⟨RL, "balance", "(LButtonRegistry;I)I"⟩
abbrev cL_types : ByteArray := method_49_code
def yL_types : MethodName := ⟨RL, "types", "(LButtonRegistry;Ljava/lang/String;)Z"⟩
abbrev cL_files : ByteArray := method_50_code
def yL_files : MethodName := ⟨RL, "files", "(LButtonRegistry;IIIIILjava/lang/String;)I"⟩
abbrev cL_rules : ByteArray := method_51_code
def yL_rules : MethodName := ⟨RL, "rules", "(LButtonRegistry;ILjava/lang/String;)I"⟩
abbrev cL_runs : ByteArray := method_52_code
def yL_runs : MethodName := ⟨RL, "runs", "(LButtonRegistry;Ljava/lang/String;)I"⟩
abbrev cL_word : ByteArray := method_54_code
def yL_word : MethodName := ⟨RL, "word", "(I)Ljava/lang/String;"⟩
abbrev cL_makes : ByteArray := method_55_code
def yL_makes : MethodName := ⟨RL, "makes", "(LButtonRegistry;[I)Z"⟩
abbrev cL_asks : ByteArray := method_56_code
def yL_asks : MethodName := ⟨RL, "asks", "(LButtonRegistry;)J"⟩
abbrev cL_changes : ByteArray := method_57_code
def yL_changes : MethodName := ⟨RL, "changes", "(LButtonRegistry;I)Z"⟩
abbrev cL_thrown : ByteArray := method_58_code
def yL_thrown : MethodName := ⟨RL, "thrown", "(LButtonRegistry;)Z"⟩
abbrev cL_law : ByteArray := code
def yL_law : MethodName := ⟨RL, "law", "([I)Z"⟩
theorem inX0 : ∀ w ∈ wsX00, w ∈ lw_tbl := by decide +kernel
theorem inX1 : ∀ w ∈ wsX10, w ∈ lw_tbl := by decide +kernel
theorem inX2 : ∀ w ∈ wsX20, w ∈ lw_tbl := by decide +kernel
theorem inX3 : ∀ w ∈ wsX30, w ∈ lw_tbl := by decide +kernel
theorem inX4 : ∀ w ∈ wsX40, w ∈ lw_tbl := by decide +kernel
theorem inX5 : ∀ w ∈ wsX50, w ∈ lw_tbl := by decide +kernel
theorem inX6 : ∀ w ∈ wsX60, w ∈ lw_tbl := by decide +kernel
theorem inX7 : ∀ w ∈ wsX70, w ∈ lw_tbl := by decide +kernel
theorem inX8 : ∀ w ∈ wsX80, w ∈ lw_tbl := by decide +kernel
theorem inX9 : ∀ w ∈ wsX90, w ∈ lw_tbl := by decide +kernel
theorem inX10 : ∀ w ∈ wsX100, w ∈ lw_tbl := by decide +kernel
theorem inX11 : ∀ w ∈ wsX110, w ∈ lw_tbl := by decide +kernel
theorem inX12 : ∀ w ∈ wsX120, w ∈ lw_tbl := by decide +kernel
theorem inX13 : ∀ w ∈ wsX130, w ∈ lw_tbl := by decide +kernel
theorem inJx145de : ∀ w ∈ wsJx145de0, w ∈ lw_tbl := by decide +kernel
theorem inJ5 : ∀ w ∈ wsJ50, w ∈ lw_tbl := by decide +kernel
theorem inJx2cfe8 : ∀ w ∈ wsJx2cfe80, w ∈ lw_tbl := by decide +kernel
theorem inJx00060 : ∀ w ∈ wsJx000600, w ∈ lw_tbl := by decide +kernel
theorem inJx9f9b0 : ∀ w ∈ wsJx9f9b00, w ∈ lw_tbl := by decide +kernel
theorem inJx8e188 : ∀ w ∈ wsJx8e1880, w ∈ lw_tbl := by decide +kernel
theorem inJxb160c : ∀ w ∈ wsJxb160c0, w ∈ lw_tbl := by decide +kernel
theorem inJxe99ae : ∀ w ∈ wsJxe99ae0, w ∈ lw_tbl := by decide +kernel
theorem inJx29ce0 : ∀ w ∈ wsJx29ce00, w ∈ lw_tbl := by decide +kernel
theorem inJxf58ca : ∀ w ∈ wsJxf58ca0, w ∈ lw_tbl := by decide +kernel
theorem inJ6 : ∀ w ∈ wsJ60, w ∈ lw_tbl := by decide +kernel
theorem inJxab1ab : ∀ w ∈ wsJxab1ab0, w ∈ lw_tbl := by decide +kernel
theorem inJ9 : ∀ w ∈ wsJ90, w ∈ lw_tbl := by decide +kernel
theorem inJxd2413 : ∀ w ∈ wsJxd24130, w ∈ lw_tbl := by decide +kernel
theorem inJ0 : ∀ w ∈ wsJ00, w ∈ lw_tbl := by decide +kernel
theorem inJ4 : ∀ w ∈ wsJ40, w ∈ lw_tbl := by decide +kernel
theorem inJx7c733 : ∀ w ∈ wsJx7c7330, w ∈ lw_tbl := by decide +kernel
theorem inJ1 : ∀ w ∈ wsJ10, w ∈ lw_tbl := by decide +kernel
theorem inJ2 : ∀ w ∈ wsJ20, w ∈ lw_tbl := by decide +kernel
theorem inJ10 : ∀ w ∈ wsJ100, w ∈ lw_tbl := by decide +kernel
theorem inJxfd54e : ∀ w ∈ wsJxfd54e0, w ∈ lw_tbl := by decide +kernel
theorem inJx3cf43 : ∀ w ∈ wsJx3cf430, w ∈ lw_tbl := by decide +kernel
theorem inJxa1e45 : ∀ w ∈ wsJxa1e450, w ∈ lw_tbl := by decide +kernel
theorem inJxc12de : ∀ w ∈ wsJxc12de0, w ∈ lw_tbl := by decide +kernel
theorem inJx4a65c : ∀ w ∈ wsJx4a65c0, w ∈ lw_tbl := by decide +kernel
theorem inJ7 : ∀ w ∈ wsJ70, w ∈ lw_tbl := by decide +kernel
theorem inJx5ef63 : ∀ w ∈ wsJx5ef630, w ∈ lw_tbl := by decide +kernel
theorem inJxbd725 : ∀ w ∈ wsJxbd7250, w ∈ lw_tbl := by decide +kernel
theorem inJ15 : ∀ w ∈ wsJ150, w ∈ lw_tbl := by decide +kernel
theorem inJxf0a74 : ∀ w ∈ wsJxf0a740, w ∈ lw_tbl := by decide +kernel
theorem inJxa66e6 : ∀ w ∈ wsJxa66e60, w ∈ lw_tbl := by decide +kernel
theorem inJ8 : ∀ w ∈ wsJ80, w ∈ lw_tbl := by decide +kernel
theorem inJ3 : ∀ w ∈ wsJ30, w ∈ lw_tbl := by decide +kernel
theorem dX1_init_0 : decode cX1_init 0 = .ok (.aload_n 0, 1) := by decide +kernel
theorem dX1_init_1 : decode cX1_init 1 = .ok (.invokespecial 3, 3) := by decide +kernel
theorem dX1_init_4 : decode cX1_init 4 = .ok (.aload_n 0, 1) := by decide +kernel
theorem dX1_init_5 : decode cX1_init 5 = .ok (.bipush 102, 2) := by decide +kernel
theorem dX1_init_7 : decode cX1_init 7 = .ok (.putfield 9, 3) := by decide +kernel
theorem dX1_init_10 : decode cX1_init 10 = .ok (.aload_n 0, 1) := by decide +kernel
theorem dX1_init_11 : decode cX1_init 11 = .ok (.iconst 0, 1) := by decide +kernel
theorem dX1_init_12 : decode cX1_init 12 = .ok (.putfield 15, 3) := by decide +kernel
theorem dX1_init_15 : decode cX1_init 15 = .ok (.aload_n 0, 1) := by decide +kernel
theorem dX1_init_16 : decode cX1_init 16 = .ok (.iconst 0, 1) := by decide +kernel
theorem dX1_init_17 : decode cX1_init 17 = .ok (.putfield 19, 3) := by decide +kernel
theorem dX1_init_20 : decode cX1_init 20 = .ok (.aload_n 0, 1) := by decide +kernel
theorem dX1_init_21 : decode cX1_init 21 = .ok (.iconst 0, 1) := by decide +kernel
theorem dX1_init_22 : decode cX1_init 22 = .ok (.putfield 22, 3) := by decide +kernel
theorem dX1_init_25 : decode cX1_init 25 = .ok (.aload_n 0, 1) := by decide +kernel
theorem dX1_init_26 : decode cX1_init 26 = .ok (.iconst (-1), 1) := by decide +kernel
theorem dX1_init_27 : decode cX1_init 27 = .ok (.putfield 25, 3) := by decide +kernel
theorem dX1_init_30 : decode cX1_init 30 = .ok (.aload_n 0, 1) := by decide +kernel
theorem dX1_init_31 : decode cX1_init 31 = .ok (.iconst (-1), 1) := by decide +kernel
theorem dX1_init_32 : decode cX1_init 32 = .ok (.putfield 28, 3) := by decide +kernel
theorem dX1_init_35 : decode cX1_init 35 = .ok (.aload_n 0, 1) := by decide +kernel
theorem dX1_init_36 : decode cX1_init 36 = .ok (.iconst 0, 1) := by decide +kernel
theorem dX1_init_37 : decode cX1_init 37 = .ok (.putfield 31, 3) := by decide +kernel
theorem dX1_init_40 : decode cX1_init 40 = .ok (.aload_n 0, 1) := by decide +kernel
theorem dX1_init_41 : decode cX1_init 41 = .ok (.iload_n 1, 1) := by decide +kernel
theorem dX1_init_42 : decode cX1_init 42 = .ok (.putfield 35, 3) := by decide +kernel
theorem dX1_init_45 : decode cX1_init 45 = .ok (.aload_n 0, 1) := by decide +kernel
theorem dX1_init_46 : decode cX1_init 46 = .ok (.iload_n 2, 1) := by decide +kernel
theorem dX1_init_47 : decode cX1_init 47 = .ok (.putfield 38, 3) := by decide +kernel
theorem dX1_init_50 : decode cX1_init 50 = .ok (.aload_n 0, 1) := by decide +kernel
theorem dX1_init_51 : decode cX1_init 51 = .ok (.iload_n 3, 1) := by decide +kernel
theorem dX1_init_52 : decode cX1_init 52 = .ok (.putfield 41, 3) := by decide +kernel
theorem dX1_init_55 : decode cX1_init 55 = .ok (.aload_n 0, 1) := by decide +kernel
theorem dX1_init_56 : decode cX1_init 56 = .ok (.iload 4, 2) := by decide +kernel
theorem dX1_init_58 : decode cX1_init 58 = .ok (.putfield 44, 3) := by decide +kernel
theorem dX1_init_61 : decode cX1_init 61 = .ok (.aload_n 0, 1) := by decide +kernel
theorem dX1_init_62 : decode cX1_init 62 = .ok (.iload 5, 2) := by decide +kernel
theorem dX1_init_64 : decode cX1_init 64 = .ok (.putfield 47, 3) := by decide +kernel
theorem dX1_init_67 : decode cX1_init 67 = .ok (.aload_n 0, 1) := by decide +kernel
theorem dX1_init_68 : decode cX1_init 68 = .ok (.iload 6, 2) := by decide +kernel
theorem dX1_init_70 : decode cX1_init 70 = .ok (.putfield 50, 3) := by decide +kernel
theorem dX1_init_73 : decode cX1_init 73 = .ok (.aload_n 0, 1) := by decide +kernel
theorem dX1_init_74 : decode cX1_init 74 = .ok (.aload 7, 2) := by decide +kernel
theorem dX1_init_76 : decode cX1_init 76 = .ok (.putfield 53, 3) := by decide +kernel
theorem dX1_init_79 : decode cX1_init 79 = .ok (.return_, 1) := by decide +kernel
theorem dX1_copy_0 : decode cX1_copy 0 = .ok (.new 10, 3) := by decide +kernel
theorem dX1_copy_3 : decode cX1_copy 3 = .ok (.dup, 1) := by decide +kernel
theorem dX1_copy_4 : decode cX1_copy 4 = .ok (.aload_n 0, 1) := by decide +kernel
theorem dX1_copy_5 : decode cX1_copy 5 = .ok (.getfield 35, 3) := by decide +kernel
theorem dX1_copy_8 : decode cX1_copy 8 = .ok (.aload_n 0, 1) := by decide +kernel
theorem dX1_copy_9 : decode cX1_copy 9 = .ok (.getfield 38, 3) := by decide +kernel
theorem dX1_copy_12 : decode cX1_copy 12 = .ok (.aload_n 0, 1) := by decide +kernel
theorem dX1_copy_13 : decode cX1_copy 13 = .ok (.getfield 41, 3) := by decide +kernel
theorem dX1_copy_16 : decode cX1_copy 16 = .ok (.aload_n 0, 1) := by decide +kernel
theorem dX1_copy_17 : decode cX1_copy 17 = .ok (.getfield 44, 3) := by decide +kernel
theorem dX1_copy_20 : decode cX1_copy 20 = .ok (.aload_n 0, 1) := by decide +kernel
theorem dX1_copy_21 : decode cX1_copy 21 = .ok (.getfield 47, 3) := by decide +kernel
theorem dX1_copy_24 : decode cX1_copy 24 = .ok (.aload_n 0, 1) := by decide +kernel
theorem dX1_copy_25 : decode cX1_copy 25 = .ok (.getfield 50, 3) := by decide +kernel
theorem dX1_copy_28 : decode cX1_copy 28 = .ok (.aload_n 0, 1) := by decide +kernel
theorem dX1_copy_29 : decode cX1_copy 29 = .ok (.getfield 53, 3) := by decide +kernel
theorem dX1_copy_32 : decode cX1_copy 32 = .ok (.invokespecial 57, 3) := by decide +kernel
theorem dX1_copy_35 : decode cX1_copy 35 = .ok (.astore_n 1, 1) := by decide +kernel
theorem dX1_copy_36 : decode cX1_copy 36 = .ok (.aload_n 1, 1) := by decide +kernel
theorem dX1_copy_37 : decode cX1_copy 37 = .ok (.aload_n 0, 1) := by decide +kernel
theorem dX1_copy_38 : decode cX1_copy 38 = .ok (.getfield 9, 3) := by decide +kernel
theorem dX1_copy_41 : decode cX1_copy 41 = .ok (.putfield 9, 3) := by decide +kernel
theorem dX1_copy_44 : decode cX1_copy 44 = .ok (.aload_n 1, 1) := by decide +kernel
theorem dX1_copy_45 : decode cX1_copy 45 = .ok (.aload_n 0, 1) := by decide +kernel
theorem dX1_copy_46 : decode cX1_copy 46 = .ok (.getfield 15, 3) := by decide +kernel
theorem dX1_copy_49 : decode cX1_copy 49 = .ok (.putfield 15, 3) := by decide +kernel
theorem dX1_copy_52 : decode cX1_copy 52 = .ok (.aload_n 1, 1) := by decide +kernel
theorem dX1_copy_53 : decode cX1_copy 53 = .ok (.aload_n 0, 1) := by decide +kernel
theorem dX1_copy_54 : decode cX1_copy 54 = .ok (.getfield 19, 3) := by decide +kernel
theorem dX1_copy_57 : decode cX1_copy 57 = .ok (.putfield 19, 3) := by decide +kernel
theorem dX1_copy_60 : decode cX1_copy 60 = .ok (.aload_n 1, 1) := by decide +kernel
theorem dX1_copy_61 : decode cX1_copy 61 = .ok (.aload_n 0, 1) := by decide +kernel
theorem dX1_copy_62 : decode cX1_copy 62 = .ok (.getfield 22, 3) := by decide +kernel
theorem dX1_copy_65 : decode cX1_copy 65 = .ok (.putfield 22, 3) := by decide +kernel
theorem dX1_copy_68 : decode cX1_copy 68 = .ok (.aload_n 1, 1) := by decide +kernel
theorem dX1_copy_69 : decode cX1_copy 69 = .ok (.aload_n 0, 1) := by decide +kernel
theorem dX1_copy_70 : decode cX1_copy 70 = .ok (.getfield 25, 3) := by decide +kernel
theorem dX1_copy_73 : decode cX1_copy 73 = .ok (.putfield 25, 3) := by decide +kernel
theorem dX1_copy_76 : decode cX1_copy 76 = .ok (.aload_n 1, 1) := by decide +kernel
theorem dX1_copy_77 : decode cX1_copy 77 = .ok (.aload_n 0, 1) := by decide +kernel
theorem dX1_copy_78 : decode cX1_copy 78 = .ok (.getfield 28, 3) := by decide +kernel
theorem dX1_copy_81 : decode cX1_copy 81 = .ok (.putfield 28, 3) := by decide +kernel
theorem dX1_copy_84 : decode cX1_copy 84 = .ok (.aload_n 1, 1) := by decide +kernel
theorem dX1_copy_85 : decode cX1_copy 85 = .ok (.aload_n 0, 1) := by decide +kernel
theorem dX1_copy_86 : decode cX1_copy 86 = .ok (.getfield 31, 3) := by decide +kernel
theorem dX1_copy_89 : decode cX1_copy 89 = .ok (.putfield 31, 3) := by decide +kernel
theorem dX1_copy_92 : decode cX1_copy 92 = .ok (.aload_n 1, 1) := by decide +kernel
theorem dX1_copy_93 : decode cX1_copy 93 = .ok (.areturn, 1) := by decide +kernel
theorem dX1_ruleAt_0 : decode cX1_ruleAt 0 = .ok (.aload_n 0, 1) := by decide +kernel
theorem dX1_ruleAt_1 : decode cX1_ruleAt 1 = .ok (.iload_n 1, 1) := by decide +kernel
theorem dX1_ruleAt_2 : decode cX1_ruleAt 2 = .ok (.putfield 15, 3) := by decide +kernel
theorem dX1_ruleAt_5 : decode cX1_ruleAt 5 = .ok (.aload_n 0, 1) := by decide +kernel
theorem dX1_ruleAt_6 : decode cX1_ruleAt 6 = .ok (.aload_n 0, 1) := by decide +kernel
theorem dX1_ruleAt_7 : decode cX1_ruleAt 7 = .ok (.getfield 44, 3) := by decide +kernel
theorem dX1_ruleAt_10 : decode cX1_ruleAt 10 = .ok (.iload_n 1, 1) := by decide +kernel
theorem dX1_ruleAt_11 : decode cX1_ruleAt 11 = .ok (.imul, 1) := by decide +kernel
theorem dX1_ruleAt_12 : decode cX1_ruleAt 12 = .ok (.bipush 100, 2) := by decide +kernel
theorem dX1_ruleAt_14 : decode cX1_ruleAt 14 = .ok (.idiv, 1) := by decide +kernel
theorem dX1_ruleAt_15 : decode cX1_ruleAt 15 = .ok (.putfield 19, 3) := by decide +kernel
theorem dX1_ruleAt_18 : decode cX1_ruleAt 18 = .ok (.return_, 1) := by decide +kernel
theorem dX1_ranksBefore_0 : decode cX1_ranksBefore 0 = .ok (.aload_n 0, 1) := by decide +kernel
theorem dX1_ranksBefore_1 : decode cX1_ranksBefore 1 = .ok (.getfield 44, 3) := by decide +kernel
theorem dX1_ranksBefore_4 : decode cX1_ranksBefore 4 = .ok (.aload_n 1, 1) := by decide +kernel
theorem dX1_ranksBefore_5 : decode cX1_ranksBefore 5 = .ok (.getfield 44, 3) := by decide +kernel
theorem dX1_ranksBefore_8 : decode cX1_ranksBefore 8 = .ok (.if_icmp .eq 20, 3) := by decide +kernel
theorem dX1_ranksBefore_11 : decode cX1_ranksBefore 11 = .ok (.aload_n 0, 1) := by decide +kernel
theorem dX1_ranksBefore_12 : decode cX1_ranksBefore 12 = .ok (.getfield 44, 3) := by decide +kernel
theorem dX1_ranksBefore_15 : decode cX1_ranksBefore 15 = .ok (.aload_n 1, 1) := by decide +kernel
theorem dX1_ranksBefore_16 : decode cX1_ranksBefore 16 = .ok (.getfield 44, 3) := by decide +kernel
theorem dX1_ranksBefore_19 : decode cX1_ranksBefore 19 = .ok (.if_icmp .le 7, 3) := by decide +kernel
theorem dX1_ranksBefore_22 : decode cX1_ranksBefore 22 = .ok (.iconst 1, 1) := by decide +kernel
theorem dX1_ranksBefore_23 : decode cX1_ranksBefore 23 = .ok (.goto 4, 3) := by decide +kernel
theorem dX1_ranksBefore_26 : decode cX1_ranksBefore 26 = .ok (.iconst 0, 1) := by decide +kernel
theorem dX1_ranksBefore_27 : decode cX1_ranksBefore 27 = .ok (.ireturn, 1) := by decide +kernel
theorem dX1_ranksBefore_28 : decode cX1_ranksBefore 28 = .ok (.aload_n 0, 1) := by decide +kernel
theorem dX1_ranksBefore_29 : decode cX1_ranksBefore 29 = .ok (.getfield 50, 3) := by decide +kernel
theorem dX1_ranksBefore_32 : decode cX1_ranksBefore 32 = .ok (.aload_n 1, 1) := by decide +kernel
theorem dX1_ranksBefore_33 : decode cX1_ranksBefore 33 = .ok (.getfield 50, 3) := by decide +kernel
theorem dX1_ranksBefore_36 : decode cX1_ranksBefore 36 = .ok (.if_icmp .eq 20, 3) := by decide +kernel
theorem dX1_ranksBefore_39 : decode cX1_ranksBefore 39 = .ok (.aload_n 0, 1) := by decide +kernel
theorem dX1_ranksBefore_40 : decode cX1_ranksBefore 40 = .ok (.getfield 50, 3) := by decide +kernel
theorem dX1_ranksBefore_43 : decode cX1_ranksBefore 43 = .ok (.aload_n 1, 1) := by decide +kernel
theorem dX1_ranksBefore_44 : decode cX1_ranksBefore 44 = .ok (.getfield 50, 3) := by decide +kernel
theorem dX1_ranksBefore_47 : decode cX1_ranksBefore 47 = .ok (.if_icmp .ge 7, 3) := by decide +kernel
theorem dX1_ranksBefore_50 : decode cX1_ranksBefore 50 = .ok (.iconst 1, 1) := by decide +kernel
theorem dX1_ranksBefore_51 : decode cX1_ranksBefore 51 = .ok (.goto 4, 3) := by decide +kernel
theorem dX1_ranksBefore_54 : decode cX1_ranksBefore 54 = .ok (.iconst 0, 1) := by decide +kernel
theorem dX1_ranksBefore_55 : decode cX1_ranksBefore 55 = .ok (.ireturn, 1) := by decide +kernel
theorem dX1_ranksBefore_56 : decode cX1_ranksBefore 56 = .ok (.aload_n 0, 1) := by decide +kernel
theorem dX1_ranksBefore_57 : decode cX1_ranksBefore 57 = .ok (.getfield 35, 3) := by decide +kernel
theorem dX1_ranksBefore_60 : decode cX1_ranksBefore 60 = .ok (.aload_n 1, 1) := by decide +kernel
theorem dX1_ranksBefore_61 : decode cX1_ranksBefore 61 = .ok (.getfield 35, 3) := by decide +kernel
theorem dX1_ranksBefore_64 : decode cX1_ranksBefore 64 = .ok (.if_icmp .ge 7, 3) := by decide +kernel
theorem dX1_ranksBefore_67 : decode cX1_ranksBefore 67 = .ok (.iconst 1, 1) := by decide +kernel
theorem dX1_ranksBefore_68 : decode cX1_ranksBefore 68 = .ok (.goto 4, 3) := by decide +kernel
theorem dX1_ranksBefore_71 : decode cX1_ranksBefore 71 = .ok (.iconst 0, 1) := by decide +kernel
theorem dX1_ranksBefore_72 : decode cX1_ranksBefore 72 = .ok (.ireturn, 1) := by decide +kernel
theorem dX2_init_0 : decode cX2_init 0 = .ok (.aload_n 0, 1) := by decide +kernel
theorem dX2_init_1 : decode cX2_init 1 = .ok (.invokespecial 3, 3) := by decide +kernel
theorem dX2_init_4 : decode cX2_init 4 = .ok (.aload_n 0, 1) := by decide +kernel
theorem dX2_init_5 : decode cX2_init 5 = .ok (.new 9, 3) := by decide +kernel
theorem dX2_init_8 : decode cX2_init 8 = .ok (.dup, 1) := by decide +kernel
theorem dX2_init_9 : decode cX2_init 9 = .ok (.invokespecial 11, 3) := by decide +kernel
theorem dX2_init_12 : decode cX2_init 12 = .ok (.putfield 12, 3) := by decide +kernel
theorem dX2_init_15 : decode cX2_init 15 = .ok (.aload_n 0, 1) := by decide +kernel
theorem dX2_init_16 : decode cX2_init 16 = .ok (.new 18, 3) := by decide +kernel
theorem dX2_init_19 : decode cX2_init 19 = .ok (.dup, 1) := by decide +kernel
theorem dX2_init_20 : decode cX2_init 20 = .ok (.invokespecial 20, 3) := by decide +kernel
theorem dX2_init_23 : decode cX2_init 23 = .ok (.putfield 21, 3) := by decide +kernel
theorem dX2_init_26 : decode cX2_init 26 = .ok (.return_, 1) := by decide +kernel
theorem dX2_perform_0 : decode cX2_perform 0 = .ok (.aload_n 2, 1) := by decide +kernel
theorem dX2_perform_1 : decode cX2_perform 1 = .ok (.iconst 0, 1) := by decide +kernel
theorem dX2_perform_2 : decode cX2_perform 2 = .ok (.invokevirtual 25, 3) := by decide +kernel
theorem dX2_perform_5 : decode cX2_perform 5 = .ok (.istore_n 3, 1) := by decide +kernel
theorem dX2_perform_6 : decode cX2_perform 6 = .ok (.aload_n 2, 1) := by decide +kernel
theorem dX2_perform_7 : decode cX2_perform 7 = .ok (.iconst 1, 1) := by decide +kernel
theorem dX2_perform_8 : decode cX2_perform 8 = .ok (.invokevirtual 25, 3) := by decide +kernel
theorem dX2_perform_11 : decode cX2_perform 11 = .ok (.istore 4, 2) := by decide +kernel
theorem dX2_perform_13 : decode cX2_perform 13 = .ok (.aload_n 2, 1) := by decide +kernel
theorem dX2_perform_14 : decode cX2_perform 14 = .ok (.iconst 2, 1) := by decide +kernel
theorem dX2_perform_15 : decode cX2_perform 15 = .ok (.invokevirtual 25, 3) := by decide +kernel
theorem dX2_perform_18 : decode cX2_perform 18 = .ok (.istore 5, 2) := by decide +kernel
theorem dX2_perform_20 : decode cX2_perform 20 = .ok (.getstatic 31, 3) := by decide +kernel
theorem dX2_perform_23 : decode cX2_perform 23 = .ok (.aload_n 2, 1) := by decide +kernel
theorem dX2_perform_24 : decode cX2_perform 24 = .ok (.getfield 37, 3) := by decide +kernel
theorem dX2_perform_27 : decode cX2_perform 27 = .ok (.invokevirtual 41, 3) := by decide +kernel
theorem dX2_perform_30 : decode cX2_perform 30 = .ok (.iaload, 1) := by decide +kernel
theorem dX2_perform_31 : decode cX2_perform 31 = .ok (.tableswitch 165 1 11 #[57, 63, 74, 83, 108, 119, 126, 133, 140, 147, 158], 57) := by decide +kernel
theorem dX2_perform_88 : decode cX2_perform 88 = .ok (.aload_n 0, 1) := by decide +kernel
theorem dX2_perform_89 : decode cX2_perform 89 = .ok (.aload_n 1, 1) := by decide +kernel
theorem dX2_perform_90 : decode cX2_perform 90 = .ok (.invokevirtual 47, 3) := by decide +kernel
theorem dX2_perform_93 : decode cX2_perform 93 = .ok (.ireturn, 1) := by decide +kernel
theorem dX2_perform_94 : decode cX2_perform 94 = .ok (.aload_n 0, 1) := by decide +kernel
theorem dX2_perform_95 : decode cX2_perform 95 = .ok (.aload_n 1, 1) := by decide +kernel
theorem dX2_perform_96 : decode cX2_perform 96 = .ok (.iload_n 3, 1) := by decide +kernel
theorem dX2_perform_97 : decode cX2_perform 97 = .ok (.iload 4, 2) := by decide +kernel
theorem dX2_perform_99 : decode cX2_perform 99 = .ok (.iload 5, 2) := by decide +kernel
theorem dX2_perform_101 : decode cX2_perform 101 = .ok (.invokevirtual 51, 3) := by decide +kernel
theorem dX2_perform_104 : decode cX2_perform 104 = .ok (.ireturn, 1) := by decide +kernel
theorem dX2_perform_105 : decode cX2_perform 105 = .ok (.aload_n 0, 1) := by decide +kernel
theorem dX2_perform_106 : decode cX2_perform 106 = .ok (.aload_n 1, 1) := by decide +kernel
theorem dX2_perform_107 : decode cX2_perform 107 = .ok (.iload_n 3, 1) := by decide +kernel
theorem dX2_perform_108 : decode cX2_perform 108 = .ok (.iload 4, 2) := by decide +kernel
theorem dX2_perform_110 : decode cX2_perform 110 = .ok (.invokevirtual 55, 3) := by decide +kernel
theorem dX2_perform_113 : decode cX2_perform 113 = .ok (.ireturn, 1) := by decide +kernel
theorem dX2_perform_114 : decode cX2_perform 114 = .ok (.aload_n 0, 1) := by decide +kernel
theorem dX2_perform_115 : decode cX2_perform 115 = .ok (.aload_n 1, 1) := by decide +kernel
theorem dX2_perform_116 : decode cX2_perform 116 = .ok (.iload_n 3, 1) := by decide +kernel
theorem dX2_perform_117 : decode cX2_perform 117 = .ok (.iload 4, 2) := by decide +kernel
theorem dX2_perform_119 : decode cX2_perform 119 = .ok (.iload 5, 2) := by decide +kernel
theorem dX2_perform_121 : decode cX2_perform 121 = .ok (.aload_n 2, 1) := by decide +kernel
theorem dX2_perform_122 : decode cX2_perform 122 = .ok (.iconst 3, 1) := by decide +kernel
theorem dX2_perform_123 : decode cX2_perform 123 = .ok (.invokevirtual 25, 3) := by decide +kernel
theorem dX2_perform_126 : decode cX2_perform 126 = .ok (.aload_n 2, 1) := by decide +kernel
theorem dX2_perform_127 : decode cX2_perform 127 = .ok (.iconst 4, 1) := by decide +kernel
theorem dX2_perform_128 : decode cX2_perform 128 = .ok (.invokevirtual 25, 3) := by decide +kernel
theorem dX2_perform_131 : decode cX2_perform 131 = .ok (.aload_n 2, 1) := by decide +kernel
theorem dX2_perform_132 : decode cX2_perform 132 = .ok (.getfield 59, 3) := by decide +kernel
theorem dX2_perform_135 : decode cX2_perform 135 = .ok (.invokevirtual 63, 3) := by decide +kernel
theorem dX2_perform_138 : decode cX2_perform 138 = .ok (.ireturn, 1) := by decide +kernel
theorem dX2_perform_139 : decode cX2_perform 139 = .ok (.aload_n 0, 1) := by decide +kernel
theorem dX2_perform_140 : decode cX2_perform 140 = .ok (.aload_n 1, 1) := by decide +kernel
theorem dX2_perform_141 : decode cX2_perform 141 = .ok (.iload_n 3, 1) := by decide +kernel
theorem dX2_perform_142 : decode cX2_perform 142 = .ok (.aload_n 2, 1) := by decide +kernel
theorem dX2_perform_143 : decode cX2_perform 143 = .ok (.getfield 59, 3) := by decide +kernel
theorem dX2_perform_146 : decode cX2_perform 146 = .ok (.invokevirtual 67, 3) := by decide +kernel
theorem dX2_perform_149 : decode cX2_perform 149 = .ok (.ireturn, 1) := by decide +kernel
theorem dX2_perform_150 : decode cX2_perform 150 = .ok (.aload_n 0, 1) := by decide +kernel
theorem dX2_perform_151 : decode cX2_perform 151 = .ok (.aload_n 1, 1) := by decide +kernel
theorem dX2_perform_152 : decode cX2_perform 152 = .ok (.iload_n 3, 1) := by decide +kernel
theorem dX2_perform_153 : decode cX2_perform 153 = .ok (.invokevirtual 71, 3) := by decide +kernel
theorem dX2_perform_156 : decode cX2_perform 156 = .ok (.ireturn, 1) := by decide +kernel
theorem dX2_perform_157 : decode cX2_perform 157 = .ok (.aload_n 0, 1) := by decide +kernel
theorem dX2_perform_158 : decode cX2_perform 158 = .ok (.aload_n 1, 1) := by decide +kernel
theorem dX2_perform_159 : decode cX2_perform 159 = .ok (.iload_n 3, 1) := by decide +kernel
theorem dX2_perform_160 : decode cX2_perform 160 = .ok (.invokevirtual 75, 3) := by decide +kernel
theorem dX2_perform_163 : decode cX2_perform 163 = .ok (.ireturn, 1) := by decide +kernel
theorem dX2_perform_164 : decode cX2_perform 164 = .ok (.aload_n 0, 1) := by decide +kernel
theorem dX2_perform_165 : decode cX2_perform 165 = .ok (.aload_n 1, 1) := by decide +kernel
theorem dX2_perform_166 : decode cX2_perform 166 = .ok (.iload_n 3, 1) := by decide +kernel
theorem dX2_perform_167 : decode cX2_perform 167 = .ok (.invokevirtual 78, 3) := by decide +kernel
theorem dX2_perform_170 : decode cX2_perform 170 = .ok (.ireturn, 1) := by decide +kernel
theorem dX2_perform_171 : decode cX2_perform 171 = .ok (.aload_n 0, 1) := by decide +kernel
theorem dX2_perform_172 : decode cX2_perform 172 = .ok (.aload_n 1, 1) := by decide +kernel
theorem dX2_perform_173 : decode cX2_perform 173 = .ok (.iload_n 3, 1) := by decide +kernel
theorem dX2_perform_174 : decode cX2_perform 174 = .ok (.invokevirtual 81, 3) := by decide +kernel
theorem dX2_perform_177 : decode cX2_perform 177 = .ok (.ireturn, 1) := by decide +kernel
theorem dX2_perform_178 : decode cX2_perform 178 = .ok (.aload_n 0, 1) := by decide +kernel
theorem dX2_perform_179 : decode cX2_perform 179 = .ok (.aload_n 1, 1) := by decide +kernel
theorem dX2_perform_180 : decode cX2_perform 180 = .ok (.iload_n 3, 1) := by decide +kernel
theorem dX2_perform_181 : decode cX2_perform 181 = .ok (.iload 4, 2) := by decide +kernel
theorem dX2_perform_183 : decode cX2_perform 183 = .ok (.iload 5, 2) := by decide +kernel
theorem dX2_perform_185 : decode cX2_perform 185 = .ok (.invokevirtual 84, 3) := by decide +kernel
theorem dX2_perform_188 : decode cX2_perform 188 = .ok (.ireturn, 1) := by decide +kernel
theorem dX2_perform_189 : decode cX2_perform 189 = .ok (.aload_n 0, 1) := by decide +kernel
theorem dX2_perform_190 : decode cX2_perform 190 = .ok (.aload_n 1, 1) := by decide +kernel
theorem dX2_perform_191 : decode cX2_perform 191 = .ok (.iload_n 3, 1) := by decide +kernel
theorem dX2_perform_192 : decode cX2_perform 192 = .ok (.invokevirtual 87, 3) := by decide +kernel
theorem dX2_perform_195 : decode cX2_perform 195 = .ok (.ireturn, 1) := by decide +kernel
theorem dX2_perform_196 : decode cX2_perform 196 = .ok (.bipush (-5), 2) := by decide +kernel
theorem dX2_perform_198 : decode cX2_perform 198 = .ok (.ireturn, 1) := by decide +kernel
theorem dX2_isBetween_0 : decode cX2_isBetween 0 = .ok (.iload_n 0, 1) := by decide +kernel
theorem dX2_isBetween_1 : decode cX2_isBetween 1 = .ok (.iload_n 1, 1) := by decide +kernel
theorem dX2_isBetween_2 : decode cX2_isBetween 2 = .ok (.if_icmp .lt 12, 3) := by decide +kernel
theorem dX2_isBetween_5 : decode cX2_isBetween 5 = .ok (.iload_n 0, 1) := by decide +kernel
theorem dX2_isBetween_6 : decode cX2_isBetween 6 = .ok (.iload_n 2, 1) := by decide +kernel
theorem dX2_isBetween_7 : decode cX2_isBetween 7 = .ok (.if_icmp .gt 7, 3) := by decide +kernel
theorem dX2_isBetween_10 : decode cX2_isBetween 10 = .ok (.iconst 1, 1) := by decide +kernel
theorem dX2_isBetween_11 : decode cX2_isBetween 11 = .ok (.goto 4, 3) := by decide +kernel
theorem dX2_isBetween_14 : decode cX2_isBetween 14 = .ok (.iconst 0, 1) := by decide +kernel
theorem dX2_isBetween_15 : decode cX2_isBetween 15 = .ok (.ireturn, 1) := by decide +kernel
theorem dX2_enterButton_0 : decode cX2_enterButton 0 = .ok (.aload_n 1, 1) := by decide +kernel
theorem dX2_enterButton_1 : decode cX2_enterButton 1 = .ok (.getfield 90, 3) := by decide +kernel
theorem dX2_enterButton_4 : decode cX2_enterButton 4 = .ok (.bipush 8, 2) := by decide +kernel
theorem dX2_enterButton_6 : decode cX2_enterButton 6 = .ok (.if_icmp .lt 6, 3) := by decide +kernel
theorem dX2_enterButton_9 : decode cX2_enterButton 9 = .ok (.bipush (-3), 2) := by decide +kernel
theorem dX2_enterButton_11 : decode cX2_enterButton 11 = .ok (.ireturn, 1) := by decide +kernel
theorem dX2_enterButton_12 : decode cX2_enterButton 12 = .ok (.aload_n 1, 1) := by decide +kernel
theorem dX2_enterButton_13 : decode cX2_enterButton 13 = .ok (.dup, 1) := by decide +kernel
theorem dX2_enterButton_14 : decode cX2_enterButton 14 = .ok (.getfield 90, 3) := by decide +kernel
theorem dX2_enterButton_17 : decode cX2_enterButton 17 = .ok (.iconst 1, 1) := by decide +kernel
theorem dX2_enterButton_18 : decode cX2_enterButton 18 = .ok (.iadd, 1) := by decide +kernel
theorem dX2_enterButton_19 : decode cX2_enterButton 19 = .ok (.putfield 90, 3) := by decide +kernel
theorem dX2_enterButton_22 : decode cX2_enterButton 22 = .ok (.aload_n 1, 1) := by decide +kernel
theorem dX2_enterButton_23 : decode cX2_enterButton 23 = .ok (.getfield 90, 3) := by decide +kernel
theorem dX2_enterButton_26 : decode cX2_enterButton 26 = .ok (.iconst 1, 1) := by decide +kernel
theorem dX2_enterButton_27 : decode cX2_enterButton 27 = .ok (.isub, 1) := by decide +kernel
theorem dX2_enterButton_28 : decode cX2_enterButton 28 = .ok (.ireturn, 1) := by decide +kernel
theorem dX2_joinButtons_0 : decode cX2_joinButtons 0 = .ok (.aload_n 1, 1) := by decide +kernel
theorem dX2_joinButtons_1 : decode cX2_joinButtons 1 = .ok (.iload_n 2, 1) := by decide +kernel
theorem dX2_joinButtons_2 : decode cX2_joinButtons 2 = .ok (.invokevirtual 96, 3) := by decide +kernel
theorem dX2_joinButtons_5 : decode cX2_joinButtons 5 = .ok (.ifCond .eq 11, 3) := by decide +kernel
theorem dX2_joinButtons_8 : decode cX2_joinButtons 8 = .ok (.aload_n 1, 1) := by decide +kernel
theorem dX2_joinButtons_9 : decode cX2_joinButtons 9 = .ok (.iload_n 3, 1) := by decide +kernel
theorem dX2_joinButtons_10 : decode cX2_joinButtons 10 = .ok (.invokevirtual 96, 3) := by decide +kernel
theorem dX2_joinButtons_13 : decode cX2_joinButtons 13 = .ok (.ifCond .ne 5, 3) := by decide +kernel
theorem dX2_joinButtons_16 : decode cX2_joinButtons 16 = .ok (.iconst (-1), 1) := by decide +kernel
theorem dX2_joinButtons_17 : decode cX2_joinButtons 17 = .ok (.ireturn, 1) := by decide +kernel
theorem dX2_joinButtons_18 : decode cX2_joinButtons 18 = .ok (.iload_n 2, 1) := by decide +kernel
theorem dX2_joinButtons_19 : decode cX2_joinButtons 19 = .ok (.iload_n 3, 1) := by decide +kernel
theorem dX2_joinButtons_20 : decode cX2_joinButtons 20 = .ok (.if_icmp .eq 14, 3) := by decide +kernel
theorem dX2_joinButtons_23 : decode cX2_joinButtons 23 = .ok (.iload 4, 2) := by decide +kernel
theorem dX2_joinButtons_25 : decode cX2_joinButtons 25 = .ok (.iconst 1, 1) := by decide +kernel
theorem dX2_joinButtons_26 : decode cX2_joinButtons 26 = .ok (.bipush 20, 2) := by decide +kernel
theorem dX2_joinButtons_28 : decode cX2_joinButtons 28 = .ok (.invokestatic 100, 3) := by decide +kernel
theorem dX2_joinButtons_31 : decode cX2_joinButtons 31 = .ok (.ifCond .ne 6, 3) := by decide +kernel
theorem dX2_joinButtons_34 : decode cX2_joinButtons 34 = .ok (.bipush (-2), 2) := by decide +kernel
theorem dX2_joinButtons_36 : decode cX2_joinButtons 36 = .ok (.ireturn, 1) := by decide +kernel
theorem dX2_joinButtons_37 : decode cX2_joinButtons 37 = .ok (.aload_n 1, 1) := by decide +kernel
theorem dX2_joinButtons_38 : decode cX2_joinButtons 38 = .ok (.iload_n 2, 1) := by decide +kernel
theorem dX2_joinButtons_39 : decode cX2_joinButtons 39 = .ok (.iload_n 3, 1) := by decide +kernel
theorem dX2_joinButtons_40 : decode cX2_joinButtons 40 = .ok (.invokevirtual 104, 3) := by decide +kernel
theorem dX2_joinButtons_43 : decode cX2_joinButtons 43 = .ok (.istore 5, 2) := by decide +kernel
theorem dX2_joinButtons_45 : decode cX2_joinButtons 45 = .ok (.aload_n 1, 1) := by decide +kernel
theorem dX2_joinButtons_46 : decode cX2_joinButtons 46 = .ok (.iload_n 2, 1) := by decide +kernel
theorem dX2_joinButtons_47 : decode cX2_joinButtons 47 = .ok (.iload_n 3, 1) := by decide +kernel
theorem dX2_joinButtons_48 : decode cX2_joinButtons 48 = .ok (.iload 4, 2) := by decide +kernel
theorem dX2_joinButtons_50 : decode cX2_joinButtons 50 = .ok (.invokevirtual 108, 3) := by decide +kernel
theorem dX2_joinButtons_53 : decode cX2_joinButtons 53 = .ok (.iload 5, 2) := by decide +kernel
theorem dX2_joinButtons_55 : decode cX2_joinButtons 55 = .ok (.ireturn, 1) := by decide +kernel
theorem dX2_separateButtons_0 : decode cX2_separateButtons 0 = .ok (.aload_n 1, 1) := by decide +kernel
theorem dX2_separateButtons_1 : decode cX2_separateButtons 1 = .ok (.iload_n 2, 1) := by decide +kernel
theorem dX2_separateButtons_2 : decode cX2_separateButtons 2 = .ok (.invokevirtual 96, 3) := by decide +kernel
theorem dX2_separateButtons_5 : decode cX2_separateButtons 5 = .ok (.ifCond .eq 11, 3) := by decide +kernel
theorem dX2_separateButtons_8 : decode cX2_separateButtons 8 = .ok (.aload_n 1, 1) := by decide +kernel
theorem dX2_separateButtons_9 : decode cX2_separateButtons 9 = .ok (.iload_n 3, 1) := by decide +kernel
theorem dX2_separateButtons_10 : decode cX2_separateButtons 10 = .ok (.invokevirtual 96, 3) := by decide +kernel
theorem dX2_separateButtons_13 : decode cX2_separateButtons 13 = .ok (.ifCond .ne 5, 3) := by decide +kernel
theorem dX2_separateButtons_16 : decode cX2_separateButtons 16 = .ok (.iconst (-1), 1) := by decide +kernel
theorem dX2_separateButtons_17 : decode cX2_separateButtons 17 = .ok (.ireturn, 1) := by decide +kernel
theorem dX2_separateButtons_18 : decode cX2_separateButtons 18 = .ok (.aload_n 1, 1) := by decide +kernel
theorem dX2_separateButtons_19 : decode cX2_separateButtons 19 = .ok (.iload_n 2, 1) := by decide +kernel
theorem dX2_separateButtons_20 : decode cX2_separateButtons 20 = .ok (.iload_n 3, 1) := by decide +kernel
theorem dX2_separateButtons_21 : decode cX2_separateButtons 21 = .ok (.invokevirtual 104, 3) := by decide +kernel
theorem dX2_separateButtons_24 : decode cX2_separateButtons 24 = .ok (.istore 4, 2) := by decide +kernel
theorem dX2_separateButtons_26 : decode cX2_separateButtons 26 = .ok (.iload 4, 2) := by decide +kernel
theorem dX2_separateButtons_28 : decode cX2_separateButtons 28 = .ok (.ifCond .ne 6, 3) := by decide +kernel
theorem dX2_separateButtons_31 : decode cX2_separateButtons 31 = .ok (.bipush (-4), 2) := by decide +kernel
theorem dX2_separateButtons_33 : decode cX2_separateButtons 33 = .ok (.ireturn, 1) := by decide +kernel
theorem dX2_separateButtons_34 : decode cX2_separateButtons 34 = .ok (.aload_n 1, 1) := by decide +kernel
theorem dX2_separateButtons_35 : decode cX2_separateButtons 35 = .ok (.iload_n 2, 1) := by decide +kernel
theorem dX2_separateButtons_36 : decode cX2_separateButtons 36 = .ok (.iload_n 3, 1) := by decide +kernel
theorem dX2_separateButtons_37 : decode cX2_separateButtons 37 = .ok (.iconst 0, 1) := by decide +kernel
theorem dX2_separateButtons_38 : decode cX2_separateButtons 38 = .ok (.invokevirtual 108, 3) := by decide +kernel
theorem dX2_separateButtons_41 : decode cX2_separateButtons 41 = .ok (.iload 4, 2) := by decide +kernel
theorem dX2_separateButtons_43 : decode cX2_separateButtons 43 = .ok (.ireturn, 1) := by decide +kernel
theorem dX2_enterPrecedent_0 : decode cX2_enterPrecedent 0 = .ok (.iload_n 2, 1) := by decide +kernel
theorem dX2_enterPrecedent_1 : decode cX2_enterPrecedent 1 = .ok (.iconst 0, 1) := by decide +kernel
theorem dX2_enterPrecedent_2 : decode cX2_enterPrecedent 2 = .ok (.bipush 100, 2) := by decide +kernel
theorem dX2_enterPrecedent_4 : decode cX2_enterPrecedent 4 = .ok (.invokestatic 100, 3) := by decide +kernel
theorem dX2_enterPrecedent_7 : decode cX2_enterPrecedent 7 = .ok (.ifCond .ne 6, 3) := by decide +kernel
theorem dX2_enterPrecedent_10 : decode cX2_enterPrecedent 10 = .ok (.bipush (-2), 2) := by decide +kernel
theorem dX2_enterPrecedent_12 : decode cX2_enterPrecedent 12 = .ok (.ireturn, 1) := by decide +kernel
theorem dX2_enterPrecedent_13 : decode cX2_enterPrecedent 13 = .ok (.aload_n 1, 1) := by decide +kernel
theorem dX2_enterPrecedent_14 : decode cX2_enterPrecedent 14 = .ok (.getfield 112, 3) := by decide +kernel
theorem dX2_enterPrecedent_17 : decode cX2_enterPrecedent 17 = .ok (.invokevirtual 116, 3) := by decide +kernel
theorem dX2_enterPrecedent_20 : decode cX2_enterPrecedent 20 = .ok (.bipush 20, 2) := by decide +kernel
theorem dX2_enterPrecedent_22 : decode cX2_enterPrecedent 22 = .ok (.if_icmp .lt 6, 3) := by decide +kernel
theorem dX2_enterPrecedent_25 : decode cX2_enterPrecedent 25 = .ok (.bipush (-3), 2) := by decide +kernel
theorem dX2_enterPrecedent_27 : decode cX2_enterPrecedent 27 = .ok (.ireturn, 1) := by decide +kernel
theorem dX2_enterPrecedent_28 : decode cX2_enterPrecedent 28 = .ok (.aload_n 3, 1) := by decide +kernel
theorem dX2_enterPrecedent_29 : decode cX2_enterPrecedent 29 = .ok (.invokevirtual 121, 3) := by decide +kernel
theorem dX2_enterPrecedent_32 : decode cX2_enterPrecedent 32 = .ok (.ifCond .eq 6, 3) := by decide +kernel
theorem dX2_enterPrecedent_35 : decode cX2_enterPrecedent 35 = .ok (.bipush (-5), 2) := by decide +kernel
theorem dX2_enterPrecedent_37 : decode cX2_enterPrecedent 37 = .ok (.ireturn, 1) := by decide +kernel
theorem dX2_enterPrecedent_38 : decode cX2_enterPrecedent 38 = .ok (.aload_n 1, 1) := by decide +kernel
theorem dX2_enterPrecedent_39 : decode cX2_enterPrecedent 39 = .ok (.getfield 112, 3) := by decide +kernel
theorem dX2_enterPrecedent_42 : decode cX2_enterPrecedent 42 = .ok (.new 127, 3) := by decide +kernel
theorem dX2_enterPrecedent_45 : decode cX2_enterPrecedent 45 = .ok (.dup, 1) := by decide +kernel
theorem dX2_enterPrecedent_46 : decode cX2_enterPrecedent 46 = .ok (.aload_n 3, 1) := by decide +kernel
theorem dX2_enterPrecedent_47 : decode cX2_enterPrecedent 47 = .ok (.iload_n 2, 1) := by decide +kernel
theorem dX2_enterPrecedent_48 : decode cX2_enterPrecedent 48 = .ok (.invokespecial 129, 3) := by decide +kernel
theorem dX2_enterPrecedent_51 : decode cX2_enterPrecedent 51 = .ok (.invokevirtual 132, 3) := by decide +kernel
theorem dX2_enterPrecedent_54 : decode cX2_enterPrecedent 54 = .ok (.pop, 1) := by decide +kernel
theorem dX2_enterPrecedent_55 : decode cX2_enterPrecedent 55 = .ok (.aload_n 1, 1) := by decide +kernel
theorem dX2_enterPrecedent_56 : decode cX2_enterPrecedent 56 = .ok (.getfield 112, 3) := by decide +kernel
theorem dX2_enterPrecedent_59 : decode cX2_enterPrecedent 59 = .ok (.invokevirtual 116, 3) := by decide +kernel
theorem dX2_enterPrecedent_62 : decode cX2_enterPrecedent 62 = .ok (.iconst 1, 1) := by decide +kernel
theorem dX2_enterPrecedent_63 : decode cX2_enterPrecedent 63 = .ok (.isub, 1) := by decide +kernel
theorem dX2_enterPrecedent_64 : decode cX2_enterPrecedent 64 = .ok (.ireturn, 1) := by decide +kernel
theorem dX2_enterCase_0 : decode cX2_enterCase 0 = .ok (.aload_n 1, 1) := by decide +kernel
theorem dX2_enterCase_1 : decode cX2_enterCase 1 = .ok (.iload_n 2, 1) := by decide +kernel
theorem dX2_enterCase_2 : decode cX2_enterCase 2 = .ok (.invokevirtual 96, 3) := by decide +kernel
theorem dX2_enterCase_5 : decode cX2_enterCase 5 = .ok (.ifCond .eq 11, 3) := by decide +kernel
theorem dX2_enterCase_8 : decode cX2_enterCase 8 = .ok (.aload_n 1, 1) := by decide +kernel
theorem dX2_enterCase_9 : decode cX2_enterCase 9 = .ok (.iload_n 3, 1) := by decide +kernel
theorem dX2_enterCase_10 : decode cX2_enterCase 10 = .ok (.invokevirtual 96, 3) := by decide +kernel
theorem dX2_enterCase_13 : decode cX2_enterCase 13 = .ok (.ifCond .ne 5, 3) := by decide +kernel
theorem dX2_enterCase_16 : decode cX2_enterCase 16 = .ok (.iconst (-1), 1) := by decide +kernel
theorem dX2_enterCase_17 : decode cX2_enterCase 17 = .ok (.ireturn, 1) := by decide +kernel
theorem dX2_enterCase_18 : decode cX2_enterCase 18 = .ok (.iload_n 2, 1) := by decide +kernel
theorem dX2_enterCase_19 : decode cX2_enterCase 19 = .ok (.iload_n 3, 1) := by decide +kernel
theorem dX2_enterCase_20 : decode cX2_enterCase 20 = .ok (.if_icmp .eq 36, 3) := by decide +kernel
theorem dX2_enterCase_23 : decode cX2_enterCase 23 = .ok (.iload 4, 2) := by decide +kernel
theorem dX2_enterCase_25 : decode cX2_enterCase 25 = .ok (.iconst 1, 1) := by decide +kernel
theorem dX2_enterCase_26 : decode cX2_enterCase 26 = .ok (.bipush 99, 2) := by decide +kernel
theorem dX2_enterCase_28 : decode cX2_enterCase 28 = .ok (.invokestatic 100, 3) := by decide +kernel
theorem dX2_enterCase_31 : decode cX2_enterCase 31 = .ok (.ifCond .eq 25, 3) := by decide +kernel
theorem dX2_enterCase_34 : decode cX2_enterCase 34 = .ok (.iload 5, 2) := by decide +kernel
theorem dX2_enterCase_36 : decode cX2_enterCase 36 = .ok (.iconst 1, 1) := by decide +kernel
theorem dX2_enterCase_37 : decode cX2_enterCase 37 = .ok (.iconst 5, 1) := by decide +kernel
theorem dX2_enterCase_38 : decode cX2_enterCase 38 = .ok (.invokestatic 100, 3) := by decide +kernel
theorem dX2_enterCase_41 : decode cX2_enterCase 41 = .ok (.ifCond .eq 15, 3) := by decide +kernel
theorem dX2_enterCase_44 : decode cX2_enterCase 44 = .ok (.iload 6, 2) := by decide +kernel
theorem dX2_enterCase_46 : decode cX2_enterCase 46 = .ok (.iconst 0, 1) := by decide +kernel
theorem dX2_enterCase_47 : decode cX2_enterCase 47 = .ok (.sipush 999, 3) := by decide +kernel
theorem dX2_enterCase_50 : decode cX2_enterCase 50 = .ok (.invokestatic 100, 3) := by decide +kernel
theorem dX2_enterCase_53 : decode cX2_enterCase 53 = .ok (.ifCond .ne 6, 3) := by decide +kernel
theorem dX2_enterCase_56 : decode cX2_enterCase 56 = .ok (.bipush (-2), 2) := by decide +kernel
theorem dX2_enterCase_58 : decode cX2_enterCase 58 = .ok (.ireturn, 1) := by decide +kernel
theorem dX2_enterCase_59 : decode cX2_enterCase 59 = .ok (.aload_n 1, 1) := by decide +kernel
theorem dX2_enterCase_60 : decode cX2_enterCase 60 = .ok (.getfield 136, 3) := by decide +kernel
theorem dX2_enterCase_63 : decode cX2_enterCase 63 = .ok (.invokevirtual 116, 3) := by decide +kernel
theorem dX2_enterCase_66 : decode cX2_enterCase 66 = .ok (.bipush 12, 2) := by decide +kernel
theorem dX2_enterCase_68 : decode cX2_enterCase 68 = .ok (.if_icmp .lt 6, 3) := by decide +kernel
theorem dX2_enterCase_71 : decode cX2_enterCase 71 = .ok (.bipush (-3), 2) := by decide +kernel
theorem dX2_enterCase_73 : decode cX2_enterCase 73 = .ok (.ireturn, 1) := by decide +kernel
theorem dX2_enterCase_74 : decode cX2_enterCase 74 = .ok (.aload 7, 2) := by decide +kernel
theorem dX2_enterCase_76 : decode cX2_enterCase 76 = .ok (.invokevirtual 121, 3) := by decide +kernel
theorem dX2_enterCase_79 : decode cX2_enterCase 79 = .ok (.ifCond .eq 6, 3) := by decide +kernel
theorem dX2_enterCase_82 : decode cX2_enterCase 82 = .ok (.bipush (-5), 2) := by decide +kernel
theorem dX2_enterCase_84 : decode cX2_enterCase 84 = .ok (.ireturn, 1) := by decide +kernel
theorem dX2_enterCase_85 : decode cX2_enterCase 85 = .ok (.aload_n 1, 1) := by decide +kernel
theorem dX2_enterCase_86 : decode cX2_enterCase 86 = .ok (.getfield 139, 3) := by decide +kernel
theorem dX2_enterCase_89 : decode cX2_enterCase 89 = .ok (.istore 8, 2) := by decide +kernel
theorem dX2_enterCase_91 : decode cX2_enterCase 91 = .ok (.aload_n 1, 1) := by decide +kernel
theorem dX2_enterCase_92 : decode cX2_enterCase 92 = .ok (.dup, 1) := by decide +kernel
theorem dX2_enterCase_93 : decode cX2_enterCase 93 = .ok (.getfield 139, 3) := by decide +kernel
theorem dX2_enterCase_96 : decode cX2_enterCase 96 = .ok (.iconst 1, 1) := by decide +kernel
theorem dX2_enterCase_97 : decode cX2_enterCase 97 = .ok (.iadd, 1) := by decide +kernel
theorem dX2_enterCase_98 : decode cX2_enterCase 98 = .ok (.putfield 139, 3) := by decide +kernel
theorem dX2_enterCase_101 : decode cX2_enterCase 101 = .ok (.aload_n 1, 1) := by decide +kernel
theorem dX2_enterCase_102 : decode cX2_enterCase 102 = .ok (.getfield 136, 3) := by decide +kernel
theorem dX2_enterCase_105 : decode cX2_enterCase 105 = .ok (.new 142, 3) := by decide +kernel
theorem dX2_enterCase_108 : decode cX2_enterCase 108 = .ok (.dup, 1) := by decide +kernel
theorem dX2_enterCase_109 : decode cX2_enterCase 109 = .ok (.iload 8, 2) := by decide +kernel
theorem dX2_enterCase_111 : decode cX2_enterCase 111 = .ok (.iload_n 2, 1) := by decide +kernel
theorem dX2_enterCase_112 : decode cX2_enterCase 112 = .ok (.iload_n 3, 1) := by decide +kernel
theorem dX2_enterCase_113 : decode cX2_enterCase 113 = .ok (.iload 4, 2) := by decide +kernel
theorem dX2_enterCase_115 : decode cX2_enterCase 115 = .ok (.iload 5, 2) := by decide +kernel
theorem dX2_enterCase_117 : decode cX2_enterCase 117 = .ok (.iload 6, 2) := by decide +kernel
theorem dX2_enterCase_119 : decode cX2_enterCase 119 = .ok (.aload 7, 2) := by decide +kernel
theorem dX2_enterCase_121 : decode cX2_enterCase 121 = .ok (.invokespecial 144, 3) := by decide +kernel
theorem dX2_enterCase_124 : decode cX2_enterCase 124 = .ok (.invokevirtual 132, 3) := by decide +kernel
theorem dX2_enterCase_127 : decode cX2_enterCase 127 = .ok (.pop, 1) := by decide +kernel
theorem dX2_enterCase_128 : decode cX2_enterCase 128 = .ok (.iload 8, 2) := by decide +kernel
theorem dX2_enterCase_130 : decode cX2_enterCase 130 = .ok (.ireturn, 1) := by decide +kernel
theorem dX2_hearCase_0 : decode cX2_hearCase 0 = .ok (.aload_n 1, 1) := by decide +kernel
theorem dX2_hearCase_1 : decode cX2_hearCase 1 = .ok (.iload_n 2, 1) := by decide +kernel
theorem dX2_hearCase_2 : decode cX2_hearCase 2 = .ok (.invokevirtual 147, 3) := by decide +kernel
theorem dX2_hearCase_5 : decode cX2_hearCase 5 = .ok (.istore_n 3, 1) := by decide +kernel
theorem dX2_hearCase_6 : decode cX2_hearCase 6 = .ok (.iload_n 3, 1) := by decide +kernel
theorem dX2_hearCase_7 : decode cX2_hearCase 7 = .ok (.ifCond .lt 14, 3) := by decide +kernel
theorem dX2_hearCase_10 : decode cX2_hearCase 10 = .ok (.iload_n 3, 1) := by decide +kernel
theorem dX2_hearCase_11 : decode cX2_hearCase 11 = .ok (.aload_n 1, 1) := by decide +kernel
theorem dX2_hearCase_12 : decode cX2_hearCase 12 = .ok (.getfield 136, 3) := by decide +kernel
theorem dX2_hearCase_15 : decode cX2_hearCase 15 = .ok (.invokevirtual 116, 3) := by decide +kernel
theorem dX2_hearCase_18 : decode cX2_hearCase 18 = .ok (.if_icmp .lt 6, 3) := by decide +kernel
theorem dX2_hearCase_21 : decode cX2_hearCase 21 = .ok (.bipush (-4), 2) := by decide +kernel
theorem dX2_hearCase_23 : decode cX2_hearCase 23 = .ok (.ireturn, 1) := by decide +kernel
theorem dX2_hearCase_24 : decode cX2_hearCase 24 = .ok (.aload_n 1, 1) := by decide +kernel
theorem dX2_hearCase_25 : decode cX2_hearCase 25 = .ok (.getfield 136, 3) := by decide +kernel
theorem dX2_hearCase_28 : decode cX2_hearCase 28 = .ok (.iload_n 3, 1) := by decide +kernel
theorem dX2_hearCase_29 : decode cX2_hearCase 29 = .ok (.invokevirtual 150, 3) := by decide +kernel
theorem dX2_hearCase_32 : decode cX2_hearCase 32 = .ok (.checkcast 142, 3) := by decide +kernel
theorem dX2_hearCase_35 : decode cX2_hearCase 35 = .ok (.invokevirtual 154, 3) := by decide +kernel
theorem dX2_hearCase_38 : decode cX2_hearCase 38 = .ok (.astore 4, 2) := by decide +kernel
theorem dX2_hearCase_40 : decode cX2_hearCase 40 = .ok (.aload 4, 2) := by decide +kernel
theorem dX2_hearCase_42 : decode cX2_hearCase 42 = .ok (.getfield 158, 3) := by decide +kernel
theorem dX2_hearCase_45 : decode cX2_hearCase 45 = .ok (.bipush 102, 2) := by decide +kernel
theorem dX2_hearCase_47 : decode cX2_hearCase 47 = .ok (.if_icmp .eq 6, 3) := by decide +kernel
theorem dX2_hearCase_50 : decode cX2_hearCase 50 = .ok (.bipush (-3), 2) := by decide +kernel
theorem dX2_hearCase_52 : decode cX2_hearCase 52 = .ok (.ireturn, 1) := by decide +kernel
theorem dX2_hearCase_53 : decode cX2_hearCase 53 = .ok (.aload_n 1, 1) := by decide +kernel
theorem dX2_hearCase_54 : decode cX2_hearCase 54 = .ok (.getfield 162, 3) := by decide +kernel
theorem dX2_hearCase_57 : decode cX2_hearCase 57 = .ok (.aload 4, 2) := by decide +kernel
theorem dX2_hearCase_59 : decode cX2_hearCase 59 = .ok (.getfield 165, 3) := by decide +kernel
theorem dX2_hearCase_62 : decode cX2_hearCase 62 = .ok (.iadd, 1) := by decide +kernel
theorem dX2_hearCase_63 : decode cX2_hearCase 63 = .ok (.aload 4, 2) := by decide +kernel
theorem dX2_hearCase_65 : decode cX2_hearCase 65 = .ok (.getfield 168, 3) := by decide +kernel
theorem dX2_hearCase_68 : decode cX2_hearCase 68 = .ok (.if_icmp .gt 7, 3) := by decide +kernel
theorem dX2_hearCase_71 : decode cX2_hearCase 71 = .ok (.iconst 1, 1) := by decide +kernel
theorem dX2_hearCase_72 : decode cX2_hearCase 72 = .ok (.goto 4, 3) := by decide +kernel
theorem dX2_hearCase_75 : decode cX2_hearCase 75 = .ok (.iconst 0, 1) := by decide +kernel
theorem dX2_hearCase_76 : decode cX2_hearCase 76 = .ok (.istore 5, 2) := by decide +kernel
theorem dX2_hearCase_78 : decode cX2_hearCase 78 = .ok (.iload 5, 2) := by decide +kernel
theorem dX2_hearCase_80 : decode cX2_hearCase 80 = .ok (.ifCond .eq 16, 3) := by decide +kernel
theorem dX2_hearCase_83 : decode cX2_hearCase 83 = .ok (.aload_n 1, 1) := by decide +kernel
theorem dX2_hearCase_84 : decode cX2_hearCase 84 = .ok (.getfield 112, 3) := by decide +kernel
theorem dX2_hearCase_87 : decode cX2_hearCase 87 = .ok (.invokevirtual 171, 3) := by decide +kernel
theorem dX2_hearCase_90 : decode cX2_hearCase 90 = .ok (.ifCond .eq 6, 3) := by decide +kernel
theorem dX2_hearCase_93 : decode cX2_hearCase 93 = .ok (.bipush (-5), 2) := by decide +kernel
theorem dX2_hearCase_95 : decode cX2_hearCase 95 = .ok (.ireturn, 1) := by decide +kernel
theorem dX2_hearCase_96 : decode cX2_hearCase 96 = .ok (.aload_n 1, 1) := by decide +kernel
theorem dX2_hearCase_97 : decode cX2_hearCase 97 = .ok (.dup, 1) := by decide +kernel
theorem dX2_hearCase_98 : decode cX2_hearCase 98 = .ok (.getfield 162, 3) := by decide +kernel
theorem dX2_hearCase_101 : decode cX2_hearCase 101 = .ok (.aload 4, 2) := by decide +kernel
theorem dX2_hearCase_103 : decode cX2_hearCase 103 = .ok (.getfield 165, 3) := by decide +kernel
theorem dX2_hearCase_106 : decode cX2_hearCase 106 = .ok (.iadd, 1) := by decide +kernel
theorem dX2_hearCase_107 : decode cX2_hearCase 107 = .ok (.putfield 162, 3) := by decide +kernel
theorem dX2_hearCase_110 : decode cX2_hearCase 110 = .ok (.aload 4, 2) := by decide +kernel
theorem dX2_hearCase_112 : decode cX2_hearCase 112 = .ok (.iconst 4, 1) := by decide +kernel
theorem dX2_hearCase_113 : decode cX2_hearCase 113 = .ok (.aload 4, 2) := by decide +kernel
theorem dX2_hearCase_115 : decode cX2_hearCase 115 = .ok (.getfield 165, 3) := by decide +kernel
theorem dX2_hearCase_118 : decode cX2_hearCase 118 = .ok (.imul, 1) := by decide +kernel
theorem dX2_hearCase_119 : decode cX2_hearCase 119 = .ok (.aload_n 0, 1) := by decide +kernel
theorem dX2_hearCase_120 : decode cX2_hearCase 120 = .ok (.getfield 12, 3) := by decide +kernel
theorem dX2_hearCase_123 : decode cX2_hearCase 123 = .ok (.aload_n 1, 1) := by decide +kernel
theorem dX2_hearCase_124 : decode cX2_hearCase 124 = .ok (.aload 4, 2) := by decide +kernel
theorem dX2_hearCase_126 : decode cX2_hearCase 126 = .ok (.getfield 172, 3) := by decide +kernel
theorem dX2_hearCase_129 : decode cX2_hearCase 129 = .ok (.aload 4, 2) := by decide +kernel
theorem dX2_hearCase_131 : decode cX2_hearCase 131 = .ok (.getfield 175, 3) := by decide +kernel
theorem dX2_hearCase_134 : decode cX2_hearCase 134 = .ok (.invokevirtual 178, 3) := by decide +kernel
theorem dX2_hearCase_137 : decode cX2_hearCase 137 = .ok (.iadd, 1) := by decide +kernel
theorem dX2_hearCase_138 : decode cX2_hearCase 138 = .ok (.putfield 181, 3) := by decide +kernel
theorem dX2_hearCase_141 : decode cX2_hearCase 141 = .ok (.aload 4, 2) := by decide +kernel
theorem dX2_hearCase_143 : decode cX2_hearCase 143 = .ok (.iload 5, 2) := by decide +kernel
theorem dX2_hearCase_145 : decode cX2_hearCase 145 = .ok (.ifCond .eq 8, 3) := by decide +kernel
theorem dX2_hearCase_148 : decode cX2_hearCase 148 = .ok (.bipush 114, 2) := by decide +kernel
theorem dX2_hearCase_150 : decode cX2_hearCase 150 = .ok (.goto 5, 3) := by decide +kernel
theorem dX2_hearCase_153 : decode cX2_hearCase 153 = .ok (.bipush 100, 2) := by decide +kernel
theorem dX2_hearCase_155 : decode cX2_hearCase 155 = .ok (.putfield 158, 3) := by decide +kernel
theorem dX2_hearCase_158 : decode cX2_hearCase 158 = .ok (.iload 5, 2) := by decide +kernel
theorem dX2_hearCase_160 : decode cX2_hearCase 160 = .ok (.ifCond .eq 46, 3) := by decide +kernel
theorem dX2_hearCase_163 : decode cX2_hearCase 163 = .ok (.aload 4, 2) := by decide +kernel
theorem dX2_hearCase_165 : decode cX2_hearCase 165 = .ok (.aload_n 0, 1) := by decide +kernel
theorem dX2_hearCase_166 : decode cX2_hearCase 166 = .ok (.aload_n 1, 1) := by decide +kernel
theorem dX2_hearCase_167 : decode cX2_hearCase 167 = .ok (.aload 4, 2) := by decide +kernel
theorem dX2_hearCase_169 : decode cX2_hearCase 169 = .ok (.getfield 184, 3) := by decide +kernel
theorem dX2_hearCase_172 : decode cX2_hearCase 172 = .ok (.iconst (-1), 1) := by decide +kernel
theorem dX2_hearCase_173 : decode cX2_hearCase 173 = .ok (.iconst (-1), 1) := by decide +kernel
theorem dX2_hearCase_174 : decode cX2_hearCase 174 = .ok (.invokevirtual 185, 3) := by decide +kernel
theorem dX2_hearCase_177 : decode cX2_hearCase 177 = .ok (.putfield 189, 3) := by decide +kernel
theorem dX2_hearCase_180 : decode cX2_hearCase 180 = .ok (.aload 4, 2) := by decide +kernel
theorem dX2_hearCase_182 : decode cX2_hearCase 182 = .ok (.aload_n 0, 1) := by decide +kernel
theorem dX2_hearCase_183 : decode cX2_hearCase 183 = .ok (.aload_n 1, 1) := by decide +kernel
theorem dX2_hearCase_184 : decode cX2_hearCase 184 = .ok (.aload 4, 2) := by decide +kernel
theorem dX2_hearCase_186 : decode cX2_hearCase 186 = .ok (.getfield 189, 3) := by decide +kernel
theorem dX2_hearCase_189 : decode cX2_hearCase 189 = .ok (.aload 4, 2) := by decide +kernel
theorem dX2_hearCase_191 : decode cX2_hearCase 191 = .ok (.getfield 184, 3) := by decide +kernel
theorem dX2_hearCase_194 : decode cX2_hearCase 194 = .ok (.invokevirtual 192, 3) := by decide +kernel
theorem dX2_hearCase_197 : decode cX2_hearCase 197 = .ok (.invokevirtual 195, 3) := by decide +kernel
theorem dX2_hearCase_200 : decode cX2_hearCase 200 = .ok (.aload_n 1, 1) := by decide +kernel
theorem dX2_hearCase_201 : decode cX2_hearCase 201 = .ok (.aload 4, 2) := by decide +kernel
theorem dX2_hearCase_203 : decode cX2_hearCase 203 = .ok (.invokestatic 199, 3) := by decide +kernel
theorem dX2_hearCase_206 : decode cX2_hearCase 206 = .ok (.aload_n 1, 1) := by decide +kernel
theorem dX2_hearCase_207 : decode cX2_hearCase 207 = .ok (.getfield 136, 3) := by decide +kernel
theorem dX2_hearCase_210 : decode cX2_hearCase 210 = .ok (.iload_n 3, 1) := by decide +kernel
theorem dX2_hearCase_211 : decode cX2_hearCase 211 = .ok (.aload 4, 2) := by decide +kernel
theorem dX2_hearCase_213 : decode cX2_hearCase 213 = .ok (.invokevirtual 203, 3) := by decide +kernel
theorem dX2_hearCase_216 : decode cX2_hearCase 216 = .ok (.pop, 1) := by decide +kernel
theorem dX2_hearCase_217 : decode cX2_hearCase 217 = .ok (.aload_n 1, 1) := by decide +kernel
theorem dX2_hearCase_218 : decode cX2_hearCase 218 = .ok (.aload 4, 2) := by decide +kernel
theorem dX2_hearCase_220 : decode cX2_hearCase 220 = .ok (.aload 4, 2) := by decide +kernel
theorem dX2_hearCase_222 : decode cX2_hearCase 222 = .ok (.getfield 207, 3) := by decide +kernel
theorem dX2_hearCase_225 : decode cX2_hearCase 225 = .ok (.invokestatic 210, 3) := by decide +kernel
theorem dX2_hearCase_228 : decode cX2_hearCase 228 = .ok (.aload_n 1, 1) := by decide +kernel
theorem dX2_hearCase_229 : decode cX2_hearCase 229 = .ok (.aload 4, 2) := by decide +kernel
theorem dX2_hearCase_231 : decode cX2_hearCase 231 = .ok (.invokestatic 214, 3) := by decide +kernel
theorem dX2_hearCase_234 : decode cX2_hearCase 234 = .ok (.aload 4, 2) := by decide +kernel
theorem dX2_hearCase_236 : decode cX2_hearCase 236 = .ok (.getfield 207, 3) := by decide +kernel
theorem dX2_hearCase_239 : decode cX2_hearCase 239 = .ok (.ireturn, 1) := by decide +kernel
theorem dX2_addRuling_0 : decode cX2_addRuling 0 = .ok (.aload_n 0, 1) := by decide +kernel
theorem dX2_addRuling_1 : decode cX2_addRuling 1 = .ok (.getfield 112, 3) := by decide +kernel
theorem dX2_addRuling_4 : decode cX2_addRuling 4 = .ok (.invokevirtual 116, 3) := by decide +kernel
theorem dX2_addRuling_7 : decode cX2_addRuling 7 = .ok (.bipush 20, 2) := by decide +kernel
theorem dX2_addRuling_9 : decode cX2_addRuling 9 = .ok (.if_icmp .ge 37, 3) := by decide +kernel
theorem dX2_addRuling_12 : decode cX2_addRuling 12 = .ok (.aload_n 1, 1) := by decide +kernel
theorem dX2_addRuling_13 : decode cX2_addRuling 13 = .ok (.aload_n 0, 1) := by decide +kernel
theorem dX2_addRuling_14 : decode cX2_addRuling 14 = .ok (.getfield 112, 3) := by decide +kernel
theorem dX2_addRuling_17 : decode cX2_addRuling 17 = .ok (.invokevirtual 116, 3) := by decide +kernel
theorem dX2_addRuling_20 : decode cX2_addRuling 20 = .ok (.putfield 217, 3) := by decide +kernel
theorem dX2_addRuling_23 : decode cX2_addRuling 23 = .ok (.aload_n 0, 1) := by decide +kernel
theorem dX2_addRuling_24 : decode cX2_addRuling 24 = .ok (.getfield 112, 3) := by decide +kernel
theorem dX2_addRuling_27 : decode cX2_addRuling 27 = .ok (.new 127, 3) := by decide +kernel
theorem dX2_addRuling_30 : decode cX2_addRuling 30 = .ok (.dup, 1) := by decide +kernel
theorem dX2_addRuling_31 : decode cX2_addRuling 31 = .ok (.aload_n 1, 1) := by decide +kernel
theorem dX2_addRuling_32 : decode cX2_addRuling 32 = .ok (.getfield 184, 3) := by decide +kernel
theorem dX2_addRuling_35 : decode cX2_addRuling 35 = .ok (.aload_n 1, 1) := by decide +kernel
theorem dX2_addRuling_36 : decode cX2_addRuling 36 = .ok (.getfield 220, 3) := by decide +kernel
theorem dX2_addRuling_39 : decode cX2_addRuling 39 = .ok (.invokespecial 129, 3) := by decide +kernel
theorem dX2_addRuling_42 : decode cX2_addRuling 42 = .ok (.invokevirtual 132, 3) := by decide +kernel
theorem dX2_addRuling_45 : decode cX2_addRuling 45 = .ok (.pop, 1) := by decide +kernel
theorem dX2_addRuling_46 : decode cX2_addRuling 46 = .ok (.return_, 1) := by decide +kernel
theorem dX2_appealCase_0 : decode cX2_appealCase 0 = .ok (.aload_n 1, 1) := by decide +kernel
theorem dX2_appealCase_1 : decode cX2_appealCase 1 = .ok (.iload_n 2, 1) := by decide +kernel
theorem dX2_appealCase_2 : decode cX2_appealCase 2 = .ok (.invokevirtual 147, 3) := by decide +kernel
theorem dX2_appealCase_5 : decode cX2_appealCase 5 = .ok (.istore_n 3, 1) := by decide +kernel
theorem dX2_appealCase_6 : decode cX2_appealCase 6 = .ok (.iload_n 3, 1) := by decide +kernel
theorem dX2_appealCase_7 : decode cX2_appealCase 7 = .ok (.ifCond .lt 14, 3) := by decide +kernel
theorem dX2_appealCase_10 : decode cX2_appealCase 10 = .ok (.iload_n 3, 1) := by decide +kernel
theorem dX2_appealCase_11 : decode cX2_appealCase 11 = .ok (.aload_n 1, 1) := by decide +kernel
theorem dX2_appealCase_12 : decode cX2_appealCase 12 = .ok (.getfield 136, 3) := by decide +kernel
theorem dX2_appealCase_15 : decode cX2_appealCase 15 = .ok (.invokevirtual 116, 3) := by decide +kernel
theorem dX2_appealCase_18 : decode cX2_appealCase 18 = .ok (.if_icmp .lt 6, 3) := by decide +kernel
theorem dX2_appealCase_21 : decode cX2_appealCase 21 = .ok (.bipush (-4), 2) := by decide +kernel
theorem dX2_appealCase_23 : decode cX2_appealCase 23 = .ok (.ireturn, 1) := by decide +kernel
theorem dX2_appealCase_24 : decode cX2_appealCase 24 = .ok (.aload_n 1, 1) := by decide +kernel
theorem dX2_appealCase_25 : decode cX2_appealCase 25 = .ok (.getfield 136, 3) := by decide +kernel
theorem dX2_appealCase_28 : decode cX2_appealCase 28 = .ok (.iload_n 3, 1) := by decide +kernel
theorem dX2_appealCase_29 : decode cX2_appealCase 29 = .ok (.invokevirtual 150, 3) := by decide +kernel
theorem dX2_appealCase_32 : decode cX2_appealCase 32 = .ok (.checkcast 142, 3) := by decide +kernel
theorem dX2_appealCase_35 : decode cX2_appealCase 35 = .ok (.invokevirtual 154, 3) := by decide +kernel
theorem dX2_appealCase_38 : decode cX2_appealCase 38 = .ok (.astore 4, 2) := by decide +kernel
theorem dX2_appealCase_40 : decode cX2_appealCase 40 = .ok (.aload 4, 2) := by decide +kernel
theorem dX2_appealCase_42 : decode cX2_appealCase 42 = .ok (.getfield 158, 3) := by decide +kernel
theorem dX2_appealCase_45 : decode cX2_appealCase 45 = .ok (.bipush 114, 2) := by decide +kernel
theorem dX2_appealCase_47 : decode cX2_appealCase 47 = .ok (.if_icmp .ne 11, 3) := by decide +kernel
theorem dX2_appealCase_50 : decode cX2_appealCase 50 = .ok (.aload 4, 2) := by decide +kernel
theorem dX2_appealCase_52 : decode cX2_appealCase 52 = .ok (.getfield 223, 3) := by decide +kernel
theorem dX2_appealCase_55 : decode cX2_appealCase 55 = .ok (.ifCond .eq 6, 3) := by decide +kernel
theorem dX2_appealCase_58 : decode cX2_appealCase 58 = .ok (.bipush (-3), 2) := by decide +kernel
theorem dX2_appealCase_60 : decode cX2_appealCase 60 = .ok (.ireturn, 1) := by decide +kernel
theorem dX2_appealCase_61 : decode cX2_appealCase 61 = .ok (.aload_n 0, 1) := by decide +kernel
theorem dX2_appealCase_62 : decode cX2_appealCase 62 = .ok (.aload_n 1, 1) := by decide +kernel
theorem dX2_appealCase_63 : decode cX2_appealCase 63 = .ok (.aload 4, 2) := by decide +kernel
theorem dX2_appealCase_65 : decode cX2_appealCase 65 = .ok (.getfield 184, 3) := by decide +kernel
theorem dX2_appealCase_68 : decode cX2_appealCase 68 = .ok (.aload 4, 2) := by decide +kernel
theorem dX2_appealCase_70 : decode cX2_appealCase 70 = .ok (.getfield 189, 3) := by decide +kernel
theorem dX2_appealCase_73 : decode cX2_appealCase 73 = .ok (.aload 4, 2) := by decide +kernel
theorem dX2_appealCase_75 : decode cX2_appealCase 75 = .ok (.getfield 217, 3) := by decide +kernel
theorem dX2_appealCase_78 : decode cX2_appealCase 78 = .ok (.invokevirtual 185, 3) := by decide +kernel
theorem dX2_appealCase_81 : decode cX2_appealCase 81 = .ok (.istore 5, 2) := by decide +kernel
theorem dX2_appealCase_83 : decode cX2_appealCase 83 = .ok (.iload 5, 2) := by decide +kernel
theorem dX2_appealCase_85 : decode cX2_appealCase 85 = .ok (.iconst (-1), 1) := by decide +kernel
theorem dX2_appealCase_86 : decode cX2_appealCase 86 = .ok (.if_icmp .ne 6, 3) := by decide +kernel
theorem dX2_appealCase_89 : decode cX2_appealCase 89 = .ok (.bipush (-5), 2) := by decide +kernel
theorem dX2_appealCase_91 : decode cX2_appealCase 91 = .ok (.ireturn, 1) := by decide +kernel
theorem dX2_appealCase_92 : decode cX2_appealCase 92 = .ok (.aload 4, 2) := by decide +kernel
theorem dX2_appealCase_94 : decode cX2_appealCase 94 = .ok (.getfield 207, 3) := by decide +kernel
theorem dX2_appealCase_97 : decode cX2_appealCase 97 = .ok (.istore 6, 2) := by decide +kernel
theorem dX2_appealCase_99 : decode cX2_appealCase 99 = .ok (.aload 4, 2) := by decide +kernel
theorem dX2_appealCase_101 : decode cX2_appealCase 101 = .ok (.iconst 1, 1) := by decide +kernel
theorem dX2_appealCase_102 : decode cX2_appealCase 102 = .ok (.putfield 223, 3) := by decide +kernel
theorem dX2_appealCase_105 : decode cX2_appealCase 105 = .ok (.aload 4, 2) := by decide +kernel
theorem dX2_appealCase_107 : decode cX2_appealCase 107 = .ok (.aload_n 0, 1) := by decide +kernel
theorem dX2_appealCase_108 : decode cX2_appealCase 108 = .ok (.aload_n 1, 1) := by decide +kernel
theorem dX2_appealCase_109 : decode cX2_appealCase 109 = .ok (.iload 5, 2) := by decide +kernel
theorem dX2_appealCase_111 : decode cX2_appealCase 111 = .ok (.aload 4, 2) := by decide +kernel
theorem dX2_appealCase_113 : decode cX2_appealCase 113 = .ok (.getfield 184, 3) := by decide +kernel
theorem dX2_appealCase_116 : decode cX2_appealCase 116 = .ok (.invokevirtual 192, 3) := by decide +kernel
theorem dX2_appealCase_119 : decode cX2_appealCase 119 = .ok (.invokevirtual 195, 3) := by decide +kernel
theorem dX2_appealCase_122 : decode cX2_appealCase 122 = .ok (.aload 4, 2) := by decide +kernel
theorem dX2_appealCase_124 : decode cX2_appealCase 124 = .ok (.getfield 217, 3) := by decide +kernel
theorem dX2_appealCase_127 : decode cX2_appealCase 127 = .ok (.ifCond .lt 48, 3) := by decide +kernel
theorem dX2_appealCase_130 : decode cX2_appealCase 130 = .ok (.aload 4, 2) := by decide +kernel
theorem dX2_appealCase_132 : decode cX2_appealCase 132 = .ok (.getfield 217, 3) := by decide +kernel
theorem dX2_appealCase_135 : decode cX2_appealCase 135 = .ok (.aload_n 1, 1) := by decide +kernel
theorem dX2_appealCase_136 : decode cX2_appealCase 136 = .ok (.getfield 112, 3) := by decide +kernel
theorem dX2_appealCase_139 : decode cX2_appealCase 139 = .ok (.invokevirtual 116, 3) := by decide +kernel
theorem dX2_appealCase_142 : decode cX2_appealCase 142 = .ok (.if_icmp .ge 33, 3) := by decide +kernel
theorem dX2_appealCase_145 : decode cX2_appealCase 145 = .ok (.aload_n 1, 1) := by decide +kernel
theorem dX2_appealCase_146 : decode cX2_appealCase 146 = .ok (.getfield 112, 3) := by decide +kernel
theorem dX2_appealCase_149 : decode cX2_appealCase 149 = .ok (.aload 4, 2) := by decide +kernel
theorem dX2_appealCase_151 : decode cX2_appealCase 151 = .ok (.getfield 217, 3) := by decide +kernel
theorem dX2_appealCase_154 : decode cX2_appealCase 154 = .ok (.new 127, 3) := by decide +kernel
theorem dX2_appealCase_157 : decode cX2_appealCase 157 = .ok (.dup, 1) := by decide +kernel
theorem dX2_appealCase_158 : decode cX2_appealCase 158 = .ok (.aload 4, 2) := by decide +kernel
theorem dX2_appealCase_160 : decode cX2_appealCase 160 = .ok (.getfield 184, 3) := by decide +kernel
theorem dX2_appealCase_163 : decode cX2_appealCase 163 = .ok (.aload 4, 2) := by decide +kernel
theorem dX2_appealCase_165 : decode cX2_appealCase 165 = .ok (.getfield 220, 3) := by decide +kernel
theorem dX2_appealCase_168 : decode cX2_appealCase 168 = .ok (.invokespecial 129, 3) := by decide +kernel
theorem dX2_appealCase_171 : decode cX2_appealCase 171 = .ok (.invokevirtual 203, 3) := by decide +kernel
theorem dX2_appealCase_174 : decode cX2_appealCase 174 = .ok (.pop, 1) := by decide +kernel
theorem dX2_appealCase_175 : decode cX2_appealCase 175 = .ok (.aload_n 1, 1) := by decide +kernel
theorem dX2_appealCase_176 : decode cX2_appealCase 176 = .ok (.getfield 136, 3) := by decide +kernel
theorem dX2_appealCase_179 : decode cX2_appealCase 179 = .ok (.iload_n 3, 1) := by decide +kernel
theorem dX2_appealCase_180 : decode cX2_appealCase 180 = .ok (.aload 4, 2) := by decide +kernel
theorem dX2_appealCase_182 : decode cX2_appealCase 182 = .ok (.invokevirtual 203, 3) := by decide +kernel
theorem dX2_appealCase_185 : decode cX2_appealCase 185 = .ok (.pop, 1) := by decide +kernel
theorem dX2_appealCase_186 : decode cX2_appealCase 186 = .ok (.aload_n 1, 1) := by decide +kernel
theorem dX2_appealCase_187 : decode cX2_appealCase 187 = .ok (.aload 4, 2) := by decide +kernel
theorem dX2_appealCase_189 : decode cX2_appealCase 189 = .ok (.aload 4, 2) := by decide +kernel
theorem dX2_appealCase_191 : decode cX2_appealCase 191 = .ok (.getfield 207, 3) := by decide +kernel
theorem dX2_appealCase_194 : decode cX2_appealCase 194 = .ok (.iload 6, 2) := by decide +kernel
theorem dX2_appealCase_196 : decode cX2_appealCase 196 = .ok (.isub, 1) := by decide +kernel
theorem dX2_appealCase_197 : decode cX2_appealCase 197 = .ok (.invokestatic 210, 3) := by decide +kernel
theorem dX2_appealCase_200 : decode cX2_appealCase 200 = .ok (.aload_n 1, 1) := by decide +kernel
theorem dX2_appealCase_201 : decode cX2_appealCase 201 = .ok (.aload 4, 2) := by decide +kernel
theorem dX2_appealCase_203 : decode cX2_appealCase 203 = .ok (.getfield 172, 3) := by decide +kernel
theorem dX2_appealCase_206 : decode cX2_appealCase 206 = .ok (.iconst 3, 1) := by decide +kernel
theorem dX2_appealCase_207 : decode cX2_appealCase 207 = .ok (.invokevirtual 227, 3) := by decide +kernel
theorem dX2_appealCase_210 : decode cX2_appealCase 210 = .ok (.aload_n 1, 1) := by decide +kernel
theorem dX2_appealCase_211 : decode cX2_appealCase 211 = .ok (.aload 4, 2) := by decide +kernel
theorem dX2_appealCase_213 : decode cX2_appealCase 213 = .ok (.getfield 175, 3) := by decide +kernel
theorem dX2_appealCase_216 : decode cX2_appealCase 216 = .ok (.iconst 3, 1) := by decide +kernel
theorem dX2_appealCase_217 : decode cX2_appealCase 217 = .ok (.invokevirtual 227, 3) := by decide +kernel
theorem dX2_appealCase_220 : decode cX2_appealCase 220 = .ok (.aload 4, 2) := by decide +kernel
theorem dX2_appealCase_222 : decode cX2_appealCase 222 = .ok (.getfield 207, 3) := by decide +kernel
theorem dX2_appealCase_225 : decode cX2_appealCase 225 = .ok (.ireturn, 1) := by decide +kernel
theorem dX2_nearestOf_0 : decode cX2_nearestOf 0 = .ok (.iconst (-1), 1) := by decide +kernel
theorem dX2_nearestOf_1 : decode cX2_nearestOf 1 = .ok (.istore 5, 2) := by decide +kernel
theorem dX2_nearestOf_3 : decode cX2_nearestOf 3 = .ok (.iconst 0, 1) := by decide +kernel
theorem dX2_nearestOf_4 : decode cX2_nearestOf 4 = .ok (.istore 6, 2) := by decide +kernel
theorem dX2_nearestOf_6 : decode cX2_nearestOf 6 = .ok (.iconst 0, 1) := by decide +kernel
theorem dX2_nearestOf_7 : decode cX2_nearestOf 7 = .ok (.istore 7, 2) := by decide +kernel
theorem dX2_nearestOf_9 : decode cX2_nearestOf 9 = .ok (.iload 7, 2) := by decide +kernel
theorem dX2_nearestOf_11 : decode cX2_nearestOf 11 = .ok (.aload_n 1, 1) := by decide +kernel
theorem dX2_nearestOf_12 : decode cX2_nearestOf 12 = .ok (.getfield 112, 3) := by decide +kernel
theorem dX2_nearestOf_15 : decode cX2_nearestOf 15 = .ok (.invokevirtual 116, 3) := by decide +kernel
theorem dX2_nearestOf_18 : decode cX2_nearestOf 18 = .ok (.if_icmp .ge 68, 3) := by decide +kernel
theorem dX2_nearestOf_21 : decode cX2_nearestOf 21 = .ok (.iload 7, 2) := by decide +kernel
theorem dX2_nearestOf_23 : decode cX2_nearestOf 23 = .ok (.iload_n 3, 1) := by decide +kernel
theorem dX2_nearestOf_24 : decode cX2_nearestOf 24 = .ok (.if_icmp .eq 56, 3) := by decide +kernel
theorem dX2_nearestOf_27 : decode cX2_nearestOf 27 = .ok (.iload 7, 2) := by decide +kernel
theorem dX2_nearestOf_29 : decode cX2_nearestOf 29 = .ok (.iload 4, 2) := by decide +kernel
theorem dX2_nearestOf_31 : decode cX2_nearestOf 31 = .ok (.if_icmp .eq 49, 3) := by decide +kernel
theorem dX2_nearestOf_34 : decode cX2_nearestOf 34 = .ok (.aload_n 0, 1) := by decide +kernel
theorem dX2_nearestOf_35 : decode cX2_nearestOf 35 = .ok (.getfield 21, 3) := by decide +kernel
theorem dX2_nearestOf_38 : decode cX2_nearestOf 38 = .ok (.aload_n 2, 1) := by decide +kernel
theorem dX2_nearestOf_39 : decode cX2_nearestOf 39 = .ok (.aload_n 1, 1) := by decide +kernel
theorem dX2_nearestOf_40 : decode cX2_nearestOf 40 = .ok (.getfield 112, 3) := by decide +kernel
theorem dX2_nearestOf_43 : decode cX2_nearestOf 43 = .ok (.iload 7, 2) := by decide +kernel
theorem dX2_nearestOf_45 : decode cX2_nearestOf 45 = .ok (.invokevirtual 150, 3) := by decide +kernel
theorem dX2_nearestOf_48 : decode cX2_nearestOf 48 = .ok (.checkcast 127, 3) := by decide +kernel
theorem dX2_nearestOf_51 : decode cX2_nearestOf 51 = .ok (.getfield 231, 3) := by decide +kernel
theorem dX2_nearestOf_54 : decode cX2_nearestOf 54 = .ok (.invokevirtual 232, 3) := by decide +kernel
theorem dX2_nearestOf_57 : decode cX2_nearestOf 57 = .ok (.istore 8, 2) := by decide +kernel
theorem dX2_nearestOf_59 : decode cX2_nearestOf 59 = .ok (.iload 5, 2) := by decide +kernel
theorem dX2_nearestOf_61 : decode cX2_nearestOf 61 = .ok (.iconst (-1), 1) := by decide +kernel
theorem dX2_nearestOf_62 : decode cX2_nearestOf 62 = .ok (.if_icmp .eq 10, 3) := by decide +kernel
theorem dX2_nearestOf_65 : decode cX2_nearestOf 65 = .ok (.iload 8, 2) := by decide +kernel
theorem dX2_nearestOf_67 : decode cX2_nearestOf 67 = .ok (.iload 6, 2) := by decide +kernel
theorem dX2_nearestOf_69 : decode cX2_nearestOf 69 = .ok (.if_icmp .gt 11, 3) := by decide +kernel
theorem dX2_nearestOf_72 : decode cX2_nearestOf 72 = .ok (.iload 7, 2) := by decide +kernel
theorem dX2_nearestOf_74 : decode cX2_nearestOf 74 = .ok (.istore 5, 2) := by decide +kernel
theorem dX2_nearestOf_76 : decode cX2_nearestOf 76 = .ok (.iload 8, 2) := by decide +kernel
theorem dX2_nearestOf_78 : decode cX2_nearestOf 78 = .ok (.istore 6, 2) := by decide +kernel
theorem dX2_nearestOf_80 : decode cX2_nearestOf 80 = .ok (.iinc 7 1, 3) := by decide +kernel
theorem dX2_nearestOf_83 : decode cX2_nearestOf 83 = .ok (.goto (-74), 3) := by decide +kernel
theorem dX2_nearestOf_86 : decode cX2_nearestOf 86 = .ok (.iload 5, 2) := by decide +kernel
theorem dX2_nearestOf_88 : decode cX2_nearestOf 88 = .ok (.ireturn, 1) := by decide +kernel
theorem dX2_percentageBy_0 : decode cX2_percentageBy 0 = .ok (.iload_n 2, 1) := by decide +kernel
theorem dX2_percentageBy_1 : decode cX2_percentageBy 1 = .ok (.ifCond .lt 14, 3) := by decide +kernel
theorem dX2_percentageBy_4 : decode cX2_percentageBy 4 = .ok (.iload_n 2, 1) := by decide +kernel
theorem dX2_percentageBy_5 : decode cX2_percentageBy 5 = .ok (.aload_n 1, 1) := by decide +kernel
theorem dX2_percentageBy_6 : decode cX2_percentageBy 6 = .ok (.getfield 112, 3) := by decide +kernel
theorem dX2_percentageBy_9 : decode cX2_percentageBy 9 = .ok (.invokevirtual 116, 3) := by decide +kernel
theorem dX2_percentageBy_12 : decode cX2_percentageBy 12 = .ok (.if_icmp .lt 6, 3) := by decide +kernel
theorem dX2_percentageBy_15 : decode cX2_percentageBy 15 = .ok (.bipush 50, 2) := by decide +kernel
theorem dX2_percentageBy_17 : decode cX2_percentageBy 17 = .ok (.ireturn, 1) := by decide +kernel
theorem dX2_percentageBy_18 : decode cX2_percentageBy 18 = .ok (.aload_n 1, 1) := by decide +kernel
theorem dX2_percentageBy_19 : decode cX2_percentageBy 19 = .ok (.getfield 112, 3) := by decide +kernel
theorem dX2_percentageBy_22 : decode cX2_percentageBy 22 = .ok (.iload_n 2, 1) := by decide +kernel
theorem dX2_percentageBy_23 : decode cX2_percentageBy 23 = .ok (.invokevirtual 150, 3) := by decide +kernel
theorem dX2_percentageBy_26 : decode cX2_percentageBy 26 = .ok (.checkcast 127, 3) := by decide +kernel
theorem dX2_percentageBy_29 : decode cX2_percentageBy 29 = .ok (.astore 4, 2) := by decide +kernel
theorem dX2_percentageBy_31 : decode cX2_percentageBy 31 = .ok (.iconst 5, 1) := by decide +kernel
theorem dX2_percentageBy_32 : decode cX2_percentageBy 32 = .ok (.aload_n 0, 1) := by decide +kernel
theorem dX2_percentageBy_33 : decode cX2_percentageBy 33 = .ok (.getfield 21, 3) := by decide +kernel
theorem dX2_percentageBy_36 : decode cX2_percentageBy 36 = .ok (.aload_n 3, 1) := by decide +kernel
theorem dX2_percentageBy_37 : decode cX2_percentageBy 37 = .ok (.aload 4, 2) := by decide +kernel
theorem dX2_percentageBy_39 : decode cX2_percentageBy 39 = .ok (.getfield 231, 3) := by decide +kernel
theorem dX2_percentageBy_42 : decode cX2_percentageBy 42 = .ok (.invokevirtual 232, 3) := by decide +kernel
theorem dX2_percentageBy_45 : decode cX2_percentageBy 45 = .ok (.imul, 1) := by decide +kernel
theorem dX2_percentageBy_46 : decode cX2_percentageBy 46 = .ok (.istore 5, 2) := by decide +kernel
theorem dX2_percentageBy_48 : decode cX2_percentageBy 48 = .ok (.aload 4, 2) := by decide +kernel
theorem dX2_percentageBy_50 : decode cX2_percentageBy 50 = .ok (.getfield 236, 3) := by decide +kernel
theorem dX2_percentageBy_53 : decode cX2_percentageBy 53 = .ok (.bipush 50, 2) := by decide +kernel
theorem dX2_percentageBy_55 : decode cX2_percentageBy 55 = .ok (.if_icmp .le 17, 3) := by decide +kernel
theorem dX2_percentageBy_58 : decode cX2_percentageBy 58 = .ok (.bipush 50, 2) := by decide +kernel
theorem dX2_percentageBy_60 : decode cX2_percentageBy 60 = .ok (.aload 4, 2) := by decide +kernel
theorem dX2_percentageBy_62 : decode cX2_percentageBy 62 = .ok (.getfield 236, 3) := by decide +kernel
theorem dX2_percentageBy_65 : decode cX2_percentageBy 65 = .ok (.iload 5, 2) := by decide +kernel
theorem dX2_percentageBy_67 : decode cX2_percentageBy 67 = .ok (.isub, 1) := by decide +kernel
theorem dX2_percentageBy_68 : decode cX2_percentageBy 68 = .ok (.invokestatic 237, 3) := by decide +kernel
theorem dX2_percentageBy_71 : decode cX2_percentageBy 71 = .ok (.ireturn, 1) := by decide +kernel
theorem dX2_percentageBy_72 : decode cX2_percentageBy 72 = .ok (.bipush 50, 2) := by decide +kernel
theorem dX2_percentageBy_74 : decode cX2_percentageBy 74 = .ok (.aload 4, 2) := by decide +kernel
theorem dX2_percentageBy_76 : decode cX2_percentageBy 76 = .ok (.getfield 236, 3) := by decide +kernel
theorem dX2_percentageBy_79 : decode cX2_percentageBy 79 = .ok (.iload 5, 2) := by decide +kernel
theorem dX2_percentageBy_81 : decode cX2_percentageBy 81 = .ok (.iadd, 1) := by decide +kernel
theorem dX2_percentageBy_82 : decode cX2_percentageBy 82 = .ok (.invokestatic 242, 3) := by decide +kernel
theorem dX2_percentageBy_85 : decode cX2_percentageBy 85 = .ok (.ireturn, 1) := by decide +kernel
theorem dX2_moveAward_0 : decode cX2_moveAward 0 = .ok (.aload_n 0, 1) := by decide +kernel
theorem dX2_moveAward_1 : decode cX2_moveAward 1 = .ok (.aload_n 1, 1) := by decide +kernel
theorem dX2_moveAward_2 : decode cX2_moveAward 2 = .ok (.getfield 172, 3) := by decide +kernel
theorem dX2_moveAward_5 : decode cX2_moveAward 5 = .ok (.iload_n 2, 1) := by decide +kernel
theorem dX2_moveAward_6 : decode cX2_moveAward 6 = .ok (.invokevirtual 245, 3) := by decide +kernel
theorem dX2_moveAward_9 : decode cX2_moveAward 9 = .ok (.aload_n 0, 1) := by decide +kernel
theorem dX2_moveAward_10 : decode cX2_moveAward 10 = .ok (.aload_n 1, 1) := by decide +kernel
theorem dX2_moveAward_11 : decode cX2_moveAward 11 = .ok (.getfield 175, 3) := by decide +kernel
theorem dX2_moveAward_14 : decode cX2_moveAward 14 = .ok (.iload_n 2, 1) := by decide +kernel
theorem dX2_moveAward_15 : decode cX2_moveAward 15 = .ok (.ineg, 1) := by decide +kernel
theorem dX2_moveAward_16 : decode cX2_moveAward 16 = .ok (.invokevirtual 245, 3) := by decide +kernel
theorem dX2_moveAward_19 : decode cX2_moveAward 19 = .ok (.return_, 1) := by decide +kernel
theorem dX2_shareCost_0 : decode cX2_shareCost 0 = .ok (.aload_n 1, 1) := by decide +kernel
theorem dX2_shareCost_1 : decode cX2_shareCost 1 = .ok (.getfield 181, 3) := by decide +kernel
theorem dX2_shareCost_4 : decode cX2_shareCost 4 = .ok (.bipush 100, 2) := by decide +kernel
theorem dX2_shareCost_6 : decode cX2_shareCost 6 = .ok (.aload_n 1, 1) := by decide +kernel
theorem dX2_shareCost_7 : decode cX2_shareCost 7 = .ok (.getfield 220, 3) := by decide +kernel
theorem dX2_shareCost_10 : decode cX2_shareCost 10 = .ok (.isub, 1) := by decide +kernel
theorem dX2_shareCost_11 : decode cX2_shareCost 11 = .ok (.imul, 1) := by decide +kernel
theorem dX2_shareCost_12 : decode cX2_shareCost 12 = .ok (.bipush 100, 2) := by decide +kernel
theorem dX2_shareCost_14 : decode cX2_shareCost 14 = .ok (.idiv, 1) := by decide +kernel
theorem dX2_shareCost_15 : decode cX2_shareCost 15 = .ok (.istore_n 2, 1) := by decide +kernel
theorem dX2_shareCost_16 : decode cX2_shareCost 16 = .ok (.aload_n 0, 1) := by decide +kernel
theorem dX2_shareCost_17 : decode cX2_shareCost 17 = .ok (.aload_n 1, 1) := by decide +kernel
theorem dX2_shareCost_18 : decode cX2_shareCost 18 = .ok (.getfield 172, 3) := by decide +kernel
theorem dX2_shareCost_21 : decode cX2_shareCost 21 = .ok (.iload_n 2, 1) := by decide +kernel
theorem dX2_shareCost_22 : decode cX2_shareCost 22 = .ok (.invokevirtual 227, 3) := by decide +kernel
theorem dX2_shareCost_25 : decode cX2_shareCost 25 = .ok (.aload_n 0, 1) := by decide +kernel
theorem dX2_shareCost_26 : decode cX2_shareCost 26 = .ok (.aload_n 1, 1) := by decide +kernel
theorem dX2_shareCost_27 : decode cX2_shareCost 27 = .ok (.getfield 175, 3) := by decide +kernel
theorem dX2_shareCost_30 : decode cX2_shareCost 30 = .ok (.aload_n 1, 1) := by decide +kernel
theorem dX2_shareCost_31 : decode cX2_shareCost 31 = .ok (.getfield 181, 3) := by decide +kernel
theorem dX2_shareCost_34 : decode cX2_shareCost 34 = .ok (.iload_n 2, 1) := by decide +kernel
theorem dX2_shareCost_35 : decode cX2_shareCost 35 = .ok (.isub, 1) := by decide +kernel
theorem dX2_shareCost_36 : decode cX2_shareCost 36 = .ok (.invokevirtual 227, 3) := by decide +kernel
theorem dX2_shareCost_39 : decode cX2_shareCost 39 = .ok (.return_, 1) := by decide +kernel
theorem dX2_withdrawCase_0 : decode cX2_withdrawCase 0 = .ok (.aload_n 1, 1) := by decide +kernel
theorem dX2_withdrawCase_1 : decode cX2_withdrawCase 1 = .ok (.iload_n 2, 1) := by decide +kernel
theorem dX2_withdrawCase_2 : decode cX2_withdrawCase 2 = .ok (.invokevirtual 147, 3) := by decide +kernel
theorem dX2_withdrawCase_5 : decode cX2_withdrawCase 5 = .ok (.istore_n 3, 1) := by decide +kernel
theorem dX2_withdrawCase_6 : decode cX2_withdrawCase 6 = .ok (.iload_n 3, 1) := by decide +kernel
theorem dX2_withdrawCase_7 : decode cX2_withdrawCase 7 = .ok (.ifCond .lt 14, 3) := by decide +kernel
theorem dX2_withdrawCase_10 : decode cX2_withdrawCase 10 = .ok (.iload_n 3, 1) := by decide +kernel
theorem dX2_withdrawCase_11 : decode cX2_withdrawCase 11 = .ok (.aload_n 1, 1) := by decide +kernel
theorem dX2_withdrawCase_12 : decode cX2_withdrawCase 12 = .ok (.getfield 136, 3) := by decide +kernel
theorem dX2_withdrawCase_15 : decode cX2_withdrawCase 15 = .ok (.invokevirtual 116, 3) := by decide +kernel
theorem dX2_withdrawCase_18 : decode cX2_withdrawCase 18 = .ok (.if_icmp .lt 6, 3) := by decide +kernel
theorem dX2_withdrawCase_21 : decode cX2_withdrawCase 21 = .ok (.bipush (-4), 2) := by decide +kernel
theorem dX2_withdrawCase_23 : decode cX2_withdrawCase 23 = .ok (.ireturn, 1) := by decide +kernel
theorem dX2_withdrawCase_24 : decode cX2_withdrawCase 24 = .ok (.aload_n 1, 1) := by decide +kernel
theorem dX2_withdrawCase_25 : decode cX2_withdrawCase 25 = .ok (.getfield 136, 3) := by decide +kernel
theorem dX2_withdrawCase_28 : decode cX2_withdrawCase 28 = .ok (.iload_n 3, 1) := by decide +kernel
theorem dX2_withdrawCase_29 : decode cX2_withdrawCase 29 = .ok (.invokevirtual 150, 3) := by decide +kernel
theorem dX2_withdrawCase_32 : decode cX2_withdrawCase 32 = .ok (.checkcast 142, 3) := by decide +kernel
theorem dX2_withdrawCase_35 : decode cX2_withdrawCase 35 = .ok (.astore 4, 2) := by decide +kernel
theorem dX2_withdrawCase_37 : decode cX2_withdrawCase 37 = .ok (.aload 4, 2) := by decide +kernel
theorem dX2_withdrawCase_39 : decode cX2_withdrawCase 39 = .ok (.getfield 158, 3) := by decide +kernel
theorem dX2_withdrawCase_42 : decode cX2_withdrawCase 42 = .ok (.bipush 102, 2) := by decide +kernel
theorem dX2_withdrawCase_44 : decode cX2_withdrawCase 44 = .ok (.if_icmp .eq 6, 3) := by decide +kernel
theorem dX2_withdrawCase_47 : decode cX2_withdrawCase 47 = .ok (.bipush (-3), 2) := by decide +kernel
theorem dX2_withdrawCase_49 : decode cX2_withdrawCase 49 = .ok (.ireturn, 1) := by decide +kernel
theorem dX2_withdrawCase_50 : decode cX2_withdrawCase 50 = .ok (.aload_n 1, 1) := by decide +kernel
theorem dX2_withdrawCase_51 : decode cX2_withdrawCase 51 = .ok (.getfield 136, 3) := by decide +kernel
theorem dX2_withdrawCase_54 : decode cX2_withdrawCase 54 = .ok (.iload_n 3, 1) := by decide +kernel
theorem dX2_withdrawCase_55 : decode cX2_withdrawCase 55 = .ok (.invokevirtual 248, 3) := by decide +kernel
theorem dX2_withdrawCase_58 : decode cX2_withdrawCase 58 = .ok (.pop, 1) := by decide +kernel
theorem dX2_withdrawCase_59 : decode cX2_withdrawCase 59 = .ok (.aload 4, 2) := by decide +kernel
theorem dX2_withdrawCase_61 : decode cX2_withdrawCase 61 = .ok (.getfield 251, 3) := by decide +kernel
theorem dX2_withdrawCase_64 : decode cX2_withdrawCase 64 = .ok (.ireturn, 1) := by decide +kernel
theorem dX2_closeCase_0 : decode cX2_closeCase 0 = .ok (.aload_n 1, 1) := by decide +kernel
theorem dX2_closeCase_1 : decode cX2_closeCase 1 = .ok (.iload_n 2, 1) := by decide +kernel
theorem dX2_closeCase_2 : decode cX2_closeCase 2 = .ok (.invokevirtual 147, 3) := by decide +kernel
theorem dX2_closeCase_5 : decode cX2_closeCase 5 = .ok (.istore_n 3, 1) := by decide +kernel
theorem dX2_closeCase_6 : decode cX2_closeCase 6 = .ok (.iload_n 3, 1) := by decide +kernel
theorem dX2_closeCase_7 : decode cX2_closeCase 7 = .ok (.ifCond .lt 14, 3) := by decide +kernel
theorem dX2_closeCase_10 : decode cX2_closeCase 10 = .ok (.iload_n 3, 1) := by decide +kernel
theorem dX2_closeCase_11 : decode cX2_closeCase 11 = .ok (.aload_n 1, 1) := by decide +kernel
theorem dX2_closeCase_12 : decode cX2_closeCase 12 = .ok (.getfield 136, 3) := by decide +kernel
theorem dX2_closeCase_15 : decode cX2_closeCase 15 = .ok (.invokevirtual 116, 3) := by decide +kernel
theorem dX2_closeCase_18 : decode cX2_closeCase 18 = .ok (.if_icmp .lt 6, 3) := by decide +kernel
theorem dX2_closeCase_21 : decode cX2_closeCase 21 = .ok (.bipush (-4), 2) := by decide +kernel
theorem dX2_closeCase_23 : decode cX2_closeCase 23 = .ok (.ireturn, 1) := by decide +kernel
theorem dX2_closeCase_24 : decode cX2_closeCase 24 = .ok (.aload_n 1, 1) := by decide +kernel
theorem dX2_closeCase_25 : decode cX2_closeCase 25 = .ok (.getfield 136, 3) := by decide +kernel
theorem dX2_closeCase_28 : decode cX2_closeCase 28 = .ok (.iload_n 3, 1) := by decide +kernel
theorem dX2_closeCase_29 : decode cX2_closeCase 29 = .ok (.invokevirtual 150, 3) := by decide +kernel
theorem dX2_closeCase_32 : decode cX2_closeCase 32 = .ok (.checkcast 142, 3) := by decide +kernel
theorem dX2_closeCase_35 : decode cX2_closeCase 35 = .ok (.astore 4, 2) := by decide +kernel
theorem dX2_closeCase_37 : decode cX2_closeCase 37 = .ok (.aload 4, 2) := by decide +kernel
theorem dX2_closeCase_39 : decode cX2_closeCase 39 = .ok (.getfield 158, 3) := by decide +kernel
theorem dX2_closeCase_42 : decode cX2_closeCase 42 = .ok (.bipush 102, 2) := by decide +kernel
theorem dX2_closeCase_44 : decode cX2_closeCase 44 = .ok (.if_icmp .ne 6, 3) := by decide +kernel
theorem dX2_closeCase_47 : decode cX2_closeCase 47 = .ok (.bipush (-3), 2) := by decide +kernel
theorem dX2_closeCase_49 : decode cX2_closeCase 49 = .ok (.ireturn, 1) := by decide +kernel
theorem dX2_closeCase_50 : decode cX2_closeCase 50 = .ok (.aload_n 1, 1) := by decide +kernel
theorem dX2_closeCase_51 : decode cX2_closeCase 51 = .ok (.getfield 136, 3) := by decide +kernel
theorem dX2_closeCase_54 : decode cX2_closeCase 54 = .ok (.iload_n 3, 1) := by decide +kernel
theorem dX2_closeCase_55 : decode cX2_closeCase 55 = .ok (.invokevirtual 248, 3) := by decide +kernel
theorem dX2_closeCase_58 : decode cX2_closeCase 58 = .ok (.pop, 1) := by decide +kernel
theorem dX2_closeCase_59 : decode cX2_closeCase 59 = .ok (.aload 4, 2) := by decide +kernel
theorem dX2_closeCase_61 : decode cX2_closeCase 61 = .ok (.getfield 207, 3) := by decide +kernel
theorem dX2_closeCase_64 : decode cX2_closeCase 64 = .ok (.ireturn, 1) := by decide +kernel
theorem dX2_moveCoins_0 : decode cX2_moveCoins 0 = .ok (.aload_n 1, 1) := by decide +kernel
theorem dX2_moveCoins_1 : decode cX2_moveCoins 1 = .ok (.iload_n 2, 1) := by decide +kernel
theorem dX2_moveCoins_2 : decode cX2_moveCoins 2 = .ok (.invokevirtual 96, 3) := by decide +kernel
theorem dX2_moveCoins_5 : decode cX2_moveCoins 5 = .ok (.ifCond .eq 11, 3) := by decide +kernel
theorem dX2_moveCoins_8 : decode cX2_moveCoins 8 = .ok (.aload_n 1, 1) := by decide +kernel
theorem dX2_moveCoins_9 : decode cX2_moveCoins 9 = .ok (.iload_n 3, 1) := by decide +kernel
theorem dX2_moveCoins_10 : decode cX2_moveCoins 10 = .ok (.invokevirtual 96, 3) := by decide +kernel
theorem dX2_moveCoins_13 : decode cX2_moveCoins 13 = .ok (.ifCond .ne 5, 3) := by decide +kernel
theorem dX2_moveCoins_16 : decode cX2_moveCoins 16 = .ok (.iconst (-1), 1) := by decide +kernel
theorem dX2_moveCoins_17 : decode cX2_moveCoins 17 = .ok (.ireturn, 1) := by decide +kernel
theorem dX2_moveCoins_18 : decode cX2_moveCoins 18 = .ok (.iload_n 2, 1) := by decide +kernel
theorem dX2_moveCoins_19 : decode cX2_moveCoins 19 = .ok (.iload_n 3, 1) := by decide +kernel
theorem dX2_moveCoins_20 : decode cX2_moveCoins 20 = .ok (.if_icmp .eq 15, 3) := by decide +kernel
theorem dX2_moveCoins_23 : decode cX2_moveCoins 23 = .ok (.iload 4, 2) := by decide +kernel
theorem dX2_moveCoins_25 : decode cX2_moveCoins 25 = .ok (.iconst 1, 1) := by decide +kernel
theorem dX2_moveCoins_26 : decode cX2_moveCoins 26 = .ok (.sipush 999, 3) := by decide +kernel
theorem dX2_moveCoins_29 : decode cX2_moveCoins 29 = .ok (.invokestatic 100, 3) := by decide +kernel
theorem dX2_moveCoins_32 : decode cX2_moveCoins 32 = .ok (.ifCond .ne 6, 3) := by decide +kernel
theorem dX2_moveCoins_35 : decode cX2_moveCoins 35 = .ok (.bipush (-2), 2) := by decide +kernel
theorem dX2_moveCoins_37 : decode cX2_moveCoins 37 = .ok (.ireturn, 1) := by decide +kernel
theorem dX2_moveCoins_38 : decode cX2_moveCoins 38 = .ok (.aload_n 1, 1) := by decide +kernel
theorem dX2_moveCoins_39 : decode cX2_moveCoins 39 = .ok (.iload_n 2, 1) := by decide +kernel
theorem dX2_moveCoins_40 : decode cX2_moveCoins 40 = .ok (.invokevirtual 254, 3) := by decide +kernel
theorem dX2_moveCoins_43 : decode cX2_moveCoins 43 = .ok (.iload 4, 2) := by decide +kernel
theorem dX2_moveCoins_45 : decode cX2_moveCoins 45 = .ok (.if_icmp .ge 6, 3) := by decide +kernel
theorem dX2_moveCoins_48 : decode cX2_moveCoins 48 = .ok (.bipush (-3), 2) := by decide +kernel
theorem dX2_moveCoins_50 : decode cX2_moveCoins 50 = .ok (.ireturn, 1) := by decide +kernel
theorem dX2_moveCoins_51 : decode cX2_moveCoins 51 = .ok (.aload_n 1, 1) := by decide +kernel
theorem dX2_moveCoins_52 : decode cX2_moveCoins 52 = .ok (.iload_n 2, 1) := by decide +kernel
theorem dX2_moveCoins_53 : decode cX2_moveCoins 53 = .ok (.iload 4, 2) := by decide +kernel
theorem dX2_moveCoins_55 : decode cX2_moveCoins 55 = .ok (.ineg, 1) := by decide +kernel
theorem dX2_moveCoins_56 : decode cX2_moveCoins 56 = .ok (.invokevirtual 245, 3) := by decide +kernel
theorem dX2_moveCoins_59 : decode cX2_moveCoins 59 = .ok (.aload_n 1, 1) := by decide +kernel
theorem dX2_moveCoins_60 : decode cX2_moveCoins 60 = .ok (.iload_n 3, 1) := by decide +kernel
theorem dX2_moveCoins_61 : decode cX2_moveCoins 61 = .ok (.iload 4, 2) := by decide +kernel
theorem dX2_moveCoins_63 : decode cX2_moveCoins 63 = .ok (.invokevirtual 245, 3) := by decide +kernel
theorem dX2_moveCoins_66 : decode cX2_moveCoins 66 = .ok (.aload_n 1, 1) := by decide +kernel
theorem dX2_moveCoins_67 : decode cX2_moveCoins 67 = .ok (.iload_n 2, 1) := by decide +kernel
theorem dX2_moveCoins_68 : decode cX2_moveCoins 68 = .ok (.invokevirtual 254, 3) := by decide +kernel
theorem dX2_moveCoins_71 : decode cX2_moveCoins 71 = .ok (.ireturn, 1) := by decide +kernel
theorem dX2_letDaysPass_0 : decode cX2_letDaysPass 0 = .ok (.iload_n 2, 1) := by decide +kernel
theorem dX2_letDaysPass_1 : decode cX2_letDaysPass 1 = .ok (.iconst 1, 1) := by decide +kernel
theorem dX2_letDaysPass_2 : decode cX2_letDaysPass 2 = .ok (.bipush 99, 2) := by decide +kernel
theorem dX2_letDaysPass_4 : decode cX2_letDaysPass 4 = .ok (.invokestatic 100, 3) := by decide +kernel
theorem dX2_letDaysPass_7 : decode cX2_letDaysPass 7 = .ok (.ifCond .ne 6, 3) := by decide +kernel
theorem dX2_letDaysPass_10 : decode cX2_letDaysPass 10 = .ok (.bipush (-2), 2) := by decide +kernel
theorem dX2_letDaysPass_12 : decode cX2_letDaysPass 12 = .ok (.ireturn, 1) := by decide +kernel
theorem dX2_letDaysPass_13 : decode cX2_letDaysPass 13 = .ok (.aload_n 1, 1) := by decide +kernel
theorem dX2_letDaysPass_14 : decode cX2_letDaysPass 14 = .ok (.dup, 1) := by decide +kernel
theorem dX2_letDaysPass_15 : decode cX2_letDaysPass 15 = .ok (.getfield 162, 3) := by decide +kernel
theorem dX2_letDaysPass_18 : decode cX2_letDaysPass 18 = .ok (.iload_n 2, 1) := by decide +kernel
theorem dX2_letDaysPass_19 : decode cX2_letDaysPass 19 = .ok (.iadd, 1) := by decide +kernel
theorem dX2_letDaysPass_20 : decode cX2_letDaysPass 20 = .ok (.putfield 162, 3) := by decide +kernel
theorem dX2_letDaysPass_23 : decode cX2_letDaysPass 23 = .ok (.aload_n 1, 1) := by decide +kernel
theorem dX2_letDaysPass_24 : decode cX2_letDaysPass 24 = .ok (.getfield 162, 3) := by decide +kernel
theorem dX2_letDaysPass_27 : decode cX2_letDaysPass 27 = .ok (.ireturn, 1) := by decide +kernel
theorem dX3_init_0 : decode cX3_init 0 = .ok (.aload_n 0, 1) := by decide +kernel
theorem dX3_init_1 : decode cX3_init 1 = .ok (.invokespecial 3, 3) := by decide +kernel
theorem dX3_init_4 : decode cX3_init 4 = .ok (.aload_n 0, 1) := by decide +kernel
theorem dX3_init_5 : decode cX3_init 5 = .ok (.new 9, 3) := by decide +kernel
theorem dX3_init_8 : decode cX3_init 8 = .ok (.dup, 1) := by decide +kernel
theorem dX3_init_9 : decode cX3_init 9 = .ok (.invokespecial 11, 3) := by decide +kernel
theorem dX3_init_12 : decode cX3_init 12 = .ok (.putfield 12, 3) := by decide +kernel
theorem dX3_init_15 : decode cX3_init 15 = .ok (.aload_n 0, 1) := by decide +kernel
theorem dX3_init_16 : decode cX3_init 16 = .ok (.bipush 61, 2) := by decide +kernel
theorem dX3_init_18 : decode cX3_init 18 = .ok (.newarray .int, 2) := by decide +kernel
theorem dX3_init_20 : decode cX3_init 20 = .ok (.putfield 18, 3) := by decide +kernel
theorem dX3_init_23 : decode cX3_init 23 = .ok (.return_, 1) := by decide +kernel
theorem dX3_byDays_0 : decode cX3_byDays 0 = .ok (.aload_n 0, 1) := by decide +kernel
theorem dX3_byDays_1 : decode cX3_byDays 1 = .ok (.aload_n 1, 1) := by decide +kernel
theorem dX3_byDays_2 : decode cX3_byDays 2 = .ok (.invokevirtual 22, 3) := by decide +kernel
theorem dX3_byDays_5 : decode cX3_byDays 5 = .ok (.iconst 0, 1) := by decide +kernel
theorem dX3_byDays_6 : decode cX3_byDays 6 = .ok (.istore_n 2, 1) := by decide +kernel
theorem dX3_byDays_7 : decode cX3_byDays 7 = .ok (.iload_n 2, 1) := by decide +kernel
theorem dX3_byDays_8 : decode cX3_byDays 8 = .ok (.aload_n 0, 1) := by decide +kernel
theorem dX3_byDays_9 : decode cX3_byDays 9 = .ok (.getfield 18, 3) := by decide +kernel
theorem dX3_byDays_12 : decode cX3_byDays 12 = .ok (.arraylength, 1) := by decide +kernel
theorem dX3_byDays_13 : decode cX3_byDays 13 = .ok (.if_icmp .ge 24, 3) := by decide +kernel
theorem dX3_byDays_16 : decode cX3_byDays 16 = .ok (.aload_n 0, 1) := by decide +kernel
theorem dX3_byDays_17 : decode cX3_byDays 17 = .ok (.getfield 18, 3) := by decide +kernel
theorem dX3_byDays_20 : decode cX3_byDays 20 = .ok (.iload_n 2, 1) := by decide +kernel
theorem dX3_byDays_21 : decode cX3_byDays 21 = .ok (.iload_n 2, 1) := by decide +kernel
theorem dX3_byDays_22 : decode cX3_byDays 22 = .ok (.ifCond .ne 7, 3) := by decide +kernel
theorem dX3_byDays_25 : decode cX3_byDays 25 = .ok (.iconst 0, 1) := by decide +kernel
theorem dX3_byDays_26 : decode cX3_byDays 26 = .ok (.goto 4, 3) := by decide +kernel
theorem dX3_byDays_29 : decode cX3_byDays 29 = .ok (.iconst (-1), 1) := by decide +kernel
theorem dX3_byDays_30 : decode cX3_byDays 30 = .ok (.iastore, 1) := by decide +kernel
theorem dX3_byDays_31 : decode cX3_byDays 31 = .ok (.iinc 2 1, 3) := by decide +kernel
theorem dX3_byDays_34 : decode cX3_byDays 34 = .ok (.goto (-27), 3) := by decide +kernel
theorem dX3_byDays_37 : decode cX3_byDays 37 = .ok (.iconst 0, 1) := by decide +kernel
theorem dX3_byDays_38 : decode cX3_byDays 38 = .ok (.istore_n 2, 1) := by decide +kernel
theorem dX3_byDays_39 : decode cX3_byDays 39 = .ok (.iload_n 2, 1) := by decide +kernel
theorem dX3_byDays_40 : decode cX3_byDays 40 = .ok (.aload_n 0, 1) := by decide +kernel
theorem dX3_byDays_41 : decode cX3_byDays 41 = .ok (.getfield 12, 3) := by decide +kernel
theorem dX3_byDays_44 : decode cX3_byDays 44 = .ok (.invokevirtual 26, 3) := by decide +kernel
theorem dX3_byDays_47 : decode cX3_byDays 47 = .ok (.if_icmp .ge 28, 3) := by decide +kernel
theorem dX3_byDays_50 : decode cX3_byDays 50 = .ok (.aload_n 0, 1) := by decide +kernel
theorem dX3_byDays_51 : decode cX3_byDays 51 = .ok (.aload_n 0, 1) := by decide +kernel
theorem dX3_byDays_52 : decode cX3_byDays 52 = .ok (.getfield 12, 3) := by decide +kernel
theorem dX3_byDays_55 : decode cX3_byDays 55 = .ok (.iload_n 2, 1) := by decide +kernel
theorem dX3_byDays_56 : decode cX3_byDays 56 = .ok (.invokevirtual 30, 3) := by decide +kernel
theorem dX3_byDays_59 : decode cX3_byDays 59 = .ok (.checkcast 34, 3) := by decide +kernel
theorem dX3_byDays_62 : decode cX3_byDays 62 = .ok (.aload_n 1, 1) := by decide +kernel
theorem dX3_byDays_63 : decode cX3_byDays 63 = .ok (.getfield 36, 3) := by decide +kernel
theorem dX3_byDays_66 : decode cX3_byDays 66 = .ok (.invokevirtual 42, 3) := by decide +kernel
theorem dX3_byDays_69 : decode cX3_byDays 69 = .ok (.iinc 2 1, 3) := by decide +kernel
theorem dX3_byDays_72 : decode cX3_byDays 72 = .ok (.goto (-33), 3) := by decide +kernel
theorem dX3_byDays_75 : decode cX3_byDays 75 = .ok (.iconst 0, 1) := by decide +kernel
theorem dX3_byDays_76 : decode cX3_byDays 76 = .ok (.istore_n 2, 1) := by decide +kernel
theorem dX3_byDays_77 : decode cX3_byDays 77 = .ok (.iconst 0, 1) := by decide +kernel
theorem dX3_byDays_78 : decode cX3_byDays 78 = .ok (.istore_n 3, 1) := by decide +kernel
theorem dX3_byDays_79 : decode cX3_byDays 79 = .ok (.iload_n 3, 1) := by decide +kernel
theorem dX3_byDays_80 : decode cX3_byDays 80 = .ok (.aload_n 0, 1) := by decide +kernel
theorem dX3_byDays_81 : decode cX3_byDays 81 = .ok (.getfield 18, 3) := by decide +kernel
theorem dX3_byDays_84 : decode cX3_byDays 84 = .ok (.arraylength, 1) := by decide +kernel
theorem dX3_byDays_85 : decode cX3_byDays 85 = .ok (.if_icmp .ge 20, 3) := by decide +kernel
theorem dX3_byDays_88 : decode cX3_byDays 88 = .ok (.iload_n 2, 1) := by decide +kernel
theorem dX3_byDays_89 : decode cX3_byDays 89 = .ok (.aload_n 0, 1) := by decide +kernel
theorem dX3_byDays_90 : decode cX3_byDays 90 = .ok (.getfield 18, 3) := by decide +kernel
theorem dX3_byDays_93 : decode cX3_byDays 93 = .ok (.iload_n 3, 1) := by decide +kernel
theorem dX3_byDays_94 : decode cX3_byDays 94 = .ok (.iaload, 1) := by decide +kernel
theorem dX3_byDays_95 : decode cX3_byDays 95 = .ok (.invokestatic 46, 3) := by decide +kernel
theorem dX3_byDays_98 : decode cX3_byDays 98 = .ok (.istore_n 2, 1) := by decide +kernel
theorem dX3_byDays_99 : decode cX3_byDays 99 = .ok (.iinc 3 1, 3) := by decide +kernel
theorem dX3_byDays_102 : decode cX3_byDays 102 = .ok (.goto (-23), 3) := by decide +kernel
theorem dX3_byDays_105 : decode cX3_byDays 105 = .ok (.iload_n 2, 1) := by decide +kernel
theorem dX3_byDays_106 : decode cX3_byDays 106 = .ok (.ireturn, 1) := by decide +kernel
theorem dX3_addToTable_0 : decode cX3_addToTable 0 = .ok (.aload_n 0, 1) := by decide +kernel
theorem dX3_addToTable_1 : decode cX3_addToTable 1 = .ok (.getfield 18, 3) := by decide +kernel
theorem dX3_addToTable_4 : decode cX3_addToTable 4 = .ok (.arraylength, 1) := by decide +kernel
theorem dX3_addToTable_5 : decode cX3_addToTable 5 = .ok (.iconst 1, 1) := by decide +kernel
theorem dX3_addToTable_6 : decode cX3_addToTable 6 = .ok (.isub, 1) := by decide +kernel
theorem dX3_addToTable_7 : decode cX3_addToTable 7 = .ok (.istore_n 3, 1) := by decide +kernel
theorem dX3_addToTable_8 : decode cX3_addToTable 8 = .ok (.iload_n 3, 1) := by decide +kernel
theorem dX3_addToTable_9 : decode cX3_addToTable 9 = .ok (.aload_n 1, 1) := by decide +kernel
theorem dX3_addToTable_10 : decode cX3_addToTable 10 = .ok (.getfield 52, 3) := by decide +kernel
theorem dX3_addToTable_13 : decode cX3_addToTable 13 = .ok (.if_icmp .lt 76, 3) := by decide +kernel
theorem dX3_addToTable_16 : decode cX3_addToTable 16 = .ok (.iload_n 3, 1) := by decide +kernel
theorem dX3_addToTable_17 : decode cX3_addToTable 17 = .ok (.aload_n 1, 1) := by decide +kernel
theorem dX3_addToTable_18 : decode cX3_addToTable 18 = .ok (.getfield 52, 3) := by decide +kernel
theorem dX3_addToTable_21 : decode cX3_addToTable 21 = .ok (.isub, 1) := by decide +kernel
theorem dX3_addToTable_22 : decode cX3_addToTable 22 = .ok (.istore 4, 2) := by decide +kernel
theorem dX3_addToTable_24 : decode cX3_addToTable 24 = .ok (.iload 4, 2) := by decide +kernel
theorem dX3_addToTable_26 : decode cX3_addToTable 26 = .ok (.ifCond .lt 57, 3) := by decide +kernel
theorem dX3_addToTable_29 : decode cX3_addToTable 29 = .ok (.iload 4, 2) := by decide +kernel
theorem dX3_addToTable_31 : decode cX3_addToTable 31 = .ok (.iload_n 3, 1) := by decide +kernel
theorem dX3_addToTable_32 : decode cX3_addToTable 32 = .ok (.if_icmp .ge 51, 3) := by decide +kernel
theorem dX3_addToTable_35 : decode cX3_addToTable 35 = .ok (.aload_n 0, 1) := by decide +kernel
theorem dX3_addToTable_36 : decode cX3_addToTable 36 = .ok (.getfield 18, 3) := by decide +kernel
theorem dX3_addToTable_39 : decode cX3_addToTable 39 = .ok (.iload 4, 2) := by decide +kernel
theorem dX3_addToTable_41 : decode cX3_addToTable 41 = .ok (.iaload, 1) := by decide +kernel
theorem dX3_addToTable_42 : decode cX3_addToTable 42 = .ok (.iconst (-1), 1) := by decide +kernel
theorem dX3_addToTable_43 : decode cX3_addToTable 43 = .ok (.if_icmp .eq 40, 3) := by decide +kernel
theorem dX3_addToTable_46 : decode cX3_addToTable 46 = .ok (.iload_n 2, 1) := by decide +kernel
theorem dX3_addToTable_47 : decode cX3_addToTable 47 = .ok (.iload_n 3, 1) := by decide +kernel
theorem dX3_addToTable_48 : decode cX3_addToTable 48 = .ok (.iadd, 1) := by decide +kernel
theorem dX3_addToTable_49 : decode cX3_addToTable 49 = .ok (.aload_n 1, 1) := by decide +kernel
theorem dX3_addToTable_50 : decode cX3_addToTable 50 = .ok (.getfield 55, 3) := by decide +kernel
theorem dX3_addToTable_53 : decode cX3_addToTable 53 = .ok (.if_icmp .gt 30, 3) := by decide +kernel
theorem dX3_addToTable_56 : decode cX3_addToTable 56 = .ok (.aload_n 0, 1) := by decide +kernel
theorem dX3_addToTable_57 : decode cX3_addToTable 57 = .ok (.getfield 18, 3) := by decide +kernel
theorem dX3_addToTable_60 : decode cX3_addToTable 60 = .ok (.iload_n 3, 1) := by decide +kernel
theorem dX3_addToTable_61 : decode cX3_addToTable 61 = .ok (.aload_n 0, 1) := by decide +kernel
theorem dX3_addToTable_62 : decode cX3_addToTable 62 = .ok (.getfield 18, 3) := by decide +kernel
theorem dX3_addToTable_65 : decode cX3_addToTable 65 = .ok (.iload_n 3, 1) := by decide +kernel
theorem dX3_addToTable_66 : decode cX3_addToTable 66 = .ok (.iaload, 1) := by decide +kernel
theorem dX3_addToTable_67 : decode cX3_addToTable 67 = .ok (.aload_n 0, 1) := by decide +kernel
theorem dX3_addToTable_68 : decode cX3_addToTable 68 = .ok (.getfield 18, 3) := by decide +kernel
theorem dX3_addToTable_71 : decode cX3_addToTable 71 = .ok (.iload 4, 2) := by decide +kernel
theorem dX3_addToTable_73 : decode cX3_addToTable 73 = .ok (.iaload, 1) := by decide +kernel
theorem dX3_addToTable_74 : decode cX3_addToTable 74 = .ok (.aload_n 1, 1) := by decide +kernel
theorem dX3_addToTable_75 : decode cX3_addToTable 75 = .ok (.getfield 58, 3) := by decide +kernel
theorem dX3_addToTable_78 : decode cX3_addToTable 78 = .ok (.iadd, 1) := by decide +kernel
theorem dX3_addToTable_79 : decode cX3_addToTable 79 = .ok (.invokestatic 46, 3) := by decide +kernel
theorem dX3_addToTable_82 : decode cX3_addToTable 82 = .ok (.iastore, 1) := by decide +kernel
theorem dX3_addToTable_83 : decode cX3_addToTable 83 = .ok (.iinc 3 (-1), 3) := by decide +kernel
theorem dX3_addToTable_86 : decode cX3_addToTable 86 = .ok (.goto (-78), 3) := by decide +kernel
theorem dX3_addToTable_89 : decode cX3_addToTable 89 = .ok (.return_, 1) := by decide +kernel
theorem dX3_collectFiled_0 : decode cX3_collectFiled 0 = .ok (.aload_n 0, 1) := by decide +kernel
theorem dX3_collectFiled_1 : decode cX3_collectFiled 1 = .ok (.getfield 12, 3) := by decide +kernel
theorem dX3_collectFiled_4 : decode cX3_collectFiled 4 = .ok (.invokevirtual 64, 3) := by decide +kernel
theorem dX3_collectFiled_7 : decode cX3_collectFiled 7 = .ok (.iconst 0, 1) := by decide +kernel
theorem dX3_collectFiled_8 : decode cX3_collectFiled 8 = .ok (.istore_n 2, 1) := by decide +kernel
theorem dX3_collectFiled_9 : decode cX3_collectFiled 9 = .ok (.iload_n 2, 1) := by decide +kernel
theorem dX3_collectFiled_10 : decode cX3_collectFiled 10 = .ok (.aload_n 1, 1) := by decide +kernel
theorem dX3_collectFiled_11 : decode cX3_collectFiled 11 = .ok (.getfield 67, 3) := by decide +kernel
theorem dX3_collectFiled_14 : decode cX3_collectFiled 14 = .ok (.invokevirtual 26, 3) := by decide +kernel
theorem dX3_collectFiled_17 : decode cX3_collectFiled 17 = .ok (.if_icmp .ge 55, 3) := by decide +kernel
theorem dX3_collectFiled_20 : decode cX3_collectFiled 20 = .ok (.aload_n 1, 1) := by decide +kernel
theorem dX3_collectFiled_21 : decode cX3_collectFiled 21 = .ok (.getfield 67, 3) := by decide +kernel
theorem dX3_collectFiled_24 : decode cX3_collectFiled 24 = .ok (.iload_n 2, 1) := by decide +kernel
theorem dX3_collectFiled_25 : decode cX3_collectFiled 25 = .ok (.invokevirtual 30, 3) := by decide +kernel
theorem dX3_collectFiled_28 : decode cX3_collectFiled 28 = .ok (.checkcast 34, 3) := by decide +kernel
theorem dX3_collectFiled_31 : decode cX3_collectFiled 31 = .ok (.astore_n 3, 1) := by decide +kernel
theorem dX3_collectFiled_32 : decode cX3_collectFiled 32 = .ok (.aload_n 3, 1) := by decide +kernel
theorem dX3_collectFiled_33 : decode cX3_collectFiled 33 = .ok (.getfield 70, 3) := by decide +kernel
theorem dX3_collectFiled_36 : decode cX3_collectFiled 36 = .ok (.bipush 102, 2) := by decide +kernel
theorem dX3_collectFiled_38 : decode cX3_collectFiled 38 = .ok (.if_icmp .ne 28, 3) := by decide +kernel
theorem dX3_collectFiled_41 : decode cX3_collectFiled 41 = .ok (.aload_n 0, 1) := by decide +kernel
theorem dX3_collectFiled_42 : decode cX3_collectFiled 42 = .ok (.getfield 12, 3) := by decide +kernel
theorem dX3_collectFiled_45 : decode cX3_collectFiled 45 = .ok (.invokevirtual 26, 3) := by decide +kernel
theorem dX3_collectFiled_48 : decode cX3_collectFiled 48 = .ok (.bipush 12, 2) := by decide +kernel
theorem dX3_collectFiled_50 : decode cX3_collectFiled 50 = .ok (.if_icmp .ge 16, 3) := by decide +kernel
theorem dX3_collectFiled_53 : decode cX3_collectFiled 53 = .ok (.aload_n 0, 1) := by decide +kernel
theorem dX3_collectFiled_54 : decode cX3_collectFiled 54 = .ok (.getfield 12, 3) := by decide +kernel
theorem dX3_collectFiled_57 : decode cX3_collectFiled 57 = .ok (.aload_n 0, 1) := by decide +kernel
theorem dX3_collectFiled_58 : decode cX3_collectFiled 58 = .ok (.aload_n 3, 1) := by decide +kernel
theorem dX3_collectFiled_59 : decode cX3_collectFiled 59 = .ok (.invokevirtual 74, 3) := by decide +kernel
theorem dX3_collectFiled_62 : decode cX3_collectFiled 62 = .ok (.aload_n 3, 1) := by decide +kernel
theorem dX3_collectFiled_63 : decode cX3_collectFiled 63 = .ok (.invokevirtual 78, 3) := by decide +kernel
theorem dX3_collectFiled_66 : decode cX3_collectFiled 66 = .ok (.iinc 2 1, 3) := by decide +kernel
theorem dX3_collectFiled_69 : decode cX3_collectFiled 69 = .ok (.goto (-60), 3) := by decide +kernel
theorem dX3_collectFiled_72 : decode cX3_collectFiled 72 = .ok (.return_, 1) := by decide +kernel
theorem dX3_placeOf_0 : decode cX3_placeOf 0 = .ok (.iconst 0, 1) := by decide +kernel
theorem dX3_placeOf_1 : decode cX3_placeOf 1 = .ok (.istore_n 2, 1) := by decide +kernel
theorem dX3_placeOf_2 : decode cX3_placeOf 2 = .ok (.iload_n 2, 1) := by decide +kernel
theorem dX3_placeOf_3 : decode cX3_placeOf 3 = .ok (.aload_n 0, 1) := by decide +kernel
theorem dX3_placeOf_4 : decode cX3_placeOf 4 = .ok (.getfield 12, 3) := by decide +kernel
theorem dX3_placeOf_7 : decode cX3_placeOf 7 = .ok (.invokevirtual 26, 3) := by decide +kernel
theorem dX3_placeOf_10 : decode cX3_placeOf 10 = .ok (.if_icmp .ge 30, 3) := by decide +kernel
theorem dX3_placeOf_13 : decode cX3_placeOf 13 = .ok (.aload_n 0, 1) := by decide +kernel
theorem dX3_placeOf_14 : decode cX3_placeOf 14 = .ok (.getfield 12, 3) := by decide +kernel
theorem dX3_placeOf_17 : decode cX3_placeOf 17 = .ok (.iload_n 2, 1) := by decide +kernel
theorem dX3_placeOf_18 : decode cX3_placeOf 18 = .ok (.invokevirtual 30, 3) := by decide +kernel
theorem dX3_placeOf_21 : decode cX3_placeOf 21 = .ok (.checkcast 34, 3) := by decide +kernel
theorem dX3_placeOf_24 : decode cX3_placeOf 24 = .ok (.getfield 55, 3) := by decide +kernel
theorem dX3_placeOf_27 : decode cX3_placeOf 27 = .ok (.aload_n 1, 1) := by decide +kernel
theorem dX3_placeOf_28 : decode cX3_placeOf 28 = .ok (.getfield 55, 3) := by decide +kernel
theorem dX3_placeOf_31 : decode cX3_placeOf 31 = .ok (.if_icmp .gt 9, 3) := by decide +kernel
theorem dX3_placeOf_34 : decode cX3_placeOf 34 = .ok (.iinc 2 1, 3) := by decide +kernel
theorem dX3_placeOf_37 : decode cX3_placeOf 37 = .ok (.goto (-35), 3) := by decide +kernel
theorem dX3_placeOf_40 : decode cX3_placeOf 40 = .ok (.iload_n 2, 1) := by decide +kernel
theorem dX3_placeOf_41 : decode cX3_placeOf 41 = .ok (.ireturn, 1) := by decide +kernel
theorem dX4_init_0 : decode cX4_init 0 = .ok (.aload_n 0, 1) := by decide +kernel
theorem dX4_init_1 : decode cX4_init 1 = .ok (.invokespecial 1, 3) := by decide +kernel
theorem dX4_init_4 : decode cX4_init 4 = .ok (.aload_n 0, 1) := by decide +kernel
theorem dX4_init_5 : decode cX4_init 5 = .ok (.iconst 5, 1) := by decide +kernel
theorem dX4_init_6 : decode cX4_init 6 = .ok (.newarray .int, 2) := by decide +kernel
theorem dX4_init_8 : decode cX4_init 8 = .ok (.putfield 7, 3) := by decide +kernel
theorem dX4_init_11 : decode cX4_init 11 = .ok (.aload_n 0, 1) := by decide +kernel
theorem dX4_init_12 : decode cX4_init 12 = .ok (.iconst 0, 1) := by decide +kernel
theorem dX4_init_13 : decode cX4_init 13 = .ok (.putfield 13, 3) := by decide +kernel
theorem dX4_init_16 : decode cX4_init 16 = .ok (.aload_n 0, 1) := by decide +kernel
theorem dX4_init_17 : decode cX4_init 17 = .ok (.ldc 17, 2) := by decide +kernel
theorem dX4_init_19 : decode cX4_init 19 = .ok (.putfield 19, 3) := by decide +kernel
theorem dX4_init_22 : decode cX4_init 22 = .ok (.aload_n 0, 1) := by decide +kernel
theorem dX4_init_23 : decode cX4_init 23 = .ok (.aload_n 1, 1) := by decide +kernel
theorem dX4_init_24 : decode cX4_init 24 = .ok (.putfield 23, 3) := by decide +kernel
theorem dX4_init_27 : decode cX4_init 27 = .ok (.return_, 1) := by decide +kernel
theorem dX4_addNumber_0 : decode cX4_addNumber 0 = .ok (.aload_n 0, 1) := by decide +kernel
theorem dX4_addNumber_1 : decode cX4_addNumber 1 = .ok (.getfield 13, 3) := by decide +kernel
theorem dX4_addNumber_4 : decode cX4_addNumber 4 = .ok (.aload_n 0, 1) := by decide +kernel
theorem dX4_addNumber_5 : decode cX4_addNumber 5 = .ok (.getfield 7, 3) := by decide +kernel
theorem dX4_addNumber_8 : decode cX4_addNumber 8 = .ok (.arraylength, 1) := by decide +kernel
theorem dX4_addNumber_9 : decode cX4_addNumber 9 = .ok (.if_icmp .ge 23, 3) := by decide +kernel
theorem dX4_addNumber_12 : decode cX4_addNumber 12 = .ok (.aload_n 0, 1) := by decide +kernel
theorem dX4_addNumber_13 : decode cX4_addNumber 13 = .ok (.getfield 7, 3) := by decide +kernel
theorem dX4_addNumber_16 : decode cX4_addNumber 16 = .ok (.aload_n 0, 1) := by decide +kernel
theorem dX4_addNumber_17 : decode cX4_addNumber 17 = .ok (.getfield 13, 3) := by decide +kernel
theorem dX4_addNumber_20 : decode cX4_addNumber 20 = .ok (.iload_n 1, 1) := by decide +kernel
theorem dX4_addNumber_21 : decode cX4_addNumber 21 = .ok (.iastore, 1) := by decide +kernel
theorem dX4_addNumber_22 : decode cX4_addNumber 22 = .ok (.aload_n 0, 1) := by decide +kernel
theorem dX4_addNumber_23 : decode cX4_addNumber 23 = .ok (.dup, 1) := by decide +kernel
theorem dX4_addNumber_24 : decode cX4_addNumber 24 = .ok (.getfield 13, 3) := by decide +kernel
theorem dX4_addNumber_27 : decode cX4_addNumber 27 = .ok (.iconst 1, 1) := by decide +kernel
theorem dX4_addNumber_28 : decode cX4_addNumber 28 = .ok (.iadd, 1) := by decide +kernel
theorem dX4_addNumber_29 : decode cX4_addNumber 29 = .ok (.putfield 13, 3) := by decide +kernel
theorem dX4_addNumber_32 : decode cX4_addNumber 32 = .ok (.return_, 1) := by decide +kernel
theorem dX4_setMatter_0 : decode cX4_setMatter 0 = .ok (.aload_n 0, 1) := by decide +kernel
theorem dX4_setMatter_1 : decode cX4_setMatter 1 = .ok (.aload_n 1, 1) := by decide +kernel
theorem dX4_setMatter_2 : decode cX4_setMatter 2 = .ok (.putfield 19, 3) := by decide +kernel
theorem dX4_setMatter_5 : decode cX4_setMatter 5 = .ok (.return_, 1) := by decide +kernel
theorem dX4_number_0 : decode cX4_number 0 = .ok (.iload_n 1, 1) := by decide +kernel
theorem dX4_number_1 : decode cX4_number 1 = .ok (.ifCond .lt 21, 3) := by decide +kernel
theorem dX4_number_4 : decode cX4_number 4 = .ok (.iload_n 1, 1) := by decide +kernel
theorem dX4_number_5 : decode cX4_number 5 = .ok (.aload_n 0, 1) := by decide +kernel
theorem dX4_number_6 : decode cX4_number 6 = .ok (.getfield 7, 3) := by decide +kernel
theorem dX4_number_9 : decode cX4_number 9 = .ok (.arraylength, 1) := by decide +kernel
theorem dX4_number_10 : decode cX4_number 10 = .ok (.if_icmp .ge 12, 3) := by decide +kernel
theorem dX4_number_13 : decode cX4_number 13 = .ok (.aload_n 0, 1) := by decide +kernel
theorem dX4_number_14 : decode cX4_number 14 = .ok (.getfield 7, 3) := by decide +kernel
theorem dX4_number_17 : decode cX4_number 17 = .ok (.iload_n 1, 1) := by decide +kernel
theorem dX4_number_18 : decode cX4_number 18 = .ok (.iaload, 1) := by decide +kernel
theorem dX4_number_19 : decode cX4_number 19 = .ok (.goto 4, 3) := by decide +kernel
theorem dX4_number_22 : decode cX4_number 22 = .ok (.iconst 0, 1) := by decide +kernel
theorem dX4_number_23 : decode cX4_number 23 = .ok (.ireturn, 1) := by decide +kernel
theorem dX5_init_0 : decode cX5_init 0 = .ok (.aload_n 0, 1) := by decide +kernel
theorem dX5_init_1 : decode cX5_init 1 = .ok (.invokespecial 1, 3) := by decide +kernel
theorem dX5_init_4 : decode cX5_init 4 = .ok (.aload_n 0, 1) := by decide +kernel
theorem dX5_init_5 : decode cX5_init 5 = .ok (.aload_n 1, 1) := by decide +kernel
theorem dX5_init_6 : decode cX5_init 6 = .ok (.putfield 7, 3) := by decide +kernel
theorem dX5_init_9 : decode cX5_init 9 = .ok (.aload_n 0, 1) := by decide +kernel
theorem dX5_init_10 : decode cX5_init 10 = .ok (.iload_n 2, 1) := by decide +kernel
theorem dX5_init_11 : decode cX5_init 11 = .ok (.putfield 13, 3) := by decide +kernel
theorem dX5_init_14 : decode cX5_init 14 = .ok (.return_, 1) := by decide +kernel
theorem dX6_init_0 : decode cX6_init 0 = .ok (.aload_n 0, 1) := by decide +kernel
theorem dX6_init_1 : decode cX6_init 1 = .ok (.invokespecial 3, 3) := by decide +kernel
theorem dX6_init_4 : decode cX6_init 4 = .ok (.aload_n 0, 1) := by decide +kernel
theorem dX6_init_5 : decode cX6_init 5 = .ok (.bipush 8, 2) := by decide +kernel
theorem dX6_init_7 : decode cX6_init 7 = .ok (.newarray .char, 2) := by decide +kernel
theorem dX6_init_9 : decode cX6_init 9 = .ok (.putfield 9, 3) := by decide +kernel
theorem dX6_init_12 : decode cX6_init 12 = .ok (.aload_n 0, 1) := by decide +kernel
theorem dX6_init_13 : decode cX6_init 13 = .ok (.bipush 8, 2) := by decide +kernel
theorem dX6_init_15 : decode cX6_init 15 = .ok (.newarray .char, 2) := by decide +kernel
theorem dX6_init_17 : decode cX6_init 17 = .ok (.putfield 15, 3) := by decide +kernel
theorem dX6_init_20 : decode cX6_init 20 = .ok (.aload_n 0, 1) := by decide +kernel
theorem dX6_init_21 : decode cX6_init 21 = .ok (.bipush 81, 2) := by decide +kernel
theorem dX6_init_23 : decode cX6_init 23 = .ok (.newarray .int, 2) := by decide +kernel
theorem dX6_init_25 : decode cX6_init 25 = .ok (.putfield 18, 3) := by decide +kernel
theorem dX6_init_28 : decode cX6_init 28 = .ok (.return_, 1) := by decide +kernel
theorem dX6_byBeginnings_0 : decode cX6_byBeginnings 0 = .ok (.aload_n 1, 1) := by decide +kernel
theorem dX6_byBeginnings_1 : decode cX6_byBeginnings 1 = .ok (.aload_n 0, 1) := by decide +kernel
theorem dX6_byBeginnings_2 : decode cX6_byBeginnings 2 = .ok (.getfield 9, 3) := by decide +kernel
theorem dX6_byBeginnings_5 : decode cX6_byBeginnings 5 = .ok (.invokestatic 22, 3) := by decide +kernel
theorem dX6_byBeginnings_8 : decode cX6_byBeginnings 8 = .ok (.istore_n 3, 1) := by decide +kernel
theorem dX6_byBeginnings_9 : decode cX6_byBeginnings 9 = .ok (.aload_n 2, 1) := by decide +kernel
theorem dX6_byBeginnings_10 : decode cX6_byBeginnings 10 = .ok (.aload_n 0, 1) := by decide +kernel
theorem dX6_byBeginnings_11 : decode cX6_byBeginnings 11 = .ok (.getfield 15, 3) := by decide +kernel
theorem dX6_byBeginnings_14 : decode cX6_byBeginnings 14 = .ok (.invokestatic 22, 3) := by decide +kernel
theorem dX6_byBeginnings_17 : decode cX6_byBeginnings 17 = .ok (.istore 4, 2) := by decide +kernel
theorem dX6_byBeginnings_19 : decode cX6_byBeginnings 19 = .ok (.iconst 0, 1) := by decide +kernel
theorem dX6_byBeginnings_20 : decode cX6_byBeginnings 20 = .ok (.istore 5, 2) := by decide +kernel
theorem dX6_byBeginnings_22 : decode cX6_byBeginnings 22 = .ok (.iload 5, 2) := by decide +kernel
theorem dX6_byBeginnings_24 : decode cX6_byBeginnings 24 = .ok (.iload_n 3, 1) := by decide +kernel
theorem dX6_byBeginnings_25 : decode cX6_byBeginnings 25 = .ok (.if_icmp .gt 41, 3) := by decide +kernel
theorem dX6_byBeginnings_28 : decode cX6_byBeginnings 28 = .ok (.iconst 0, 1) := by decide +kernel
theorem dX6_byBeginnings_29 : decode cX6_byBeginnings 29 = .ok (.istore 6, 2) := by decide +kernel
theorem dX6_byBeginnings_31 : decode cX6_byBeginnings 31 = .ok (.iload 6, 2) := by decide +kernel
theorem dX6_byBeginnings_33 : decode cX6_byBeginnings 33 = .ok (.iload 4, 2) := by decide +kernel
theorem dX6_byBeginnings_35 : decode cX6_byBeginnings 35 = .ok (.if_icmp .gt 25, 3) := by decide +kernel
theorem dX6_byBeginnings_38 : decode cX6_byBeginnings 38 = .ok (.aload_n 0, 1) := by decide +kernel
theorem dX6_byBeginnings_39 : decode cX6_byBeginnings 39 = .ok (.iload 5, 2) := by decide +kernel
theorem dX6_byBeginnings_41 : decode cX6_byBeginnings 41 = .ok (.iload 6, 2) := by decide +kernel
theorem dX6_byBeginnings_43 : decode cX6_byBeginnings 43 = .ok (.aload_n 0, 1) := by decide +kernel
theorem dX6_byBeginnings_44 : decode cX6_byBeginnings 44 = .ok (.iload 5, 2) := by decide +kernel
theorem dX6_byBeginnings_46 : decode cX6_byBeginnings 46 = .ok (.iload 6, 2) := by decide +kernel
theorem dX6_byBeginnings_48 : decode cX6_byBeginnings 48 = .ok (.invokevirtual 26, 3) := by decide +kernel
theorem dX6_byBeginnings_51 : decode cX6_byBeginnings 51 = .ok (.invokevirtual 30, 3) := by decide +kernel
theorem dX6_byBeginnings_54 : decode cX6_byBeginnings 54 = .ok (.iinc 6 1, 3) := by decide +kernel
theorem dX6_byBeginnings_57 : decode cX6_byBeginnings 57 = .ok (.goto (-26), 3) := by decide +kernel
theorem dX6_byBeginnings_60 : decode cX6_byBeginnings 60 = .ok (.iinc 5 1, 3) := by decide +kernel
theorem dX6_byBeginnings_63 : decode cX6_byBeginnings 63 = .ok (.goto (-41), 3) := by decide +kernel
theorem dX6_byBeginnings_66 : decode cX6_byBeginnings 66 = .ok (.aload_n 0, 1) := by decide +kernel
theorem dX6_byBeginnings_67 : decode cX6_byBeginnings 67 = .ok (.iload_n 3, 1) := by decide +kernel
theorem dX6_byBeginnings_68 : decode cX6_byBeginnings 68 = .ok (.iload 4, 2) := by decide +kernel
theorem dX6_byBeginnings_70 : decode cX6_byBeginnings 70 = .ok (.invokevirtual 34, 3) := by decide +kernel
theorem dX6_byBeginnings_73 : decode cX6_byBeginnings 73 = .ok (.ireturn, 1) := by decide +kernel
theorem dX6_beginningsDistance_0 : decode cX6_beginningsDistance 0 = .ok (.iload_n 1, 1) := by decide +kernel
theorem dX6_beginningsDistance_1 : decode cX6_beginningsDistance 1 = .ok (.ifCond .eq 7, 3) := by decide +kernel
theorem dX6_beginningsDistance_4 : decode cX6_beginningsDistance 4 = .ok (.iload_n 2, 1) := by decide +kernel
theorem dX6_beginningsDistance_5 : decode cX6_beginningsDistance 5 = .ok (.ifCond .ne 7, 3) := by decide +kernel
theorem dX6_beginningsDistance_8 : decode cX6_beginningsDistance 8 = .ok (.iload_n 1, 1) := by decide +kernel
theorem dX6_beginningsDistance_9 : decode cX6_beginningsDistance 9 = .ok (.iload_n 2, 1) := by decide +kernel
theorem dX6_beginningsDistance_10 : decode cX6_beginningsDistance 10 = .ok (.iadd, 1) := by decide +kernel
theorem dX6_beginningsDistance_11 : decode cX6_beginningsDistance 11 = .ok (.ireturn, 1) := by decide +kernel
theorem dX6_beginningsDistance_12 : decode cX6_beginningsDistance 12 = .ok (.aload_n 0, 1) := by decide +kernel
theorem dX6_beginningsDistance_13 : decode cX6_beginningsDistance 13 = .ok (.iload_n 1, 1) := by decide +kernel
theorem dX6_beginningsDistance_14 : decode cX6_beginningsDistance 14 = .ok (.iconst 1, 1) := by decide +kernel
theorem dX6_beginningsDistance_15 : decode cX6_beginningsDistance 15 = .ok (.isub, 1) := by decide +kernel
theorem dX6_beginningsDistance_16 : decode cX6_beginningsDistance 16 = .ok (.iload_n 2, 1) := by decide +kernel
theorem dX6_beginningsDistance_17 : decode cX6_beginningsDistance 17 = .ok (.invokevirtual 34, 3) := by decide +kernel
theorem dX6_beginningsDistance_20 : decode cX6_beginningsDistance 20 = .ok (.aload_n 0, 1) := by decide +kernel
theorem dX6_beginningsDistance_21 : decode cX6_beginningsDistance 21 = .ok (.iload_n 1, 1) := by decide +kernel
theorem dX6_beginningsDistance_22 : decode cX6_beginningsDistance 22 = .ok (.iload_n 2, 1) := by decide +kernel
theorem dX6_beginningsDistance_23 : decode cX6_beginningsDistance 23 = .ok (.iconst 1, 1) := by decide +kernel
theorem dX6_beginningsDistance_24 : decode cX6_beginningsDistance 24 = .ok (.isub, 1) := by decide +kernel
theorem dX6_beginningsDistance_25 : decode cX6_beginningsDistance 25 = .ok (.invokevirtual 34, 3) := by decide +kernel
theorem dX6_beginningsDistance_28 : decode cX6_beginningsDistance 28 = .ok (.invokestatic 37, 3) := by decide +kernel
theorem dX6_beginningsDistance_31 : decode cX6_beginningsDistance 31 = .ok (.iconst 1, 1) := by decide +kernel
theorem dX6_beginningsDistance_32 : decode cX6_beginningsDistance 32 = .ok (.iadd, 1) := by decide +kernel
theorem dX6_beginningsDistance_33 : decode cX6_beginningsDistance 33 = .ok (.istore_n 3, 1) := by decide +kernel
theorem dX6_beginningsDistance_34 : decode cX6_beginningsDistance 34 = .ok (.iload_n 3, 1) := by decide +kernel
theorem dX6_beginningsDistance_35 : decode cX6_beginningsDistance 35 = .ok (.aload_n 0, 1) := by decide +kernel
theorem dX6_beginningsDistance_36 : decode cX6_beginningsDistance 36 = .ok (.iload_n 1, 1) := by decide +kernel
theorem dX6_beginningsDistance_37 : decode cX6_beginningsDistance 37 = .ok (.iconst 1, 1) := by decide +kernel
theorem dX6_beginningsDistance_38 : decode cX6_beginningsDistance 38 = .ok (.isub, 1) := by decide +kernel
theorem dX6_beginningsDistance_39 : decode cX6_beginningsDistance 39 = .ok (.iload_n 2, 1) := by decide +kernel
theorem dX6_beginningsDistance_40 : decode cX6_beginningsDistance 40 = .ok (.iconst 1, 1) := by decide +kernel
theorem dX6_beginningsDistance_41 : decode cX6_beginningsDistance 41 = .ok (.isub, 1) := by decide +kernel
theorem dX6_beginningsDistance_42 : decode cX6_beginningsDistance 42 = .ok (.invokevirtual 34, 3) := by decide +kernel
theorem dX6_beginningsDistance_45 : decode cX6_beginningsDistance 45 = .ok (.aload_n 0, 1) := by decide +kernel
theorem dX6_beginningsDistance_46 : decode cX6_beginningsDistance 46 = .ok (.iload_n 1, 1) := by decide +kernel
theorem dX6_beginningsDistance_47 : decode cX6_beginningsDistance 47 = .ok (.iload_n 2, 1) := by decide +kernel
theorem dX6_beginningsDistance_48 : decode cX6_beginningsDistance 48 = .ok (.invokevirtual 42, 3) := by decide +kernel
theorem dX6_beginningsDistance_51 : decode cX6_beginningsDistance 51 = .ok (.ifCond .eq 7, 3) := by decide +kernel
theorem dX6_beginningsDistance_54 : decode cX6_beginningsDistance 54 = .ok (.iconst 0, 1) := by decide +kernel
theorem dX6_beginningsDistance_55 : decode cX6_beginningsDistance 55 = .ok (.goto 4, 3) := by decide +kernel
theorem dX6_beginningsDistance_58 : decode cX6_beginningsDistance 58 = .ok (.iconst 1, 1) := by decide +kernel
theorem dX6_beginningsDistance_59 : decode cX6_beginningsDistance 59 = .ok (.iadd, 1) := by decide +kernel
theorem dX6_beginningsDistance_60 : decode cX6_beginningsDistance 60 = .ok (.invokestatic 37, 3) := by decide +kernel
theorem dX6_beginningsDistance_63 : decode cX6_beginningsDistance 63 = .ok (.istore_n 3, 1) := by decide +kernel
theorem dX6_beginningsDistance_64 : decode cX6_beginningsDistance 64 = .ok (.iload_n 1, 1) := by decide +kernel
theorem dX6_beginningsDistance_65 : decode cX6_beginningsDistance 65 = .ok (.iconst 2, 1) := by decide +kernel
theorem dX6_beginningsDistance_66 : decode cX6_beginningsDistance 66 = .ok (.if_icmp .lt 47, 3) := by decide +kernel
theorem dX6_beginningsDistance_69 : decode cX6_beginningsDistance 69 = .ok (.iload_n 2, 1) := by decide +kernel
theorem dX6_beginningsDistance_70 : decode cX6_beginningsDistance 70 = .ok (.iconst 2, 1) := by decide +kernel
theorem dX6_beginningsDistance_71 : decode cX6_beginningsDistance 71 = .ok (.if_icmp .lt 42, 3) := by decide +kernel
theorem dX6_beginningsDistance_74 : decode cX6_beginningsDistance 74 = .ok (.aload_n 0, 1) := by decide +kernel
theorem dX6_beginningsDistance_75 : decode cX6_beginningsDistance 75 = .ok (.iload_n 1, 1) := by decide +kernel
theorem dX6_beginningsDistance_76 : decode cX6_beginningsDistance 76 = .ok (.iload_n 2, 1) := by decide +kernel
theorem dX6_beginningsDistance_77 : decode cX6_beginningsDistance 77 = .ok (.iconst 1, 1) := by decide +kernel
theorem dX6_beginningsDistance_78 : decode cX6_beginningsDistance 78 = .ok (.isub, 1) := by decide +kernel
theorem dX6_beginningsDistance_79 : decode cX6_beginningsDistance 79 = .ok (.invokevirtual 42, 3) := by decide +kernel
theorem dX6_beginningsDistance_82 : decode cX6_beginningsDistance 82 = .ok (.ifCond .eq 31, 3) := by decide +kernel
theorem dX6_beginningsDistance_85 : decode cX6_beginningsDistance 85 = .ok (.aload_n 0, 1) := by decide +kernel
theorem dX6_beginningsDistance_86 : decode cX6_beginningsDistance 86 = .ok (.iload_n 1, 1) := by decide +kernel
theorem dX6_beginningsDistance_87 : decode cX6_beginningsDistance 87 = .ok (.iconst 1, 1) := by decide +kernel
theorem dX6_beginningsDistance_88 : decode cX6_beginningsDistance 88 = .ok (.isub, 1) := by decide +kernel
theorem dX6_beginningsDistance_89 : decode cX6_beginningsDistance 89 = .ok (.iload_n 2, 1) := by decide +kernel
theorem dX6_beginningsDistance_90 : decode cX6_beginningsDistance 90 = .ok (.invokevirtual 42, 3) := by decide +kernel
theorem dX6_beginningsDistance_93 : decode cX6_beginningsDistance 93 = .ok (.ifCond .eq 20, 3) := by decide +kernel
theorem dX6_beginningsDistance_96 : decode cX6_beginningsDistance 96 = .ok (.iload_n 3, 1) := by decide +kernel
theorem dX6_beginningsDistance_97 : decode cX6_beginningsDistance 97 = .ok (.aload_n 0, 1) := by decide +kernel
theorem dX6_beginningsDistance_98 : decode cX6_beginningsDistance 98 = .ok (.iload_n 1, 1) := by decide +kernel
theorem dX6_beginningsDistance_99 : decode cX6_beginningsDistance 99 = .ok (.iconst 2, 1) := by decide +kernel
theorem dX6_beginningsDistance_100 : decode cX6_beginningsDistance 100 = .ok (.isub, 1) := by decide +kernel
theorem dX6_beginningsDistance_101 : decode cX6_beginningsDistance 101 = .ok (.iload_n 2, 1) := by decide +kernel
theorem dX6_beginningsDistance_102 : decode cX6_beginningsDistance 102 = .ok (.iconst 2, 1) := by decide +kernel
theorem dX6_beginningsDistance_103 : decode cX6_beginningsDistance 103 = .ok (.isub, 1) := by decide +kernel
theorem dX6_beginningsDistance_104 : decode cX6_beginningsDistance 104 = .ok (.invokevirtual 34, 3) := by decide +kernel
theorem dX6_beginningsDistance_107 : decode cX6_beginningsDistance 107 = .ok (.iconst 1, 1) := by decide +kernel
theorem dX6_beginningsDistance_108 : decode cX6_beginningsDistance 108 = .ok (.iadd, 1) := by decide +kernel
theorem dX6_beginningsDistance_109 : decode cX6_beginningsDistance 109 = .ok (.invokestatic 37, 3) := by decide +kernel
theorem dX6_beginningsDistance_112 : decode cX6_beginningsDistance 112 = .ok (.istore_n 3, 1) := by decide +kernel
theorem dX6_beginningsDistance_113 : decode cX6_beginningsDistance 113 = .ok (.iload_n 3, 1) := by decide +kernel
theorem dX6_beginningsDistance_114 : decode cX6_beginningsDistance 114 = .ok (.ireturn, 1) := by decide +kernel
theorem dX6_byEnds_0 : decode cX6_byEnds 0 = .ok (.aload_n 1, 1) := by decide +kernel
theorem dX6_byEnds_1 : decode cX6_byEnds 1 = .ok (.aload_n 0, 1) := by decide +kernel
theorem dX6_byEnds_2 : decode cX6_byEnds 2 = .ok (.getfield 9, 3) := by decide +kernel
theorem dX6_byEnds_5 : decode cX6_byEnds 5 = .ok (.invokestatic 22, 3) := by decide +kernel
theorem dX6_byEnds_8 : decode cX6_byEnds 8 = .ok (.istore_n 3, 1) := by decide +kernel
theorem dX6_byEnds_9 : decode cX6_byEnds 9 = .ok (.aload_n 2, 1) := by decide +kernel
theorem dX6_byEnds_10 : decode cX6_byEnds 10 = .ok (.aload_n 0, 1) := by decide +kernel
theorem dX6_byEnds_11 : decode cX6_byEnds 11 = .ok (.getfield 15, 3) := by decide +kernel
theorem dX6_byEnds_14 : decode cX6_byEnds 14 = .ok (.invokestatic 22, 3) := by decide +kernel
theorem dX6_byEnds_17 : decode cX6_byEnds 17 = .ok (.istore 4, 2) := by decide +kernel
theorem dX6_byEnds_19 : decode cX6_byEnds 19 = .ok (.iconst 0, 1) := by decide +kernel
theorem dX6_byEnds_20 : decode cX6_byEnds 20 = .ok (.istore 5, 2) := by decide +kernel
theorem dX6_byEnds_22 : decode cX6_byEnds 22 = .ok (.iload 5, 2) := by decide +kernel
theorem dX6_byEnds_24 : decode cX6_byEnds 24 = .ok (.aload_n 0, 1) := by decide +kernel
theorem dX6_byEnds_25 : decode cX6_byEnds 25 = .ok (.getfield 18, 3) := by decide +kernel
theorem dX6_byEnds_28 : decode cX6_byEnds 28 = .ok (.arraylength, 1) := by decide +kernel
theorem dX6_byEnds_29 : decode cX6_byEnds 29 = .ok (.if_icmp .ge 17, 3) := by decide +kernel
theorem dX6_byEnds_32 : decode cX6_byEnds 32 = .ok (.aload_n 0, 1) := by decide +kernel
theorem dX6_byEnds_33 : decode cX6_byEnds 33 = .ok (.getfield 18, 3) := by decide +kernel
theorem dX6_byEnds_36 : decode cX6_byEnds 36 = .ok (.iload 5, 2) := by decide +kernel
theorem dX6_byEnds_38 : decode cX6_byEnds 38 = .ok (.iconst (-1), 1) := by decide +kernel
theorem dX6_byEnds_39 : decode cX6_byEnds 39 = .ok (.iastore, 1) := by decide +kernel
theorem dX6_byEnds_40 : decode cX6_byEnds 40 = .ok (.iinc 5 1, 3) := by decide +kernel
theorem dX6_byEnds_43 : decode cX6_byEnds 43 = .ok (.goto (-21), 3) := by decide +kernel
theorem dX6_byEnds_46 : decode cX6_byEnds 46 = .ok (.aload_n 0, 1) := by decide +kernel
theorem dX6_byEnds_47 : decode cX6_byEnds 47 = .ok (.iload_n 3, 1) := by decide +kernel
theorem dX6_byEnds_48 : decode cX6_byEnds 48 = .ok (.iload 4, 2) := by decide +kernel
theorem dX6_byEnds_50 : decode cX6_byEnds 50 = .ok (.invokestatic 46, 3) := by decide +kernel
theorem dX6_byEnds_53 : decode cX6_byEnds 53 = .ok (.ireturn, 1) := by decide +kernel
theorem dX6_endsDistance_0 : decode cX6_endsDistance 0 = .ok (.iload_n 1, 1) := by decide +kernel
theorem dX6_endsDistance_1 : decode cX6_endsDistance 1 = .ok (.ifCond .le 19, 3) := by decide +kernel
theorem dX6_endsDistance_4 : decode cX6_endsDistance 4 = .ok (.iload_n 2, 1) := by decide +kernel
theorem dX6_endsDistance_5 : decode cX6_endsDistance 5 = .ok (.ifCond .le 15, 3) := by decide +kernel
theorem dX6_endsDistance_8 : decode cX6_endsDistance 8 = .ok (.iload_n 1, 1) := by decide +kernel
theorem dX6_endsDistance_9 : decode cX6_endsDistance 9 = .ok (.bipush 9, 2) := by decide +kernel
theorem dX6_endsDistance_11 : decode cX6_endsDistance 11 = .ok (.if_icmp .ge 9, 3) := by decide +kernel
theorem dX6_endsDistance_14 : decode cX6_endsDistance 14 = .ok (.iload_n 2, 1) := by decide +kernel
theorem dX6_endsDistance_15 : decode cX6_endsDistance 15 = .ok (.bipush 9, 2) := by decide +kernel
theorem dX6_endsDistance_17 : decode cX6_endsDistance 17 = .ok (.if_icmp .lt 7, 3) := by decide +kernel
theorem dX6_endsDistance_20 : decode cX6_endsDistance 20 = .ok (.iload_n 1, 1) := by decide +kernel
theorem dX6_endsDistance_21 : decode cX6_endsDistance 21 = .ok (.iload_n 2, 1) := by decide +kernel
theorem dX6_endsDistance_22 : decode cX6_endsDistance 22 = .ok (.iadd, 1) := by decide +kernel
theorem dX6_endsDistance_23 : decode cX6_endsDistance 23 = .ok (.ireturn, 1) := by decide +kernel
theorem dX6_endsDistance_24 : decode cX6_endsDistance 24 = .ok (.aload_n 0, 1) := by decide +kernel
theorem dX6_endsDistance_25 : decode cX6_endsDistance 25 = .ok (.iload_n 1, 1) := by decide +kernel
theorem dX6_endsDistance_26 : decode cX6_endsDistance 26 = .ok (.iload_n 2, 1) := by decide +kernel
theorem dX6_endsDistance_27 : decode cX6_endsDistance 27 = .ok (.invokevirtual 34, 3) := by decide +kernel
theorem dX6_endsDistance_30 : decode cX6_endsDistance 30 = .ok (.istore_n 3, 1) := by decide +kernel
theorem dX6_endsDistance_31 : decode cX6_endsDistance 31 = .ok (.iload_n 3, 1) := by decide +kernel
theorem dX6_endsDistance_32 : decode cX6_endsDistance 32 = .ok (.iconst (-1), 1) := by decide +kernel
theorem dX6_endsDistance_33 : decode cX6_endsDistance 33 = .ok (.if_icmp .eq 5, 3) := by decide +kernel
theorem dX6_endsDistance_36 : decode cX6_endsDistance 36 = .ok (.iload_n 3, 1) := by decide +kernel
theorem dX6_endsDistance_37 : decode cX6_endsDistance 37 = .ok (.ireturn, 1) := by decide +kernel
theorem dX6_endsDistance_38 : decode cX6_endsDistance 38 = .ok (.aload_n 0, 1) := by decide +kernel
theorem dX6_endsDistance_39 : decode cX6_endsDistance 39 = .ok (.iload_n 1, 1) := by decide +kernel
theorem dX6_endsDistance_40 : decode cX6_endsDistance 40 = .ok (.iconst 1, 1) := by decide +kernel
theorem dX6_endsDistance_41 : decode cX6_endsDistance 41 = .ok (.isub, 1) := by decide +kernel
theorem dX6_endsDistance_42 : decode cX6_endsDistance 42 = .ok (.iload_n 2, 1) := by decide +kernel
theorem dX6_endsDistance_43 : decode cX6_endsDistance 43 = .ok (.invokestatic 46, 3) := by decide +kernel
theorem dX6_endsDistance_46 : decode cX6_endsDistance 46 = .ok (.aload_n 0, 1) := by decide +kernel
theorem dX6_endsDistance_47 : decode cX6_endsDistance 47 = .ok (.iload_n 1, 1) := by decide +kernel
theorem dX6_endsDistance_48 : decode cX6_endsDistance 48 = .ok (.iload_n 2, 1) := by decide +kernel
theorem dX6_endsDistance_49 : decode cX6_endsDistance 49 = .ok (.iconst 1, 1) := by decide +kernel
theorem dX6_endsDistance_50 : decode cX6_endsDistance 50 = .ok (.isub, 1) := by decide +kernel
theorem dX6_endsDistance_51 : decode cX6_endsDistance 51 = .ok (.invokestatic 46, 3) := by decide +kernel
theorem dX6_endsDistance_54 : decode cX6_endsDistance 54 = .ok (.invokestatic 37, 3) := by decide +kernel
theorem dX6_endsDistance_57 : decode cX6_endsDistance 57 = .ok (.iconst 1, 1) := by decide +kernel
theorem dX6_endsDistance_58 : decode cX6_endsDistance 58 = .ok (.iadd, 1) := by decide +kernel
theorem dX6_endsDistance_59 : decode cX6_endsDistance 59 = .ok (.istore 4, 2) := by decide +kernel
theorem dX6_endsDistance_61 : decode cX6_endsDistance 61 = .ok (.aload_n 0, 1) := by decide +kernel
theorem dX6_endsDistance_62 : decode cX6_endsDistance 62 = .ok (.iload_n 1, 1) := by decide +kernel
theorem dX6_endsDistance_63 : decode cX6_endsDistance 63 = .ok (.iload_n 2, 1) := by decide +kernel
theorem dX6_endsDistance_64 : decode cX6_endsDistance 64 = .ok (.invokevirtual 42, 3) := by decide +kernel
theorem dX6_endsDistance_67 : decode cX6_endsDistance 67 = .ok (.ifCond .eq 7, 3) := by decide +kernel
theorem dX6_endsDistance_70 : decode cX6_endsDistance 70 = .ok (.iconst 0, 1) := by decide +kernel
theorem dX6_endsDistance_71 : decode cX6_endsDistance 71 = .ok (.goto 4, 3) := by decide +kernel
theorem dX6_endsDistance_74 : decode cX6_endsDistance 74 = .ok (.iconst 1, 1) := by decide +kernel
theorem dX6_endsDistance_75 : decode cX6_endsDistance 75 = .ok (.istore 5, 2) := by decide +kernel
theorem dX6_endsDistance_77 : decode cX6_endsDistance 77 = .ok (.iload 4, 2) := by decide +kernel
theorem dX6_endsDistance_79 : decode cX6_endsDistance 79 = .ok (.aload_n 0, 1) := by decide +kernel
theorem dX6_endsDistance_80 : decode cX6_endsDistance 80 = .ok (.iload_n 1, 1) := by decide +kernel
theorem dX6_endsDistance_81 : decode cX6_endsDistance 81 = .ok (.iconst 1, 1) := by decide +kernel
theorem dX6_endsDistance_82 : decode cX6_endsDistance 82 = .ok (.isub, 1) := by decide +kernel
theorem dX6_endsDistance_83 : decode cX6_endsDistance 83 = .ok (.iload_n 2, 1) := by decide +kernel
theorem dX6_endsDistance_84 : decode cX6_endsDistance 84 = .ok (.iconst 1, 1) := by decide +kernel
theorem dX6_endsDistance_85 : decode cX6_endsDistance 85 = .ok (.isub, 1) := by decide +kernel
theorem dX6_endsDistance_86 : decode cX6_endsDistance 86 = .ok (.invokestatic 46, 3) := by decide +kernel
theorem dX6_endsDistance_89 : decode cX6_endsDistance 89 = .ok (.iload 5, 2) := by decide +kernel
theorem dX6_endsDistance_91 : decode cX6_endsDistance 91 = .ok (.iadd, 1) := by decide +kernel
theorem dX6_endsDistance_92 : decode cX6_endsDistance 92 = .ok (.invokestatic 37, 3) := by decide +kernel
theorem dX6_endsDistance_95 : decode cX6_endsDistance 95 = .ok (.istore 4, 2) := by decide +kernel
theorem dX6_endsDistance_97 : decode cX6_endsDistance 97 = .ok (.iload_n 1, 1) := by decide +kernel
theorem dX6_endsDistance_98 : decode cX6_endsDistance 98 = .ok (.iconst 2, 1) := by decide +kernel
theorem dX6_endsDistance_99 : decode cX6_endsDistance 99 = .ok (.if_icmp .lt 49, 3) := by decide +kernel
theorem dX6_endsDistance_102 : decode cX6_endsDistance 102 = .ok (.iload_n 2, 1) := by decide +kernel
theorem dX6_endsDistance_103 : decode cX6_endsDistance 103 = .ok (.iconst 2, 1) := by decide +kernel
theorem dX6_endsDistance_104 : decode cX6_endsDistance 104 = .ok (.if_icmp .lt 44, 3) := by decide +kernel
theorem dX6_endsDistance_107 : decode cX6_endsDistance 107 = .ok (.aload_n 0, 1) := by decide +kernel
theorem dX6_endsDistance_108 : decode cX6_endsDistance 108 = .ok (.iload_n 1, 1) := by decide +kernel
theorem dX6_endsDistance_109 : decode cX6_endsDistance 109 = .ok (.iload_n 2, 1) := by decide +kernel
theorem dX6_endsDistance_110 : decode cX6_endsDistance 110 = .ok (.iconst 1, 1) := by decide +kernel
theorem dX6_endsDistance_111 : decode cX6_endsDistance 111 = .ok (.isub, 1) := by decide +kernel
theorem dX6_endsDistance_112 : decode cX6_endsDistance 112 = .ok (.invokevirtual 42, 3) := by decide +kernel
theorem dX6_endsDistance_115 : decode cX6_endsDistance 115 = .ok (.ifCond .eq 33, 3) := by decide +kernel
theorem dX6_endsDistance_118 : decode cX6_endsDistance 118 = .ok (.aload_n 0, 1) := by decide +kernel
theorem dX6_endsDistance_119 : decode cX6_endsDistance 119 = .ok (.iload_n 1, 1) := by decide +kernel
theorem dX6_endsDistance_120 : decode cX6_endsDistance 120 = .ok (.iconst 1, 1) := by decide +kernel
theorem dX6_endsDistance_121 : decode cX6_endsDistance 121 = .ok (.isub, 1) := by decide +kernel
theorem dX6_endsDistance_122 : decode cX6_endsDistance 122 = .ok (.iload_n 2, 1) := by decide +kernel
theorem dX6_endsDistance_123 : decode cX6_endsDistance 123 = .ok (.invokevirtual 42, 3) := by decide +kernel
theorem dX6_endsDistance_126 : decode cX6_endsDistance 126 = .ok (.ifCond .eq 22, 3) := by decide +kernel
theorem dX6_endsDistance_129 : decode cX6_endsDistance 129 = .ok (.iload 4, 2) := by decide +kernel
theorem dX6_endsDistance_131 : decode cX6_endsDistance 131 = .ok (.aload_n 0, 1) := by decide +kernel
theorem dX6_endsDistance_132 : decode cX6_endsDistance 132 = .ok (.iload_n 1, 1) := by decide +kernel
theorem dX6_endsDistance_133 : decode cX6_endsDistance 133 = .ok (.iconst 2, 1) := by decide +kernel
theorem dX6_endsDistance_134 : decode cX6_endsDistance 134 = .ok (.isub, 1) := by decide +kernel
theorem dX6_endsDistance_135 : decode cX6_endsDistance 135 = .ok (.iload_n 2, 1) := by decide +kernel
theorem dX6_endsDistance_136 : decode cX6_endsDistance 136 = .ok (.iconst 2, 1) := by decide +kernel
theorem dX6_endsDistance_137 : decode cX6_endsDistance 137 = .ok (.isub, 1) := by decide +kernel
theorem dX6_endsDistance_138 : decode cX6_endsDistance 138 = .ok (.invokestatic 46, 3) := by decide +kernel
theorem dX6_endsDistance_141 : decode cX6_endsDistance 141 = .ok (.iconst 1, 1) := by decide +kernel
theorem dX6_endsDistance_142 : decode cX6_endsDistance 142 = .ok (.iadd, 1) := by decide +kernel
theorem dX6_endsDistance_143 : decode cX6_endsDistance 143 = .ok (.invokestatic 37, 3) := by decide +kernel
theorem dX6_endsDistance_146 : decode cX6_endsDistance 146 = .ok (.istore 4, 2) := by decide +kernel
theorem dX6_endsDistance_148 : decode cX6_endsDistance 148 = .ok (.aload_n 0, 1) := by decide +kernel
theorem dX6_endsDistance_149 : decode cX6_endsDistance 149 = .ok (.iload_n 1, 1) := by decide +kernel
theorem dX6_endsDistance_150 : decode cX6_endsDistance 150 = .ok (.iload_n 2, 1) := by decide +kernel
theorem dX6_endsDistance_151 : decode cX6_endsDistance 151 = .ok (.iload 4, 2) := by decide +kernel
theorem dX6_endsDistance_153 : decode cX6_endsDistance 153 = .ok (.invokevirtual 30, 3) := by decide +kernel
theorem dX6_endsDistance_156 : decode cX6_endsDistance 156 = .ok (.iload 4, 2) := by decide +kernel
theorem dX6_endsDistance_158 : decode cX6_endsDistance 158 = .ok (.ireturn, 1) := by decide +kernel
theorem dX6_putLetters_0 : decode cX6_putLetters 0 = .ok (.aload_n 0, 1) := by decide +kernel
theorem dX6_putLetters_1 : decode cX6_putLetters 1 = .ok (.invokevirtual 50, 3) := by decide +kernel
theorem dX6_putLetters_4 : decode cX6_putLetters 4 = .ok (.aload_n 1, 1) := by decide +kernel
theorem dX6_putLetters_5 : decode cX6_putLetters 5 = .ok (.arraylength, 1) := by decide +kernel
theorem dX6_putLetters_6 : decode cX6_putLetters 6 = .ok (.invokestatic 37, 3) := by decide +kernel
theorem dX6_putLetters_9 : decode cX6_putLetters 9 = .ok (.istore_n 2, 1) := by decide +kernel
theorem dX6_putLetters_10 : decode cX6_putLetters 10 = .ok (.iconst 0, 1) := by decide +kernel
theorem dX6_putLetters_11 : decode cX6_putLetters 11 = .ok (.istore_n 3, 1) := by decide +kernel
theorem dX6_putLetters_12 : decode cX6_putLetters 12 = .ok (.iload_n 3, 1) := by decide +kernel
theorem dX6_putLetters_13 : decode cX6_putLetters 13 = .ok (.iload_n 2, 1) := by decide +kernel
theorem dX6_putLetters_14 : decode cX6_putLetters 14 = .ok (.if_icmp .ge 17, 3) := by decide +kernel
theorem dX6_putLetters_17 : decode cX6_putLetters 17 = .ok (.aload_n 1, 1) := by decide +kernel
theorem dX6_putLetters_18 : decode cX6_putLetters 18 = .ok (.iload_n 3, 1) := by decide +kernel
theorem dX6_putLetters_19 : decode cX6_putLetters 19 = .ok (.aload_n 0, 1) := by decide +kernel
theorem dX6_putLetters_20 : decode cX6_putLetters 20 = .ok (.iload_n 3, 1) := by decide +kernel
theorem dX6_putLetters_21 : decode cX6_putLetters 21 = .ok (.invokevirtual 56, 3) := by decide +kernel
theorem dX6_putLetters_24 : decode cX6_putLetters 24 = .ok (.castore, 1) := by decide +kernel
theorem dX6_putLetters_25 : decode cX6_putLetters 25 = .ok (.iinc 3 1, 3) := by decide +kernel
theorem dX6_putLetters_28 : decode cX6_putLetters 28 = .ok (.goto (-16), 3) := by decide +kernel
theorem dX6_putLetters_31 : decode cX6_putLetters 31 = .ok (.iload_n 2, 1) := by decide +kernel
theorem dX6_putLetters_32 : decode cX6_putLetters 32 = .ok (.ireturn, 1) := by decide +kernel
theorem dX6_sameLetter_0 : decode cX6_sameLetter 0 = .ok (.iload_n 1, 1) := by decide +kernel
theorem dX6_sameLetter_1 : decode cX6_sameLetter 1 = .ok (.iconst 1, 1) := by decide +kernel
theorem dX6_sameLetter_2 : decode cX6_sameLetter 2 = .ok (.if_icmp .lt 49, 3) := by decide +kernel
theorem dX6_sameLetter_5 : decode cX6_sameLetter 5 = .ok (.iload_n 1, 1) := by decide +kernel
theorem dX6_sameLetter_6 : decode cX6_sameLetter 6 = .ok (.aload_n 0, 1) := by decide +kernel
theorem dX6_sameLetter_7 : decode cX6_sameLetter 7 = .ok (.getfield 9, 3) := by decide +kernel
theorem dX6_sameLetter_10 : decode cX6_sameLetter 10 = .ok (.arraylength, 1) := by decide +kernel
theorem dX6_sameLetter_11 : decode cX6_sameLetter 11 = .ok (.if_icmp .gt 40, 3) := by decide +kernel
theorem dX6_sameLetter_14 : decode cX6_sameLetter 14 = .ok (.iload_n 2, 1) := by decide +kernel
theorem dX6_sameLetter_15 : decode cX6_sameLetter 15 = .ok (.iconst 1, 1) := by decide +kernel
theorem dX6_sameLetter_16 : decode cX6_sameLetter 16 = .ok (.if_icmp .lt 35, 3) := by decide +kernel
theorem dX6_sameLetter_19 : decode cX6_sameLetter 19 = .ok (.iload_n 2, 1) := by decide +kernel
theorem dX6_sameLetter_20 : decode cX6_sameLetter 20 = .ok (.aload_n 0, 1) := by decide +kernel
theorem dX6_sameLetter_21 : decode cX6_sameLetter 21 = .ok (.getfield 15, 3) := by decide +kernel
theorem dX6_sameLetter_24 : decode cX6_sameLetter 24 = .ok (.arraylength, 1) := by decide +kernel
theorem dX6_sameLetter_25 : decode cX6_sameLetter 25 = .ok (.if_icmp .gt 26, 3) := by decide +kernel
theorem dX6_sameLetter_28 : decode cX6_sameLetter 28 = .ok (.aload_n 0, 1) := by decide +kernel
theorem dX6_sameLetter_29 : decode cX6_sameLetter 29 = .ok (.getfield 9, 3) := by decide +kernel
theorem dX6_sameLetter_32 : decode cX6_sameLetter 32 = .ok (.iload_n 1, 1) := by decide +kernel
theorem dX6_sameLetter_33 : decode cX6_sameLetter 33 = .ok (.iconst 1, 1) := by decide +kernel
theorem dX6_sameLetter_34 : decode cX6_sameLetter 34 = .ok (.isub, 1) := by decide +kernel
theorem dX6_sameLetter_35 : decode cX6_sameLetter 35 = .ok (.caload, 1) := by decide +kernel
theorem dX6_sameLetter_36 : decode cX6_sameLetter 36 = .ok (.aload_n 0, 1) := by decide +kernel
theorem dX6_sameLetter_37 : decode cX6_sameLetter 37 = .ok (.getfield 15, 3) := by decide +kernel
theorem dX6_sameLetter_40 : decode cX6_sameLetter 40 = .ok (.iload_n 2, 1) := by decide +kernel
theorem dX6_sameLetter_41 : decode cX6_sameLetter 41 = .ok (.iconst 1, 1) := by decide +kernel
theorem dX6_sameLetter_42 : decode cX6_sameLetter 42 = .ok (.isub, 1) := by decide +kernel
theorem dX6_sameLetter_43 : decode cX6_sameLetter 43 = .ok (.caload, 1) := by decide +kernel
theorem dX6_sameLetter_44 : decode cX6_sameLetter 44 = .ok (.if_icmp .ne 7, 3) := by decide +kernel
theorem dX6_sameLetter_47 : decode cX6_sameLetter 47 = .ok (.iconst 1, 1) := by decide +kernel
theorem dX6_sameLetter_48 : decode cX6_sameLetter 48 = .ok (.goto 4, 3) := by decide +kernel
theorem dX6_sameLetter_51 : decode cX6_sameLetter 51 = .ok (.iconst 0, 1) := by decide +kernel
theorem dX6_sameLetter_52 : decode cX6_sameLetter 52 = .ok (.ireturn, 1) := by decide +kernel
theorem dX6_cellAt_0 : decode cX6_cellAt 0 = .ok (.iload_n 1, 1) := by decide +kernel
theorem dX6_cellAt_1 : decode cX6_cellAt 1 = .ok (.bipush 9, 2) := by decide +kernel
theorem dX6_cellAt_3 : decode cX6_cellAt 3 = .ok (.imul, 1) := by decide +kernel
theorem dX6_cellAt_4 : decode cX6_cellAt 4 = .ok (.iload_n 2, 1) := by decide +kernel
theorem dX6_cellAt_5 : decode cX6_cellAt 5 = .ok (.iadd, 1) := by decide +kernel
theorem dX6_cellAt_6 : decode cX6_cellAt 6 = .ok (.istore_n 3, 1) := by decide +kernel
theorem dX6_cellAt_7 : decode cX6_cellAt 7 = .ok (.iload_n 3, 1) := by decide +kernel
theorem dX6_cellAt_8 : decode cX6_cellAt 8 = .ok (.ifCond .lt 21, 3) := by decide +kernel
theorem dX6_cellAt_11 : decode cX6_cellAt 11 = .ok (.iload_n 3, 1) := by decide +kernel
theorem dX6_cellAt_12 : decode cX6_cellAt 12 = .ok (.aload_n 0, 1) := by decide +kernel
theorem dX6_cellAt_13 : decode cX6_cellAt 13 = .ok (.getfield 18, 3) := by decide +kernel
theorem dX6_cellAt_16 : decode cX6_cellAt 16 = .ok (.arraylength, 1) := by decide +kernel
theorem dX6_cellAt_17 : decode cX6_cellAt 17 = .ok (.if_icmp .ge 12, 3) := by decide +kernel
theorem dX6_cellAt_20 : decode cX6_cellAt 20 = .ok (.aload_n 0, 1) := by decide +kernel
theorem dX6_cellAt_21 : decode cX6_cellAt 21 = .ok (.getfield 18, 3) := by decide +kernel
theorem dX6_cellAt_24 : decode cX6_cellAt 24 = .ok (.iload_n 3, 1) := by decide +kernel
theorem dX6_cellAt_25 : decode cX6_cellAt 25 = .ok (.iaload, 1) := by decide +kernel
theorem dX6_cellAt_26 : decode cX6_cellAt 26 = .ok (.goto 4, 3) := by decide +kernel
theorem dX6_cellAt_29 : decode cX6_cellAt 29 = .ok (.iconst 0, 1) := by decide +kernel
theorem dX6_cellAt_30 : decode cX6_cellAt 30 = .ok (.ireturn, 1) := by decide +kernel
theorem dX6_putCell_0 : decode cX6_putCell 0 = .ok (.iload_n 1, 1) := by decide +kernel
theorem dX6_putCell_1 : decode cX6_putCell 1 = .ok (.bipush 9, 2) := by decide +kernel
theorem dX6_putCell_3 : decode cX6_putCell 3 = .ok (.imul, 1) := by decide +kernel
theorem dX6_putCell_4 : decode cX6_putCell 4 = .ok (.iload_n 2, 1) := by decide +kernel
theorem dX6_putCell_5 : decode cX6_putCell 5 = .ok (.iadd, 1) := by decide +kernel
theorem dX6_putCell_6 : decode cX6_putCell 6 = .ok (.istore 4, 2) := by decide +kernel
theorem dX6_putCell_8 : decode cX6_putCell 8 = .ok (.iload 4, 2) := by decide +kernel
theorem dX6_putCell_10 : decode cX6_putCell 10 = .ok (.ifCond .lt 21, 3) := by decide +kernel
theorem dX6_putCell_13 : decode cX6_putCell 13 = .ok (.iload 4, 2) := by decide +kernel
theorem dX6_putCell_15 : decode cX6_putCell 15 = .ok (.aload_n 0, 1) := by decide +kernel
theorem dX6_putCell_16 : decode cX6_putCell 16 = .ok (.getfield 18, 3) := by decide +kernel
theorem dX6_putCell_19 : decode cX6_putCell 19 = .ok (.arraylength, 1) := by decide +kernel
theorem dX6_putCell_20 : decode cX6_putCell 20 = .ok (.if_icmp .ge 11, 3) := by decide +kernel
theorem dX6_putCell_23 : decode cX6_putCell 23 = .ok (.aload_n 0, 1) := by decide +kernel
theorem dX6_putCell_24 : decode cX6_putCell 24 = .ok (.getfield 18, 3) := by decide +kernel
theorem dX6_putCell_27 : decode cX6_putCell 27 = .ok (.iload 4, 2) := by decide +kernel
theorem dX6_putCell_29 : decode cX6_putCell 29 = .ok (.iload_n 3, 1) := by decide +kernel
theorem dX6_putCell_30 : decode cX6_putCell 30 = .ok (.iastore, 1) := by decide +kernel
theorem dX6_putCell_31 : decode cX6_putCell 31 = .ok (.return_, 1) := by decide +kernel
theorem dX7_init_0 : decode cX7_init 0 = .ok (.aload_n 0, 1) := by decide +kernel
theorem dX7_init_1 : decode cX7_init 1 = .ok (.invokespecial 3, 3) := by decide +kernel
theorem dX7_init_4 : decode cX7_init 4 = .ok (.aload_n 0, 1) := by decide +kernel
theorem dX7_init_5 : decode cX7_init 5 = .ok (.new 9, 3) := by decide +kernel
theorem dX7_init_8 : decode cX7_init 8 = .ok (.dup, 1) := by decide +kernel
theorem dX7_init_9 : decode cX7_init 9 = .ok (.invokespecial 11, 3) := by decide +kernel
theorem dX7_init_12 : decode cX7_init 12 = .ok (.putfield 12, 3) := by decide +kernel
theorem dX7_init_15 : decode cX7_init 15 = .ok (.aload_n 0, 1) := by decide +kernel
theorem dX7_init_16 : decode cX7_init 16 = .ok (.iconst 0, 1) := by decide +kernel
theorem dX7_init_17 : decode cX7_init 17 = .ok (.putfield 18, 3) := by decide +kernel
theorem dX7_init_20 : decode cX7_init 20 = .ok (.aload_n 0, 1) := by decide +kernel
theorem dX7_init_21 : decode cX7_init 21 = .ok (.aload_n 1, 1) := by decide +kernel
theorem dX7_init_22 : decode cX7_init 22 = .ok (.putfield 22, 3) := by decide +kernel
theorem dX7_init_25 : decode cX7_init 25 = .ok (.return_, 1) := by decide +kernel
theorem dX7_readScript_0 : decode cX7_readScript 0 = .ok (.iconst 0, 1) := by decide +kernel
theorem dX7_readScript_1 : decode cX7_readScript 1 = .ok (.istore_n 1, 1) := by decide +kernel
theorem dX7_readScript_2 : decode cX7_readScript 2 = .ok (.iload_n 1, 1) := by decide +kernel
theorem dX7_readScript_3 : decode cX7_readScript 3 = .ok (.aload_n 0, 1) := by decide +kernel
theorem dX7_readScript_4 : decode cX7_readScript 4 = .ok (.getfield 22, 3) := by decide +kernel
theorem dX7_readScript_7 : decode cX7_readScript 7 = .ok (.invokevirtual 26, 3) := by decide +kernel
theorem dX7_readScript_10 : decode cX7_readScript 10 = .ok (.if_icmp .gt 45, 3) := by decide +kernel
theorem dX7_readScript_13 : decode cX7_readScript 13 = .ok (.aload_n 0, 1) := by decide +kernel
theorem dX7_readScript_14 : decode cX7_readScript 14 = .ok (.invokevirtual 32, 3) := by decide +kernel
theorem dX7_readScript_17 : decode cX7_readScript 17 = .ok (.ifCond .ne 5, 3) := by decide +kernel
theorem dX7_readScript_20 : decode cX7_readScript 20 = .ok (.iconst 0, 1) := by decide +kernel
theorem dX7_readScript_21 : decode cX7_readScript 21 = .ok (.ireturn, 1) := by decide +kernel
theorem dX7_readScript_22 : decode cX7_readScript 22 = .ok (.aload_n 0, 1) := by decide +kernel
theorem dX7_readScript_23 : decode cX7_readScript 23 = .ok (.getfield 18, 3) := by decide +kernel
theorem dX7_readScript_26 : decode cX7_readScript 26 = .ok (.aload_n 0, 1) := by decide +kernel
theorem dX7_readScript_27 : decode cX7_readScript 27 = .ok (.getfield 22, 3) := by decide +kernel
theorem dX7_readScript_30 : decode cX7_readScript 30 = .ok (.invokevirtual 26, 3) := by decide +kernel
theorem dX7_readScript_33 : decode cX7_readScript 33 = .ok (.if_icmp .ne 5, 3) := by decide +kernel
theorem dX7_readScript_36 : decode cX7_readScript 36 = .ok (.iconst 1, 1) := by decide +kernel
theorem dX7_readScript_37 : decode cX7_readScript 37 = .ok (.ireturn, 1) := by decide +kernel
theorem dX7_readScript_38 : decode cX7_readScript 38 = .ok (.aload_n 0, 1) := by decide +kernel
theorem dX7_readScript_39 : decode cX7_readScript 39 = .ok (.bipush 59, 2) := by decide +kernel
theorem dX7_readScript_41 : decode cX7_readScript 41 = .ok (.invokevirtual 36, 3) := by decide +kernel
theorem dX7_readScript_44 : decode cX7_readScript 44 = .ok (.ifCond .ne 5, 3) := by decide +kernel
theorem dX7_readScript_47 : decode cX7_readScript 47 = .ok (.iconst 0, 1) := by decide +kernel
theorem dX7_readScript_48 : decode cX7_readScript 48 = .ok (.ireturn, 1) := by decide +kernel
theorem dX7_readScript_49 : decode cX7_readScript 49 = .ok (.iinc 1 1, 3) := by decide +kernel
theorem dX7_readScript_52 : decode cX7_readScript 52 = .ok (.goto (-50), 3) := by decide +kernel
theorem dX7_readScript_55 : decode cX7_readScript 55 = .ok (.iconst 0, 1) := by decide +kernel
theorem dX7_readScript_56 : decode cX7_readScript 56 = .ok (.ireturn, 1) := by decide +kernel
theorem dX7_readCommand_0 : decode cX7_readCommand 0 = .ok (.aload_n 0, 1) := by decide +kernel
theorem dX7_readCommand_1 : decode cX7_readCommand 1 = .ok (.getfield 18, 3) := by decide +kernel
theorem dX7_readCommand_4 : decode cX7_readCommand 4 = .ok (.istore_n 1, 1) := by decide +kernel
theorem dX7_readCommand_5 : decode cX7_readCommand 5 = .ok (.iload_n 1, 1) := by decide +kernel
theorem dX7_readCommand_6 : decode cX7_readCommand 6 = .ok (.istore_n 2, 1) := by decide +kernel
theorem dX7_readCommand_7 : decode cX7_readCommand 7 = .ok (.iconst 0, 1) := by decide +kernel
theorem dX7_readCommand_8 : decode cX7_readCommand 8 = .ok (.istore_n 3, 1) := by decide +kernel
theorem dX7_readCommand_9 : decode cX7_readCommand 9 = .ok (.iload_n 3, 1) := by decide +kernel
theorem dX7_readCommand_10 : decode cX7_readCommand 10 = .ok (.getstatic 40, 3) := by decide +kernel
theorem dX7_readCommand_13 : decode cX7_readCommand 13 = .ok (.arraylength, 1) := by decide +kernel
theorem dX7_readCommand_14 : decode cX7_readCommand 14 = .ok (.if_icmp .ge 58, 3) := by decide +kernel
theorem dX7_readCommand_17 : decode cX7_readCommand 17 = .ok (.aload_n 0, 1) := by decide +kernel
theorem dX7_readCommand_18 : decode cX7_readCommand 18 = .ok (.iload_n 1, 1) := by decide +kernel
theorem dX7_readCommand_19 : decode cX7_readCommand 19 = .ok (.putfield 18, 3) := by decide +kernel
theorem dX7_readCommand_22 : decode cX7_readCommand 22 = .ok (.new 44, 3) := by decide +kernel
theorem dX7_readCommand_25 : decode cX7_readCommand 25 = .ok (.dup, 1) := by decide +kernel
theorem dX7_readCommand_26 : decode cX7_readCommand 26 = .ok (.getstatic 40, 3) := by decide +kernel
theorem dX7_readCommand_29 : decode cX7_readCommand 29 = .ok (.iload_n 3, 1) := by decide +kernel
theorem dX7_readCommand_30 : decode cX7_readCommand 30 = .ok (.aaload, 1) := by decide +kernel
theorem dX7_readCommand_31 : decode cX7_readCommand 31 = .ok (.invokespecial 46, 3) := by decide +kernel
theorem dX7_readCommand_34 : decode cX7_readCommand 34 = .ok (.astore 4, 2) := by decide +kernel
theorem dX7_readCommand_36 : decode cX7_readCommand 36 = .ok (.aload_n 0, 1) := by decide +kernel
theorem dX7_readCommand_37 : decode cX7_readCommand 37 = .ok (.aload 4, 2) := by decide +kernel
theorem dX7_readCommand_39 : decode cX7_readCommand 39 = .ok (.invokevirtual 49, 3) := by decide +kernel
theorem dX7_readCommand_42 : decode cX7_readCommand 42 = .ok (.ifCond .eq 15, 3) := by decide +kernel
theorem dX7_readCommand_45 : decode cX7_readCommand 45 = .ok (.aload_n 0, 1) := by decide +kernel
theorem dX7_readCommand_46 : decode cX7_readCommand 46 = .ok (.getfield 12, 3) := by decide +kernel
theorem dX7_readCommand_49 : decode cX7_readCommand 49 = .ok (.aload 4, 2) := by decide +kernel
theorem dX7_readCommand_51 : decode cX7_readCommand 51 = .ok (.invokevirtual 53, 3) := by decide +kernel
theorem dX7_readCommand_54 : decode cX7_readCommand 54 = .ok (.pop, 1) := by decide +kernel
theorem dX7_readCommand_55 : decode cX7_readCommand 55 = .ok (.iconst 1, 1) := by decide +kernel
theorem dX7_readCommand_56 : decode cX7_readCommand 56 = .ok (.ireturn, 1) := by decide +kernel
theorem dX7_readCommand_57 : decode cX7_readCommand 57 = .ok (.iload_n 2, 1) := by decide +kernel
theorem dX7_readCommand_58 : decode cX7_readCommand 58 = .ok (.aload_n 0, 1) := by decide +kernel
theorem dX7_readCommand_59 : decode cX7_readCommand 59 = .ok (.getfield 18, 3) := by decide +kernel
theorem dX7_readCommand_62 : decode cX7_readCommand 62 = .ok (.invokestatic 57, 3) := by decide +kernel
theorem dX7_readCommand_65 : decode cX7_readCommand 65 = .ok (.istore_n 2, 1) := by decide +kernel
theorem dX7_readCommand_66 : decode cX7_readCommand 66 = .ok (.iinc 3 1, 3) := by decide +kernel
theorem dX7_readCommand_69 : decode cX7_readCommand 69 = .ok (.goto (-60), 3) := by decide +kernel
theorem dX7_readCommand_72 : decode cX7_readCommand 72 = .ok (.aload_n 0, 1) := by decide +kernel
theorem dX7_readCommand_73 : decode cX7_readCommand 73 = .ok (.iload_n 2, 1) := by decide +kernel
theorem dX7_readCommand_74 : decode cX7_readCommand 74 = .ok (.putfield 18, 3) := by decide +kernel
theorem dX7_readCommand_77 : decode cX7_readCommand 77 = .ok (.iconst 0, 1) := by decide +kernel
theorem dX7_readCommand_78 : decode cX7_readCommand 78 = .ok (.ireturn, 1) := by decide +kernel
theorem dX7_readForm_0 : decode cX7_readForm 0 = .ok (.aload_n 1, 1) := by decide +kernel
theorem dX7_readForm_1 : decode cX7_readForm 1 = .ok (.getfield 63, 3) := by decide +kernel
theorem dX7_readForm_4 : decode cX7_readForm 4 = .ok (.getfield 67, 3) := by decide +kernel
theorem dX7_readForm_7 : decode cX7_readForm 7 = .ok (.astore_n 2, 1) := by decide +kernel
theorem dX7_readForm_8 : decode cX7_readForm 8 = .ok (.iconst 0, 1) := by decide +kernel
theorem dX7_readForm_9 : decode cX7_readForm 9 = .ok (.istore_n 3, 1) := by decide +kernel
theorem dX7_readForm_10 : decode cX7_readForm 10 = .ok (.iload_n 3, 1) := by decide +kernel
theorem dX7_readForm_11 : decode cX7_readForm 11 = .ok (.aload_n 2, 1) := by decide +kernel
theorem dX7_readForm_12 : decode cX7_readForm 12 = .ok (.invokevirtual 26, 3) := by decide +kernel
theorem dX7_readForm_15 : decode cX7_readForm 15 = .ok (.if_icmp .ge 24, 3) := by decide +kernel
theorem dX7_readForm_18 : decode cX7_readForm 18 = .ok (.aload_n 0, 1) := by decide +kernel
theorem dX7_readForm_19 : decode cX7_readForm 19 = .ok (.aload_n 1, 1) := by decide +kernel
theorem dX7_readForm_20 : decode cX7_readForm 20 = .ok (.aload_n 2, 1) := by decide +kernel
theorem dX7_readForm_21 : decode cX7_readForm 21 = .ok (.iload_n 3, 1) := by decide +kernel
theorem dX7_readForm_22 : decode cX7_readForm 22 = .ok (.invokevirtual 72, 3) := by decide +kernel
theorem dX7_readForm_25 : decode cX7_readForm 25 = .ok (.invokevirtual 76, 3) := by decide +kernel
theorem dX7_readForm_28 : decode cX7_readForm 28 = .ok (.ifCond .ne 5, 3) := by decide +kernel
theorem dX7_readForm_31 : decode cX7_readForm 31 = .ok (.iconst 0, 1) := by decide +kernel
theorem dX7_readForm_32 : decode cX7_readForm 32 = .ok (.ireturn, 1) := by decide +kernel
theorem dX7_readForm_33 : decode cX7_readForm 33 = .ok (.iinc 3 1, 3) := by decide +kernel
theorem dX7_readForm_36 : decode cX7_readForm 36 = .ok (.goto (-26), 3) := by decide +kernel
theorem dX7_readForm_39 : decode cX7_readForm 39 = .ok (.iconst 1, 1) := by decide +kernel
theorem dX7_readForm_40 : decode cX7_readForm 40 = .ok (.ireturn, 1) := by decide +kernel
theorem dX7_readPart_0 : decode cX7_readPart 0 = .ok (.iload_n 2, 1) := by decide +kernel
theorem dX7_readPart_1 : decode cX7_readPart 1 = .ok (.lookupswitch 55 #[(68, 35), (77, 49), (78, 42)], 35) := by decide +kernel
theorem dX7_readPart_36 : decode cX7_readPart 36 = .ok (.aload_n 0, 1) := by decide +kernel
theorem dX7_readPart_37 : decode cX7_readPart 37 = .ok (.aload_n 1, 1) := by decide +kernel
theorem dX7_readPart_38 : decode cX7_readPart 38 = .ok (.iconst 1, 1) := by decide +kernel
theorem dX7_readPart_39 : decode cX7_readPart 39 = .ok (.invokevirtual 80, 3) := by decide +kernel
theorem dX7_readPart_42 : decode cX7_readPart 42 = .ok (.ireturn, 1) := by decide +kernel
theorem dX7_readPart_43 : decode cX7_readPart 43 = .ok (.aload_n 0, 1) := by decide +kernel
theorem dX7_readPart_44 : decode cX7_readPart 44 = .ok (.aload_n 1, 1) := by decide +kernel
theorem dX7_readPart_45 : decode cX7_readPart 45 = .ok (.iconst 3, 1) := by decide +kernel
theorem dX7_readPart_46 : decode cX7_readPart 46 = .ok (.invokevirtual 80, 3) := by decide +kernel
theorem dX7_readPart_49 : decode cX7_readPart 49 = .ok (.ireturn, 1) := by decide +kernel
theorem dX7_readPart_50 : decode cX7_readPart 50 = .ok (.aload_n 0, 1) := by decide +kernel
theorem dX7_readPart_51 : decode cX7_readPart 51 = .ok (.aload_n 1, 1) := by decide +kernel
theorem dX7_readPart_52 : decode cX7_readPart 52 = .ok (.invokevirtual 84, 3) := by decide +kernel
theorem dX7_readPart_55 : decode cX7_readPart 55 = .ok (.ireturn, 1) := by decide +kernel
theorem dX7_readPart_56 : decode cX7_readPart 56 = .ok (.aload_n 0, 1) := by decide +kernel
theorem dX7_readPart_57 : decode cX7_readPart 57 = .ok (.iload_n 2, 1) := by decide +kernel
theorem dX7_readPart_58 : decode cX7_readPart 58 = .ok (.invokevirtual 36, 3) := by decide +kernel
theorem dX7_readPart_61 : decode cX7_readPart 61 = .ok (.ireturn, 1) := by decide +kernel
theorem dX7_readSign_0 : decode cX7_readSign 0 = .ok (.aload_n 0, 1) := by decide +kernel
theorem dX7_readSign_1 : decode cX7_readSign 1 = .ok (.getfield 18, 3) := by decide +kernel
theorem dX7_readSign_4 : decode cX7_readSign 4 = .ok (.ifCond .lt 32, 3) := by decide +kernel
theorem dX7_readSign_7 : decode cX7_readSign 7 = .ok (.aload_n 0, 1) := by decide +kernel
theorem dX7_readSign_8 : decode cX7_readSign 8 = .ok (.getfield 18, 3) := by decide +kernel
theorem dX7_readSign_11 : decode cX7_readSign 11 = .ok (.aload_n 0, 1) := by decide +kernel
theorem dX7_readSign_12 : decode cX7_readSign 12 = .ok (.getfield 22, 3) := by decide +kernel
theorem dX7_readSign_15 : decode cX7_readSign 15 = .ok (.invokevirtual 26, 3) := by decide +kernel
theorem dX7_readSign_18 : decode cX7_readSign 18 = .ok (.if_icmp .ge 18, 3) := by decide +kernel
theorem dX7_readSign_21 : decode cX7_readSign 21 = .ok (.aload_n 0, 1) := by decide +kernel
theorem dX7_readSign_22 : decode cX7_readSign 22 = .ok (.getfield 22, 3) := by decide +kernel
theorem dX7_readSign_25 : decode cX7_readSign 25 = .ok (.aload_n 0, 1) := by decide +kernel
theorem dX7_readSign_26 : decode cX7_readSign 26 = .ok (.getfield 18, 3) := by decide +kernel
theorem dX7_readSign_29 : decode cX7_readSign 29 = .ok (.invokevirtual 72, 3) := by decide +kernel
theorem dX7_readSign_32 : decode cX7_readSign 32 = .ok (.iload_n 1, 1) := by decide +kernel
theorem dX7_readSign_33 : decode cX7_readSign 33 = .ok (.if_icmp .eq 5, 3) := by decide +kernel
theorem dX7_readSign_36 : decode cX7_readSign 36 = .ok (.iconst 0, 1) := by decide +kernel
theorem dX7_readSign_37 : decode cX7_readSign 37 = .ok (.ireturn, 1) := by decide +kernel
theorem dX7_readSign_38 : decode cX7_readSign 38 = .ok (.aload_n 0, 1) := by decide +kernel
theorem dX7_readSign_39 : decode cX7_readSign 39 = .ok (.dup, 1) := by decide +kernel
theorem dX7_readSign_40 : decode cX7_readSign 40 = .ok (.getfield 18, 3) := by decide +kernel
theorem dX7_readSign_43 : decode cX7_readSign 43 = .ok (.iconst 1, 1) := by decide +kernel
theorem dX7_readSign_44 : decode cX7_readSign 44 = .ok (.iadd, 1) := by decide +kernel
theorem dX7_readSign_45 : decode cX7_readSign 45 = .ok (.putfield 18, 3) := by decide +kernel
theorem dX7_readSign_48 : decode cX7_readSign 48 = .ok (.iconst 1, 1) := by decide +kernel
theorem dX7_readSign_49 : decode cX7_readSign 49 = .ok (.ireturn, 1) := by decide +kernel
theorem dX7_readNumber_0 : decode cX7_readNumber 0 = .ok (.aload_n 0, 1) := by decide +kernel
theorem dX7_readNumber_1 : decode cX7_readNumber 1 = .ok (.getfield 18, 3) := by decide +kernel
theorem dX7_readNumber_4 : decode cX7_readNumber 4 = .ok (.istore_n 3, 1) := by decide +kernel
theorem dX7_readNumber_5 : decode cX7_readNumber 5 = .ok (.aload_n 0, 1) := by decide +kernel
theorem dX7_readNumber_6 : decode cX7_readNumber 6 = .ok (.getfield 22, 3) := by decide +kernel
theorem dX7_readNumber_9 : decode cX7_readNumber 9 = .ok (.invokevirtual 26, 3) := by decide +kernel
theorem dX7_readNumber_12 : decode cX7_readNumber 12 = .ok (.iload_n 3, 1) := by decide +kernel
theorem dX7_readNumber_13 : decode cX7_readNumber 13 = .ok (.iload_n 2, 1) := by decide +kernel
theorem dX7_readNumber_14 : decode cX7_readNumber 14 = .ok (.iadd, 1) := by decide +kernel
theorem dX7_readNumber_15 : decode cX7_readNumber 15 = .ok (.invokestatic 87, 3) := by decide +kernel
theorem dX7_readNumber_18 : decode cX7_readNumber 18 = .ok (.istore 4, 2) := by decide +kernel
theorem dX7_readNumber_20 : decode cX7_readNumber 20 = .ok (.iconst 0, 1) := by decide +kernel
theorem dX7_readNumber_21 : decode cX7_readNumber 21 = .ok (.istore 5, 2) := by decide +kernel
theorem dX7_readNumber_23 : decode cX7_readNumber 23 = .ok (.aload_n 0, 1) := by decide +kernel
theorem dX7_readNumber_24 : decode cX7_readNumber 24 = .ok (.getfield 18, 3) := by decide +kernel
theorem dX7_readNumber_27 : decode cX7_readNumber 27 = .ok (.ifCond .lt 64, 3) := by decide +kernel
theorem dX7_readNumber_30 : decode cX7_readNumber 30 = .ok (.aload_n 0, 1) := by decide +kernel
theorem dX7_readNumber_31 : decode cX7_readNumber 31 = .ok (.getfield 18, 3) := by decide +kernel
theorem dX7_readNumber_34 : decode cX7_readNumber 34 = .ok (.iload 4, 2) := by decide +kernel
theorem dX7_readNumber_36 : decode cX7_readNumber 36 = .ok (.if_icmp .ge 55, 3) := by decide +kernel
theorem dX7_readNumber_39 : decode cX7_readNumber 39 = .ok (.aload_n 0, 1) := by decide +kernel
theorem dX7_readNumber_40 : decode cX7_readNumber 40 = .ok (.getfield 22, 3) := by decide +kernel
theorem dX7_readNumber_43 : decode cX7_readNumber 43 = .ok (.aload_n 0, 1) := by decide +kernel
theorem dX7_readNumber_44 : decode cX7_readNumber 44 = .ok (.getfield 18, 3) := by decide +kernel
theorem dX7_readNumber_47 : decode cX7_readNumber 47 = .ok (.invokevirtual 72, 3) := by decide +kernel
theorem dX7_readNumber_50 : decode cX7_readNumber 50 = .ok (.invokestatic 90, 3) := by decide +kernel
theorem dX7_readNumber_53 : decode cX7_readNumber 53 = .ok (.ifCond .eq 38, 3) := by decide +kernel
theorem dX7_readNumber_56 : decode cX7_readNumber 56 = .ok (.iload 5, 2) := by decide +kernel
theorem dX7_readNumber_58 : decode cX7_readNumber 58 = .ok (.bipush 10, 2) := by decide +kernel
theorem dX7_readNumber_60 : decode cX7_readNumber 60 = .ok (.imul, 1) := by decide +kernel
theorem dX7_readNumber_61 : decode cX7_readNumber 61 = .ok (.aload_n 0, 1) := by decide +kernel
theorem dX7_readNumber_62 : decode cX7_readNumber 62 = .ok (.getfield 22, 3) := by decide +kernel
theorem dX7_readNumber_65 : decode cX7_readNumber 65 = .ok (.aload_n 0, 1) := by decide +kernel
theorem dX7_readNumber_66 : decode cX7_readNumber 66 = .ok (.getfield 18, 3) := by decide +kernel
theorem dX7_readNumber_69 : decode cX7_readNumber 69 = .ok (.invokevirtual 72, 3) := by decide +kernel
theorem dX7_readNumber_72 : decode cX7_readNumber 72 = .ok (.bipush 48, 2) := by decide +kernel
theorem dX7_readNumber_74 : decode cX7_readNumber 74 = .ok (.isub, 1) := by decide +kernel
theorem dX7_readNumber_75 : decode cX7_readNumber 75 = .ok (.iadd, 1) := by decide +kernel
theorem dX7_readNumber_76 : decode cX7_readNumber 76 = .ok (.istore 5, 2) := by decide +kernel
theorem dX7_readNumber_78 : decode cX7_readNumber 78 = .ok (.aload_n 0, 1) := by decide +kernel
theorem dX7_readNumber_79 : decode cX7_readNumber 79 = .ok (.dup, 1) := by decide +kernel
theorem dX7_readNumber_80 : decode cX7_readNumber 80 = .ok (.getfield 18, 3) := by decide +kernel
theorem dX7_readNumber_83 : decode cX7_readNumber 83 = .ok (.iconst 1, 1) := by decide +kernel
theorem dX7_readNumber_84 : decode cX7_readNumber 84 = .ok (.iadd, 1) := by decide +kernel
theorem dX7_readNumber_85 : decode cX7_readNumber 85 = .ok (.putfield 18, 3) := by decide +kernel
theorem dX7_readNumber_88 : decode cX7_readNumber 88 = .ok (.goto (-65), 3) := by decide +kernel
theorem dX7_readNumber_91 : decode cX7_readNumber 91 = .ok (.aload_n 1, 1) := by decide +kernel
theorem dX7_readNumber_92 : decode cX7_readNumber 92 = .ok (.iload 5, 2) := by decide +kernel
theorem dX7_readNumber_94 : decode cX7_readNumber 94 = .ok (.invokevirtual 93, 3) := by decide +kernel
theorem dX7_readNumber_97 : decode cX7_readNumber 97 = .ok (.aload_n 0, 1) := by decide +kernel
theorem dX7_readNumber_98 : decode cX7_readNumber 98 = .ok (.getfield 18, 3) := by decide +kernel
theorem dX7_readNumber_101 : decode cX7_readNumber 101 = .ok (.iload_n 3, 1) := by decide +kernel
theorem dX7_readNumber_102 : decode cX7_readNumber 102 = .ok (.if_icmp .le 7, 3) := by decide +kernel
theorem dX7_readNumber_105 : decode cX7_readNumber 105 = .ok (.iconst 1, 1) := by decide +kernel
theorem dX7_readNumber_106 : decode cX7_readNumber 106 = .ok (.goto 4, 3) := by decide +kernel
theorem dX7_readNumber_109 : decode cX7_readNumber 109 = .ok (.iconst 0, 1) := by decide +kernel
theorem dX7_readNumber_110 : decode cX7_readNumber 110 = .ok (.ireturn, 1) := by decide +kernel
theorem dX7_readMatter_0 : decode cX7_readMatter 0 = .ok (.aload_n 0, 1) := by decide +kernel
theorem dX7_readMatter_1 : decode cX7_readMatter 1 = .ok (.getfield 18, 3) := by decide +kernel
theorem dX7_readMatter_4 : decode cX7_readMatter 4 = .ok (.istore_n 2, 1) := by decide +kernel
theorem dX7_readMatter_5 : decode cX7_readMatter 5 = .ok (.aload_n 0, 1) := by decide +kernel
theorem dX7_readMatter_6 : decode cX7_readMatter 6 = .ok (.getfield 22, 3) := by decide +kernel
theorem dX7_readMatter_9 : decode cX7_readMatter 9 = .ok (.invokevirtual 26, 3) := by decide +kernel
theorem dX7_readMatter_12 : decode cX7_readMatter 12 = .ok (.iload_n 2, 1) := by decide +kernel
theorem dX7_readMatter_13 : decode cX7_readMatter 13 = .ok (.bipush 8, 2) := by decide +kernel
theorem dX7_readMatter_15 : decode cX7_readMatter 15 = .ok (.iadd, 1) := by decide +kernel
theorem dX7_readMatter_16 : decode cX7_readMatter 16 = .ok (.invokestatic 87, 3) := by decide +kernel
theorem dX7_readMatter_19 : decode cX7_readMatter 19 = .ok (.istore_n 3, 1) := by decide +kernel
theorem dX7_readMatter_20 : decode cX7_readMatter 20 = .ok (.aload_n 0, 1) := by decide +kernel
theorem dX7_readMatter_21 : decode cX7_readMatter 21 = .ok (.getfield 18, 3) := by decide +kernel
theorem dX7_readMatter_24 : decode cX7_readMatter 24 = .ok (.ifCond .lt 41, 3) := by decide +kernel
theorem dX7_readMatter_27 : decode cX7_readMatter 27 = .ok (.aload_n 0, 1) := by decide +kernel
theorem dX7_readMatter_28 : decode cX7_readMatter 28 = .ok (.getfield 18, 3) := by decide +kernel
theorem dX7_readMatter_31 : decode cX7_readMatter 31 = .ok (.iload_n 3, 1) := by decide +kernel
theorem dX7_readMatter_32 : decode cX7_readMatter 32 = .ok (.if_icmp .ge 33, 3) := by decide +kernel
theorem dX7_readMatter_35 : decode cX7_readMatter 35 = .ok (.aload_n 0, 1) := by decide +kernel
theorem dX7_readMatter_36 : decode cX7_readMatter 36 = .ok (.getfield 22, 3) := by decide +kernel
theorem dX7_readMatter_39 : decode cX7_readMatter 39 = .ok (.aload_n 0, 1) := by decide +kernel
theorem dX7_readMatter_40 : decode cX7_readMatter 40 = .ok (.getfield 18, 3) := by decide +kernel
theorem dX7_readMatter_43 : decode cX7_readMatter 43 = .ok (.invokevirtual 72, 3) := by decide +kernel
theorem dX7_readMatter_46 : decode cX7_readMatter 46 = .ok (.invokestatic 97, 3) := by decide +kernel
theorem dX7_readMatter_49 : decode cX7_readMatter 49 = .ok (.ifCond .eq 16, 3) := by decide +kernel
theorem dX7_readMatter_52 : decode cX7_readMatter 52 = .ok (.aload_n 0, 1) := by decide +kernel
theorem dX7_readMatter_53 : decode cX7_readMatter 53 = .ok (.dup, 1) := by decide +kernel
theorem dX7_readMatter_54 : decode cX7_readMatter 54 = .ok (.getfield 18, 3) := by decide +kernel
theorem dX7_readMatter_57 : decode cX7_readMatter 57 = .ok (.iconst 1, 1) := by decide +kernel
theorem dX7_readMatter_58 : decode cX7_readMatter 58 = .ok (.iadd, 1) := by decide +kernel
theorem dX7_readMatter_59 : decode cX7_readMatter 59 = .ok (.putfield 18, 3) := by decide +kernel
theorem dX7_readMatter_62 : decode cX7_readMatter 62 = .ok (.goto (-42), 3) := by decide +kernel
theorem dX7_readMatter_65 : decode cX7_readMatter 65 = .ok (.iload_n 2, 1) := by decide +kernel
theorem dX7_readMatter_66 : decode cX7_readMatter 66 = .ok (.ifCond .lt 11, 3) := by decide +kernel
theorem dX7_readMatter_69 : decode cX7_readMatter 69 = .ok (.aload_n 0, 1) := by decide +kernel
theorem dX7_readMatter_70 : decode cX7_readMatter 70 = .ok (.getfield 18, 3) := by decide +kernel
theorem dX7_readMatter_73 : decode cX7_readMatter 73 = .ok (.iload_n 2, 1) := by decide +kernel
theorem dX7_readMatter_74 : decode cX7_readMatter 74 = .ok (.if_icmp .gt 5, 3) := by decide +kernel
theorem dX7_readMatter_77 : decode cX7_readMatter 77 = .ok (.iconst 0, 1) := by decide +kernel
theorem dX7_readMatter_78 : decode cX7_readMatter 78 = .ok (.ireturn, 1) := by decide +kernel
theorem dX7_readMatter_79 : decode cX7_readMatter 79 = .ok (.aload_n 1, 1) := by decide +kernel
theorem dX7_readMatter_80 : decode cX7_readMatter 80 = .ok (.aload_n 0, 1) := by decide +kernel
theorem dX7_readMatter_81 : decode cX7_readMatter 81 = .ok (.getfield 22, 3) := by decide +kernel
theorem dX7_readMatter_84 : decode cX7_readMatter 84 = .ok (.iload_n 2, 1) := by decide +kernel
theorem dX7_readMatter_85 : decode cX7_readMatter 85 = .ok (.aload_n 0, 1) := by decide +kernel
theorem dX7_readMatter_86 : decode cX7_readMatter 86 = .ok (.getfield 18, 3) := by decide +kernel
theorem dX7_readMatter_89 : decode cX7_readMatter 89 = .ok (.invokevirtual 100, 3) := by decide +kernel
theorem dX7_readMatter_92 : decode cX7_readMatter 92 = .ok (.invokevirtual 104, 3) := by decide +kernel
theorem dX7_readMatter_95 : decode cX7_readMatter 95 = .ok (.iconst 1, 1) := by decide +kernel
theorem dX7_readMatter_96 : decode cX7_readMatter 96 = .ok (.ireturn, 1) := by decide +kernel
theorem dX8_init_0 : decode cX8_init 0 = .ok (.aload_n 0, 1) := by decide +kernel
theorem dX8_init_1 : decode cX8_init 1 = .ok (.invokespecial 3, 3) := by decide +kernel
theorem dX8_init_4 : decode cX8_init 4 = .ok (.aload_n 0, 1) := by decide +kernel
theorem dX8_init_5 : decode cX8_init 5 = .ok (.bipush 9, 2) := by decide +kernel
theorem dX8_init_7 : decode cX8_init 7 = .ok (.newarray .int, 2) := by decide +kernel
theorem dX8_init_9 : decode cX8_init 9 = .ok (.putfield 9, 3) := by decide +kernel
theorem dX8_init_12 : decode cX8_init 12 = .ok (.aload_n 0, 1) := by decide +kernel
theorem dX8_init_13 : decode cX8_init 13 = .ok (.sipush 512, 3) := by decide +kernel
theorem dX8_init_16 : decode cX8_init 16 = .ok (.newarray .int, 2) := by decide +kernel
theorem dX8_init_18 : decode cX8_init 18 = .ok (.putfield 15, 3) := by decide +kernel
theorem dX8_init_21 : decode cX8_init 21 = .ok (.aload_n 0, 1) := by decide +kernel
theorem dX8_init_22 : decode cX8_init 22 = .ok (.iconst 0, 1) := by decide +kernel
theorem dX8_init_23 : decode cX8_init 23 = .ok (.putfield 18, 3) := by decide +kernel
theorem dX8_init_26 : decode cX8_init 26 = .ok (.return_, 1) := by decide +kernel
theorem dX8_bySets_0 : decode cX8_bySets 0 = .ok (.aload_n 0, 1) := by decide +kernel
theorem dX8_bySets_1 : decode cX8_bySets 1 = .ok (.aload_n 1, 1) := by decide +kernel
theorem dX8_bySets_2 : decode cX8_bySets 2 = .ok (.invokevirtual 22, 3) := by decide +kernel
theorem dX8_bySets_5 : decode cX8_bySets 5 = .ok (.iconst 0, 1) := by decide +kernel
theorem dX8_bySets_6 : decode cX8_bySets 6 = .ok (.istore_n 2, 1) := by decide +kernel
theorem dX8_bySets_7 : decode cX8_bySets 7 = .ok (.iconst 1, 1) := by decide +kernel
theorem dX8_bySets_8 : decode cX8_bySets 8 = .ok (.istore_n 3, 1) := by decide +kernel
theorem dX8_bySets_9 : decode cX8_bySets 9 = .ok (.iload_n 3, 1) := by decide +kernel
theorem dX8_bySets_10 : decode cX8_bySets 10 = .ok (.iconst 1, 1) := by decide +kernel
theorem dX8_bySets_11 : decode cX8_bySets 11 = .ok (.aload_n 0, 1) := by decide +kernel
theorem dX8_bySets_12 : decode cX8_bySets 12 = .ok (.getfield 18, 3) := by decide +kernel
theorem dX8_bySets_15 : decode cX8_bySets 15 = .ok (.ishl, 1) := by decide +kernel
theorem dX8_bySets_16 : decode cX8_bySets 16 = .ok (.if_icmp .ge 31, 3) := by decide +kernel
theorem dX8_bySets_19 : decode cX8_bySets 19 = .ok (.iload_n 3, 1) := by decide +kernel
theorem dX8_bySets_20 : decode cX8_bySets 20 = .ok (.aload_n 0, 1) := by decide +kernel
theorem dX8_bySets_21 : decode cX8_bySets 21 = .ok (.getfield 15, 3) := by decide +kernel
theorem dX8_bySets_24 : decode cX8_bySets 24 = .ok (.arraylength, 1) := by decide +kernel
theorem dX8_bySets_25 : decode cX8_bySets 25 = .ok (.if_icmp .ge 22, 3) := by decide +kernel
theorem dX8_bySets_28 : decode cX8_bySets 28 = .ok (.aload_n 0, 1) := by decide +kernel
theorem dX8_bySets_29 : decode cX8_bySets 29 = .ok (.iload_n 3, 1) := by decide +kernel
theorem dX8_bySets_30 : decode cX8_bySets 30 = .ok (.invokevirtual 26, 3) := by decide +kernel
theorem dX8_bySets_33 : decode cX8_bySets 33 = .ok (.istore_n 2, 1) := by decide +kernel
theorem dX8_bySets_34 : decode cX8_bySets 34 = .ok (.aload_n 0, 1) := by decide +kernel
theorem dX8_bySets_35 : decode cX8_bySets 35 = .ok (.getfield 15, 3) := by decide +kernel
theorem dX8_bySets_38 : decode cX8_bySets 38 = .ok (.iload_n 3, 1) := by decide +kernel
theorem dX8_bySets_39 : decode cX8_bySets 39 = .ok (.iload_n 2, 1) := by decide +kernel
theorem dX8_bySets_40 : decode cX8_bySets 40 = .ok (.iastore, 1) := by decide +kernel
theorem dX8_bySets_41 : decode cX8_bySets 41 = .ok (.iinc 3 1, 3) := by decide +kernel
theorem dX8_bySets_44 : decode cX8_bySets 44 = .ok (.goto (-35), 3) := by decide +kernel
theorem dX8_bySets_47 : decode cX8_bySets 47 = .ok (.aload_n 0, 1) := by decide +kernel
theorem dX8_bySets_48 : decode cX8_bySets 48 = .ok (.getfield 18, 3) := by decide +kernel
theorem dX8_bySets_51 : decode cX8_bySets 51 = .ok (.iload_n 2, 1) := by decide +kernel
theorem dX8_bySets_52 : decode cX8_bySets 52 = .ok (.isub, 1) := by decide +kernel
theorem dX8_bySets_53 : decode cX8_bySets 53 = .ok (.ireturn, 1) := by decide +kernel
theorem dX8_partsOf_0 : decode cX8_partsOf 0 = .ok (.iconst 0, 1) := by decide +kernel
theorem dX8_partsOf_1 : decode cX8_partsOf 1 = .ok (.istore_n 2, 1) := by decide +kernel
theorem dX8_partsOf_2 : decode cX8_partsOf 2 = .ok (.iconst 0, 1) := by decide +kernel
theorem dX8_partsOf_3 : decode cX8_partsOf 3 = .ok (.istore_n 3, 1) := by decide +kernel
theorem dX8_partsOf_4 : decode cX8_partsOf 4 = .ok (.iconst 0, 1) := by decide +kernel
theorem dX8_partsOf_5 : decode cX8_partsOf 5 = .ok (.istore 4, 2) := by decide +kernel
theorem dX8_partsOf_7 : decode cX8_partsOf 7 = .ok (.iload 4, 2) := by decide +kernel
theorem dX8_partsOf_9 : decode cX8_partsOf 9 = .ok (.aload_n 0, 1) := by decide +kernel
theorem dX8_partsOf_10 : decode cX8_partsOf 10 = .ok (.getfield 9, 3) := by decide +kernel
theorem dX8_partsOf_13 : decode cX8_partsOf 13 = .ok (.arraylength, 1) := by decide +kernel
theorem dX8_partsOf_14 : decode cX8_partsOf 14 = .ok (.if_icmp .ge 62, 3) := by decide +kernel
theorem dX8_partsOf_17 : decode cX8_partsOf 17 = .ok (.iload_n 1, 1) := by decide +kernel
theorem dX8_partsOf_18 : decode cX8_partsOf 18 = .ok (.iconst 1, 1) := by decide +kernel
theorem dX8_partsOf_19 : decode cX8_partsOf 19 = .ok (.iload 4, 2) := by decide +kernel
theorem dX8_partsOf_21 : decode cX8_partsOf 21 = .ok (.ishl, 1) := by decide +kernel
theorem dX8_partsOf_22 : decode cX8_partsOf 22 = .ok (.iconst (-1), 1) := by decide +kernel
theorem dX8_partsOf_23 : decode cX8_partsOf 23 = .ok (.ixor, 1) := by decide +kernel
theorem dX8_partsOf_24 : decode cX8_partsOf 24 = .ok (.iand, 1) := by decide +kernel
theorem dX8_partsOf_25 : decode cX8_partsOf 25 = .ok (.istore 5, 2) := by decide +kernel
theorem dX8_partsOf_27 : decode cX8_partsOf 27 = .ok (.iload 5, 2) := by decide +kernel
theorem dX8_partsOf_29 : decode cX8_partsOf 29 = .ok (.iload_n 1, 1) := by decide +kernel
theorem dX8_partsOf_30 : decode cX8_partsOf 30 = .ok (.if_icmp .eq 40, 3) := by decide +kernel
theorem dX8_partsOf_33 : decode cX8_partsOf 33 = .ok (.iload 5, 2) := by decide +kernel
theorem dX8_partsOf_35 : decode cX8_partsOf 35 = .ok (.ifCond .lt 35, 3) := by decide +kernel
theorem dX8_partsOf_38 : decode cX8_partsOf 38 = .ok (.iload 5, 2) := by decide +kernel
theorem dX8_partsOf_40 : decode cX8_partsOf 40 = .ok (.aload_n 0, 1) := by decide +kernel
theorem dX8_partsOf_41 : decode cX8_partsOf 41 = .ok (.getfield 15, 3) := by decide +kernel
theorem dX8_partsOf_44 : decode cX8_partsOf 44 = .ok (.arraylength, 1) := by decide +kernel
theorem dX8_partsOf_45 : decode cX8_partsOf 45 = .ok (.if_icmp .ge 25, 3) := by decide +kernel
theorem dX8_partsOf_48 : decode cX8_partsOf 48 = .ok (.iload_n 3, 1) := by decide +kernel
theorem dX8_partsOf_49 : decode cX8_partsOf 49 = .ok (.aload_n 0, 1) := by decide +kernel
theorem dX8_partsOf_50 : decode cX8_partsOf 50 = .ok (.getfield 9, 3) := by decide +kernel
theorem dX8_partsOf_53 : decode cX8_partsOf 53 = .ok (.iload 4, 2) := by decide +kernel
theorem dX8_partsOf_55 : decode cX8_partsOf 55 = .ok (.iaload, 1) := by decide +kernel
theorem dX8_partsOf_56 : decode cX8_partsOf 56 = .ok (.iadd, 1) := by decide +kernel
theorem dX8_partsOf_57 : decode cX8_partsOf 57 = .ok (.istore_n 3, 1) := by decide +kernel
theorem dX8_partsOf_58 : decode cX8_partsOf 58 = .ok (.iload_n 2, 1) := by decide +kernel
theorem dX8_partsOf_59 : decode cX8_partsOf 59 = .ok (.aload_n 0, 1) := by decide +kernel
theorem dX8_partsOf_60 : decode cX8_partsOf 60 = .ok (.getfield 15, 3) := by decide +kernel
theorem dX8_partsOf_63 : decode cX8_partsOf 63 = .ok (.iload 5, 2) := by decide +kernel
theorem dX8_partsOf_65 : decode cX8_partsOf 65 = .ok (.iaload, 1) := by decide +kernel
theorem dX8_partsOf_66 : decode cX8_partsOf 66 = .ok (.invokestatic 30, 3) := by decide +kernel
theorem dX8_partsOf_69 : decode cX8_partsOf 69 = .ok (.istore_n 2, 1) := by decide +kernel
theorem dX8_partsOf_70 : decode cX8_partsOf 70 = .ok (.iinc 4 1, 3) := by decide +kernel
theorem dX8_partsOf_73 : decode cX8_partsOf 73 = .ok (.goto (-66), 3) := by decide +kernel
theorem dX8_partsOf_76 : decode cX8_partsOf 76 = .ok (.iload_n 3, 1) := by decide +kernel
theorem dX8_partsOf_77 : decode cX8_partsOf 77 = .ok (.ifCond .ne 9, 3) := by decide +kernel
theorem dX8_partsOf_80 : decode cX8_partsOf 80 = .ok (.iload_n 2, 1) := by decide +kernel
theorem dX8_partsOf_81 : decode cX8_partsOf 81 = .ok (.iconst 1, 1) := by decide +kernel
theorem dX8_partsOf_82 : decode cX8_partsOf 82 = .ok (.iadd, 1) := by decide +kernel
theorem dX8_partsOf_83 : decode cX8_partsOf 83 = .ok (.goto 4, 3) := by decide +kernel
theorem dX8_partsOf_86 : decode cX8_partsOf 86 = .ok (.iload_n 2, 1) := by decide +kernel
theorem dX8_partsOf_87 : decode cX8_partsOf 87 = .ok (.ireturn, 1) := by decide +kernel
theorem dX8_collectAccounts_0 : decode cX8_collectAccounts 0 = .ok (.aload_n 0, 1) := by decide +kernel
theorem dX8_collectAccounts_1 : decode cX8_collectAccounts 1 = .ok (.iconst 0, 1) := by decide +kernel
theorem dX8_collectAccounts_2 : decode cX8_collectAccounts 2 = .ok (.putfield 18, 3) := by decide +kernel
theorem dX8_collectAccounts_5 : decode cX8_collectAccounts 5 = .ok (.aload_n 0, 1) := by decide +kernel
theorem dX8_collectAccounts_6 : decode cX8_collectAccounts 6 = .ok (.aload_n 1, 1) := by decide +kernel
theorem dX8_collectAccounts_7 : decode cX8_collectAccounts 7 = .ok (.getfield 43, 3) := by decide +kernel
theorem dX8_collectAccounts_10 : decode cX8_collectAccounts 10 = .ok (.invokevirtual 48, 3) := by decide +kernel
theorem dX8_collectAccounts_13 : decode cX8_collectAccounts 13 = .ok (.iconst 0, 1) := by decide +kernel
theorem dX8_collectAccounts_14 : decode cX8_collectAccounts 14 = .ok (.istore_n 2, 1) := by decide +kernel
theorem dX8_collectAccounts_15 : decode cX8_collectAccounts 15 = .ok (.iload_n 2, 1) := by decide +kernel
theorem dX8_collectAccounts_16 : decode cX8_collectAccounts 16 = .ok (.aload_n 1, 1) := by decide +kernel
theorem dX8_collectAccounts_17 : decode cX8_collectAccounts 17 = .ok (.getfield 52, 3) := by decide +kernel
theorem dX8_collectAccounts_20 : decode cX8_collectAccounts 20 = .ok (.if_icmp .ge 18, 3) := by decide +kernel
theorem dX8_collectAccounts_23 : decode cX8_collectAccounts 23 = .ok (.aload_n 0, 1) := by decide +kernel
theorem dX8_collectAccounts_24 : decode cX8_collectAccounts 24 = .ok (.aload_n 1, 1) := by decide +kernel
theorem dX8_collectAccounts_25 : decode cX8_collectAccounts 25 = .ok (.iload_n 2, 1) := by decide +kernel
theorem dX8_collectAccounts_26 : decode cX8_collectAccounts 26 = .ok (.invokevirtual 55, 3) := by decide +kernel
theorem dX8_collectAccounts_29 : decode cX8_collectAccounts 29 = .ok (.invokevirtual 48, 3) := by decide +kernel
theorem dX8_collectAccounts_32 : decode cX8_collectAccounts 32 = .ok (.iinc 2 1, 3) := by decide +kernel
theorem dX8_collectAccounts_35 : decode cX8_collectAccounts 35 = .ok (.goto (-20), 3) := by decide +kernel
theorem dX8_collectAccounts_38 : decode cX8_collectAccounts 38 = .ok (.return_, 1) := by decide +kernel
theorem dX8_addAccount_0 : decode cX8_addAccount 0 = .ok (.iload_n 1, 1) := by decide +kernel
theorem dX8_addAccount_1 : decode cX8_addAccount 1 = .ok (.ifCond .eq 35, 3) := by decide +kernel
theorem dX8_addAccount_4 : decode cX8_addAccount 4 = .ok (.aload_n 0, 1) := by decide +kernel
theorem dX8_addAccount_5 : decode cX8_addAccount 5 = .ok (.getfield 18, 3) := by decide +kernel
theorem dX8_addAccount_8 : decode cX8_addAccount 8 = .ok (.aload_n 0, 1) := by decide +kernel
theorem dX8_addAccount_9 : decode cX8_addAccount 9 = .ok (.getfield 9, 3) := by decide +kernel
theorem dX8_addAccount_12 : decode cX8_addAccount 12 = .ok (.arraylength, 1) := by decide +kernel
theorem dX8_addAccount_13 : decode cX8_addAccount 13 = .ok (.if_icmp .ge 23, 3) := by decide +kernel
theorem dX8_addAccount_16 : decode cX8_addAccount 16 = .ok (.aload_n 0, 1) := by decide +kernel
theorem dX8_addAccount_17 : decode cX8_addAccount 17 = .ok (.getfield 9, 3) := by decide +kernel
theorem dX8_addAccount_20 : decode cX8_addAccount 20 = .ok (.aload_n 0, 1) := by decide +kernel
theorem dX8_addAccount_21 : decode cX8_addAccount 21 = .ok (.getfield 18, 3) := by decide +kernel
theorem dX8_addAccount_24 : decode cX8_addAccount 24 = .ok (.iload_n 1, 1) := by decide +kernel
theorem dX8_addAccount_25 : decode cX8_addAccount 25 = .ok (.iastore, 1) := by decide +kernel
theorem dX8_addAccount_26 : decode cX8_addAccount 26 = .ok (.aload_n 0, 1) := by decide +kernel
theorem dX8_addAccount_27 : decode cX8_addAccount 27 = .ok (.dup, 1) := by decide +kernel
theorem dX8_addAccount_28 : decode cX8_addAccount 28 = .ok (.getfield 18, 3) := by decide +kernel
theorem dX8_addAccount_31 : decode cX8_addAccount 31 = .ok (.iconst 1, 1) := by decide +kernel
theorem dX8_addAccount_32 : decode cX8_addAccount 32 = .ok (.iadd, 1) := by decide +kernel
theorem dX8_addAccount_33 : decode cX8_addAccount 33 = .ok (.putfield 18, 3) := by decide +kernel
theorem dX8_addAccount_36 : decode cX8_addAccount 36 = .ok (.return_, 1) := by decide +kernel
theorem dX9_init_0 : decode cX9_init 0 = .ok (.aload_n 0, 1) := by decide +kernel
theorem dX9_init_1 : decode cX9_init 1 = .ok (.invokespecial 3, 3) := by decide +kernel
theorem dX9_init_4 : decode cX9_init 4 = .ok (.aload_n 0, 1) := by decide +kernel
theorem dX9_init_5 : decode cX9_init 5 = .ok (.bipush 8, 2) := by decide +kernel
theorem dX9_init_7 : decode cX9_init 7 = .ok (.newarray .int, 2) := by decide +kernel
theorem dX9_init_9 : decode cX9_init 9 = .ok (.putfield 9, 3) := by decide +kernel
theorem dX9_init_12 : decode cX9_init 12 = .ok (.aload_n 0, 1) := by decide +kernel
theorem dX9_init_13 : decode cX9_init 13 = .ok (.bipush 64, 2) := by decide +kernel
theorem dX9_init_15 : decode cX9_init 15 = .ok (.newarray .int, 2) := by decide +kernel
theorem dX9_init_17 : decode cX9_init 17 = .ok (.putfield 15, 3) := by decide +kernel
theorem dX9_init_20 : decode cX9_init 20 = .ok (.aload_n 0, 1) := by decide +kernel
theorem dX9_init_21 : decode cX9_init 21 = .ok (.new 18, 3) := by decide +kernel
theorem dX9_init_24 : decode cX9_init 24 = .ok (.dup, 1) := by decide +kernel
theorem dX9_init_25 : decode cX9_init 25 = .ok (.invokespecial 20, 3) := by decide +kernel
theorem dX9_init_28 : decode cX9_init 28 = .ok (.putfield 21, 3) := by decide +kernel
theorem dX9_init_31 : decode cX9_init 31 = .ok (.aload_n 0, 1) := by decide +kernel
theorem dX9_init_32 : decode cX9_init 32 = .ok (.new 18, 3) := by decide +kernel
theorem dX9_init_35 : decode cX9_init 35 = .ok (.dup, 1) := by decide +kernel
theorem dX9_init_36 : decode cX9_init 36 = .ok (.invokespecial 20, 3) := by decide +kernel
theorem dX9_init_39 : decode cX9_init 39 = .ok (.putfield 25, 3) := by decide +kernel
theorem dX9_init_42 : decode cX9_init 42 = .ok (.aload_n 0, 1) := by decide +kernel
theorem dX9_init_43 : decode cX9_init 43 = .ok (.iconst 0, 1) := by decide +kernel
theorem dX9_init_44 : decode cX9_init 44 = .ok (.putfield 28, 3) := by decide +kernel
theorem dX9_init_47 : decode cX9_init 47 = .ok (.aload_n 0, 1) := by decide +kernel
theorem dX9_init_48 : decode cX9_init 48 = .ok (.iconst 0, 1) := by decide +kernel
theorem dX9_init_49 : decode cX9_init 49 = .ok (.putfield 32, 3) := by decide +kernel
theorem dX9_init_52 : decode cX9_init 52 = .ok (.aload_n 0, 1) := by decide +kernel
theorem dX9_init_53 : decode cX9_init 53 = .ok (.iconst 0, 1) := by decide +kernel
theorem dX9_init_54 : decode cX9_init 54 = .ok (.putfield 35, 3) := by decide +kernel
theorem dX9_init_57 : decode cX9_init 57 = .ok (.aload_n 0, 1) := by decide +kernel
theorem dX9_init_58 : decode cX9_init 58 = .ok (.iconst 0, 1) := by decide +kernel
theorem dX9_init_59 : decode cX9_init 59 = .ok (.putfield 38, 3) := by decide +kernel
theorem dX9_init_62 : decode cX9_init 62 = .ok (.return_, 1) := by decide +kernel
theorem dX9_copy_0 : decode cX9_copy 0 = .ok (.new 10, 3) := by decide +kernel
theorem dX9_copy_3 : decode cX9_copy 3 = .ok (.dup, 1) := by decide +kernel
theorem dX9_copy_4 : decode cX9_copy 4 = .ok (.invokespecial 41, 3) := by decide +kernel
theorem dX9_copy_7 : decode cX9_copy 7 = .ok (.astore_n 1, 1) := by decide +kernel
theorem dX9_copy_8 : decode cX9_copy 8 = .ok (.aload_n 0, 1) := by decide +kernel
theorem dX9_copy_9 : decode cX9_copy 9 = .ok (.getfield 9, 3) := by decide +kernel
theorem dX9_copy_12 : decode cX9_copy 12 = .ok (.iconst 0, 1) := by decide +kernel
theorem dX9_copy_13 : decode cX9_copy 13 = .ok (.aload_n 1, 1) := by decide +kernel
theorem dX9_copy_14 : decode cX9_copy 14 = .ok (.getfield 9, 3) := by decide +kernel
theorem dX9_copy_17 : decode cX9_copy 17 = .ok (.iconst 0, 1) := by decide +kernel
theorem dX9_copy_18 : decode cX9_copy 18 = .ok (.bipush 8, 2) := by decide +kernel
theorem dX9_copy_20 : decode cX9_copy 20 = .ok (.invokestatic 42, 3) := by decide +kernel
theorem dX9_copy_23 : decode cX9_copy 23 = .ok (.aload_n 0, 1) := by decide +kernel
theorem dX9_copy_24 : decode cX9_copy 24 = .ok (.getfield 15, 3) := by decide +kernel
theorem dX9_copy_27 : decode cX9_copy 27 = .ok (.iconst 0, 1) := by decide +kernel
theorem dX9_copy_28 : decode cX9_copy 28 = .ok (.aload_n 1, 1) := by decide +kernel
theorem dX9_copy_29 : decode cX9_copy 29 = .ok (.getfield 15, 3) := by decide +kernel
theorem dX9_copy_32 : decode cX9_copy 32 = .ok (.iconst 0, 1) := by decide +kernel
theorem dX9_copy_33 : decode cX9_copy 33 = .ok (.bipush 64, 2) := by decide +kernel
theorem dX9_copy_35 : decode cX9_copy 35 = .ok (.invokestatic 42, 3) := by decide +kernel
theorem dX9_copy_38 : decode cX9_copy 38 = .ok (.iconst 0, 1) := by decide +kernel
theorem dX9_copy_39 : decode cX9_copy 39 = .ok (.istore_n 2, 1) := by decide +kernel
theorem dX9_copy_40 : decode cX9_copy 40 = .ok (.iload_n 2, 1) := by decide +kernel
theorem dX9_copy_41 : decode cX9_copy 41 = .ok (.aload_n 0, 1) := by decide +kernel
theorem dX9_copy_42 : decode cX9_copy 42 = .ok (.getfield 21, 3) := by decide +kernel
theorem dX9_copy_45 : decode cX9_copy 45 = .ok (.invokevirtual 48, 3) := by decide +kernel
theorem dX9_copy_48 : decode cX9_copy 48 = .ok (.if_icmp .ge 28, 3) := by decide +kernel
theorem dX9_copy_51 : decode cX9_copy 51 = .ok (.aload_n 1, 1) := by decide +kernel
theorem dX9_copy_52 : decode cX9_copy 52 = .ok (.getfield 21, 3) := by decide +kernel
theorem dX9_copy_55 : decode cX9_copy 55 = .ok (.aload_n 0, 1) := by decide +kernel
theorem dX9_copy_56 : decode cX9_copy 56 = .ok (.getfield 21, 3) := by decide +kernel
theorem dX9_copy_59 : decode cX9_copy 59 = .ok (.iload_n 2, 1) := by decide +kernel
theorem dX9_copy_60 : decode cX9_copy 60 = .ok (.invokevirtual 52, 3) := by decide +kernel
theorem dX9_copy_63 : decode cX9_copy 63 = .ok (.checkcast 56, 3) := by decide +kernel
theorem dX9_copy_66 : decode cX9_copy 66 = .ok (.invokevirtual 58, 3) := by decide +kernel
theorem dX9_copy_69 : decode cX9_copy 69 = .ok (.pop, 1) := by decide +kernel
theorem dX9_copy_70 : decode cX9_copy 70 = .ok (.iinc 2 1, 3) := by decide +kernel
theorem dX9_copy_73 : decode cX9_copy 73 = .ok (.goto (-33), 3) := by decide +kernel
theorem dX9_copy_76 : decode cX9_copy 76 = .ok (.iconst 0, 1) := by decide +kernel
theorem dX9_copy_77 : decode cX9_copy 77 = .ok (.istore_n 2, 1) := by decide +kernel
theorem dX9_copy_78 : decode cX9_copy 78 = .ok (.iload_n 2, 1) := by decide +kernel
theorem dX9_copy_79 : decode cX9_copy 79 = .ok (.aload_n 0, 1) := by decide +kernel
theorem dX9_copy_80 : decode cX9_copy 80 = .ok (.getfield 25, 3) := by decide +kernel
theorem dX9_copy_83 : decode cX9_copy 83 = .ok (.invokevirtual 48, 3) := by decide +kernel
theorem dX9_copy_86 : decode cX9_copy 86 = .ok (.if_icmp .ge 28, 3) := by decide +kernel
theorem dX9_copy_89 : decode cX9_copy 89 = .ok (.aload_n 1, 1) := by decide +kernel
theorem dX9_copy_90 : decode cX9_copy 90 = .ok (.getfield 25, 3) := by decide +kernel
theorem dX9_copy_93 : decode cX9_copy 93 = .ok (.aload_n 0, 1) := by decide +kernel
theorem dX9_copy_94 : decode cX9_copy 94 = .ok (.getfield 25, 3) := by decide +kernel
theorem dX9_copy_97 : decode cX9_copy 97 = .ok (.iload_n 2, 1) := by decide +kernel
theorem dX9_copy_98 : decode cX9_copy 98 = .ok (.invokevirtual 52, 3) := by decide +kernel
theorem dX9_copy_101 : decode cX9_copy 101 = .ok (.checkcast 62, 3) := by decide +kernel
theorem dX9_copy_104 : decode cX9_copy 104 = .ok (.invokevirtual 58, 3) := by decide +kernel
theorem dX9_copy_107 : decode cX9_copy 107 = .ok (.pop, 1) := by decide +kernel
theorem dX9_copy_108 : decode cX9_copy 108 = .ok (.iinc 2 1, 3) := by decide +kernel
theorem dX9_copy_111 : decode cX9_copy 111 = .ok (.goto (-33), 3) := by decide +kernel
theorem dX9_copy_114 : decode cX9_copy 114 = .ok (.aload_n 1, 1) := by decide +kernel
theorem dX9_copy_115 : decode cX9_copy 115 = .ok (.aload_n 0, 1) := by decide +kernel
theorem dX9_copy_116 : decode cX9_copy 116 = .ok (.getfield 28, 3) := by decide +kernel
theorem dX9_copy_119 : decode cX9_copy 119 = .ok (.putfield 28, 3) := by decide +kernel
theorem dX9_copy_122 : decode cX9_copy 122 = .ok (.aload_n 1, 1) := by decide +kernel
theorem dX9_copy_123 : decode cX9_copy 123 = .ok (.aload_n 0, 1) := by decide +kernel
theorem dX9_copy_124 : decode cX9_copy 124 = .ok (.getfield 32, 3) := by decide +kernel
theorem dX9_copy_127 : decode cX9_copy 127 = .ok (.putfield 32, 3) := by decide +kernel
theorem dX9_copy_130 : decode cX9_copy 130 = .ok (.aload_n 1, 1) := by decide +kernel
theorem dX9_copy_131 : decode cX9_copy 131 = .ok (.aload_n 0, 1) := by decide +kernel
theorem dX9_copy_132 : decode cX9_copy 132 = .ok (.getfield 35, 3) := by decide +kernel
theorem dX9_copy_135 : decode cX9_copy 135 = .ok (.putfield 35, 3) := by decide +kernel
theorem dX9_copy_138 : decode cX9_copy 138 = .ok (.aload_n 1, 1) := by decide +kernel
theorem dX9_copy_139 : decode cX9_copy 139 = .ok (.aload_n 0, 1) := by decide +kernel
theorem dX9_copy_140 : decode cX9_copy 140 = .ok (.getfield 38, 3) := by decide +kernel
theorem dX9_copy_143 : decode cX9_copy 143 = .ok (.putfield 38, 3) := by decide +kernel
theorem dX9_copy_146 : decode cX9_copy 146 = .ok (.aload_n 1, 1) := by decide +kernel
theorem dX9_copy_147 : decode cX9_copy 147 = .ok (.areturn, 1) := by decide +kernel
theorem dX9_hasButton_0 : decode cX9_hasButton 0 = .ok (.iload_n 1, 1) := by decide +kernel
theorem dX9_hasButton_1 : decode cX9_hasButton 1 = .ok (.ifCond .lt 15, 3) := by decide +kernel
theorem dX9_hasButton_4 : decode cX9_hasButton 4 = .ok (.iload_n 1, 1) := by decide +kernel
theorem dX9_hasButton_5 : decode cX9_hasButton 5 = .ok (.aload_n 0, 1) := by decide +kernel
theorem dX9_hasButton_6 : decode cX9_hasButton 6 = .ok (.getfield 28, 3) := by decide +kernel
theorem dX9_hasButton_9 : decode cX9_hasButton 9 = .ok (.if_icmp .ge 7, 3) := by decide +kernel
theorem dX9_hasButton_12 : decode cX9_hasButton 12 = .ok (.iconst 1, 1) := by decide +kernel
theorem dX9_hasButton_13 : decode cX9_hasButton 13 = .ok (.goto 4, 3) := by decide +kernel
theorem dX9_hasButton_16 : decode cX9_hasButton 16 = .ok (.iconst 0, 1) := by decide +kernel
theorem dX9_hasButton_17 : decode cX9_hasButton 17 = .ok (.ireturn, 1) := by decide +kernel
theorem dX9_balanceOf_0 : decode cX9_balanceOf 0 = .ok (.iload_n 1, 1) := by decide +kernel
theorem dX9_balanceOf_1 : decode cX9_balanceOf 1 = .ok (.ifCond .lt 21, 3) := by decide +kernel
theorem dX9_balanceOf_4 : decode cX9_balanceOf 4 = .ok (.iload_n 1, 1) := by decide +kernel
theorem dX9_balanceOf_5 : decode cX9_balanceOf 5 = .ok (.aload_n 0, 1) := by decide +kernel
theorem dX9_balanceOf_6 : decode cX9_balanceOf 6 = .ok (.getfield 9, 3) := by decide +kernel
theorem dX9_balanceOf_9 : decode cX9_balanceOf 9 = .ok (.arraylength, 1) := by decide +kernel
theorem dX9_balanceOf_10 : decode cX9_balanceOf 10 = .ok (.if_icmp .ge 12, 3) := by decide +kernel
theorem dX9_balanceOf_13 : decode cX9_balanceOf 13 = .ok (.aload_n 0, 1) := by decide +kernel
theorem dX9_balanceOf_14 : decode cX9_balanceOf 14 = .ok (.getfield 9, 3) := by decide +kernel
theorem dX9_balanceOf_17 : decode cX9_balanceOf 17 = .ok (.iload_n 1, 1) := by decide +kernel
theorem dX9_balanceOf_18 : decode cX9_balanceOf 18 = .ok (.iaload, 1) := by decide +kernel
theorem dX9_balanceOf_19 : decode cX9_balanceOf 19 = .ok (.goto 4, 3) := by decide +kernel
theorem dX9_balanceOf_22 : decode cX9_balanceOf 22 = .ok (.iconst 0, 1) := by decide +kernel
theorem dX9_balanceOf_23 : decode cX9_balanceOf 23 = .ok (.ireturn, 1) := by decide +kernel
theorem dX9_addCoins_0 : decode cX9_addCoins 0 = .ok (.iload_n 1, 1) := by decide +kernel
theorem dX9_addCoins_1 : decode cX9_addCoins 1 = .ok (.ifCond .lt 22, 3) := by decide +kernel
theorem dX9_addCoins_4 : decode cX9_addCoins 4 = .ok (.iload_n 1, 1) := by decide +kernel
theorem dX9_addCoins_5 : decode cX9_addCoins 5 = .ok (.aload_n 0, 1) := by decide +kernel
theorem dX9_addCoins_6 : decode cX9_addCoins 6 = .ok (.getfield 9, 3) := by decide +kernel
theorem dX9_addCoins_9 : decode cX9_addCoins 9 = .ok (.arraylength, 1) := by decide +kernel
theorem dX9_addCoins_10 : decode cX9_addCoins 10 = .ok (.if_icmp .ge 13, 3) := by decide +kernel
theorem dX9_addCoins_13 : decode cX9_addCoins 13 = .ok (.aload_n 0, 1) := by decide +kernel
theorem dX9_addCoins_14 : decode cX9_addCoins 14 = .ok (.getfield 9, 3) := by decide +kernel
theorem dX9_addCoins_17 : decode cX9_addCoins 17 = .ok (.iload_n 1, 1) := by decide +kernel
theorem dX9_addCoins_18 : decode cX9_addCoins 18 = .ok (.dup2, 1) := by decide +kernel
theorem dX9_addCoins_19 : decode cX9_addCoins 19 = .ok (.iaload, 1) := by decide +kernel
theorem dX9_addCoins_20 : decode cX9_addCoins 20 = .ok (.iload_n 2, 1) := by decide +kernel
theorem dX9_addCoins_21 : decode cX9_addCoins 21 = .ok (.iadd, 1) := by decide +kernel
theorem dX9_addCoins_22 : decode cX9_addCoins 22 = .ok (.iastore, 1) := by decide +kernel
theorem dX9_addCoins_23 : decode cX9_addCoins 23 = .ok (.return_, 1) := by decide +kernel
theorem dX9_payToChest_0 : decode cX9_payToChest 0 = .ok (.aload_n 0, 1) := by decide +kernel
theorem dX9_payToChest_1 : decode cX9_payToChest 1 = .ok (.iload_n 1, 1) := by decide +kernel
theorem dX9_payToChest_2 : decode cX9_payToChest 2 = .ok (.iload_n 2, 1) := by decide +kernel
theorem dX9_payToChest_3 : decode cX9_payToChest 3 = .ok (.ineg, 1) := by decide +kernel
theorem dX9_payToChest_4 : decode cX9_payToChest 4 = .ok (.invokevirtual 64, 3) := by decide +kernel
theorem dX9_payToChest_7 : decode cX9_payToChest 7 = .ok (.aload_n 0, 1) := by decide +kernel
theorem dX9_payToChest_8 : decode cX9_payToChest 8 = .ok (.dup, 1) := by decide +kernel
theorem dX9_payToChest_9 : decode cX9_payToChest 9 = .ok (.getfield 32, 3) := by decide +kernel
theorem dX9_payToChest_12 : decode cX9_payToChest 12 = .ok (.iload_n 2, 1) := by decide +kernel
theorem dX9_payToChest_13 : decode cX9_payToChest 13 = .ok (.iadd, 1) := by decide +kernel
theorem dX9_payToChest_14 : decode cX9_payToChest 14 = .ok (.putfield 32, 3) := by decide +kernel
theorem dX9_payToChest_17 : decode cX9_payToChest 17 = .ok (.return_, 1) := by decide +kernel
theorem dX9_tensionBetween_0 : decode cX9_tensionBetween 0 = .ok (.iload_n 1, 1) := by decide +kernel
theorem dX9_tensionBetween_1 : decode cX9_tensionBetween 1 = .ok (.bipush 8, 2) := by decide +kernel
theorem dX9_tensionBetween_3 : decode cX9_tensionBetween 3 = .ok (.imul, 1) := by decide +kernel
theorem dX9_tensionBetween_4 : decode cX9_tensionBetween 4 = .ok (.iload_n 2, 1) := by decide +kernel
theorem dX9_tensionBetween_5 : decode cX9_tensionBetween 5 = .ok (.iadd, 1) := by decide +kernel
theorem dX9_tensionBetween_6 : decode cX9_tensionBetween 6 = .ok (.istore_n 3, 1) := by decide +kernel
theorem dX9_tensionBetween_7 : decode cX9_tensionBetween 7 = .ok (.iload_n 3, 1) := by decide +kernel
theorem dX9_tensionBetween_8 : decode cX9_tensionBetween 8 = .ok (.ifCond .lt 21, 3) := by decide +kernel
theorem dX9_tensionBetween_11 : decode cX9_tensionBetween 11 = .ok (.iload_n 3, 1) := by decide +kernel
theorem dX9_tensionBetween_12 : decode cX9_tensionBetween 12 = .ok (.aload_n 0, 1) := by decide +kernel
theorem dX9_tensionBetween_13 : decode cX9_tensionBetween 13 = .ok (.getfield 15, 3) := by decide +kernel
theorem dX9_tensionBetween_16 : decode cX9_tensionBetween 16 = .ok (.arraylength, 1) := by decide +kernel
theorem dX9_tensionBetween_17 : decode cX9_tensionBetween 17 = .ok (.if_icmp .ge 12, 3) := by decide +kernel
theorem dX9_tensionBetween_20 : decode cX9_tensionBetween 20 = .ok (.aload_n 0, 1) := by decide +kernel
theorem dX9_tensionBetween_21 : decode cX9_tensionBetween 21 = .ok (.getfield 15, 3) := by decide +kernel
theorem dX9_tensionBetween_24 : decode cX9_tensionBetween 24 = .ok (.iload_n 3, 1) := by decide +kernel
theorem dX9_tensionBetween_25 : decode cX9_tensionBetween 25 = .ok (.iaload, 1) := by decide +kernel
theorem dX9_tensionBetween_26 : decode cX9_tensionBetween 26 = .ok (.goto 4, 3) := by decide +kernel
theorem dX9_tensionBetween_29 : decode cX9_tensionBetween 29 = .ok (.iconst 0, 1) := by decide +kernel
theorem dX9_tensionBetween_30 : decode cX9_tensionBetween 30 = .ok (.ireturn, 1) := by decide +kernel
theorem dX9_putTension_0 : decode cX9_putTension 0 = .ok (.aload_n 0, 1) := by decide +kernel
theorem dX9_putTension_1 : decode cX9_putTension 1 = .ok (.iload_n 1, 1) := by decide +kernel
theorem dX9_putTension_2 : decode cX9_putTension 2 = .ok (.bipush 8, 2) := by decide +kernel
theorem dX9_putTension_4 : decode cX9_putTension 4 = .ok (.imul, 1) := by decide +kernel
theorem dX9_putTension_5 : decode cX9_putTension 5 = .ok (.iload_n 2, 1) := by decide +kernel
theorem dX9_putTension_6 : decode cX9_putTension 6 = .ok (.iadd, 1) := by decide +kernel
theorem dX9_putTension_7 : decode cX9_putTension 7 = .ok (.iload_n 3, 1) := by decide +kernel
theorem dX9_putTension_8 : decode cX9_putTension 8 = .ok (.invokevirtual 68, 3) := by decide +kernel
theorem dX9_putTension_11 : decode cX9_putTension 11 = .ok (.aload_n 0, 1) := by decide +kernel
theorem dX9_putTension_12 : decode cX9_putTension 12 = .ok (.iload_n 2, 1) := by decide +kernel
theorem dX9_putTension_13 : decode cX9_putTension 13 = .ok (.bipush 8, 2) := by decide +kernel
theorem dX9_putTension_15 : decode cX9_putTension 15 = .ok (.imul, 1) := by decide +kernel
theorem dX9_putTension_16 : decode cX9_putTension 16 = .ok (.iload_n 1, 1) := by decide +kernel
theorem dX9_putTension_17 : decode cX9_putTension 17 = .ok (.iadd, 1) := by decide +kernel
theorem dX9_putTension_18 : decode cX9_putTension 18 = .ok (.iload_n 3, 1) := by decide +kernel
theorem dX9_putTension_19 : decode cX9_putTension 19 = .ok (.invokevirtual 68, 3) := by decide +kernel
theorem dX9_putTension_22 : decode cX9_putTension 22 = .ok (.return_, 1) := by decide +kernel
theorem dX9_putCell_0 : decode cX9_putCell 0 = .ok (.iload_n 1, 1) := by decide +kernel
theorem dX9_putCell_1 : decode cX9_putCell 1 = .ok (.ifCond .lt 19, 3) := by decide +kernel
theorem dX9_putCell_4 : decode cX9_putCell 4 = .ok (.iload_n 1, 1) := by decide +kernel
theorem dX9_putCell_5 : decode cX9_putCell 5 = .ok (.aload_n 0, 1) := by decide +kernel
theorem dX9_putCell_6 : decode cX9_putCell 6 = .ok (.getfield 15, 3) := by decide +kernel
theorem dX9_putCell_9 : decode cX9_putCell 9 = .ok (.arraylength, 1) := by decide +kernel
theorem dX9_putCell_10 : decode cX9_putCell 10 = .ok (.if_icmp .ge 10, 3) := by decide +kernel
theorem dX9_putCell_13 : decode cX9_putCell 13 = .ok (.aload_n 0, 1) := by decide +kernel
theorem dX9_putCell_14 : decode cX9_putCell 14 = .ok (.getfield 15, 3) := by decide +kernel
theorem dX9_putCell_17 : decode cX9_putCell 17 = .ok (.iload_n 1, 1) := by decide +kernel
theorem dX9_putCell_18 : decode cX9_putCell 18 = .ok (.iload_n 2, 1) := by decide +kernel
theorem dX9_putCell_19 : decode cX9_putCell 19 = .ok (.iastore, 1) := by decide +kernel
theorem dX9_putCell_20 : decode cX9_putCell 20 = .ok (.return_, 1) := by decide +kernel
theorem dX9_bondsOf_0 : decode cX9_bondsOf 0 = .ok (.iconst 0, 1) := by decide +kernel
theorem dX9_bondsOf_1 : decode cX9_bondsOf 1 = .ok (.istore_n 2, 1) := by decide +kernel
theorem dX9_bondsOf_2 : decode cX9_bondsOf 2 = .ok (.iconst 0, 1) := by decide +kernel
theorem dX9_bondsOf_3 : decode cX9_bondsOf 3 = .ok (.istore_n 3, 1) := by decide +kernel
theorem dX9_bondsOf_4 : decode cX9_bondsOf 4 = .ok (.iload_n 3, 1) := by decide +kernel
theorem dX9_bondsOf_5 : decode cX9_bondsOf 5 = .ok (.aload_n 0, 1) := by decide +kernel
theorem dX9_bondsOf_6 : decode cX9_bondsOf 6 = .ok (.getfield 28, 3) := by decide +kernel
theorem dX9_bondsOf_9 : decode cX9_bondsOf 9 = .ok (.if_icmp .ge 21, 3) := by decide +kernel
theorem dX9_bondsOf_12 : decode cX9_bondsOf 12 = .ok (.aload_n 0, 1) := by decide +kernel
theorem dX9_bondsOf_13 : decode cX9_bondsOf 13 = .ok (.iload_n 1, 1) := by decide +kernel
theorem dX9_bondsOf_14 : decode cX9_bondsOf 14 = .ok (.iload_n 3, 1) := by decide +kernel
theorem dX9_bondsOf_15 : decode cX9_bondsOf 15 = .ok (.invokevirtual 71, 3) := by decide +kernel
theorem dX9_bondsOf_18 : decode cX9_bondsOf 18 = .ok (.ifCond .le 6, 3) := by decide +kernel
theorem dX9_bondsOf_21 : decode cX9_bondsOf 21 = .ok (.iinc 2 1, 3) := by decide +kernel
theorem dX9_bondsOf_24 : decode cX9_bondsOf 24 = .ok (.iinc 3 1, 3) := by decide +kernel
theorem dX9_bondsOf_27 : decode cX9_bondsOf 27 = .ok (.goto (-23), 3) := by decide +kernel
theorem dX9_bondsOf_30 : decode cX9_bondsOf 30 = .ok (.iload_n 2, 1) := by decide +kernel
theorem dX9_bondsOf_31 : decode cX9_bondsOf 31 = .ok (.ireturn, 1) := by decide +kernel
theorem dX9_buttonsBefore_0 : decode cX9_buttonsBefore 0 = .ok (.iconst 0, 1) := by decide +kernel
theorem dX9_buttonsBefore_1 : decode cX9_buttonsBefore 1 = .ok (.istore_n 2, 1) := by decide +kernel
theorem dX9_buttonsBefore_2 : decode cX9_buttonsBefore 2 = .ok (.iconst 0, 1) := by decide +kernel
theorem dX9_buttonsBefore_3 : decode cX9_buttonsBefore 3 = .ok (.istore_n 3, 1) := by decide +kernel
theorem dX9_buttonsBefore_4 : decode cX9_buttonsBefore 4 = .ok (.iload_n 3, 1) := by decide +kernel
theorem dX9_buttonsBefore_5 : decode cX9_buttonsBefore 5 = .ok (.aload_n 0, 1) := by decide +kernel
theorem dX9_buttonsBefore_6 : decode cX9_buttonsBefore 6 = .ok (.getfield 28, 3) := by decide +kernel
theorem dX9_buttonsBefore_9 : decode cX9_buttonsBefore 9 = .ok (.if_icmp .ge 21, 3) := by decide +kernel
theorem dX9_buttonsBefore_12 : decode cX9_buttonsBefore 12 = .ok (.aload_n 0, 1) := by decide +kernel
theorem dX9_buttonsBefore_13 : decode cX9_buttonsBefore 13 = .ok (.iload_n 3, 1) := by decide +kernel
theorem dX9_buttonsBefore_14 : decode cX9_buttonsBefore 14 = .ok (.iload_n 1, 1) := by decide +kernel
theorem dX9_buttonsBefore_15 : decode cX9_buttonsBefore 15 = .ok (.invokevirtual 75, 3) := by decide +kernel
theorem dX9_buttonsBefore_18 : decode cX9_buttonsBefore 18 = .ok (.ifCond .eq 6, 3) := by decide +kernel
theorem dX9_buttonsBefore_21 : decode cX9_buttonsBefore 21 = .ok (.iinc 2 1, 3) := by decide +kernel
theorem dX9_buttonsBefore_24 : decode cX9_buttonsBefore 24 = .ok (.iinc 3 1, 3) := by decide +kernel
theorem dX9_buttonsBefore_27 : decode cX9_buttonsBefore 27 = .ok (.goto (-23), 3) := by decide +kernel
theorem dX9_buttonsBefore_30 : decode cX9_buttonsBefore 30 = .ok (.iload_n 2, 1) := by decide +kernel
theorem dX9_buttonsBefore_31 : decode cX9_buttonsBefore 31 = .ok (.ireturn, 1) := by decide +kernel
theorem dX9_buttonRanksBefore_0 : decode cX9_buttonRanksBefore 0 = .ok (.aload_n 0, 1) := by decide +kernel
theorem dX9_buttonRanksBefore_1 : decode cX9_buttonRanksBefore 1 = .ok (.iload_n 1, 1) := by decide +kernel
theorem dX9_buttonRanksBefore_2 : decode cX9_buttonRanksBefore 2 = .ok (.invokevirtual 79, 3) := by decide +kernel
theorem dX9_buttonRanksBefore_5 : decode cX9_buttonRanksBefore 5 = .ok (.aload_n 0, 1) := by decide +kernel
theorem dX9_buttonRanksBefore_6 : decode cX9_buttonRanksBefore 6 = .ok (.iload_n 2, 1) := by decide +kernel
theorem dX9_buttonRanksBefore_7 : decode cX9_buttonRanksBefore 7 = .ok (.invokevirtual 79, 3) := by decide +kernel
theorem dX9_buttonRanksBefore_10 : decode cX9_buttonRanksBefore 10 = .ok (.if_icmp .eq 22, 3) := by decide +kernel
theorem dX9_buttonRanksBefore_13 : decode cX9_buttonRanksBefore 13 = .ok (.aload_n 0, 1) := by decide +kernel
theorem dX9_buttonRanksBefore_14 : decode cX9_buttonRanksBefore 14 = .ok (.iload_n 1, 1) := by decide +kernel
theorem dX9_buttonRanksBefore_15 : decode cX9_buttonRanksBefore 15 = .ok (.invokevirtual 79, 3) := by decide +kernel
theorem dX9_buttonRanksBefore_18 : decode cX9_buttonRanksBefore 18 = .ok (.aload_n 0, 1) := by decide +kernel
theorem dX9_buttonRanksBefore_19 : decode cX9_buttonRanksBefore 19 = .ok (.iload_n 2, 1) := by decide +kernel
theorem dX9_buttonRanksBefore_20 : decode cX9_buttonRanksBefore 20 = .ok (.invokevirtual 79, 3) := by decide +kernel
theorem dX9_buttonRanksBefore_23 : decode cX9_buttonRanksBefore 23 = .ok (.if_icmp .le 7, 3) := by decide +kernel
theorem dX9_buttonRanksBefore_26 : decode cX9_buttonRanksBefore 26 = .ok (.iconst 1, 1) := by decide +kernel
theorem dX9_buttonRanksBefore_27 : decode cX9_buttonRanksBefore 27 = .ok (.goto 4, 3) := by decide +kernel
theorem dX9_buttonRanksBefore_30 : decode cX9_buttonRanksBefore 30 = .ok (.iconst 0, 1) := by decide +kernel
theorem dX9_buttonRanksBefore_31 : decode cX9_buttonRanksBefore 31 = .ok (.ireturn, 1) := by decide +kernel
theorem dX9_buttonRanksBefore_32 : decode cX9_buttonRanksBefore 32 = .ok (.aload_n 0, 1) := by decide +kernel
theorem dX9_buttonRanksBefore_33 : decode cX9_buttonRanksBefore 33 = .ok (.iload_n 1, 1) := by decide +kernel
theorem dX9_buttonRanksBefore_34 : decode cX9_buttonRanksBefore 34 = .ok (.invokevirtual 83, 3) := by decide +kernel
theorem dX9_buttonRanksBefore_37 : decode cX9_buttonRanksBefore 37 = .ok (.aload_n 0, 1) := by decide +kernel
theorem dX9_buttonRanksBefore_38 : decode cX9_buttonRanksBefore 38 = .ok (.iload_n 2, 1) := by decide +kernel
theorem dX9_buttonRanksBefore_39 : decode cX9_buttonRanksBefore 39 = .ok (.invokevirtual 83, 3) := by decide +kernel
theorem dX9_buttonRanksBefore_42 : decode cX9_buttonRanksBefore 42 = .ok (.if_icmp .eq 22, 3) := by decide +kernel
theorem dX9_buttonRanksBefore_45 : decode cX9_buttonRanksBefore 45 = .ok (.aload_n 0, 1) := by decide +kernel
theorem dX9_buttonRanksBefore_46 : decode cX9_buttonRanksBefore 46 = .ok (.iload_n 1, 1) := by decide +kernel
theorem dX9_buttonRanksBefore_47 : decode cX9_buttonRanksBefore 47 = .ok (.invokevirtual 83, 3) := by decide +kernel
theorem dX9_buttonRanksBefore_50 : decode cX9_buttonRanksBefore 50 = .ok (.aload_n 0, 1) := by decide +kernel
theorem dX9_buttonRanksBefore_51 : decode cX9_buttonRanksBefore 51 = .ok (.iload_n 2, 1) := by decide +kernel
theorem dX9_buttonRanksBefore_52 : decode cX9_buttonRanksBefore 52 = .ok (.invokevirtual 83, 3) := by decide +kernel
theorem dX9_buttonRanksBefore_55 : decode cX9_buttonRanksBefore 55 = .ok (.if_icmp .le 7, 3) := by decide +kernel
theorem dX9_buttonRanksBefore_58 : decode cX9_buttonRanksBefore 58 = .ok (.iconst 1, 1) := by decide +kernel
theorem dX9_buttonRanksBefore_59 : decode cX9_buttonRanksBefore 59 = .ok (.goto 4, 3) := by decide +kernel
theorem dX9_buttonRanksBefore_62 : decode cX9_buttonRanksBefore 62 = .ok (.iconst 0, 1) := by decide +kernel
theorem dX9_buttonRanksBefore_63 : decode cX9_buttonRanksBefore 63 = .ok (.ireturn, 1) := by decide +kernel
theorem dX9_buttonRanksBefore_64 : decode cX9_buttonRanksBefore 64 = .ok (.iload_n 1, 1) := by decide +kernel
theorem dX9_buttonRanksBefore_65 : decode cX9_buttonRanksBefore 65 = .ok (.iload_n 2, 1) := by decide +kernel
theorem dX9_buttonRanksBefore_66 : decode cX9_buttonRanksBefore 66 = .ok (.if_icmp .ge 7, 3) := by decide +kernel
theorem dX9_buttonRanksBefore_69 : decode cX9_buttonRanksBefore 69 = .ok (.iconst 1, 1) := by decide +kernel
theorem dX9_buttonRanksBefore_70 : decode cX9_buttonRanksBefore 70 = .ok (.goto 4, 3) := by decide +kernel
theorem dX9_buttonRanksBefore_73 : decode cX9_buttonRanksBefore 73 = .ok (.iconst 0, 1) := by decide +kernel
theorem dX9_buttonRanksBefore_74 : decode cX9_buttonRanksBefore 74 = .ok (.ireturn, 1) := by decide +kernel
theorem dX9_positionOf_0 : decode cX9_positionOf 0 = .ok (.iconst 0, 1) := by decide +kernel
theorem dX9_positionOf_1 : decode cX9_positionOf 1 = .ok (.istore_n 2, 1) := by decide +kernel
theorem dX9_positionOf_2 : decode cX9_positionOf 2 = .ok (.iload_n 2, 1) := by decide +kernel
theorem dX9_positionOf_3 : decode cX9_positionOf 3 = .ok (.aload_n 0, 1) := by decide +kernel
theorem dX9_positionOf_4 : decode cX9_positionOf 4 = .ok (.getfield 21, 3) := by decide +kernel
theorem dX9_positionOf_7 : decode cX9_positionOf 7 = .ok (.invokevirtual 48, 3) := by decide +kernel
theorem dX9_positionOf_10 : decode cX9_positionOf 10 = .ok (.if_icmp .ge 29, 3) := by decide +kernel
theorem dX9_positionOf_13 : decode cX9_positionOf 13 = .ok (.aload_n 0, 1) := by decide +kernel
theorem dX9_positionOf_14 : decode cX9_positionOf 14 = .ok (.getfield 21, 3) := by decide +kernel
theorem dX9_positionOf_17 : decode cX9_positionOf 17 = .ok (.iload_n 2, 1) := by decide +kernel
theorem dX9_positionOf_18 : decode cX9_positionOf 18 = .ok (.invokevirtual 52, 3) := by decide +kernel
theorem dX9_positionOf_21 : decode cX9_positionOf 21 = .ok (.checkcast 56, 3) := by decide +kernel
theorem dX9_positionOf_24 : decode cX9_positionOf 24 = .ok (.getfield 86, 3) := by decide +kernel
theorem dX9_positionOf_27 : decode cX9_positionOf 27 = .ok (.iload_n 1, 1) := by decide +kernel
theorem dX9_positionOf_28 : decode cX9_positionOf 28 = .ok (.if_icmp .ne 5, 3) := by decide +kernel
theorem dX9_positionOf_31 : decode cX9_positionOf 31 = .ok (.iload_n 2, 1) := by decide +kernel
theorem dX9_positionOf_32 : decode cX9_positionOf 32 = .ok (.ireturn, 1) := by decide +kernel
theorem dX9_positionOf_33 : decode cX9_positionOf 33 = .ok (.iinc 2 1, 3) := by decide +kernel
theorem dX9_positionOf_36 : decode cX9_positionOf 36 = .ok (.goto (-34), 3) := by decide +kernel
theorem dX9_positionOf_39 : decode cX9_positionOf 39 = .ok (.iconst (-1), 1) := by decide +kernel
theorem dX9_positionOf_40 : decode cX9_positionOf 40 = .ok (.ireturn, 1) := by decide +kernel
theorem dX9_casesBefore_0 : decode cX9_casesBefore 0 = .ok (.iconst 0, 1) := by decide +kernel
theorem dX9_casesBefore_1 : decode cX9_casesBefore 1 = .ok (.istore_n 2, 1) := by decide +kernel
theorem dX9_casesBefore_2 : decode cX9_casesBefore 2 = .ok (.iconst 0, 1) := by decide +kernel
theorem dX9_casesBefore_3 : decode cX9_casesBefore 3 = .ok (.istore_n 3, 1) := by decide +kernel
theorem dX9_casesBefore_4 : decode cX9_casesBefore 4 = .ok (.iload_n 3, 1) := by decide +kernel
theorem dX9_casesBefore_5 : decode cX9_casesBefore 5 = .ok (.aload_n 0, 1) := by decide +kernel
theorem dX9_casesBefore_6 : decode cX9_casesBefore 6 = .ok (.getfield 21, 3) := by decide +kernel
theorem dX9_casesBefore_9 : decode cX9_casesBefore 9 = .ok (.invokevirtual 48, 3) := by decide +kernel
theorem dX9_casesBefore_12 : decode cX9_casesBefore 12 = .ok (.if_icmp .ge 30, 3) := by decide +kernel
theorem dX9_casesBefore_15 : decode cX9_casesBefore 15 = .ok (.aload_n 0, 1) := by decide +kernel
theorem dX9_casesBefore_16 : decode cX9_casesBefore 16 = .ok (.getfield 21, 3) := by decide +kernel
theorem dX9_casesBefore_19 : decode cX9_casesBefore 19 = .ok (.iload_n 3, 1) := by decide +kernel
theorem dX9_casesBefore_20 : decode cX9_casesBefore 20 = .ok (.invokevirtual 52, 3) := by decide +kernel
theorem dX9_casesBefore_23 : decode cX9_casesBefore 23 = .ok (.checkcast 56, 3) := by decide +kernel
theorem dX9_casesBefore_26 : decode cX9_casesBefore 26 = .ok (.aload_n 1, 1) := by decide +kernel
theorem dX9_casesBefore_27 : decode cX9_casesBefore 27 = .ok (.invokevirtual 89, 3) := by decide +kernel
theorem dX9_casesBefore_30 : decode cX9_casesBefore 30 = .ok (.ifCond .eq 6, 3) := by decide +kernel
theorem dX9_casesBefore_33 : decode cX9_casesBefore 33 = .ok (.iinc 2 1, 3) := by decide +kernel
theorem dX9_casesBefore_36 : decode cX9_casesBefore 36 = .ok (.iinc 3 1, 3) := by decide +kernel
theorem dX9_casesBefore_39 : decode cX9_casesBefore 39 = .ok (.goto (-35), 3) := by decide +kernel
theorem dX9_casesBefore_42 : decode cX9_casesBefore 42 = .ok (.iload_n 2, 1) := by decide +kernel
theorem dX9_casesBefore_43 : decode cX9_casesBefore 43 = .ok (.ireturn, 1) := by decide +kernel
theorem dX10_init_0 : decode cX10_init 0 = .ok (.aload_n 0, 1) := by decide +kernel
theorem dX10_init_1 : decode cX10_init 1 = .ok (.invokespecial 3, 3) := by decide +kernel
theorem dX10_init_4 : decode cX10_init 4 = .ok (.aload_n 0, 1) := by decide +kernel
theorem dX10_init_5 : decode cX10_init 5 = .ok (.bipush 8, 2) := by decide +kernel
theorem dX10_init_7 : decode cX10_init 7 = .ok (.newarray .int, 2) := by decide +kernel
theorem dX10_init_9 : decode cX10_init 9 = .ok (.putfield 9, 3) := by decide +kernel
theorem dX10_init_12 : decode cX10_init 12 = .ok (.aload_n 0, 1) := by decide +kernel
theorem dX10_init_13 : decode cX10_init 13 = .ok (.bipush 64, 2) := by decide +kernel
theorem dX10_init_15 : decode cX10_init 15 = .ok (.newarray .int, 2) := by decide +kernel
theorem dX10_init_17 : decode cX10_init 17 = .ok (.putfield 15, 3) := by decide +kernel
theorem dX10_init_20 : decode cX10_init 20 = .ok (.aload_n 0, 1) := by decide +kernel
theorem dX10_init_21 : decode cX10_init 21 = .ok (.bipush 8, 2) := by decide +kernel
theorem dX10_init_23 : decode cX10_init 23 = .ok (.newarray .boolean, 2) := by decide +kernel
theorem dX10_init_25 : decode cX10_init 25 = .ok (.putfield 18, 3) := by decide +kernel
theorem dX10_init_28 : decode cX10_init 28 = .ok (.return_, 1) := by decide +kernel
theorem dX10_strainByJoining_0 : decode cX10_strainByJoining 0 = .ok (.aload_n 1, 1) := by decide +kernel
theorem dX10_strainByJoining_1 : decode cX10_strainByJoining 1 = .ok (.iload_n 2, 1) := by decide +kernel
theorem dX10_strainByJoining_2 : decode cX10_strainByJoining 2 = .ok (.invokevirtual 22, 3) := by decide +kernel
theorem dX10_strainByJoining_5 : decode cX10_strainByJoining 5 = .ok (.ifCond .eq 11, 3) := by decide +kernel
theorem dX10_strainByJoining_8 : decode cX10_strainByJoining 8 = .ok (.aload_n 1, 1) := by decide +kernel
theorem dX10_strainByJoining_9 : decode cX10_strainByJoining 9 = .ok (.iload_n 3, 1) := by decide +kernel
theorem dX10_strainByJoining_10 : decode cX10_strainByJoining 10 = .ok (.invokevirtual 22, 3) := by decide +kernel
theorem dX10_strainByJoining_13 : decode cX10_strainByJoining 13 = .ok (.ifCond .ne 6, 3) := by decide +kernel
theorem dX10_strainByJoining_16 : decode cX10_strainByJoining 16 = .ok (.bipush 25, 2) := by decide +kernel
theorem dX10_strainByJoining_18 : decode cX10_strainByJoining 18 = .ok (.ireturn, 1) := by decide +kernel
theorem dX10_strainByJoining_19 : decode cX10_strainByJoining 19 = .ok (.aload_n 0, 1) := by decide +kernel
theorem dX10_strainByJoining_20 : decode cX10_strainByJoining 20 = .ok (.invokevirtual 28, 3) := by decide +kernel
theorem dX10_strainByJoining_23 : decode cX10_strainByJoining 23 = .ok (.iconst 1, 1) := by decide +kernel
theorem dX10_strainByJoining_24 : decode cX10_strainByJoining 24 = .ok (.istore 4, 2) := by decide +kernel
theorem dX10_strainByJoining_26 : decode cX10_strainByJoining 26 = .ok (.iload 4, 2) := by decide +kernel
theorem dX10_strainByJoining_28 : decode cX10_strainByJoining 28 = .ok (.bipush 20, 2) := by decide +kernel
theorem dX10_strainByJoining_30 : decode cX10_strainByJoining 30 = .ok (.if_icmp .gt 33, 3) := by decide +kernel
theorem dX10_strainByJoining_33 : decode cX10_strainByJoining 33 = .ok (.aload_n 0, 1) := by decide +kernel
theorem dX10_strainByJoining_34 : decode cX10_strainByJoining 34 = .ok (.aload_n 1, 1) := by decide +kernel
theorem dX10_strainByJoining_35 : decode cX10_strainByJoining 35 = .ok (.iload 4, 2) := by decide +kernel
theorem dX10_strainByJoining_37 : decode cX10_strainByJoining 37 = .ok (.invokevirtual 31, 3) := by decide +kernel
theorem dX10_strainByJoining_40 : decode cX10_strainByJoining 40 = .ok (.pop, 1) := by decide +kernel
theorem dX10_strainByJoining_41 : decode cX10_strainByJoining 41 = .ok (.aload_n 0, 1) := by decide +kernel
theorem dX10_strainByJoining_42 : decode cX10_strainByJoining 42 = .ok (.iload_n 2, 1) := by decide +kernel
theorem dX10_strainByJoining_43 : decode cX10_strainByJoining 43 = .ok (.invokevirtual 35, 3) := by decide +kernel
theorem dX10_strainByJoining_46 : decode cX10_strainByJoining 46 = .ok (.aload_n 0, 1) := by decide +kernel
theorem dX10_strainByJoining_47 : decode cX10_strainByJoining 47 = .ok (.iload_n 3, 1) := by decide +kernel
theorem dX10_strainByJoining_48 : decode cX10_strainByJoining 48 = .ok (.invokevirtual 35, 3) := by decide +kernel
theorem dX10_strainByJoining_51 : decode cX10_strainByJoining 51 = .ok (.if_icmp .ne 6, 3) := by decide +kernel
theorem dX10_strainByJoining_54 : decode cX10_strainByJoining 54 = .ok (.iload 4, 2) := by decide +kernel
theorem dX10_strainByJoining_56 : decode cX10_strainByJoining 56 = .ok (.ireturn, 1) := by decide +kernel
theorem dX10_strainByJoining_57 : decode cX10_strainByJoining 57 = .ok (.iinc 4 1, 3) := by decide +kernel
theorem dX10_strainByJoining_60 : decode cX10_strainByJoining 60 = .ok (.goto (-34), 3) := by decide +kernel
theorem dX10_strainByJoining_63 : decode cX10_strainByJoining 63 = .ok (.bipush 25, 2) := by decide +kernel
theorem dX10_strainByJoining_65 : decode cX10_strainByJoining 65 = .ok (.ireturn, 1) := by decide +kernel
theorem dX10_forestByJoining_0 : decode cX10_forestByJoining 0 = .ok (.aload_n 0, 1) := by decide +kernel
theorem dX10_forestByJoining_1 : decode cX10_forestByJoining 1 = .ok (.invokevirtual 28, 3) := by decide +kernel
theorem dX10_forestByJoining_4 : decode cX10_forestByJoining 4 = .ok (.iconst 0, 1) := by decide +kernel
theorem dX10_forestByJoining_5 : decode cX10_forestByJoining 5 = .ok (.istore_n 2, 1) := by decide +kernel
theorem dX10_forestByJoining_6 : decode cX10_forestByJoining 6 = .ok (.iconst 1, 1) := by decide +kernel
theorem dX10_forestByJoining_7 : decode cX10_forestByJoining 7 = .ok (.istore_n 3, 1) := by decide +kernel
theorem dX10_forestByJoining_8 : decode cX10_forestByJoining 8 = .ok (.iload_n 3, 1) := by decide +kernel
theorem dX10_forestByJoining_9 : decode cX10_forestByJoining 9 = .ok (.bipush 20, 2) := by decide +kernel
theorem dX10_forestByJoining_11 : decode cX10_forestByJoining 11 = .ok (.if_icmp .gt 20, 3) := by decide +kernel
theorem dX10_forestByJoining_14 : decode cX10_forestByJoining 14 = .ok (.iload_n 2, 1) := by decide +kernel
theorem dX10_forestByJoining_15 : decode cX10_forestByJoining 15 = .ok (.iload_n 3, 1) := by decide +kernel
theorem dX10_forestByJoining_16 : decode cX10_forestByJoining 16 = .ok (.aload_n 0, 1) := by decide +kernel
theorem dX10_forestByJoining_17 : decode cX10_forestByJoining 17 = .ok (.aload_n 1, 1) := by decide +kernel
theorem dX10_forestByJoining_18 : decode cX10_forestByJoining 18 = .ok (.iload_n 3, 1) := by decide +kernel
theorem dX10_forestByJoining_19 : decode cX10_forestByJoining 19 = .ok (.invokevirtual 31, 3) := by decide +kernel
theorem dX10_forestByJoining_22 : decode cX10_forestByJoining 22 = .ok (.imul, 1) := by decide +kernel
theorem dX10_forestByJoining_23 : decode cX10_forestByJoining 23 = .ok (.iadd, 1) := by decide +kernel
theorem dX10_forestByJoining_24 : decode cX10_forestByJoining 24 = .ok (.istore_n 2, 1) := by decide +kernel
theorem dX10_forestByJoining_25 : decode cX10_forestByJoining 25 = .ok (.iinc 3 1, 3) := by decide +kernel
theorem dX10_forestByJoining_28 : decode cX10_forestByJoining 28 = .ok (.goto (-20), 3) := by decide +kernel
theorem dX10_forestByJoining_31 : decode cX10_forestByJoining 31 = .ok (.iload_n 2, 1) := by decide +kernel
theorem dX10_forestByJoining_32 : decode cX10_forestByJoining 32 = .ok (.ireturn, 1) := by decide +kernel
theorem dX10_separateAll_0 : decode cX10_separateAll 0 = .ok (.iconst 0, 1) := by decide +kernel
theorem dX10_separateAll_1 : decode cX10_separateAll 1 = .ok (.istore_n 1, 1) := by decide +kernel
theorem dX10_separateAll_2 : decode cX10_separateAll 2 = .ok (.iload_n 1, 1) := by decide +kernel
theorem dX10_separateAll_3 : decode cX10_separateAll 3 = .ok (.aload_n 0, 1) := by decide +kernel
theorem dX10_separateAll_4 : decode cX10_separateAll 4 = .ok (.getfield 9, 3) := by decide +kernel
theorem dX10_separateAll_7 : decode cX10_separateAll 7 = .ok (.arraylength, 1) := by decide +kernel
theorem dX10_separateAll_8 : decode cX10_separateAll 8 = .ok (.if_icmp .ge 16, 3) := by decide +kernel
theorem dX10_separateAll_11 : decode cX10_separateAll 11 = .ok (.aload_n 0, 1) := by decide +kernel
theorem dX10_separateAll_12 : decode cX10_separateAll 12 = .ok (.getfield 9, 3) := by decide +kernel
theorem dX10_separateAll_15 : decode cX10_separateAll 15 = .ok (.iload_n 1, 1) := by decide +kernel
theorem dX10_separateAll_16 : decode cX10_separateAll 16 = .ok (.iload_n 1, 1) := by decide +kernel
theorem dX10_separateAll_17 : decode cX10_separateAll 17 = .ok (.iastore, 1) := by decide +kernel
theorem dX10_separateAll_18 : decode cX10_separateAll 18 = .ok (.iinc 1 1, 3) := by decide +kernel
theorem dX10_separateAll_21 : decode cX10_separateAll 21 = .ok (.goto (-19), 3) := by decide +kernel
theorem dX10_separateAll_24 : decode cX10_separateAll 24 = .ok (.return_, 1) := by decide +kernel
theorem dX10_groupOf_0 : decode cX10_groupOf 0 = .ok (.iload_n 1, 1) := by decide +kernel
theorem dX10_groupOf_1 : decode cX10_groupOf 1 = .ok (.ifCond .lt 21, 3) := by decide +kernel
theorem dX10_groupOf_4 : decode cX10_groupOf 4 = .ok (.iload_n 1, 1) := by decide +kernel
theorem dX10_groupOf_5 : decode cX10_groupOf 5 = .ok (.aload_n 0, 1) := by decide +kernel
theorem dX10_groupOf_6 : decode cX10_groupOf 6 = .ok (.getfield 9, 3) := by decide +kernel
theorem dX10_groupOf_9 : decode cX10_groupOf 9 = .ok (.arraylength, 1) := by decide +kernel
theorem dX10_groupOf_10 : decode cX10_groupOf 10 = .ok (.if_icmp .ge 12, 3) := by decide +kernel
theorem dX10_groupOf_13 : decode cX10_groupOf 13 = .ok (.aload_n 0, 1) := by decide +kernel
theorem dX10_groupOf_14 : decode cX10_groupOf 14 = .ok (.getfield 9, 3) := by decide +kernel
theorem dX10_groupOf_17 : decode cX10_groupOf 17 = .ok (.iload_n 1, 1) := by decide +kernel
theorem dX10_groupOf_18 : decode cX10_groupOf 18 = .ok (.iaload, 1) := by decide +kernel
theorem dX10_groupOf_19 : decode cX10_groupOf 19 = .ok (.goto 4, 3) := by decide +kernel
theorem dX10_groupOf_22 : decode cX10_groupOf 22 = .ok (.iconst (-1), 1) := by decide +kernel
theorem dX10_groupOf_23 : decode cX10_groupOf 23 = .ok (.ireturn, 1) := by decide +kernel
theorem dX10_joinBonds_0 : decode cX10_joinBonds 0 = .ok (.iconst 0, 1) := by decide +kernel
theorem dX10_joinBonds_1 : decode cX10_joinBonds 1 = .ok (.istore_n 3, 1) := by decide +kernel
theorem dX10_joinBonds_2 : decode cX10_joinBonds 2 = .ok (.iconst 0, 1) := by decide +kernel
theorem dX10_joinBonds_3 : decode cX10_joinBonds 3 = .ok (.istore 4, 2) := by decide +kernel
theorem dX10_joinBonds_5 : decode cX10_joinBonds 5 = .ok (.iload 4, 2) := by decide +kernel
theorem dX10_joinBonds_7 : decode cX10_joinBonds 7 = .ok (.aload_n 1, 1) := by decide +kernel
theorem dX10_joinBonds_8 : decode cX10_joinBonds 8 = .ok (.getfield 39, 3) := by decide +kernel
theorem dX10_joinBonds_11 : decode cX10_joinBonds 11 = .ok (.if_icmp .ge 76, 3) := by decide +kernel
theorem dX10_joinBonds_14 : decode cX10_joinBonds 14 = .ok (.iload 4, 2) := by decide +kernel
theorem dX10_joinBonds_16 : decode cX10_joinBonds 16 = .ok (.iconst 1, 1) := by decide +kernel
theorem dX10_joinBonds_17 : decode cX10_joinBonds 17 = .ok (.iadd, 1) := by decide +kernel
theorem dX10_joinBonds_18 : decode cX10_joinBonds 18 = .ok (.istore 5, 2) := by decide +kernel
theorem dX10_joinBonds_20 : decode cX10_joinBonds 20 = .ok (.iload 5, 2) := by decide +kernel
theorem dX10_joinBonds_22 : decode cX10_joinBonds 22 = .ok (.aload_n 1, 1) := by decide +kernel
theorem dX10_joinBonds_23 : decode cX10_joinBonds 23 = .ok (.getfield 39, 3) := by decide +kernel
theorem dX10_joinBonds_26 : decode cX10_joinBonds 26 = .ok (.if_icmp .ge 55, 3) := by decide +kernel
theorem dX10_joinBonds_29 : decode cX10_joinBonds 29 = .ok (.aload_n 1, 1) := by decide +kernel
theorem dX10_joinBonds_30 : decode cX10_joinBonds 30 = .ok (.iload 4, 2) := by decide +kernel
theorem dX10_joinBonds_32 : decode cX10_joinBonds 32 = .ok (.iload 5, 2) := by decide +kernel
theorem dX10_joinBonds_34 : decode cX10_joinBonds 34 = .ok (.invokevirtual 43, 3) := by decide +kernel
theorem dX10_joinBonds_37 : decode cX10_joinBonds 37 = .ok (.iload_n 2, 1) := by decide +kernel
theorem dX10_joinBonds_38 : decode cX10_joinBonds 38 = .ok (.if_icmp .ne 37, 3) := by decide +kernel
theorem dX10_joinBonds_41 : decode cX10_joinBonds 41 = .ok (.aload_n 0, 1) := by decide +kernel
theorem dX10_joinBonds_42 : decode cX10_joinBonds 42 = .ok (.iload 4, 2) := by decide +kernel
theorem dX10_joinBonds_44 : decode cX10_joinBonds 44 = .ok (.invokevirtual 35, 3) := by decide +kernel
theorem dX10_joinBonds_47 : decode cX10_joinBonds 47 = .ok (.aload_n 0, 1) := by decide +kernel
theorem dX10_joinBonds_48 : decode cX10_joinBonds 48 = .ok (.iload 5, 2) := by decide +kernel
theorem dX10_joinBonds_50 : decode cX10_joinBonds 50 = .ok (.invokevirtual 35, 3) := by decide +kernel
theorem dX10_joinBonds_53 : decode cX10_joinBonds 53 = .ok (.if_icmp .eq 22, 3) := by decide +kernel
theorem dX10_joinBonds_56 : decode cX10_joinBonds 56 = .ok (.aload_n 0, 1) := by decide +kernel
theorem dX10_joinBonds_57 : decode cX10_joinBonds 57 = .ok (.aload_n 0, 1) := by decide +kernel
theorem dX10_joinBonds_58 : decode cX10_joinBonds 58 = .ok (.iload 4, 2) := by decide +kernel
theorem dX10_joinBonds_60 : decode cX10_joinBonds 60 = .ok (.invokevirtual 35, 3) := by decide +kernel
theorem dX10_joinBonds_63 : decode cX10_joinBonds 63 = .ok (.aload_n 0, 1) := by decide +kernel
theorem dX10_joinBonds_64 : decode cX10_joinBonds 64 = .ok (.iload 5, 2) := by decide +kernel
theorem dX10_joinBonds_66 : decode cX10_joinBonds 66 = .ok (.invokevirtual 35, 3) := by decide +kernel
theorem dX10_joinBonds_69 : decode cX10_joinBonds 69 = .ok (.invokevirtual 47, 3) := by decide +kernel
theorem dX10_joinBonds_72 : decode cX10_joinBonds 72 = .ok (.iinc 3 1, 3) := by decide +kernel
theorem dX10_joinBonds_75 : decode cX10_joinBonds 75 = .ok (.iinc 5 1, 3) := by decide +kernel
theorem dX10_joinBonds_78 : decode cX10_joinBonds 78 = .ok (.goto (-58), 3) := by decide +kernel
theorem dX10_joinBonds_81 : decode cX10_joinBonds 81 = .ok (.iinc 4 1, 3) := by decide +kernel
theorem dX10_joinBonds_84 : decode cX10_joinBonds 84 = .ok (.goto (-79), 3) := by decide +kernel
theorem dX10_joinBonds_87 : decode cX10_joinBonds 87 = .ok (.iload_n 3, 1) := by decide +kernel
theorem dX10_joinBonds_88 : decode cX10_joinBonds 88 = .ok (.ireturn, 1) := by decide +kernel
theorem dX10_joinGroups_0 : decode cX10_joinGroups 0 = .ok (.iconst 0, 1) := by decide +kernel
theorem dX10_joinGroups_1 : decode cX10_joinGroups 1 = .ok (.istore_n 3, 1) := by decide +kernel
theorem dX10_joinGroups_2 : decode cX10_joinGroups 2 = .ok (.iload_n 3, 1) := by decide +kernel
theorem dX10_joinGroups_3 : decode cX10_joinGroups 3 = .ok (.aload_n 0, 1) := by decide +kernel
theorem dX10_joinGroups_4 : decode cX10_joinGroups 4 = .ok (.getfield 9, 3) := by decide +kernel
theorem dX10_joinGroups_7 : decode cX10_joinGroups 7 = .ok (.arraylength, 1) := by decide +kernel
theorem dX10_joinGroups_8 : decode cX10_joinGroups 8 = .ok (.if_icmp .ge 26, 3) := by decide +kernel
theorem dX10_joinGroups_11 : decode cX10_joinGroups 11 = .ok (.aload_n 0, 1) := by decide +kernel
theorem dX10_joinGroups_12 : decode cX10_joinGroups 12 = .ok (.getfield 9, 3) := by decide +kernel
theorem dX10_joinGroups_15 : decode cX10_joinGroups 15 = .ok (.iload_n 3, 1) := by decide +kernel
theorem dX10_joinGroups_16 : decode cX10_joinGroups 16 = .ok (.iaload, 1) := by decide +kernel
theorem dX10_joinGroups_17 : decode cX10_joinGroups 17 = .ok (.iload_n 2, 1) := by decide +kernel
theorem dX10_joinGroups_18 : decode cX10_joinGroups 18 = .ok (.if_icmp .ne 10, 3) := by decide +kernel
theorem dX10_joinGroups_21 : decode cX10_joinGroups 21 = .ok (.aload_n 0, 1) := by decide +kernel
theorem dX10_joinGroups_22 : decode cX10_joinGroups 22 = .ok (.getfield 9, 3) := by decide +kernel
theorem dX10_joinGroups_25 : decode cX10_joinGroups 25 = .ok (.iload_n 3, 1) := by decide +kernel
theorem dX10_joinGroups_26 : decode cX10_joinGroups 26 = .ok (.iload_n 1, 1) := by decide +kernel
theorem dX10_joinGroups_27 : decode cX10_joinGroups 27 = .ok (.iastore, 1) := by decide +kernel
theorem dX10_joinGroups_28 : decode cX10_joinGroups 28 = .ok (.iinc 3 1, 3) := by decide +kernel
theorem dX10_joinGroups_31 : decode cX10_joinGroups 31 = .ok (.goto (-29), 3) := by decide +kernel
theorem dX10_joinGroups_34 : decode cX10_joinGroups 34 = .ok (.return_, 1) := by decide +kernel
theorem dX10_strainFromTable_0 : decode cX10_strainFromTable 0 = .ok (.iconst 0, 1) := by decide +kernel
theorem dX10_strainFromTable_1 : decode cX10_strainFromTable 1 = .ok (.istore 4, 2) := by decide +kernel
theorem dX10_strainFromTable_3 : decode cX10_strainFromTable 3 = .ok (.iload 4, 2) := by decide +kernel
theorem dX10_strainFromTable_5 : decode cX10_strainFromTable 5 = .ok (.aload_n 0, 1) := by decide +kernel
theorem dX10_strainFromTable_6 : decode cX10_strainFromTable 6 = .ok (.getfield 15, 3) := by decide +kernel
theorem dX10_strainFromTable_9 : decode cX10_strainFromTable 9 = .ok (.arraylength, 1) := by decide +kernel
theorem dX10_strainFromTable_10 : decode cX10_strainFromTable 10 = .ok (.if_icmp .ge 44, 3) := by decide +kernel
theorem dX10_strainFromTable_13 : decode cX10_strainFromTable 13 = .ok (.aload_n 1, 1) := by decide +kernel
theorem dX10_strainFromTable_14 : decode cX10_strainFromTable 14 = .ok (.iload 4, 2) := by decide +kernel
theorem dX10_strainFromTable_16 : decode cX10_strainFromTable 16 = .ok (.bipush 8, 2) := by decide +kernel
theorem dX10_strainFromTable_18 : decode cX10_strainFromTable 18 = .ok (.idiv, 1) := by decide +kernel
theorem dX10_strainFromTable_19 : decode cX10_strainFromTable 19 = .ok (.iload 4, 2) := by decide +kernel
theorem dX10_strainFromTable_21 : decode cX10_strainFromTable 21 = .ok (.bipush 8, 2) := by decide +kernel
theorem dX10_strainFromTable_23 : decode cX10_strainFromTable 23 = .ok (.irem, 1) := by decide +kernel
theorem dX10_strainFromTable_24 : decode cX10_strainFromTable 24 = .ok (.invokevirtual 43, 3) := by decide +kernel
theorem dX10_strainFromTable_27 : decode cX10_strainFromTable 27 = .ok (.istore 5, 2) := by decide +kernel
theorem dX10_strainFromTable_29 : decode cX10_strainFromTable 29 = .ok (.aload_n 0, 1) := by decide +kernel
theorem dX10_strainFromTable_30 : decode cX10_strainFromTable 30 = .ok (.getfield 15, 3) := by decide +kernel
theorem dX10_strainFromTable_33 : decode cX10_strainFromTable 33 = .ok (.iload 4, 2) := by decide +kernel
theorem dX10_strainFromTable_35 : decode cX10_strainFromTable 35 = .ok (.iload 5, 2) := by decide +kernel
theorem dX10_strainFromTable_37 : decode cX10_strainFromTable 37 = .ok (.ifCond .le 8, 3) := by decide +kernel
theorem dX10_strainFromTable_40 : decode cX10_strainFromTable 40 = .ok (.iload 5, 2) := by decide +kernel
theorem dX10_strainFromTable_42 : decode cX10_strainFromTable 42 = .ok (.goto 5, 3) := by decide +kernel
theorem dX10_strainFromTable_45 : decode cX10_strainFromTable 45 = .ok (.bipush 25, 2) := by decide +kernel
theorem dX10_strainFromTable_47 : decode cX10_strainFromTable 47 = .ok (.iastore, 1) := by decide +kernel
theorem dX10_strainFromTable_48 : decode cX10_strainFromTable 48 = .ok (.iinc 4 1, 3) := by decide +kernel
theorem dX10_strainFromTable_51 : decode cX10_strainFromTable 51 = .ok (.goto (-48), 3) := by decide +kernel
theorem dX10_strainFromTable_54 : decode cX10_strainFromTable 54 = .ok (.iconst 0, 1) := by decide +kernel
theorem dX10_strainFromTable_55 : decode cX10_strainFromTable 55 = .ok (.istore 4, 2) := by decide +kernel
theorem dX10_strainFromTable_57 : decode cX10_strainFromTable 57 = .ok (.iload 4, 2) := by decide +kernel
theorem dX10_strainFromTable_59 : decode cX10_strainFromTable 59 = .ok (.aload_n 1, 1) := by decide +kernel
theorem dX10_strainFromTable_60 : decode cX10_strainFromTable 60 = .ok (.getfield 39, 3) := by decide +kernel
theorem dX10_strainFromTable_63 : decode cX10_strainFromTable 63 = .ok (.if_icmp .ge 74, 3) := by decide +kernel
theorem dX10_strainFromTable_66 : decode cX10_strainFromTable 66 = .ok (.iconst 0, 1) := by decide +kernel
theorem dX10_strainFromTable_67 : decode cX10_strainFromTable 67 = .ok (.istore 5, 2) := by decide +kernel
theorem dX10_strainFromTable_69 : decode cX10_strainFromTable 69 = .ok (.iload 5, 2) := by decide +kernel
theorem dX10_strainFromTable_71 : decode cX10_strainFromTable 71 = .ok (.aload_n 0, 1) := by decide +kernel
theorem dX10_strainFromTable_72 : decode cX10_strainFromTable 72 = .ok (.getfield 15, 3) := by decide +kernel
theorem dX10_strainFromTable_75 : decode cX10_strainFromTable 75 = .ok (.arraylength, 1) := by decide +kernel
theorem dX10_strainFromTable_76 : decode cX10_strainFromTable 76 = .ok (.if_icmp .ge 55, 3) := by decide +kernel
theorem dX10_strainFromTable_79 : decode cX10_strainFromTable 79 = .ok (.aload_n 0, 1) := by decide +kernel
theorem dX10_strainFromTable_80 : decode cX10_strainFromTable 80 = .ok (.iload 5, 2) := by decide +kernel
theorem dX10_strainFromTable_82 : decode cX10_strainFromTable 82 = .ok (.bipush 8, 2) := by decide +kernel
theorem dX10_strainFromTable_84 : decode cX10_strainFromTable 84 = .ok (.idiv, 1) := by decide +kernel
theorem dX10_strainFromTable_85 : decode cX10_strainFromTable 85 = .ok (.iload 4, 2) := by decide +kernel
theorem dX10_strainFromTable_87 : decode cX10_strainFromTable 87 = .ok (.invokevirtual 51, 3) := by decide +kernel
theorem dX10_strainFromTable_90 : decode cX10_strainFromTable 90 = .ok (.aload_n 0, 1) := by decide +kernel
theorem dX10_strainFromTable_91 : decode cX10_strainFromTable 91 = .ok (.iload 4, 2) := by decide +kernel
theorem dX10_strainFromTable_93 : decode cX10_strainFromTable 93 = .ok (.iload 5, 2) := by decide +kernel
theorem dX10_strainFromTable_95 : decode cX10_strainFromTable 95 = .ok (.bipush 8, 2) := by decide +kernel
theorem dX10_strainFromTable_97 : decode cX10_strainFromTable 97 = .ok (.irem, 1) := by decide +kernel
theorem dX10_strainFromTable_98 : decode cX10_strainFromTable 98 = .ok (.invokevirtual 51, 3) := by decide +kernel
theorem dX10_strainFromTable_101 : decode cX10_strainFromTable 101 = .ok (.invokestatic 54, 3) := by decide +kernel
theorem dX10_strainFromTable_104 : decode cX10_strainFromTable 104 = .ok (.istore 6, 2) := by decide +kernel
theorem dX10_strainFromTable_106 : decode cX10_strainFromTable 106 = .ok (.aload_n 0, 1) := by decide +kernel
theorem dX10_strainFromTable_107 : decode cX10_strainFromTable 107 = .ok (.getfield 15, 3) := by decide +kernel
theorem dX10_strainFromTable_110 : decode cX10_strainFromTable 110 = .ok (.iload 5, 2) := by decide +kernel
theorem dX10_strainFromTable_112 : decode cX10_strainFromTable 112 = .ok (.aload_n 0, 1) := by decide +kernel
theorem dX10_strainFromTable_113 : decode cX10_strainFromTable 113 = .ok (.getfield 15, 3) := by decide +kernel
theorem dX10_strainFromTable_116 : decode cX10_strainFromTable 116 = .ok (.iload 5, 2) := by decide +kernel
theorem dX10_strainFromTable_118 : decode cX10_strainFromTable 118 = .ok (.iaload, 1) := by decide +kernel
theorem dX10_strainFromTable_119 : decode cX10_strainFromTable 119 = .ok (.iload 6, 2) := by decide +kernel
theorem dX10_strainFromTable_121 : decode cX10_strainFromTable 121 = .ok (.invokestatic 59, 3) := by decide +kernel
theorem dX10_strainFromTable_124 : decode cX10_strainFromTable 124 = .ok (.iastore, 1) := by decide +kernel
theorem dX10_strainFromTable_125 : decode cX10_strainFromTable 125 = .ok (.iinc 5 1, 3) := by decide +kernel
theorem dX10_strainFromTable_128 : decode cX10_strainFromTable 128 = .ok (.goto (-59), 3) := by decide +kernel
theorem dX10_strainFromTable_131 : decode cX10_strainFromTable 131 = .ok (.iinc 4 1, 3) := by decide +kernel
theorem dX10_strainFromTable_134 : decode cX10_strainFromTable 134 = .ok (.goto (-77), 3) := by decide +kernel
theorem dX10_strainFromTable_137 : decode cX10_strainFromTable 137 = .ok (.aload_n 0, 1) := by decide +kernel
theorem dX10_strainFromTable_138 : decode cX10_strainFromTable 138 = .ok (.iload_n 2, 1) := by decide +kernel
theorem dX10_strainFromTable_139 : decode cX10_strainFromTable 139 = .ok (.iload_n 3, 1) := by decide +kernel
theorem dX10_strainFromTable_140 : decode cX10_strainFromTable 140 = .ok (.invokevirtual 51, 3) := by decide +kernel
theorem dX10_strainFromTable_143 : decode cX10_strainFromTable 143 = .ok (.ireturn, 1) := by decide +kernel
theorem dX10_strainAt_0 : decode cX10_strainAt 0 = .ok (.iload_n 1, 1) := by decide +kernel
theorem dX10_strainAt_1 : decode cX10_strainAt 1 = .ok (.bipush 8, 2) := by decide +kernel
theorem dX10_strainAt_3 : decode cX10_strainAt 3 = .ok (.imul, 1) := by decide +kernel
theorem dX10_strainAt_4 : decode cX10_strainAt 4 = .ok (.iload_n 2, 1) := by decide +kernel
theorem dX10_strainAt_5 : decode cX10_strainAt 5 = .ok (.iadd, 1) := by decide +kernel
theorem dX10_strainAt_6 : decode cX10_strainAt 6 = .ok (.istore_n 3, 1) := by decide +kernel
theorem dX10_strainAt_7 : decode cX10_strainAt 7 = .ok (.iload_n 3, 1) := by decide +kernel
theorem dX10_strainAt_8 : decode cX10_strainAt 8 = .ok (.ifCond .lt 21, 3) := by decide +kernel
theorem dX10_strainAt_11 : decode cX10_strainAt 11 = .ok (.iload_n 3, 1) := by decide +kernel
theorem dX10_strainAt_12 : decode cX10_strainAt 12 = .ok (.aload_n 0, 1) := by decide +kernel
theorem dX10_strainAt_13 : decode cX10_strainAt 13 = .ok (.getfield 15, 3) := by decide +kernel
theorem dX10_strainAt_16 : decode cX10_strainAt 16 = .ok (.arraylength, 1) := by decide +kernel
theorem dX10_strainAt_17 : decode cX10_strainAt 17 = .ok (.if_icmp .ge 12, 3) := by decide +kernel
theorem dX10_strainAt_20 : decode cX10_strainAt 20 = .ok (.aload_n 0, 1) := by decide +kernel
theorem dX10_strainAt_21 : decode cX10_strainAt 21 = .ok (.getfield 15, 3) := by decide +kernel
theorem dX10_strainAt_24 : decode cX10_strainAt 24 = .ok (.iload_n 3, 1) := by decide +kernel
theorem dX10_strainAt_25 : decode cX10_strainAt 25 = .ok (.iaload, 1) := by decide +kernel
theorem dX10_strainAt_26 : decode cX10_strainAt 26 = .ok (.goto 5, 3) := by decide +kernel
theorem dX10_strainAt_29 : decode cX10_strainAt 29 = .ok (.bipush 25, 2) := by decide +kernel
theorem dX10_strainAt_31 : decode cX10_strainAt 31 = .ok (.ireturn, 1) := by decide +kernel
theorem dX12_init_0 : decode cX12_init 0 = .ok (.aload_n 0, 1) := by decide +kernel
theorem dX12_init_1 : decode cX12_init 1 = .ok (.invokespecial 1, 3) := by decide +kernel
theorem dX12_init_4 : decode cX12_init 4 = .ok (.aload_n 0, 1) := by decide +kernel
theorem dX12_init_5 : decode cX12_init 5 = .ok (.new 7, 3) := by decide +kernel
theorem dX12_init_8 : decode cX12_init 8 = .ok (.dup, 1) := by decide +kernel
theorem dX12_init_9 : decode cX12_init 9 = .ok (.invokespecial 9, 3) := by decide +kernel
theorem dX12_init_12 : decode cX12_init 12 = .ok (.putfield 10, 3) := by decide +kernel
theorem dX12_init_15 : decode cX12_init 15 = .ok (.aload_n 0, 1) := by decide +kernel
theorem dX12_init_16 : decode cX12_init 16 = .ok (.aload_n 0, 1) := by decide +kernel
theorem dX12_init_17 : decode cX12_init 17 = .ok (.getfield 10, 3) := by decide +kernel
theorem dX12_init_20 : decode cX12_init 20 = .ok (.putfield 16, 3) := by decide +kernel
theorem dX12_init_23 : decode cX12_init 23 = .ok (.aload_n 0, 1) := by decide +kernel
theorem dX12_init_24 : decode cX12_init 24 = .ok (.iconst 0, 1) := by decide +kernel
theorem dX12_init_25 : decode cX12_init 25 = .ok (.putfield 19, 3) := by decide +kernel
theorem dX12_init_28 : decode cX12_init 28 = .ok (.aload_n 0, 1) := by decide +kernel
theorem dX12_init_29 : decode cX12_init 29 = .ok (.new 23, 3) := by decide +kernel
theorem dX12_init_32 : decode cX12_init 32 = .ok (.dup, 1) := by decide +kernel
theorem dX12_init_33 : decode cX12_init 33 = .ok (.invokespecial 25, 3) := by decide +kernel
theorem dX12_init_36 : decode cX12_init 36 = .ok (.putfield 26, 3) := by decide +kernel
theorem dX12_init_39 : decode cX12_init 39 = .ok (.aload_n 0, 1) := by decide +kernel
theorem dX12_init_40 : decode cX12_init 40 = .ok (.new 30, 3) := by decide +kernel
theorem dX12_init_43 : decode cX12_init 43 = .ok (.dup, 1) := by decide +kernel
theorem dX12_init_44 : decode cX12_init 44 = .ok (.invokespecial 32, 3) := by decide +kernel
theorem dX12_init_47 : decode cX12_init 47 = .ok (.putfield 33, 3) := by decide +kernel
theorem dX12_init_50 : decode cX12_init 50 = .ok (.aload_n 0, 1) := by decide +kernel
theorem dX12_init_51 : decode cX12_init 51 = .ok (.new 30, 3) := by decide +kernel
theorem dX12_init_54 : decode cX12_init 54 = .ok (.dup, 1) := by decide +kernel
theorem dX12_init_55 : decode cX12_init 55 = .ok (.invokespecial 32, 3) := by decide +kernel
theorem dX12_init_58 : decode cX12_init 58 = .ok (.putfield 37, 3) := by decide +kernel
theorem dX12_init_61 : decode cX12_init 61 = .ok (.aload_n 0, 1) := by decide +kernel
theorem dX12_init_62 : decode cX12_init 62 = .ok (.new 30, 3) := by decide +kernel
theorem dX12_init_65 : decode cX12_init 65 = .ok (.dup, 1) := by decide +kernel
theorem dX12_init_66 : decode cX12_init 66 = .ok (.invokespecial 32, 3) := by decide +kernel
theorem dX12_init_69 : decode cX12_init 69 = .ok (.putfield 40, 3) := by decide +kernel
theorem dX12_init_72 : decode cX12_init 72 = .ok (.aload_n 0, 1) := by decide +kernel
theorem dX12_init_73 : decode cX12_init 73 = .ok (.iconst (-1), 1) := by decide +kernel
theorem dX12_init_74 : decode cX12_init 74 = .ok (.putfield 43, 3) := by decide +kernel
theorem dX12_init_77 : decode cX12_init 77 = .ok (.aload_n 0, 1) := by decide +kernel
theorem dX12_init_78 : decode cX12_init 78 = .ok (.iconst (-1), 1) := by decide +kernel
theorem dX12_init_79 : decode cX12_init 79 = .ok (.putfield 47, 3) := by decide +kernel
theorem dX12_init_82 : decode cX12_init 82 = .ok (.aload_n 0, 1) := by decide +kernel
theorem dX12_init_83 : decode cX12_init 83 = .ok (.new 50, 3) := by decide +kernel
theorem dX12_init_86 : decode cX12_init 86 = .ok (.dup, 1) := by decide +kernel
theorem dX12_init_87 : decode cX12_init 87 = .ok (.invokespecial 52, 3) := by decide +kernel
theorem dX12_init_90 : decode cX12_init 90 = .ok (.putfield 53, 3) := by decide +kernel
theorem dX12_init_93 : decode cX12_init 93 = .ok (.aload_n 0, 1) := by decide +kernel
theorem dX12_init_94 : decode cX12_init 94 = .ok (.new 57, 3) := by decide +kernel
theorem dX12_init_97 : decode cX12_init 97 = .ok (.dup, 1) := by decide +kernel
theorem dX12_init_98 : decode cX12_init 98 = .ok (.invokespecial 59, 3) := by decide +kernel
theorem dX12_init_101 : decode cX12_init 101 = .ok (.putfield 60, 3) := by decide +kernel
theorem dX12_init_104 : decode cX12_init 104 = .ok (.aload_n 0, 1) := by decide +kernel
theorem dX12_init_105 : decode cX12_init 105 = .ok (.new 64, 3) := by decide +kernel
theorem dX12_init_108 : decode cX12_init 108 = .ok (.dup, 1) := by decide +kernel
theorem dX12_init_109 : decode cX12_init 109 = .ok (.invokespecial 66, 3) := by decide +kernel
theorem dX12_init_112 : decode cX12_init 112 = .ok (.putfield 67, 3) := by decide +kernel
theorem dX12_init_115 : decode cX12_init 115 = .ok (.return_, 1) := by decide +kernel
theorem dX12_addButton_0 : decode cX12_addButton 0 = .ok (.aload_n 0, 1) := by decide +kernel
theorem dX12_addButton_1 : decode cX12_addButton 1 = .ok (.getfield 10, 3) := by decide +kernel
theorem dX12_addButton_4 : decode cX12_addButton 4 = .ok (.invokevirtual 71, 3) := by decide +kernel
theorem dX12_addButton_7 : decode cX12_addButton 7 = .ok (.astore_n 1, 1) := by decide +kernel
theorem dX12_addButton_8 : decode cX12_addButton 8 = .ok (.aload_n 0, 1) := by decide +kernel
theorem dX12_addButton_9 : decode cX12_addButton 9 = .ok (.aload_n 1, 1) := by decide +kernel
theorem dX12_addButton_10 : decode cX12_addButton 10 = .ok (.aload_n 0, 1) := by decide +kernel
theorem dX12_addButton_11 : decode cX12_addButton 11 = .ok (.getfield 53, 3) := by decide +kernel
theorem dX12_addButton_14 : decode cX12_addButton 14 = .ok (.aload_n 1, 1) := by decide +kernel
theorem dX12_addButton_15 : decode cX12_addButton 15 = .ok (.invokevirtual 75, 3) := by decide +kernel
theorem dX12_addButton_18 : decode cX12_addButton 18 = .ok (.invokevirtual 79, 3) := by decide +kernel
theorem dX12_addButton_21 : decode cX12_addButton 21 = .ok (.ireturn, 1) := by decide +kernel
theorem dX12_setBond_0 : decode cX12_setBond 0 = .ok (.aload_n 0, 1) := by decide +kernel
theorem dX12_setBond_1 : decode cX12_setBond 1 = .ok (.getfield 10, 3) := by decide +kernel
theorem dX12_setBond_4 : decode cX12_setBond 4 = .ok (.invokevirtual 71, 3) := by decide +kernel
theorem dX12_setBond_7 : decode cX12_setBond 7 = .ok (.astore 4, 2) := by decide +kernel
theorem dX12_setBond_9 : decode cX12_setBond 9 = .ok (.aload_n 0, 1) := by decide +kernel
theorem dX12_setBond_10 : decode cX12_setBond 10 = .ok (.aload 4, 2) := by decide +kernel
theorem dX12_setBond_12 : decode cX12_setBond 12 = .ok (.aload_n 0, 1) := by decide +kernel
theorem dX12_setBond_13 : decode cX12_setBond 13 = .ok (.getfield 53, 3) := by decide +kernel
theorem dX12_setBond_16 : decode cX12_setBond 16 = .ok (.aload 4, 2) := by decide +kernel
theorem dX12_setBond_18 : decode cX12_setBond 18 = .ok (.iload_n 1, 1) := by decide +kernel
theorem dX12_setBond_19 : decode cX12_setBond 19 = .ok (.iload_n 2, 1) := by decide +kernel
theorem dX12_setBond_20 : decode cX12_setBond 20 = .ok (.iload_n 3, 1) := by decide +kernel
theorem dX12_setBond_21 : decode cX12_setBond 21 = .ok (.invokevirtual 83, 3) := by decide +kernel
theorem dX12_setBond_24 : decode cX12_setBond 24 = .ok (.invokevirtual 79, 3) := by decide +kernel
theorem dX12_setBond_27 : decode cX12_setBond 27 = .ok (.ireturn, 1) := by decide +kernel
theorem dX12_cutBond_0 : decode cX12_cutBond 0 = .ok (.aload_n 0, 1) := by decide +kernel
theorem dX12_cutBond_1 : decode cX12_cutBond 1 = .ok (.getfield 10, 3) := by decide +kernel
theorem dX12_cutBond_4 : decode cX12_cutBond 4 = .ok (.invokevirtual 71, 3) := by decide +kernel
theorem dX12_cutBond_7 : decode cX12_cutBond 7 = .ok (.astore_n 3, 1) := by decide +kernel
theorem dX12_cutBond_8 : decode cX12_cutBond 8 = .ok (.aload_n 0, 1) := by decide +kernel
theorem dX12_cutBond_9 : decode cX12_cutBond 9 = .ok (.aload_n 3, 1) := by decide +kernel
theorem dX12_cutBond_10 : decode cX12_cutBond 10 = .ok (.aload_n 0, 1) := by decide +kernel
theorem dX12_cutBond_11 : decode cX12_cutBond 11 = .ok (.getfield 53, 3) := by decide +kernel
theorem dX12_cutBond_14 : decode cX12_cutBond 14 = .ok (.aload_n 3, 1) := by decide +kernel
theorem dX12_cutBond_15 : decode cX12_cutBond 15 = .ok (.iload_n 1, 1) := by decide +kernel
theorem dX12_cutBond_16 : decode cX12_cutBond 16 = .ok (.iload_n 2, 1) := by decide +kernel
theorem dX12_cutBond_17 : decode cX12_cutBond 17 = .ok (.invokevirtual 87, 3) := by decide +kernel
theorem dX12_cutBond_20 : decode cX12_cutBond 20 = .ok (.invokevirtual 79, 3) := by decide +kernel
theorem dX12_cutBond_23 : decode cX12_cutBond 23 = .ok (.ireturn, 1) := by decide +kernel
theorem dX12_addPrecedent_0 : decode cX12_addPrecedent 0 = .ok (.aload_n 0, 1) := by decide +kernel
theorem dX12_addPrecedent_1 : decode cX12_addPrecedent 1 = .ok (.getfield 10, 3) := by decide +kernel
theorem dX12_addPrecedent_4 : decode cX12_addPrecedent 4 = .ok (.invokevirtual 71, 3) := by decide +kernel
theorem dX12_addPrecedent_7 : decode cX12_addPrecedent 7 = .ok (.astore_n 2, 1) := by decide +kernel
theorem dX12_addPrecedent_8 : decode cX12_addPrecedent 8 = .ok (.aload_n 0, 1) := by decide +kernel
theorem dX12_addPrecedent_9 : decode cX12_addPrecedent 9 = .ok (.aload_n 2, 1) := by decide +kernel
theorem dX12_addPrecedent_10 : decode cX12_addPrecedent 10 = .ok (.aload_n 0, 1) := by decide +kernel
theorem dX12_addPrecedent_11 : decode cX12_addPrecedent 11 = .ok (.getfield 53, 3) := by decide +kernel
theorem dX12_addPrecedent_14 : decode cX12_addPrecedent 14 = .ok (.aload_n 2, 1) := by decide +kernel
theorem dX12_addPrecedent_15 : decode cX12_addPrecedent 15 = .ok (.iload_n 1, 1) := by decide +kernel
theorem dX12_addPrecedent_16 : decode cX12_addPrecedent 16 = .ok (.aload_n 0, 1) := by decide +kernel
theorem dX12_addPrecedent_17 : decode cX12_addPrecedent 17 = .ok (.getfield 33, 3) := by decide +kernel
theorem dX12_addPrecedent_20 : decode cX12_addPrecedent 20 = .ok (.invokevirtual 91, 3) := by decide +kernel
theorem dX12_addPrecedent_23 : decode cX12_addPrecedent 23 = .ok (.invokevirtual 95, 3) := by decide +kernel
theorem dX12_addPrecedent_26 : decode cX12_addPrecedent 26 = .ok (.invokevirtual 79, 3) := by decide +kernel
theorem dX12_addPrecedent_29 : decode cX12_addPrecedent 29 = .ok (.istore_n 3, 1) := by decide +kernel
theorem dX12_addPrecedent_30 : decode cX12_addPrecedent 30 = .ok (.aload_n 0, 1) := by decide +kernel
theorem dX12_addPrecedent_31 : decode cX12_addPrecedent 31 = .ok (.getfield 33, 3) := by decide +kernel
theorem dX12_addPrecedent_34 : decode cX12_addPrecedent 34 = .ok (.iconst 0, 1) := by decide +kernel
theorem dX12_addPrecedent_35 : decode cX12_addPrecedent 35 = .ok (.invokevirtual 99, 3) := by decide +kernel
theorem dX12_addPrecedent_38 : decode cX12_addPrecedent 38 = .ok (.iload_n 3, 1) := by decide +kernel
theorem dX12_addPrecedent_39 : decode cX12_addPrecedent 39 = .ok (.ireturn, 1) := by decide +kernel
theorem dX12_fileCase_0 : decode cX12_fileCase 0 = .ok (.aload_n 0, 1) := by decide +kernel
theorem dX12_fileCase_1 : decode cX12_fileCase 1 = .ok (.getfield 10, 3) := by decide +kernel
theorem dX12_fileCase_4 : decode cX12_fileCase 4 = .ok (.invokevirtual 71, 3) := by decide +kernel
theorem dX12_fileCase_7 : decode cX12_fileCase 7 = .ok (.astore 6, 2) := by decide +kernel
theorem dX12_fileCase_9 : decode cX12_fileCase 9 = .ok (.aload_n 0, 1) := by decide +kernel
theorem dX12_fileCase_10 : decode cX12_fileCase 10 = .ok (.getfield 33, 3) := by decide +kernel
theorem dX12_fileCase_13 : decode cX12_fileCase 13 = .ok (.invokevirtual 91, 3) := by decide +kernel
theorem dX12_fileCase_16 : decode cX12_fileCase 16 = .ok (.astore 7, 2) := by decide +kernel
theorem dX12_fileCase_18 : decode cX12_fileCase 18 = .ok (.aload_n 0, 1) := by decide +kernel
theorem dX12_fileCase_19 : decode cX12_fileCase 19 = .ok (.aload 6, 2) := by decide +kernel
theorem dX12_fileCase_21 : decode cX12_fileCase 21 = .ok (.aload_n 0, 1) := by decide +kernel
theorem dX12_fileCase_22 : decode cX12_fileCase 22 = .ok (.getfield 53, 3) := by decide +kernel
theorem dX12_fileCase_25 : decode cX12_fileCase 25 = .ok (.aload 6, 2) := by decide +kernel
theorem dX12_fileCase_27 : decode cX12_fileCase 27 = .ok (.iload_n 1, 1) := by decide +kernel
theorem dX12_fileCase_28 : decode cX12_fileCase 28 = .ok (.iload_n 2, 1) := by decide +kernel
theorem dX12_fileCase_29 : decode cX12_fileCase 29 = .ok (.iload_n 3, 1) := by decide +kernel
theorem dX12_fileCase_30 : decode cX12_fileCase 30 = .ok (.iload 4, 2) := by decide +kernel
theorem dX12_fileCase_32 : decode cX12_fileCase 32 = .ok (.iload 5, 2) := by decide +kernel
theorem dX12_fileCase_34 : decode cX12_fileCase 34 = .ok (.aload 7, 2) := by decide +kernel
theorem dX12_fileCase_36 : decode cX12_fileCase 36 = .ok (.invokevirtual 103, 3) := by decide +kernel
theorem dX12_fileCase_39 : decode cX12_fileCase 39 = .ok (.invokevirtual 79, 3) := by decide +kernel
theorem dX12_fileCase_42 : decode cX12_fileCase 42 = .ok (.istore 8, 2) := by decide +kernel
theorem dX12_fileCase_44 : decode cX12_fileCase 44 = .ok (.aload_n 0, 1) := by decide +kernel
theorem dX12_fileCase_45 : decode cX12_fileCase 45 = .ok (.getfield 33, 3) := by decide +kernel
theorem dX12_fileCase_48 : decode cX12_fileCase 48 = .ok (.iconst 0, 1) := by decide +kernel
theorem dX12_fileCase_49 : decode cX12_fileCase 49 = .ok (.invokevirtual 99, 3) := by decide +kernel
theorem dX12_fileCase_52 : decode cX12_fileCase 52 = .ok (.iload 8, 2) := by decide +kernel
theorem dX12_fileCase_54 : decode cX12_fileCase 54 = .ok (.ireturn, 1) := by decide +kernel
theorem dX12_hear_0 : decode cX12_hear 0 = .ok (.aload_n 0, 1) := by decide +kernel
theorem dX12_hear_1 : decode cX12_hear 1 = .ok (.getfield 10, 3) := by decide +kernel
theorem dX12_hear_4 : decode cX12_hear 4 = .ok (.invokevirtual 71, 3) := by decide +kernel
theorem dX12_hear_7 : decode cX12_hear 7 = .ok (.astore_n 2, 1) := by decide +kernel
theorem dX12_hear_8 : decode cX12_hear 8 = .ok (.aload_n 0, 1) := by decide +kernel
theorem dX12_hear_9 : decode cX12_hear 9 = .ok (.aload_n 2, 1) := by decide +kernel
theorem dX12_hear_10 : decode cX12_hear 10 = .ok (.aload_n 0, 1) := by decide +kernel
theorem dX12_hear_11 : decode cX12_hear 11 = .ok (.getfield 53, 3) := by decide +kernel
theorem dX12_hear_14 : decode cX12_hear 14 = .ok (.aload_n 2, 1) := by decide +kernel
theorem dX12_hear_15 : decode cX12_hear 15 = .ok (.iload_n 1, 1) := by decide +kernel
theorem dX12_hear_16 : decode cX12_hear 16 = .ok (.invokevirtual 107, 3) := by decide +kernel
theorem dX12_hear_19 : decode cX12_hear 19 = .ok (.invokevirtual 79, 3) := by decide +kernel
theorem dX12_hear_22 : decode cX12_hear 22 = .ok (.ireturn, 1) := by decide +kernel
theorem dX12_appeal_0 : decode cX12_appeal 0 = .ok (.aload_n 0, 1) := by decide +kernel
theorem dX12_appeal_1 : decode cX12_appeal 1 = .ok (.getfield 10, 3) := by decide +kernel
theorem dX12_appeal_4 : decode cX12_appeal 4 = .ok (.invokevirtual 71, 3) := by decide +kernel
theorem dX12_appeal_7 : decode cX12_appeal 7 = .ok (.astore_n 2, 1) := by decide +kernel
theorem dX12_appeal_8 : decode cX12_appeal 8 = .ok (.aload_n 0, 1) := by decide +kernel
theorem dX12_appeal_9 : decode cX12_appeal 9 = .ok (.aload_n 2, 1) := by decide +kernel
theorem dX12_appeal_10 : decode cX12_appeal 10 = .ok (.aload_n 0, 1) := by decide +kernel
theorem dX12_appeal_11 : decode cX12_appeal 11 = .ok (.getfield 53, 3) := by decide +kernel
theorem dX12_appeal_14 : decode cX12_appeal 14 = .ok (.aload_n 2, 1) := by decide +kernel
theorem dX12_appeal_15 : decode cX12_appeal 15 = .ok (.iload_n 1, 1) := by decide +kernel
theorem dX12_appeal_16 : decode cX12_appeal 16 = .ok (.invokevirtual 110, 3) := by decide +kernel
theorem dX12_appeal_19 : decode cX12_appeal 19 = .ok (.invokevirtual 79, 3) := by decide +kernel
theorem dX12_appeal_22 : decode cX12_appeal 22 = .ok (.ireturn, 1) := by decide +kernel
theorem dX12_withdraw_0 : decode cX12_withdraw 0 = .ok (.aload_n 0, 1) := by decide +kernel
theorem dX12_withdraw_1 : decode cX12_withdraw 1 = .ok (.getfield 10, 3) := by decide +kernel
theorem dX12_withdraw_4 : decode cX12_withdraw 4 = .ok (.invokevirtual 71, 3) := by decide +kernel
theorem dX12_withdraw_7 : decode cX12_withdraw 7 = .ok (.astore_n 2, 1) := by decide +kernel
theorem dX12_withdraw_8 : decode cX12_withdraw 8 = .ok (.aload_n 0, 1) := by decide +kernel
theorem dX12_withdraw_9 : decode cX12_withdraw 9 = .ok (.aload_n 2, 1) := by decide +kernel
theorem dX12_withdraw_10 : decode cX12_withdraw 10 = .ok (.aload_n 0, 1) := by decide +kernel
theorem dX12_withdraw_11 : decode cX12_withdraw 11 = .ok (.getfield 53, 3) := by decide +kernel
theorem dX12_withdraw_14 : decode cX12_withdraw 14 = .ok (.aload_n 2, 1) := by decide +kernel
theorem dX12_withdraw_15 : decode cX12_withdraw 15 = .ok (.iload_n 1, 1) := by decide +kernel
theorem dX12_withdraw_16 : decode cX12_withdraw 16 = .ok (.invokevirtual 113, 3) := by decide +kernel
theorem dX12_withdraw_19 : decode cX12_withdraw 19 = .ok (.invokevirtual 79, 3) := by decide +kernel
theorem dX12_withdraw_22 : decode cX12_withdraw 22 = .ok (.ireturn, 1) := by decide +kernel
theorem dX12_close_0 : decode cX12_close 0 = .ok (.aload_n 0, 1) := by decide +kernel
theorem dX12_close_1 : decode cX12_close 1 = .ok (.getfield 10, 3) := by decide +kernel
theorem dX12_close_4 : decode cX12_close 4 = .ok (.invokevirtual 71, 3) := by decide +kernel
theorem dX12_close_7 : decode cX12_close 7 = .ok (.astore_n 2, 1) := by decide +kernel
theorem dX12_close_8 : decode cX12_close 8 = .ok (.aload_n 0, 1) := by decide +kernel
theorem dX12_close_9 : decode cX12_close 9 = .ok (.aload_n 2, 1) := by decide +kernel
theorem dX12_close_10 : decode cX12_close 10 = .ok (.aload_n 0, 1) := by decide +kernel
theorem dX12_close_11 : decode cX12_close 11 = .ok (.getfield 53, 3) := by decide +kernel
theorem dX12_close_14 : decode cX12_close 14 = .ok (.aload_n 2, 1) := by decide +kernel
theorem dX12_close_15 : decode cX12_close 15 = .ok (.iload_n 1, 1) := by decide +kernel
theorem dX12_close_16 : decode cX12_close 16 = .ok (.invokevirtual 116, 3) := by decide +kernel
theorem dX12_close_19 : decode cX12_close 19 = .ok (.invokevirtual 79, 3) := by decide +kernel
theorem dX12_close_22 : decode cX12_close 22 = .ok (.ireturn, 1) := by decide +kernel
theorem dX12_give_0 : decode cX12_give 0 = .ok (.aload_n 0, 1) := by decide +kernel
theorem dX12_give_1 : decode cX12_give 1 = .ok (.getfield 10, 3) := by decide +kernel
theorem dX12_give_4 : decode cX12_give 4 = .ok (.invokevirtual 71, 3) := by decide +kernel
theorem dX12_give_7 : decode cX12_give 7 = .ok (.astore 4, 2) := by decide +kernel
theorem dX12_give_9 : decode cX12_give 9 = .ok (.aload_n 0, 1) := by decide +kernel
theorem dX12_give_10 : decode cX12_give 10 = .ok (.aload 4, 2) := by decide +kernel
theorem dX12_give_12 : decode cX12_give 12 = .ok (.aload_n 0, 1) := by decide +kernel
theorem dX12_give_13 : decode cX12_give 13 = .ok (.getfield 53, 3) := by decide +kernel
theorem dX12_give_16 : decode cX12_give 16 = .ok (.aload 4, 2) := by decide +kernel
theorem dX12_give_18 : decode cX12_give 18 = .ok (.iload_n 1, 1) := by decide +kernel
theorem dX12_give_19 : decode cX12_give 19 = .ok (.iload_n 2, 1) := by decide +kernel
theorem dX12_give_20 : decode cX12_give 20 = .ok (.iload_n 3, 1) := by decide +kernel
theorem dX12_give_21 : decode cX12_give 21 = .ok (.invokevirtual 119, 3) := by decide +kernel
theorem dX12_give_24 : decode cX12_give 24 = .ok (.invokevirtual 79, 3) := by decide +kernel
theorem dX12_give_27 : decode cX12_give 27 = .ok (.ireturn, 1) := by decide +kernel
theorem dX12_passDays_0 : decode cX12_passDays 0 = .ok (.aload_n 0, 1) := by decide +kernel
theorem dX12_passDays_1 : decode cX12_passDays 1 = .ok (.getfield 10, 3) := by decide +kernel
theorem dX12_passDays_4 : decode cX12_passDays 4 = .ok (.invokevirtual 71, 3) := by decide +kernel
theorem dX12_passDays_7 : decode cX12_passDays 7 = .ok (.astore_n 2, 1) := by decide +kernel
theorem dX12_passDays_8 : decode cX12_passDays 8 = .ok (.aload_n 0, 1) := by decide +kernel
theorem dX12_passDays_9 : decode cX12_passDays 9 = .ok (.aload_n 2, 1) := by decide +kernel
theorem dX12_passDays_10 : decode cX12_passDays 10 = .ok (.aload_n 0, 1) := by decide +kernel
theorem dX12_passDays_11 : decode cX12_passDays 11 = .ok (.getfield 53, 3) := by decide +kernel
theorem dX12_passDays_14 : decode cX12_passDays 14 = .ok (.aload_n 2, 1) := by decide +kernel
theorem dX12_passDays_15 : decode cX12_passDays 15 = .ok (.iload_n 1, 1) := by decide +kernel
theorem dX12_passDays_16 : decode cX12_passDays 16 = .ok (.invokevirtual 122, 3) := by decide +kernel
theorem dX12_passDays_19 : decode cX12_passDays 19 = .ok (.invokevirtual 79, 3) := by decide +kernel
theorem dX12_passDays_22 : decode cX12_passDays 22 = .ok (.ireturn, 1) := by decide +kernel
theorem dX12_accept_0 : decode cX12_accept 0 = .ok (.iload_n 2, 1) := by decide +kernel
theorem dX12_accept_1 : decode cX12_accept 1 = .ok (.invokestatic 125, 3) := by decide +kernel
theorem dX12_accept_4 : decode cX12_accept 4 = .ok (.aload_n 0, 1) := by decide +kernel
theorem dX12_accept_5 : decode cX12_accept 5 = .ok (.getfield 26, 3) := by decide +kernel
theorem dX12_accept_8 : decode cX12_accept 8 = .ok (.invokevirtual 128, 3) := by decide +kernel
theorem dX12_accept_11 : decode cX12_accept 11 = .ok (.bipush 8, 2) := by decide +kernel
theorem dX12_accept_13 : decode cX12_accept 13 = .ok (.if_icmp .lt 12, 3) := by decide +kernel
theorem dX12_accept_16 : decode cX12_accept 16 = .ok (.aload_n 0, 1) := by decide +kernel
theorem dX12_accept_17 : decode cX12_accept 17 = .ok (.getfield 26, 3) := by decide +kernel
theorem dX12_accept_20 : decode cX12_accept 20 = .ok (.iconst 0, 1) := by decide +kernel
theorem dX12_accept_21 : decode cX12_accept 21 = .ok (.invokevirtual 132, 3) := by decide +kernel
theorem dX12_accept_24 : decode cX12_accept 24 = .ok (.pop, 1) := by decide +kernel
theorem dX12_accept_25 : decode cX12_accept 25 = .ok (.aload_n 0, 1) := by decide +kernel
theorem dX12_accept_26 : decode cX12_accept 26 = .ok (.getfield 26, 3) := by decide +kernel
theorem dX12_accept_29 : decode cX12_accept 29 = .ok (.aload_n 0, 1) := by decide +kernel
theorem dX12_accept_30 : decode cX12_accept 30 = .ok (.getfield 10, 3) := by decide +kernel
theorem dX12_accept_33 : decode cX12_accept 33 = .ok (.invokevirtual 136, 3) := by decide +kernel
theorem dX12_accept_36 : decode cX12_accept 36 = .ok (.pop, 1) := by decide +kernel
theorem dX12_accept_37 : decode cX12_accept 37 = .ok (.aload_n 0, 1) := by decide +kernel
theorem dX12_accept_38 : decode cX12_accept 38 = .ok (.aload_n 1, 1) := by decide +kernel
theorem dX12_accept_39 : decode cX12_accept 39 = .ok (.putfield 10, 3) := by decide +kernel
theorem dX12_accept_42 : decode cX12_accept 42 = .ok (.iload_n 2, 1) := by decide +kernel
theorem dX12_accept_43 : decode cX12_accept 43 = .ok (.ireturn, 1) := by decide +kernel
theorem dX12_refuseFault_0 : decode cX12_refuseFault 0 = .ok (.iload_n 0, 1) := by decide +kernel
theorem dX12_refuseFault_1 : decode cX12_refuseFault 1 = .ok (.tableswitch 85 (-5) (-1) #[75, 65, 55, 45, 35], 35) := by decide +kernel
theorem dX12_refuseFault_36 : decode cX12_refuseFault 36 = .ok (.new 140, 3) := by decide +kernel
theorem dX12_refuseFault_39 : decode cX12_refuseFault 39 = .ok (.dup, 1) := by decide +kernel
theorem dX12_refuseFault_40 : decode cX12_refuseFault 40 = .ok (.ldc 142, 2) := by decide +kernel
theorem dX12_refuseFault_42 : decode cX12_refuseFault 42 = .ok (.invokespecial 144, 3) := by decide +kernel
theorem dX12_refuseFault_45 : decode cX12_refuseFault 45 = .ok (.athrow, 1) := by decide +kernel
theorem dX12_refuseFault_46 : decode cX12_refuseFault 46 = .ok (.new 147, 3) := by decide +kernel
theorem dX12_refuseFault_49 : decode cX12_refuseFault 49 = .ok (.dup, 1) := by decide +kernel
theorem dX12_refuseFault_50 : decode cX12_refuseFault 50 = .ok (.ldc 149, 2) := by decide +kernel
theorem dX12_refuseFault_52 : decode cX12_refuseFault 52 = .ok (.invokespecial 151, 3) := by decide +kernel
theorem dX12_refuseFault_55 : decode cX12_refuseFault 55 = .ok (.athrow, 1) := by decide +kernel
theorem dX12_refuseFault_56 : decode cX12_refuseFault 56 = .ok (.new 152, 3) := by decide +kernel
theorem dX12_refuseFault_59 : decode cX12_refuseFault 59 = .ok (.dup, 1) := by decide +kernel
theorem dX12_refuseFault_60 : decode cX12_refuseFault 60 = .ok (.ldc 154, 2) := by decide +kernel
theorem dX12_refuseFault_62 : decode cX12_refuseFault 62 = .ok (.invokespecial 156, 3) := by decide +kernel
theorem dX12_refuseFault_65 : decode cX12_refuseFault 65 = .ok (.athrow, 1) := by decide +kernel
theorem dX12_refuseFault_66 : decode cX12_refuseFault 66 = .ok (.new 157, 3) := by decide +kernel
theorem dX12_refuseFault_69 : decode cX12_refuseFault 69 = .ok (.dup, 1) := by decide +kernel
theorem dX12_refuseFault_70 : decode cX12_refuseFault 70 = .ok (.ldc 159, 2) := by decide +kernel
theorem dX12_refuseFault_72 : decode cX12_refuseFault 72 = .ok (.invokespecial 161, 3) := by decide +kernel
theorem dX12_refuseFault_75 : decode cX12_refuseFault 75 = .ok (.athrow, 1) := by decide +kernel
theorem dX12_refuseFault_76 : decode cX12_refuseFault 76 = .ok (.new 162, 3) := by decide +kernel
theorem dX12_refuseFault_79 : decode cX12_refuseFault 79 = .ok (.dup, 1) := by decide +kernel
theorem dX12_refuseFault_80 : decode cX12_refuseFault 80 = .ok (.ldc 164, 2) := by decide +kernel
theorem dX12_refuseFault_82 : decode cX12_refuseFault 82 = .ok (.invokespecial 166, 3) := by decide +kernel
theorem dX12_refuseFault_85 : decode cX12_refuseFault 85 = .ok (.athrow, 1) := by decide +kernel
theorem dX12_refuseFault_86 : decode cX12_refuseFault 86 = .ok (.return_, 1) := by decide +kernel
theorem dX12_typeLetter_0 : decode cX12_typeLetter 0 = .ok (.iload_n 1, 1) := by decide +kernel
theorem dX12_typeLetter_1 : decode cX12_typeLetter 1 = .ok (.invokestatic 167, 3) := by decide +kernel
theorem dX12_typeLetter_4 : decode cX12_typeLetter 4 = .ok (.ifCond .ne 13, 3) := by decide +kernel
theorem dX12_typeLetter_7 : decode cX12_typeLetter 7 = .ok (.new 147, 3) := by decide +kernel
theorem dX12_typeLetter_10 : decode cX12_typeLetter 10 = .ok (.dup, 1) := by decide +kernel
theorem dX12_typeLetter_11 : decode cX12_typeLetter 11 = .ok (.ldc 171, 2) := by decide +kernel
theorem dX12_typeLetter_13 : decode cX12_typeLetter 13 = .ok (.invokespecial 151, 3) := by decide +kernel
theorem dX12_typeLetter_16 : decode cX12_typeLetter 16 = .ok (.athrow, 1) := by decide +kernel
theorem dX12_typeLetter_17 : decode cX12_typeLetter 17 = .ok (.aload_n 0, 1) := by decide +kernel
theorem dX12_typeLetter_18 : decode cX12_typeLetter 18 = .ok (.getfield 33, 3) := by decide +kernel
theorem dX12_typeLetter_21 : decode cX12_typeLetter 21 = .ok (.invokevirtual 173, 3) := by decide +kernel
theorem dX12_typeLetter_24 : decode cX12_typeLetter 24 = .ok (.bipush 8, 2) := by decide +kernel
theorem dX12_typeLetter_26 : decode cX12_typeLetter 26 = .ok (.if_icmp .lt 13, 3) := by decide +kernel
theorem dX12_typeLetter_29 : decode cX12_typeLetter 29 = .ok (.new 152, 3) := by decide +kernel
theorem dX12_typeLetter_32 : decode cX12_typeLetter 32 = .ok (.dup, 1) := by decide +kernel
theorem dX12_typeLetter_33 : decode cX12_typeLetter 33 = .ok (.ldc 176, 2) := by decide +kernel
theorem dX12_typeLetter_35 : decode cX12_typeLetter 35 = .ok (.invokespecial 156, 3) := by decide +kernel
theorem dX12_typeLetter_38 : decode cX12_typeLetter 38 = .ok (.athrow, 1) := by decide +kernel
theorem dX12_typeLetter_39 : decode cX12_typeLetter 39 = .ok (.aload_n 0, 1) := by decide +kernel
theorem dX12_typeLetter_40 : decode cX12_typeLetter 40 = .ok (.getfield 33, 3) := by decide +kernel
theorem dX12_typeLetter_43 : decode cX12_typeLetter 43 = .ok (.iload_n 1, 1) := by decide +kernel
theorem dX12_typeLetter_44 : decode cX12_typeLetter 44 = .ok (.invokevirtual 178, 3) := by decide +kernel
theorem dX12_typeLetter_47 : decode cX12_typeLetter 47 = .ok (.pop, 1) := by decide +kernel
theorem dX12_typeLetter_48 : decode cX12_typeLetter 48 = .ok (.aload_n 0, 1) := by decide +kernel
theorem dX12_typeLetter_49 : decode cX12_typeLetter 49 = .ok (.getfield 33, 3) := by decide +kernel
theorem dX12_typeLetter_52 : decode cX12_typeLetter 52 = .ok (.invokevirtual 173, 3) := by decide +kernel
theorem dX12_typeLetter_55 : decode cX12_typeLetter 55 = .ok (.ireturn, 1) := by decide +kernel
theorem dX12_clearWord_0 : decode cX12_clearWord 0 = .ok (.aload_n 0, 1) := by decide +kernel
theorem dX12_clearWord_1 : decode cX12_clearWord 1 = .ok (.getfield 33, 3) := by decide +kernel
theorem dX12_clearWord_4 : decode cX12_clearWord 4 = .ok (.invokevirtual 173, 3) := by decide +kernel
theorem dX12_clearWord_7 : decode cX12_clearWord 7 = .ok (.istore_n 1, 1) := by decide +kernel
theorem dX12_clearWord_8 : decode cX12_clearWord 8 = .ok (.aload_n 0, 1) := by decide +kernel
theorem dX12_clearWord_9 : decode cX12_clearWord 9 = .ok (.getfield 33, 3) := by decide +kernel
theorem dX12_clearWord_12 : decode cX12_clearWord 12 = .ok (.iconst 0, 1) := by decide +kernel
theorem dX12_clearWord_13 : decode cX12_clearWord 13 = .ok (.invokevirtual 99, 3) := by decide +kernel
theorem dX12_clearWord_16 : decode cX12_clearWord 16 = .ok (.iload_n 1, 1) := by decide +kernel
theorem dX12_clearWord_17 : decode cX12_clearWord 17 = .ok (.ireturn, 1) := by decide +kernel
theorem dX12_isLetter_0 : decode cX12_isLetter 0 = .ok (.iload_n 0, 1) := by decide +kernel
theorem dX12_isLetter_1 : decode cX12_isLetter 1 = .ok (.bipush 97, 2) := by decide +kernel
theorem dX12_isLetter_3 : decode cX12_isLetter 3 = .ok (.if_icmp .lt 13, 3) := by decide +kernel
theorem dX12_isLetter_6 : decode cX12_isLetter 6 = .ok (.iload_n 0, 1) := by decide +kernel
theorem dX12_isLetter_7 : decode cX12_isLetter 7 = .ok (.bipush 122, 2) := by decide +kernel
theorem dX12_isLetter_9 : decode cX12_isLetter 9 = .ok (.if_icmp .gt 7, 3) := by decide +kernel
theorem dX12_isLetter_12 : decode cX12_isLetter 12 = .ok (.iconst 1, 1) := by decide +kernel
theorem dX12_isLetter_13 : decode cX12_isLetter 13 = .ok (.goto 4, 3) := by decide +kernel
theorem dX12_isLetter_16 : decode cX12_isLetter 16 = .ok (.iconst 0, 1) := by decide +kernel
theorem dX12_isLetter_17 : decode cX12_isLetter 17 = .ok (.ireturn, 1) := by decide +kernel
theorem dX12_isDigit_0 : decode cX12_isDigit 0 = .ok (.iload_n 0, 1) := by decide +kernel
theorem dX12_isDigit_1 : decode cX12_isDigit 1 = .ok (.bipush 48, 2) := by decide +kernel
theorem dX12_isDigit_3 : decode cX12_isDigit 3 = .ok (.if_icmp .lt 13, 3) := by decide +kernel
theorem dX12_isDigit_6 : decode cX12_isDigit 6 = .ok (.iload_n 0, 1) := by decide +kernel
theorem dX12_isDigit_7 : decode cX12_isDigit 7 = .ok (.bipush 57, 2) := by decide +kernel
theorem dX12_isDigit_9 : decode cX12_isDigit 9 = .ok (.if_icmp .gt 7, 3) := by decide +kernel
theorem dX12_isDigit_12 : decode cX12_isDigit 12 = .ok (.iconst 1, 1) := by decide +kernel
theorem dX12_isDigit_13 : decode cX12_isDigit 13 = .ok (.goto 4, 3) := by decide +kernel
theorem dX12_isDigit_16 : decode cX12_isDigit 16 = .ok (.iconst 0, 1) := by decide +kernel
theorem dX12_isDigit_17 : decode cX12_isDigit 17 = .ok (.ireturn, 1) := by decide +kernel
theorem dX12_day_0 : decode cX12_day 0 = .ok (.aload_n 0, 1) := by decide +kernel
theorem dX12_day_1 : decode cX12_day 1 = .ok (.getfield 10, 3) := by decide +kernel
theorem dX12_day_4 : decode cX12_day 4 = .ok (.getfield 182, 3) := by decide +kernel
theorem dX12_day_7 : decode cX12_day 7 = .ok (.ireturn, 1) := by decide +kernel
theorem dX12_buttonCount_0 : decode cX12_buttonCount 0 = .ok (.aload_n 0, 1) := by decide +kernel
theorem dX12_buttonCount_1 : decode cX12_buttonCount 1 = .ok (.getfield 10, 3) := by decide +kernel
theorem dX12_buttonCount_4 : decode cX12_buttonCount 4 = .ok (.getfield 185, 3) := by decide +kernel
theorem dX12_buttonCount_7 : decode cX12_buttonCount 7 = .ok (.ireturn, 1) := by decide +kernel
theorem dX12_balance_0 : decode cX12_balance 0 = .ok (.aload_n 0, 1) := by decide +kernel
theorem dX12_balance_1 : decode cX12_balance 1 = .ok (.iload_n 1, 1) := by decide +kernel
theorem dX12_balance_2 : decode cX12_balance 2 = .ok (.invokevirtual 188, 3) := by decide +kernel
theorem dX12_balance_5 : decode cX12_balance 5 = .ok (.aload_n 0, 1) := by decide +kernel
theorem dX12_balance_6 : decode cX12_balance 6 = .ok (.getfield 10, 3) := by decide +kernel
theorem dX12_balance_9 : decode cX12_balance 9 = .ok (.iload_n 1, 1) := by decide +kernel
theorem dX12_balance_10 : decode cX12_balance 10 = .ok (.invokevirtual 191, 3) := by decide +kernel
theorem dX12_balance_13 : decode cX12_balance 13 = .ok (.ireturn, 1) := by decide +kernel
theorem dX12_chest_0 : decode cX12_chest 0 = .ok (.aload_n 0, 1) := by decide +kernel
theorem dX12_chest_1 : decode cX12_chest 1 = .ok (.getfield 10, 3) := by decide +kernel
theorem dX12_chest_4 : decode cX12_chest 4 = .ok (.getfield 195, 3) := by decide +kernel
theorem dX12_chest_7 : decode cX12_chest 7 = .ok (.ireturn, 1) := by decide +kernel
theorem dX12_tension_0 : decode cX12_tension 0 = .ok (.aload_n 0, 1) := by decide +kernel
theorem dX12_tension_1 : decode cX12_tension 1 = .ok (.iload_n 1, 1) := by decide +kernel
theorem dX12_tension_2 : decode cX12_tension 2 = .ok (.invokevirtual 188, 3) := by decide +kernel
theorem dX12_tension_5 : decode cX12_tension 5 = .ok (.aload_n 0, 1) := by decide +kernel
theorem dX12_tension_6 : decode cX12_tension 6 = .ok (.iload_n 2, 1) := by decide +kernel
theorem dX12_tension_7 : decode cX12_tension 7 = .ok (.invokevirtual 188, 3) := by decide +kernel
theorem dX12_tension_10 : decode cX12_tension 10 = .ok (.aload_n 0, 1) := by decide +kernel
theorem dX12_tension_11 : decode cX12_tension 11 = .ok (.getfield 10, 3) := by decide +kernel
theorem dX12_tension_14 : decode cX12_tension 14 = .ok (.iload_n 1, 1) := by decide +kernel
theorem dX12_tension_15 : decode cX12_tension 15 = .ok (.iload_n 2, 1) := by decide +kernel
theorem dX12_tension_16 : decode cX12_tension 16 = .ok (.invokevirtual 198, 3) := by decide +kernel
theorem dX12_tension_19 : decode cX12_tension 19 = .ok (.istore_n 3, 1) := by decide +kernel
theorem dX12_tension_20 : decode cX12_tension 20 = .ok (.iload_n 3, 1) := by decide +kernel
theorem dX12_tension_21 : decode cX12_tension 21 = .ok (.ifCond .ne 13, 3) := by decide +kernel
theorem dX12_tension_24 : decode cX12_tension 24 = .ok (.new 157, 3) := by decide +kernel
theorem dX12_tension_27 : decode cX12_tension 27 = .ok (.dup, 1) := by decide +kernel
theorem dX12_tension_28 : decode cX12_tension 28 = .ok (.ldc 202, 2) := by decide +kernel
theorem dX12_tension_30 : decode cX12_tension 30 = .ok (.invokespecial 161, 3) := by decide +kernel
theorem dX12_tension_33 : decode cX12_tension 33 = .ok (.athrow, 1) := by decide +kernel
theorem dX12_tension_34 : decode cX12_tension 34 = .ok (.iload_n 3, 1) := by decide +kernel
theorem dX12_tension_35 : decode cX12_tension 35 = .ok (.ireturn, 1) := by decide +kernel
theorem dX12_strain_0 : decode cX12_strain 0 = .ok (.aload_n 0, 1) := by decide +kernel
theorem dX12_strain_1 : decode cX12_strain 1 = .ok (.iload_n 1, 1) := by decide +kernel
theorem dX12_strain_2 : decode cX12_strain 2 = .ok (.iload_n 2, 1) := by decide +kernel
theorem dX12_strain_3 : decode cX12_strain 3 = .ok (.invokevirtual 204, 3) := by decide +kernel
theorem dX12_strain_6 : decode cX12_strain 6 = .ok (.aload_n 0, 1) := by decide +kernel
theorem dX12_strain_7 : decode cX12_strain 7 = .ok (.getfield 53, 3) := by decide +kernel
theorem dX12_strain_10 : decode cX12_strain 10 = .ok (.getfield 208, 3) := by decide +kernel
theorem dX12_strain_13 : decode cX12_strain 13 = .ok (.aload_n 0, 1) := by decide +kernel
theorem dX12_strain_14 : decode cX12_strain 14 = .ok (.getfield 10, 3) := by decide +kernel
theorem dX12_strain_17 : decode cX12_strain 17 = .ok (.iload_n 1, 1) := by decide +kernel
theorem dX12_strain_18 : decode cX12_strain 18 = .ok (.iload_n 2, 1) := by decide +kernel
theorem dX12_strain_19 : decode cX12_strain 19 = .ok (.invokevirtual 212, 3) := by decide +kernel
theorem dX12_strain_22 : decode cX12_strain 22 = .ok (.ireturn, 1) := by decide +kernel
theorem dX12_strainByTable_0 : decode cX12_strainByTable 0 = .ok (.aload_n 0, 1) := by decide +kernel
theorem dX12_strainByTable_1 : decode cX12_strainByTable 1 = .ok (.iload_n 1, 1) := by decide +kernel
theorem dX12_strainByTable_2 : decode cX12_strainByTable 2 = .ok (.iload_n 2, 1) := by decide +kernel
theorem dX12_strainByTable_3 : decode cX12_strainByTable 3 = .ok (.invokevirtual 204, 3) := by decide +kernel
theorem dX12_strainByTable_6 : decode cX12_strainByTable 6 = .ok (.aload_n 0, 1) := by decide +kernel
theorem dX12_strainByTable_7 : decode cX12_strainByTable 7 = .ok (.getfield 53, 3) := by decide +kernel
theorem dX12_strainByTable_10 : decode cX12_strainByTable 10 = .ok (.getfield 208, 3) := by decide +kernel
theorem dX12_strainByTable_13 : decode cX12_strainByTable 13 = .ok (.aload_n 0, 1) := by decide +kernel
theorem dX12_strainByTable_14 : decode cX12_strainByTable 14 = .ok (.getfield 10, 3) := by decide +kernel
theorem dX12_strainByTable_17 : decode cX12_strainByTable 17 = .ok (.iload_n 1, 1) := by decide +kernel
theorem dX12_strainByTable_18 : decode cX12_strainByTable 18 = .ok (.iload_n 2, 1) := by decide +kernel
theorem dX12_strainByTable_19 : decode cX12_strainByTable 19 = .ok (.invokevirtual 217, 3) := by decide +kernel
theorem dX12_strainByTable_22 : decode cX12_strainByTable 22 = .ok (.ireturn, 1) := by decide +kernel
theorem dX12_forestTension_0 : decode cX12_forestTension 0 = .ok (.aload_n 0, 1) := by decide +kernel
theorem dX12_forestTension_1 : decode cX12_forestTension 1 = .ok (.getfield 53, 3) := by decide +kernel
theorem dX12_forestTension_4 : decode cX12_forestTension 4 = .ok (.getfield 208, 3) := by decide +kernel
theorem dX12_forestTension_7 : decode cX12_forestTension 7 = .ok (.aload_n 0, 1) := by decide +kernel
theorem dX12_forestTension_8 : decode cX12_forestTension 8 = .ok (.getfield 10, 3) := by decide +kernel
theorem dX12_forestTension_11 : decode cX12_forestTension 11 = .ok (.invokevirtual 220, 3) := by decide +kernel
theorem dX12_forestTension_14 : decode cX12_forestTension 14 = .ok (.ireturn, 1) := by decide +kernel
theorem dX12_buttonByBalance_0 : decode cX12_buttonByBalance 0 = .ok (.iconst 0, 1) := by decide +kernel
theorem dX12_buttonByBalance_1 : decode cX12_buttonByBalance 1 = .ok (.istore_n 2, 1) := by decide +kernel
theorem dX12_buttonByBalance_2 : decode cX12_buttonByBalance 2 = .ok (.iload_n 2, 1) := by decide +kernel
theorem dX12_buttonByBalance_3 : decode cX12_buttonByBalance 3 = .ok (.aload_n 0, 1) := by decide +kernel
theorem dX12_buttonByBalance_4 : decode cX12_buttonByBalance 4 = .ok (.getfield 10, 3) := by decide +kernel
theorem dX12_buttonByBalance_7 : decode cX12_buttonByBalance 7 = .ok (.getfield 185, 3) := by decide +kernel
theorem dX12_buttonByBalance_10 : decode cX12_buttonByBalance 10 = .ok (.if_icmp .ge 23, 3) := by decide +kernel
theorem dX12_buttonByBalance_13 : decode cX12_buttonByBalance 13 = .ok (.aload_n 0, 1) := by decide +kernel
theorem dX12_buttonByBalance_14 : decode cX12_buttonByBalance 14 = .ok (.getfield 10, 3) := by decide +kernel
theorem dX12_buttonByBalance_17 : decode cX12_buttonByBalance 17 = .ok (.iload_n 2, 1) := by decide +kernel
theorem dX12_buttonByBalance_18 : decode cX12_buttonByBalance 18 = .ok (.invokevirtual 229, 3) := by decide +kernel
theorem dX12_buttonByBalance_21 : decode cX12_buttonByBalance 21 = .ok (.iload_n 1, 1) := by decide +kernel
theorem dX12_buttonByBalance_22 : decode cX12_buttonByBalance 22 = .ok (.if_icmp .ne 5, 3) := by decide +kernel
theorem dX12_buttonByBalance_25 : decode cX12_buttonByBalance 25 = .ok (.iload_n 2, 1) := by decide +kernel
theorem dX12_buttonByBalance_26 : decode cX12_buttonByBalance 26 = .ok (.ireturn, 1) := by decide +kernel
theorem dX12_buttonByBalance_27 : decode cX12_buttonByBalance 27 = .ok (.iinc 2 1, 3) := by decide +kernel
theorem dX12_buttonByBalance_30 : decode cX12_buttonByBalance 30 = .ok (.goto (-28), 3) := by decide +kernel
theorem dX12_buttonByBalance_33 : decode cX12_buttonByBalance 33 = .ok (.new 157, 3) := by decide +kernel
theorem dX12_buttonByBalance_36 : decode cX12_buttonByBalance 36 = .ok (.dup, 1) := by decide +kernel
theorem dX12_buttonByBalance_37 : decode cX12_buttonByBalance 37 = .ok (.ldc 232, 2) := by decide +kernel
theorem dX12_buttonByBalance_39 : decode cX12_buttonByBalance 39 = .ok (.invokespecial 161, 3) := by decide +kernel
theorem dX12_buttonByBalance_42 : decode cX12_buttonByBalance 42 = .ok (.athrow, 1) := by decide +kernel
theorem dX12_requireButton_0 : decode cX12_requireButton 0 = .ok (.aload_n 0, 1) := by decide +kernel
theorem dX12_requireButton_1 : decode cX12_requireButton 1 = .ok (.getfield 10, 3) := by decide +kernel
theorem dX12_requireButton_4 : decode cX12_requireButton 4 = .ok (.iload_n 1, 1) := by decide +kernel
theorem dX12_requireButton_5 : decode cX12_requireButton 5 = .ok (.invokevirtual 234, 3) := by decide +kernel
theorem dX12_requireButton_8 : decode cX12_requireButton 8 = .ok (.ifCond .ne 13, 3) := by decide +kernel
theorem dX12_requireButton_11 : decode cX12_requireButton 11 = .ok (.new 140, 3) := by decide +kernel
theorem dX12_requireButton_14 : decode cX12_requireButton 14 = .ok (.dup, 1) := by decide +kernel
theorem dX12_requireButton_15 : decode cX12_requireButton 15 = .ok (.ldc 142, 2) := by decide +kernel
theorem dX12_requireButton_17 : decode cX12_requireButton 17 = .ok (.invokespecial 144, 3) := by decide +kernel
theorem dX12_requireButton_20 : decode cX12_requireButton 20 = .ok (.athrow, 1) := by decide +kernel
theorem dX12_requireButton_21 : decode cX12_requireButton 21 = .ok (.return_, 1) := by decide +kernel
theorem dX12_requirePair_0 : decode cX12_requirePair 0 = .ok (.aload_n 0, 1) := by decide +kernel
theorem dX12_requirePair_1 : decode cX12_requirePair 1 = .ok (.iload_n 1, 1) := by decide +kernel
theorem dX12_requirePair_2 : decode cX12_requirePair 2 = .ok (.invokevirtual 188, 3) := by decide +kernel
theorem dX12_requirePair_5 : decode cX12_requirePair 5 = .ok (.aload_n 0, 1) := by decide +kernel
theorem dX12_requirePair_6 : decode cX12_requirePair 6 = .ok (.iload_n 2, 1) := by decide +kernel
theorem dX12_requirePair_7 : decode cX12_requirePair 7 = .ok (.invokevirtual 188, 3) := by decide +kernel
theorem dX12_requirePair_10 : decode cX12_requirePair 10 = .ok (.iload_n 1, 1) := by decide +kernel
theorem dX12_requirePair_11 : decode cX12_requirePair 11 = .ok (.iload_n 2, 1) := by decide +kernel
theorem dX12_requirePair_12 : decode cX12_requirePair 12 = .ok (.if_icmp .ne 13, 3) := by decide +kernel
theorem dX12_requirePair_15 : decode cX12_requirePair 15 = .ok (.new 147, 3) := by decide +kernel
theorem dX12_requirePair_18 : decode cX12_requirePair 18 = .ok (.dup, 1) := by decide +kernel
theorem dX12_requirePair_19 : decode cX12_requirePair 19 = .ok (.ldc 238, 2) := by decide +kernel
theorem dX12_requirePair_21 : decode cX12_requirePair 21 = .ok (.invokespecial 151, 3) := by decide +kernel
theorem dX12_requirePair_24 : decode cX12_requirePair 24 = .ok (.athrow, 1) := by decide +kernel
theorem dX12_requirePair_25 : decode cX12_requirePair 25 = .ok (.return_, 1) := by decide +kernel
theorem dX12_caseCount_0 : decode cX12_caseCount 0 = .ok (.aload_n 0, 1) := by decide +kernel
theorem dX12_caseCount_1 : decode cX12_caseCount 1 = .ok (.getfield 10, 3) := by decide +kernel
theorem dX12_caseCount_4 : decode cX12_caseCount 4 = .ok (.getfield 240, 3) := by decide +kernel
theorem dX12_caseCount_7 : decode cX12_caseCount 7 = .ok (.invokevirtual 128, 3) := by decide +kernel
theorem dX12_caseCount_10 : decode cX12_caseCount 10 = .ok (.ireturn, 1) := by decide +kernel
theorem dX12_caseAt_0 : decode cX12_caseAt 0 = .ok (.iload_n 1, 1) := by decide +kernel
theorem dX12_caseAt_1 : decode cX12_caseAt 1 = .ok (.ifCond .lt 17, 3) := by decide +kernel
theorem dX12_caseAt_4 : decode cX12_caseAt 4 = .ok (.iload_n 1, 1) := by decide +kernel
theorem dX12_caseAt_5 : decode cX12_caseAt 5 = .ok (.aload_n 0, 1) := by decide +kernel
theorem dX12_caseAt_6 : decode cX12_caseAt 6 = .ok (.getfield 10, 3) := by decide +kernel
theorem dX12_caseAt_9 : decode cX12_caseAt 9 = .ok (.getfield 240, 3) := by decide +kernel
theorem dX12_caseAt_12 : decode cX12_caseAt 12 = .ok (.invokevirtual 128, 3) := by decide +kernel
theorem dX12_caseAt_15 : decode cX12_caseAt 15 = .ok (.if_icmp .lt 13, 3) := by decide +kernel
theorem dX12_caseAt_18 : decode cX12_caseAt 18 = .ok (.new 140, 3) := by decide +kernel
theorem dX12_caseAt_21 : decode cX12_caseAt 21 = .ok (.dup, 1) := by decide +kernel
theorem dX12_caseAt_22 : decode cX12_caseAt 22 = .ok (.ldc 243, 2) := by decide +kernel
theorem dX12_caseAt_24 : decode cX12_caseAt 24 = .ok (.invokespecial 144, 3) := by decide +kernel
theorem dX12_caseAt_27 : decode cX12_caseAt 27 = .ok (.athrow, 1) := by decide +kernel
theorem dX12_caseAt_28 : decode cX12_caseAt 28 = .ok (.aload_n 0, 1) := by decide +kernel
theorem dX12_caseAt_29 : decode cX12_caseAt 29 = .ok (.getfield 10, 3) := by decide +kernel
theorem dX12_caseAt_32 : decode cX12_caseAt 32 = .ok (.getfield 240, 3) := by decide +kernel
theorem dX12_caseAt_35 : decode cX12_caseAt 35 = .ok (.iload_n 1, 1) := by decide +kernel
theorem dX12_caseAt_36 : decode cX12_caseAt 36 = .ok (.invokevirtual 245, 3) := by decide +kernel
theorem dX12_caseAt_39 : decode cX12_caseAt 39 = .ok (.checkcast 248, 3) := by decide +kernel
theorem dX12_caseAt_42 : decode cX12_caseAt 42 = .ok (.getfield 250, 3) := by decide +kernel
theorem dX12_caseAt_45 : decode cX12_caseAt 45 = .ok (.ireturn, 1) := by decide +kernel
theorem dX12_plaintiff_0 : decode cX12_plaintiff 0 = .ok (.aload_n 0, 1) := by decide +kernel
theorem dX12_plaintiff_1 : decode cX12_plaintiff 1 = .ok (.iload_n 1, 1) := by decide +kernel
theorem dX12_plaintiff_2 : decode cX12_plaintiff 2 = .ok (.invokevirtual 253, 3) := by decide +kernel
theorem dX12_plaintiff_5 : decode cX12_plaintiff 5 = .ok (.getfield 257, 3) := by decide +kernel
theorem dX12_plaintiff_8 : decode cX12_plaintiff 8 = .ok (.ireturn, 1) := by decide +kernel
theorem dX12_defendant_0 : decode cX12_defendant 0 = .ok (.aload_n 0, 1) := by decide +kernel
theorem dX12_defendant_1 : decode cX12_defendant 1 = .ok (.iload_n 1, 1) := by decide +kernel
theorem dX12_defendant_2 : decode cX12_defendant 2 = .ok (.invokevirtual 253, 3) := by decide +kernel
theorem dX12_defendant_5 : decode cX12_defendant 5 = .ok (.getfield 260, 3) := by decide +kernel
theorem dX12_defendant_8 : decode cX12_defendant 8 = .ok (.ireturn, 1) := by decide +kernel
theorem dX12_claim_0 : decode cX12_claim 0 = .ok (.aload_n 0, 1) := by decide +kernel
theorem dX12_claim_1 : decode cX12_claim 1 = .ok (.iload_n 1, 1) := by decide +kernel
theorem dX12_claim_2 : decode cX12_claim 2 = .ok (.invokevirtual 253, 3) := by decide +kernel
theorem dX12_claim_5 : decode cX12_claim 5 = .ok (.getfield 263, 3) := by decide +kernel
theorem dX12_claim_8 : decode cX12_claim 8 = .ok (.ireturn, 1) := by decide +kernel
theorem dX12_duration_0 : decode cX12_duration 0 = .ok (.aload_n 0, 1) := by decide +kernel
theorem dX12_duration_1 : decode cX12_duration 1 = .ok (.iload_n 1, 1) := by decide +kernel
theorem dX12_duration_2 : decode cX12_duration 2 = .ok (.invokevirtual 253, 3) := by decide +kernel
theorem dX12_duration_5 : decode cX12_duration 5 = .ok (.getfield 266, 3) := by decide +kernel
theorem dX12_duration_8 : decode cX12_duration 8 = .ok (.ireturn, 1) := by decide +kernel
theorem dX12_deadline_0 : decode cX12_deadline 0 = .ok (.aload_n 0, 1) := by decide +kernel
theorem dX12_deadline_1 : decode cX12_deadline 1 = .ok (.iload_n 1, 1) := by decide +kernel
theorem dX12_deadline_2 : decode cX12_deadline 2 = .ok (.invokevirtual 253, 3) := by decide +kernel
theorem dX12_deadline_5 : decode cX12_deadline 5 = .ok (.getfield 269, 3) := by decide +kernel
theorem dX12_deadline_8 : decode cX12_deadline 8 = .ok (.ireturn, 1) := by decide +kernel
theorem dX12_state_0 : decode cX12_state 0 = .ok (.aload_n 0, 1) := by decide +kernel
theorem dX12_state_1 : decode cX12_state 1 = .ok (.iload_n 1, 1) := by decide +kernel
theorem dX12_state_2 : decode cX12_state 2 = .ok (.invokevirtual 253, 3) := by decide +kernel
theorem dX12_state_5 : decode cX12_state 5 = .ok (.getfield 272, 3) := by decide +kernel
theorem dX12_state_8 : decode cX12_state 8 = .ok (.ireturn, 1) := by decide +kernel
theorem dX12_matterLength_0 : decode cX12_matterLength 0 = .ok (.aload_n 0, 1) := by decide +kernel
theorem dX12_matterLength_1 : decode cX12_matterLength 1 = .ok (.iload_n 1, 1) := by decide +kernel
theorem dX12_matterLength_2 : decode cX12_matterLength 2 = .ok (.invokevirtual 253, 3) := by decide +kernel
theorem dX12_matterLength_5 : decode cX12_matterLength 5 = .ok (.getfield 276, 3) := by decide +kernel
theorem dX12_matterLength_8 : decode cX12_matterLength 8 = .ok (.invokevirtual 280, 3) := by decide +kernel
theorem dX12_matterLength_11 : decode cX12_matterLength 11 = .ok (.ireturn, 1) := by decide +kernel
theorem dX12_matterLetter_0 : decode cX12_matterLetter 0 = .ok (.aload_n 0, 1) := by decide +kernel
theorem dX12_matterLetter_1 : decode cX12_matterLetter 1 = .ok (.iload_n 1, 1) := by decide +kernel
theorem dX12_matterLetter_2 : decode cX12_matterLetter 2 = .ok (.invokevirtual 253, 3) := by decide +kernel
theorem dX12_matterLetter_5 : decode cX12_matterLetter 5 = .ok (.getfield 276, 3) := by decide +kernel
theorem dX12_matterLetter_8 : decode cX12_matterLetter 8 = .ok (.astore_n 3, 1) := by decide +kernel
theorem dX12_matterLetter_9 : decode cX12_matterLetter 9 = .ok (.iload_n 2, 1) := by decide +kernel
theorem dX12_matterLetter_10 : decode cX12_matterLetter 10 = .ok (.ifCond .lt 11, 3) := by decide +kernel
theorem dX12_matterLetter_13 : decode cX12_matterLetter 13 = .ok (.iload_n 2, 1) := by decide +kernel
theorem dX12_matterLetter_14 : decode cX12_matterLetter 14 = .ok (.aload_n 3, 1) := by decide +kernel
theorem dX12_matterLetter_15 : decode cX12_matterLetter 15 = .ok (.invokevirtual 280, 3) := by decide +kernel
theorem dX12_matterLetter_18 : decode cX12_matterLetter 18 = .ok (.if_icmp .lt 13, 3) := by decide +kernel
theorem dX12_matterLetter_21 : decode cX12_matterLetter 21 = .ok (.new 140, 3) := by decide +kernel
theorem dX12_matterLetter_24 : decode cX12_matterLetter 24 = .ok (.dup, 1) := by decide +kernel
theorem dX12_matterLetter_25 : decode cX12_matterLetter 25 = .ok (.ldc 243, 2) := by decide +kernel
theorem dX12_matterLetter_27 : decode cX12_matterLetter 27 = .ok (.invokespecial 144, 3) := by decide +kernel
theorem dX12_matterLetter_30 : decode cX12_matterLetter 30 = .ok (.athrow, 1) := by decide +kernel
theorem dX12_matterLetter_31 : decode cX12_matterLetter 31 = .ok (.aload_n 3, 1) := by decide +kernel
theorem dX12_matterLetter_32 : decode cX12_matterLetter 32 = .ok (.iload_n 2, 1) := by decide +kernel
theorem dX12_matterLetter_33 : decode cX12_matterLetter 33 = .ok (.invokevirtual 283, 3) := by decide +kernel
theorem dX12_matterLetter_36 : decode cX12_matterLetter 36 = .ok (.ireturn, 1) := by decide +kernel
theorem dX12_percentage_0 : decode cX12_percentage 0 = .ok (.aload_n 0, 1) := by decide +kernel
theorem dX12_percentage_1 : decode cX12_percentage 1 = .ok (.iload_n 1, 1) := by decide +kernel
theorem dX12_percentage_2 : decode cX12_percentage 2 = .ok (.invokevirtual 287, 3) := by decide +kernel
theorem dX12_percentage_5 : decode cX12_percentage 5 = .ok (.getfield 290, 3) := by decide +kernel
theorem dX12_percentage_8 : decode cX12_percentage 8 = .ok (.ireturn, 1) := by decide +kernel
theorem dX12_award_0 : decode cX12_award 0 = .ok (.aload_n 0, 1) := by decide +kernel
theorem dX12_award_1 : decode cX12_award 1 = .ok (.iload_n 1, 1) := by decide +kernel
theorem dX12_award_2 : decode cX12_award 2 = .ok (.invokevirtual 287, 3) := by decide +kernel
theorem dX12_award_5 : decode cX12_award 5 = .ok (.getfield 293, 3) := by decide +kernel
theorem dX12_award_8 : decode cX12_award 8 = .ok (.ireturn, 1) := by decide +kernel
theorem dX12_cost_0 : decode cX12_cost 0 = .ok (.aload_n 0, 1) := by decide +kernel
theorem dX12_cost_1 : decode cX12_cost 1 = .ok (.iload_n 1, 1) := by decide +kernel
theorem dX12_cost_2 : decode cX12_cost 2 = .ok (.invokevirtual 287, 3) := by decide +kernel
theorem dX12_cost_5 : decode cX12_cost 5 = .ok (.getfield 296, 3) := by decide +kernel
theorem dX12_cost_8 : decode cX12_cost 8 = .ok (.ireturn, 1) := by decide +kernel
theorem dX12_caseByClaim_0 : decode cX12_caseByClaim 0 = .ok (.iconst 0, 1) := by decide +kernel
theorem dX12_caseByClaim_1 : decode cX12_caseByClaim 1 = .ok (.istore_n 2, 1) := by decide +kernel
theorem dX12_caseByClaim_2 : decode cX12_caseByClaim 2 = .ok (.iload_n 2, 1) := by decide +kernel
theorem dX12_caseByClaim_3 : decode cX12_caseByClaim 3 = .ok (.aload_n 0, 1) := by decide +kernel
theorem dX12_caseByClaim_4 : decode cX12_caseByClaim 4 = .ok (.getfield 10, 3) := by decide +kernel
theorem dX12_caseByClaim_7 : decode cX12_caseByClaim 7 = .ok (.getfield 240, 3) := by decide +kernel
theorem dX12_caseByClaim_10 : decode cX12_caseByClaim 10 = .ok (.invokevirtual 128, 3) := by decide +kernel
theorem dX12_caseByClaim_13 : decode cX12_caseByClaim 13 = .ok (.if_icmp .ge 41, 3) := by decide +kernel
theorem dX12_caseByClaim_16 : decode cX12_caseByClaim 16 = .ok (.aload_n 0, 1) := by decide +kernel
theorem dX12_caseByClaim_17 : decode cX12_caseByClaim 17 = .ok (.getfield 10, 3) := by decide +kernel
theorem dX12_caseByClaim_20 : decode cX12_caseByClaim 20 = .ok (.getfield 240, 3) := by decide +kernel
theorem dX12_caseByClaim_23 : decode cX12_caseByClaim 23 = .ok (.iload_n 2, 1) := by decide +kernel
theorem dX12_caseByClaim_24 : decode cX12_caseByClaim 24 = .ok (.invokevirtual 245, 3) := by decide +kernel
theorem dX12_caseByClaim_27 : decode cX12_caseByClaim 27 = .ok (.checkcast 248, 3) := by decide +kernel
theorem dX12_caseByClaim_30 : decode cX12_caseByClaim 30 = .ok (.astore_n 3, 1) := by decide +kernel
theorem dX12_caseByClaim_31 : decode cX12_caseByClaim 31 = .ok (.aload_n 0, 1) := by decide +kernel
theorem dX12_caseByClaim_32 : decode cX12_caseByClaim 32 = .ok (.getfield 10, 3) := by decide +kernel
theorem dX12_caseByClaim_35 : decode cX12_caseByClaim 35 = .ok (.aload_n 3, 1) := by decide +kernel
theorem dX12_caseByClaim_36 : decode cX12_caseByClaim 36 = .ok (.invokevirtual 299, 3) := by decide +kernel
theorem dX12_caseByClaim_39 : decode cX12_caseByClaim 39 = .ok (.iload_n 1, 1) := by decide +kernel
theorem dX12_caseByClaim_40 : decode cX12_caseByClaim 40 = .ok (.if_icmp .ne 8, 3) := by decide +kernel
theorem dX12_caseByClaim_43 : decode cX12_caseByClaim 43 = .ok (.aload_n 3, 1) := by decide +kernel
theorem dX12_caseByClaim_44 : decode cX12_caseByClaim 44 = .ok (.getfield 250, 3) := by decide +kernel
theorem dX12_caseByClaim_47 : decode cX12_caseByClaim 47 = .ok (.ireturn, 1) := by decide +kernel
theorem dX12_caseByClaim_48 : decode cX12_caseByClaim 48 = .ok (.iinc 2 1, 3) := by decide +kernel
theorem dX12_caseByClaim_51 : decode cX12_caseByClaim 51 = .ok (.goto (-49), 3) := by decide +kernel
theorem dX12_caseByClaim_54 : decode cX12_caseByClaim 54 = .ok (.new 157, 3) := by decide +kernel
theorem dX12_caseByClaim_57 : decode cX12_caseByClaim 57 = .ok (.dup, 1) := by decide +kernel
theorem dX12_caseByClaim_58 : decode cX12_caseByClaim 58 = .ok (.ldc 232, 2) := by decide +kernel
theorem dX12_caseByClaim_60 : decode cX12_caseByClaim 60 = .ok (.invokespecial 161, 3) := by decide +kernel
theorem dX12_caseByClaim_63 : decode cX12_caseByClaim 63 = .ok (.athrow, 1) := by decide +kernel
theorem dX12_meanClaim_0 : decode cX12_meanClaim 0 = .ok (.aload_n 0, 1) := by decide +kernel
theorem dX12_meanClaim_1 : decode cX12_meanClaim 1 = .ok (.getfield 10, 3) := by decide +kernel
theorem dX12_meanClaim_4 : decode cX12_meanClaim 4 = .ok (.getfield 240, 3) := by decide +kernel
theorem dX12_meanClaim_7 : decode cX12_meanClaim 7 = .ok (.invokevirtual 128, 3) := by decide +kernel
theorem dX12_meanClaim_10 : decode cX12_meanClaim 10 = .ok (.istore_n 1, 1) := by decide +kernel
theorem dX12_meanClaim_11 : decode cX12_meanClaim 11 = .ok (.iload_n 1, 1) := by decide +kernel
theorem dX12_meanClaim_12 : decode cX12_meanClaim 12 = .ok (.ifCond .ne 14, 3) := by decide +kernel
theorem dX12_meanClaim_15 : decode cX12_meanClaim 15 = .ok (.new 303, 3) := by decide +kernel
theorem dX12_meanClaim_18 : decode cX12_meanClaim 18 = .ok (.dup, 1) := by decide +kernel
theorem dX12_meanClaim_19 : decode cX12_meanClaim 19 = .ok (.ldc_w 305, 3) := by decide +kernel
theorem dX12_meanClaim_22 : decode cX12_meanClaim 22 = .ok (.invokespecial 307, 3) := by decide +kernel
theorem dX12_meanClaim_25 : decode cX12_meanClaim 25 = .ok (.athrow, 1) := by decide +kernel
theorem dX12_meanClaim_26 : decode cX12_meanClaim 26 = .ok (.iconst 0, 1) := by decide +kernel
theorem dX12_meanClaim_27 : decode cX12_meanClaim 27 = .ok (.istore_n 2, 1) := by decide +kernel
theorem dX12_meanClaim_28 : decode cX12_meanClaim 28 = .ok (.iconst 0, 1) := by decide +kernel
theorem dX12_meanClaim_29 : decode cX12_meanClaim 29 = .ok (.istore_n 3, 1) := by decide +kernel
theorem dX12_meanClaim_30 : decode cX12_meanClaim 30 = .ok (.iload_n 3, 1) := by decide +kernel
theorem dX12_meanClaim_31 : decode cX12_meanClaim 31 = .ok (.iload_n 1, 1) := by decide +kernel
theorem dX12_meanClaim_32 : decode cX12_meanClaim 32 = .ok (.if_icmp .ge 29, 3) := by decide +kernel
theorem dX12_meanClaim_35 : decode cX12_meanClaim 35 = .ok (.iload_n 2, 1) := by decide +kernel
theorem dX12_meanClaim_36 : decode cX12_meanClaim 36 = .ok (.aload_n 0, 1) := by decide +kernel
theorem dX12_meanClaim_37 : decode cX12_meanClaim 37 = .ok (.getfield 10, 3) := by decide +kernel
theorem dX12_meanClaim_40 : decode cX12_meanClaim 40 = .ok (.getfield 240, 3) := by decide +kernel
theorem dX12_meanClaim_43 : decode cX12_meanClaim 43 = .ok (.iload_n 3, 1) := by decide +kernel
theorem dX12_meanClaim_44 : decode cX12_meanClaim 44 = .ok (.invokevirtual 245, 3) := by decide +kernel
theorem dX12_meanClaim_47 : decode cX12_meanClaim 47 = .ok (.checkcast 248, 3) := by decide +kernel
theorem dX12_meanClaim_50 : decode cX12_meanClaim 50 = .ok (.getfield 263, 3) := by decide +kernel
theorem dX12_meanClaim_53 : decode cX12_meanClaim 53 = .ok (.iadd, 1) := by decide +kernel
theorem dX12_meanClaim_54 : decode cX12_meanClaim 54 = .ok (.istore_n 2, 1) := by decide +kernel
theorem dX12_meanClaim_55 : decode cX12_meanClaim 55 = .ok (.iinc 3 1, 3) := by decide +kernel
theorem dX12_meanClaim_58 : decode cX12_meanClaim 58 = .ok (.goto (-28), 3) := by decide +kernel
theorem dX12_meanClaim_61 : decode cX12_meanClaim 61 = .ok (.iload_n 2, 1) := by decide +kernel
theorem dX12_meanClaim_62 : decode cX12_meanClaim 62 = .ok (.i2d, 1) := by decide +kernel
theorem dX12_meanClaim_63 : decode cX12_meanClaim 63 = .ok (.iload_n 1, 1) := by decide +kernel
theorem dX12_meanClaim_64 : decode cX12_meanClaim 64 = .ok (.i2d, 1) := by decide +kernel
theorem dX12_meanClaim_65 : decode cX12_meanClaim 65 = .ok (.ddiv, 1) := by decide +kernel
theorem dX12_meanClaim_66 : decode cX12_meanClaim 66 = .ok (.dreturn, 1) := by decide +kernel
theorem dX12_ruledShare_0 : decode cX12_ruledShare 0 = .ok (.aload_n 0, 1) := by decide +kernel
theorem dX12_ruledShare_1 : decode cX12_ruledShare 1 = .ok (.getfield 10, 3) := by decide +kernel
theorem dX12_ruledShare_4 : decode cX12_ruledShare 4 = .ok (.getfield 240, 3) := by decide +kernel
theorem dX12_ruledShare_7 : decode cX12_ruledShare 7 = .ok (.invokevirtual 128, 3) := by decide +kernel
theorem dX12_ruledShare_10 : decode cX12_ruledShare 10 = .ok (.istore_n 1, 1) := by decide +kernel
theorem dX12_ruledShare_11 : decode cX12_ruledShare 11 = .ok (.iload_n 1, 1) := by decide +kernel
theorem dX12_ruledShare_12 : decode cX12_ruledShare 12 = .ok (.ifCond .ne 14, 3) := by decide +kernel
theorem dX12_ruledShare_15 : decode cX12_ruledShare 15 = .ok (.new 303, 3) := by decide +kernel
theorem dX12_ruledShare_18 : decode cX12_ruledShare 18 = .ok (.dup, 1) := by decide +kernel
theorem dX12_ruledShare_19 : decode cX12_ruledShare 19 = .ok (.ldc_w 305, 3) := by decide +kernel
theorem dX12_ruledShare_22 : decode cX12_ruledShare 22 = .ok (.invokespecial 307, 3) := by decide +kernel
theorem dX12_ruledShare_25 : decode cX12_ruledShare 25 = .ok (.athrow, 1) := by decide +kernel
theorem dX12_ruledShare_26 : decode cX12_ruledShare 26 = .ok (.iconst 0, 1) := by decide +kernel
theorem dX12_ruledShare_27 : decode cX12_ruledShare 27 = .ok (.istore_n 2, 1) := by decide +kernel
theorem dX12_ruledShare_28 : decode cX12_ruledShare 28 = .ok (.iconst 0, 1) := by decide +kernel
theorem dX12_ruledShare_29 : decode cX12_ruledShare 29 = .ok (.istore_n 3, 1) := by decide +kernel
theorem dX12_ruledShare_30 : decode cX12_ruledShare 30 = .ok (.iload_n 3, 1) := by decide +kernel
theorem dX12_ruledShare_31 : decode cX12_ruledShare 31 = .ok (.iload_n 1, 1) := by decide +kernel
theorem dX12_ruledShare_32 : decode cX12_ruledShare 32 = .ok (.if_icmp .ge 34, 3) := by decide +kernel
theorem dX12_ruledShare_35 : decode cX12_ruledShare 35 = .ok (.aload_n 0, 1) := by decide +kernel
theorem dX12_ruledShare_36 : decode cX12_ruledShare 36 = .ok (.getfield 10, 3) := by decide +kernel
theorem dX12_ruledShare_39 : decode cX12_ruledShare 39 = .ok (.getfield 240, 3) := by decide +kernel
theorem dX12_ruledShare_42 : decode cX12_ruledShare 42 = .ok (.iload_n 3, 1) := by decide +kernel
theorem dX12_ruledShare_43 : decode cX12_ruledShare 43 = .ok (.invokevirtual 245, 3) := by decide +kernel
theorem dX12_ruledShare_46 : decode cX12_ruledShare 46 = .ok (.checkcast 248, 3) := by decide +kernel
theorem dX12_ruledShare_49 : decode cX12_ruledShare 49 = .ok (.getfield 272, 3) := by decide +kernel
theorem dX12_ruledShare_52 : decode cX12_ruledShare 52 = .ok (.bipush 114, 2) := by decide +kernel
theorem dX12_ruledShare_54 : decode cX12_ruledShare 54 = .ok (.if_icmp .ne 6, 3) := by decide +kernel
theorem dX12_ruledShare_57 : decode cX12_ruledShare 57 = .ok (.iinc 2 1, 3) := by decide +kernel
theorem dX12_ruledShare_60 : decode cX12_ruledShare 60 = .ok (.iinc 3 1, 3) := by decide +kernel
theorem dX12_ruledShare_63 : decode cX12_ruledShare 63 = .ok (.goto (-33), 3) := by decide +kernel
theorem dX12_ruledShare_66 : decode cX12_ruledShare 66 = .ok (.iload_n 2, 1) := by decide +kernel
theorem dX12_ruledShare_67 : decode cX12_ruledShare 67 = .ok (.i2f, 1) := by decide +kernel
theorem dX12_ruledShare_68 : decode cX12_ruledShare 68 = .ok (.iload_n 1, 1) := by decide +kernel
theorem dX12_ruledShare_69 : decode cX12_ruledShare 69 = .ok (.i2f, 1) := by decide +kernel
theorem dX12_ruledShare_70 : decode cX12_ruledShare 70 = .ok (.fdiv, 1) := by decide +kernel
theorem dX12_ruledShare_71 : decode cX12_ruledShare 71 = .ok (.freturn, 1) := by decide +kernel
theorem dX12_existingCase_0 : decode cX12_existingCase 0 = .ok (.aload_n 0, 1) := by decide +kernel
theorem dX12_existingCase_1 : decode cX12_existingCase 1 = .ok (.getfield 10, 3) := by decide +kernel
theorem dX12_existingCase_4 : decode cX12_existingCase 4 = .ok (.iload_n 1, 1) := by decide +kernel
theorem dX12_existingCase_5 : decode cX12_existingCase 5 = .ok (.invokevirtual 308, 3) := by decide +kernel
theorem dX12_existingCase_8 : decode cX12_existingCase 8 = .ok (.istore_n 2, 1) := by decide +kernel
theorem dX12_existingCase_9 : decode cX12_existingCase 9 = .ok (.iload_n 2, 1) := by decide +kernel
theorem dX12_existingCase_10 : decode cX12_existingCase 10 = .ok (.ifCond .lt 17, 3) := by decide +kernel
theorem dX12_existingCase_13 : decode cX12_existingCase 13 = .ok (.iload_n 2, 1) := by decide +kernel
theorem dX12_existingCase_14 : decode cX12_existingCase 14 = .ok (.aload_n 0, 1) := by decide +kernel
theorem dX12_existingCase_15 : decode cX12_existingCase 15 = .ok (.getfield 10, 3) := by decide +kernel
theorem dX12_existingCase_18 : decode cX12_existingCase 18 = .ok (.getfield 240, 3) := by decide +kernel
theorem dX12_existingCase_21 : decode cX12_existingCase 21 = .ok (.invokevirtual 128, 3) := by decide +kernel
theorem dX12_existingCase_24 : decode cX12_existingCase 24 = .ok (.if_icmp .lt 14, 3) := by decide +kernel
theorem dX12_existingCase_27 : decode cX12_existingCase 27 = .ok (.new 157, 3) := by decide +kernel
theorem dX12_existingCase_30 : decode cX12_existingCase 30 = .ok (.dup, 1) := by decide +kernel
theorem dX12_existingCase_31 : decode cX12_existingCase 31 = .ok (.ldc_w 311, 3) := by decide +kernel
theorem dX12_existingCase_34 : decode cX12_existingCase 34 = .ok (.invokespecial 161, 3) := by decide +kernel
theorem dX12_existingCase_37 : decode cX12_existingCase 37 = .ok (.athrow, 1) := by decide +kernel
theorem dX12_existingCase_38 : decode cX12_existingCase 38 = .ok (.aload_n 0, 1) := by decide +kernel
theorem dX12_existingCase_39 : decode cX12_existingCase 39 = .ok (.getfield 10, 3) := by decide +kernel
theorem dX12_existingCase_42 : decode cX12_existingCase 42 = .ok (.getfield 240, 3) := by decide +kernel
theorem dX12_existingCase_45 : decode cX12_existingCase 45 = .ok (.iload_n 2, 1) := by decide +kernel
theorem dX12_existingCase_46 : decode cX12_existingCase 46 = .ok (.invokevirtual 245, 3) := by decide +kernel
theorem dX12_existingCase_49 : decode cX12_existingCase 49 = .ok (.checkcast 248, 3) := by decide +kernel
theorem dX12_existingCase_52 : decode cX12_existingCase 52 = .ok (.areturn, 1) := by decide +kernel
theorem dX12_decidedCase_0 : decode cX12_decidedCase 0 = .ok (.aload_n 0, 1) := by decide +kernel
theorem dX12_decidedCase_1 : decode cX12_decidedCase 1 = .ok (.iload_n 1, 1) := by decide +kernel
theorem dX12_decidedCase_2 : decode cX12_decidedCase 2 = .ok (.invokevirtual 253, 3) := by decide +kernel
theorem dX12_decidedCase_5 : decode cX12_decidedCase 5 = .ok (.astore_n 2, 1) := by decide +kernel
theorem dX12_decidedCase_6 : decode cX12_decidedCase 6 = .ok (.aload_n 2, 1) := by decide +kernel
theorem dX12_decidedCase_7 : decode cX12_decidedCase 7 = .ok (.getfield 272, 3) := by decide +kernel
theorem dX12_decidedCase_10 : decode cX12_decidedCase 10 = .ok (.bipush 102, 2) := by decide +kernel
theorem dX12_decidedCase_12 : decode cX12_decidedCase 12 = .ok (.if_icmp .ne 14, 3) := by decide +kernel
theorem dX12_decidedCase_15 : decode cX12_decidedCase 15 = .ok (.new 152, 3) := by decide +kernel
theorem dX12_decidedCase_18 : decode cX12_decidedCase 18 = .ok (.dup, 1) := by decide +kernel
theorem dX12_decidedCase_19 : decode cX12_decidedCase 19 = .ok (.ldc_w 313, 3) := by decide +kernel
theorem dX12_decidedCase_22 : decode cX12_decidedCase 22 = .ok (.invokespecial 156, 3) := by decide +kernel
theorem dX12_decidedCase_25 : decode cX12_decidedCase 25 = .ok (.athrow, 1) := by decide +kernel
theorem dX12_decidedCase_26 : decode cX12_decidedCase 26 = .ok (.aload_n 2, 1) := by decide +kernel
theorem dX12_decidedCase_27 : decode cX12_decidedCase 27 = .ok (.areturn, 1) := by decide +kernel
theorem dX12_nearestPrecedent_0 : decode cX12_nearestPrecedent 0 = .ok (.aload_n 0, 1) := by decide +kernel
theorem dX12_nearestPrecedent_1 : decode cX12_nearestPrecedent 1 = .ok (.getfield 53, 3) := by decide +kernel
theorem dX12_nearestPrecedent_4 : decode cX12_nearestPrecedent 4 = .ok (.aload_n 0, 1) := by decide +kernel
theorem dX12_nearestPrecedent_5 : decode cX12_nearestPrecedent 5 = .ok (.getfield 10, 3) := by decide +kernel
theorem dX12_nearestPrecedent_8 : decode cX12_nearestPrecedent 8 = .ok (.aload_n 0, 1) := by decide +kernel
theorem dX12_nearestPrecedent_9 : decode cX12_nearestPrecedent 9 = .ok (.iload_n 1, 1) := by decide +kernel
theorem dX12_nearestPrecedent_10 : decode cX12_nearestPrecedent 10 = .ok (.invokevirtual 253, 3) := by decide +kernel
theorem dX12_nearestPrecedent_13 : decode cX12_nearestPrecedent 13 = .ok (.getfield 276, 3) := by decide +kernel
theorem dX12_nearestPrecedent_16 : decode cX12_nearestPrecedent 16 = .ok (.iconst (-1), 1) := by decide +kernel
theorem dX12_nearestPrecedent_17 : decode cX12_nearestPrecedent 17 = .ok (.iconst (-1), 1) := by decide +kernel
theorem dX12_nearestPrecedent_18 : decode cX12_nearestPrecedent 18 = .ok (.invokevirtual 315, 3) := by decide +kernel
theorem dX12_nearestPrecedent_21 : decode cX12_nearestPrecedent 21 = .ok (.istore_n 2, 1) := by decide +kernel
theorem dX12_nearestPrecedent_22 : decode cX12_nearestPrecedent 22 = .ok (.iload_n 2, 1) := by decide +kernel
theorem dX12_nearestPrecedent_23 : decode cX12_nearestPrecedent 23 = .ok (.iconst (-1), 1) := by decide +kernel
theorem dX12_nearestPrecedent_24 : decode cX12_nearestPrecedent 24 = .ok (.if_icmp .ne 14, 3) := by decide +kernel
theorem dX12_nearestPrecedent_27 : decode cX12_nearestPrecedent 27 = .ok (.new 162, 3) := by decide +kernel
theorem dX12_nearestPrecedent_30 : decode cX12_nearestPrecedent 30 = .ok (.dup, 1) := by decide +kernel
theorem dX12_nearestPrecedent_31 : decode cX12_nearestPrecedent 31 = .ok (.ldc_w 319, 3) := by decide +kernel
theorem dX12_nearestPrecedent_34 : decode cX12_nearestPrecedent 34 = .ok (.invokespecial 166, 3) := by decide +kernel
theorem dX12_nearestPrecedent_37 : decode cX12_nearestPrecedent 37 = .ok (.athrow, 1) := by decide +kernel
theorem dX12_nearestPrecedent_38 : decode cX12_nearestPrecedent 38 = .ok (.iload_n 2, 1) := by decide +kernel
theorem dX12_nearestPrecedent_39 : decode cX12_nearestPrecedent 39 = .ok (.ireturn, 1) := by decide +kernel
theorem dX12_precedentCount_0 : decode cX12_precedentCount 0 = .ok (.aload_n 0, 1) := by decide +kernel
theorem dX12_precedentCount_1 : decode cX12_precedentCount 1 = .ok (.getfield 10, 3) := by decide +kernel
theorem dX12_precedentCount_4 : decode cX12_precedentCount 4 = .ok (.getfield 321, 3) := by decide +kernel
theorem dX12_precedentCount_7 : decode cX12_precedentCount 7 = .ok (.invokevirtual 128, 3) := by decide +kernel
theorem dX12_precedentCount_10 : decode cX12_precedentCount 10 = .ok (.ireturn, 1) := by decide +kernel
theorem dX12_precedentPercentage_0 : decode cX12_precedentPercentage 0 = .ok (.aload_n 0, 1) := by decide +kernel
theorem dX12_precedentPercentage_1 : decode cX12_precedentPercentage 1 = .ok (.iload_n 1, 1) := by decide +kernel
theorem dX12_precedentPercentage_2 : decode cX12_precedentPercentage 2 = .ok (.invokevirtual 324, 3) := by decide +kernel
theorem dX12_precedentPercentage_5 : decode cX12_precedentPercentage 5 = .ok (.getfield 328, 3) := by decide +kernel
theorem dX12_precedentPercentage_8 : decode cX12_precedentPercentage 8 = .ok (.ireturn, 1) := by decide +kernel
theorem dX12_distance_0 : decode cX12_distance 0 = .ok (.aload_n 0, 1) := by decide +kernel
theorem dX12_distance_1 : decode cX12_distance 1 = .ok (.iload_n 1, 1) := by decide +kernel
theorem dX12_distance_2 : decode cX12_distance 2 = .ok (.invokevirtual 253, 3) := by decide +kernel
theorem dX12_distance_5 : decode cX12_distance 5 = .ok (.getfield 276, 3) := by decide +kernel
theorem dX12_distance_8 : decode cX12_distance 8 = .ok (.astore_n 3, 1) := by decide +kernel
theorem dX12_distance_9 : decode cX12_distance 9 = .ok (.aload_n 0, 1) := by decide +kernel
theorem dX12_distance_10 : decode cX12_distance 10 = .ok (.getfield 53, 3) := by decide +kernel
theorem dX12_distance_13 : decode cX12_distance 13 = .ok (.getfield 331, 3) := by decide +kernel
theorem dX12_distance_16 : decode cX12_distance 16 = .ok (.aload_n 3, 1) := by decide +kernel
theorem dX12_distance_17 : decode cX12_distance 17 = .ok (.aload_n 0, 1) := by decide +kernel
theorem dX12_distance_18 : decode cX12_distance 18 = .ok (.iload_n 2, 1) := by decide +kernel
theorem dX12_distance_19 : decode cX12_distance 19 = .ok (.invokevirtual 324, 3) := by decide +kernel
theorem dX12_distance_22 : decode cX12_distance 22 = .ok (.getfield 335, 3) := by decide +kernel
theorem dX12_distance_25 : decode cX12_distance 25 = .ok (.invokevirtual 336, 3) := by decide +kernel
theorem dX12_distance_28 : decode cX12_distance 28 = .ok (.ireturn, 1) := by decide +kernel
theorem dX12_distanceByEnds_0 : decode cX12_distanceByEnds 0 = .ok (.aload_n 0, 1) := by decide +kernel
theorem dX12_distanceByEnds_1 : decode cX12_distanceByEnds 1 = .ok (.iload_n 1, 1) := by decide +kernel
theorem dX12_distanceByEnds_2 : decode cX12_distanceByEnds 2 = .ok (.invokevirtual 253, 3) := by decide +kernel
theorem dX12_distanceByEnds_5 : decode cX12_distanceByEnds 5 = .ok (.getfield 276, 3) := by decide +kernel
theorem dX12_distanceByEnds_8 : decode cX12_distanceByEnds 8 = .ok (.astore_n 3, 1) := by decide +kernel
theorem dX12_distanceByEnds_9 : decode cX12_distanceByEnds 9 = .ok (.aload_n 0, 1) := by decide +kernel
theorem dX12_distanceByEnds_10 : decode cX12_distanceByEnds 10 = .ok (.getfield 53, 3) := by decide +kernel
theorem dX12_distanceByEnds_13 : decode cX12_distanceByEnds 13 = .ok (.getfield 331, 3) := by decide +kernel
theorem dX12_distanceByEnds_16 : decode cX12_distanceByEnds 16 = .ok (.aload_n 3, 1) := by decide +kernel
theorem dX12_distanceByEnds_17 : decode cX12_distanceByEnds 17 = .ok (.aload_n 0, 1) := by decide +kernel
theorem dX12_distanceByEnds_18 : decode cX12_distanceByEnds 18 = .ok (.iload_n 2, 1) := by decide +kernel
theorem dX12_distanceByEnds_19 : decode cX12_distanceByEnds 19 = .ok (.invokevirtual 324, 3) := by decide +kernel
theorem dX12_distanceByEnds_22 : decode cX12_distanceByEnds 22 = .ok (.getfield 335, 3) := by decide +kernel
theorem dX12_distanceByEnds_25 : decode cX12_distanceByEnds 25 = .ok (.invokevirtual 342, 3) := by decide +kernel
theorem dX12_distanceByEnds_28 : decode cX12_distanceByEnds 28 = .ok (.ireturn, 1) := by decide +kernel
theorem dX12_existingPrecedent_0 : decode cX12_existingPrecedent 0 = .ok (.iload_n 1, 1) := by decide +kernel
theorem dX12_existingPrecedent_1 : decode cX12_existingPrecedent 1 = .ok (.ifCond .lt 17, 3) := by decide +kernel
theorem dX12_existingPrecedent_4 : decode cX12_existingPrecedent 4 = .ok (.iload_n 1, 1) := by decide +kernel
theorem dX12_existingPrecedent_5 : decode cX12_existingPrecedent 5 = .ok (.aload_n 0, 1) := by decide +kernel
theorem dX12_existingPrecedent_6 : decode cX12_existingPrecedent 6 = .ok (.getfield 10, 3) := by decide +kernel
theorem dX12_existingPrecedent_9 : decode cX12_existingPrecedent 9 = .ok (.getfield 321, 3) := by decide +kernel
theorem dX12_existingPrecedent_12 : decode cX12_existingPrecedent 12 = .ok (.invokevirtual 128, 3) := by decide +kernel
theorem dX12_existingPrecedent_15 : decode cX12_existingPrecedent 15 = .ok (.if_icmp .lt 14, 3) := by decide +kernel
theorem dX12_existingPrecedent_18 : decode cX12_existingPrecedent 18 = .ok (.new 140, 3) := by decide +kernel
theorem dX12_existingPrecedent_21 : decode cX12_existingPrecedent 21 = .ok (.dup, 1) := by decide +kernel
theorem dX12_existingPrecedent_22 : decode cX12_existingPrecedent 22 = .ok (.ldc_w 345, 3) := by decide +kernel
theorem dX12_existingPrecedent_25 : decode cX12_existingPrecedent 25 = .ok (.invokespecial 144, 3) := by decide +kernel
theorem dX12_existingPrecedent_28 : decode cX12_existingPrecedent 28 = .ok (.athrow, 1) := by decide +kernel
theorem dX12_existingPrecedent_29 : decode cX12_existingPrecedent 29 = .ok (.aload_n 0, 1) := by decide +kernel
theorem dX12_existingPrecedent_30 : decode cX12_existingPrecedent 30 = .ok (.getfield 10, 3) := by decide +kernel
theorem dX12_existingPrecedent_33 : decode cX12_existingPrecedent 33 = .ok (.getfield 321, 3) := by decide +kernel
theorem dX12_existingPrecedent_36 : decode cX12_existingPrecedent 36 = .ok (.iload_n 1, 1) := by decide +kernel
theorem dX12_existingPrecedent_37 : decode cX12_existingPrecedent 37 = .ok (.invokevirtual 245, 3) := by decide +kernel
theorem dX12_existingPrecedent_40 : decode cX12_existingPrecedent 40 = .ok (.checkcast 329, 3) := by decide +kernel
theorem dX12_existingPrecedent_43 : decode cX12_existingPrecedent 43 = .ok (.areturn, 1) := by decide +kernel
theorem dX12_bestDocket_0 : decode cX12_bestDocket 0 = .ok (.aload_n 0, 1) := by decide +kernel
theorem dX12_bestDocket_1 : decode cX12_bestDocket 1 = .ok (.getfield 60, 3) := by decide +kernel
theorem dX12_bestDocket_4 : decode cX12_bestDocket 4 = .ok (.aload_n 0, 1) := by decide +kernel
theorem dX12_bestDocket_5 : decode cX12_bestDocket 5 = .ok (.getfield 10, 3) := by decide +kernel
theorem dX12_bestDocket_8 : decode cX12_bestDocket 8 = .ok (.invokevirtual 347, 3) := by decide +kernel
theorem dX12_bestDocket_11 : decode cX12_bestDocket 11 = .ok (.ireturn, 1) := by decide +kernel
theorem dX12_fewestTransfers_0 : decode cX12_fewestTransfers 0 = .ok (.aload_n 0, 1) := by decide +kernel
theorem dX12_fewestTransfers_1 : decode cX12_fewestTransfers 1 = .ok (.getfield 67, 3) := by decide +kernel
theorem dX12_fewestTransfers_4 : decode cX12_fewestTransfers 4 = .ok (.aload_n 0, 1) := by decide +kernel
theorem dX12_fewestTransfers_5 : decode cX12_fewestTransfers 5 = .ok (.getfield 10, 3) := by decide +kernel
theorem dX12_fewestTransfers_8 : decode cX12_fewestTransfers 8 = .ok (.invokevirtual 353, 3) := by decide +kernel
theorem dX12_fewestTransfers_11 : decode cX12_fewestTransfers 11 = .ok (.ireturn, 1) := by decide +kernel
theorem dX12_renderCase_0 : decode cX12_renderCase 0 = .ok (.aload_n 0, 1) := by decide +kernel
theorem dX12_renderCase_1 : decode cX12_renderCase 1 = .ok (.iload_n 1, 1) := by decide +kernel
theorem dX12_renderCase_2 : decode cX12_renderCase 2 = .ok (.invokevirtual 253, 3) := by decide +kernel
theorem dX12_renderCase_5 : decode cX12_renderCase 5 = .ok (.astore_n 2, 1) := by decide +kernel
theorem dX12_renderCase_6 : decode cX12_renderCase 6 = .ok (.aload_n 0, 1) := by decide +kernel
theorem dX12_renderCase_7 : decode cX12_renderCase 7 = .ok (.getfield 40, 3) := by decide +kernel
theorem dX12_renderCase_10 : decode cX12_renderCase 10 = .ok (.iconst 0, 1) := by decide +kernel
theorem dX12_renderCase_11 : decode cX12_renderCase 11 = .ok (.invokevirtual 99, 3) := by decide +kernel
theorem dX12_renderCase_14 : decode cX12_renderCase 14 = .ok (.aload_n 0, 1) := by decide +kernel
theorem dX12_renderCase_15 : decode cX12_renderCase 15 = .ok (.getfield 40, 3) := by decide +kernel
theorem dX12_renderCase_18 : decode cX12_renderCase 18 = .ok (.bipush 35, 2) := by decide +kernel
theorem dX12_renderCase_20 : decode cX12_renderCase 20 = .ok (.invokevirtual 178, 3) := by decide +kernel
theorem dX12_renderCase_23 : decode cX12_renderCase 23 = .ok (.aload_n 2, 1) := by decide +kernel
theorem dX12_renderCase_24 : decode cX12_renderCase 24 = .ok (.getfield 250, 3) := by decide +kernel
theorem dX12_renderCase_27 : decode cX12_renderCase 27 = .ok (.invokevirtual 367, 3) := by decide +kernel
theorem dX12_renderCase_30 : decode cX12_renderCase 30 = .ok (.aload_n 2, 1) := by decide +kernel
theorem dX12_renderCase_31 : decode cX12_renderCase 31 = .ok (.getfield 272, 3) := by decide +kernel
theorem dX12_renderCase_34 : decode cX12_renderCase 34 = .ok (.invokevirtual 178, 3) := by decide +kernel
theorem dX12_renderCase_37 : decode cX12_renderCase 37 = .ok (.pop, 1) := by decide +kernel
theorem dX12_renderCase_38 : decode cX12_renderCase 38 = .ok (.aload_n 0, 1) := by decide +kernel
theorem dX12_renderCase_39 : decode cX12_renderCase 39 = .ok (.getfield 40, 3) := by decide +kernel
theorem dX12_renderCase_42 : decode cX12_renderCase 42 = .ok (.bipush 32, 2) := by decide +kernel
theorem dX12_renderCase_44 : decode cX12_renderCase 44 = .ok (.invokevirtual 178, 3) := by decide +kernel
theorem dX12_renderCase_47 : decode cX12_renderCase 47 = .ok (.aload_n 2, 1) := by decide +kernel
theorem dX12_renderCase_48 : decode cX12_renderCase 48 = .ok (.getfield 257, 3) := by decide +kernel
theorem dX12_renderCase_51 : decode cX12_renderCase 51 = .ok (.invokevirtual 367, 3) := by decide +kernel
theorem dX12_renderCase_54 : decode cX12_renderCase 54 = .ok (.bipush 62, 2) := by decide +kernel
theorem dX12_renderCase_56 : decode cX12_renderCase 56 = .ok (.invokevirtual 178, 3) := by decide +kernel
theorem dX12_renderCase_59 : decode cX12_renderCase 59 = .ok (.aload_n 2, 1) := by decide +kernel
theorem dX12_renderCase_60 : decode cX12_renderCase 60 = .ok (.getfield 260, 3) := by decide +kernel
theorem dX12_renderCase_63 : decode cX12_renderCase 63 = .ok (.invokevirtual 367, 3) := by decide +kernel
theorem dX12_renderCase_66 : decode cX12_renderCase 66 = .ok (.pop, 1) := by decide +kernel
theorem dX12_renderCase_67 : decode cX12_renderCase 67 = .ok (.aload_n 0, 1) := by decide +kernel
theorem dX12_renderCase_68 : decode cX12_renderCase 68 = .ok (.getfield 40, 3) := by decide +kernel
theorem dX12_renderCase_71 : decode cX12_renderCase 71 = .ok (.bipush 32, 2) := by decide +kernel
theorem dX12_renderCase_73 : decode cX12_renderCase 73 = .ok (.invokevirtual 178, 3) := by decide +kernel
theorem dX12_renderCase_76 : decode cX12_renderCase 76 = .ok (.aload_n 2, 1) := by decide +kernel
theorem dX12_renderCase_77 : decode cX12_renderCase 77 = .ok (.getfield 263, 3) := by decide +kernel
theorem dX12_renderCase_80 : decode cX12_renderCase 80 = .ok (.invokevirtual 367, 3) := by decide +kernel
theorem dX12_renderCase_83 : decode cX12_renderCase 83 = .ok (.bipush 120, 2) := by decide +kernel
theorem dX12_renderCase_85 : decode cX12_renderCase 85 = .ok (.invokevirtual 178, 3) := by decide +kernel
theorem dX12_renderCase_88 : decode cX12_renderCase 88 = .ok (.aload_n 2, 1) := by decide +kernel
theorem dX12_renderCase_89 : decode cX12_renderCase 89 = .ok (.getfield 266, 3) := by decide +kernel
theorem dX12_renderCase_92 : decode cX12_renderCase 92 = .ok (.invokevirtual 367, 3) := by decide +kernel
theorem dX12_renderCase_95 : decode cX12_renderCase 95 = .ok (.pop, 1) := by decide +kernel
theorem dX12_renderCase_96 : decode cX12_renderCase 96 = .ok (.aload_n 0, 1) := by decide +kernel
theorem dX12_renderCase_97 : decode cX12_renderCase 97 = .ok (.getfield 40, 3) := by decide +kernel
theorem dX12_renderCase_100 : decode cX12_renderCase 100 = .ok (.bipush 33, 2) := by decide +kernel
theorem dX12_renderCase_102 : decode cX12_renderCase 102 = .ok (.invokevirtual 178, 3) := by decide +kernel
theorem dX12_renderCase_105 : decode cX12_renderCase 105 = .ok (.aload_n 2, 1) := by decide +kernel
theorem dX12_renderCase_106 : decode cX12_renderCase 106 = .ok (.getfield 269, 3) := by decide +kernel
theorem dX12_renderCase_109 : decode cX12_renderCase 109 = .ok (.invokevirtual 367, 3) := by decide +kernel
theorem dX12_renderCase_112 : decode cX12_renderCase 112 = .ok (.bipush 58, 2) := by decide +kernel
theorem dX12_renderCase_114 : decode cX12_renderCase 114 = .ok (.invokevirtual 178, 3) := by decide +kernel
theorem dX12_renderCase_117 : decode cX12_renderCase 117 = .ok (.aload_n 2, 1) := by decide +kernel
theorem dX12_renderCase_118 : decode cX12_renderCase 118 = .ok (.getfield 276, 3) := by decide +kernel
theorem dX12_renderCase_121 : decode cX12_renderCase 121 = .ok (.invokevirtual 370, 3) := by decide +kernel
theorem dX12_renderCase_124 : decode cX12_renderCase 124 = .ok (.pop, 1) := by decide +kernel
theorem dX12_renderCase_125 : decode cX12_renderCase 125 = .ok (.aload_n 2, 1) := by decide +kernel
theorem dX12_renderCase_126 : decode cX12_renderCase 126 = .ok (.getfield 272, 3) := by decide +kernel
theorem dX12_renderCase_129 : decode cX12_renderCase 129 = .ok (.bipush 102, 2) := by decide +kernel
theorem dX12_renderCase_131 : decode cX12_renderCase 131 = .ok (.if_icmp .eq 20, 3) := by decide +kernel
theorem dX12_renderCase_134 : decode cX12_renderCase 134 = .ok (.aload_n 0, 1) := by decide +kernel
theorem dX12_renderCase_135 : decode cX12_renderCase 135 = .ok (.getfield 40, 3) := by decide +kernel
theorem dX12_renderCase_138 : decode cX12_renderCase 138 = .ok (.bipush 61, 2) := by decide +kernel
theorem dX12_renderCase_140 : decode cX12_renderCase 140 = .ok (.invokevirtual 178, 3) := by decide +kernel
theorem dX12_renderCase_143 : decode cX12_renderCase 143 = .ok (.aload_n 2, 1) := by decide +kernel
theorem dX12_renderCase_144 : decode cX12_renderCase 144 = .ok (.getfield 293, 3) := by decide +kernel
theorem dX12_renderCase_147 : decode cX12_renderCase 147 = .ok (.invokevirtual 367, 3) := by decide +kernel
theorem dX12_renderCase_150 : decode cX12_renderCase 150 = .ok (.pop, 1) := by decide +kernel
theorem dX12_renderCase_151 : decode cX12_renderCase 151 = .ok (.aload_n 0, 1) := by decide +kernel
theorem dX12_renderCase_152 : decode cX12_renderCase 152 = .ok (.getfield 40, 3) := by decide +kernel
theorem dX12_renderCase_155 : decode cX12_renderCase 155 = .ok (.invokevirtual 173, 3) := by decide +kernel
theorem dX12_renderCase_158 : decode cX12_renderCase 158 = .ok (.ireturn, 1) := by decide +kernel
theorem dX12_renderBonds_0 : decode cX12_renderBonds 0 = .ok (.aload_n 0, 1) := by decide +kernel
theorem dX12_renderBonds_1 : decode cX12_renderBonds 1 = .ok (.iload_n 1, 1) := by decide +kernel
theorem dX12_renderBonds_2 : decode cX12_renderBonds 2 = .ok (.invokevirtual 188, 3) := by decide +kernel
theorem dX12_renderBonds_5 : decode cX12_renderBonds 5 = .ok (.aload_n 0, 1) := by decide +kernel
theorem dX12_renderBonds_6 : decode cX12_renderBonds 6 = .ok (.getfield 40, 3) := by decide +kernel
theorem dX12_renderBonds_9 : decode cX12_renderBonds 9 = .ok (.iconst 0, 1) := by decide +kernel
theorem dX12_renderBonds_10 : decode cX12_renderBonds 10 = .ok (.invokevirtual 99, 3) := by decide +kernel
theorem dX12_renderBonds_13 : decode cX12_renderBonds 13 = .ok (.aload_n 0, 1) := by decide +kernel
theorem dX12_renderBonds_14 : decode cX12_renderBonds 14 = .ok (.getfield 40, 3) := by decide +kernel
theorem dX12_renderBonds_17 : decode cX12_renderBonds 17 = .ok (.iload_n 1, 1) := by decide +kernel
theorem dX12_renderBonds_18 : decode cX12_renderBonds 18 = .ok (.invokevirtual 367, 3) := by decide +kernel
theorem dX12_renderBonds_21 : decode cX12_renderBonds 21 = .ok (.bipush 40, 2) := by decide +kernel
theorem dX12_renderBonds_23 : decode cX12_renderBonds 23 = .ok (.invokevirtual 178, 3) := by decide +kernel
theorem dX12_renderBonds_26 : decode cX12_renderBonds 26 = .ok (.aload_n 0, 1) := by decide +kernel
theorem dX12_renderBonds_27 : decode cX12_renderBonds 27 = .ok (.getfield 10, 3) := by decide +kernel
theorem dX12_renderBonds_30 : decode cX12_renderBonds 30 = .ok (.iload_n 1, 1) := by decide +kernel
theorem dX12_renderBonds_31 : decode cX12_renderBonds 31 = .ok (.invokevirtual 191, 3) := by decide +kernel
theorem dX12_renderBonds_34 : decode cX12_renderBonds 34 = .ok (.invokevirtual 367, 3) := by decide +kernel
theorem dX12_renderBonds_37 : decode cX12_renderBonds 37 = .ok (.bipush 41, 2) := by decide +kernel
theorem dX12_renderBonds_39 : decode cX12_renderBonds 39 = .ok (.invokevirtual 178, 3) := by decide +kernel
theorem dX12_renderBonds_42 : decode cX12_renderBonds 42 = .ok (.pop, 1) := by decide +kernel
theorem dX12_renderBonds_43 : decode cX12_renderBonds 43 = .ok (.iconst 0, 1) := by decide +kernel
theorem dX12_renderBonds_44 : decode cX12_renderBonds 44 = .ok (.istore_n 2, 1) := by decide +kernel
theorem dX12_renderBonds_45 : decode cX12_renderBonds 45 = .ok (.iload_n 2, 1) := by decide +kernel
theorem dX12_renderBonds_46 : decode cX12_renderBonds 46 = .ok (.aload_n 0, 1) := by decide +kernel
theorem dX12_renderBonds_47 : decode cX12_renderBonds 47 = .ok (.getfield 10, 3) := by decide +kernel
theorem dX12_renderBonds_50 : decode cX12_renderBonds 50 = .ok (.getfield 185, 3) := by decide +kernel
theorem dX12_renderBonds_53 : decode cX12_renderBonds 53 = .ok (.if_icmp .ge 46, 3) := by decide +kernel
theorem dX12_renderBonds_56 : decode cX12_renderBonds 56 = .ok (.aload_n 0, 1) := by decide +kernel
theorem dX12_renderBonds_57 : decode cX12_renderBonds 57 = .ok (.getfield 10, 3) := by decide +kernel
theorem dX12_renderBonds_60 : decode cX12_renderBonds 60 = .ok (.iload_n 1, 1) := by decide +kernel
theorem dX12_renderBonds_61 : decode cX12_renderBonds 61 = .ok (.iload_n 2, 1) := by decide +kernel
theorem dX12_renderBonds_62 : decode cX12_renderBonds 62 = .ok (.invokevirtual 198, 3) := by decide +kernel
theorem dX12_renderBonds_65 : decode cX12_renderBonds 65 = .ok (.istore_n 3, 1) := by decide +kernel
theorem dX12_renderBonds_66 : decode cX12_renderBonds 66 = .ok (.iload_n 3, 1) := by decide +kernel
theorem dX12_renderBonds_67 : decode cX12_renderBonds 67 = .ok (.ifCond .le 26, 3) := by decide +kernel
theorem dX12_renderBonds_70 : decode cX12_renderBonds 70 = .ok (.aload_n 0, 1) := by decide +kernel
theorem dX12_renderBonds_71 : decode cX12_renderBonds 71 = .ok (.getfield 40, 3) := by decide +kernel
theorem dX12_renderBonds_74 : decode cX12_renderBonds 74 = .ok (.bipush 45, 2) := by decide +kernel
theorem dX12_renderBonds_76 : decode cX12_renderBonds 76 = .ok (.invokevirtual 178, 3) := by decide +kernel
theorem dX12_renderBonds_79 : decode cX12_renderBonds 79 = .ok (.iload_n 2, 1) := by decide +kernel
theorem dX12_renderBonds_80 : decode cX12_renderBonds 80 = .ok (.invokevirtual 367, 3) := by decide +kernel
theorem dX12_renderBonds_83 : decode cX12_renderBonds 83 = .ok (.bipush 47, 2) := by decide +kernel
theorem dX12_renderBonds_85 : decode cX12_renderBonds 85 = .ok (.invokevirtual 178, 3) := by decide +kernel
theorem dX12_renderBonds_88 : decode cX12_renderBonds 88 = .ok (.iload_n 3, 1) := by decide +kernel
theorem dX12_renderBonds_89 : decode cX12_renderBonds 89 = .ok (.invokevirtual 367, 3) := by decide +kernel
theorem dX12_renderBonds_92 : decode cX12_renderBonds 92 = .ok (.pop, 1) := by decide +kernel
theorem dX12_renderBonds_93 : decode cX12_renderBonds 93 = .ok (.iinc 2 1, 3) := by decide +kernel
theorem dX12_renderBonds_96 : decode cX12_renderBonds 96 = .ok (.goto (-51), 3) := by decide +kernel
theorem dX12_renderBonds_99 : decode cX12_renderBonds 99 = .ok (.aload_n 0, 1) := by decide +kernel
theorem dX12_renderBonds_100 : decode cX12_renderBonds 100 = .ok (.getfield 40, 3) := by decide +kernel
theorem dX12_renderBonds_103 : decode cX12_renderBonds 103 = .ok (.invokevirtual 173, 3) := by decide +kernel
theorem dX12_renderBonds_106 : decode cX12_renderBonds 106 = .ok (.ireturn, 1) := by decide +kernel
theorem dX12_outputAt_0 : decode cX12_outputAt 0 = .ok (.iload_n 1, 1) := by decide +kernel
theorem dX12_outputAt_1 : decode cX12_outputAt 1 = .ok (.ifCond .lt 14, 3) := by decide +kernel
theorem dX12_outputAt_4 : decode cX12_outputAt 4 = .ok (.iload_n 1, 1) := by decide +kernel
theorem dX12_outputAt_5 : decode cX12_outputAt 5 = .ok (.aload_n 0, 1) := by decide +kernel
theorem dX12_outputAt_6 : decode cX12_outputAt 6 = .ok (.getfield 40, 3) := by decide +kernel
theorem dX12_outputAt_9 : decode cX12_outputAt 9 = .ok (.invokevirtual 173, 3) := by decide +kernel
theorem dX12_outputAt_12 : decode cX12_outputAt 12 = .ok (.if_icmp .lt 14, 3) := by decide +kernel
theorem dX12_outputAt_15 : decode cX12_outputAt 15 = .ok (.new 140, 3) := by decide +kernel
theorem dX12_outputAt_18 : decode cX12_outputAt 18 = .ok (.dup, 1) := by decide +kernel
theorem dX12_outputAt_19 : decode cX12_outputAt 19 = .ok (.ldc_w 373, 3) := by decide +kernel
theorem dX12_outputAt_22 : decode cX12_outputAt 22 = .ok (.invokespecial 144, 3) := by decide +kernel
theorem dX12_outputAt_25 : decode cX12_outputAt 25 = .ok (.athrow, 1) := by decide +kernel
theorem dX12_outputAt_26 : decode cX12_outputAt 26 = .ok (.aload_n 0, 1) := by decide +kernel
theorem dX12_outputAt_27 : decode cX12_outputAt 27 = .ok (.getfield 40, 3) := by decide +kernel
theorem dX12_outputAt_30 : decode cX12_outputAt 30 = .ok (.iload_n 1, 1) := by decide +kernel
theorem dX12_outputAt_31 : decode cX12_outputAt 31 = .ok (.invokevirtual 375, 3) := by decide +kernel
theorem dX12_outputAt_34 : decode cX12_outputAt 34 = .ok (.ireturn, 1) := by decide +kernel
theorem dX12_type_0 : decode cX12_type 0 = .ok (.iload_n 1, 1) := by decide +kernel
theorem dX12_type_1 : decode cX12_type 1 = .ok (.bipush 32, 2) := by decide +kernel
theorem dX12_type_3 : decode cX12_type 3 = .ok (.if_icmp .lt 9, 3) := by decide +kernel
theorem dX12_type_6 : decode cX12_type 6 = .ok (.iload_n 1, 1) := by decide +kernel
theorem dX12_type_7 : decode cX12_type 7 = .ok (.bipush 126, 2) := by decide +kernel
theorem dX12_type_9 : decode cX12_type 9 = .ok (.if_icmp .le 14, 3) := by decide +kernel
theorem dX12_type_12 : decode cX12_type 12 = .ok (.new 147, 3) := by decide +kernel
theorem dX12_type_15 : decode cX12_type 15 = .ok (.dup, 1) := by decide +kernel
theorem dX12_type_16 : decode cX12_type 16 = .ok (.ldc_w 376, 3) := by decide +kernel
theorem dX12_type_19 : decode cX12_type 19 = .ok (.invokespecial 151, 3) := by decide +kernel
theorem dX12_type_22 : decode cX12_type 22 = .ok (.athrow, 1) := by decide +kernel
theorem dX12_type_23 : decode cX12_type 23 = .ok (.aload_n 0, 1) := by decide +kernel
theorem dX12_type_24 : decode cX12_type 24 = .ok (.getfield 37, 3) := by decide +kernel
theorem dX12_type_27 : decode cX12_type 27 = .ok (.invokevirtual 173, 3) := by decide +kernel
theorem dX12_type_30 : decode cX12_type 30 = .ok (.bipush 60, 2) := by decide +kernel
theorem dX12_type_32 : decode cX12_type 32 = .ok (.if_icmp .lt 14, 3) := by decide +kernel
theorem dX12_type_35 : decode cX12_type 35 = .ok (.new 152, 3) := by decide +kernel
theorem dX12_type_38 : decode cX12_type 38 = .ok (.dup, 1) := by decide +kernel
theorem dX12_type_39 : decode cX12_type 39 = .ok (.ldc_w 378, 3) := by decide +kernel
theorem dX12_type_42 : decode cX12_type 42 = .ok (.invokespecial 156, 3) := by decide +kernel
theorem dX12_type_45 : decode cX12_type 45 = .ok (.athrow, 1) := by decide +kernel
theorem dX12_type_46 : decode cX12_type 46 = .ok (.aload_n 0, 1) := by decide +kernel
theorem dX12_type_47 : decode cX12_type 47 = .ok (.getfield 37, 3) := by decide +kernel
theorem dX12_type_50 : decode cX12_type 50 = .ok (.iload_n 1, 1) := by decide +kernel
theorem dX12_type_51 : decode cX12_type 51 = .ok (.invokevirtual 178, 3) := by decide +kernel
theorem dX12_type_54 : decode cX12_type 54 = .ok (.pop, 1) := by decide +kernel
theorem dX12_type_55 : decode cX12_type 55 = .ok (.aload_n 0, 1) := by decide +kernel
theorem dX12_type_56 : decode cX12_type 56 = .ok (.getfield 37, 3) := by decide +kernel
theorem dX12_type_59 : decode cX12_type 59 = .ok (.invokevirtual 173, 3) := by decide +kernel
theorem dX12_type_62 : decode cX12_type 62 = .ok (.ireturn, 1) := by decide +kernel
theorem dX12_runScript_0 : decode cX12_runScript 0 = .ok (.new 380, 3) := by decide +kernel
theorem dX12_runScript_3 : decode cX12_runScript 3 = .ok (.dup, 1) := by decide +kernel
theorem dX12_runScript_4 : decode cX12_runScript 4 = .ok (.aload_n 0, 1) := by decide +kernel
theorem dX12_runScript_5 : decode cX12_runScript 5 = .ok (.getfield 37, 3) := by decide +kernel
theorem dX12_runScript_8 : decode cX12_runScript 8 = .ok (.invokevirtual 91, 3) := by decide +kernel
theorem dX12_runScript_11 : decode cX12_runScript 11 = .ok (.invokespecial 382, 3) := by decide +kernel
theorem dX12_runScript_14 : decode cX12_runScript 14 = .ok (.astore_n 1, 1) := by decide +kernel
theorem dX12_runScript_15 : decode cX12_runScript 15 = .ok (.aload_n 0, 1) := by decide +kernel
theorem dX12_runScript_16 : decode cX12_runScript 16 = .ok (.getfield 37, 3) := by decide +kernel
theorem dX12_runScript_19 : decode cX12_runScript 19 = .ok (.iconst 0, 1) := by decide +kernel
theorem dX12_runScript_20 : decode cX12_runScript 20 = .ok (.invokevirtual 99, 3) := by decide +kernel
theorem dX12_runScript_23 : decode cX12_runScript 23 = .ok (.aload_n 1, 1) := by decide +kernel
theorem dX12_runScript_24 : decode cX12_runScript 24 = .ok (.invokevirtual 383, 3) := by decide +kernel
theorem dX12_runScript_27 : decode cX12_runScript 27 = .ok (.ifCond .ne 22, 3) := by decide +kernel
theorem dX12_runScript_30 : decode cX12_runScript 30 = .ok (.aload_n 0, 1) := by decide +kernel
theorem dX12_runScript_31 : decode cX12_runScript 31 = .ok (.aload_n 1, 1) := by decide +kernel
theorem dX12_runScript_32 : decode cX12_runScript 32 = .ok (.getfield 386, 3) := by decide +kernel
theorem dX12_runScript_35 : decode cX12_runScript 35 = .ok (.putfield 43, 3) := by decide +kernel
theorem dX12_runScript_38 : decode cX12_runScript 38 = .ok (.new 147, 3) := by decide +kernel
theorem dX12_runScript_41 : decode cX12_runScript 41 = .ok (.dup, 1) := by decide +kernel
theorem dX12_runScript_42 : decode cX12_runScript 42 = .ok (.ldc_w 389, 3) := by decide +kernel
theorem dX12_runScript_45 : decode cX12_runScript 45 = .ok (.invokespecial 151, 3) := by decide +kernel
theorem dX12_runScript_48 : decode cX12_runScript 48 = .ok (.athrow, 1) := by decide +kernel
theorem dX12_runScript_49 : decode cX12_runScript 49 = .ok (.aload_n 0, 1) := by decide +kernel
theorem dX12_runScript_50 : decode cX12_runScript 50 = .ok (.getfield 10, 3) := by decide +kernel
theorem dX12_runScript_53 : decode cX12_runScript 53 = .ok (.invokevirtual 71, 3) := by decide +kernel
theorem dX12_runScript_56 : decode cX12_runScript 56 = .ok (.astore_n 2, 1) := by decide +kernel
theorem dX12_runScript_57 : decode cX12_runScript 57 = .ok (.iconst 0, 1) := by decide +kernel
theorem dX12_runScript_58 : decode cX12_runScript 58 = .ok (.istore_n 3, 1) := by decide +kernel
theorem dX12_runScript_59 : decode cX12_runScript 59 = .ok (.iload_n 3, 1) := by decide +kernel
theorem dX12_runScript_60 : decode cX12_runScript 60 = .ok (.aload_n 1, 1) := by decide +kernel
theorem dX12_runScript_61 : decode cX12_runScript 61 = .ok (.getfield 391, 3) := by decide +kernel
theorem dX12_runScript_64 : decode cX12_runScript 64 = .ok (.invokevirtual 128, 3) := by decide +kernel
theorem dX12_runScript_67 : decode cX12_runScript 67 = .ok (.if_icmp .ge 47, 3) := by decide +kernel
theorem dX12_runScript_70 : decode cX12_runScript 70 = .ok (.aload_n 0, 1) := by decide +kernel
theorem dX12_runScript_71 : decode cX12_runScript 71 = .ok (.getfield 53, 3) := by decide +kernel
theorem dX12_runScript_74 : decode cX12_runScript 74 = .ok (.aload_n 2, 1) := by decide +kernel
theorem dX12_runScript_75 : decode cX12_runScript 75 = .ok (.aload_n 1, 1) := by decide +kernel
theorem dX12_runScript_76 : decode cX12_runScript 76 = .ok (.getfield 391, 3) := by decide +kernel
theorem dX12_runScript_79 : decode cX12_runScript 79 = .ok (.iload_n 3, 1) := by decide +kernel
theorem dX12_runScript_80 : decode cX12_runScript 80 = .ok (.invokevirtual 245, 3) := by decide +kernel
theorem dX12_runScript_83 : decode cX12_runScript 83 = .ok (.checkcast 394, 3) := by decide +kernel
theorem dX12_runScript_86 : decode cX12_runScript 86 = .ok (.invokevirtual 396, 3) := by decide +kernel
theorem dX12_runScript_89 : decode cX12_runScript 89 = .ok (.ifCond .ge 19, 3) := by decide +kernel
theorem dX12_runScript_92 : decode cX12_runScript 92 = .ok (.aload_n 0, 1) := by decide +kernel
theorem dX12_runScript_93 : decode cX12_runScript 93 = .ok (.iload_n 3, 1) := by decide +kernel
theorem dX12_runScript_94 : decode cX12_runScript 94 = .ok (.putfield 47, 3) := by decide +kernel
theorem dX12_runScript_97 : decode cX12_runScript 97 = .ok (.new 152, 3) := by decide +kernel
theorem dX12_runScript_100 : decode cX12_runScript 100 = .ok (.dup, 1) := by decide +kernel
theorem dX12_runScript_101 : decode cX12_runScript 101 = .ok (.ldc_w 400, 3) := by decide +kernel
theorem dX12_runScript_104 : decode cX12_runScript 104 = .ok (.invokespecial 156, 3) := by decide +kernel
theorem dX12_runScript_107 : decode cX12_runScript 107 = .ok (.athrow, 1) := by decide +kernel
theorem dX12_runScript_108 : decode cX12_runScript 108 = .ok (.iinc 3 1, 3) := by decide +kernel
theorem dX12_runScript_111 : decode cX12_runScript 111 = .ok (.goto (-52), 3) := by decide +kernel
theorem dX12_runScript_114 : decode cX12_runScript 114 = .ok (.aload_n 0, 1) := by decide +kernel
theorem dX12_runScript_115 : decode cX12_runScript 115 = .ok (.aload_n 2, 1) := by decide +kernel
theorem dX12_runScript_116 : decode cX12_runScript 116 = .ok (.aload_n 1, 1) := by decide +kernel
theorem dX12_runScript_117 : decode cX12_runScript 117 = .ok (.getfield 391, 3) := by decide +kernel
theorem dX12_runScript_120 : decode cX12_runScript 120 = .ok (.invokevirtual 128, 3) := by decide +kernel
theorem dX12_runScript_123 : decode cX12_runScript 123 = .ok (.invokevirtual 79, 3) := by decide +kernel
theorem dX12_runScript_126 : decode cX12_runScript 126 = .ok (.ireturn, 1) := by decide +kernel
theorem dX12_errorPosition_0 : decode cX12_errorPosition 0 = .ok (.aload_n 0, 1) := by decide +kernel
theorem dX12_errorPosition_1 : decode cX12_errorPosition 1 = .ok (.getfield 43, 3) := by decide +kernel
theorem dX12_errorPosition_4 : decode cX12_errorPosition 4 = .ok (.iconst (-1), 1) := by decide +kernel
theorem dX12_errorPosition_5 : decode cX12_errorPosition 5 = .ok (.if_icmp .ne 14, 3) := by decide +kernel
theorem dX12_errorPosition_8 : decode cX12_errorPosition 8 = .ok (.new 157, 3) := by decide +kernel
theorem dX12_errorPosition_11 : decode cX12_errorPosition 11 = .ok (.dup, 1) := by decide +kernel
theorem dX12_errorPosition_12 : decode cX12_errorPosition 12 = .ok (.ldc_w 402, 3) := by decide +kernel
theorem dX12_errorPosition_15 : decode cX12_errorPosition 15 = .ok (.invokespecial 161, 3) := by decide +kernel
theorem dX12_errorPosition_18 : decode cX12_errorPosition 18 = .ok (.athrow, 1) := by decide +kernel
theorem dX12_errorPosition_19 : decode cX12_errorPosition 19 = .ok (.aload_n 0, 1) := by decide +kernel
theorem dX12_errorPosition_20 : decode cX12_errorPosition 20 = .ok (.getfield 43, 3) := by decide +kernel
theorem dX12_errorPosition_23 : decode cX12_errorPosition 23 = .ok (.ireturn, 1) := by decide +kernel
theorem dX12_failedCommand_0 : decode cX12_failedCommand 0 = .ok (.aload_n 0, 1) := by decide +kernel
theorem dX12_failedCommand_1 : decode cX12_failedCommand 1 = .ok (.getfield 47, 3) := by decide +kernel
theorem dX12_failedCommand_4 : decode cX12_failedCommand 4 = .ok (.iconst (-1), 1) := by decide +kernel
theorem dX12_failedCommand_5 : decode cX12_failedCommand 5 = .ok (.if_icmp .ne 14, 3) := by decide +kernel
theorem dX12_failedCommand_8 : decode cX12_failedCommand 8 = .ok (.new 157, 3) := by decide +kernel
theorem dX12_failedCommand_11 : decode cX12_failedCommand 11 = .ok (.dup, 1) := by decide +kernel
theorem dX12_failedCommand_12 : decode cX12_failedCommand 12 = .ok (.ldc_w 404, 3) := by decide +kernel
theorem dX12_failedCommand_15 : decode cX12_failedCommand 15 = .ok (.invokespecial 161, 3) := by decide +kernel
theorem dX12_failedCommand_18 : decode cX12_failedCommand 18 = .ok (.athrow, 1) := by decide +kernel
theorem dX12_failedCommand_19 : decode cX12_failedCommand 19 = .ok (.aload_n 0, 1) := by decide +kernel
theorem dX12_failedCommand_20 : decode cX12_failedCommand 20 = .ok (.getfield 47, 3) := by decide +kernel
theorem dX12_failedCommand_23 : decode cX12_failedCommand 23 = .ok (.ireturn, 1) := by decide +kernel
theorem dX12_undo_0 : decode cX12_undo 0 = .ok (.aload_n 0, 1) := by decide +kernel
theorem dX12_undo_1 : decode cX12_undo 1 = .ok (.getfield 26, 3) := by decide +kernel
theorem dX12_undo_4 : decode cX12_undo 4 = .ok (.invokevirtual 406, 3) := by decide +kernel
theorem dX12_undo_7 : decode cX12_undo 7 = .ok (.ifCond .eq 14, 3) := by decide +kernel
theorem dX12_undo_10 : decode cX12_undo 10 = .ok (.new 152, 3) := by decide +kernel
theorem dX12_undo_13 : decode cX12_undo 13 = .ok (.dup, 1) := by decide +kernel
theorem dX12_undo_14 : decode cX12_undo 14 = .ok (.ldc_w 409, 3) := by decide +kernel
theorem dX12_undo_17 : decode cX12_undo 17 = .ok (.invokespecial 156, 3) := by decide +kernel
theorem dX12_undo_20 : decode cX12_undo 20 = .ok (.athrow, 1) := by decide +kernel
theorem dX12_undo_21 : decode cX12_undo 21 = .ok (.aload_n 0, 1) := by decide +kernel
theorem dX12_undo_22 : decode cX12_undo 22 = .ok (.aload_n 0, 1) := by decide +kernel
theorem dX12_undo_23 : decode cX12_undo 23 = .ok (.getfield 26, 3) := by decide +kernel
theorem dX12_undo_26 : decode cX12_undo 26 = .ok (.aload_n 0, 1) := by decide +kernel
theorem dX12_undo_27 : decode cX12_undo 27 = .ok (.getfield 26, 3) := by decide +kernel
theorem dX12_undo_30 : decode cX12_undo 30 = .ok (.invokevirtual 128, 3) := by decide +kernel
theorem dX12_undo_33 : decode cX12_undo 33 = .ok (.iconst 1, 1) := by decide +kernel
theorem dX12_undo_34 : decode cX12_undo 34 = .ok (.isub, 1) := by decide +kernel
theorem dX12_undo_35 : decode cX12_undo 35 = .ok (.invokevirtual 132, 3) := by decide +kernel
theorem dX12_undo_38 : decode cX12_undo 38 = .ok (.checkcast 7, 3) := by decide +kernel
theorem dX12_undo_41 : decode cX12_undo 41 = .ok (.putfield 10, 3) := by decide +kernel
theorem dX12_undo_44 : decode cX12_undo 44 = .ok (.aload_n 0, 1) := by decide +kernel
theorem dX12_undo_45 : decode cX12_undo 45 = .ok (.getfield 26, 3) := by decide +kernel
theorem dX12_undo_48 : decode cX12_undo 48 = .ok (.invokevirtual 128, 3) := by decide +kernel
theorem dX12_undo_51 : decode cX12_undo 51 = .ok (.ireturn, 1) := by decide +kernel
theorem dX12_save_0 : decode cX12_save 0 = .ok (.aload_n 0, 1) := by decide +kernel
theorem dX12_save_1 : decode cX12_save 1 = .ok (.aload_n 0, 1) := by decide +kernel
theorem dX12_save_2 : decode cX12_save 2 = .ok (.getfield 10, 3) := by decide +kernel
theorem dX12_save_5 : decode cX12_save 5 = .ok (.putfield 16, 3) := by decide +kernel
theorem dX12_save_8 : decode cX12_save 8 = .ok (.aload_n 0, 1) := by decide +kernel
theorem dX12_save_9 : decode cX12_save 9 = .ok (.iconst 1, 1) := by decide +kernel
theorem dX12_save_10 : decode cX12_save 10 = .ok (.putfield 19, 3) := by decide +kernel
theorem dX12_save_13 : decode cX12_save 13 = .ok (.aload_n 0, 1) := by decide +kernel
theorem dX12_save_14 : decode cX12_save 14 = .ok (.getfield 10, 3) := by decide +kernel
theorem dX12_save_17 : decode cX12_save 17 = .ok (.getfield 240, 3) := by decide +kernel
theorem dX12_save_20 : decode cX12_save 20 = .ok (.invokevirtual 128, 3) := by decide +kernel
theorem dX12_save_23 : decode cX12_save 23 = .ok (.ireturn, 1) := by decide +kernel
theorem dX12_restore_0 : decode cX12_restore 0 = .ok (.aload_n 0, 1) := by decide +kernel
theorem dX12_restore_1 : decode cX12_restore 1 = .ok (.getfield 19, 3) := by decide +kernel
theorem dX12_restore_4 : decode cX12_restore 4 = .ok (.ifCond .ne 14, 3) := by decide +kernel
theorem dX12_restore_7 : decode cX12_restore 7 = .ok (.new 152, 3) := by decide +kernel
theorem dX12_restore_10 : decode cX12_restore 10 = .ok (.dup, 1) := by decide +kernel
theorem dX12_restore_11 : decode cX12_restore 11 = .ok (.ldc_w 411, 3) := by decide +kernel
theorem dX12_restore_14 : decode cX12_restore 14 = .ok (.invokespecial 156, 3) := by decide +kernel
theorem dX12_restore_17 : decode cX12_restore 17 = .ok (.athrow, 1) := by decide +kernel
theorem dX12_restore_18 : decode cX12_restore 18 = .ok (.aload_n 0, 1) := by decide +kernel
theorem dX12_restore_19 : decode cX12_restore 19 = .ok (.aload_n 0, 1) := by decide +kernel
theorem dX12_restore_20 : decode cX12_restore 20 = .ok (.getfield 16, 3) := by decide +kernel
theorem dX12_restore_23 : decode cX12_restore 23 = .ok (.putfield 10, 3) := by decide +kernel
theorem dX12_restore_26 : decode cX12_restore 26 = .ok (.aload_n 0, 1) := by decide +kernel
theorem dX12_restore_27 : decode cX12_restore 27 = .ok (.getfield 26, 3) := by decide +kernel
theorem dX12_restore_30 : decode cX12_restore 30 = .ok (.invokevirtual 413, 3) := by decide +kernel
theorem dX12_restore_33 : decode cX12_restore 33 = .ok (.aload_n 0, 1) := by decide +kernel
theorem dX12_restore_34 : decode cX12_restore 34 = .ok (.getfield 10, 3) := by decide +kernel
theorem dX12_restore_37 : decode cX12_restore 37 = .ok (.getfield 240, 3) := by decide +kernel
theorem dX12_restore_40 : decode cX12_restore 40 = .ok (.invokevirtual 128, 3) := by decide +kernel
theorem dX12_restore_43 : decode cX12_restore 43 = .ok (.ireturn, 1) := by decide +kernel
theorem dJ5_init_d00df_0 : decode cJ5_init_d00df 0 = .ok (.aload_n 0, 1) := by decide +kernel
theorem dJ5_init_d00df_1 : decode cJ5_init_d00df 1 = .ok (.invokespecial 3, 3) := by decide +kernel
theorem dJ5_init_d00df_4 : decode cJ5_init_d00df 4 = .ok (.getstatic 18, 3) := by decide +kernel
theorem dJ5_init_d00df_7 : decode cJ5_init_d00df 7 = .ok (.ifCond .eq 18, 3) := by decide +kernel
theorem dJ5_init_d00df_10 : decode cJ5_init_d00df 10 = .ok (.aload_n 0, 1) := by decide +kernel
theorem dJ5_init_d00df_11 : decode cJ5_init_d00df 11 = .ok (.iload_n 1, 1) := by decide +kernel
theorem dJ5_init_d00df_12 : decode cJ5_init_d00df 12 = .ok (.newarray .byte, 2) := by decide +kernel
theorem dJ5_init_d00df_14 : decode cJ5_init_d00df 14 = .ok (.putfield 15, 3) := by decide +kernel
theorem dJ5_init_d00df_17 : decode cJ5_init_d00df 17 = .ok (.aload_n 0, 1) := by decide +kernel
theorem dJ5_init_d00df_18 : decode cJ5_init_d00df 18 = .ok (.iconst 0, 1) := by decide +kernel
theorem dJ5_init_d00df_19 : decode cJ5_init_d00df 19 = .ok (.putfield 22, 3) := by decide +kernel
theorem dJ5_init_d00df_22 : decode cJ5_init_d00df 22 = .ok (.goto 16, 3) := by decide +kernel
theorem dJ5_init_d00df_25 : decode cJ5_init_d00df 25 = .ok (.aload_n 0, 1) := by decide +kernel
theorem dJ5_init_d00df_26 : decode cJ5_init_d00df 26 = .ok (.iload_n 1, 1) := by decide +kernel
theorem dJ5_init_d00df_27 : decode cJ5_init_d00df 27 = .ok (.invokestatic 26, 3) := by decide +kernel
theorem dJ5_init_d00df_30 : decode cJ5_init_d00df 30 = .ok (.putfield 15, 3) := by decide +kernel
theorem dJ5_init_d00df_33 : decode cJ5_init_d00df 33 = .ok (.aload_n 0, 1) := by decide +kernel
theorem dJ5_init_d00df_34 : decode cJ5_init_d00df 34 = .ok (.iconst 1, 1) := by decide +kernel
theorem dJ5_init_d00df_35 : decode cJ5_init_d00df 35 = .ok (.putfield 22, 3) := by decide +kernel
theorem dJ5_init_d00df_38 : decode cJ5_init_d00df 38 = .ok (.return_, 1) := by decide +kernel
theorem dJ5_length_8abf5_0 : decode cJ5_length_8abf5 0 = .ok (.aload_n 0, 1) := by decide +kernel
theorem dJ5_length_8abf5_1 : decode cJ5_length_8abf5 1 = .ok (.getfield 79, 3) := by decide +kernel
theorem dJ5_length_8abf5_4 : decode cJ5_length_8abf5 4 = .ok (.ireturn, 1) := by decide +kernel
theorem dJ5_ensureCapacityInternal_d00df_0 : decode cJ5_ensureCapacityInternal_d00df 0 = .ok (.aload_n 0, 1) := by decide +kernel
theorem dJ5_ensureCapacityInternal_d00df_1 : decode cJ5_ensureCapacityInternal_d00df 1 = .ok (.getfield 15, 3) := by decide +kernel
theorem dJ5_ensureCapacityInternal_d00df_4 : decode cJ5_ensureCapacityInternal_d00df 4 = .ok (.arraylength, 1) := by decide +kernel
theorem dJ5_ensureCapacityInternal_d00df_5 : decode cJ5_ensureCapacityInternal_d00df 5 = .ok (.aload_n 0, 1) := by decide +kernel
theorem dJ5_ensureCapacityInternal_d00df_6 : decode cJ5_ensureCapacityInternal_d00df 6 = .ok (.getfield 22, 3) := by decide +kernel
theorem dJ5_ensureCapacityInternal_d00df_9 : decode cJ5_ensureCapacityInternal_d00df 9 = .ok (.ishr, 1) := by decide +kernel
theorem dJ5_ensureCapacityInternal_d00df_10 : decode cJ5_ensureCapacityInternal_d00df 10 = .ok (.istore_n 2, 1) := by decide +kernel
theorem dJ5_ensureCapacityInternal_d00df_11 : decode cJ5_ensureCapacityInternal_d00df 11 = .ok (.iload_n 1, 1) := by decide +kernel
theorem dJ5_ensureCapacityInternal_d00df_12 : decode cJ5_ensureCapacityInternal_d00df 12 = .ok (.iload_n 2, 1) := by decide +kernel
theorem dJ5_ensureCapacityInternal_d00df_13 : decode cJ5_ensureCapacityInternal_d00df 13 = .ok (.isub, 1) := by decide +kernel
theorem dJ5_ensureCapacityInternal_d00df_14 : decode cJ5_ensureCapacityInternal_d00df 14 = .ok (.ifCond .le 24, 3) := by decide +kernel
theorem dJ5_ensureCapacityInternal_d00df_17 : decode cJ5_ensureCapacityInternal_d00df 17 = .ok (.aload_n 0, 1) := by decide +kernel
theorem dJ5_ensureCapacityInternal_d00df_18 : decode cJ5_ensureCapacityInternal_d00df 18 = .ok (.aload_n 0, 1) := by decide +kernel
theorem dJ5_ensureCapacityInternal_d00df_19 : decode cJ5_ensureCapacityInternal_d00df 19 = .ok (.getfield 15, 3) := by decide +kernel
theorem dJ5_ensureCapacityInternal_d00df_22 : decode cJ5_ensureCapacityInternal_d00df 22 = .ok (.aload_n 0, 1) := by decide +kernel
theorem dJ5_ensureCapacityInternal_d00df_23 : decode cJ5_ensureCapacityInternal_d00df 23 = .ok (.iload_n 1, 1) := by decide +kernel
theorem dJ5_ensureCapacityInternal_d00df_24 : decode cJ5_ensureCapacityInternal_d00df 24 = .ok (.invokevirtual 104, 3) := by decide +kernel
theorem dJ5_ensureCapacityInternal_d00df_27 : decode cJ5_ensureCapacityInternal_d00df 27 = .ok (.aload_n 0, 1) := by decide +kernel
theorem dJ5_ensureCapacityInternal_d00df_28 : decode cJ5_ensureCapacityInternal_d00df 28 = .ok (.getfield 22, 3) := by decide +kernel
theorem dJ5_ensureCapacityInternal_d00df_31 : decode cJ5_ensureCapacityInternal_d00df 31 = .ok (.ishl, 1) := by decide +kernel
theorem dJ5_ensureCapacityInternal_d00df_32 : decode cJ5_ensureCapacityInternal_d00df 32 = .ok (.invokestatic 108, 3) := by decide +kernel
theorem dJ5_ensureCapacityInternal_d00df_35 : decode cJ5_ensureCapacityInternal_d00df 35 = .ok (.putfield 15, 3) := by decide +kernel
theorem dJ5_ensureCapacityInternal_d00df_38 : decode cJ5_ensureCapacityInternal_d00df 38 = .ok (.return_, 1) := by decide +kernel
theorem dJ5_newCapacity_0f7a4_0 : decode cJ5_newCapacity_0f7a4 0 = .ok (.aload_n 0, 1) := by decide +kernel
theorem dJ5_newCapacity_0f7a4_1 : decode cJ5_newCapacity_0f7a4 1 = .ok (.getfield 15, 3) := by decide +kernel
theorem dJ5_newCapacity_0f7a4_4 : decode cJ5_newCapacity_0f7a4 4 = .ok (.arraylength, 1) := by decide +kernel
theorem dJ5_newCapacity_0f7a4_5 : decode cJ5_newCapacity_0f7a4 5 = .ok (.istore_n 2, 1) := by decide +kernel
theorem dJ5_newCapacity_0f7a4_6 : decode cJ5_newCapacity_0f7a4 6 = .ok (.iload_n 1, 1) := by decide +kernel
theorem dJ5_newCapacity_0f7a4_7 : decode cJ5_newCapacity_0f7a4 7 = .ok (.aload_n 0, 1) := by decide +kernel
theorem dJ5_newCapacity_0f7a4_8 : decode cJ5_newCapacity_0f7a4 8 = .ok (.getfield 22, 3) := by decide +kernel
theorem dJ5_newCapacity_0f7a4_11 : decode cJ5_newCapacity_0f7a4 11 = .ok (.ishl, 1) := by decide +kernel
theorem dJ5_newCapacity_0f7a4_12 : decode cJ5_newCapacity_0f7a4 12 = .ok (.istore_n 3, 1) := by decide +kernel
theorem dJ5_newCapacity_0f7a4_13 : decode cJ5_newCapacity_0f7a4 13 = .ok (.iload_n 3, 1) := by decide +kernel
theorem dJ5_newCapacity_0f7a4_14 : decode cJ5_newCapacity_0f7a4 14 = .ok (.iload_n 2, 1) := by decide +kernel
theorem dJ5_newCapacity_0f7a4_15 : decode cJ5_newCapacity_0f7a4 15 = .ok (.isub, 1) := by decide +kernel
theorem dJ5_newCapacity_0f7a4_16 : decode cJ5_newCapacity_0f7a4 16 = .ok (.istore 4, 2) := by decide +kernel
theorem dJ5_newCapacity_0f7a4_18 : decode cJ5_newCapacity_0f7a4 18 = .ok (.iload_n 2, 1) := by decide +kernel
theorem dJ5_newCapacity_0f7a4_19 : decode cJ5_newCapacity_0f7a4 19 = .ok (.iload 4, 2) := by decide +kernel
theorem dJ5_newCapacity_0f7a4_21 : decode cJ5_newCapacity_0f7a4 21 = .ok (.iload_n 2, 1) := by decide +kernel
theorem dJ5_newCapacity_0f7a4_22 : decode cJ5_newCapacity_0f7a4 22 = .ok (.iconst 2, 1) := by decide +kernel
theorem dJ5_newCapacity_0f7a4_23 : decode cJ5_newCapacity_0f7a4 23 = .ok (.aload_n 0, 1) := by decide +kernel
theorem dJ5_newCapacity_0f7a4_24 : decode cJ5_newCapacity_0f7a4 24 = .ok (.getfield 22, 3) := by decide +kernel
theorem dJ5_newCapacity_0f7a4_27 : decode cJ5_newCapacity_0f7a4 27 = .ok (.ishl, 1) := by decide +kernel
theorem dJ5_newCapacity_0f7a4_28 : decode cJ5_newCapacity_0f7a4 28 = .ok (.iadd, 1) := by decide +kernel
theorem dJ5_newCapacity_0f7a4_29 : decode cJ5_newCapacity_0f7a4 29 = .ok (.invokestatic 114, 3) := by decide +kernel
theorem dJ5_newCapacity_0f7a4_32 : decode cJ5_newCapacity_0f7a4 32 = .ok (.istore 5, 2) := by decide +kernel
theorem dJ5_newCapacity_0f7a4_34 : decode cJ5_newCapacity_0f7a4 34 = .ok (.iload 5, 2) := by decide +kernel
theorem dJ5_newCapacity_0f7a4_36 : decode cJ5_newCapacity_0f7a4 36 = .ok (.ldc 39, 2) := by decide +kernel
theorem dJ5_newCapacity_0f7a4_38 : decode cJ5_newCapacity_0f7a4 38 = .ok (.if_icmp .ne 13, 3) := by decide +kernel
theorem dJ5_newCapacity_0f7a4_41 : decode cJ5_newCapacity_0f7a4 41 = .ok (.new 120, 3) := by decide +kernel
theorem dJ5_newCapacity_0f7a4_44 : decode cJ5_newCapacity_0f7a4 44 = .ok (.dup, 1) := by decide +kernel
theorem dJ5_newCapacity_0f7a4_45 : decode cJ5_newCapacity_0f7a4 45 = .ok (.ldc 122, 2) := by decide +kernel
theorem dJ5_newCapacity_0f7a4_47 : decode cJ5_newCapacity_0f7a4 47 = .ok (.invokespecial 124, 3) := by decide +kernel
theorem dJ5_newCapacity_0f7a4_50 : decode cJ5_newCapacity_0f7a4 50 = .ok (.athrow, 1) := by decide +kernel
theorem dJ5_newCapacity_0f7a4_51 : decode cJ5_newCapacity_0f7a4 51 = .ok (.iload 5, 2) := by decide +kernel
theorem dJ5_newCapacity_0f7a4_53 : decode cJ5_newCapacity_0f7a4 53 = .ok (.aload_n 0, 1) := by decide +kernel
theorem dJ5_newCapacity_0f7a4_54 : decode cJ5_newCapacity_0f7a4 54 = .ok (.getfield 22, 3) := by decide +kernel
theorem dJ5_newCapacity_0f7a4_57 : decode cJ5_newCapacity_0f7a4 57 = .ok (.ishr, 1) := by decide +kernel
theorem dJ5_newCapacity_0f7a4_58 : decode cJ5_newCapacity_0f7a4 58 = .ok (.ireturn, 1) := by decide +kernel
theorem dJ5_setLength_d00df_0 : decode cJ5_setLength_d00df 0 = .ok (.iload_n 1, 1) := by decide +kernel
theorem dJ5_setLength_d00df_1 : decode cJ5_setLength_d00df 1 = .ok (.ifCond .ge 12, 3) := by decide +kernel
theorem dJ5_setLength_d00df_4 : decode cJ5_setLength_d00df 4 = .ok (.new 129, 3) := by decide +kernel
theorem dJ5_setLength_d00df_7 : decode cJ5_setLength_d00df 7 = .ok (.dup, 1) := by decide +kernel
theorem dJ5_setLength_d00df_8 : decode cJ5_setLength_d00df 8 = .ok (.iload_n 1, 1) := by decide +kernel
theorem dJ5_setLength_d00df_9 : decode cJ5_setLength_d00df 9 = .ok (.invokespecial 131, 3) := by decide +kernel
theorem dJ5_setLength_d00df_12 : decode cJ5_setLength_d00df 12 = .ok (.athrow, 1) := by decide +kernel
theorem dJ5_setLength_d00df_13 : decode cJ5_setLength_d00df 13 = .ok (.aload_n 0, 1) := by decide +kernel
theorem dJ5_setLength_d00df_14 : decode cJ5_setLength_d00df 14 = .ok (.iload_n 1, 1) := by decide +kernel
theorem dJ5_setLength_d00df_15 : decode cJ5_setLength_d00df 15 = .ok (.invokevirtual 100, 3) := by decide +kernel
theorem dJ5_setLength_d00df_18 : decode cJ5_setLength_d00df 18 = .ok (.aload_n 0, 1) := by decide +kernel
theorem dJ5_setLength_d00df_19 : decode cJ5_setLength_d00df 19 = .ok (.getfield 79, 3) := by decide +kernel
theorem dJ5_setLength_d00df_22 : decode cJ5_setLength_d00df 22 = .ok (.iload_n 1, 1) := by decide +kernel
theorem dJ5_setLength_d00df_23 : decode cJ5_setLength_d00df 23 = .ok (.if_icmp .ge 40, 3) := by decide +kernel
theorem dJ5_setLength_d00df_26 : decode cJ5_setLength_d00df 26 = .ok (.aload_n 0, 1) := by decide +kernel
theorem dJ5_setLength_d00df_27 : decode cJ5_setLength_d00df 27 = .ok (.invokevirtual 83, 3) := by decide +kernel
theorem dJ5_setLength_d00df_30 : decode cJ5_setLength_d00df 30 = .ok (.ifCond .eq 18, 3) := by decide +kernel
theorem dJ5_setLength_d00df_33 : decode cJ5_setLength_d00df 33 = .ok (.aload_n 0, 1) := by decide +kernel
theorem dJ5_setLength_d00df_34 : decode cJ5_setLength_d00df 34 = .ok (.getfield 15, 3) := by decide +kernel
theorem dJ5_setLength_d00df_37 : decode cJ5_setLength_d00df 37 = .ok (.aload_n 0, 1) := by decide +kernel
theorem dJ5_setLength_d00df_38 : decode cJ5_setLength_d00df 38 = .ok (.getfield 79, 3) := by decide +kernel
theorem dJ5_setLength_d00df_41 : decode cJ5_setLength_d00df 41 = .ok (.iload_n 1, 1) := by decide +kernel
theorem dJ5_setLength_d00df_42 : decode cJ5_setLength_d00df 42 = .ok (.invokestatic 133, 3) := by decide +kernel
theorem dJ5_setLength_d00df_45 : decode cJ5_setLength_d00df 45 = .ok (.goto 31, 3) := by decide +kernel
theorem dJ5_setLength_d00df_48 : decode cJ5_setLength_d00df 48 = .ok (.aload_n 0, 1) := by decide +kernel
theorem dJ5_setLength_d00df_49 : decode cJ5_setLength_d00df 49 = .ok (.getfield 15, 3) := by decide +kernel
theorem dJ5_setLength_d00df_52 : decode cJ5_setLength_d00df 52 = .ok (.aload_n 0, 1) := by decide +kernel
theorem dJ5_setLength_d00df_53 : decode cJ5_setLength_d00df 53 = .ok (.getfield 79, 3) := by decide +kernel
theorem dJ5_setLength_d00df_56 : decode cJ5_setLength_d00df 56 = .ok (.iload_n 1, 1) := by decide +kernel
theorem dJ5_setLength_d00df_57 : decode cJ5_setLength_d00df 57 = .ok (.invokestatic 137, 3) := by decide +kernel
theorem dJ5_setLength_d00df_60 : decode cJ5_setLength_d00df 60 = .ok (.goto 16, 3) := by decide +kernel
theorem dJ5_setLength_d00df_63 : decode cJ5_setLength_d00df 63 = .ok (.aload_n 0, 1) := by decide +kernel
theorem dJ5_setLength_d00df_64 : decode cJ5_setLength_d00df 64 = .ok (.getfield 79, 3) := by decide +kernel
theorem dJ5_setLength_d00df_67 : decode cJ5_setLength_d00df 67 = .ok (.iload_n 1, 1) := by decide +kernel
theorem dJ5_setLength_d00df_68 : decode cJ5_setLength_d00df 68 = .ok (.if_icmp .le 8, 3) := by decide +kernel
theorem dJ5_setLength_d00df_71 : decode cJ5_setLength_d00df 71 = .ok (.aload_n 0, 1) := by decide +kernel
theorem dJ5_setLength_d00df_72 : decode cJ5_setLength_d00df 72 = .ok (.iconst 1, 1) := by decide +kernel
theorem dJ5_setLength_d00df_73 : decode cJ5_setLength_d00df 73 = .ok (.putfield 73, 3) := by decide +kernel
theorem dJ5_setLength_d00df_76 : decode cJ5_setLength_d00df 76 = .ok (.aload_n 0, 1) := by decide +kernel
theorem dJ5_setLength_d00df_77 : decode cJ5_setLength_d00df 77 = .ok (.iload_n 1, 1) := by decide +kernel
theorem dJ5_setLength_d00df_78 : decode cJ5_setLength_d00df 78 = .ok (.putfield 79, 3) := by decide +kernel
theorem dJ5_setLength_d00df_81 : decode cJ5_setLength_d00df 81 = .ok (.return_, 1) := by decide +kernel
theorem dJ5_charAt_5068e_0 : decode cJ5_charAt_5068e 0 = .ok (.aload_n 0, 1) := by decide +kernel
theorem dJ5_charAt_5068e_1 : decode cJ5_charAt_5068e 1 = .ok (.getfield 22, 3) := by decide +kernel
theorem dJ5_charAt_5068e_4 : decode cJ5_charAt_5068e 4 = .ok (.istore_n 2, 1) := by decide +kernel
theorem dJ5_charAt_5068e_5 : decode cJ5_charAt_5068e 5 = .ok (.aload_n 0, 1) := by decide +kernel
theorem dJ5_charAt_5068e_6 : decode cJ5_charAt_5068e 6 = .ok (.getfield 15, 3) := by decide +kernel
theorem dJ5_charAt_5068e_9 : decode cJ5_charAt_5068e 9 = .ok (.astore_n 3, 1) := by decide +kernel
theorem dJ5_charAt_5068e_10 : decode cJ5_charAt_5068e 10 = .ok (.aload_n 0, 1) := by decide +kernel
theorem dJ5_charAt_5068e_11 : decode cJ5_charAt_5068e 11 = .ok (.getfield 79, 3) := by decide +kernel
theorem dJ5_charAt_5068e_14 : decode cJ5_charAt_5068e 14 = .ok (.aload_n 3, 1) := by decide +kernel
theorem dJ5_charAt_5068e_15 : decode cJ5_charAt_5068e 15 = .ok (.arraylength, 1) := by decide +kernel
theorem dJ5_charAt_5068e_16 : decode cJ5_charAt_5068e 16 = .ok (.iload_n 2, 1) := by decide +kernel
theorem dJ5_charAt_5068e_17 : decode cJ5_charAt_5068e 17 = .ok (.ishr, 1) := by decide +kernel
theorem dJ5_charAt_5068e_18 : decode cJ5_charAt_5068e 18 = .ok (.invokestatic 138, 3) := by decide +kernel
theorem dJ5_charAt_5068e_21 : decode cJ5_charAt_5068e 21 = .ok (.istore 4, 2) := by decide +kernel
theorem dJ5_charAt_5068e_23 : decode cJ5_charAt_5068e 23 = .ok (.iload_n 1, 1) := by decide +kernel
theorem dJ5_charAt_5068e_24 : decode cJ5_charAt_5068e 24 = .ok (.iload 4, 2) := by decide +kernel
theorem dJ5_charAt_5068e_26 : decode cJ5_charAt_5068e 26 = .ok (.invokestatic 144, 3) := by decide +kernel
theorem dJ5_charAt_5068e_29 : decode cJ5_charAt_5068e 29 = .ok (.iload_n 2, 1) := by decide +kernel
theorem dJ5_charAt_5068e_30 : decode cJ5_charAt_5068e 30 = .ok (.ifCond .ne 12, 3) := by decide +kernel
theorem dJ5_charAt_5068e_33 : decode cJ5_charAt_5068e 33 = .ok (.aload_n 3, 1) := by decide +kernel
theorem dJ5_charAt_5068e_34 : decode cJ5_charAt_5068e 34 = .ok (.iload_n 1, 1) := by decide +kernel
theorem dJ5_charAt_5068e_35 : decode cJ5_charAt_5068e 35 = .ok (.baload, 1) := by decide +kernel
theorem dJ5_charAt_5068e_36 : decode cJ5_charAt_5068e 36 = .ok (.sipush 255, 3) := by decide +kernel
theorem dJ5_charAt_5068e_39 : decode cJ5_charAt_5068e 39 = .ok (.iand, 1) := by decide +kernel
theorem dJ5_charAt_5068e_40 : decode cJ5_charAt_5068e 40 = .ok (.i2c, 1) := by decide +kernel
theorem dJ5_charAt_5068e_41 : decode cJ5_charAt_5068e 41 = .ok (.ireturn, 1) := by decide +kernel
theorem dJ5_charAt_5068e_42 : decode cJ5_charAt_5068e 42 = .ok (.aload_n 3, 1) := by decide +kernel
theorem dJ5_charAt_5068e_43 : decode cJ5_charAt_5068e 43 = .ok (.iload_n 1, 1) := by decide +kernel
theorem dJ5_charAt_5068e_44 : decode cJ5_charAt_5068e 44 = .ok (.invokestatic 148, 3) := by decide +kernel
theorem dJ5_charAt_5068e_47 : decode cJ5_charAt_5068e 47 = .ok (.ireturn, 1) := by decide +kernel
theorem dJ5_append_cf1ce_0 : decode cJ5_append_cf1ce 0 = .ok (.aload_n 1, 1) := by decide +kernel
theorem dJ5_append_cf1ce_1 : decode cJ5_append_cf1ce 1 = .ok (.ifnonnull 8, 3) := by decide +kernel
theorem dJ5_append_cf1ce_4 : decode cJ5_append_cf1ce 4 = .ok (.aload_n 0, 1) := by decide +kernel
theorem dJ5_append_cf1ce_5 : decode cJ5_append_cf1ce 5 = .ok (.invokevirtual 204, 3) := by decide +kernel
theorem dJ5_append_cf1ce_8 : decode cJ5_append_cf1ce 8 = .ok (.areturn, 1) := by decide +kernel
theorem dJ5_append_cf1ce_9 : decode cJ5_append_cf1ce 9 = .ok (.aload_n 1, 1) := by decide +kernel
theorem dJ5_append_cf1ce_10 : decode cJ5_append_cf1ce 10 = .ok (.invokevirtual 32, 3) := by decide +kernel
theorem dJ5_append_cf1ce_13 : decode cJ5_append_cf1ce 13 = .ok (.istore_n 2, 1) := by decide +kernel
theorem dJ5_append_cf1ce_14 : decode cJ5_append_cf1ce 14 = .ok (.aload_n 0, 1) := by decide +kernel
theorem dJ5_append_cf1ce_15 : decode cJ5_append_cf1ce 15 = .ok (.aload_n 0, 1) := by decide +kernel
theorem dJ5_append_cf1ce_16 : decode cJ5_append_cf1ce 16 = .ok (.getfield 79, 3) := by decide +kernel
theorem dJ5_append_cf1ce_19 : decode cJ5_append_cf1ce 19 = .ok (.iload_n 2, 1) := by decide +kernel
theorem dJ5_append_cf1ce_20 : decode cJ5_append_cf1ce 20 = .ok (.iadd, 1) := by decide +kernel
theorem dJ5_append_cf1ce_21 : decode cJ5_append_cf1ce 21 = .ok (.invokevirtual 100, 3) := by decide +kernel
theorem dJ5_append_cf1ce_24 : decode cJ5_append_cf1ce 24 = .ok (.aload_n 0, 1) := by decide +kernel
theorem dJ5_append_cf1ce_25 : decode cJ5_append_cf1ce 25 = .ok (.aload_n 0, 1) := by decide +kernel
theorem dJ5_append_cf1ce_26 : decode cJ5_append_cf1ce 26 = .ok (.getfield 79, 3) := by decide +kernel
theorem dJ5_append_cf1ce_29 : decode cJ5_append_cf1ce 29 = .ok (.aload_n 1, 1) := by decide +kernel
theorem dJ5_append_cf1ce_30 : decode cJ5_append_cf1ce 30 = .ok (.invokevirtual 208, 3) := by decide +kernel
theorem dJ5_append_cf1ce_33 : decode cJ5_append_cf1ce 33 = .ok (.aload_n 0, 1) := by decide +kernel
theorem dJ5_append_cf1ce_34 : decode cJ5_append_cf1ce 34 = .ok (.dup, 1) := by decide +kernel
theorem dJ5_append_cf1ce_35 : decode cJ5_append_cf1ce 35 = .ok (.getfield 79, 3) := by decide +kernel
theorem dJ5_append_cf1ce_38 : decode cJ5_append_cf1ce 38 = .ok (.iload_n 2, 1) := by decide +kernel
theorem dJ5_append_cf1ce_39 : decode cJ5_append_cf1ce 39 = .ok (.iadd, 1) := by decide +kernel
theorem dJ5_append_cf1ce_40 : decode cJ5_append_cf1ce 40 = .ok (.putfield 79, 3) := by decide +kernel
theorem dJ5_append_cf1ce_43 : decode cJ5_append_cf1ce 43 = .ok (.aload_n 0, 1) := by decide +kernel
theorem dJ5_append_cf1ce_44 : decode cJ5_append_cf1ce 44 = .ok (.areturn, 1) := by decide +kernel
theorem dJ5_append_3fe6f_0 : decode cJ5_append_3fe6f 0 = .ok (.aload_n 0, 1) := by decide +kernel
theorem dJ5_append_3fe6f_1 : decode cJ5_append_3fe6f 1 = .ok (.aload_n 0, 1) := by decide +kernel
theorem dJ5_append_3fe6f_2 : decode cJ5_append_3fe6f 2 = .ok (.getfield 79, 3) := by decide +kernel
theorem dJ5_append_3fe6f_5 : decode cJ5_append_3fe6f 5 = .ok (.iconst 1, 1) := by decide +kernel
theorem dJ5_append_3fe6f_6 : decode cJ5_append_3fe6f 6 = .ok (.iadd, 1) := by decide +kernel
theorem dJ5_append_3fe6f_7 : decode cJ5_append_3fe6f 7 = .ok (.invokevirtual 100, 3) := by decide +kernel
theorem dJ5_append_3fe6f_10 : decode cJ5_append_3fe6f 10 = .ok (.aload_n 0, 1) := by decide +kernel
theorem dJ5_append_3fe6f_11 : decode cJ5_append_3fe6f 11 = .ok (.invokevirtual 83, 3) := by decide +kernel
theorem dJ5_append_3fe6f_14 : decode cJ5_append_3fe6f 14 = .ok (.ifCond .eq 31, 3) := by decide +kernel
theorem dJ5_append_3fe6f_17 : decode cJ5_append_3fe6f 17 = .ok (.iload_n 1, 1) := by decide +kernel
theorem dJ5_append_3fe6f_18 : decode cJ5_append_3fe6f 18 = .ok (.invokestatic 191, 3) := by decide +kernel
theorem dJ5_append_3fe6f_21 : decode cJ5_append_3fe6f 21 = .ok (.ifCond .eq 24, 3) := by decide +kernel
theorem dJ5_append_3fe6f_24 : decode cJ5_append_3fe6f 24 = .ok (.aload_n 0, 1) := by decide +kernel
theorem dJ5_append_3fe6f_25 : decode cJ5_append_3fe6f 25 = .ok (.getfield 15, 3) := by decide +kernel
theorem dJ5_append_3fe6f_28 : decode cJ5_append_3fe6f 28 = .ok (.aload_n 0, 1) := by decide +kernel
theorem dJ5_append_3fe6f_29 : decode cJ5_append_3fe6f 29 = .ok (.dup, 1) := by decide +kernel
theorem dJ5_append_3fe6f_30 : decode cJ5_append_3fe6f 30 = .ok (.getfield 79, 3) := by decide +kernel
theorem dJ5_append_3fe6f_33 : decode cJ5_append_3fe6f 33 = .ok (.dup_x1, 1) := by decide +kernel
theorem dJ5_append_3fe6f_34 : decode cJ5_append_3fe6f 34 = .ok (.iconst 1, 1) := by decide +kernel
theorem dJ5_append_3fe6f_35 : decode cJ5_append_3fe6f 35 = .ok (.iadd, 1) := by decide +kernel
theorem dJ5_append_3fe6f_36 : decode cJ5_append_3fe6f 36 = .ok (.putfield 79, 3) := by decide +kernel
theorem dJ5_append_3fe6f_39 : decode cJ5_append_3fe6f 39 = .ok (.iload_n 1, 1) := by decide +kernel
theorem dJ5_append_3fe6f_40 : decode cJ5_append_3fe6f 40 = .ok (.i2b, 1) := by decide +kernel
theorem dJ5_append_3fe6f_41 : decode cJ5_append_3fe6f 41 = .ok (.bastore, 1) := by decide +kernel
theorem dJ5_append_3fe6f_42 : decode cJ5_append_3fe6f 42 = .ok (.goto 33, 3) := by decide +kernel
theorem dJ5_append_3fe6f_45 : decode cJ5_append_3fe6f 45 = .ok (.aload_n 0, 1) := by decide +kernel
theorem dJ5_append_3fe6f_46 : decode cJ5_append_3fe6f 46 = .ok (.invokevirtual 83, 3) := by decide +kernel
theorem dJ5_append_3fe6f_49 : decode cJ5_append_3fe6f 49 = .ok (.ifCond .eq 7, 3) := by decide +kernel
theorem dJ5_append_3fe6f_52 : decode cJ5_append_3fe6f 52 = .ok (.aload_n 0, 1) := by decide +kernel
theorem dJ5_append_3fe6f_53 : decode cJ5_append_3fe6f 53 = .ok (.invokevirtual 195, 3) := by decide +kernel
theorem dJ5_append_3fe6f_56 : decode cJ5_append_3fe6f 56 = .ok (.aload_n 0, 1) := by decide +kernel
theorem dJ5_append_3fe6f_57 : decode cJ5_append_3fe6f 57 = .ok (.getfield 15, 3) := by decide +kernel
theorem dJ5_append_3fe6f_60 : decode cJ5_append_3fe6f 60 = .ok (.aload_n 0, 1) := by decide +kernel
theorem dJ5_append_3fe6f_61 : decode cJ5_append_3fe6f 61 = .ok (.dup, 1) := by decide +kernel
theorem dJ5_append_3fe6f_62 : decode cJ5_append_3fe6f 62 = .ok (.getfield 79, 3) := by decide +kernel
theorem dJ5_append_3fe6f_65 : decode cJ5_append_3fe6f 65 = .ok (.dup_x1, 1) := by decide +kernel
theorem dJ5_append_3fe6f_66 : decode cJ5_append_3fe6f 66 = .ok (.iconst 1, 1) := by decide +kernel
theorem dJ5_append_3fe6f_67 : decode cJ5_append_3fe6f 67 = .ok (.iadd, 1) := by decide +kernel
theorem dJ5_append_3fe6f_68 : decode cJ5_append_3fe6f 68 = .ok (.putfield 79, 3) := by decide +kernel
theorem dJ5_append_3fe6f_71 : decode cJ5_append_3fe6f 71 = .ok (.iload_n 1, 1) := by decide +kernel
theorem dJ5_append_3fe6f_72 : decode cJ5_append_3fe6f 72 = .ok (.invokestatic 197, 3) := by decide +kernel
theorem dJ5_append_3fe6f_75 : decode cJ5_append_3fe6f 75 = .ok (.aload_n 0, 1) := by decide +kernel
theorem dJ5_append_3fe6f_76 : decode cJ5_append_3fe6f 76 = .ok (.areturn, 1) := by decide +kernel
theorem dJ5_append_c97b9_0 : decode cJ5_append_c97b9 0 = .ok (.aload_n 0, 1) := by decide +kernel
theorem dJ5_append_c97b9_1 : decode cJ5_append_c97b9 1 = .ok (.getfield 79, 3) := by decide +kernel
theorem dJ5_append_c97b9_4 : decode cJ5_append_c97b9 4 = .ok (.istore_n 2, 1) := by decide +kernel
theorem dJ5_append_c97b9_5 : decode cJ5_append_c97b9 5 = .ok (.iload_n 2, 1) := by decide +kernel
theorem dJ5_append_c97b9_6 : decode cJ5_append_c97b9 6 = .ok (.iload_n 1, 1) := by decide +kernel
theorem dJ5_append_c97b9_7 : decode cJ5_append_c97b9 7 = .ok (.invokestatic 245, 3) := by decide +kernel
theorem dJ5_append_c97b9_10 : decode cJ5_append_c97b9 10 = .ok (.iadd, 1) := by decide +kernel
theorem dJ5_append_c97b9_11 : decode cJ5_append_c97b9 11 = .ok (.istore_n 3, 1) := by decide +kernel
theorem dJ5_append_c97b9_12 : decode cJ5_append_c97b9 12 = .ok (.aload_n 0, 1) := by decide +kernel
theorem dJ5_append_c97b9_13 : decode cJ5_append_c97b9 13 = .ok (.iload_n 3, 1) := by decide +kernel
theorem dJ5_append_c97b9_14 : decode cJ5_append_c97b9 14 = .ok (.invokevirtual 100, 3) := by decide +kernel
theorem dJ5_append_c97b9_17 : decode cJ5_append_c97b9 17 = .ok (.aload_n 0, 1) := by decide +kernel
theorem dJ5_append_c97b9_18 : decode cJ5_append_c97b9 18 = .ok (.invokevirtual 83, 3) := by decide +kernel
theorem dJ5_append_c97b9_21 : decode cJ5_append_c97b9 21 = .ok (.ifCond .eq 16, 3) := by decide +kernel
theorem dJ5_append_c97b9_24 : decode cJ5_append_c97b9 24 = .ok (.iload_n 1, 1) := by decide +kernel
theorem dJ5_append_c97b9_25 : decode cJ5_append_c97b9 25 = .ok (.iload_n 3, 1) := by decide +kernel
theorem dJ5_append_c97b9_26 : decode cJ5_append_c97b9 26 = .ok (.aload_n 0, 1) := by decide +kernel
theorem dJ5_append_c97b9_27 : decode cJ5_append_c97b9 27 = .ok (.getfield 15, 3) := by decide +kernel
theorem dJ5_append_c97b9_30 : decode cJ5_append_c97b9 30 = .ok (.invokestatic 248, 3) := by decide +kernel
theorem dJ5_append_c97b9_33 : decode cJ5_append_c97b9 33 = .ok (.pop, 1) := by decide +kernel
theorem dJ5_append_c97b9_34 : decode cJ5_append_c97b9 34 = .ok (.goto 14, 3) := by decide +kernel
theorem dJ5_append_c97b9_37 : decode cJ5_append_c97b9 37 = .ok (.iload_n 1, 1) := by decide +kernel
theorem dJ5_append_c97b9_38 : decode cJ5_append_c97b9 38 = .ok (.iload_n 2, 1) := by decide +kernel
theorem dJ5_append_c97b9_39 : decode cJ5_append_c97b9 39 = .ok (.iload_n 3, 1) := by decide +kernel
theorem dJ5_append_c97b9_40 : decode cJ5_append_c97b9 40 = .ok (.aload_n 0, 1) := by decide +kernel
theorem dJ5_append_c97b9_41 : decode cJ5_append_c97b9 41 = .ok (.getfield 15, 3) := by decide +kernel
theorem dJ5_append_c97b9_44 : decode cJ5_append_c97b9 44 = .ok (.invokestatic 251, 3) := by decide +kernel
theorem dJ5_append_c97b9_47 : decode cJ5_append_c97b9 47 = .ok (.pop, 1) := by decide +kernel
theorem dJ5_append_c97b9_48 : decode cJ5_append_c97b9 48 = .ok (.aload_n 0, 1) := by decide +kernel
theorem dJ5_append_c97b9_49 : decode cJ5_append_c97b9 49 = .ok (.iload_n 3, 1) := by decide +kernel
theorem dJ5_append_c97b9_50 : decode cJ5_append_c97b9 50 = .ok (.putfield 79, 3) := by decide +kernel
theorem dJ5_append_c97b9_53 : decode cJ5_append_c97b9 53 = .ok (.aload_n 0, 1) := by decide +kernel
theorem dJ5_append_c97b9_54 : decode cJ5_append_c97b9 54 = .ok (.areturn, 1) := by decide +kernel
theorem dJ5_getValue_6d5f1_0 : decode cJ5_getValue_6d5f1 0 = .ok (.aload_n 0, 1) := by decide +kernel
theorem dJ5_getValue_6d5f1_1 : decode cJ5_getValue_6d5f1 1 = .ok (.getfield 15, 3) := by decide +kernel
theorem dJ5_getValue_6d5f1_4 : decode cJ5_getValue_6d5f1 4 = .ok (.areturn, 1) := by decide +kernel
theorem dJ5_isLatin1_aae02_0 : decode cJ5_isLatin1_aae02 0 = .ok (.getstatic 18, 3) := by decide +kernel
theorem dJ5_isLatin1_aae02_3 : decode cJ5_isLatin1_aae02 3 = .ok (.ifCond .eq 14, 3) := by decide +kernel
theorem dJ5_isLatin1_aae02_6 : decode cJ5_isLatin1_aae02 6 = .ok (.aload_n 0, 1) := by decide +kernel
theorem dJ5_isLatin1_aae02_7 : decode cJ5_isLatin1_aae02 7 = .ok (.getfield 22, 3) := by decide +kernel
theorem dJ5_isLatin1_aae02_10 : decode cJ5_isLatin1_aae02 10 = .ok (.ifCond .ne 7, 3) := by decide +kernel
theorem dJ5_isLatin1_aae02_13 : decode cJ5_isLatin1_aae02 13 = .ok (.iconst 1, 1) := by decide +kernel
theorem dJ5_isLatin1_aae02_14 : decode cJ5_isLatin1_aae02 14 = .ok (.goto 4, 3) := by decide +kernel
theorem dJ5_isLatin1_aae02_17 : decode cJ5_isLatin1_aae02 17 = .ok (.iconst 0, 1) := by decide +kernel
theorem dJ5_isLatin1_aae02_18 : decode cJ5_isLatin1_aae02 18 = .ok (.ireturn, 1) := by decide +kernel
theorem dJ5_putStringAt_47b60_0 : decode cJ5_putStringAt_47b60 0 = .ok (.aload_n 0, 1) := by decide +kernel
theorem dJ5_putStringAt_47b60_1 : decode cJ5_putStringAt_47b60 1 = .ok (.aload_n 2, 1) := by decide +kernel
theorem dJ5_putStringAt_47b60_2 : decode cJ5_putStringAt_47b60 2 = .ok (.invokevirtual 397, 3) := by decide +kernel
theorem dJ5_putStringAt_47b60_5 : decode cJ5_putStringAt_47b60 5 = .ok (.aload_n 2, 1) := by decide +kernel
theorem dJ5_putStringAt_47b60_6 : decode cJ5_putStringAt_47b60 6 = .ok (.aload_n 0, 1) := by decide +kernel
theorem dJ5_putStringAt_47b60_7 : decode cJ5_putStringAt_47b60 7 = .ok (.getfield 15, 3) := by decide +kernel
theorem dJ5_putStringAt_47b60_10 : decode cJ5_putStringAt_47b60 10 = .ok (.iload_n 1, 1) := by decide +kernel
theorem dJ5_putStringAt_47b60_11 : decode cJ5_putStringAt_47b60 11 = .ok (.aload_n 0, 1) := by decide +kernel
theorem dJ5_putStringAt_47b60_12 : decode cJ5_putStringAt_47b60 12 = .ok (.getfield 22, 3) := by decide +kernel
theorem dJ5_putStringAt_47b60_15 : decode cJ5_putStringAt_47b60 15 = .ok (.invokevirtual 399, 3) := by decide +kernel
theorem dJ5_putStringAt_47b60_18 : decode cJ5_putStringAt_47b60 18 = .ok (.return_, 1) := by decide +kernel
theorem dJx00060_init_a7421_0 : decode cJx00060_init_a7421 0 = .ok (.aload_n 0, 1) := by decide +kernel
theorem dJx00060_init_a7421_1 : decode cJx00060_init_a7421 1 = .ok (.aload_n 1, 1) := by decide +kernel
theorem dJx00060_init_a7421_2 : decode cJx00060_init_a7421 2 = .ok (.invokespecial 7, 3) := by decide +kernel
theorem dJx00060_init_a7421_5 : decode cJx00060_init_a7421 5 = .ok (.return_, 1) := by decide +kernel
theorem dJx00060_init_d00df_0 : decode cJx00060_init_d00df 0 = .ok (.aload_n 0, 1) := by decide +kernel
theorem dJx00060_init_d00df_1 : decode cJx00060_init_d00df 1 = .ok (.new 10, 3) := by decide +kernel
theorem dJx00060_init_d00df_4 : decode cJx00060_init_d00df 4 = .ok (.dup, 1) := by decide +kernel
theorem dJx00060_init_d00df_5 : decode cJx00060_init_d00df 5 = .ok (.invokespecial 12, 3) := by decide +kernel
theorem dJx00060_init_d00df_8 : decode cJx00060_init_d00df 8 = .ok (.ldc 13, 2) := by decide +kernel
theorem dJx00060_init_d00df_10 : decode cJx00060_init_d00df 10 = .ok (.invokevirtual 15, 3) := by decide +kernel
theorem dJx00060_init_d00df_13 : decode cJx00060_init_d00df 13 = .ok (.iload_n 1, 1) := by decide +kernel
theorem dJx00060_init_d00df_14 : decode cJx00060_init_d00df 14 = .ok (.invokevirtual 19, 3) := by decide +kernel
theorem dJx00060_init_d00df_17 : decode cJx00060_init_d00df 17 = .ok (.invokevirtual 22, 3) := by decide +kernel
theorem dJx00060_init_d00df_20 : decode cJx00060_init_d00df 20 = .ok (.invokespecial 7, 3) := by decide +kernel
theorem dJx00060_init_d00df_23 : decode cJx00060_init_d00df 23 = .ok (.return_, 1) := by decide +kernel
theorem dJxe99ae_isNaN_b9ae7_0 : decode cJxe99ae_isNaN_b9ae7 0 = .ok (.dload_n 0, 1) := by decide +kernel
theorem dJxe99ae_isNaN_b9ae7_1 : decode cJxe99ae_isNaN_b9ae7 1 = .ok (.dload_n 0, 1) := by decide +kernel
theorem dJxe99ae_isNaN_b9ae7_2 : decode cJxe99ae_isNaN_b9ae7 2 = .ok (.dcmp .l, 1) := by decide +kernel
theorem dJxe99ae_isNaN_b9ae7_3 : decode cJxe99ae_isNaN_b9ae7 3 = .ok (.ifCond .eq 7, 3) := by decide +kernel
theorem dJxe99ae_isNaN_b9ae7_6 : decode cJxe99ae_isNaN_b9ae7 6 = .ok (.iconst 1, 1) := by decide +kernel
theorem dJxe99ae_isNaN_b9ae7_7 : decode cJxe99ae_isNaN_b9ae7 7 = .ok (.goto 4, 3) := by decide +kernel
theorem dJxe99ae_isNaN_b9ae7_10 : decode cJxe99ae_isNaN_b9ae7 10 = .ok (.iconst 0, 1) := by decide +kernel
theorem dJxe99ae_isNaN_b9ae7_11 : decode cJxe99ae_isNaN_b9ae7 11 = .ok (.ireturn, 1) := by decide +kernel
theorem dJxe99ae_doubleToLongBits_ccdee_0 : decode cJxe99ae_doubleToLongBits_ccdee 0 = .ok (.dload_n 0, 1) := by decide +kernel
theorem dJxe99ae_doubleToLongBits_ccdee_1 : decode cJxe99ae_doubleToLongBits_ccdee 1 = .ok (.invokestatic 122, 3) := by decide +kernel
theorem dJxe99ae_doubleToLongBits_ccdee_4 : decode cJxe99ae_doubleToLongBits_ccdee 4 = .ok (.ifCond .ne 8, 3) := by decide +kernel
theorem dJxe99ae_doubleToLongBits_ccdee_7 : decode cJxe99ae_doubleToLongBits_ccdee 7 = .ok (.dload_n 0, 1) := by decide +kernel
theorem dJxe99ae_doubleToLongBits_ccdee_8 : decode cJxe99ae_doubleToLongBits_ccdee 8 = .ok (.invokestatic 134, 3) := by decide +kernel
theorem dJxe99ae_doubleToLongBits_ccdee_11 : decode cJxe99ae_doubleToLongBits_ccdee 11 = .ok (.lreturn, 1) := by decide +kernel
theorem dJxe99ae_doubleToLongBits_ccdee_12 : decode cJxe99ae_doubleToLongBits_ccdee 12 = .ok (.ldc2_w 137, 3) := by decide +kernel
theorem dJxe99ae_doubleToLongBits_ccdee_15 : decode cJxe99ae_doubleToLongBits_ccdee 15 = .ok (.lreturn, 1) := by decide +kernel
theorem dJx29ce0_ordinal_8abf5_0 : decode cJx29ce0_ordinal_8abf5 0 = .ok (.aload_n 0, 1) := by decide +kernel
theorem dJx29ce0_ordinal_8abf5_1 : decode cJx29ce0_ordinal_8abf5 1 = .ok (.getfield 7, 3) := by decide +kernel
theorem dJx29ce0_ordinal_8abf5_4 : decode cJx29ce0_ordinal_8abf5 4 = .ok (.ireturn, 1) := by decide +kernel
theorem dJxf58ca_isNaN_12338_0 : decode cJxf58ca_isNaN_12338 0 = .ok (.fload_n 0, 1) := by decide +kernel
theorem dJxf58ca_isNaN_12338_1 : decode cJxf58ca_isNaN_12338 1 = .ok (.fload_n 0, 1) := by decide +kernel
theorem dJxf58ca_isNaN_12338_2 : decode cJxf58ca_isNaN_12338 2 = .ok (.fcmp .l, 1) := by decide +kernel
theorem dJxf58ca_isNaN_12338_3 : decode cJxf58ca_isNaN_12338 3 = .ok (.ifCond .eq 7, 3) := by decide +kernel
theorem dJxf58ca_isNaN_12338_6 : decode cJxf58ca_isNaN_12338 6 = .ok (.iconst 1, 1) := by decide +kernel
theorem dJxf58ca_isNaN_12338_7 : decode cJxf58ca_isNaN_12338 7 = .ok (.goto 4, 3) := by decide +kernel
theorem dJxf58ca_isNaN_12338_10 : decode cJxf58ca_isNaN_12338 10 = .ok (.iconst 0, 1) := by decide +kernel
theorem dJxf58ca_isNaN_12338_11 : decode cJxf58ca_isNaN_12338 11 = .ok (.ireturn, 1) := by decide +kernel
theorem dJxf58ca_floatToIntBits_5c35a_0 : decode cJxf58ca_floatToIntBits_5c35a 0 = .ok (.fload_n 0, 1) := by decide +kernel
theorem dJxf58ca_floatToIntBits_5c35a_1 : decode cJxf58ca_floatToIntBits_5c35a 1 = .ok (.invokestatic 59, 3) := by decide +kernel
theorem dJxf58ca_floatToIntBits_5c35a_4 : decode cJxf58ca_floatToIntBits_5c35a 4 = .ok (.ifCond .ne 8, 3) := by decide +kernel
theorem dJxf58ca_floatToIntBits_5c35a_7 : decode cJxf58ca_floatToIntBits_5c35a 7 = .ok (.fload_n 0, 1) := by decide +kernel
theorem dJxf58ca_floatToIntBits_5c35a_8 : decode cJxf58ca_floatToIntBits_5c35a 8 = .ok (.invokestatic 74, 3) := by decide +kernel
theorem dJxf58ca_floatToIntBits_5c35a_11 : decode cJxf58ca_floatToIntBits_5c35a 11 = .ok (.ireturn, 1) := by decide +kernel
theorem dJxf58ca_floatToIntBits_5c35a_12 : decode cJxf58ca_floatToIntBits_5c35a 12 = .ok (.ldc 77, 2) := by decide +kernel
theorem dJxf58ca_floatToIntBits_5c35a_14 : decode cJxf58ca_floatToIntBits_5c35a 14 = .ok (.ireturn, 1) := by decide +kernel
theorem dJ6_getChars_ba4f3_0 : decode cJ6_getChars_ba4f3 0 = .ok (.iload_n 1, 1) := by decide +kernel
theorem dJ6_getChars_ba4f3_1 : decode cJ6_getChars_ba4f3 1 = .ok (.istore 5, 2) := by decide +kernel
theorem dJ6_getChars_ba4f3_3 : decode cJ6_getChars_ba4f3 3 = .ok (.iload_n 0, 1) := by decide +kernel
theorem dJ6_getChars_ba4f3_4 : decode cJ6_getChars_ba4f3 4 = .ok (.ifCond .ge 7, 3) := by decide +kernel
theorem dJ6_getChars_ba4f3_7 : decode cJ6_getChars_ba4f3 7 = .ok (.iconst 1, 1) := by decide +kernel
theorem dJ6_getChars_ba4f3_8 : decode cJ6_getChars_ba4f3 8 = .ok (.goto 4, 3) := by decide +kernel
theorem dJ6_getChars_ba4f3_11 : decode cJ6_getChars_ba4f3 11 = .ok (.iconst 0, 1) := by decide +kernel
theorem dJ6_getChars_ba4f3_12 : decode cJ6_getChars_ba4f3 12 = .ok (.istore 6, 2) := by decide +kernel
theorem dJ6_getChars_ba4f3_14 : decode cJ6_getChars_ba4f3 14 = .ok (.iload 6, 2) := by decide +kernel
theorem dJ6_getChars_ba4f3_16 : decode cJ6_getChars_ba4f3 16 = .ok (.ifCond .ne 6, 3) := by decide +kernel
theorem dJ6_getChars_ba4f3_19 : decode cJ6_getChars_ba4f3 19 = .ok (.iload_n 0, 1) := by decide +kernel
theorem dJ6_getChars_ba4f3_20 : decode cJ6_getChars_ba4f3 20 = .ok (.ineg, 1) := by decide +kernel
theorem dJ6_getChars_ba4f3_21 : decode cJ6_getChars_ba4f3 21 = .ok (.istore_n 0, 1) := by decide +kernel
theorem dJ6_getChars_ba4f3_22 : decode cJ6_getChars_ba4f3 22 = .ok (.iload_n 0, 1) := by decide +kernel
theorem dJ6_getChars_ba4f3_23 : decode cJ6_getChars_ba4f3 23 = .ok (.bipush (-100), 2) := by decide +kernel
theorem dJ6_getChars_ba4f3_25 : decode cJ6_getChars_ba4f3 25 = .ok (.if_icmp .gt 47, 3) := by decide +kernel
theorem dJ6_getChars_ba4f3_28 : decode cJ6_getChars_ba4f3 28 = .ok (.iload_n 0, 1) := by decide +kernel
theorem dJ6_getChars_ba4f3_29 : decode cJ6_getChars_ba4f3 29 = .ok (.bipush 100, 2) := by decide +kernel
theorem dJ6_getChars_ba4f3_31 : decode cJ6_getChars_ba4f3 31 = .ok (.idiv, 1) := by decide +kernel
theorem dJ6_getChars_ba4f3_32 : decode cJ6_getChars_ba4f3 32 = .ok (.istore_n 3, 1) := by decide +kernel
theorem dJ6_getChars_ba4f3_33 : decode cJ6_getChars_ba4f3 33 = .ok (.iload_n 3, 1) := by decide +kernel
theorem dJ6_getChars_ba4f3_34 : decode cJ6_getChars_ba4f3 34 = .ok (.bipush 100, 2) := by decide +kernel
theorem dJ6_getChars_ba4f3_36 : decode cJ6_getChars_ba4f3 36 = .ok (.imul, 1) := by decide +kernel
theorem dJ6_getChars_ba4f3_37 : decode cJ6_getChars_ba4f3 37 = .ok (.iload_n 0, 1) := by decide +kernel
theorem dJ6_getChars_ba4f3_38 : decode cJ6_getChars_ba4f3 38 = .ok (.isub, 1) := by decide +kernel
theorem dJ6_getChars_ba4f3_39 : decode cJ6_getChars_ba4f3 39 = .ok (.istore 4, 2) := by decide +kernel
theorem dJ6_getChars_ba4f3_41 : decode cJ6_getChars_ba4f3 41 = .ok (.iload_n 3, 1) := by decide +kernel
theorem dJ6_getChars_ba4f3_42 : decode cJ6_getChars_ba4f3 42 = .ok (.istore_n 0, 1) := by decide +kernel
theorem dJ6_getChars_ba4f3_43 : decode cJ6_getChars_ba4f3 43 = .ok (.aload_n 2, 1) := by decide +kernel
theorem dJ6_getChars_ba4f3_44 : decode cJ6_getChars_ba4f3 44 = .ok (.iinc 5 (-1), 3) := by decide +kernel
theorem dJ6_getChars_ba4f3_47 : decode cJ6_getChars_ba4f3 47 = .ok (.iload 5, 2) := by decide +kernel
theorem dJ6_getChars_ba4f3_49 : decode cJ6_getChars_ba4f3 49 = .ok (.getstatic 83, 3) := by decide +kernel
theorem dJ6_getChars_ba4f3_52 : decode cJ6_getChars_ba4f3 52 = .ok (.iload 4, 2) := by decide +kernel
theorem dJ6_getChars_ba4f3_54 : decode cJ6_getChars_ba4f3 54 = .ok (.baload, 1) := by decide +kernel
theorem dJ6_getChars_ba4f3_55 : decode cJ6_getChars_ba4f3 55 = .ok (.bastore, 1) := by decide +kernel
theorem dJ6_getChars_ba4f3_56 : decode cJ6_getChars_ba4f3 56 = .ok (.aload_n 2, 1) := by decide +kernel
theorem dJ6_getChars_ba4f3_57 : decode cJ6_getChars_ba4f3 57 = .ok (.iinc 5 (-1), 3) := by decide +kernel
theorem dJ6_getChars_ba4f3_60 : decode cJ6_getChars_ba4f3 60 = .ok (.iload 5, 2) := by decide +kernel
theorem dJ6_getChars_ba4f3_62 : decode cJ6_getChars_ba4f3 62 = .ok (.getstatic 87, 3) := by decide +kernel
theorem dJ6_getChars_ba4f3_65 : decode cJ6_getChars_ba4f3 65 = .ok (.iload 4, 2) := by decide +kernel
theorem dJ6_getChars_ba4f3_67 : decode cJ6_getChars_ba4f3 67 = .ok (.baload, 1) := by decide +kernel
theorem dJ6_getChars_ba4f3_68 : decode cJ6_getChars_ba4f3 68 = .ok (.bastore, 1) := by decide +kernel
theorem dJ6_getChars_ba4f3_69 : decode cJ6_getChars_ba4f3 69 = .ok (.goto (-47), 3) := by decide +kernel
theorem dJ6_getChars_ba4f3_72 : decode cJ6_getChars_ba4f3 72 = .ok (.aload_n 2, 1) := by decide +kernel
theorem dJ6_getChars_ba4f3_73 : decode cJ6_getChars_ba4f3 73 = .ok (.iinc 5 (-1), 3) := by decide +kernel
theorem dJ6_getChars_ba4f3_76 : decode cJ6_getChars_ba4f3 76 = .ok (.iload 5, 2) := by decide +kernel
theorem dJ6_getChars_ba4f3_78 : decode cJ6_getChars_ba4f3 78 = .ok (.getstatic 83, 3) := by decide +kernel
theorem dJ6_getChars_ba4f3_81 : decode cJ6_getChars_ba4f3 81 = .ok (.iload_n 0, 1) := by decide +kernel
theorem dJ6_getChars_ba4f3_82 : decode cJ6_getChars_ba4f3 82 = .ok (.ineg, 1) := by decide +kernel
theorem dJ6_getChars_ba4f3_83 : decode cJ6_getChars_ba4f3 83 = .ok (.baload, 1) := by decide +kernel
theorem dJ6_getChars_ba4f3_84 : decode cJ6_getChars_ba4f3 84 = .ok (.bastore, 1) := by decide +kernel
theorem dJ6_getChars_ba4f3_85 : decode cJ6_getChars_ba4f3 85 = .ok (.iload_n 0, 1) := by decide +kernel
theorem dJ6_getChars_ba4f3_86 : decode cJ6_getChars_ba4f3 86 = .ok (.bipush (-9), 2) := by decide +kernel
theorem dJ6_getChars_ba4f3_88 : decode cJ6_getChars_ba4f3 88 = .ok (.if_icmp .ge 16, 3) := by decide +kernel
theorem dJ6_getChars_ba4f3_91 : decode cJ6_getChars_ba4f3 91 = .ok (.aload_n 2, 1) := by decide +kernel
theorem dJ6_getChars_ba4f3_92 : decode cJ6_getChars_ba4f3 92 = .ok (.iinc 5 (-1), 3) := by decide +kernel
theorem dJ6_getChars_ba4f3_95 : decode cJ6_getChars_ba4f3 95 = .ok (.iload 5, 2) := by decide +kernel
theorem dJ6_getChars_ba4f3_97 : decode cJ6_getChars_ba4f3 97 = .ok (.getstatic 87, 3) := by decide +kernel
theorem dJ6_getChars_ba4f3_100 : decode cJ6_getChars_ba4f3 100 = .ok (.iload_n 0, 1) := by decide +kernel
theorem dJ6_getChars_ba4f3_101 : decode cJ6_getChars_ba4f3 101 = .ok (.ineg, 1) := by decide +kernel
theorem dJ6_getChars_ba4f3_102 : decode cJ6_getChars_ba4f3 102 = .ok (.baload, 1) := by decide +kernel
theorem dJ6_getChars_ba4f3_103 : decode cJ6_getChars_ba4f3 103 = .ok (.bastore, 1) := by decide +kernel
theorem dJ6_getChars_ba4f3_104 : decode cJ6_getChars_ba4f3 104 = .ok (.iload 6, 2) := by decide +kernel
theorem dJ6_getChars_ba4f3_106 : decode cJ6_getChars_ba4f3 106 = .ok (.ifCond .eq 12, 3) := by decide +kernel
theorem dJ6_getChars_ba4f3_109 : decode cJ6_getChars_ba4f3 109 = .ok (.aload_n 2, 1) := by decide +kernel
theorem dJ6_getChars_ba4f3_110 : decode cJ6_getChars_ba4f3 110 = .ok (.iinc 5 (-1), 3) := by decide +kernel
theorem dJ6_getChars_ba4f3_113 : decode cJ6_getChars_ba4f3 113 = .ok (.iload 5, 2) := by decide +kernel
theorem dJ6_getChars_ba4f3_115 : decode cJ6_getChars_ba4f3 115 = .ok (.bipush 45, 2) := by decide +kernel
theorem dJ6_getChars_ba4f3_117 : decode cJ6_getChars_ba4f3 117 = .ok (.bastore, 1) := by decide +kernel
theorem dJ6_getChars_ba4f3_118 : decode cJ6_getChars_ba4f3 118 = .ok (.iload 5, 2) := by decide +kernel
theorem dJ6_getChars_ba4f3_120 : decode cJ6_getChars_ba4f3 120 = .ok (.ireturn, 1) := by decide +kernel
theorem dJ6_stringSize_0f7a4_0 : decode cJ6_stringSize_0f7a4 0 = .ok (.iconst 1, 1) := by decide +kernel
theorem dJ6_stringSize_0f7a4_1 : decode cJ6_stringSize_0f7a4 1 = .ok (.istore_n 1, 1) := by decide +kernel
theorem dJ6_stringSize_0f7a4_2 : decode cJ6_stringSize_0f7a4 2 = .ok (.iload_n 0, 1) := by decide +kernel
theorem dJ6_stringSize_0f7a4_3 : decode cJ6_stringSize_0f7a4 3 = .ok (.ifCond .lt 8, 3) := by decide +kernel
theorem dJ6_stringSize_0f7a4_6 : decode cJ6_stringSize_0f7a4 6 = .ok (.iconst 0, 1) := by decide +kernel
theorem dJ6_stringSize_0f7a4_7 : decode cJ6_stringSize_0f7a4 7 = .ok (.istore_n 1, 1) := by decide +kernel
theorem dJ6_stringSize_0f7a4_8 : decode cJ6_stringSize_0f7a4 8 = .ok (.iload_n 0, 1) := by decide +kernel
theorem dJ6_stringSize_0f7a4_9 : decode cJ6_stringSize_0f7a4 9 = .ok (.ineg, 1) := by decide +kernel
theorem dJ6_stringSize_0f7a4_10 : decode cJ6_stringSize_0f7a4 10 = .ok (.istore_n 0, 1) := by decide +kernel
theorem dJ6_stringSize_0f7a4_11 : decode cJ6_stringSize_0f7a4 11 = .ok (.bipush (-10), 2) := by decide +kernel
theorem dJ6_stringSize_0f7a4_13 : decode cJ6_stringSize_0f7a4 13 = .ok (.istore_n 2, 1) := by decide +kernel
theorem dJ6_stringSize_0f7a4_14 : decode cJ6_stringSize_0f7a4 14 = .ok (.iconst 1, 1) := by decide +kernel
theorem dJ6_stringSize_0f7a4_15 : decode cJ6_stringSize_0f7a4 15 = .ok (.istore_n 3, 1) := by decide +kernel
theorem dJ6_stringSize_0f7a4_16 : decode cJ6_stringSize_0f7a4 16 = .ok (.iload_n 3, 1) := by decide +kernel
theorem dJ6_stringSize_0f7a4_17 : decode cJ6_stringSize_0f7a4 17 = .ok (.bipush 10, 2) := by decide +kernel
theorem dJ6_stringSize_0f7a4_19 : decode cJ6_stringSize_0f7a4 19 = .ok (.if_icmp .ge 23, 3) := by decide +kernel
theorem dJ6_stringSize_0f7a4_22 : decode cJ6_stringSize_0f7a4 22 = .ok (.iload_n 0, 1) := by decide +kernel
theorem dJ6_stringSize_0f7a4_23 : decode cJ6_stringSize_0f7a4 23 = .ok (.iload_n 2, 1) := by decide +kernel
theorem dJ6_stringSize_0f7a4_24 : decode cJ6_stringSize_0f7a4 24 = .ok (.if_icmp .le 7, 3) := by decide +kernel
theorem dJ6_stringSize_0f7a4_27 : decode cJ6_stringSize_0f7a4 27 = .ok (.iload_n 3, 1) := by decide +kernel
theorem dJ6_stringSize_0f7a4_28 : decode cJ6_stringSize_0f7a4 28 = .ok (.iload_n 1, 1) := by decide +kernel
theorem dJ6_stringSize_0f7a4_29 : decode cJ6_stringSize_0f7a4 29 = .ok (.iadd, 1) := by decide +kernel
theorem dJ6_stringSize_0f7a4_30 : decode cJ6_stringSize_0f7a4 30 = .ok (.ireturn, 1) := by decide +kernel
theorem dJ6_stringSize_0f7a4_31 : decode cJ6_stringSize_0f7a4 31 = .ok (.bipush 10, 2) := by decide +kernel
theorem dJ6_stringSize_0f7a4_33 : decode cJ6_stringSize_0f7a4 33 = .ok (.iload_n 2, 1) := by decide +kernel
theorem dJ6_stringSize_0f7a4_34 : decode cJ6_stringSize_0f7a4 34 = .ok (.imul, 1) := by decide +kernel
theorem dJ6_stringSize_0f7a4_35 : decode cJ6_stringSize_0f7a4 35 = .ok (.istore_n 2, 1) := by decide +kernel
theorem dJ6_stringSize_0f7a4_36 : decode cJ6_stringSize_0f7a4 36 = .ok (.iinc 3 1, 3) := by decide +kernel
theorem dJ6_stringSize_0f7a4_39 : decode cJ6_stringSize_0f7a4 39 = .ok (.goto (-23), 3) := by decide +kernel
theorem dJ6_stringSize_0f7a4_42 : decode cJ6_stringSize_0f7a4 42 = .ok (.bipush 10, 2) := by decide +kernel
theorem dJ6_stringSize_0f7a4_44 : decode cJ6_stringSize_0f7a4 44 = .ok (.iload_n 1, 1) := by decide +kernel
theorem dJ6_stringSize_0f7a4_45 : decode cJ6_stringSize_0f7a4 45 = .ok (.iadd, 1) := by decide +kernel
theorem dJ6_stringSize_0f7a4_46 : decode cJ6_stringSize_0f7a4 46 = .ok (.ireturn, 1) := by decide +kernel
theorem dJ9_max_7cf53_0 : decode cJ9_max_7cf53 0 = .ok (.iload_n 0, 1) := by decide +kernel
theorem dJ9_max_7cf53_1 : decode cJ9_max_7cf53 1 = .ok (.iload_n 1, 1) := by decide +kernel
theorem dJ9_max_7cf53_2 : decode cJ9_max_7cf53 2 = .ok (.if_icmp .lt 7, 3) := by decide +kernel
theorem dJ9_max_7cf53_5 : decode cJ9_max_7cf53 5 = .ok (.iload_n 0, 1) := by decide +kernel
theorem dJ9_max_7cf53_6 : decode cJ9_max_7cf53 6 = .ok (.goto 4, 3) := by decide +kernel
theorem dJ9_max_7cf53_9 : decode cJ9_max_7cf53 9 = .ok (.iload_n 1, 1) := by decide +kernel
theorem dJ9_max_7cf53_10 : decode cJ9_max_7cf53 10 = .ok (.ireturn, 1) := by decide +kernel
theorem dJ9_min_7cf53_0 : decode cJ9_min_7cf53 0 = .ok (.iload_n 0, 1) := by decide +kernel
theorem dJ9_min_7cf53_1 : decode cJ9_min_7cf53 1 = .ok (.iload_n 1, 1) := by decide +kernel
theorem dJ9_min_7cf53_2 : decode cJ9_min_7cf53 2 = .ok (.if_icmp .gt 7, 3) := by decide +kernel
theorem dJ9_min_7cf53_5 : decode cJ9_min_7cf53 5 = .ok (.iload_n 0, 1) := by decide +kernel
theorem dJ9_min_7cf53_6 : decode cJ9_min_7cf53 6 = .ok (.goto 4, 3) := by decide +kernel
theorem dJ9_min_7cf53_9 : decode cJ9_min_7cf53 9 = .ok (.iload_n 1, 1) := by decide +kernel
theorem dJ9_min_7cf53_10 : decode cJ9_min_7cf53 10 = .ok (.ireturn, 1) := by decide +kernel
theorem dJ0_init_81219_0 : decode cJ0_init_81219 0 = .ok (.aload_n 0, 1) := by decide +kernel
theorem dJ0_init_81219_1 : decode cJ0_init_81219 1 = .ok (.aload_n 1, 1) := by decide +kernel
theorem dJ0_init_81219_2 : decode cJ0_init_81219 2 = .ok (.aconst_null, 1) := by decide +kernel
theorem dJ0_init_81219_3 : decode cJ0_init_81219 3 = .ok (.invokespecial 489, 3) := by decide +kernel
theorem dJ0_init_81219_6 : decode cJ0_init_81219 6 = .ok (.return_, 1) := by decide +kernel
theorem dJ0_length_8abf5_0 : decode cJ0_length_8abf5 0 = .ok (.aload_n 0, 1) := by decide +kernel
theorem dJ0_length_8abf5_1 : decode cJ0_length_8abf5 1 = .ok (.getfield 9, 3) := by decide +kernel
theorem dJ0_length_8abf5_4 : decode cJ0_length_8abf5 4 = .ok (.arraylength, 1) := by decide +kernel
theorem dJ0_length_8abf5_5 : decode cJ0_length_8abf5 5 = .ok (.aload_n 0, 1) := by decide +kernel
theorem dJ0_length_8abf5_6 : decode cJ0_length_8abf5 6 = .ok (.invokevirtual 335, 3) := by decide +kernel
theorem dJ0_length_8abf5_9 : decode cJ0_length_8abf5 9 = .ok (.ishr, 1) := by decide +kernel
theorem dJ0_length_8abf5_10 : decode cJ0_length_8abf5 10 = .ok (.ireturn, 1) := by decide +kernel
theorem dJ0_isEmpty_aae02_0 : decode cJ0_isEmpty_aae02 0 = .ok (.aload_n 0, 1) := by decide +kernel
theorem dJ0_isEmpty_aae02_1 : decode cJ0_isEmpty_aae02 1 = .ok (.getfield 9, 3) := by decide +kernel
theorem dJ0_isEmpty_aae02_4 : decode cJ0_isEmpty_aae02 4 = .ok (.arraylength, 1) := by decide +kernel
theorem dJ0_isEmpty_aae02_5 : decode cJ0_isEmpty_aae02 5 = .ok (.ifCond .ne 7, 3) := by decide +kernel
theorem dJ0_isEmpty_aae02_8 : decode cJ0_isEmpty_aae02 8 = .ok (.iconst 1, 1) := by decide +kernel
theorem dJ0_isEmpty_aae02_9 : decode cJ0_isEmpty_aae02 9 = .ok (.goto 4, 3) := by decide +kernel
theorem dJ0_isEmpty_aae02_12 : decode cJ0_isEmpty_aae02 12 = .ok (.iconst 0, 1) := by decide +kernel
theorem dJ0_isEmpty_aae02_13 : decode cJ0_isEmpty_aae02 13 = .ok (.ireturn, 1) := by decide +kernel
theorem dJ0_charAt_5068e_0 : decode cJ0_charAt_5068e 0 = .ok (.aload_n 0, 1) := by decide +kernel
theorem dJ0_charAt_5068e_1 : decode cJ0_charAt_5068e 1 = .ok (.invokevirtual 492, 3) := by decide +kernel
theorem dJ0_charAt_5068e_4 : decode cJ0_charAt_5068e 4 = .ok (.ifCond .eq 12, 3) := by decide +kernel
theorem dJ0_charAt_5068e_7 : decode cJ0_charAt_5068e 7 = .ok (.aload_n 0, 1) := by decide +kernel
theorem dJ0_charAt_5068e_8 : decode cJ0_charAt_5068e 8 = .ok (.getfield 9, 3) := by decide +kernel
theorem dJ0_charAt_5068e_11 : decode cJ0_charAt_5068e 11 = .ok (.iload_n 1, 1) := by decide +kernel
theorem dJ0_charAt_5068e_12 : decode cJ0_charAt_5068e 12 = .ok (.invokestatic 495, 3) := by decide +kernel
theorem dJ0_charAt_5068e_15 : decode cJ0_charAt_5068e 15 = .ok (.ireturn, 1) := by decide +kernel
theorem dJ0_charAt_5068e_16 : decode cJ0_charAt_5068e 16 = .ok (.aload_n 0, 1) := by decide +kernel
theorem dJ0_charAt_5068e_17 : decode cJ0_charAt_5068e 17 = .ok (.getfield 9, 3) := by decide +kernel
theorem dJ0_charAt_5068e_20 : decode cJ0_charAt_5068e 20 = .ok (.iload_n 1, 1) := by decide +kernel
theorem dJ0_charAt_5068e_21 : decode cJ0_charAt_5068e 21 = .ok (.invokestatic 498, 3) := by decide +kernel
theorem dJ0_charAt_5068e_24 : decode cJ0_charAt_5068e 24 = .ok (.ireturn, 1) := by decide +kernel
theorem dJ0_substring_37a41_0 : decode cJ0_substring_37a41 0 = .ok (.aload_n 0, 1) := by decide +kernel
theorem dJ0_substring_37a41_1 : decode cJ0_substring_37a41 1 = .ok (.invokevirtual 505, 3) := by decide +kernel
theorem dJ0_substring_37a41_4 : decode cJ0_substring_37a41 4 = .ok (.istore_n 3, 1) := by decide +kernel
theorem dJ0_substring_37a41_5 : decode cJ0_substring_37a41 5 = .ok (.iload_n 1, 1) := by decide +kernel
theorem dJ0_substring_37a41_6 : decode cJ0_substring_37a41 6 = .ok (.iload_n 2, 1) := by decide +kernel
theorem dJ0_substring_37a41_7 : decode cJ0_substring_37a41 7 = .ok (.iload_n 3, 1) := by decide +kernel
theorem dJ0_substring_37a41_8 : decode cJ0_substring_37a41 8 = .ok (.invokestatic 521, 3) := by decide +kernel
theorem dJ0_substring_37a41_11 : decode cJ0_substring_37a41 11 = .ok (.iload_n 1, 1) := by decide +kernel
theorem dJ0_substring_37a41_12 : decode cJ0_substring_37a41 12 = .ok (.ifCond .ne 10, 3) := by decide +kernel
theorem dJ0_substring_37a41_15 : decode cJ0_substring_37a41 15 = .ok (.iload_n 2, 1) := by decide +kernel
theorem dJ0_substring_37a41_16 : decode cJ0_substring_37a41 16 = .ok (.iload_n 3, 1) := by decide +kernel
theorem dJ0_substring_37a41_17 : decode cJ0_substring_37a41 17 = .ok (.if_icmp .ne 5, 3) := by decide +kernel
theorem dJ0_substring_37a41_20 : decode cJ0_substring_37a41 20 = .ok (.aload_n 0, 1) := by decide +kernel
theorem dJ0_substring_37a41_21 : decode cJ0_substring_37a41 21 = .ok (.areturn, 1) := by decide +kernel
theorem dJ0_substring_37a41_22 : decode cJ0_substring_37a41 22 = .ok (.iload_n 2, 1) := by decide +kernel
theorem dJ0_substring_37a41_23 : decode cJ0_substring_37a41 23 = .ok (.iload_n 1, 1) := by decide +kernel
theorem dJ0_substring_37a41_24 : decode cJ0_substring_37a41 24 = .ok (.isub, 1) := by decide +kernel
theorem dJ0_substring_37a41_25 : decode cJ0_substring_37a41 25 = .ok (.istore 4, 2) := by decide +kernel
theorem dJ0_substring_37a41_27 : decode cJ0_substring_37a41 27 = .ok (.aload_n 0, 1) := by decide +kernel
theorem dJ0_substring_37a41_28 : decode cJ0_substring_37a41 28 = .ok (.invokevirtual 492, 3) := by decide +kernel
theorem dJ0_substring_37a41_31 : decode cJ0_substring_37a41 31 = .ok (.ifCond .eq 16, 3) := by decide +kernel
theorem dJ0_substring_37a41_34 : decode cJ0_substring_37a41 34 = .ok (.aload_n 0, 1) := by decide +kernel
theorem dJ0_substring_37a41_35 : decode cJ0_substring_37a41 35 = .ok (.getfield 9, 3) := by decide +kernel
theorem dJ0_substring_37a41_38 : decode cJ0_substring_37a41 38 = .ok (.iload_n 1, 1) := by decide +kernel
theorem dJ0_substring_37a41_39 : decode cJ0_substring_37a41 39 = .ok (.iload 4, 2) := by decide +kernel
theorem dJ0_substring_37a41_41 : decode cJ0_substring_37a41 41 = .ok (.invokestatic 685, 3) := by decide +kernel
theorem dJ0_substring_37a41_44 : decode cJ0_substring_37a41 44 = .ok (.goto 13, 3) := by decide +kernel
theorem dJ0_substring_37a41_47 : decode cJ0_substring_37a41 47 = .ok (.aload_n 0, 1) := by decide +kernel
theorem dJ0_substring_37a41_48 : decode cJ0_substring_37a41 48 = .ok (.getfield 9, 3) := by decide +kernel
theorem dJ0_substring_37a41_51 : decode cJ0_substring_37a41 51 = .ok (.iload_n 1, 1) := by decide +kernel
theorem dJ0_substring_37a41_52 : decode cJ0_substring_37a41 52 = .ok (.iload 4, 2) := by decide +kernel
theorem dJ0_substring_37a41_54 : decode cJ0_substring_37a41 54 = .ok (.invokestatic 689, 3) := by decide +kernel
theorem dJ0_substring_37a41_57 : decode cJ0_substring_37a41 57 = .ok (.areturn, 1) := by decide +kernel
theorem dJ0_getBytes_840e7_0 : decode cJ0_getBytes_840e7 0 = .ok (.aload_n 0, 1) := by decide +kernel
theorem dJ0_getBytes_840e7_1 : decode cJ0_getBytes_840e7 1 = .ok (.invokevirtual 335, 3) := by decide +kernel
theorem dJ0_getBytes_840e7_4 : decode cJ0_getBytes_840e7 4 = .ok (.iload_n 3, 1) := by decide +kernel
theorem dJ0_getBytes_840e7_5 : decode cJ0_getBytes_840e7 5 = .ok (.if_icmp .ne 23, 3) := by decide +kernel
theorem dJ0_getBytes_840e7_8 : decode cJ0_getBytes_840e7 8 = .ok (.aload_n 0, 1) := by decide +kernel
theorem dJ0_getBytes_840e7_9 : decode cJ0_getBytes_840e7 9 = .ok (.getfield 9, 3) := by decide +kernel
theorem dJ0_getBytes_840e7_12 : decode cJ0_getBytes_840e7 12 = .ok (.iconst 0, 1) := by decide +kernel
theorem dJ0_getBytes_840e7_13 : decode cJ0_getBytes_840e7 13 = .ok (.aload_n 1, 1) := by decide +kernel
theorem dJ0_getBytes_840e7_14 : decode cJ0_getBytes_840e7 14 = .ok (.iload_n 2, 1) := by decide +kernel
theorem dJ0_getBytes_840e7_15 : decode cJ0_getBytes_840e7 15 = .ok (.iload_n 3, 1) := by decide +kernel
theorem dJ0_getBytes_840e7_16 : decode cJ0_getBytes_840e7 16 = .ok (.ishl, 1) := by decide +kernel
theorem dJ0_getBytes_840e7_17 : decode cJ0_getBytes_840e7 17 = .ok (.aload_n 0, 1) := by decide +kernel
theorem dJ0_getBytes_840e7_18 : decode cJ0_getBytes_840e7 18 = .ok (.getfield 9, 3) := by decide +kernel
theorem dJ0_getBytes_840e7_21 : decode cJ0_getBytes_840e7 21 = .ok (.arraylength, 1) := by decide +kernel
theorem dJ0_getBytes_840e7_22 : decode cJ0_getBytes_840e7 22 = .ok (.invokestatic 212, 3) := by decide +kernel
theorem dJ0_getBytes_840e7_25 : decode cJ0_getBytes_840e7 25 = .ok (.goto 18, 3) := by decide +kernel
theorem dJ0_getBytes_840e7_28 : decode cJ0_getBytes_840e7 28 = .ok (.aload_n 0, 1) := by decide +kernel
theorem dJ0_getBytes_840e7_29 : decode cJ0_getBytes_840e7 29 = .ok (.getfield 9, 3) := by decide +kernel
theorem dJ0_getBytes_840e7_32 : decode cJ0_getBytes_840e7 32 = .ok (.iconst 0, 1) := by decide +kernel
theorem dJ0_getBytes_840e7_33 : decode cJ0_getBytes_840e7 33 = .ok (.aload_n 1, 1) := by decide +kernel
theorem dJ0_getBytes_840e7_34 : decode cJ0_getBytes_840e7 34 = .ok (.iload_n 2, 1) := by decide +kernel
theorem dJ0_getBytes_840e7_35 : decode cJ0_getBytes_840e7 35 = .ok (.aload_n 0, 1) := by decide +kernel
theorem dJ0_getBytes_840e7_36 : decode cJ0_getBytes_840e7 36 = .ok (.getfield 9, 3) := by decide +kernel
theorem dJ0_getBytes_840e7_39 : decode cJ0_getBytes_840e7 39 = .ok (.arraylength, 1) := by decide +kernel
theorem dJ0_getBytes_840e7_40 : decode cJ0_getBytes_840e7 40 = .ok (.invokestatic 106, 3) := by decide +kernel
theorem dJ0_getBytes_840e7_43 : decode cJ0_getBytes_840e7 43 = .ok (.return_, 1) := by decide +kernel
theorem dJ0_init_db425_0 : decode cJ0_init_db425 0 = .ok (.aload_n 0, 1) := by decide +kernel
theorem dJ0_init_db425_1 : decode cJ0_init_db425 1 = .ok (.invokespecial 1, 3) := by decide +kernel
theorem dJ0_init_db425_4 : decode cJ0_init_db425 4 = .ok (.aload_n 1, 1) := by decide +kernel
theorem dJ0_init_db425_5 : decode cJ0_init_db425 5 = .ok (.invokevirtual 552, 3) := by decide +kernel
theorem dJ0_init_db425_8 : decode cJ0_init_db425 8 = .ok (.astore_n 3, 1) := by decide +kernel
theorem dJ0_init_db425_9 : decode cJ0_init_db425 9 = .ok (.aload_n 1, 1) := by decide +kernel
theorem dJ0_init_db425_10 : decode cJ0_init_db425 10 = .ok (.invokevirtual 549, 3) := by decide +kernel
theorem dJ0_init_db425_13 : decode cJ0_init_db425 13 = .ok (.istore 4, 2) := by decide +kernel
theorem dJ0_init_db425_15 : decode cJ0_init_db425 15 = .ok (.aload_n 1, 1) := by decide +kernel
theorem dJ0_init_db425_16 : decode cJ0_init_db425 16 = .ok (.invokevirtual 1047, 3) := by decide +kernel
theorem dJ0_init_db425_19 : decode cJ0_init_db425 19 = .ok (.ifCond .eq 22, 3) := by decide +kernel
theorem dJ0_init_db425_22 : decode cJ0_init_db425 22 = .ok (.aload_n 0, 1) := by decide +kernel
theorem dJ0_init_db425_23 : decode cJ0_init_db425 23 = .ok (.iconst 0, 1) := by decide +kernel
theorem dJ0_init_db425_24 : decode cJ0_init_db425 24 = .ok (.putfield 15, 3) := by decide +kernel
theorem dJ0_init_db425_27 : decode cJ0_init_db425 27 = .ok (.aload_n 0, 1) := by decide +kernel
theorem dJ0_init_db425_28 : decode cJ0_init_db425 28 = .ok (.aload_n 3, 1) := by decide +kernel
theorem dJ0_init_db425_29 : decode cJ0_init_db425 29 = .ok (.iconst 0, 1) := by decide +kernel
theorem dJ0_init_db425_30 : decode cJ0_init_db425 30 = .ok (.iload 4, 2) := by decide +kernel
theorem dJ0_init_db425_32 : decode cJ0_init_db425 32 = .ok (.invokestatic 54, 3) := by decide +kernel
theorem dJ0_init_db425_35 : decode cJ0_init_db425 35 = .ok (.putfield 9, 3) := by decide +kernel
theorem dJ0_init_db425_38 : decode cJ0_init_db425 38 = .ok (.goto 59, 3) := by decide +kernel
theorem dJ0_init_db425_41 : decode cJ0_init_db425 41 = .ok (.getstatic 38, 3) := by decide +kernel
theorem dJ0_init_db425_44 : decode cJ0_init_db425 44 = .ok (.ifCond .eq 35, 3) := by decide +kernel
theorem dJ0_init_db425_47 : decode cJ0_init_db425 47 = .ok (.aload_n 1, 1) := by decide +kernel
theorem dJ0_init_db425_48 : decode cJ0_init_db425 48 = .ok (.getfield 1048, 3) := by decide +kernel
theorem dJ0_init_db425_51 : decode cJ0_init_db425 51 = .ok (.ifCond .eq 28, 3) := by decide +kernel
theorem dJ0_init_db425_54 : decode cJ0_init_db425 54 = .ok (.aload_n 0, 1) := by decide +kernel
theorem dJ0_init_db425_55 : decode cJ0_init_db425 55 = .ok (.aload_n 3, 1) := by decide +kernel
theorem dJ0_init_db425_56 : decode cJ0_init_db425 56 = .ok (.iconst 0, 1) := by decide +kernel
theorem dJ0_init_db425_57 : decode cJ0_init_db425 57 = .ok (.iload 4, 2) := by decide +kernel
theorem dJ0_init_db425_59 : decode cJ0_init_db425 59 = .ok (.invokestatic 1051, 3) := by decide +kernel
theorem dJ0_init_db425_62 : decode cJ0_init_db425 62 = .ok (.putfield 9, 3) := by decide +kernel
theorem dJ0_init_db425_65 : decode cJ0_init_db425 65 = .ok (.aload_n 0, 1) := by decide +kernel
theorem dJ0_init_db425_66 : decode cJ0_init_db425 66 = .ok (.aload_n 0, 1) := by decide +kernel
theorem dJ0_init_db425_67 : decode cJ0_init_db425 67 = .ok (.getfield 9, 3) := by decide +kernel
theorem dJ0_init_db425_70 : decode cJ0_init_db425 70 = .ok (.iload 4, 2) := by decide +kernel
theorem dJ0_init_db425_72 : decode cJ0_init_db425 72 = .ok (.invokestatic 47, 3) := by decide +kernel
theorem dJ0_init_db425_75 : decode cJ0_init_db425 75 = .ok (.putfield 15, 3) := by decide +kernel
theorem dJ0_init_db425_78 : decode cJ0_init_db425 78 = .ok (.return_, 1) := by decide +kernel
theorem dJ0_init_db425_79 : decode cJ0_init_db425 79 = .ok (.aload_n 0, 1) := by decide +kernel
theorem dJ0_init_db425_80 : decode cJ0_init_db425 80 = .ok (.iconst 1, 1) := by decide +kernel
theorem dJ0_init_db425_81 : decode cJ0_init_db425 81 = .ok (.putfield 15, 3) := by decide +kernel
theorem dJ0_init_db425_84 : decode cJ0_init_db425 84 = .ok (.aload_n 0, 1) := by decide +kernel
theorem dJ0_init_db425_85 : decode cJ0_init_db425 85 = .ok (.aload_n 3, 1) := by decide +kernel
theorem dJ0_init_db425_86 : decode cJ0_init_db425 86 = .ok (.iconst 0, 1) := by decide +kernel
theorem dJ0_init_db425_87 : decode cJ0_init_db425 87 = .ok (.iload 4, 2) := by decide +kernel
theorem dJ0_init_db425_89 : decode cJ0_init_db425 89 = .ok (.iconst 1, 1) := by decide +kernel
theorem dJ0_init_db425_90 : decode cJ0_init_db425 90 = .ok (.ishl, 1) := by decide +kernel
theorem dJ0_init_db425_91 : decode cJ0_init_db425 91 = .ok (.invokestatic 54, 3) := by decide +kernel
theorem dJ0_init_db425_94 : decode cJ0_init_db425 94 = .ok (.putfield 9, 3) := by decide +kernel
theorem dJ0_init_db425_97 : decode cJ0_init_db425 97 = .ok (.return_, 1) := by decide +kernel
theorem dJ0_init_031fb_0 : decode cJ0_init_031fb 0 = .ok (.aload_n 0, 1) := by decide +kernel
theorem dJ0_init_031fb_1 : decode cJ0_init_031fb 1 = .ok (.invokespecial 1, 3) := by decide +kernel
theorem dJ0_init_031fb_4 : decode cJ0_init_031fb 4 = .ok (.aload_n 0, 1) := by decide +kernel
theorem dJ0_init_031fb_5 : decode cJ0_init_031fb 5 = .ok (.aload_n 1, 1) := by decide +kernel
theorem dJ0_init_031fb_6 : decode cJ0_init_031fb 6 = .ok (.putfield 9, 3) := by decide +kernel
theorem dJ0_init_031fb_9 : decode cJ0_init_031fb 9 = .ok (.aload_n 0, 1) := by decide +kernel
theorem dJ0_init_031fb_10 : decode cJ0_init_031fb 10 = .ok (.iload_n 2, 1) := by decide +kernel
theorem dJ0_init_031fb_11 : decode cJ0_init_031fb 11 = .ok (.putfield 15, 3) := by decide +kernel
theorem dJ0_init_031fb_14 : decode cJ0_init_031fb 14 = .ok (.return_, 1) := by decide +kernel
theorem dJ0_coder_7d493_0 : decode cJ0_coder_7d493 0 = .ok (.getstatic 38, 3) := by decide +kernel
theorem dJ0_coder_7d493_3 : decode cJ0_coder_7d493 3 = .ok (.ifCond .eq 10, 3) := by decide +kernel
theorem dJ0_coder_7d493_6 : decode cJ0_coder_7d493 6 = .ok (.aload_n 0, 1) := by decide +kernel
theorem dJ0_coder_7d493_7 : decode cJ0_coder_7d493 7 = .ok (.getfield 15, 3) := by decide +kernel
theorem dJ0_coder_7d493_10 : decode cJ0_coder_7d493 10 = .ok (.goto 4, 3) := by decide +kernel
theorem dJ0_coder_7d493_13 : decode cJ0_coder_7d493 13 = .ok (.iconst 1, 1) := by decide +kernel
theorem dJ0_coder_7d493_14 : decode cJ0_coder_7d493 14 = .ok (.ireturn, 1) := by decide +kernel
theorem dJ0_isLatin1_aae02_0 : decode cJ0_isLatin1_aae02 0 = .ok (.getstatic 38, 3) := by decide +kernel
theorem dJ0_isLatin1_aae02_3 : decode cJ0_isLatin1_aae02 3 = .ok (.ifCond .eq 14, 3) := by decide +kernel
theorem dJ0_isLatin1_aae02_6 : decode cJ0_isLatin1_aae02 6 = .ok (.aload_n 0, 1) := by decide +kernel
theorem dJ0_isLatin1_aae02_7 : decode cJ0_isLatin1_aae02 7 = .ok (.getfield 15, 3) := by decide +kernel
theorem dJ0_isLatin1_aae02_10 : decode cJ0_isLatin1_aae02 10 = .ok (.ifCond .ne 7, 3) := by decide +kernel
theorem dJ0_isLatin1_aae02_13 : decode cJ0_isLatin1_aae02 13 = .ok (.iconst 1, 1) := by decide +kernel
theorem dJ0_isLatin1_aae02_14 : decode cJ0_isLatin1_aae02 14 = .ok (.goto 4, 3) := by decide +kernel
theorem dJ0_isLatin1_aae02_17 : decode cJ0_isLatin1_aae02 17 = .ok (.iconst 0, 1) := by decide +kernel
theorem dJ0_isLatin1_aae02_18 : decode cJ0_isLatin1_aae02 18 = .ok (.ireturn, 1) := by decide +kernel
theorem dJ0_checkIndex_df160_0 : decode cJ0_checkIndex_df160 0 = .ok (.iload_n 0, 1) := by decide +kernel
theorem dJ0_checkIndex_df160_1 : decode cJ0_checkIndex_df160 1 = .ok (.iload_n 1, 1) := by decide +kernel
theorem dJ0_checkIndex_df160_2 : decode cJ0_checkIndex_df160 2 = .ok (.getstatic 1053, 3) := by decide +kernel
theorem dJ0_checkIndex_df160_5 : decode cJ0_checkIndex_df160 5 = .ok (.invokestatic 1059, 3) := by decide +kernel
theorem dJ0_checkIndex_df160_8 : decode cJ0_checkIndex_df160 8 = .ok (.pop, 1) := by decide +kernel
theorem dJ0_checkIndex_df160_9 : decode cJ0_checkIndex_df160 9 = .ok (.return_, 1) := by decide +kernel
theorem dJ0_checkBoundsBeginEnd_23922_0 : decode cJ0_checkBoundsBeginEnd_23922 0 = .ok (.iload_n 0, 1) := by decide +kernel
theorem dJ0_checkBoundsBeginEnd_23922_1 : decode cJ0_checkBoundsBeginEnd_23922 1 = .ok (.iload_n 1, 1) := by decide +kernel
theorem dJ0_checkBoundsBeginEnd_23922_2 : decode cJ0_checkBoundsBeginEnd_23922 2 = .ok (.iload_n 2, 1) := by decide +kernel
theorem dJ0_checkBoundsBeginEnd_23922_3 : decode cJ0_checkBoundsBeginEnd_23922 3 = .ok (.getstatic 1053, 3) := by decide +kernel
theorem dJ0_checkBoundsBeginEnd_23922_6 : decode cJ0_checkBoundsBeginEnd_23922 6 = .ok (.invokestatic 1062, 3) := by decide +kernel
theorem dJ0_checkBoundsBeginEnd_23922_9 : decode cJ0_checkBoundsBeginEnd_23922 9 = .ok (.pop, 1) := by decide +kernel
theorem dJ0_checkBoundsBeginEnd_23922_10 : decode cJ0_checkBoundsBeginEnd_23922 10 = .ok (.return_, 1) := by decide +kernel
theorem dJ4_init_da8c8_0 : decode cJ4_init_da8c8 0 = .ok (.aload_n 0, 1) := by decide +kernel
theorem dJ4_init_da8c8_1 : decode cJ4_init_da8c8 1 = .ok (.bipush 16, 2) := by decide +kernel
theorem dJ4_init_da8c8_3 : decode cJ4_init_da8c8 3 = .ok (.invokespecial 1, 3) := by decide +kernel
theorem dJ4_init_da8c8_6 : decode cJ4_init_da8c8 6 = .ok (.return_, 1) := by decide +kernel
theorem dJ4_append_15ec4_0 : decode cJ4_append_15ec4 0 = .ok (.aload_n 0, 1) := by decide +kernel
theorem dJ4_append_15ec4_1 : decode cJ4_append_15ec4 1 = .ok (.aload_n 1, 1) := by decide +kernel
theorem dJ4_append_15ec4_2 : decode cJ4_append_15ec4 2 = .ok (.invokespecial 29, 3) := by decide +kernel
theorem dJ4_append_15ec4_5 : decode cJ4_append_15ec4 5 = .ok (.pop, 1) := by decide +kernel
theorem dJ4_append_15ec4_6 : decode cJ4_append_15ec4 6 = .ok (.aload_n 0, 1) := by decide +kernel
theorem dJ4_append_15ec4_7 : decode cJ4_append_15ec4 7 = .ok (.areturn, 1) := by decide +kernel
theorem dJ4_append_cf468_0 : decode cJ4_append_cf468 0 = .ok (.aload_n 0, 1) := by decide +kernel
theorem dJ4_append_cf468_1 : decode cJ4_append_cf468 1 = .ok (.iload_n 1, 1) := by decide +kernel
theorem dJ4_append_cf468_2 : decode cJ4_append_cf468 2 = .ok (.invokespecial 50, 3) := by decide +kernel
theorem dJ4_append_cf468_5 : decode cJ4_append_cf468 5 = .ok (.pop, 1) := by decide +kernel
theorem dJ4_append_cf468_6 : decode cJ4_append_cf468 6 = .ok (.aload_n 0, 1) := by decide +kernel
theorem dJ4_append_cf468_7 : decode cJ4_append_cf468 7 = .ok (.areturn, 1) := by decide +kernel
theorem dJ4_append_bf812_0 : decode cJ4_append_bf812 0 = .ok (.aload_n 0, 1) := by decide +kernel
theorem dJ4_append_bf812_1 : decode cJ4_append_bf812 1 = .ok (.iload_n 1, 1) := by decide +kernel
theorem dJ4_append_bf812_2 : decode cJ4_append_bf812 2 = .ok (.invokespecial 53, 3) := by decide +kernel
theorem dJ4_append_bf812_5 : decode cJ4_append_bf812 5 = .ok (.pop, 1) := by decide +kernel
theorem dJ4_append_bf812_6 : decode cJ4_append_bf812 6 = .ok (.aload_n 0, 1) := by decide +kernel
theorem dJ4_append_bf812_7 : decode cJ4_append_bf812 7 = .ok (.areturn, 1) := by decide +kernel
theorem dJ4_toString_0e30d_0 : decode cJ4_toString_0e30d 0 = .ok (.new 18, 3) := by decide +kernel
theorem dJ4_toString_0e30d_3 : decode cJ4_toString_0e30d 3 = .ok (.dup, 1) := by decide +kernel
theorem dJ4_toString_0e30d_4 : decode cJ4_toString_0e30d 4 = .ok (.aload_n 0, 1) := by decide +kernel
theorem dJ4_toString_0e30d_5 : decode cJ4_toString_0e30d 5 = .ok (.invokespecial 137, 3) := by decide +kernel
theorem dJ4_toString_0e30d_8 : decode cJ4_toString_0e30d 8 = .ok (.areturn, 1) := by decide +kernel
theorem dJ4_charAt_5068e_0 : decode cJ4_charAt_5068e 0 = .ok (.aload_n 0, 1) := by decide +kernel
theorem dJ4_charAt_5068e_1 : decode cJ4_charAt_5068e 1 = .ok (.iload_n 1, 1) := by decide +kernel
theorem dJ4_charAt_5068e_2 : decode cJ4_charAt_5068e 2 = .ok (.invokespecial 329, 3) := by decide +kernel
theorem dJ4_charAt_5068e_5 : decode cJ4_charAt_5068e 5 = .ok (.ireturn, 1) := by decide +kernel
theorem dJ4_setLength_d00df_0 : decode cJ4_setLength_d00df 0 = .ok (.aload_n 0, 1) := by decide +kernel
theorem dJ4_setLength_d00df_1 : decode cJ4_setLength_d00df 1 = .ok (.iload_n 1, 1) := by decide +kernel
theorem dJ4_setLength_d00df_2 : decode cJ4_setLength_d00df 2 = .ok (.invokespecial 333, 3) := by decide +kernel
theorem dJ4_setLength_d00df_5 : decode cJ4_setLength_d00df 5 = .ok (.return_, 1) := by decide +kernel
theorem dJ4_length_8abf5_0 : decode cJ4_length_8abf5 0 = .ok (.aload_n 0, 1) := by decide +kernel
theorem dJ4_length_8abf5_1 : decode cJ4_length_8abf5 1 = .ok (.invokespecial 343, 3) := by decide +kernel
theorem dJ4_length_8abf5_4 : decode cJ4_length_8abf5 4 = .ok (.ireturn, 1) := by decide +kernel
theorem dJx7c733_init_d00df_0 : decode cJx7c733_init_d00df 0 = .ok (.aload_n 0, 1) := by decide +kernel
theorem dJx7c733_init_d00df_1 : decode cJx7c733_init_d00df 1 = .ok (.new 10, 3) := by decide +kernel
theorem dJx7c733_init_d00df_4 : decode cJx7c733_init_d00df 4 = .ok (.dup, 1) := by decide +kernel
theorem dJx7c733_init_d00df_5 : decode cJx7c733_init_d00df 5 = .ok (.invokespecial 12, 3) := by decide +kernel
theorem dJx7c733_init_d00df_8 : decode cJx7c733_init_d00df 8 = .ok (.ldc 13, 2) := by decide +kernel
theorem dJx7c733_init_d00df_10 : decode cJx7c733_init_d00df 10 = .ok (.invokevirtual 15, 3) := by decide +kernel
theorem dJx7c733_init_d00df_13 : decode cJx7c733_init_d00df 13 = .ok (.iload_n 1, 1) := by decide +kernel
theorem dJx7c733_init_d00df_14 : decode cJx7c733_init_d00df 14 = .ok (.invokevirtual 19, 3) := by decide +kernel
theorem dJx7c733_init_d00df_17 : decode cJx7c733_init_d00df 17 = .ok (.invokevirtual 22, 3) := by decide +kernel
theorem dJx7c733_init_d00df_20 : decode cJx7c733_init_d00df 20 = .ok (.invokespecial 7, 3) := by decide +kernel
theorem dJx7c733_init_d00df_23 : decode cJx7c733_init_d00df 23 = .ok (.return_, 1) := by decide +kernel
theorem dJ1_charAt_3b067_0 : decode cJ1_charAt_3b067 0 = .ok (.iload_n 1, 1) := by decide +kernel
theorem dJ1_charAt_3b067_1 : decode cJ1_charAt_3b067 1 = .ok (.aload_n 0, 1) := by decide +kernel
theorem dJ1_charAt_3b067_2 : decode cJ1_charAt_3b067 2 = .ok (.arraylength, 1) := by decide +kernel
theorem dJ1_charAt_3b067_3 : decode cJ1_charAt_3b067 3 = .ok (.invokestatic 9, 3) := by decide +kernel
theorem dJ1_charAt_3b067_6 : decode cJ1_charAt_3b067 6 = .ok (.aload_n 0, 1) := by decide +kernel
theorem dJ1_charAt_3b067_7 : decode cJ1_charAt_3b067 7 = .ok (.iload_n 1, 1) := by decide +kernel
theorem dJ1_charAt_3b067_8 : decode cJ1_charAt_3b067 8 = .ok (.baload, 1) := by decide +kernel
theorem dJ1_charAt_3b067_9 : decode cJ1_charAt_3b067 9 = .ok (.sipush 255, 3) := by decide +kernel
theorem dJ1_charAt_3b067_12 : decode cJ1_charAt_3b067 12 = .ok (.iand, 1) := by decide +kernel
theorem dJ1_charAt_3b067_13 : decode cJ1_charAt_3b067 13 = .ok (.i2c, 1) := by decide +kernel
theorem dJ1_charAt_3b067_14 : decode cJ1_charAt_3b067 14 = .ok (.ireturn, 1) := by decide +kernel
theorem dJ1_canEncode_fc78d_0 : decode cJ1_canEncode_fc78d 0 = .ok (.iload_n 0, 1) := by decide +kernel
theorem dJ1_canEncode_fc78d_1 : decode cJ1_canEncode_fc78d 1 = .ok (.sipush 255, 3) := by decide +kernel
theorem dJ1_canEncode_fc78d_4 : decode cJ1_canEncode_fc78d 4 = .ok (.if_icmp .gt 7, 3) := by decide +kernel
theorem dJ1_canEncode_fc78d_7 : decode cJ1_canEncode_fc78d 7 = .ok (.iconst 1, 1) := by decide +kernel
theorem dJ1_canEncode_fc78d_8 : decode cJ1_canEncode_fc78d 8 = .ok (.goto 4, 3) := by decide +kernel
theorem dJ1_canEncode_fc78d_11 : decode cJ1_canEncode_fc78d 11 = .ok (.iconst 0, 1) := by decide +kernel
theorem dJ1_canEncode_fc78d_12 : decode cJ1_canEncode_fc78d 12 = .ok (.ireturn, 1) := by decide +kernel
theorem dJ1_newString_b4f7a_0 : decode cJ1_newString_b4f7a 0 = .ok (.iload_n 2, 1) := by decide +kernel
theorem dJ1_newString_b4f7a_1 : decode cJ1_newString_b4f7a 1 = .ok (.ifCond .ne 6, 3) := by decide +kernel
theorem dJ1_newString_b4f7a_4 : decode cJ1_newString_b4f7a 4 = .ok (.ldc 151, 2) := by decide +kernel
theorem dJ1_newString_b4f7a_6 : decode cJ1_newString_b4f7a 6 = .ok (.areturn, 1) := by decide +kernel
theorem dJ1_newString_b4f7a_7 : decode cJ1_newString_b4f7a 7 = .ok (.new 1, 3) := by decide +kernel
theorem dJ1_newString_b4f7a_10 : decode cJ1_newString_b4f7a 10 = .ok (.dup, 1) := by decide +kernel
theorem dJ1_newString_b4f7a_11 : decode cJ1_newString_b4f7a 11 = .ok (.aload_n 0, 1) := by decide +kernel
theorem dJ1_newString_b4f7a_12 : decode cJ1_newString_b4f7a 12 = .ok (.iload_n 1, 1) := by decide +kernel
theorem dJ1_newString_b4f7a_13 : decode cJ1_newString_b4f7a 13 = .ok (.iload_n 1, 1) := by decide +kernel
theorem dJ1_newString_b4f7a_14 : decode cJ1_newString_b4f7a 14 = .ok (.iload_n 2, 1) := by decide +kernel
theorem dJ1_newString_b4f7a_15 : decode cJ1_newString_b4f7a 15 = .ok (.iadd, 1) := by decide +kernel
theorem dJ1_newString_b4f7a_16 : decode cJ1_newString_b4f7a 16 = .ok (.invokestatic 232, 3) := by decide +kernel
theorem dJ1_newString_b4f7a_19 : decode cJ1_newString_b4f7a 19 = .ok (.iconst 0, 1) := by decide +kernel
theorem dJ1_newString_b4f7a_20 : decode cJ1_newString_b4f7a 20 = .ok (.invokespecial 112, 3) := by decide +kernel
theorem dJ1_newString_b4f7a_23 : decode cJ1_newString_b4f7a 23 = .ok (.areturn, 1) := by decide +kernel
theorem dJ1_fillNull_b72d1_0 : decode cJ1_fillNull_b72d1 0 = .ok (.aload_n 0, 1) := by decide +kernel
theorem dJ1_fillNull_b72d1_1 : decode cJ1_fillNull_b72d1 1 = .ok (.iload_n 1, 1) := by decide +kernel
theorem dJ1_fillNull_b72d1_2 : decode cJ1_fillNull_b72d1 2 = .ok (.iload_n 2, 1) := by decide +kernel
theorem dJ1_fillNull_b72d1_3 : decode cJ1_fillNull_b72d1 3 = .ok (.iconst 0, 1) := by decide +kernel
theorem dJ1_fillNull_b72d1_4 : decode cJ1_fillNull_b72d1 4 = .ok (.invokestatic 236, 3) := by decide +kernel
theorem dJ1_fillNull_b72d1_7 : decode cJ1_fillNull_b72d1 7 = .ok (.return_, 1) := by decide +kernel
theorem dJxa1e45_init_da8c8_0 : decode cJxa1e45_init_da8c8 0 = .ok (.aload_n 0, 1) := by decide +kernel
theorem dJxa1e45_init_da8c8_1 : decode cJxa1e45_init_da8c8 1 = .ok (.invokespecial 1, 3) := by decide +kernel
theorem dJxa1e45_init_da8c8_4 : decode cJxa1e45_init_da8c8 4 = .ok (.return_, 1) := by decide +kernel
theorem dJxc12de_init_da8c8_0 : decode cJxc12de_init_da8c8 0 = .ok (.aload_n 0, 1) := by decide +kernel
theorem dJxc12de_init_da8c8_1 : decode cJxc12de_init_da8c8 1 = .ok (.invokespecial 1, 3) := by decide +kernel
theorem dJxc12de_init_da8c8_4 : decode cJxc12de_init_da8c8 4 = .ok (.aload_n 0, 1) := by decide +kernel
theorem dJxc12de_init_da8c8_5 : decode cJxc12de_init_da8c8 5 = .ok (.iconst 0, 1) := by decide +kernel
theorem dJxc12de_init_da8c8_6 : decode cJxc12de_init_da8c8 6 = .ok (.putfield 7, 3) := by decide +kernel
theorem dJxc12de_init_da8c8_9 : decode cJxc12de_init_da8c8 9 = .ok (.return_, 1) := by decide +kernel
theorem dJx4a65c_init_da8c8_0 : decode cJx4a65c_init_da8c8 0 = .ok (.aload_n 0, 1) := by decide +kernel
theorem dJx4a65c_init_da8c8_1 : decode cJx4a65c_init_da8c8 1 = .ok (.invokespecial 1, 3) := by decide +kernel
theorem dJx4a65c_init_da8c8_4 : decode cJx4a65c_init_da8c8 4 = .ok (.aload_n 0, 1) := by decide +kernel
theorem dJx4a65c_init_da8c8_5 : decode cJx4a65c_init_da8c8 5 = .ok (.getstatic 39, 3) := by decide +kernel
theorem dJx4a65c_init_da8c8_8 : decode cJx4a65c_init_da8c8 8 = .ok (.putfield 9, 3) := by decide +kernel
theorem dJx4a65c_init_da8c8_11 : decode cJx4a65c_init_da8c8 11 = .ok (.return_, 1) := by decide +kernel
theorem dJx4a65c_grow_92f84_0 : decode cJx4a65c_grow_92f84 0 = .ok (.aload_n 0, 1) := by decide +kernel
theorem dJx4a65c_grow_92f84_1 : decode cJx4a65c_grow_92f84 1 = .ok (.getfield 9, 3) := by decide +kernel
theorem dJx4a65c_grow_92f84_4 : decode cJx4a65c_grow_92f84 4 = .ok (.arraylength, 1) := by decide +kernel
theorem dJx4a65c_grow_92f84_5 : decode cJx4a65c_grow_92f84 5 = .ok (.istore_n 2, 1) := by decide +kernel
theorem dJx4a65c_grow_92f84_6 : decode cJx4a65c_grow_92f84 6 = .ok (.iload_n 2, 1) := by decide +kernel
theorem dJx4a65c_grow_92f84_7 : decode cJx4a65c_grow_92f84 7 = .ok (.ifCond .gt 13, 3) := by decide +kernel
theorem dJx4a65c_grow_92f84_10 : decode cJx4a65c_grow_92f84 10 = .ok (.aload_n 0, 1) := by decide +kernel
theorem dJx4a65c_grow_92f84_11 : decode cJx4a65c_grow_92f84 11 = .ok (.getfield 9, 3) := by decide +kernel
theorem dJx4a65c_grow_92f84_14 : decode cJx4a65c_grow_92f84 14 = .ok (.getstatic 39, 3) := by decide +kernel
theorem dJx4a65c_grow_92f84_17 : decode cJx4a65c_grow_92f84 17 = .ok (.if_acmp .eq 28, 3) := by decide +kernel
theorem dJx4a65c_grow_92f84_20 : decode cJx4a65c_grow_92f84 20 = .ok (.iload_n 2, 1) := by decide +kernel
theorem dJx4a65c_grow_92f84_21 : decode cJx4a65c_grow_92f84 21 = .ok (.iload_n 1, 1) := by decide +kernel
theorem dJx4a65c_grow_92f84_22 : decode cJx4a65c_grow_92f84 22 = .ok (.iload_n 2, 1) := by decide +kernel
theorem dJx4a65c_grow_92f84_23 : decode cJx4a65c_grow_92f84 23 = .ok (.isub, 1) := by decide +kernel
theorem dJx4a65c_grow_92f84_24 : decode cJx4a65c_grow_92f84 24 = .ok (.iload_n 2, 1) := by decide +kernel
theorem dJx4a65c_grow_92f84_25 : decode cJx4a65c_grow_92f84 25 = .ok (.iconst 1, 1) := by decide +kernel
theorem dJx4a65c_grow_92f84_26 : decode cJx4a65c_grow_92f84 26 = .ok (.ishr, 1) := by decide +kernel
theorem dJx4a65c_grow_92f84_27 : decode cJx4a65c_grow_92f84 27 = .ok (.invokestatic 73, 3) := by decide +kernel
theorem dJx4a65c_grow_92f84_30 : decode cJx4a65c_grow_92f84 30 = .ok (.istore_n 3, 1) := by decide +kernel
theorem dJx4a65c_grow_92f84_31 : decode cJx4a65c_grow_92f84 31 = .ok (.aload_n 0, 1) := by decide +kernel
theorem dJx4a65c_grow_92f84_32 : decode cJx4a65c_grow_92f84 32 = .ok (.aload_n 0, 1) := by decide +kernel
theorem dJx4a65c_grow_92f84_33 : decode cJx4a65c_grow_92f84 33 = .ok (.getfield 9, 3) := by decide +kernel
theorem dJx4a65c_grow_92f84_36 : decode cJx4a65c_grow_92f84 36 = .ok (.iload_n 3, 1) := by decide +kernel
theorem dJx4a65c_grow_92f84_37 : decode cJx4a65c_grow_92f84 37 = .ok (.invokestatic 66, 3) := by decide +kernel
theorem dJx4a65c_grow_92f84_40 : decode cJx4a65c_grow_92f84 40 = .ok (.dup_x1, 1) := by decide +kernel
theorem dJx4a65c_grow_92f84_41 : decode cJx4a65c_grow_92f84 41 = .ok (.putfield 9, 3) := by decide +kernel
theorem dJx4a65c_grow_92f84_44 : decode cJx4a65c_grow_92f84 44 = .ok (.areturn, 1) := by decide +kernel
theorem dJx4a65c_grow_92f84_45 : decode cJx4a65c_grow_92f84 45 = .ok (.aload_n 0, 1) := by decide +kernel
theorem dJx4a65c_grow_92f84_46 : decode cJx4a65c_grow_92f84 46 = .ok (.bipush 10, 2) := by decide +kernel
theorem dJx4a65c_grow_92f84_48 : decode cJx4a65c_grow_92f84 48 = .ok (.iload_n 1, 1) := by decide +kernel
theorem dJx4a65c_grow_92f84_49 : decode cJx4a65c_grow_92f84 49 = .ok (.invokestatic 79, 3) := by decide +kernel
theorem dJx4a65c_grow_92f84_52 : decode cJx4a65c_grow_92f84 52 = .ok (.anewarray 7, 3) := by decide +kernel
theorem dJx4a65c_grow_92f84_55 : decode cJx4a65c_grow_92f84 55 = .ok (.dup_x1, 1) := by decide +kernel
theorem dJx4a65c_grow_92f84_56 : decode cJx4a65c_grow_92f84 56 = .ok (.putfield 9, 3) := by decide +kernel
theorem dJx4a65c_grow_92f84_59 : decode cJx4a65c_grow_92f84 59 = .ok (.areturn, 1) := by decide +kernel
theorem dJx4a65c_grow_d5877_0 : decode cJx4a65c_grow_d5877 0 = .ok (.aload_n 0, 1) := by decide +kernel
theorem dJx4a65c_grow_d5877_1 : decode cJx4a65c_grow_d5877 1 = .ok (.aload_n 0, 1) := by decide +kernel
theorem dJx4a65c_grow_d5877_2 : decode cJx4a65c_grow_d5877 2 = .ok (.getfield 48, 3) := by decide +kernel
theorem dJx4a65c_grow_d5877_5 : decode cJx4a65c_grow_d5877 5 = .ok (.iconst 1, 1) := by decide +kernel
theorem dJx4a65c_grow_d5877_6 : decode cJx4a65c_grow_d5877 6 = .ok (.iadd, 1) := by decide +kernel
theorem dJx4a65c_grow_d5877_7 : decode cJx4a65c_grow_d5877 7 = .ok (.invokevirtual 69, 3) := by decide +kernel
theorem dJx4a65c_grow_d5877_10 : decode cJx4a65c_grow_d5877 10 = .ok (.areturn, 1) := by decide +kernel
theorem dJx4a65c_size_8abf5_0 : decode cJx4a65c_size_8abf5 0 = .ok (.aload_n 0, 1) := by decide +kernel
theorem dJx4a65c_size_8abf5_1 : decode cJx4a65c_size_8abf5 1 = .ok (.getfield 48, 3) := by decide +kernel
theorem dJx4a65c_size_8abf5_4 : decode cJx4a65c_size_8abf5 4 = .ok (.ireturn, 1) := by decide +kernel
theorem dJx4a65c_isEmpty_aae02_0 : decode cJx4a65c_isEmpty_aae02 0 = .ok (.aload_n 0, 1) := by decide +kernel
theorem dJx4a65c_isEmpty_aae02_1 : decode cJx4a65c_isEmpty_aae02 1 = .ok (.getfield 48, 3) := by decide +kernel
theorem dJx4a65c_isEmpty_aae02_4 : decode cJx4a65c_isEmpty_aae02 4 = .ok (.ifCond .ne 7, 3) := by decide +kernel
theorem dJx4a65c_isEmpty_aae02_7 : decode cJx4a65c_isEmpty_aae02 7 = .ok (.iconst 1, 1) := by decide +kernel
theorem dJx4a65c_isEmpty_aae02_8 : decode cJx4a65c_isEmpty_aae02 8 = .ok (.goto 4, 3) := by decide +kernel
theorem dJx4a65c_isEmpty_aae02_11 : decode cJx4a65c_isEmpty_aae02 11 = .ok (.iconst 0, 1) := by decide +kernel
theorem dJx4a65c_isEmpty_aae02_12 : decode cJx4a65c_isEmpty_aae02 12 = .ok (.ireturn, 1) := by decide +kernel
theorem dJx4a65c_elementData_915e3_0 : decode cJx4a65c_elementData_915e3 0 = .ok (.aload_n 0, 1) := by decide +kernel
theorem dJx4a65c_elementData_915e3_1 : decode cJx4a65c_elementData_915e3 1 = .ok (.getfield 9, 3) := by decide +kernel
theorem dJx4a65c_elementData_915e3_4 : decode cJx4a65c_elementData_915e3 4 = .ok (.iload_n 1, 1) := by decide +kernel
theorem dJx4a65c_elementData_915e3_5 : decode cJx4a65c_elementData_915e3 5 = .ok (.aaload, 1) := by decide +kernel
theorem dJx4a65c_elementData_915e3_6 : decode cJx4a65c_elementData_915e3 6 = .ok (.areturn, 1) := by decide +kernel
theorem dJx4a65c_get_915e3_0 : decode cJx4a65c_get_915e3 0 = .ok (.iload_n 1, 1) := by decide +kernel
theorem dJx4a65c_get_915e3_1 : decode cJx4a65c_get_915e3 1 = .ok (.aload_n 0, 1) := by decide +kernel
theorem dJx4a65c_get_915e3_2 : decode cJx4a65c_get_915e3 2 = .ok (.getfield 48, 3) := by decide +kernel
theorem dJx4a65c_get_915e3_5 : decode cJx4a65c_get_915e3 5 = .ok (.invokestatic 118, 3) := by decide +kernel
theorem dJx4a65c_get_915e3_8 : decode cJx4a65c_get_915e3 8 = .ok (.pop, 1) := by decide +kernel
theorem dJx4a65c_get_915e3_9 : decode cJx4a65c_get_915e3 9 = .ok (.aload_n 0, 1) := by decide +kernel
theorem dJx4a65c_get_915e3_10 : decode cJx4a65c_get_915e3 10 = .ok (.iload_n 1, 1) := by decide +kernel
theorem dJx4a65c_get_915e3_11 : decode cJx4a65c_get_915e3 11 = .ok (.invokevirtual 123, 3) := by decide +kernel
theorem dJx4a65c_get_915e3_14 : decode cJx4a65c_get_915e3 14 = .ok (.areturn, 1) := by decide +kernel
theorem dJx4a65c_set_bcc79_0 : decode cJx4a65c_set_bcc79 0 = .ok (.iload_n 1, 1) := by decide +kernel
theorem dJx4a65c_set_bcc79_1 : decode cJx4a65c_set_bcc79 1 = .ok (.aload_n 0, 1) := by decide +kernel
theorem dJx4a65c_set_bcc79_2 : decode cJx4a65c_set_bcc79 2 = .ok (.getfield 48, 3) := by decide +kernel
theorem dJx4a65c_set_bcc79_5 : decode cJx4a65c_set_bcc79 5 = .ok (.invokestatic 118, 3) := by decide +kernel
theorem dJx4a65c_set_bcc79_8 : decode cJx4a65c_set_bcc79 8 = .ok (.pop, 1) := by decide +kernel
theorem dJx4a65c_set_bcc79_9 : decode cJx4a65c_set_bcc79 9 = .ok (.aload_n 0, 1) := by decide +kernel
theorem dJx4a65c_set_bcc79_10 : decode cJx4a65c_set_bcc79 10 = .ok (.iload_n 1, 1) := by decide +kernel
theorem dJx4a65c_set_bcc79_11 : decode cJx4a65c_set_bcc79 11 = .ok (.invokevirtual 123, 3) := by decide +kernel
theorem dJx4a65c_set_bcc79_14 : decode cJx4a65c_set_bcc79 14 = .ok (.astore_n 3, 1) := by decide +kernel
theorem dJx4a65c_set_bcc79_15 : decode cJx4a65c_set_bcc79 15 = .ok (.aload_n 0, 1) := by decide +kernel
theorem dJx4a65c_set_bcc79_16 : decode cJx4a65c_set_bcc79 16 = .ok (.getfield 9, 3) := by decide +kernel
theorem dJx4a65c_set_bcc79_19 : decode cJx4a65c_set_bcc79 19 = .ok (.iload_n 1, 1) := by decide +kernel
theorem dJx4a65c_set_bcc79_20 : decode cJx4a65c_set_bcc79 20 = .ok (.aload_n 2, 1) := by decide +kernel
theorem dJx4a65c_set_bcc79_21 : decode cJx4a65c_set_bcc79 21 = .ok (.aastore, 1) := by decide +kernel
theorem dJx4a65c_set_bcc79_22 : decode cJx4a65c_set_bcc79 22 = .ok (.aload_n 3, 1) := by decide +kernel
theorem dJx4a65c_set_bcc79_23 : decode cJx4a65c_set_bcc79 23 = .ok (.areturn, 1) := by decide +kernel
theorem dJx4a65c_add_72be8_0 : decode cJx4a65c_add_72be8 0 = .ok (.iload_n 3, 1) := by decide +kernel
theorem dJx4a65c_add_72be8_1 : decode cJx4a65c_add_72be8 1 = .ok (.aload_n 2, 1) := by decide +kernel
theorem dJx4a65c_add_72be8_2 : decode cJx4a65c_add_72be8 2 = .ok (.arraylength, 1) := by decide +kernel
theorem dJx4a65c_add_72be8_3 : decode cJx4a65c_add_72be8 3 = .ok (.if_icmp .ne 8, 3) := by decide +kernel
theorem dJx4a65c_add_72be8_6 : decode cJx4a65c_add_72be8 6 = .ok (.aload_n 0, 1) := by decide +kernel
theorem dJx4a65c_add_72be8_7 : decode cJx4a65c_add_72be8 7 = .ok (.invokevirtual 129, 3) := by decide +kernel
theorem dJx4a65c_add_72be8_10 : decode cJx4a65c_add_72be8 10 = .ok (.astore_n 2, 1) := by decide +kernel
theorem dJx4a65c_add_72be8_11 : decode cJx4a65c_add_72be8 11 = .ok (.aload_n 2, 1) := by decide +kernel
theorem dJx4a65c_add_72be8_12 : decode cJx4a65c_add_72be8 12 = .ok (.iload_n 3, 1) := by decide +kernel
theorem dJx4a65c_add_72be8_13 : decode cJx4a65c_add_72be8 13 = .ok (.aload_n 1, 1) := by decide +kernel
theorem dJx4a65c_add_72be8_14 : decode cJx4a65c_add_72be8 14 = .ok (.aastore, 1) := by decide +kernel
theorem dJx4a65c_add_72be8_15 : decode cJx4a65c_add_72be8 15 = .ok (.aload_n 0, 1) := by decide +kernel
theorem dJx4a65c_add_72be8_16 : decode cJx4a65c_add_72be8 16 = .ok (.iload_n 3, 1) := by decide +kernel
theorem dJx4a65c_add_72be8_17 : decode cJx4a65c_add_72be8 17 = .ok (.iconst 1, 1) := by decide +kernel
theorem dJx4a65c_add_72be8_18 : decode cJx4a65c_add_72be8 18 = .ok (.iadd, 1) := by decide +kernel
theorem dJx4a65c_add_72be8_19 : decode cJx4a65c_add_72be8 19 = .ok (.putfield 48, 3) := by decide +kernel
theorem dJx4a65c_add_72be8_22 : decode cJx4a65c_add_72be8 22 = .ok (.return_, 1) := by decide +kernel
theorem dJx4a65c_add_9ea2d_0 : decode cJx4a65c_add_9ea2d 0 = .ok (.aload_n 0, 1) := by decide +kernel
theorem dJx4a65c_add_9ea2d_1 : decode cJx4a65c_add_9ea2d 1 = .ok (.dup, 1) := by decide +kernel
theorem dJx4a65c_add_9ea2d_2 : decode cJx4a65c_add_9ea2d 2 = .ok (.getfield 63, 3) := by decide +kernel
theorem dJx4a65c_add_9ea2d_5 : decode cJx4a65c_add_9ea2d 5 = .ok (.iconst 1, 1) := by decide +kernel
theorem dJx4a65c_add_9ea2d_6 : decode cJx4a65c_add_9ea2d 6 = .ok (.iadd, 1) := by decide +kernel
theorem dJx4a65c_add_9ea2d_7 : decode cJx4a65c_add_9ea2d 7 = .ok (.putfield 63, 3) := by decide +kernel
theorem dJx4a65c_add_9ea2d_10 : decode cJx4a65c_add_9ea2d 10 = .ok (.aload_n 0, 1) := by decide +kernel
theorem dJx4a65c_add_9ea2d_11 : decode cJx4a65c_add_9ea2d 11 = .ok (.aload_n 1, 1) := by decide +kernel
theorem dJx4a65c_add_9ea2d_12 : decode cJx4a65c_add_9ea2d 12 = .ok (.aload_n 0, 1) := by decide +kernel
theorem dJx4a65c_add_9ea2d_13 : decode cJx4a65c_add_9ea2d 13 = .ok (.getfield 9, 3) := by decide +kernel
theorem dJx4a65c_add_9ea2d_16 : decode cJx4a65c_add_9ea2d 16 = .ok (.aload_n 0, 1) := by decide +kernel
theorem dJx4a65c_add_9ea2d_17 : decode cJx4a65c_add_9ea2d 17 = .ok (.getfield 48, 3) := by decide +kernel
theorem dJx4a65c_add_9ea2d_20 : decode cJx4a65c_add_9ea2d 20 = .ok (.invokevirtual 131, 3) := by decide +kernel
theorem dJx4a65c_add_9ea2d_23 : decode cJx4a65c_add_9ea2d 23 = .ok (.iconst 1, 1) := by decide +kernel
theorem dJx4a65c_add_9ea2d_24 : decode cJx4a65c_add_9ea2d 24 = .ok (.ireturn, 1) := by decide +kernel
theorem dJx4a65c_add_7a177_0 : decode cJx4a65c_add_7a177 0 = .ok (.aload_n 0, 1) := by decide +kernel
theorem dJx4a65c_add_7a177_1 : decode cJx4a65c_add_7a177 1 = .ok (.iload_n 1, 1) := by decide +kernel
theorem dJx4a65c_add_7a177_2 : decode cJx4a65c_add_7a177 2 = .ok (.invokevirtual 135, 3) := by decide +kernel
theorem dJx4a65c_add_7a177_5 : decode cJx4a65c_add_7a177 5 = .ok (.aload_n 0, 1) := by decide +kernel
theorem dJx4a65c_add_7a177_6 : decode cJx4a65c_add_7a177 6 = .ok (.dup, 1) := by decide +kernel
theorem dJx4a65c_add_7a177_7 : decode cJx4a65c_add_7a177 7 = .ok (.getfield 63, 3) := by decide +kernel
theorem dJx4a65c_add_7a177_10 : decode cJx4a65c_add_7a177 10 = .ok (.iconst 1, 1) := by decide +kernel
theorem dJx4a65c_add_7a177_11 : decode cJx4a65c_add_7a177 11 = .ok (.iadd, 1) := by decide +kernel
theorem dJx4a65c_add_7a177_12 : decode cJx4a65c_add_7a177 12 = .ok (.putfield 63, 3) := by decide +kernel
theorem dJx4a65c_add_7a177_15 : decode cJx4a65c_add_7a177 15 = .ok (.aload_n 0, 1) := by decide +kernel
theorem dJx4a65c_add_7a177_16 : decode cJx4a65c_add_7a177 16 = .ok (.getfield 48, 3) := by decide +kernel
theorem dJx4a65c_add_7a177_19 : decode cJx4a65c_add_7a177 19 = .ok (.dup, 1) := by decide +kernel
theorem dJx4a65c_add_7a177_20 : decode cJx4a65c_add_7a177 20 = .ok (.istore_n 3, 1) := by decide +kernel
theorem dJx4a65c_add_7a177_21 : decode cJx4a65c_add_7a177 21 = .ok (.aload_n 0, 1) := by decide +kernel
theorem dJx4a65c_add_7a177_22 : decode cJx4a65c_add_7a177 22 = .ok (.getfield 9, 3) := by decide +kernel
theorem dJx4a65c_add_7a177_25 : decode cJx4a65c_add_7a177 25 = .ok (.dup, 1) := by decide +kernel
theorem dJx4a65c_add_7a177_26 : decode cJx4a65c_add_7a177 26 = .ok (.astore 4, 2) := by decide +kernel
theorem dJx4a65c_add_7a177_28 : decode cJx4a65c_add_7a177 28 = .ok (.arraylength, 1) := by decide +kernel
theorem dJx4a65c_add_7a177_29 : decode cJx4a65c_add_7a177 29 = .ok (.if_icmp .ne 9, 3) := by decide +kernel
theorem dJx4a65c_add_7a177_32 : decode cJx4a65c_add_7a177 32 = .ok (.aload_n 0, 1) := by decide +kernel
theorem dJx4a65c_add_7a177_33 : decode cJx4a65c_add_7a177 33 = .ok (.invokevirtual 129, 3) := by decide +kernel
theorem dJx4a65c_add_7a177_36 : decode cJx4a65c_add_7a177 36 = .ok (.astore 4, 2) := by decide +kernel
theorem dJx4a65c_add_7a177_38 : decode cJx4a65c_add_7a177 38 = .ok (.aload 4, 2) := by decide +kernel
theorem dJx4a65c_add_7a177_40 : decode cJx4a65c_add_7a177 40 = .ok (.iload_n 1, 1) := by decide +kernel
theorem dJx4a65c_add_7a177_41 : decode cJx4a65c_add_7a177 41 = .ok (.aload 4, 2) := by decide +kernel
theorem dJx4a65c_add_7a177_43 : decode cJx4a65c_add_7a177 43 = .ok (.iload_n 1, 1) := by decide +kernel
theorem dJx4a65c_add_7a177_44 : decode cJx4a65c_add_7a177 44 = .ok (.iconst 1, 1) := by decide +kernel
theorem dJx4a65c_add_7a177_45 : decode cJx4a65c_add_7a177 45 = .ok (.iadd, 1) := by decide +kernel
theorem dJx4a65c_add_7a177_46 : decode cJx4a65c_add_7a177 46 = .ok (.iload_n 3, 1) := by decide +kernel
theorem dJx4a65c_add_7a177_47 : decode cJx4a65c_add_7a177 47 = .ok (.iload_n 1, 1) := by decide +kernel
theorem dJx4a65c_add_7a177_48 : decode cJx4a65c_add_7a177 48 = .ok (.isub, 1) := by decide +kernel
theorem dJx4a65c_add_7a177_49 : decode cJx4a65c_add_7a177 49 = .ok (.invokestatic 112, 3) := by decide +kernel
theorem dJx4a65c_add_7a177_52 : decode cJx4a65c_add_7a177 52 = .ok (.aload 4, 2) := by decide +kernel
theorem dJx4a65c_add_7a177_54 : decode cJx4a65c_add_7a177 54 = .ok (.iload_n 1, 1) := by decide +kernel
theorem dJx4a65c_add_7a177_55 : decode cJx4a65c_add_7a177 55 = .ok (.aload_n 2, 1) := by decide +kernel
theorem dJx4a65c_add_7a177_56 : decode cJx4a65c_add_7a177 56 = .ok (.aastore, 1) := by decide +kernel
theorem dJx4a65c_add_7a177_57 : decode cJx4a65c_add_7a177 57 = .ok (.aload_n 0, 1) := by decide +kernel
theorem dJx4a65c_add_7a177_58 : decode cJx4a65c_add_7a177 58 = .ok (.iload_n 3, 1) := by decide +kernel
theorem dJx4a65c_add_7a177_59 : decode cJx4a65c_add_7a177 59 = .ok (.iconst 1, 1) := by decide +kernel
theorem dJx4a65c_add_7a177_60 : decode cJx4a65c_add_7a177 60 = .ok (.iadd, 1) := by decide +kernel
theorem dJx4a65c_add_7a177_61 : decode cJx4a65c_add_7a177 61 = .ok (.putfield 48, 3) := by decide +kernel
theorem dJx4a65c_add_7a177_64 : decode cJx4a65c_add_7a177 64 = .ok (.return_, 1) := by decide +kernel
theorem dJx4a65c_remove_915e3_0 : decode cJx4a65c_remove_915e3 0 = .ok (.iload_n 1, 1) := by decide +kernel
theorem dJx4a65c_remove_915e3_1 : decode cJx4a65c_remove_915e3 1 = .ok (.aload_n 0, 1) := by decide +kernel
theorem dJx4a65c_remove_915e3_2 : decode cJx4a65c_remove_915e3 2 = .ok (.getfield 48, 3) := by decide +kernel
theorem dJx4a65c_remove_915e3_5 : decode cJx4a65c_remove_915e3 5 = .ok (.invokestatic 118, 3) := by decide +kernel
theorem dJx4a65c_remove_915e3_8 : decode cJx4a65c_remove_915e3 8 = .ok (.pop, 1) := by decide +kernel
theorem dJx4a65c_remove_915e3_9 : decode cJx4a65c_remove_915e3 9 = .ok (.aload_n 0, 1) := by decide +kernel
theorem dJx4a65c_remove_915e3_10 : decode cJx4a65c_remove_915e3 10 = .ok (.getfield 9, 3) := by decide +kernel
theorem dJx4a65c_remove_915e3_13 : decode cJx4a65c_remove_915e3 13 = .ok (.astore_n 2, 1) := by decide +kernel
theorem dJx4a65c_remove_915e3_14 : decode cJx4a65c_remove_915e3 14 = .ok (.aload_n 2, 1) := by decide +kernel
theorem dJx4a65c_remove_915e3_15 : decode cJx4a65c_remove_915e3 15 = .ok (.iload_n 1, 1) := by decide +kernel
theorem dJx4a65c_remove_915e3_16 : decode cJx4a65c_remove_915e3 16 = .ok (.aaload, 1) := by decide +kernel
theorem dJx4a65c_remove_915e3_17 : decode cJx4a65c_remove_915e3 17 = .ok (.astore_n 3, 1) := by decide +kernel
theorem dJx4a65c_remove_915e3_18 : decode cJx4a65c_remove_915e3 18 = .ok (.aload_n 0, 1) := by decide +kernel
theorem dJx4a65c_remove_915e3_19 : decode cJx4a65c_remove_915e3 19 = .ok (.aload_n 2, 1) := by decide +kernel
theorem dJx4a65c_remove_915e3_20 : decode cJx4a65c_remove_915e3 20 = .ok (.iload_n 1, 1) := by decide +kernel
theorem dJx4a65c_remove_915e3_21 : decode cJx4a65c_remove_915e3 21 = .ok (.invokevirtual 144, 3) := by decide +kernel
theorem dJx4a65c_remove_915e3_24 : decode cJx4a65c_remove_915e3 24 = .ok (.aload_n 3, 1) := by decide +kernel
theorem dJx4a65c_remove_915e3_25 : decode cJx4a65c_remove_915e3 25 = .ok (.areturn, 1) := by decide +kernel
theorem dJx4a65c_fastRemove_b59b0_0 : decode cJx4a65c_fastRemove_b59b0 0 = .ok (.aload_n 0, 1) := by decide +kernel
theorem dJx4a65c_fastRemove_b59b0_1 : decode cJx4a65c_fastRemove_b59b0 1 = .ok (.dup, 1) := by decide +kernel
theorem dJx4a65c_fastRemove_b59b0_2 : decode cJx4a65c_fastRemove_b59b0 2 = .ok (.getfield 63, 3) := by decide +kernel
theorem dJx4a65c_fastRemove_b59b0_5 : decode cJx4a65c_fastRemove_b59b0 5 = .ok (.iconst 1, 1) := by decide +kernel
theorem dJx4a65c_fastRemove_b59b0_6 : decode cJx4a65c_fastRemove_b59b0 6 = .ok (.iadd, 1) := by decide +kernel
theorem dJx4a65c_fastRemove_b59b0_7 : decode cJx4a65c_fastRemove_b59b0 7 = .ok (.putfield 63, 3) := by decide +kernel
theorem dJx4a65c_fastRemove_b59b0_10 : decode cJx4a65c_fastRemove_b59b0 10 = .ok (.aload_n 0, 1) := by decide +kernel
theorem dJx4a65c_fastRemove_b59b0_11 : decode cJx4a65c_fastRemove_b59b0 11 = .ok (.getfield 48, 3) := by decide +kernel
theorem dJx4a65c_fastRemove_b59b0_14 : decode cJx4a65c_fastRemove_b59b0 14 = .ok (.iconst 1, 1) := by decide +kernel
theorem dJx4a65c_fastRemove_b59b0_15 : decode cJx4a65c_fastRemove_b59b0 15 = .ok (.isub, 1) := by decide +kernel
theorem dJx4a65c_fastRemove_b59b0_16 : decode cJx4a65c_fastRemove_b59b0 16 = .ok (.dup, 1) := by decide +kernel
theorem dJx4a65c_fastRemove_b59b0_17 : decode cJx4a65c_fastRemove_b59b0 17 = .ok (.istore_n 3, 1) := by decide +kernel
theorem dJx4a65c_fastRemove_b59b0_18 : decode cJx4a65c_fastRemove_b59b0 18 = .ok (.iload_n 2, 1) := by decide +kernel
theorem dJx4a65c_fastRemove_b59b0_19 : decode cJx4a65c_fastRemove_b59b0 19 = .ok (.if_icmp .le 15, 3) := by decide +kernel
theorem dJx4a65c_fastRemove_b59b0_22 : decode cJx4a65c_fastRemove_b59b0 22 = .ok (.aload_n 1, 1) := by decide +kernel
theorem dJx4a65c_fastRemove_b59b0_23 : decode cJx4a65c_fastRemove_b59b0 23 = .ok (.iload_n 2, 1) := by decide +kernel
theorem dJx4a65c_fastRemove_b59b0_24 : decode cJx4a65c_fastRemove_b59b0 24 = .ok (.iconst 1, 1) := by decide +kernel
theorem dJx4a65c_fastRemove_b59b0_25 : decode cJx4a65c_fastRemove_b59b0 25 = .ok (.iadd, 1) := by decide +kernel
theorem dJx4a65c_fastRemove_b59b0_26 : decode cJx4a65c_fastRemove_b59b0 26 = .ok (.aload_n 1, 1) := by decide +kernel
theorem dJx4a65c_fastRemove_b59b0_27 : decode cJx4a65c_fastRemove_b59b0 27 = .ok (.iload_n 2, 1) := by decide +kernel
theorem dJx4a65c_fastRemove_b59b0_28 : decode cJx4a65c_fastRemove_b59b0 28 = .ok (.iload_n 3, 1) := by decide +kernel
theorem dJx4a65c_fastRemove_b59b0_29 : decode cJx4a65c_fastRemove_b59b0 29 = .ok (.iload_n 2, 1) := by decide +kernel
theorem dJx4a65c_fastRemove_b59b0_30 : decode cJx4a65c_fastRemove_b59b0 30 = .ok (.isub, 1) := by decide +kernel
theorem dJx4a65c_fastRemove_b59b0_31 : decode cJx4a65c_fastRemove_b59b0 31 = .ok (.invokestatic 112, 3) := by decide +kernel
theorem dJx4a65c_fastRemove_b59b0_34 : decode cJx4a65c_fastRemove_b59b0 34 = .ok (.aload_n 1, 1) := by decide +kernel
theorem dJx4a65c_fastRemove_b59b0_35 : decode cJx4a65c_fastRemove_b59b0 35 = .ok (.aload_n 0, 1) := by decide +kernel
theorem dJx4a65c_fastRemove_b59b0_36 : decode cJx4a65c_fastRemove_b59b0 36 = .ok (.iload_n 3, 1) := by decide +kernel
theorem dJx4a65c_fastRemove_b59b0_37 : decode cJx4a65c_fastRemove_b59b0 37 = .ok (.dup_x1, 1) := by decide +kernel
theorem dJx4a65c_fastRemove_b59b0_38 : decode cJx4a65c_fastRemove_b59b0 38 = .ok (.putfield 48, 3) := by decide +kernel
theorem dJx4a65c_fastRemove_b59b0_41 : decode cJx4a65c_fastRemove_b59b0 41 = .ok (.aconst_null, 1) := by decide +kernel
theorem dJx4a65c_fastRemove_b59b0_42 : decode cJx4a65c_fastRemove_b59b0 42 = .ok (.aastore, 1) := by decide +kernel
theorem dJx4a65c_fastRemove_b59b0_43 : decode cJx4a65c_fastRemove_b59b0 43 = .ok (.return_, 1) := by decide +kernel
theorem dJx4a65c_clear_da8c8_0 : decode cJx4a65c_clear_da8c8 0 = .ok (.aload_n 0, 1) := by decide +kernel
theorem dJx4a65c_clear_da8c8_1 : decode cJx4a65c_clear_da8c8 1 = .ok (.dup, 1) := by decide +kernel
theorem dJx4a65c_clear_da8c8_2 : decode cJx4a65c_clear_da8c8 2 = .ok (.getfield 63, 3) := by decide +kernel
theorem dJx4a65c_clear_da8c8_5 : decode cJx4a65c_clear_da8c8 5 = .ok (.iconst 1, 1) := by decide +kernel
theorem dJx4a65c_clear_da8c8_6 : decode cJx4a65c_clear_da8c8 6 = .ok (.iadd, 1) := by decide +kernel
theorem dJx4a65c_clear_da8c8_7 : decode cJx4a65c_clear_da8c8 7 = .ok (.putfield 63, 3) := by decide +kernel
theorem dJx4a65c_clear_da8c8_10 : decode cJx4a65c_clear_da8c8 10 = .ok (.aload_n 0, 1) := by decide +kernel
theorem dJx4a65c_clear_da8c8_11 : decode cJx4a65c_clear_da8c8 11 = .ok (.getfield 9, 3) := by decide +kernel
theorem dJx4a65c_clear_da8c8_14 : decode cJx4a65c_clear_da8c8 14 = .ok (.astore_n 1, 1) := by decide +kernel
theorem dJx4a65c_clear_da8c8_15 : decode cJx4a65c_clear_da8c8 15 = .ok (.aload_n 0, 1) := by decide +kernel
theorem dJx4a65c_clear_da8c8_16 : decode cJx4a65c_clear_da8c8 16 = .ok (.getfield 48, 3) := by decide +kernel
theorem dJx4a65c_clear_da8c8_19 : decode cJx4a65c_clear_da8c8 19 = .ok (.istore_n 2, 1) := by decide +kernel
theorem dJx4a65c_clear_da8c8_20 : decode cJx4a65c_clear_da8c8 20 = .ok (.aload_n 0, 1) := by decide +kernel
theorem dJx4a65c_clear_da8c8_21 : decode cJx4a65c_clear_da8c8 21 = .ok (.iconst 0, 1) := by decide +kernel
theorem dJx4a65c_clear_da8c8_22 : decode cJx4a65c_clear_da8c8 22 = .ok (.dup_x1, 1) := by decide +kernel
theorem dJx4a65c_clear_da8c8_23 : decode cJx4a65c_clear_da8c8 23 = .ok (.putfield 48, 3) := by decide +kernel
theorem dJx4a65c_clear_da8c8_26 : decode cJx4a65c_clear_da8c8 26 = .ok (.istore_n 3, 1) := by decide +kernel
theorem dJx4a65c_clear_da8c8_27 : decode cJx4a65c_clear_da8c8 27 = .ok (.iload_n 3, 1) := by decide +kernel
theorem dJx4a65c_clear_da8c8_28 : decode cJx4a65c_clear_da8c8 28 = .ok (.iload_n 2, 1) := by decide +kernel
theorem dJx4a65c_clear_da8c8_29 : decode cJx4a65c_clear_da8c8 29 = .ok (.if_icmp .ge 13, 3) := by decide +kernel
theorem dJx4a65c_clear_da8c8_32 : decode cJx4a65c_clear_da8c8 32 = .ok (.aload_n 1, 1) := by decide +kernel
theorem dJx4a65c_clear_da8c8_33 : decode cJx4a65c_clear_da8c8 33 = .ok (.iload_n 3, 1) := by decide +kernel
theorem dJx4a65c_clear_da8c8_34 : decode cJx4a65c_clear_da8c8 34 = .ok (.aconst_null, 1) := by decide +kernel
theorem dJx4a65c_clear_da8c8_35 : decode cJx4a65c_clear_da8c8 35 = .ok (.aastore, 1) := by decide +kernel
theorem dJx4a65c_clear_da8c8_36 : decode cJx4a65c_clear_da8c8 36 = .ok (.iinc 3 1, 3) := by decide +kernel
theorem dJx4a65c_clear_da8c8_39 : decode cJx4a65c_clear_da8c8 39 = .ok (.goto (-12), 3) := by decide +kernel
theorem dJx4a65c_clear_da8c8_42 : decode cJx4a65c_clear_da8c8 42 = .ok (.return_, 1) := by decide +kernel
theorem dJx4a65c_rangeCheckForAdd_d00df_0 : decode cJx4a65c_rangeCheckForAdd_d00df 0 = .ok (.iload_n 1, 1) := by decide +kernel
theorem dJx4a65c_rangeCheckForAdd_d00df_1 : decode cJx4a65c_rangeCheckForAdd_d00df 1 = .ok (.aload_n 0, 1) := by decide +kernel
theorem dJx4a65c_rangeCheckForAdd_d00df_2 : decode cJx4a65c_rangeCheckForAdd_d00df 2 = .ok (.getfield 48, 3) := by decide +kernel
theorem dJx4a65c_rangeCheckForAdd_d00df_5 : decode cJx4a65c_rangeCheckForAdd_d00df 5 = .ok (.if_icmp .gt 7, 3) := by decide +kernel
theorem dJx4a65c_rangeCheckForAdd_d00df_8 : decode cJx4a65c_rangeCheckForAdd_d00df 8 = .ok (.iload_n 1, 1) := by decide +kernel
theorem dJx4a65c_rangeCheckForAdd_d00df_9 : decode cJx4a65c_rangeCheckForAdd_d00df 9 = .ok (.ifCond .ge 16, 3) := by decide +kernel
theorem dJx4a65c_rangeCheckForAdd_d00df_12 : decode cJx4a65c_rangeCheckForAdd_d00df 12 = .ok (.new 187, 3) := by decide +kernel
theorem dJx4a65c_rangeCheckForAdd_d00df_15 : decode cJx4a65c_rangeCheckForAdd_d00df 15 = .ok (.dup, 1) := by decide +kernel
theorem dJx4a65c_rangeCheckForAdd_d00df_16 : decode cJx4a65c_rangeCheckForAdd_d00df 16 = .ok (.aload_n 0, 1) := by decide +kernel
theorem dJx4a65c_rangeCheckForAdd_d00df_17 : decode cJx4a65c_rangeCheckForAdd_d00df 17 = .ok (.iload_n 1, 1) := by decide +kernel
theorem dJx4a65c_rangeCheckForAdd_d00df_18 : decode cJx4a65c_rangeCheckForAdd_d00df 18 = .ok (.invokevirtual 198, 3) := by decide +kernel
theorem dJx4a65c_rangeCheckForAdd_d00df_21 : decode cJx4a65c_rangeCheckForAdd_d00df 21 = .ok (.invokespecial 193, 3) := by decide +kernel
theorem dJx4a65c_rangeCheckForAdd_d00df_24 : decode cJx4a65c_rangeCheckForAdd_d00df 24 = .ok (.athrow, 1) := by decide +kernel
theorem dJx4a65c_rangeCheckForAdd_d00df_25 : decode cJx4a65c_rangeCheckForAdd_d00df 25 = .ok (.return_, 1) := by decide +kernel
theorem dJ7_rangeCheck_23922_0 : decode cJ7_rangeCheck_23922 0 = .ok (.iload_n 1, 1) := by decide +kernel
theorem dJ7_rangeCheck_23922_1 : decode cJ7_rangeCheck_23922 1 = .ok (.iload_n 2, 1) := by decide +kernel
theorem dJ7_rangeCheck_23922_2 : decode cJ7_rangeCheck_23922 2 = .ok (.if_icmp .le 44, 3) := by decide +kernel
theorem dJ7_rangeCheck_23922_5 : decode cJ7_rangeCheck_23922 5 = .ok (.new 43, 3) := by decide +kernel
theorem dJ7_rangeCheck_23922_8 : decode cJ7_rangeCheck_23922 8 = .ok (.dup, 1) := by decide +kernel
theorem dJ7_rangeCheck_23922_9 : decode cJ7_rangeCheck_23922 9 = .ok (.new 45, 3) := by decide +kernel
theorem dJ7_rangeCheck_23922_12 : decode cJ7_rangeCheck_23922 12 = .ok (.dup, 1) := by decide +kernel
theorem dJ7_rangeCheck_23922_13 : decode cJ7_rangeCheck_23922 13 = .ok (.invokespecial 47, 3) := by decide +kernel
theorem dJ7_rangeCheck_23922_16 : decode cJ7_rangeCheck_23922 16 = .ok (.ldc 48, 2) := by decide +kernel
theorem dJ7_rangeCheck_23922_18 : decode cJ7_rangeCheck_23922 18 = .ok (.invokevirtual 50, 3) := by decide +kernel
theorem dJ7_rangeCheck_23922_21 : decode cJ7_rangeCheck_23922 21 = .ok (.iload_n 1, 1) := by decide +kernel
theorem dJ7_rangeCheck_23922_22 : decode cJ7_rangeCheck_23922 22 = .ok (.invokevirtual 54, 3) := by decide +kernel
theorem dJ7_rangeCheck_23922_25 : decode cJ7_rangeCheck_23922 25 = .ok (.ldc 57, 2) := by decide +kernel
theorem dJ7_rangeCheck_23922_27 : decode cJ7_rangeCheck_23922 27 = .ok (.invokevirtual 50, 3) := by decide +kernel
theorem dJ7_rangeCheck_23922_30 : decode cJ7_rangeCheck_23922 30 = .ok (.iload_n 2, 1) := by decide +kernel
theorem dJ7_rangeCheck_23922_31 : decode cJ7_rangeCheck_23922 31 = .ok (.invokevirtual 54, 3) := by decide +kernel
theorem dJ7_rangeCheck_23922_34 : decode cJ7_rangeCheck_23922 34 = .ok (.ldc 59, 2) := by decide +kernel
theorem dJ7_rangeCheck_23922_36 : decode cJ7_rangeCheck_23922 36 = .ok (.invokevirtual 50, 3) := by decide +kernel
theorem dJ7_rangeCheck_23922_39 : decode cJ7_rangeCheck_23922 39 = .ok (.invokevirtual 61, 3) := by decide +kernel
theorem dJ7_rangeCheck_23922_42 : decode cJ7_rangeCheck_23922 42 = .ok (.invokespecial 65, 3) := by decide +kernel
theorem dJ7_rangeCheck_23922_45 : decode cJ7_rangeCheck_23922 45 = .ok (.athrow, 1) := by decide +kernel
theorem dJ7_rangeCheck_23922_46 : decode cJ7_rangeCheck_23922 46 = .ok (.iload_n 1, 1) := by decide +kernel
theorem dJ7_rangeCheck_23922_47 : decode cJ7_rangeCheck_23922 47 = .ok (.ifCond .ge 12, 3) := by decide +kernel
theorem dJ7_rangeCheck_23922_50 : decode cJ7_rangeCheck_23922 50 = .ok (.new 68, 3) := by decide +kernel
theorem dJ7_rangeCheck_23922_53 : decode cJ7_rangeCheck_23922 53 = .ok (.dup, 1) := by decide +kernel
theorem dJ7_rangeCheck_23922_54 : decode cJ7_rangeCheck_23922 54 = .ok (.iload_n 1, 1) := by decide +kernel
theorem dJ7_rangeCheck_23922_55 : decode cJ7_rangeCheck_23922 55 = .ok (.invokespecial 70, 3) := by decide +kernel
theorem dJ7_rangeCheck_23922_58 : decode cJ7_rangeCheck_23922 58 = .ok (.athrow, 1) := by decide +kernel
theorem dJ7_rangeCheck_23922_59 : decode cJ7_rangeCheck_23922 59 = .ok (.iload_n 2, 1) := by decide +kernel
theorem dJ7_rangeCheck_23922_60 : decode cJ7_rangeCheck_23922 60 = .ok (.iload_n 0, 1) := by decide +kernel
theorem dJ7_rangeCheck_23922_61 : decode cJ7_rangeCheck_23922 61 = .ok (.if_icmp .le 12, 3) := by decide +kernel
theorem dJ7_rangeCheck_23922_64 : decode cJ7_rangeCheck_23922 64 = .ok (.new 68, 3) := by decide +kernel
theorem dJ7_rangeCheck_23922_67 : decode cJ7_rangeCheck_23922 67 = .ok (.dup, 1) := by decide +kernel
theorem dJ7_rangeCheck_23922_68 : decode cJ7_rangeCheck_23922 68 = .ok (.iload_n 2, 1) := by decide +kernel
theorem dJ7_rangeCheck_23922_69 : decode cJ7_rangeCheck_23922 69 = .ok (.invokespecial 70, 3) := by decide +kernel
theorem dJ7_rangeCheck_23922_72 : decode cJ7_rangeCheck_23922 72 = .ok (.athrow, 1) := by decide +kernel
theorem dJ7_rangeCheck_23922_73 : decode cJ7_rangeCheck_23922 73 = .ok (.return_, 1) := by decide +kernel
theorem dJ7_fill_eb02e_0 : decode cJ7_fill_eb02e 0 = .ok (.aload_n 0, 1) := by decide +kernel
theorem dJ7_fill_eb02e_1 : decode cJ7_fill_eb02e 1 = .ok (.arraylength, 1) := by decide +kernel
theorem dJ7_fill_eb02e_2 : decode cJ7_fill_eb02e 2 = .ok (.iload_n 1, 1) := by decide +kernel
theorem dJ7_fill_eb02e_3 : decode cJ7_fill_eb02e 3 = .ok (.iload_n 2, 1) := by decide +kernel
theorem dJ7_fill_eb02e_4 : decode cJ7_fill_eb02e 4 = .ok (.invokestatic 13, 3) := by decide +kernel
theorem dJ7_fill_eb02e_7 : decode cJ7_fill_eb02e 7 = .ok (.iload_n 1, 1) := by decide +kernel
theorem dJ7_fill_eb02e_8 : decode cJ7_fill_eb02e 8 = .ok (.istore 4, 2) := by decide +kernel
theorem dJ7_fill_eb02e_10 : decode cJ7_fill_eb02e 10 = .ok (.iload 4, 2) := by decide +kernel
theorem dJ7_fill_eb02e_12 : decode cJ7_fill_eb02e 12 = .ok (.iload_n 2, 1) := by decide +kernel
theorem dJ7_fill_eb02e_13 : decode cJ7_fill_eb02e 13 = .ok (.if_icmp .ge 14, 3) := by decide +kernel
theorem dJ7_fill_eb02e_16 : decode cJ7_fill_eb02e 16 = .ok (.aload_n 0, 1) := by decide +kernel
theorem dJ7_fill_eb02e_17 : decode cJ7_fill_eb02e 17 = .ok (.iload 4, 2) := by decide +kernel
theorem dJ7_fill_eb02e_19 : decode cJ7_fill_eb02e 19 = .ok (.iload_n 3, 1) := by decide +kernel
theorem dJ7_fill_eb02e_20 : decode cJ7_fill_eb02e 20 = .ok (.bastore, 1) := by decide +kernel
theorem dJ7_fill_eb02e_21 : decode cJ7_fill_eb02e 21 = .ok (.iinc 4 1, 3) := by decide +kernel
theorem dJ7_fill_eb02e_24 : decode cJ7_fill_eb02e 24 = .ok (.goto (-14), 3) := by decide +kernel
theorem dJ7_fill_eb02e_27 : decode cJ7_fill_eb02e 27 = .ok (.return_, 1) := by decide +kernel
theorem dJ7_copyOf_1904c_0 : decode cJ7_copyOf_1904c 0 = .ok (.aload_n 0, 1) := by decide +kernel
theorem dJ7_copyOf_1904c_1 : decode cJ7_copyOf_1904c 1 = .ok (.iload_n 1, 1) := by decide +kernel
theorem dJ7_copyOf_1904c_2 : decode cJ7_copyOf_1904c 2 = .ok (.aload_n 0, 1) := by decide +kernel
theorem dJ7_copyOf_1904c_3 : decode cJ7_copyOf_1904c 3 = .ok (.invokevirtual 86, 3) := by decide +kernel
theorem dJ7_copyOf_1904c_6 : decode cJ7_copyOf_1904c 6 = .ok (.invokestatic 300, 3) := by decide +kernel
theorem dJ7_copyOf_1904c_9 : decode cJ7_copyOf_1904c 9 = .ok (.areturn, 1) := by decide +kernel
theorem dJ7_copyOf_6403c_0 : decode cJ7_copyOf_6403c 0 = .ok (.aload_n 2, 1) := by decide +kernel
theorem dJ7_copyOf_6403c_1 : decode cJ7_copyOf_6403c 1 = .ok (.ldc 110, 2) := by decide +kernel
theorem dJ7_copyOf_6403c_3 : decode cJ7_copyOf_6403c 3 = .ok (.if_acmp .ne 10, 3) := by decide +kernel
theorem dJ7_copyOf_6403c_6 : decode cJ7_copyOf_6403c 6 = .ok (.iload_n 1, 1) := by decide +kernel
theorem dJ7_copyOf_6403c_7 : decode cJ7_copyOf_6403c 7 = .ok (.anewarray 2, 3) := by decide +kernel
theorem dJ7_copyOf_6403c_10 : decode cJ7_copyOf_6403c 10 = .ok (.goto 14, 3) := by decide +kernel
theorem dJ7_copyOf_6403c_13 : decode cJ7_copyOf_6403c 13 = .ok (.aload_n 2, 1) := by decide +kernel
theorem dJ7_copyOf_6403c_14 : decode cJ7_copyOf_6403c 14 = .ok (.invokevirtual 90, 3) := by decide +kernel
theorem dJ7_copyOf_6403c_17 : decode cJ7_copyOf_6403c 17 = .ok (.iload_n 1, 1) := by decide +kernel
theorem dJ7_copyOf_6403c_18 : decode cJ7_copyOf_6403c 18 = .ok (.invokestatic 95, 3) := by decide +kernel
theorem dJ7_copyOf_6403c_21 : decode cJ7_copyOf_6403c 21 = .ok (.checkcast 110, 3) := by decide +kernel
theorem dJ7_copyOf_6403c_24 : decode cJ7_copyOf_6403c 24 = .ok (.astore_n 3, 1) := by decide +kernel
theorem dJ7_copyOf_6403c_25 : decode cJ7_copyOf_6403c 25 = .ok (.aload_n 0, 1) := by decide +kernel
theorem dJ7_copyOf_6403c_26 : decode cJ7_copyOf_6403c 26 = .ok (.iconst 0, 1) := by decide +kernel
theorem dJ7_copyOf_6403c_27 : decode cJ7_copyOf_6403c 27 = .ok (.aload_n 3, 1) := by decide +kernel
theorem dJ7_copyOf_6403c_28 : decode cJ7_copyOf_6403c 28 = .ok (.iconst 0, 1) := by decide +kernel
theorem dJ7_copyOf_6403c_29 : decode cJ7_copyOf_6403c 29 = .ok (.aload_n 0, 1) := by decide +kernel
theorem dJ7_copyOf_6403c_30 : decode cJ7_copyOf_6403c 30 = .ok (.arraylength, 1) := by decide +kernel
theorem dJ7_copyOf_6403c_31 : decode cJ7_copyOf_6403c 31 = .ok (.iload_n 1, 1) := by decide +kernel
theorem dJ7_copyOf_6403c_32 : decode cJ7_copyOf_6403c 32 = .ok (.invokestatic 304, 3) := by decide +kernel
theorem dJ7_copyOf_6403c_35 : decode cJ7_copyOf_6403c 35 = .ok (.invokestatic 150, 3) := by decide +kernel
theorem dJ7_copyOf_6403c_38 : decode cJ7_copyOf_6403c 38 = .ok (.aload_n 3, 1) := by decide +kernel
theorem dJ7_copyOf_6403c_39 : decode cJ7_copyOf_6403c 39 = .ok (.areturn, 1) := by decide +kernel
theorem dJ7_copyOf_9075b_0 : decode cJ7_copyOf_9075b 0 = .ok (.iload_n 1, 1) := by decide +kernel
theorem dJ7_copyOf_9075b_1 : decode cJ7_copyOf_9075b 1 = .ok (.aload_n 0, 1) := by decide +kernel
theorem dJ7_copyOf_9075b_2 : decode cJ7_copyOf_9075b 2 = .ok (.arraylength, 1) := by decide +kernel
theorem dJ7_copyOf_9075b_3 : decode cJ7_copyOf_9075b 3 = .ok (.if_icmp .ne 11, 3) := by decide +kernel
theorem dJ7_copyOf_9075b_6 : decode cJ7_copyOf_9075b 6 = .ok (.aload_n 0, 1) := by decide +kernel
theorem dJ7_copyOf_9075b_7 : decode cJ7_copyOf_9075b 7 = .ok (.invokevirtual 310, 3) := by decide +kernel
theorem dJ7_copyOf_9075b_10 : decode cJ7_copyOf_9075b 10 = .ok (.checkcast 311, 3) := by decide +kernel
theorem dJ7_copyOf_9075b_13 : decode cJ7_copyOf_9075b 13 = .ok (.areturn, 1) := by decide +kernel
theorem dJ7_copyOf_9075b_14 : decode cJ7_copyOf_9075b 14 = .ok (.iload_n 1, 1) := by decide +kernel
theorem dJ7_copyOf_9075b_15 : decode cJ7_copyOf_9075b 15 = .ok (.newarray .byte, 2) := by decide +kernel
theorem dJ7_copyOf_9075b_17 : decode cJ7_copyOf_9075b 17 = .ok (.astore_n 2, 1) := by decide +kernel
theorem dJ7_copyOf_9075b_18 : decode cJ7_copyOf_9075b 18 = .ok (.aload_n 0, 1) := by decide +kernel
theorem dJ7_copyOf_9075b_19 : decode cJ7_copyOf_9075b 19 = .ok (.iconst 0, 1) := by decide +kernel
theorem dJ7_copyOf_9075b_20 : decode cJ7_copyOf_9075b 20 = .ok (.aload_n 2, 1) := by decide +kernel
theorem dJ7_copyOf_9075b_21 : decode cJ7_copyOf_9075b 21 = .ok (.iconst 0, 1) := by decide +kernel
theorem dJ7_copyOf_9075b_22 : decode cJ7_copyOf_9075b 22 = .ok (.aload_n 0, 1) := by decide +kernel
theorem dJ7_copyOf_9075b_23 : decode cJ7_copyOf_9075b 23 = .ok (.arraylength, 1) := by decide +kernel
theorem dJ7_copyOf_9075b_24 : decode cJ7_copyOf_9075b 24 = .ok (.iload_n 1, 1) := by decide +kernel
theorem dJ7_copyOf_9075b_25 : decode cJ7_copyOf_9075b 25 = .ok (.invokestatic 304, 3) := by decide +kernel
theorem dJ7_copyOf_9075b_28 : decode cJ7_copyOf_9075b 28 = .ok (.invokestatic 150, 3) := by decide +kernel
theorem dJ7_copyOf_9075b_31 : decode cJ7_copyOf_9075b 31 = .ok (.aload_n 2, 1) := by decide +kernel
theorem dJ7_copyOf_9075b_32 : decode cJ7_copyOf_9075b 32 = .ok (.areturn, 1) := by decide +kernel
theorem dJ7_checkLength_df160_0 : decode cJ7_checkLength_df160 0 = .ok (.iload_n 1, 1) := by decide +kernel
theorem dJ7_checkLength_df160_1 : decode cJ7_checkLength_df160 1 = .ok (.iload_n 0, 1) := by decide +kernel
theorem dJ7_checkLength_df160_2 : decode cJ7_checkLength_df160 2 = .ok (.if_icmp .ge 35, 3) := by decide +kernel
theorem dJ7_checkLength_df160_5 : decode cJ7_checkLength_df160 5 = .ok (.new 43, 3) := by decide +kernel
theorem dJ7_checkLength_df160_8 : decode cJ7_checkLength_df160 8 = .ok (.dup, 1) := by decide +kernel
theorem dJ7_checkLength_df160_9 : decode cJ7_checkLength_df160 9 = .ok (.new 45, 3) := by decide +kernel
theorem dJ7_checkLength_df160_12 : decode cJ7_checkLength_df160 12 = .ok (.dup, 1) := by decide +kernel
theorem dJ7_checkLength_df160_13 : decode cJ7_checkLength_df160 13 = .ok (.invokespecial 47, 3) := by decide +kernel
theorem dJ7_checkLength_df160_16 : decode cJ7_checkLength_df160 16 = .ok (.iload_n 0, 1) := by decide +kernel
theorem dJ7_checkLength_df160_17 : decode cJ7_checkLength_df160 17 = .ok (.invokevirtual 54, 3) := by decide +kernel
theorem dJ7_checkLength_df160_20 : decode cJ7_checkLength_df160 20 = .ok (.ldc_w 337, 3) := by decide +kernel
theorem dJ7_checkLength_df160_23 : decode cJ7_checkLength_df160 23 = .ok (.invokevirtual 50, 3) := by decide +kernel
theorem dJ7_checkLength_df160_26 : decode cJ7_checkLength_df160 26 = .ok (.iload_n 1, 1) := by decide +kernel
theorem dJ7_checkLength_df160_27 : decode cJ7_checkLength_df160 27 = .ok (.invokevirtual 54, 3) := by decide +kernel
theorem dJ7_checkLength_df160_30 : decode cJ7_checkLength_df160 30 = .ok (.invokevirtual 61, 3) := by decide +kernel
theorem dJ7_checkLength_df160_33 : decode cJ7_checkLength_df160 33 = .ok (.invokespecial 65, 3) := by decide +kernel
theorem dJ7_checkLength_df160_36 : decode cJ7_checkLength_df160 36 = .ok (.athrow, 1) := by decide +kernel
theorem dJ7_checkLength_df160_37 : decode cJ7_checkLength_df160 37 = .ok (.return_, 1) := by decide +kernel
theorem dJ7_copyOfRange_39247_0 : decode cJ7_copyOfRange_39247 0 = .ok (.iload_n 1, 1) := by decide +kernel
theorem dJ7_copyOfRange_39247_1 : decode cJ7_copyOfRange_39247 1 = .ok (.ifCond .ne 9, 3) := by decide +kernel
theorem dJ7_copyOfRange_39247_4 : decode cJ7_copyOfRange_39247 4 = .ok (.iload_n 2, 1) := by decide +kernel
theorem dJ7_copyOfRange_39247_5 : decode cJ7_copyOfRange_39247 5 = .ok (.aload_n 0, 1) := by decide +kernel
theorem dJ7_copyOfRange_39247_6 : decode cJ7_copyOfRange_39247 6 = .ok (.arraylength, 1) := by decide +kernel
theorem dJ7_copyOfRange_39247_7 : decode cJ7_copyOfRange_39247 7 = .ok (.if_icmp .eq 10, 3) := by decide +kernel
theorem dJ7_copyOfRange_39247_10 : decode cJ7_copyOfRange_39247 10 = .ok (.aload_n 0, 1) := by decide +kernel
theorem dJ7_copyOfRange_39247_11 : decode cJ7_copyOfRange_39247 11 = .ok (.iload_n 1, 1) := by decide +kernel
theorem dJ7_copyOfRange_39247_12 : decode cJ7_copyOfRange_39247 12 = .ok (.iload_n 2, 1) := by decide +kernel
theorem dJ7_copyOfRange_39247_13 : decode cJ7_copyOfRange_39247 13 = .ok (.invokestatic 339, 3) := by decide +kernel
theorem dJ7_copyOfRange_39247_16 : decode cJ7_copyOfRange_39247 16 = .ok (.areturn, 1) := by decide +kernel
theorem dJ7_copyOfRange_39247_17 : decode cJ7_copyOfRange_39247 17 = .ok (.aload_n 0, 1) := by decide +kernel
theorem dJ7_copyOfRange_39247_18 : decode cJ7_copyOfRange_39247 18 = .ok (.invokevirtual 310, 3) := by decide +kernel
theorem dJ7_copyOfRange_39247_21 : decode cJ7_copyOfRange_39247 21 = .ok (.checkcast 311, 3) := by decide +kernel
theorem dJ7_copyOfRange_39247_24 : decode cJ7_copyOfRange_39247 24 = .ok (.areturn, 1) := by decide +kernel
theorem dJ7_copyOfRangeByte_39247_0 : decode cJ7_copyOfRangeByte_39247 0 = .ok (.iload_n 1, 1) := by decide +kernel
theorem dJ7_copyOfRangeByte_39247_1 : decode cJ7_copyOfRangeByte_39247 1 = .ok (.iload_n 2, 1) := by decide +kernel
theorem dJ7_copyOfRangeByte_39247_2 : decode cJ7_copyOfRangeByte_39247 2 = .ok (.invokestatic 343, 3) := by decide +kernel
theorem dJ7_copyOfRangeByte_39247_5 : decode cJ7_copyOfRangeByte_39247 5 = .ok (.iload_n 2, 1) := by decide +kernel
theorem dJ7_copyOfRangeByte_39247_6 : decode cJ7_copyOfRangeByte_39247 6 = .ok (.iload_n 1, 1) := by decide +kernel
theorem dJ7_copyOfRangeByte_39247_7 : decode cJ7_copyOfRangeByte_39247 7 = .ok (.isub, 1) := by decide +kernel
theorem dJ7_copyOfRangeByte_39247_8 : decode cJ7_copyOfRangeByte_39247 8 = .ok (.istore_n 3, 1) := by decide +kernel
theorem dJ7_copyOfRangeByte_39247_9 : decode cJ7_copyOfRangeByte_39247 9 = .ok (.iload_n 3, 1) := by decide +kernel
theorem dJ7_copyOfRangeByte_39247_10 : decode cJ7_copyOfRangeByte_39247 10 = .ok (.newarray .byte, 2) := by decide +kernel
theorem dJ7_copyOfRangeByte_39247_12 : decode cJ7_copyOfRangeByte_39247 12 = .ok (.astore 4, 2) := by decide +kernel
theorem dJ7_copyOfRangeByte_39247_14 : decode cJ7_copyOfRangeByte_39247 14 = .ok (.aload_n 0, 1) := by decide +kernel
theorem dJ7_copyOfRangeByte_39247_15 : decode cJ7_copyOfRangeByte_39247 15 = .ok (.iload_n 1, 1) := by decide +kernel
theorem dJ7_copyOfRangeByte_39247_16 : decode cJ7_copyOfRangeByte_39247 16 = .ok (.aload 4, 2) := by decide +kernel
theorem dJ7_copyOfRangeByte_39247_18 : decode cJ7_copyOfRangeByte_39247 18 = .ok (.iconst 0, 1) := by decide +kernel
theorem dJ7_copyOfRangeByte_39247_19 : decode cJ7_copyOfRangeByte_39247 19 = .ok (.aload_n 0, 1) := by decide +kernel
theorem dJ7_copyOfRangeByte_39247_20 : decode cJ7_copyOfRangeByte_39247 20 = .ok (.arraylength, 1) := by decide +kernel
theorem dJ7_copyOfRangeByte_39247_21 : decode cJ7_copyOfRangeByte_39247 21 = .ok (.iload_n 1, 1) := by decide +kernel
theorem dJ7_copyOfRangeByte_39247_22 : decode cJ7_copyOfRangeByte_39247 22 = .ok (.isub, 1) := by decide +kernel
theorem dJ7_copyOfRangeByte_39247_23 : decode cJ7_copyOfRangeByte_39247 23 = .ok (.iload_n 3, 1) := by decide +kernel
theorem dJ7_copyOfRangeByte_39247_24 : decode cJ7_copyOfRangeByte_39247 24 = .ok (.invokestatic 304, 3) := by decide +kernel
theorem dJ7_copyOfRangeByte_39247_27 : decode cJ7_copyOfRangeByte_39247 27 = .ok (.invokestatic 150, 3) := by decide +kernel
theorem dJ7_copyOfRangeByte_39247_30 : decode cJ7_copyOfRangeByte_39247 30 = .ok (.aload 4, 2) := by decide +kernel
theorem dJ7_copyOfRangeByte_39247_32 : decode cJ7_copyOfRangeByte_39247 32 = .ok (.areturn, 1) := by decide +kernel
theorem dJ15_checkIndex_7cf53_0 : decode cJ15_checkIndex_7cf53 0 = .ok (.iload_n 0, 1) := by decide +kernel
theorem dJ15_checkIndex_7cf53_1 : decode cJ15_checkIndex_7cf53 1 = .ok (.iload_n 1, 1) := by decide +kernel
theorem dJ15_checkIndex_7cf53_2 : decode cJ15_checkIndex_7cf53 2 = .ok (.aconst_null, 1) := by decide +kernel
theorem dJ15_checkIndex_7cf53_3 : decode cJ15_checkIndex_7cf53 3 = .ok (.invokestatic 105, 3) := by decide +kernel
theorem dJ15_checkIndex_7cf53_6 : decode cJ15_checkIndex_7cf53 6 = .ok (.ireturn, 1) := by decide +kernel
theorem dJ8_newLength_cabcc_0 : decode cJ8_newLength_cabcc 0 = .ok (.iload_n 0, 1) := by decide +kernel
theorem dJ8_newLength_cabcc_1 : decode cJ8_newLength_cabcc 1 = .ok (.iload_n 1, 1) := by decide +kernel
theorem dJ8_newLength_cabcc_2 : decode cJ8_newLength_cabcc 2 = .ok (.iload_n 2, 1) := by decide +kernel
theorem dJ8_newLength_cabcc_3 : decode cJ8_newLength_cabcc 3 = .ok (.invokestatic 194, 3) := by decide +kernel
theorem dJ8_newLength_cabcc_6 : decode cJ8_newLength_cabcc 6 = .ok (.iadd, 1) := by decide +kernel
theorem dJ8_newLength_cabcc_7 : decode cJ8_newLength_cabcc 7 = .ok (.istore_n 3, 1) := by decide +kernel
theorem dJ8_newLength_cabcc_8 : decode cJ8_newLength_cabcc 8 = .ok (.iconst 0, 1) := by decide +kernel
theorem dJ8_newLength_cabcc_9 : decode cJ8_newLength_cabcc 9 = .ok (.iload_n 3, 1) := by decide +kernel
theorem dJ8_newLength_cabcc_10 : decode cJ8_newLength_cabcc 10 = .ok (.if_icmp .ge 11, 3) := by decide +kernel
theorem dJ8_newLength_cabcc_13 : decode cJ8_newLength_cabcc 13 = .ok (.iload_n 3, 1) := by decide +kernel
theorem dJ8_newLength_cabcc_14 : decode cJ8_newLength_cabcc 14 = .ok (.ldc 200, 2) := by decide +kernel
theorem dJ8_newLength_cabcc_16 : decode cJ8_newLength_cabcc 16 = .ok (.if_icmp .gt 5, 3) := by decide +kernel
theorem dJ8_newLength_cabcc_19 : decode cJ8_newLength_cabcc 19 = .ok (.iload_n 3, 1) := by decide +kernel
theorem dJ8_newLength_cabcc_20 : decode cJ8_newLength_cabcc 20 = .ok (.ireturn, 1) := by decide +kernel
theorem dJ8_newLength_cabcc_21 : decode cJ8_newLength_cabcc 21 = .ok (.iload_n 0, 1) := by decide +kernel
theorem dJ8_newLength_cabcc_22 : decode cJ8_newLength_cabcc 22 = .ok (.iload_n 1, 1) := by decide +kernel
theorem dJ8_newLength_cabcc_23 : decode cJ8_newLength_cabcc 23 = .ok (.invokestatic 201, 3) := by decide +kernel
theorem dJ8_newLength_cabcc_26 : decode cJ8_newLength_cabcc 26 = .ok (.ireturn, 1) := by decide +kernel
theorem dJ3_checkIndex_8e157_0 : decode cJ3_checkIndex_8e157 0 = .ok (.iload_n 0, 1) := by decide +kernel
theorem dJ3_checkIndex_8e157_1 : decode cJ3_checkIndex_8e157 1 = .ok (.ifCond .lt 8, 3) := by decide +kernel
theorem dJ3_checkIndex_8e157_4 : decode cJ3_checkIndex_8e157 4 = .ok (.iload_n 0, 1) := by decide +kernel
theorem dJ3_checkIndex_8e157_5 : decode cJ3_checkIndex_8e157 5 = .ok (.iload_n 1, 1) := by decide +kernel
theorem dJ3_checkIndex_8e157_6 : decode cJ3_checkIndex_8e157 6 = .ok (.if_icmp .lt 10, 3) := by decide +kernel
theorem dJ3_checkIndex_8e157_9 : decode cJ3_checkIndex_8e157 9 = .ok (.aload_n 2, 1) := by decide +kernel
theorem dJ3_checkIndex_8e157_10 : decode cJ3_checkIndex_8e157 10 = .ok (.iload_n 0, 1) := by decide +kernel
theorem dJ3_checkIndex_8e157_11 : decode cJ3_checkIndex_8e157 11 = .ok (.iload_n 1, 1) := by decide +kernel
theorem dJ3_checkIndex_8e157_12 : decode cJ3_checkIndex_8e157 12 = .ok (.invokestatic 95, 3) := by decide +kernel
theorem dJ3_checkIndex_8e157_15 : decode cJ3_checkIndex_8e157 15 = .ok (.athrow, 1) := by decide +kernel
theorem dJ3_checkIndex_8e157_16 : decode cJ3_checkIndex_8e157 16 = .ok (.iload_n 0, 1) := by decide +kernel
theorem dJ3_checkIndex_8e157_17 : decode cJ3_checkIndex_8e157 17 = .ok (.ireturn, 1) := by decide +kernel
theorem dJ3_checkFromToIndex_8c36e_0 : decode cJ3_checkFromToIndex_8c36e 0 = .ok (.iload_n 0, 1) := by decide +kernel
theorem dJ3_checkFromToIndex_8c36e_1 : decode cJ3_checkFromToIndex_8c36e 1 = .ok (.ifCond .lt 13, 3) := by decide +kernel
theorem dJ3_checkFromToIndex_8c36e_4 : decode cJ3_checkFromToIndex_8c36e 4 = .ok (.iload_n 0, 1) := by decide +kernel
theorem dJ3_checkFromToIndex_8c36e_5 : decode cJ3_checkFromToIndex_8c36e 5 = .ok (.iload_n 1, 1) := by decide +kernel
theorem dJ3_checkFromToIndex_8c36e_6 : decode cJ3_checkFromToIndex_8c36e 6 = .ok (.if_icmp .gt 8, 3) := by decide +kernel
theorem dJ3_checkFromToIndex_8c36e_9 : decode cJ3_checkFromToIndex_8c36e 9 = .ok (.iload_n 1, 1) := by decide +kernel
theorem dJ3_checkFromToIndex_8c36e_10 : decode cJ3_checkFromToIndex_8c36e 10 = .ok (.iload_n 2, 1) := by decide +kernel
theorem dJ3_checkFromToIndex_8c36e_11 : decode cJ3_checkFromToIndex_8c36e 11 = .ok (.if_icmp .le 11, 3) := by decide +kernel
theorem dJ3_checkFromToIndex_8c36e_14 : decode cJ3_checkFromToIndex_8c36e 14 = .ok (.aload_n 3, 1) := by decide +kernel
theorem dJ3_checkFromToIndex_8c36e_15 : decode cJ3_checkFromToIndex_8c36e 15 = .ok (.iload_n 0, 1) := by decide +kernel
theorem dJ3_checkFromToIndex_8c36e_16 : decode cJ3_checkFromToIndex_8c36e 16 = .ok (.iload_n 1, 1) := by decide +kernel
theorem dJ3_checkFromToIndex_8c36e_17 : decode cJ3_checkFromToIndex_8c36e 17 = .ok (.iload_n 2, 1) := by decide +kernel
theorem dJ3_checkFromToIndex_8c36e_18 : decode cJ3_checkFromToIndex_8c36e 18 = .ok (.invokestatic 99, 3) := by decide +kernel
theorem dJ3_checkFromToIndex_8c36e_21 : decode cJ3_checkFromToIndex_8c36e 21 = .ok (.athrow, 1) := by decide +kernel
theorem dJ3_checkFromToIndex_8c36e_22 : decode cJ3_checkFromToIndex_8c36e 22 = .ok (.iload_n 0, 1) := by decide +kernel
theorem dJ3_checkFromToIndex_8c36e_23 : decode cJ3_checkFromToIndex_8c36e 23 = .ok (.ireturn, 1) := by decide +kernel
theorem dL_at_0 : decode cL_at 0 = .ok (.iload_n 1, 1) := by decide +kernel
theorem dL_at_1 : decode cL_at 1 = .ok (.aload_n 0, 1) := by decide +kernel
theorem dL_at_2 : decode cL_at 2 = .ok (.arraylength, 1) := by decide +kernel
theorem dL_at_3 : decode cL_at 3 = .ok (.if_icmp .ge 9, 3) := by decide +kernel
theorem dL_at_6 : decode cL_at 6 = .ok (.aload_n 0, 1) := by decide +kernel
theorem dL_at_7 : decode cL_at 7 = .ok (.iload_n 1, 1) := by decide +kernel
theorem dL_at_8 : decode cL_at 8 = .ok (.iaload, 1) := by decide +kernel
theorem dL_at_9 : decode cL_at 9 = .ok (.goto 4, 3) := by decide +kernel
theorem dL_at_12 : decode cL_at 12 = .ok (.iconst 0, 1) := by decide +kernel
theorem dL_at_13 : decode cL_at 13 = .ok (.ireturn, 1) := by decide +kernel
theorem dL_some_0 : decode cL_some 0 = .ok (.iload_n 0, 1) := by decide +kernel
theorem dL_some_1 : decode cL_some 1 = .ok (.iload_n 1, 1) := by decide +kernel
theorem dL_some_2 : decode cL_some 2 = .ok (.irem, 1) := by decide +kernel
theorem dL_some_3 : decode cL_some 3 = .ok (.istore_n 2, 1) := by decide +kernel
theorem dL_some_4 : decode cL_some 4 = .ok (.iload_n 2, 1) := by decide +kernel
theorem dL_some_5 : decode cL_some 5 = .ok (.ifCond .ge 9, 3) := by decide +kernel
theorem dL_some_8 : decode cL_some 8 = .ok (.iload_n 2, 1) := by decide +kernel
theorem dL_some_9 : decode cL_some 9 = .ok (.iload_n 1, 1) := by decide +kernel
theorem dL_some_10 : decode cL_some 10 = .ok (.iadd, 1) := by decide +kernel
theorem dL_some_11 : decode cL_some 11 = .ok (.goto 4, 3) := by decide +kernel
theorem dL_some_14 : decode cL_some 14 = .ok (.iload_n 2, 1) := by decide +kernel
theorem dL_some_15 : decode cL_some 15 = .ok (.ireturn, 1) := by decide +kernel
theorem dL_addButton_0 : decode cL_addButton 0 = .ok (.aload_n 0, 1) := by decide +kernel
theorem dL_addButton_1 : decode cL_addButton 1 = .ok (.invokevirtual 7, 3) := by decide +kernel
theorem dL_addButton_4 : decode cL_addButton 4 = .ok (.ireturn, 1) := by decide +kernel
theorem dL_addButton_5 : decode cL_addButton 5 = .ok (.astore_n 1, 1) := by decide +kernel
theorem dL_addButton_6 : decode cL_addButton 6 = .ok (.sipush (-1001), 3) := by decide +kernel
theorem dL_addButton_9 : decode cL_addButton 9 = .ok (.ireturn, 1) := by decide +kernel
theorem dL_setBond_0 : decode cL_setBond 0 = .ok (.aload_n 0, 1) := by decide +kernel
theorem dL_setBond_1 : decode cL_setBond 1 = .ok (.iload_n 1, 1) := by decide +kernel
theorem dL_setBond_2 : decode cL_setBond 2 = .ok (.iload_n 2, 1) := by decide +kernel
theorem dL_setBond_3 : decode cL_setBond 3 = .ok (.iload_n 3, 1) := by decide +kernel
theorem dL_setBond_4 : decode cL_setBond 4 = .ok (.invokevirtual 15, 3) := by decide +kernel
theorem dL_setBond_7 : decode cL_setBond 7 = .ok (.ireturn, 1) := by decide +kernel
theorem dL_setBond_8 : decode cL_setBond 8 = .ok (.astore 4, 2) := by decide +kernel
theorem dL_setBond_10 : decode cL_setBond 10 = .ok (.sipush (-1001), 3) := by decide +kernel
theorem dL_setBond_13 : decode cL_setBond 13 = .ok (.ireturn, 1) := by decide +kernel
theorem dL_setBond_14 : decode cL_setBond 14 = .ok (.astore 4, 2) := by decide +kernel
theorem dL_setBond_16 : decode cL_setBond 16 = .ok (.sipush (-1002), 3) := by decide +kernel
theorem dL_setBond_19 : decode cL_setBond 19 = .ok (.ireturn, 1) := by decide +kernel
theorem dL_cutBond_0 : decode cL_cutBond 0 = .ok (.aload_n 0, 1) := by decide +kernel
theorem dL_cutBond_1 : decode cL_cutBond 1 = .ok (.iload_n 1, 1) := by decide +kernel
theorem dL_cutBond_2 : decode cL_cutBond 2 = .ok (.iload_n 2, 1) := by decide +kernel
theorem dL_cutBond_3 : decode cL_cutBond 3 = .ok (.invokevirtual 23, 3) := by decide +kernel
theorem dL_cutBond_6 : decode cL_cutBond 6 = .ok (.ireturn, 1) := by decide +kernel
theorem dL_cutBond_7 : decode cL_cutBond 7 = .ok (.astore_n 3, 1) := by decide +kernel
theorem dL_cutBond_8 : decode cL_cutBond 8 = .ok (.sipush (-1001), 3) := by decide +kernel
theorem dL_cutBond_11 : decode cL_cutBond 11 = .ok (.ireturn, 1) := by decide +kernel
theorem dL_cutBond_12 : decode cL_cutBond 12 = .ok (.astore_n 3, 1) := by decide +kernel
theorem dL_cutBond_13 : decode cL_cutBond 13 = .ok (.sipush (-1002), 3) := by decide +kernel
theorem dL_cutBond_16 : decode cL_cutBond 16 = .ok (.ireturn, 1) := by decide +kernel
theorem dL_typeLetter_0 : decode cL_typeLetter 0 = .ok (.aload_n 0, 1) := by decide +kernel
theorem dL_typeLetter_1 : decode cL_typeLetter 1 = .ok (.iload_n 1, 1) := by decide +kernel
theorem dL_typeLetter_2 : decode cL_typeLetter 2 = .ok (.invokevirtual 29, 3) := by decide +kernel
theorem dL_typeLetter_5 : decode cL_typeLetter 5 = .ok (.ireturn, 1) := by decide +kernel
theorem dL_typeLetter_6 : decode cL_typeLetter 6 = .ok (.astore_n 2, 1) := by decide +kernel
theorem dL_typeLetter_7 : decode cL_typeLetter 7 = .ok (.sipush (-1001), 3) := by decide +kernel
theorem dL_typeLetter_10 : decode cL_typeLetter 10 = .ok (.ireturn, 1) := by decide +kernel
theorem dL_typeLetter_11 : decode cL_typeLetter 11 = .ok (.astore_n 2, 1) := by decide +kernel
theorem dL_typeLetter_12 : decode cL_typeLetter 12 = .ok (.sipush (-1002), 3) := by decide +kernel
theorem dL_typeLetter_15 : decode cL_typeLetter 15 = .ok (.ireturn, 1) := by decide +kernel
theorem dL_addPrecedent_0 : decode cL_addPrecedent 0 = .ok (.aload_n 0, 1) := by decide +kernel
theorem dL_addPrecedent_1 : decode cL_addPrecedent 1 = .ok (.iload_n 1, 1) := by decide +kernel
theorem dL_addPrecedent_2 : decode cL_addPrecedent 2 = .ok (.invokevirtual 33, 3) := by decide +kernel
theorem dL_addPrecedent_5 : decode cL_addPrecedent 5 = .ok (.ireturn, 1) := by decide +kernel
theorem dL_addPrecedent_6 : decode cL_addPrecedent 6 = .ok (.astore_n 2, 1) := by decide +kernel
theorem dL_addPrecedent_7 : decode cL_addPrecedent 7 = .ok (.sipush (-1001), 3) := by decide +kernel
theorem dL_addPrecedent_10 : decode cL_addPrecedent 10 = .ok (.ireturn, 1) := by decide +kernel
theorem dL_addPrecedent_11 : decode cL_addPrecedent 11 = .ok (.astore_n 2, 1) := by decide +kernel
theorem dL_addPrecedent_12 : decode cL_addPrecedent 12 = .ok (.sipush (-1002), 3) := by decide +kernel
theorem dL_addPrecedent_15 : decode cL_addPrecedent 15 = .ok (.ireturn, 1) := by decide +kernel
theorem dL_addPrecedent_16 : decode cL_addPrecedent 16 = .ok (.astore_n 2, 1) := by decide +kernel
theorem dL_addPrecedent_17 : decode cL_addPrecedent 17 = .ok (.sipush (-1003), 3) := by decide +kernel
theorem dL_addPrecedent_20 : decode cL_addPrecedent 20 = .ok (.ireturn, 1) := by decide +kernel
theorem dL_fileCase_0 : decode cL_fileCase 0 = .ok (.aload_n 0, 1) := by decide +kernel
theorem dL_fileCase_1 : decode cL_fileCase 1 = .ok (.iload_n 1, 1) := by decide +kernel
theorem dL_fileCase_2 : decode cL_fileCase 2 = .ok (.iload_n 2, 1) := by decide +kernel
theorem dL_fileCase_3 : decode cL_fileCase 3 = .ok (.iload_n 3, 1) := by decide +kernel
theorem dL_fileCase_4 : decode cL_fileCase 4 = .ok (.iload 4, 2) := by decide +kernel
theorem dL_fileCase_6 : decode cL_fileCase 6 = .ok (.iload 5, 2) := by decide +kernel
theorem dL_fileCase_8 : decode cL_fileCase 8 = .ok (.invokevirtual 39, 3) := by decide +kernel
theorem dL_fileCase_11 : decode cL_fileCase 11 = .ok (.ireturn, 1) := by decide +kernel
theorem dL_fileCase_12 : decode cL_fileCase 12 = .ok (.astore 6, 2) := by decide +kernel
theorem dL_fileCase_14 : decode cL_fileCase 14 = .ok (.sipush (-1001), 3) := by decide +kernel
theorem dL_fileCase_17 : decode cL_fileCase 17 = .ok (.ireturn, 1) := by decide +kernel
theorem dL_fileCase_18 : decode cL_fileCase 18 = .ok (.astore 6, 2) := by decide +kernel
theorem dL_fileCase_20 : decode cL_fileCase 20 = .ok (.sipush (-1002), 3) := by decide +kernel
theorem dL_fileCase_23 : decode cL_fileCase 23 = .ok (.ireturn, 1) := by decide +kernel
theorem dL_fileCase_24 : decode cL_fileCase 24 = .ok (.astore 6, 2) := by decide +kernel
theorem dL_fileCase_26 : decode cL_fileCase 26 = .ok (.sipush (-1003), 3) := by decide +kernel
theorem dL_fileCase_29 : decode cL_fileCase 29 = .ok (.ireturn, 1) := by decide +kernel
theorem dL_fileCase_30 : decode cL_fileCase 30 = .ok (.astore 6, 2) := by decide +kernel
theorem dL_fileCase_32 : decode cL_fileCase 32 = .ok (.sipush (-1004), 3) := by decide +kernel
theorem dL_fileCase_35 : decode cL_fileCase 35 = .ok (.ireturn, 1) := by decide +kernel
theorem dL_hear_0 : decode cL_hear 0 = .ok (.aload_n 0, 1) := by decide +kernel
theorem dL_hear_1 : decode cL_hear 1 = .ok (.iload_n 1, 1) := by decide +kernel
theorem dL_hear_2 : decode cL_hear 2 = .ok (.invokevirtual 43, 3) := by decide +kernel
theorem dL_hear_5 : decode cL_hear 5 = .ok (.ireturn, 1) := by decide +kernel
theorem dL_hear_6 : decode cL_hear 6 = .ok (.astore_n 2, 1) := by decide +kernel
theorem dL_hear_7 : decode cL_hear 7 = .ok (.sipush (-1001), 3) := by decide +kernel
theorem dL_hear_10 : decode cL_hear 10 = .ok (.ireturn, 1) := by decide +kernel
theorem dL_hear_11 : decode cL_hear 11 = .ok (.astore_n 2, 1) := by decide +kernel
theorem dL_hear_12 : decode cL_hear 12 = .ok (.sipush (-1002), 3) := by decide +kernel
theorem dL_hear_15 : decode cL_hear 15 = .ok (.ireturn, 1) := by decide +kernel
theorem dL_hear_16 : decode cL_hear 16 = .ok (.astore_n 2, 1) := by decide +kernel
theorem dL_hear_17 : decode cL_hear 17 = .ok (.sipush (-1003), 3) := by decide +kernel
theorem dL_hear_20 : decode cL_hear 20 = .ok (.ireturn, 1) := by decide +kernel
theorem dL_appeal_0 : decode cL_appeal 0 = .ok (.aload_n 0, 1) := by decide +kernel
theorem dL_appeal_1 : decode cL_appeal 1 = .ok (.iload_n 1, 1) := by decide +kernel
theorem dL_appeal_2 : decode cL_appeal 2 = .ok (.invokevirtual 46, 3) := by decide +kernel
theorem dL_appeal_5 : decode cL_appeal 5 = .ok (.ireturn, 1) := by decide +kernel
theorem dL_appeal_6 : decode cL_appeal 6 = .ok (.astore_n 2, 1) := by decide +kernel
theorem dL_appeal_7 : decode cL_appeal 7 = .ok (.sipush (-1001), 3) := by decide +kernel
theorem dL_appeal_10 : decode cL_appeal 10 = .ok (.ireturn, 1) := by decide +kernel
theorem dL_appeal_11 : decode cL_appeal 11 = .ok (.astore_n 2, 1) := by decide +kernel
theorem dL_appeal_12 : decode cL_appeal 12 = .ok (.sipush (-1002), 3) := by decide +kernel
theorem dL_appeal_15 : decode cL_appeal 15 = .ok (.ireturn, 1) := by decide +kernel
theorem dL_appeal_16 : decode cL_appeal 16 = .ok (.astore_n 2, 1) := by decide +kernel
theorem dL_appeal_17 : decode cL_appeal 17 = .ok (.sipush (-1003), 3) := by decide +kernel
theorem dL_appeal_20 : decode cL_appeal 20 = .ok (.ireturn, 1) := by decide +kernel
theorem dL_withdraw_0 : decode cL_withdraw 0 = .ok (.aload_n 0, 1) := by decide +kernel
theorem dL_withdraw_1 : decode cL_withdraw 1 = .ok (.iload_n 1, 1) := by decide +kernel
theorem dL_withdraw_2 : decode cL_withdraw 2 = .ok (.invokevirtual 49, 3) := by decide +kernel
theorem dL_withdraw_5 : decode cL_withdraw 5 = .ok (.ireturn, 1) := by decide +kernel
theorem dL_withdraw_6 : decode cL_withdraw 6 = .ok (.astore_n 2, 1) := by decide +kernel
theorem dL_withdraw_7 : decode cL_withdraw 7 = .ok (.sipush (-1001), 3) := by decide +kernel
theorem dL_withdraw_10 : decode cL_withdraw 10 = .ok (.ireturn, 1) := by decide +kernel
theorem dL_withdraw_11 : decode cL_withdraw 11 = .ok (.astore_n 2, 1) := by decide +kernel
theorem dL_withdraw_12 : decode cL_withdraw 12 = .ok (.sipush (-1002), 3) := by decide +kernel
theorem dL_withdraw_15 : decode cL_withdraw 15 = .ok (.ireturn, 1) := by decide +kernel
theorem dL_close_0 : decode cL_close 0 = .ok (.aload_n 0, 1) := by decide +kernel
theorem dL_close_1 : decode cL_close 1 = .ok (.iload_n 1, 1) := by decide +kernel
theorem dL_close_2 : decode cL_close 2 = .ok (.invokevirtual 52, 3) := by decide +kernel
theorem dL_close_5 : decode cL_close 5 = .ok (.ireturn, 1) := by decide +kernel
theorem dL_close_6 : decode cL_close 6 = .ok (.astore_n 2, 1) := by decide +kernel
theorem dL_close_7 : decode cL_close 7 = .ok (.sipush (-1001), 3) := by decide +kernel
theorem dL_close_10 : decode cL_close 10 = .ok (.ireturn, 1) := by decide +kernel
theorem dL_close_11 : decode cL_close 11 = .ok (.astore_n 2, 1) := by decide +kernel
theorem dL_close_12 : decode cL_close 12 = .ok (.sipush (-1002), 3) := by decide +kernel
theorem dL_close_15 : decode cL_close 15 = .ok (.ireturn, 1) := by decide +kernel
theorem dL_give_0 : decode cL_give 0 = .ok (.aload_n 0, 1) := by decide +kernel
theorem dL_give_1 : decode cL_give 1 = .ok (.iload_n 1, 1) := by decide +kernel
theorem dL_give_2 : decode cL_give 2 = .ok (.iload_n 2, 1) := by decide +kernel
theorem dL_give_3 : decode cL_give 3 = .ok (.iload_n 3, 1) := by decide +kernel
theorem dL_give_4 : decode cL_give 4 = .ok (.invokevirtual 55, 3) := by decide +kernel
theorem dL_give_7 : decode cL_give 7 = .ok (.ireturn, 1) := by decide +kernel
theorem dL_give_8 : decode cL_give 8 = .ok (.astore 4, 2) := by decide +kernel
theorem dL_give_10 : decode cL_give 10 = .ok (.sipush (-1001), 3) := by decide +kernel
theorem dL_give_13 : decode cL_give 13 = .ok (.ireturn, 1) := by decide +kernel
theorem dL_give_14 : decode cL_give 14 = .ok (.astore 4, 2) := by decide +kernel
theorem dL_give_16 : decode cL_give 16 = .ok (.sipush (-1002), 3) := by decide +kernel
theorem dL_give_19 : decode cL_give 19 = .ok (.ireturn, 1) := by decide +kernel
theorem dL_give_20 : decode cL_give 20 = .ok (.astore 4, 2) := by decide +kernel
theorem dL_give_22 : decode cL_give 22 = .ok (.sipush (-1003), 3) := by decide +kernel
theorem dL_give_25 : decode cL_give 25 = .ok (.ireturn, 1) := by decide +kernel
theorem dL_passDays_0 : decode cL_passDays 0 = .ok (.aload_n 0, 1) := by decide +kernel
theorem dL_passDays_1 : decode cL_passDays 1 = .ok (.iload_n 1, 1) := by decide +kernel
theorem dL_passDays_2 : decode cL_passDays 2 = .ok (.invokevirtual 58, 3) := by decide +kernel
theorem dL_passDays_5 : decode cL_passDays 5 = .ok (.ireturn, 1) := by decide +kernel
theorem dL_passDays_6 : decode cL_passDays 6 = .ok (.astore_n 2, 1) := by decide +kernel
theorem dL_passDays_7 : decode cL_passDays 7 = .ok (.sipush (-1001), 3) := by decide +kernel
theorem dL_passDays_10 : decode cL_passDays 10 = .ok (.ireturn, 1) := by decide +kernel
theorem dL_tension_0 : decode cL_tension 0 = .ok (.aload_n 0, 1) := by decide +kernel
theorem dL_tension_1 : decode cL_tension 1 = .ok (.iload_n 1, 1) := by decide +kernel
theorem dL_tension_2 : decode cL_tension 2 = .ok (.iload_n 2, 1) := by decide +kernel
theorem dL_tension_3 : decode cL_tension 3 = .ok (.invokevirtual 61, 3) := by decide +kernel
theorem dL_tension_6 : decode cL_tension 6 = .ok (.ireturn, 1) := by decide +kernel
theorem dL_tension_7 : decode cL_tension 7 = .ok (.astore_n 3, 1) := by decide +kernel
theorem dL_tension_8 : decode cL_tension 8 = .ok (.sipush (-1001), 3) := by decide +kernel
theorem dL_tension_11 : decode cL_tension 11 = .ok (.ireturn, 1) := by decide +kernel
theorem dL_tension_12 : decode cL_tension 12 = .ok (.astore_n 3, 1) := by decide +kernel
theorem dL_tension_13 : decode cL_tension 13 = .ok (.sipush (-1002), 3) := by decide +kernel
theorem dL_tension_16 : decode cL_tension 16 = .ok (.ireturn, 1) := by decide +kernel
theorem dL_strain_0 : decode cL_strain 0 = .ok (.aload_n 0, 1) := by decide +kernel
theorem dL_strain_1 : decode cL_strain 1 = .ok (.iload_n 1, 1) := by decide +kernel
theorem dL_strain_2 : decode cL_strain 2 = .ok (.iload_n 2, 1) := by decide +kernel
theorem dL_strain_3 : decode cL_strain 3 = .ok (.invokevirtual 64, 3) := by decide +kernel
theorem dL_strain_6 : decode cL_strain 6 = .ok (.ireturn, 1) := by decide +kernel
theorem dL_strain_7 : decode cL_strain 7 = .ok (.astore_n 3, 1) := by decide +kernel
theorem dL_strain_8 : decode cL_strain 8 = .ok (.sipush (-1001), 3) := by decide +kernel
theorem dL_strain_11 : decode cL_strain 11 = .ok (.ireturn, 1) := by decide +kernel
theorem dL_strain_12 : decode cL_strain 12 = .ok (.astore_n 3, 1) := by decide +kernel
theorem dL_strain_13 : decode cL_strain 13 = .ok (.sipush (-1002), 3) := by decide +kernel
theorem dL_strain_16 : decode cL_strain 16 = .ok (.ireturn, 1) := by decide +kernel
theorem dL_strainByTable_0 : decode cL_strainByTable 0 = .ok (.aload_n 0, 1) := by decide +kernel
theorem dL_strainByTable_1 : decode cL_strainByTable 1 = .ok (.iload_n 1, 1) := by decide +kernel
theorem dL_strainByTable_2 : decode cL_strainByTable 2 = .ok (.iload_n 2, 1) := by decide +kernel
theorem dL_strainByTable_3 : decode cL_strainByTable 3 = .ok (.invokevirtual 67, 3) := by decide +kernel
theorem dL_strainByTable_6 : decode cL_strainByTable 6 = .ok (.ireturn, 1) := by decide +kernel
theorem dL_strainByTable_7 : decode cL_strainByTable 7 = .ok (.astore_n 3, 1) := by decide +kernel
theorem dL_strainByTable_8 : decode cL_strainByTable 8 = .ok (.sipush (-1001), 3) := by decide +kernel
theorem dL_strainByTable_11 : decode cL_strainByTable 11 = .ok (.ireturn, 1) := by decide +kernel
theorem dL_strainByTable_12 : decode cL_strainByTable 12 = .ok (.astore_n 3, 1) := by decide +kernel
theorem dL_strainByTable_13 : decode cL_strainByTable 13 = .ok (.sipush (-1002), 3) := by decide +kernel
theorem dL_strainByTable_16 : decode cL_strainByTable 16 = .ok (.ireturn, 1) := by decide +kernel
theorem dL_caseAt_0 : decode cL_caseAt 0 = .ok (.aload_n 0, 1) := by decide +kernel
theorem dL_caseAt_1 : decode cL_caseAt 1 = .ok (.iload_n 1, 1) := by decide +kernel
theorem dL_caseAt_2 : decode cL_caseAt 2 = .ok (.invokevirtual 70, 3) := by decide +kernel
theorem dL_caseAt_5 : decode cL_caseAt 5 = .ok (.ireturn, 1) := by decide +kernel
theorem dL_caseAt_6 : decode cL_caseAt 6 = .ok (.astore_n 2, 1) := by decide +kernel
theorem dL_caseAt_7 : decode cL_caseAt 7 = .ok (.sipush (-1001), 3) := by decide +kernel
theorem dL_caseAt_10 : decode cL_caseAt 10 = .ok (.ireturn, 1) := by decide +kernel
theorem dL_plaintiff_0 : decode cL_plaintiff 0 = .ok (.aload_n 0, 1) := by decide +kernel
theorem dL_plaintiff_1 : decode cL_plaintiff 1 = .ok (.iload_n 1, 1) := by decide +kernel
theorem dL_plaintiff_2 : decode cL_plaintiff 2 = .ok (.invokevirtual 73, 3) := by decide +kernel
theorem dL_plaintiff_5 : decode cL_plaintiff 5 = .ok (.ireturn, 1) := by decide +kernel
theorem dL_plaintiff_6 : decode cL_plaintiff 6 = .ok (.astore_n 2, 1) := by decide +kernel
theorem dL_plaintiff_7 : decode cL_plaintiff 7 = .ok (.sipush (-1001), 3) := by decide +kernel
theorem dL_plaintiff_10 : decode cL_plaintiff 10 = .ok (.ireturn, 1) := by decide +kernel
theorem dL_defendant_0 : decode cL_defendant 0 = .ok (.aload_n 0, 1) := by decide +kernel
theorem dL_defendant_1 : decode cL_defendant 1 = .ok (.iload_n 1, 1) := by decide +kernel
theorem dL_defendant_2 : decode cL_defendant 2 = .ok (.invokevirtual 76, 3) := by decide +kernel
theorem dL_defendant_5 : decode cL_defendant 5 = .ok (.ireturn, 1) := by decide +kernel
theorem dL_defendant_6 : decode cL_defendant 6 = .ok (.astore_n 2, 1) := by decide +kernel
theorem dL_defendant_7 : decode cL_defendant 7 = .ok (.sipush (-1001), 3) := by decide +kernel
theorem dL_defendant_10 : decode cL_defendant 10 = .ok (.ireturn, 1) := by decide +kernel
theorem dL_claim_0 : decode cL_claim 0 = .ok (.aload_n 0, 1) := by decide +kernel
theorem dL_claim_1 : decode cL_claim 1 = .ok (.iload_n 1, 1) := by decide +kernel
theorem dL_claim_2 : decode cL_claim 2 = .ok (.invokevirtual 79, 3) := by decide +kernel
theorem dL_claim_5 : decode cL_claim 5 = .ok (.ireturn, 1) := by decide +kernel
theorem dL_claim_6 : decode cL_claim 6 = .ok (.astore_n 2, 1) := by decide +kernel
theorem dL_claim_7 : decode cL_claim 7 = .ok (.sipush (-1001), 3) := by decide +kernel
theorem dL_claim_10 : decode cL_claim 10 = .ok (.ireturn, 1) := by decide +kernel
theorem dL_duration_0 : decode cL_duration 0 = .ok (.aload_n 0, 1) := by decide +kernel
theorem dL_duration_1 : decode cL_duration 1 = .ok (.iload_n 1, 1) := by decide +kernel
theorem dL_duration_2 : decode cL_duration 2 = .ok (.invokevirtual 82, 3) := by decide +kernel
theorem dL_duration_5 : decode cL_duration 5 = .ok (.ireturn, 1) := by decide +kernel
theorem dL_duration_6 : decode cL_duration 6 = .ok (.astore_n 2, 1) := by decide +kernel
theorem dL_duration_7 : decode cL_duration 7 = .ok (.sipush (-1001), 3) := by decide +kernel
theorem dL_duration_10 : decode cL_duration 10 = .ok (.ireturn, 1) := by decide +kernel
theorem dL_deadline_0 : decode cL_deadline 0 = .ok (.aload_n 0, 1) := by decide +kernel
theorem dL_deadline_1 : decode cL_deadline 1 = .ok (.iload_n 1, 1) := by decide +kernel
theorem dL_deadline_2 : decode cL_deadline 2 = .ok (.invokevirtual 85, 3) := by decide +kernel
theorem dL_deadline_5 : decode cL_deadline 5 = .ok (.ireturn, 1) := by decide +kernel
theorem dL_deadline_6 : decode cL_deadline 6 = .ok (.astore_n 2, 1) := by decide +kernel
theorem dL_deadline_7 : decode cL_deadline 7 = .ok (.sipush (-1001), 3) := by decide +kernel
theorem dL_deadline_10 : decode cL_deadline 10 = .ok (.ireturn, 1) := by decide +kernel
theorem dL_state_0 : decode cL_state 0 = .ok (.aload_n 0, 1) := by decide +kernel
theorem dL_state_1 : decode cL_state 1 = .ok (.iload_n 1, 1) := by decide +kernel
theorem dL_state_2 : decode cL_state 2 = .ok (.invokevirtual 88, 3) := by decide +kernel
theorem dL_state_5 : decode cL_state 5 = .ok (.ireturn, 1) := by decide +kernel
theorem dL_state_6 : decode cL_state 6 = .ok (.astore_n 2, 1) := by decide +kernel
theorem dL_state_7 : decode cL_state 7 = .ok (.sipush (-1001), 3) := by decide +kernel
theorem dL_state_10 : decode cL_state 10 = .ok (.ireturn, 1) := by decide +kernel
theorem dL_matterLength_0 : decode cL_matterLength 0 = .ok (.aload_n 0, 1) := by decide +kernel
theorem dL_matterLength_1 : decode cL_matterLength 1 = .ok (.iload_n 1, 1) := by decide +kernel
theorem dL_matterLength_2 : decode cL_matterLength 2 = .ok (.invokevirtual 92, 3) := by decide +kernel
theorem dL_matterLength_5 : decode cL_matterLength 5 = .ok (.ireturn, 1) := by decide +kernel
theorem dL_matterLength_6 : decode cL_matterLength 6 = .ok (.astore_n 2, 1) := by decide +kernel
theorem dL_matterLength_7 : decode cL_matterLength 7 = .ok (.sipush (-1001), 3) := by decide +kernel
theorem dL_matterLength_10 : decode cL_matterLength 10 = .ok (.ireturn, 1) := by decide +kernel
theorem dL_matterLetter_0 : decode cL_matterLetter 0 = .ok (.aload_n 0, 1) := by decide +kernel
theorem dL_matterLetter_1 : decode cL_matterLetter 1 = .ok (.iload_n 1, 1) := by decide +kernel
theorem dL_matterLetter_2 : decode cL_matterLetter 2 = .ok (.iload_n 2, 1) := by decide +kernel
theorem dL_matterLetter_3 : decode cL_matterLetter 3 = .ok (.invokevirtual 95, 3) := by decide +kernel
theorem dL_matterLetter_6 : decode cL_matterLetter 6 = .ok (.ireturn, 1) := by decide +kernel
theorem dL_matterLetter_7 : decode cL_matterLetter 7 = .ok (.astore_n 3, 1) := by decide +kernel
theorem dL_matterLetter_8 : decode cL_matterLetter 8 = .ok (.sipush (-1001), 3) := by decide +kernel
theorem dL_matterLetter_11 : decode cL_matterLetter 11 = .ok (.ireturn, 1) := by decide +kernel
theorem dL_matterLetter_12 : decode cL_matterLetter 12 = .ok (.astore_n 3, 1) := by decide +kernel
theorem dL_matterLetter_13 : decode cL_matterLetter 13 = .ok (.sipush (-1002), 3) := by decide +kernel
theorem dL_matterLetter_16 : decode cL_matterLetter 16 = .ok (.ireturn, 1) := by decide +kernel
theorem dL_percentage_0 : decode cL_percentage 0 = .ok (.aload_n 0, 1) := by decide +kernel
theorem dL_percentage_1 : decode cL_percentage 1 = .ok (.iload_n 1, 1) := by decide +kernel
theorem dL_percentage_2 : decode cL_percentage 2 = .ok (.invokevirtual 99, 3) := by decide +kernel
theorem dL_percentage_5 : decode cL_percentage 5 = .ok (.ireturn, 1) := by decide +kernel
theorem dL_percentage_6 : decode cL_percentage 6 = .ok (.astore_n 2, 1) := by decide +kernel
theorem dL_percentage_7 : decode cL_percentage 7 = .ok (.sipush (-1001), 3) := by decide +kernel
theorem dL_percentage_10 : decode cL_percentage 10 = .ok (.ireturn, 1) := by decide +kernel
theorem dL_percentage_11 : decode cL_percentage 11 = .ok (.astore_n 2, 1) := by decide +kernel
theorem dL_percentage_12 : decode cL_percentage 12 = .ok (.sipush (-1002), 3) := by decide +kernel
theorem dL_percentage_15 : decode cL_percentage 15 = .ok (.ireturn, 1) := by decide +kernel
theorem dL_award_0 : decode cL_award 0 = .ok (.aload_n 0, 1) := by decide +kernel
theorem dL_award_1 : decode cL_award 1 = .ok (.iload_n 1, 1) := by decide +kernel
theorem dL_award_2 : decode cL_award 2 = .ok (.invokevirtual 102, 3) := by decide +kernel
theorem dL_award_5 : decode cL_award 5 = .ok (.ireturn, 1) := by decide +kernel
theorem dL_award_6 : decode cL_award 6 = .ok (.astore_n 2, 1) := by decide +kernel
theorem dL_award_7 : decode cL_award 7 = .ok (.sipush (-1001), 3) := by decide +kernel
theorem dL_award_10 : decode cL_award 10 = .ok (.ireturn, 1) := by decide +kernel
theorem dL_award_11 : decode cL_award 11 = .ok (.astore_n 2, 1) := by decide +kernel
theorem dL_award_12 : decode cL_award 12 = .ok (.sipush (-1002), 3) := by decide +kernel
theorem dL_award_15 : decode cL_award 15 = .ok (.ireturn, 1) := by decide +kernel
theorem dL_cost_0 : decode cL_cost 0 = .ok (.aload_n 0, 1) := by decide +kernel
theorem dL_cost_1 : decode cL_cost 1 = .ok (.iload_n 1, 1) := by decide +kernel
theorem dL_cost_2 : decode cL_cost 2 = .ok (.invokevirtual 105, 3) := by decide +kernel
theorem dL_cost_5 : decode cL_cost 5 = .ok (.ireturn, 1) := by decide +kernel
theorem dL_cost_6 : decode cL_cost 6 = .ok (.astore_n 2, 1) := by decide +kernel
theorem dL_cost_7 : decode cL_cost 7 = .ok (.sipush (-1001), 3) := by decide +kernel
theorem dL_cost_10 : decode cL_cost 10 = .ok (.ireturn, 1) := by decide +kernel
theorem dL_cost_11 : decode cL_cost 11 = .ok (.astore_n 2, 1) := by decide +kernel
theorem dL_cost_12 : decode cL_cost 12 = .ok (.sipush (-1002), 3) := by decide +kernel
theorem dL_cost_15 : decode cL_cost 15 = .ok (.ireturn, 1) := by decide +kernel
theorem dL_nearest_0 : decode cL_nearest 0 = .ok (.aload_n 0, 1) := by decide +kernel
theorem dL_nearest_1 : decode cL_nearest 1 = .ok (.iload_n 1, 1) := by decide +kernel
theorem dL_nearest_2 : decode cL_nearest 2 = .ok (.invokevirtual 108, 3) := by decide +kernel
theorem dL_nearest_5 : decode cL_nearest 5 = .ok (.ireturn, 1) := by decide +kernel
theorem dL_nearest_6 : decode cL_nearest 6 = .ok (.astore_n 2, 1) := by decide +kernel
theorem dL_nearest_7 : decode cL_nearest 7 = .ok (.sipush (-1001), 3) := by decide +kernel
theorem dL_nearest_10 : decode cL_nearest 10 = .ok (.ireturn, 1) := by decide +kernel
theorem dL_nearest_11 : decode cL_nearest 11 = .ok (.astore_n 2, 1) := by decide +kernel
theorem dL_nearest_12 : decode cL_nearest 12 = .ok (.sipush (-1002), 3) := by decide +kernel
theorem dL_nearest_15 : decode cL_nearest 15 = .ok (.ireturn, 1) := by decide +kernel
theorem dL_percent_0 : decode cL_percent 0 = .ok (.aload_n 0, 1) := by decide +kernel
theorem dL_percent_1 : decode cL_percent 1 = .ok (.iload_n 1, 1) := by decide +kernel
theorem dL_percent_2 : decode cL_percent 2 = .ok (.invokevirtual 111, 3) := by decide +kernel
theorem dL_percent_5 : decode cL_percent 5 = .ok (.ireturn, 1) := by decide +kernel
theorem dL_percent_6 : decode cL_percent 6 = .ok (.astore_n 2, 1) := by decide +kernel
theorem dL_percent_7 : decode cL_percent 7 = .ok (.sipush (-1001), 3) := by decide +kernel
theorem dL_percent_10 : decode cL_percent 10 = .ok (.ireturn, 1) := by decide +kernel
theorem dL_distance_0 : decode cL_distance 0 = .ok (.aload_n 0, 1) := by decide +kernel
theorem dL_distance_1 : decode cL_distance 1 = .ok (.iload_n 1, 1) := by decide +kernel
theorem dL_distance_2 : decode cL_distance 2 = .ok (.iload_n 2, 1) := by decide +kernel
theorem dL_distance_3 : decode cL_distance 3 = .ok (.invokevirtual 114, 3) := by decide +kernel
theorem dL_distance_6 : decode cL_distance 6 = .ok (.ireturn, 1) := by decide +kernel
theorem dL_distance_7 : decode cL_distance 7 = .ok (.astore_n 3, 1) := by decide +kernel
theorem dL_distance_8 : decode cL_distance 8 = .ok (.sipush (-1001), 3) := by decide +kernel
theorem dL_distance_11 : decode cL_distance 11 = .ok (.ireturn, 1) := by decide +kernel
theorem dL_distance_12 : decode cL_distance 12 = .ok (.astore_n 3, 1) := by decide +kernel
theorem dL_distance_13 : decode cL_distance 13 = .ok (.sipush (-1002), 3) := by decide +kernel
theorem dL_distance_16 : decode cL_distance 16 = .ok (.ireturn, 1) := by decide +kernel
theorem dL_byEnds_0 : decode cL_byEnds 0 = .ok (.aload_n 0, 1) := by decide +kernel
theorem dL_byEnds_1 : decode cL_byEnds 1 = .ok (.iload_n 1, 1) := by decide +kernel
theorem dL_byEnds_2 : decode cL_byEnds 2 = .ok (.iload_n 2, 1) := by decide +kernel
theorem dL_byEnds_3 : decode cL_byEnds 3 = .ok (.invokevirtual 117, 3) := by decide +kernel
theorem dL_byEnds_6 : decode cL_byEnds 6 = .ok (.ireturn, 1) := by decide +kernel
theorem dL_byEnds_7 : decode cL_byEnds 7 = .ok (.astore_n 3, 1) := by decide +kernel
theorem dL_byEnds_8 : decode cL_byEnds 8 = .ok (.sipush (-1001), 3) := by decide +kernel
theorem dL_byEnds_11 : decode cL_byEnds 11 = .ok (.ireturn, 1) := by decide +kernel
theorem dL_byEnds_12 : decode cL_byEnds 12 = .ok (.astore_n 3, 1) := by decide +kernel
theorem dL_byEnds_13 : decode cL_byEnds 13 = .ok (.sipush (-1002), 3) := by decide +kernel
theorem dL_byEnds_16 : decode cL_byEnds 16 = .ok (.ireturn, 1) := by decide +kernel
theorem dL_byClaim_0 : decode cL_byClaim 0 = .ok (.aload_n 0, 1) := by decide +kernel
theorem dL_byClaim_1 : decode cL_byClaim 1 = .ok (.iload_n 1, 1) := by decide +kernel
theorem dL_byClaim_2 : decode cL_byClaim 2 = .ok (.invokevirtual 120, 3) := by decide +kernel
theorem dL_byClaim_5 : decode cL_byClaim 5 = .ok (.ireturn, 1) := by decide +kernel
theorem dL_byClaim_6 : decode cL_byClaim 6 = .ok (.astore_n 2, 1) := by decide +kernel
theorem dL_byClaim_7 : decode cL_byClaim 7 = .ok (.sipush (-1001), 3) := by decide +kernel
theorem dL_byClaim_10 : decode cL_byClaim 10 = .ok (.ireturn, 1) := by decide +kernel
theorem dL_byBalance_0 : decode cL_byBalance 0 = .ok (.aload_n 0, 1) := by decide +kernel
theorem dL_byBalance_1 : decode cL_byBalance 1 = .ok (.iload_n 1, 1) := by decide +kernel
theorem dL_byBalance_2 : decode cL_byBalance 2 = .ok (.invokevirtual 123, 3) := by decide +kernel
theorem dL_byBalance_5 : decode cL_byBalance 5 = .ok (.ireturn, 1) := by decide +kernel
theorem dL_byBalance_6 : decode cL_byBalance 6 = .ok (.astore_n 2, 1) := by decide +kernel
theorem dL_byBalance_7 : decode cL_byBalance 7 = .ok (.sipush (-1001), 3) := by decide +kernel
theorem dL_byBalance_10 : decode cL_byBalance 10 = .ok (.ireturn, 1) := by decide +kernel
theorem dL_meanClaim_0 : decode cL_meanClaim 0 = .ok (.aload_n 0, 1) := by decide +kernel
theorem dL_meanClaim_1 : decode cL_meanClaim 1 = .ok (.invokevirtual 126, 3) := by decide +kernel
theorem dL_meanClaim_4 : decode cL_meanClaim 4 = .ok (.dreturn, 1) := by decide +kernel
theorem dL_meanClaim_5 : decode cL_meanClaim 5 = .ok (.astore_n 1, 1) := by decide +kernel
theorem dL_meanClaim_6 : decode cL_meanClaim 6 = .ok (.ldc2_w 132, 3) := by decide +kernel
theorem dL_meanClaim_9 : decode cL_meanClaim 9 = .ok (.dreturn, 1) := by decide +kernel
theorem dL_ruledShare_0 : decode cL_ruledShare 0 = .ok (.aload_n 0, 1) := by decide +kernel
theorem dL_ruledShare_1 : decode cL_ruledShare 1 = .ok (.invokevirtual 134, 3) := by decide +kernel
theorem dL_ruledShare_4 : decode cL_ruledShare 4 = .ok (.freturn, 1) := by decide +kernel
theorem dL_ruledShare_5 : decode cL_ruledShare 5 = .ok (.astore_n 1, 1) := by decide +kernel
theorem dL_ruledShare_6 : decode cL_ruledShare 6 = .ok (.ldc 138, 2) := by decide +kernel
theorem dL_ruledShare_8 : decode cL_ruledShare 8 = .ok (.freturn, 1) := by decide +kernel
theorem dL_renderCase_0 : decode cL_renderCase 0 = .ok (.aload_n 0, 1) := by decide +kernel
theorem dL_renderCase_1 : decode cL_renderCase 1 = .ok (.iload_n 1, 1) := by decide +kernel
theorem dL_renderCase_2 : decode cL_renderCase 2 = .ok (.invokevirtual 139, 3) := by decide +kernel
theorem dL_renderCase_5 : decode cL_renderCase 5 = .ok (.ireturn, 1) := by decide +kernel
theorem dL_renderCase_6 : decode cL_renderCase 6 = .ok (.astore_n 2, 1) := by decide +kernel
theorem dL_renderCase_7 : decode cL_renderCase 7 = .ok (.sipush (-1001), 3) := by decide +kernel
theorem dL_renderCase_10 : decode cL_renderCase 10 = .ok (.ireturn, 1) := by decide +kernel
theorem dL_renderBonds_0 : decode cL_renderBonds 0 = .ok (.aload_n 0, 1) := by decide +kernel
theorem dL_renderBonds_1 : decode cL_renderBonds 1 = .ok (.iload_n 1, 1) := by decide +kernel
theorem dL_renderBonds_2 : decode cL_renderBonds 2 = .ok (.invokevirtual 142, 3) := by decide +kernel
theorem dL_renderBonds_5 : decode cL_renderBonds 5 = .ok (.ireturn, 1) := by decide +kernel
theorem dL_renderBonds_6 : decode cL_renderBonds 6 = .ok (.astore_n 2, 1) := by decide +kernel
theorem dL_renderBonds_7 : decode cL_renderBonds 7 = .ok (.sipush (-1001), 3) := by decide +kernel
theorem dL_renderBonds_10 : decode cL_renderBonds 10 = .ok (.ireturn, 1) := by decide +kernel
theorem dL_outputAt_0 : decode cL_outputAt 0 = .ok (.aload_n 0, 1) := by decide +kernel
theorem dL_outputAt_1 : decode cL_outputAt 1 = .ok (.iload_n 1, 1) := by decide +kernel
theorem dL_outputAt_2 : decode cL_outputAt 2 = .ok (.invokevirtual 145, 3) := by decide +kernel
theorem dL_outputAt_5 : decode cL_outputAt 5 = .ok (.ireturn, 1) := by decide +kernel
theorem dL_outputAt_6 : decode cL_outputAt 6 = .ok (.astore_n 2, 1) := by decide +kernel
theorem dL_outputAt_7 : decode cL_outputAt 7 = .ok (.sipush (-1001), 3) := by decide +kernel
theorem dL_outputAt_10 : decode cL_outputAt 10 = .ok (.ireturn, 1) := by decide +kernel
theorem dL_type_0 : decode cL_type 0 = .ok (.aload_n 0, 1) := by decide +kernel
theorem dL_type_1 : decode cL_type 1 = .ok (.iload_n 1, 1) := by decide +kernel
theorem dL_type_2 : decode cL_type 2 = .ok (.invokevirtual 148, 3) := by decide +kernel
theorem dL_type_5 : decode cL_type 5 = .ok (.ireturn, 1) := by decide +kernel
theorem dL_type_6 : decode cL_type 6 = .ok (.astore_n 2, 1) := by decide +kernel
theorem dL_type_7 : decode cL_type 7 = .ok (.sipush (-1001), 3) := by decide +kernel
theorem dL_type_10 : decode cL_type 10 = .ok (.ireturn, 1) := by decide +kernel
theorem dL_type_11 : decode cL_type 11 = .ok (.astore_n 2, 1) := by decide +kernel
theorem dL_type_12 : decode cL_type 12 = .ok (.sipush (-1002), 3) := by decide +kernel
theorem dL_type_15 : decode cL_type 15 = .ok (.ireturn, 1) := by decide +kernel
theorem dL_run_0 : decode cL_run 0 = .ok (.aload_n 0, 1) := by decide +kernel
theorem dL_run_1 : decode cL_run 1 = .ok (.invokevirtual 151, 3) := by decide +kernel
theorem dL_run_4 : decode cL_run 4 = .ok (.ireturn, 1) := by decide +kernel
theorem dL_run_5 : decode cL_run 5 = .ok (.astore_n 1, 1) := by decide +kernel
theorem dL_run_6 : decode cL_run 6 = .ok (.sipush (-1001), 3) := by decide +kernel
theorem dL_run_9 : decode cL_run 9 = .ok (.ireturn, 1) := by decide +kernel
theorem dL_run_10 : decode cL_run 10 = .ok (.astore_n 1, 1) := by decide +kernel
theorem dL_run_11 : decode cL_run 11 = .ok (.sipush (-1002), 3) := by decide +kernel
theorem dL_run_14 : decode cL_run 14 = .ok (.ireturn, 1) := by decide +kernel
theorem dL_errorPosition_0 : decode cL_errorPosition 0 = .ok (.aload_n 0, 1) := by decide +kernel
theorem dL_errorPosition_1 : decode cL_errorPosition 1 = .ok (.invokevirtual 154, 3) := by decide +kernel
theorem dL_errorPosition_4 : decode cL_errorPosition 4 = .ok (.ireturn, 1) := by decide +kernel
theorem dL_errorPosition_5 : decode cL_errorPosition 5 = .ok (.astore_n 1, 1) := by decide +kernel
theorem dL_errorPosition_6 : decode cL_errorPosition 6 = .ok (.sipush (-1001), 3) := by decide +kernel
theorem dL_errorPosition_9 : decode cL_errorPosition 9 = .ok (.ireturn, 1) := by decide +kernel
theorem dL_failedCommand_0 : decode cL_failedCommand 0 = .ok (.aload_n 0, 1) := by decide +kernel
theorem dL_failedCommand_1 : decode cL_failedCommand 1 = .ok (.invokevirtual 157, 3) := by decide +kernel
theorem dL_failedCommand_4 : decode cL_failedCommand 4 = .ok (.ireturn, 1) := by decide +kernel
theorem dL_failedCommand_5 : decode cL_failedCommand 5 = .ok (.astore_n 1, 1) := by decide +kernel
theorem dL_failedCommand_6 : decode cL_failedCommand 6 = .ok (.sipush (-1001), 3) := by decide +kernel
theorem dL_failedCommand_9 : decode cL_failedCommand 9 = .ok (.ireturn, 1) := by decide +kernel
theorem dL_undo_0 : decode cL_undo 0 = .ok (.aload_n 0, 1) := by decide +kernel
theorem dL_undo_1 : decode cL_undo 1 = .ok (.invokevirtual 160, 3) := by decide +kernel
theorem dL_undo_4 : decode cL_undo 4 = .ok (.ireturn, 1) := by decide +kernel
theorem dL_undo_5 : decode cL_undo 5 = .ok (.astore_n 1, 1) := by decide +kernel
theorem dL_undo_6 : decode cL_undo 6 = .ok (.sipush (-1001), 3) := by decide +kernel
theorem dL_undo_9 : decode cL_undo 9 = .ok (.ireturn, 1) := by decide +kernel
theorem dL_restore_0 : decode cL_restore 0 = .ok (.aload_n 0, 1) := by decide +kernel
theorem dL_restore_1 : decode cL_restore 1 = .ok (.invokevirtual 163, 3) := by decide +kernel
theorem dL_restore_4 : decode cL_restore 4 = .ok (.ireturn, 1) := by decide +kernel
theorem dL_restore_5 : decode cL_restore 5 = .ok (.astore_n 1, 1) := by decide +kernel
theorem dL_restore_6 : decode cL_restore 6 = .ok (.sipush (-1001), 3) := by decide +kernel
theorem dL_restore_9 : decode cL_restore 9 = .ok (.ireturn, 1) := by decide +kernel
theorem dL_balance_0 : decode cL_balance 0 = .ok (.aload_n 0, 1) := by decide +kernel
theorem dL_balance_1 : decode cL_balance 1 = .ok (.iload_n 1, 1) := by decide +kernel
theorem dL_balance_2 : decode cL_balance 2 = .ok (.invokevirtual 166, 3) := by decide +kernel
theorem dL_balance_5 : decode cL_balance 5 = .ok (.ireturn, 1) := by decide +kernel
theorem dL_balance_6 : decode cL_balance 6 = .ok (.astore_n 2, 1) := by decide +kernel
theorem dL_balance_7 : decode cL_balance 7 = .ok (.ldc 169, 2) := by decide +kernel
theorem dL_balance_9 : decode cL_balance 9 = .ok (.ireturn, 1) := by decide +kernel
theorem dL_types_0 : decode cL_types 0 = .ok (.aload_n 0, 1) := by decide +kernel
theorem dL_types_1 : decode cL_types 1 = .ok (.invokevirtual 170, 3) := by decide +kernel
theorem dL_types_4 : decode cL_types 4 = .ok (.ifCond .ge 5, 3) := by decide +kernel
theorem dL_types_7 : decode cL_types 7 = .ok (.iconst 0, 1) := by decide +kernel
theorem dL_types_8 : decode cL_types 8 = .ok (.ireturn, 1) := by decide +kernel
theorem dL_types_9 : decode cL_types 9 = .ok (.iconst 0, 1) := by decide +kernel
theorem dL_types_10 : decode cL_types 10 = .ok (.istore_n 2, 1) := by decide +kernel
theorem dL_types_11 : decode cL_types 11 = .ok (.iload_n 2, 1) := by decide +kernel
theorem dL_types_12 : decode cL_types 12 = .ok (.aload_n 1, 1) := by decide +kernel
theorem dL_types_13 : decode cL_types 13 = .ok (.invokevirtual 173, 3) := by decide +kernel
theorem dL_types_16 : decode cL_types 16 = .ok (.if_icmp .ge 26, 3) := by decide +kernel
theorem dL_types_19 : decode cL_types 19 = .ok (.aload_n 0, 1) := by decide +kernel
theorem dL_types_20 : decode cL_types 20 = .ok (.aload_n 1, 1) := by decide +kernel
theorem dL_types_21 : decode cL_types 21 = .ok (.iload_n 2, 1) := by decide +kernel
theorem dL_types_22 : decode cL_types 22 = .ok (.invokevirtual 178, 3) := by decide +kernel
theorem dL_types_25 : decode cL_types 25 = .ok (.invokestatic 181, 3) := by decide +kernel
theorem dL_types_28 : decode cL_types 28 = .ok (.iload_n 2, 1) := by decide +kernel
theorem dL_types_29 : decode cL_types 29 = .ok (.iconst 1, 1) := by decide +kernel
theorem dL_types_30 : decode cL_types 30 = .ok (.iadd, 1) := by decide +kernel
theorem dL_types_31 : decode cL_types 31 = .ok (.if_icmp .eq 5, 3) := by decide +kernel
theorem dL_types_34 : decode cL_types 34 = .ok (.iconst 0, 1) := by decide +kernel
theorem dL_types_35 : decode cL_types 35 = .ok (.ireturn, 1) := by decide +kernel
theorem dL_types_36 : decode cL_types 36 = .ok (.iinc 2 1, 3) := by decide +kernel
theorem dL_types_39 : decode cL_types 39 = .ok (.goto (-28), 3) := by decide +kernel
theorem dL_types_42 : decode cL_types 42 = .ok (.iconst 1, 1) := by decide +kernel
theorem dL_types_43 : decode cL_types 43 = .ok (.ireturn, 1) := by decide +kernel
theorem dL_files_0 : decode cL_files 0 = .ok (.aload_n 0, 1) := by decide +kernel
theorem dL_files_1 : decode cL_files 1 = .ok (.aload 6, 2) := by decide +kernel
theorem dL_files_3 : decode cL_files 3 = .ok (.invokestatic 186, 3) := by decide +kernel
theorem dL_files_6 : decode cL_files 6 = .ok (.ifCond .eq 17, 3) := by decide +kernel
theorem dL_files_9 : decode cL_files 9 = .ok (.aload_n 0, 1) := by decide +kernel
theorem dL_files_10 : decode cL_files 10 = .ok (.iload_n 1, 1) := by decide +kernel
theorem dL_files_11 : decode cL_files 11 = .ok (.iload_n 2, 1) := by decide +kernel
theorem dL_files_12 : decode cL_files 12 = .ok (.iload_n 3, 1) := by decide +kernel
theorem dL_files_13 : decode cL_files 13 = .ok (.iload 4, 2) := by decide +kernel
theorem dL_files_15 : decode cL_files 15 = .ok (.iload 5, 2) := by decide +kernel
theorem dL_files_17 : decode cL_files 17 = .ok (.invokestatic 190, 3) := by decide +kernel
theorem dL_files_20 : decode cL_files 20 = .ok (.goto 6, 3) := by decide +kernel
theorem dL_files_23 : decode cL_files 23 = .ok (.sipush (-9999), 3) := by decide +kernel
theorem dL_files_26 : decode cL_files 26 = .ok (.ireturn, 1) := by decide +kernel
theorem dL_rules_0 : decode cL_rules 0 = .ok (.aload_n 0, 1) := by decide +kernel
theorem dL_rules_1 : decode cL_rules 1 = .ok (.aload_n 2, 1) := by decide +kernel
theorem dL_rules_2 : decode cL_rules 2 = .ok (.invokestatic 186, 3) := by decide +kernel
theorem dL_rules_5 : decode cL_rules 5 = .ok (.ifCond .eq 11, 3) := by decide +kernel
theorem dL_rules_8 : decode cL_rules 8 = .ok (.aload_n 0, 1) := by decide +kernel
theorem dL_rules_9 : decode cL_rules 9 = .ok (.iload_n 1, 1) := by decide +kernel
theorem dL_rules_10 : decode cL_rules 10 = .ok (.invokestatic 193, 3) := by decide +kernel
theorem dL_rules_13 : decode cL_rules 13 = .ok (.goto 6, 3) := by decide +kernel
theorem dL_rules_16 : decode cL_rules 16 = .ok (.sipush (-9999), 3) := by decide +kernel
theorem dL_rules_19 : decode cL_rules 19 = .ok (.ireturn, 1) := by decide +kernel
theorem dL_runs_0 : decode cL_runs 0 = .ok (.iconst 0, 1) := by decide +kernel
theorem dL_runs_1 : decode cL_runs 1 = .ok (.istore_n 2, 1) := by decide +kernel
theorem dL_runs_2 : decode cL_runs 2 = .ok (.iload_n 2, 1) := by decide +kernel
theorem dL_runs_3 : decode cL_runs 3 = .ok (.aload_n 1, 1) := by decide +kernel
theorem dL_runs_4 : decode cL_runs 4 = .ok (.invokevirtual 173, 3) := by decide +kernel
theorem dL_runs_7 : decode cL_runs 7 = .ok (.if_icmp .ge 28, 3) := by decide +kernel
theorem dL_runs_10 : decode cL_runs 10 = .ok (.aload_n 0, 1) := by decide +kernel
theorem dL_runs_11 : decode cL_runs 11 = .ok (.aload_n 1, 1) := by decide +kernel
theorem dL_runs_12 : decode cL_runs 12 = .ok (.iload_n 2, 1) := by decide +kernel
theorem dL_runs_13 : decode cL_runs 13 = .ok (.invokevirtual 178, 3) := by decide +kernel
theorem dL_runs_16 : decode cL_runs 16 = .ok (.invokestatic 196, 3) := by decide +kernel
theorem dL_runs_19 : decode cL_runs 19 = .ok (.iload_n 2, 1) := by decide +kernel
theorem dL_runs_20 : decode cL_runs 20 = .ok (.iconst 1, 1) := by decide +kernel
theorem dL_runs_21 : decode cL_runs 21 = .ok (.iadd, 1) := by decide +kernel
theorem dL_runs_22 : decode cL_runs 22 = .ok (.if_icmp .eq 7, 3) := by decide +kernel
theorem dL_runs_25 : decode cL_runs 25 = .ok (.sipush (-9999), 3) := by decide +kernel
theorem dL_runs_28 : decode cL_runs 28 = .ok (.ireturn, 1) := by decide +kernel
theorem dL_runs_29 : decode cL_runs 29 = .ok (.iinc 2 1, 3) := by decide +kernel
theorem dL_runs_32 : decode cL_runs 32 = .ok (.goto (-30), 3) := by decide +kernel
theorem dL_runs_35 : decode cL_runs 35 = .ok (.aload_n 0, 1) := by decide +kernel
theorem dL_runs_36 : decode cL_runs 36 = .ok (.invokestatic 198, 3) := by decide +kernel
theorem dL_runs_39 : decode cL_runs 39 = .ok (.ireturn, 1) := by decide +kernel
theorem dL_word_0 : decode cL_word 0 = .ok (.ldc 204, 2) := by decide +kernel
theorem dL_word_2 : decode cL_word 2 = .ok (.astore_n 1, 1) := by decide +kernel
theorem dL_word_3 : decode cL_word 3 = .ok (.iconst 1, 1) := by decide +kernel
theorem dL_word_4 : decode cL_word 4 = .ok (.iload_n 0, 1) := by decide +kernel
theorem dL_word_5 : decode cL_word 5 = .ok (.bipush 9, 2) := by decide +kernel
theorem dL_word_7 : decode cL_word 7 = .ok (.ishr, 1) := by decide +kernel
theorem dL_word_8 : decode cL_word 8 = .ok (.iload_n 0, 1) := by decide +kernel
theorem dL_word_9 : decode cL_word 9 = .ok (.bipush 8, 2) := by decide +kernel
theorem dL_word_11 : decode cL_word 11 = .ok (.ishr, 1) := by decide +kernel
theorem dL_word_12 : decode cL_word 12 = .ok (.iconst 1, 1) := by decide +kernel
theorem dL_word_13 : decode cL_word 13 = .ok (.iand, 1) := by decide +kernel
theorem dL_word_14 : decode cL_word 14 = .ok (.ifCond .ne 7, 3) := by decide +kernel
theorem dL_word_17 : decode cL_word 17 = .ok (.iconst 3, 1) := by decide +kernel
theorem dL_word_18 : decode cL_word 18 = .ok (.goto 5, 3) := by decide +kernel
theorem dL_word_21 : decode cL_word 21 = .ok (.bipush 8, 2) := by decide +kernel
theorem dL_word_23 : decode cL_word 23 = .ok (.invokestatic 206, 3) := by decide +kernel
theorem dL_word_26 : decode cL_word 26 = .ok (.iadd, 1) := by decide +kernel
theorem dL_word_27 : decode cL_word 27 = .ok (.istore_n 2, 1) := by decide +kernel
theorem dL_word_28 : decode cL_word 28 = .ok (.iconst 0, 1) := by decide +kernel
theorem dL_word_29 : decode cL_word 29 = .ok (.istore_n 3, 1) := by decide +kernel
theorem dL_word_30 : decode cL_word 30 = .ok (.iload_n 3, 1) := by decide +kernel
theorem dL_word_31 : decode cL_word 31 = .ok (.iload_n 2, 1) := by decide +kernel
theorem dL_word_32 : decode cL_word 32 = .ok (.if_icmp .ge 40, 3) := by decide +kernel
theorem dL_word_35 : decode cL_word 35 = .ok (.new 209, 3) := by decide +kernel
theorem dL_word_38 : decode cL_word 38 = .ok (.dup, 1) := by decide +kernel
theorem dL_word_39 : decode cL_word 39 = .ok (.invokespecial 211, 3) := by decide +kernel
theorem dL_word_42 : decode cL_word 42 = .ok (.aload_n 1, 1) := by decide +kernel
theorem dL_word_43 : decode cL_word 43 = .ok (.invokevirtual 212, 3) := by decide +kernel
theorem dL_word_46 : decode cL_word 46 = .ok (.bipush 97, 2) := by decide +kernel
theorem dL_word_48 : decode cL_word 48 = .ok (.iload_n 0, 1) := by decide +kernel
theorem dL_word_49 : decode cL_word 49 = .ok (.iconst 2, 1) := by decide +kernel
theorem dL_word_50 : decode cL_word 50 = .ok (.iload_n 3, 1) := by decide +kernel
theorem dL_word_51 : decode cL_word 51 = .ok (.imul, 1) := by decide +kernel
theorem dL_word_52 : decode cL_word 52 = .ok (.ishr, 1) := by decide +kernel
theorem dL_word_53 : decode cL_word 53 = .ok (.iconst 3, 1) := by decide +kernel
theorem dL_word_54 : decode cL_word 54 = .ok (.invokestatic 206, 3) := by decide +kernel
theorem dL_word_57 : decode cL_word 57 = .ok (.iadd, 1) := by decide +kernel
theorem dL_word_58 : decode cL_word 58 = .ok (.i2c, 1) := by decide +kernel
theorem dL_word_59 : decode cL_word 59 = .ok (.invokevirtual 216, 3) := by decide +kernel
theorem dL_word_62 : decode cL_word 62 = .ok (.invokevirtual 219, 3) := by decide +kernel
theorem dL_word_65 : decode cL_word 65 = .ok (.astore_n 1, 1) := by decide +kernel
theorem dL_word_66 : decode cL_word 66 = .ok (.iinc 3 1, 3) := by decide +kernel
theorem dL_word_69 : decode cL_word 69 = .ok (.goto (-39), 3) := by decide +kernel
theorem dL_word_72 : decode cL_word 72 = .ok (.aload_n 1, 1) := by decide +kernel
theorem dL_word_73 : decode cL_word 73 = .ok (.areturn, 1) := by decide +kernel
theorem dL_makes_0 : decode cL_makes 0 = .ok (.iconst 2, 1) := by decide +kernel
theorem dL_makes_1 : decode cL_makes 1 = .ok (.aload_n 1, 1) := by decide +kernel
theorem dL_makes_2 : decode cL_makes 2 = .ok (.iconst 0, 1) := by decide +kernel
theorem dL_makes_3 : decode cL_makes 3 = .ok (.invokestatic 223, 3) := by decide +kernel
theorem dL_makes_6 : decode cL_makes 6 = .ok (.bipush 7, 2) := by decide +kernel
theorem dL_makes_8 : decode cL_makes 8 = .ok (.invokestatic 206, 3) := by decide +kernel
theorem dL_makes_11 : decode cL_makes 11 = .ok (.iadd, 1) := by decide +kernel
theorem dL_makes_12 : decode cL_makes 12 = .ok (.istore_n 2, 1) := by decide +kernel
theorem dL_makes_13 : decode cL_makes 13 = .ok (.iconst 0, 1) := by decide +kernel
theorem dL_makes_14 : decode cL_makes 14 = .ok (.istore_n 3, 1) := by decide +kernel
theorem dL_makes_15 : decode cL_makes 15 = .ok (.iload_n 3, 1) := by decide +kernel
theorem dL_makes_16 : decode cL_makes 16 = .ok (.iload_n 2, 1) := by decide +kernel
theorem dL_makes_17 : decode cL_makes 17 = .ok (.if_icmp .ge 19, 3) := by decide +kernel
theorem dL_makes_20 : decode cL_makes 20 = .ok (.aload_n 0, 1) := by decide +kernel
theorem dL_makes_21 : decode cL_makes 21 = .ok (.invokestatic 227, 3) := by decide +kernel
theorem dL_makes_24 : decode cL_makes 24 = .ok (.iload_n 3, 1) := by decide +kernel
theorem dL_makes_25 : decode cL_makes 25 = .ok (.if_icmp .eq 5, 3) := by decide +kernel
theorem dL_makes_28 : decode cL_makes 28 = .ok (.iconst 0, 1) := by decide +kernel
theorem dL_makes_29 : decode cL_makes 29 = .ok (.ireturn, 1) := by decide +kernel
theorem dL_makes_30 : decode cL_makes 30 = .ok (.iinc 3 1, 3) := by decide +kernel
theorem dL_makes_33 : decode cL_makes 33 = .ok (.goto (-18), 3) := by decide +kernel
theorem dL_makes_36 : decode cL_makes 36 = .ok (.iconst 0, 1) := by decide +kernel
theorem dL_makes_37 : decode cL_makes 37 = .ok (.istore_n 3, 1) := by decide +kernel
theorem dL_makes_38 : decode cL_makes 38 = .ok (.iload_n 3, 1) := by decide +kernel
theorem dL_makes_39 : decode cL_makes 39 = .ok (.bipush 7, 2) := by decide +kernel
theorem dL_makes_41 : decode cL_makes 41 = .ok (.if_icmp .ge 83, 3) := by decide +kernel
theorem dL_makes_44 : decode cL_makes 44 = .ok (.aload_n 1, 1) := by decide +kernel
theorem dL_makes_45 : decode cL_makes 45 = .ok (.iconst 1, 1) := by decide +kernel
theorem dL_makes_46 : decode cL_makes 46 = .ok (.iload_n 3, 1) := by decide +kernel
theorem dL_makes_47 : decode cL_makes 47 = .ok (.iadd, 1) := by decide +kernel
theorem dL_makes_48 : decode cL_makes 48 = .ok (.invokestatic 223, 3) := by decide +kernel
theorem dL_makes_51 : decode cL_makes 51 = .ok (.istore 4, 2) := by decide +kernel
theorem dL_makes_53 : decode cL_makes 53 = .ok (.iload 4, 2) := by decide +kernel
theorem dL_makes_55 : decode cL_makes 55 = .ok (.iload_n 2, 1) := by decide +kernel
theorem dL_makes_56 : decode cL_makes 56 = .ok (.invokestatic 206, 3) := by decide +kernel
theorem dL_makes_59 : decode cL_makes 59 = .ok (.istore 5, 2) := by decide +kernel
theorem dL_makes_61 : decode cL_makes 61 = .ok (.iload 4, 2) := by decide +kernel
theorem dL_makes_63 : decode cL_makes 63 = .ok (.iconst 4, 1) := by decide +kernel
theorem dL_makes_64 : decode cL_makes 64 = .ok (.ishr, 1) := by decide +kernel
theorem dL_makes_65 : decode cL_makes 65 = .ok (.iload_n 2, 1) := by decide +kernel
theorem dL_makes_66 : decode cL_makes 66 = .ok (.invokestatic 206, 3) := by decide +kernel
theorem dL_makes_69 : decode cL_makes 69 = .ok (.istore 6, 2) := by decide +kernel
theorem dL_makes_71 : decode cL_makes 71 = .ok (.aload_n 0, 1) := by decide +kernel
theorem dL_makes_72 : decode cL_makes 72 = .ok (.iload 5, 2) := by decide +kernel
theorem dL_makes_74 : decode cL_makes 74 = .ok (.iload 6, 2) := by decide +kernel
theorem dL_makes_76 : decode cL_makes 76 = .ok (.iconst 1, 1) := by decide +kernel
theorem dL_makes_77 : decode cL_makes 77 = .ok (.iload 4, 2) := by decide +kernel
theorem dL_makes_79 : decode cL_makes 79 = .ok (.bipush 8, 2) := by decide +kernel
theorem dL_makes_81 : decode cL_makes 81 = .ok (.ishr, 1) := by decide +kernel
theorem dL_makes_82 : decode cL_makes 82 = .ok (.bipush 20, 2) := by decide +kernel
theorem dL_makes_84 : decode cL_makes 84 = .ok (.invokestatic 206, 3) := by decide +kernel
theorem dL_makes_87 : decode cL_makes 87 = .ok (.iadd, 1) := by decide +kernel
theorem dL_makes_88 : decode cL_makes 88 = .ok (.invokestatic 229, 3) := by decide +kernel
theorem dL_makes_91 : decode cL_makes 91 = .ok (.istore 7, 2) := by decide +kernel
theorem dL_makes_93 : decode cL_makes 93 = .ok (.iload 5, 2) := by decide +kernel
theorem dL_makes_95 : decode cL_makes 95 = .ok (.iload 6, 2) := by decide +kernel
theorem dL_makes_97 : decode cL_makes 97 = .ok (.if_icmp .ne 14, 3) := by decide +kernel
theorem dL_makes_100 : decode cL_makes 100 = .ok (.iload 7, 2) := by decide +kernel
theorem dL_makes_102 : decode cL_makes 102 = .ok (.sipush (-1002), 3) := by decide +kernel
theorem dL_makes_105 : decode cL_makes 105 = .ok (.if_icmp .eq 13, 3) := by decide +kernel
theorem dL_makes_108 : decode cL_makes 108 = .ok (.goto 8, 3) := by decide +kernel
theorem dL_makes_111 : decode cL_makes 111 = .ok (.iload 7, 2) := by decide +kernel
theorem dL_makes_113 : decode cL_makes 113 = .ok (.ifCond .ge 5, 3) := by decide +kernel
theorem dL_makes_116 : decode cL_makes 116 = .ok (.iconst 0, 1) := by decide +kernel
theorem dL_makes_117 : decode cL_makes 117 = .ok (.ireturn, 1) := by decide +kernel
theorem dL_makes_118 : decode cL_makes 118 = .ok (.iinc 3 1, 3) := by decide +kernel
theorem dL_makes_121 : decode cL_makes 121 = .ok (.goto (-83), 3) := by decide +kernel
theorem dL_makes_124 : decode cL_makes 124 = .ok (.iconst 0, 1) := by decide +kernel
theorem dL_makes_125 : decode cL_makes 125 = .ok (.istore_n 3, 1) := by decide +kernel
theorem dL_makes_126 : decode cL_makes 126 = .ok (.iload_n 3, 1) := by decide +kernel
theorem dL_makes_127 : decode cL_makes 127 = .ok (.iconst 3, 1) := by decide +kernel
theorem dL_makes_128 : decode cL_makes 128 = .ok (.if_icmp .ge 43, 3) := by decide +kernel
theorem dL_makes_131 : decode cL_makes 131 = .ok (.aload_n 0, 1) := by decide +kernel
theorem dL_makes_132 : decode cL_makes 132 = .ok (.aload_n 1, 1) := by decide +kernel
theorem dL_makes_133 : decode cL_makes 133 = .ok (.bipush 8, 2) := by decide +kernel
theorem dL_makes_135 : decode cL_makes 135 = .ok (.iload_n 3, 1) := by decide +kernel
theorem dL_makes_136 : decode cL_makes 136 = .ok (.iadd, 1) := by decide +kernel
theorem dL_makes_137 : decode cL_makes 137 = .ok (.invokestatic 223, 3) := by decide +kernel
theorem dL_makes_140 : decode cL_makes 140 = .ok (.bipush 101, 2) := by decide +kernel
theorem dL_makes_142 : decode cL_makes 142 = .ok (.invokestatic 206, 3) := by decide +kernel
theorem dL_makes_145 : decode cL_makes 145 = .ok (.aload_n 1, 1) := by decide +kernel
theorem dL_makes_146 : decode cL_makes 146 = .ok (.bipush 11, 2) := by decide +kernel
theorem dL_makes_148 : decode cL_makes 148 = .ok (.iload_n 3, 1) := by decide +kernel
theorem dL_makes_149 : decode cL_makes 149 = .ok (.iadd, 1) := by decide +kernel
theorem dL_makes_150 : decode cL_makes 150 = .ok (.invokestatic 223, 3) := by decide +kernel
theorem dL_makes_153 : decode cL_makes 153 = .ok (.invokestatic 232, 3) := by decide +kernel
theorem dL_makes_156 : decode cL_makes 156 = .ok (.invokestatic 236, 3) := by decide +kernel
theorem dL_makes_159 : decode cL_makes 159 = .ok (.iload_n 3, 1) := by decide +kernel
theorem dL_makes_160 : decode cL_makes 160 = .ok (.if_icmp .eq 5, 3) := by decide +kernel
theorem dL_makes_163 : decode cL_makes 163 = .ok (.iconst 0, 1) := by decide +kernel
theorem dL_makes_164 : decode cL_makes 164 = .ok (.ireturn, 1) := by decide +kernel
theorem dL_makes_165 : decode cL_makes 165 = .ok (.iinc 3 1, 3) := by decide +kernel
theorem dL_makes_168 : decode cL_makes 168 = .ok (.goto (-42), 3) := by decide +kernel
theorem dL_makes_171 : decode cL_makes 171 = .ok (.iconst 0, 1) := by decide +kernel
theorem dL_makes_172 : decode cL_makes 172 = .ok (.istore_n 3, 1) := by decide +kernel
theorem dL_makes_173 : decode cL_makes 173 = .ok (.iload_n 3, 1) := by decide +kernel
theorem dL_makes_174 : decode cL_makes 174 = .ok (.iconst 5, 1) := by decide +kernel
theorem dL_makes_175 : decode cL_makes 175 = .ok (.if_icmp .ge 114, 3) := by decide +kernel
theorem dL_makes_178 : decode cL_makes 178 = .ok (.aload_n 1, 1) := by decide +kernel
theorem dL_makes_179 : decode cL_makes 179 = .ok (.bipush 14, 2) := by decide +kernel
theorem dL_makes_181 : decode cL_makes 181 = .ok (.iload_n 3, 1) := by decide +kernel
theorem dL_makes_182 : decode cL_makes 182 = .ok (.iadd, 1) := by decide +kernel
theorem dL_makes_183 : decode cL_makes 183 = .ok (.invokestatic 223, 3) := by decide +kernel
theorem dL_makes_186 : decode cL_makes 186 = .ok (.istore 4, 2) := by decide +kernel
theorem dL_makes_188 : decode cL_makes 188 = .ok (.iload 4, 2) := by decide +kernel
theorem dL_makes_190 : decode cL_makes 190 = .ok (.iload_n 2, 1) := by decide +kernel
theorem dL_makes_191 : decode cL_makes 191 = .ok (.invokestatic 206, 3) := by decide +kernel
theorem dL_makes_194 : decode cL_makes 194 = .ok (.istore 5, 2) := by decide +kernel
theorem dL_makes_196 : decode cL_makes 196 = .ok (.aload_n 0, 1) := by decide +kernel
theorem dL_makes_197 : decode cL_makes 197 = .ok (.iload 5, 2) := by decide +kernel
theorem dL_makes_199 : decode cL_makes 199 = .ok (.iload 5, 2) := by decide +kernel
theorem dL_makes_201 : decode cL_makes 201 = .ok (.iconst 1, 1) := by decide +kernel
theorem dL_makes_202 : decode cL_makes 202 = .ok (.iadd, 1) := by decide +kernel
theorem dL_makes_203 : decode cL_makes 203 = .ok (.iload 4, 2) := by decide +kernel
theorem dL_makes_205 : decode cL_makes 205 = .ok (.iconst 4, 1) := by decide +kernel
theorem dL_makes_206 : decode cL_makes 206 = .ok (.ishr, 1) := by decide +kernel
theorem dL_makes_207 : decode cL_makes 207 = .ok (.iload_n 2, 1) := by decide +kernel
theorem dL_makes_208 : decode cL_makes 208 = .ok (.iconst 1, 1) := by decide +kernel
theorem dL_makes_209 : decode cL_makes 209 = .ok (.isub, 1) := by decide +kernel
theorem dL_makes_210 : decode cL_makes 210 = .ok (.invokestatic 206, 3) := by decide +kernel
theorem dL_makes_213 : decode cL_makes 213 = .ok (.iadd, 1) := by decide +kernel
theorem dL_makes_214 : decode cL_makes 214 = .ok (.iload_n 2, 1) := by decide +kernel
theorem dL_makes_215 : decode cL_makes 215 = .ok (.irem, 1) := by decide +kernel
theorem dL_makes_216 : decode cL_makes 216 = .ok (.iconst 1, 1) := by decide +kernel
theorem dL_makes_217 : decode cL_makes 217 = .ok (.iload 4, 2) := by decide +kernel
theorem dL_makes_219 : decode cL_makes 219 = .ok (.bipush 7, 2) := by decide +kernel
theorem dL_makes_221 : decode cL_makes 221 = .ok (.ishr, 1) := by decide +kernel
theorem dL_makes_222 : decode cL_makes 222 = .ok (.bipush 99, 2) := by decide +kernel
theorem dL_makes_224 : decode cL_makes 224 = .ok (.invokestatic 206, 3) := by decide +kernel
theorem dL_makes_227 : decode cL_makes 227 = .ok (.iadd, 1) := by decide +kernel
theorem dL_makes_228 : decode cL_makes 228 = .ok (.iconst 1, 1) := by decide +kernel
theorem dL_makes_229 : decode cL_makes 229 = .ok (.iload 4, 2) := by decide +kernel
theorem dL_makes_231 : decode cL_makes 231 = .ok (.bipush 10, 2) := by decide +kernel
theorem dL_makes_233 : decode cL_makes 233 = .ok (.ishr, 1) := by decide +kernel
theorem dL_makes_234 : decode cL_makes 234 = .ok (.iconst 5, 1) := by decide +kernel
theorem dL_makes_235 : decode cL_makes 235 = .ok (.invokestatic 206, 3) := by decide +kernel
theorem dL_makes_238 : decode cL_makes 238 = .ok (.iadd, 1) := by decide +kernel
theorem dL_makes_239 : decode cL_makes 239 = .ok (.iload 4, 2) := by decide +kernel
theorem dL_makes_241 : decode cL_makes 241 = .ok (.bipush 12, 2) := by decide +kernel
theorem dL_makes_243 : decode cL_makes 243 = .ok (.ishr, 1) := by decide +kernel
theorem dL_makes_244 : decode cL_makes 244 = .ok (.bipush 25, 2) := by decide +kernel
theorem dL_makes_246 : decode cL_makes 246 = .ok (.invokestatic 206, 3) := by decide +kernel
theorem dL_makes_249 : decode cL_makes 249 = .ok (.iload 4, 2) := by decide +kernel
theorem dL_makes_251 : decode cL_makes 251 = .ok (.invokestatic 232, 3) := by decide +kernel
theorem dL_makes_254 : decode cL_makes 254 = .ok (.invokestatic 240, 3) := by decide +kernel
theorem dL_makes_257 : decode cL_makes 257 = .ok (.iload_n 3, 1) := by decide +kernel
theorem dL_makes_258 : decode cL_makes 258 = .ok (.if_icmp .eq 5, 3) := by decide +kernel
theorem dL_makes_261 : decode cL_makes 261 = .ok (.iconst 0, 1) := by decide +kernel
theorem dL_makes_262 : decode cL_makes 262 = .ok (.ireturn, 1) := by decide +kernel
theorem dL_makes_263 : decode cL_makes 263 = .ok (.iload 4, 2) := by decide +kernel
theorem dL_makes_265 : decode cL_makes 265 = .ok (.bipush 16, 2) := by decide +kernel
theorem dL_makes_267 : decode cL_makes 267 = .ok (.ishr, 1) := by decide +kernel
theorem dL_makes_268 : decode cL_makes 268 = .ok (.iconst 1, 1) := by decide +kernel
theorem dL_makes_269 : decode cL_makes 269 = .ok (.iand, 1) := by decide +kernel
theorem dL_makes_270 : decode cL_makes 270 = .ok (.ifCond .ne 13, 3) := by decide +kernel
theorem dL_makes_273 : decode cL_makes 273 = .ok (.aload_n 0, 1) := by decide +kernel
theorem dL_makes_274 : decode cL_makes 274 = .ok (.iload_n 3, 1) := by decide +kernel
theorem dL_makes_275 : decode cL_makes 275 = .ok (.invokestatic 244, 3) := by decide +kernel
theorem dL_makes_278 : decode cL_makes 278 = .ok (.ifCond .ge 5, 3) := by decide +kernel
theorem dL_makes_281 : decode cL_makes 281 = .ok (.iconst 0, 1) := by decide +kernel
theorem dL_makes_282 : decode cL_makes 282 = .ok (.ireturn, 1) := by decide +kernel
theorem dL_makes_283 : decode cL_makes 283 = .ok (.iinc 3 1, 3) := by decide +kernel
theorem dL_makes_286 : decode cL_makes 286 = .ok (.goto (-113), 3) := by decide +kernel
theorem dL_makes_289 : decode cL_makes 289 = .ok (.iconst 1, 1) := by decide +kernel
theorem dL_makes_290 : decode cL_makes 290 = .ok (.ireturn, 1) := by decide +kernel
theorem dL_asks_0 : decode cL_asks 0 = .ok (.aload_n 0, 1) := by decide +kernel
theorem dL_asks_1 : decode cL_asks 1 = .ok (.invokevirtual 246, 3) := by decide +kernel
theorem dL_asks_4 : decode cL_asks 4 = .ok (.istore_n 1, 1) := by decide +kernel
theorem dL_asks_5 : decode cL_asks 5 = .ok (.ldc2_w 249, 3) := by decide +kernel
theorem dL_asks_8 : decode cL_asks 8 = .ok (.aload_n 0, 1) := by decide +kernel
theorem dL_asks_9 : decode cL_asks 9 = .ok (.invokestatic 251, 3) := by decide +kernel
theorem dL_asks_12 : decode cL_asks 12 = .ok (.invokestatic 254, 3) := by decide +kernel
theorem dL_asks_15 : decode cL_asks 15 = .ok (.lmul, 1) := by decide +kernel
theorem dL_asks_16 : decode cL_asks 16 = .ok (.aload_n 0, 1) := by decide +kernel
theorem dL_asks_17 : decode cL_asks 17 = .ok (.invokestatic 260, 3) := by decide +kernel
theorem dL_asks_20 : decode cL_asks 20 = .ok (.invokestatic 263, 3) := by decide +kernel
theorem dL_asks_23 : decode cL_asks 23 = .ok (.i2l, 1) := by decide +kernel
theorem dL_asks_24 : decode cL_asks 24 = .ok (.ladd, 1) := by decide +kernel
theorem dL_asks_25 : decode cL_asks 25 = .ok (.lstore_n 2, 1) := by decide +kernel
theorem dL_asks_26 : decode cL_asks 26 = .ok (.ldc2_w 249, 3) := by decide +kernel
theorem dL_asks_29 : decode cL_asks 29 = .ok (.ldc2_w 249, 3) := by decide +kernel
theorem dL_asks_32 : decode cL_asks 32 = .ok (.ldc2_w 249, 3) := by decide +kernel
theorem dL_asks_35 : decode cL_asks 35 = .ok (.ldc2_w 249, 3) := by decide +kernel
theorem dL_asks_38 : decode cL_asks 38 = .ok (.ldc2_w 249, 3) := by decide +kernel
theorem dL_asks_41 : decode cL_asks 41 = .ok (.lload_n 2, 1) := by decide +kernel
theorem dL_asks_42 : decode cL_asks 42 = .ok (.lmul, 1) := by decide +kernel
theorem dL_asks_43 : decode cL_asks 43 = .ok (.iload_n 1, 1) := by decide +kernel
theorem dL_asks_44 : decode cL_asks 44 = .ok (.i2l, 1) := by decide +kernel
theorem dL_asks_45 : decode cL_asks 45 = .ok (.ladd, 1) := by decide +kernel
theorem dL_asks_46 : decode cL_asks 46 = .ok (.lmul, 1) := by decide +kernel
theorem dL_asks_47 : decode cL_asks 47 = .ok (.aload_n 0, 1) := by decide +kernel
theorem dL_asks_48 : decode cL_asks 48 = .ok (.invokevirtual 269, 3) := by decide +kernel
theorem dL_asks_51 : decode cL_asks 51 = .ok (.i2l, 1) := by decide +kernel
theorem dL_asks_52 : decode cL_asks 52 = .ok (.ladd, 1) := by decide +kernel
theorem dL_asks_53 : decode cL_asks 53 = .ok (.lmul, 1) := by decide +kernel
theorem dL_asks_54 : decode cL_asks 54 = .ok (.aload_n 0, 1) := by decide +kernel
theorem dL_asks_55 : decode cL_asks 55 = .ok (.invokevirtual 272, 3) := by decide +kernel
theorem dL_asks_58 : decode cL_asks 58 = .ok (.i2l, 1) := by decide +kernel
theorem dL_asks_59 : decode cL_asks 59 = .ok (.ladd, 1) := by decide +kernel
theorem dL_asks_60 : decode cL_asks 60 = .ok (.lmul, 1) := by decide +kernel
theorem dL_asks_61 : decode cL_asks 61 = .ok (.aload_n 0, 1) := by decide +kernel
theorem dL_asks_62 : decode cL_asks 62 = .ok (.invokevirtual 275, 3) := by decide +kernel
theorem dL_asks_65 : decode cL_asks 65 = .ok (.i2l, 1) := by decide +kernel
theorem dL_asks_66 : decode cL_asks 66 = .ok (.ladd, 1) := by decide +kernel
theorem dL_asks_67 : decode cL_asks 67 = .ok (.lmul, 1) := by decide +kernel
theorem dL_asks_68 : decode cL_asks 68 = .ok (.aload_n 0, 1) := by decide +kernel
theorem dL_asks_69 : decode cL_asks 69 = .ok (.invokevirtual 278, 3) := by decide +kernel
theorem dL_asks_72 : decode cL_asks 72 = .ok (.i2l, 1) := by decide +kernel
theorem dL_asks_73 : decode cL_asks 73 = .ok (.ladd, 1) := by decide +kernel
theorem dL_asks_74 : decode cL_asks 74 = .ok (.lstore_n 2, 1) := by decide +kernel
theorem dL_asks_75 : decode cL_asks 75 = .ok (.ldc2_w 249, 3) := by decide +kernel
theorem dL_asks_78 : decode cL_asks 78 = .ok (.ldc2_w 249, 3) := by decide +kernel
theorem dL_asks_81 : decode cL_asks 81 = .ok (.lload_n 2, 1) := by decide +kernel
theorem dL_asks_82 : decode cL_asks 82 = .ok (.lmul, 1) := by decide +kernel
theorem dL_asks_83 : decode cL_asks 83 = .ok (.aload_n 0, 1) := by decide +kernel
theorem dL_asks_84 : decode cL_asks 84 = .ok (.invokevirtual 281, 3) := by decide +kernel
theorem dL_asks_87 : decode cL_asks 87 = .ok (.i2l, 1) := by decide +kernel
theorem dL_asks_88 : decode cL_asks 88 = .ok (.ladd, 1) := by decide +kernel
theorem dL_asks_89 : decode cL_asks 89 = .ok (.lmul, 1) := by decide +kernel
theorem dL_asks_90 : decode cL_asks 90 = .ok (.aload_n 0, 1) := by decide +kernel
theorem dL_asks_91 : decode cL_asks 91 = .ok (.invokevirtual 284, 3) := by decide +kernel
theorem dL_asks_94 : decode cL_asks 94 = .ok (.i2l, 1) := by decide +kernel
theorem dL_asks_95 : decode cL_asks 95 = .ok (.ladd, 1) := by decide +kernel
theorem dL_asks_96 : decode cL_asks 96 = .ok (.lstore_n 2, 1) := by decide +kernel
theorem dL_asks_97 : decode cL_asks 97 = .ok (.iconst 0, 1) := by decide +kernel
theorem dL_asks_98 : decode cL_asks 98 = .ok (.istore 4, 2) := by decide +kernel
theorem dL_asks_100 : decode cL_asks 100 = .ok (.iload 4, 2) := by decide +kernel
theorem dL_asks_102 : decode cL_asks 102 = .ok (.iload_n 1, 1) := by decide +kernel
theorem dL_asks_103 : decode cL_asks 103 = .ok (.if_icmp .ge 61, 3) := by decide +kernel
theorem dL_asks_106 : decode cL_asks 106 = .ok (.aload_n 0, 1) := by decide +kernel
theorem dL_asks_107 : decode cL_asks 107 = .ok (.iload 4, 2) := by decide +kernel
theorem dL_asks_109 : decode cL_asks 109 = .ok (.invokestatic 287, 3) := by decide +kernel
theorem dL_asks_112 : decode cL_asks 112 = .ok (.istore 5, 2) := by decide +kernel
theorem dL_asks_114 : decode cL_asks 114 = .ok (.iconst 0, 1) := by decide +kernel
theorem dL_asks_115 : decode cL_asks 115 = .ok (.istore 6, 2) := by decide +kernel
theorem dL_asks_117 : decode cL_asks 117 = .ok (.iload 6, 2) := by decide +kernel
theorem dL_asks_119 : decode cL_asks 119 = .ok (.iload 5, 2) := by decide +kernel
theorem dL_asks_121 : decode cL_asks 121 = .ok (.if_icmp .ge 23, 3) := by decide +kernel
theorem dL_asks_124 : decode cL_asks 124 = .ok (.ldc2_w 249, 3) := by decide +kernel
theorem dL_asks_127 : decode cL_asks 127 = .ok (.lload_n 2, 1) := by decide +kernel
theorem dL_asks_128 : decode cL_asks 128 = .ok (.lmul, 1) := by decide +kernel
theorem dL_asks_129 : decode cL_asks 129 = .ok (.aload_n 0, 1) := by decide +kernel
theorem dL_asks_130 : decode cL_asks 130 = .ok (.iload 6, 2) := by decide +kernel
theorem dL_asks_132 : decode cL_asks 132 = .ok (.invokestatic 202, 3) := by decide +kernel
theorem dL_asks_135 : decode cL_asks 135 = .ok (.i2l, 1) := by decide +kernel
theorem dL_asks_136 : decode cL_asks 136 = .ok (.ladd, 1) := by decide +kernel
theorem dL_asks_137 : decode cL_asks 137 = .ok (.lstore_n 2, 1) := by decide +kernel
theorem dL_asks_138 : decode cL_asks 138 = .ok (.iinc 6 1, 3) := by decide +kernel
theorem dL_asks_141 : decode cL_asks 141 = .ok (.goto (-24), 3) := by decide +kernel
theorem dL_asks_144 : decode cL_asks 144 = .ok (.ldc2_w 249, 3) := by decide +kernel
theorem dL_asks_147 : decode cL_asks 147 = .ok (.lload_n 2, 1) := by decide +kernel
theorem dL_asks_148 : decode cL_asks 148 = .ok (.lmul, 1) := by decide +kernel
theorem dL_asks_149 : decode cL_asks 149 = .ok (.aload_n 0, 1) := by decide +kernel
theorem dL_asks_150 : decode cL_asks 150 = .ok (.iload 4, 2) := by decide +kernel
theorem dL_asks_152 : decode cL_asks 152 = .ok (.invokestatic 289, 3) := by decide +kernel
theorem dL_asks_155 : decode cL_asks 155 = .ok (.i2l, 1) := by decide +kernel
theorem dL_asks_156 : decode cL_asks 156 = .ok (.ladd, 1) := by decide +kernel
theorem dL_asks_157 : decode cL_asks 157 = .ok (.lstore_n 2, 1) := by decide +kernel
theorem dL_asks_158 : decode cL_asks 158 = .ok (.iinc 4 1, 3) := by decide +kernel
theorem dL_asks_161 : decode cL_asks 161 = .ok (.goto (-61), 3) := by decide +kernel
theorem dL_asks_164 : decode cL_asks 164 = .ok (.iconst 0, 1) := by decide +kernel
theorem dL_asks_165 : decode cL_asks 165 = .ok (.istore 4, 2) := by decide +kernel
theorem dL_asks_167 : decode cL_asks 167 = .ok (.iload 4, 2) := by decide +kernel
theorem dL_asks_169 : decode cL_asks 169 = .ok (.aload_n 0, 1) := by decide +kernel
theorem dL_asks_170 : decode cL_asks 170 = .ok (.invokevirtual 275, 3) := by decide +kernel
theorem dL_asks_173 : decode cL_asks 173 = .ok (.if_icmp .ge 23, 3) := by decide +kernel
theorem dL_asks_176 : decode cL_asks 176 = .ok (.ldc2_w 249, 3) := by decide +kernel
theorem dL_asks_179 : decode cL_asks 179 = .ok (.lload_n 2, 1) := by decide +kernel
theorem dL_asks_180 : decode cL_asks 180 = .ok (.lmul, 1) := by decide +kernel
theorem dL_asks_181 : decode cL_asks 181 = .ok (.aload_n 0, 1) := by decide +kernel
theorem dL_asks_182 : decode cL_asks 182 = .ok (.iload 4, 2) := by decide +kernel
theorem dL_asks_184 : decode cL_asks 184 = .ok (.invokestatic 292, 3) := by decide +kernel
theorem dL_asks_187 : decode cL_asks 187 = .ok (.i2l, 1) := by decide +kernel
theorem dL_asks_188 : decode cL_asks 188 = .ok (.ladd, 1) := by decide +kernel
theorem dL_asks_189 : decode cL_asks 189 = .ok (.lstore_n 2, 1) := by decide +kernel
theorem dL_asks_190 : decode cL_asks 190 = .ok (.iinc 4 1, 3) := by decide +kernel
theorem dL_asks_193 : decode cL_asks 193 = .ok (.goto (-26), 3) := by decide +kernel
theorem dL_asks_196 : decode cL_asks 196 = .ok (.iconst 0, 1) := by decide +kernel
theorem dL_asks_197 : decode cL_asks 197 = .ok (.istore 4, 2) := by decide +kernel
theorem dL_asks_199 : decode cL_asks 199 = .ok (.iload 4, 2) := by decide +kernel
theorem dL_asks_201 : decode cL_asks 201 = .ok (.aload_n 0, 1) := by decide +kernel
theorem dL_asks_202 : decode cL_asks 202 = .ok (.invokevirtual 295, 3) := by decide +kernel
theorem dL_asks_205 : decode cL_asks 205 = .ok (.if_icmp .ge 105, 3) := by decide +kernel
theorem dL_asks_208 : decode cL_asks 208 = .ok (.aload_n 0, 1) := by decide +kernel
theorem dL_asks_209 : decode cL_asks 209 = .ok (.iload 4, 2) := by decide +kernel
theorem dL_asks_211 : decode cL_asks 211 = .ok (.invokestatic 298, 3) := by decide +kernel
theorem dL_asks_214 : decode cL_asks 214 = .ok (.istore 5, 2) := by decide +kernel
theorem dL_asks_216 : decode cL_asks 216 = .ok (.aload_n 0, 1) := by decide +kernel
theorem dL_asks_217 : decode cL_asks 217 = .ok (.iload 5, 2) := by decide +kernel
theorem dL_asks_219 : decode cL_asks 219 = .ok (.invokestatic 300, 3) := by decide +kernel
theorem dL_asks_222 : decode cL_asks 222 = .ok (.istore 6, 2) := by decide +kernel
theorem dL_asks_224 : decode cL_asks 224 = .ok (.iconst 0, 1) := by decide +kernel
theorem dL_asks_225 : decode cL_asks 225 = .ok (.istore 7, 2) := by decide +kernel
theorem dL_asks_227 : decode cL_asks 227 = .ok (.iload 7, 2) := by decide +kernel
theorem dL_asks_229 : decode cL_asks 229 = .ok (.iload 6, 2) := by decide +kernel
theorem dL_asks_231 : decode cL_asks 231 = .ok (.if_icmp .ge 23, 3) := by decide +kernel
theorem dL_asks_234 : decode cL_asks 234 = .ok (.ldc2_w 249, 3) := by decide +kernel
theorem dL_asks_237 : decode cL_asks 237 = .ok (.lload_n 2, 1) := by decide +kernel
theorem dL_asks_238 : decode cL_asks 238 = .ok (.lmul, 1) := by decide +kernel
theorem dL_asks_239 : decode cL_asks 239 = .ok (.aload_n 0, 1) := by decide +kernel
theorem dL_asks_240 : decode cL_asks 240 = .ok (.iload 7, 2) := by decide +kernel
theorem dL_asks_242 : decode cL_asks 242 = .ok (.invokestatic 202, 3) := by decide +kernel
theorem dL_asks_245 : decode cL_asks 245 = .ok (.i2l, 1) := by decide +kernel
theorem dL_asks_246 : decode cL_asks 246 = .ok (.ladd, 1) := by decide +kernel
theorem dL_asks_247 : decode cL_asks 247 = .ok (.lstore_n 2, 1) := by decide +kernel
theorem dL_asks_248 : decode cL_asks 248 = .ok (.iinc 7 1, 3) := by decide +kernel
theorem dL_asks_251 : decode cL_asks 251 = .ok (.goto (-24), 3) := by decide +kernel
theorem dL_asks_254 : decode cL_asks 254 = .ok (.ldc2_w 249, 3) := by decide +kernel
theorem dL_asks_257 : decode cL_asks 257 = .ok (.ldc2_w 249, 3) := by decide +kernel
theorem dL_asks_260 : decode cL_asks 260 = .ok (.ldc2_w 249, 3) := by decide +kernel
theorem dL_asks_263 : decode cL_asks 263 = .ok (.ldc2_w 249, 3) := by decide +kernel
theorem dL_asks_266 : decode cL_asks 266 = .ok (.lload_n 2, 1) := by decide +kernel
theorem dL_asks_267 : decode cL_asks 267 = .ok (.lmul, 1) := by decide +kernel
theorem dL_asks_268 : decode cL_asks 268 = .ok (.aload_n 0, 1) := by decide +kernel
theorem dL_asks_269 : decode cL_asks 269 = .ok (.iload 4, 2) := by decide +kernel
theorem dL_asks_271 : decode cL_asks 271 = .ok (.invokestatic 302, 3) := by decide +kernel
theorem dL_asks_274 : decode cL_asks 274 = .ok (.i2l, 1) := by decide +kernel
theorem dL_asks_275 : decode cL_asks 275 = .ok (.ladd, 1) := by decide +kernel
theorem dL_asks_276 : decode cL_asks 276 = .ok (.lmul, 1) := by decide +kernel
theorem dL_asks_277 : decode cL_asks 277 = .ok (.aload_n 0, 1) := by decide +kernel
theorem dL_asks_278 : decode cL_asks 278 = .ok (.iload 5, 2) := by decide +kernel
theorem dL_asks_280 : decode cL_asks 280 = .ok (.invokestatic 305, 3) := by decide +kernel
theorem dL_asks_283 : decode cL_asks 283 = .ok (.i2l, 1) := by decide +kernel
theorem dL_asks_284 : decode cL_asks 284 = .ok (.ladd, 1) := by decide +kernel
theorem dL_asks_285 : decode cL_asks 285 = .ok (.lmul, 1) := by decide +kernel
theorem dL_asks_286 : decode cL_asks 286 = .ok (.aload_n 0, 1) := by decide +kernel
theorem dL_asks_287 : decode cL_asks 287 = .ok (.iload 5, 2) := by decide +kernel
theorem dL_asks_289 : decode cL_asks 289 = .ok (.invokestatic 308, 3) := by decide +kernel
theorem dL_asks_292 : decode cL_asks 292 = .ok (.i2l, 1) := by decide +kernel
theorem dL_asks_293 : decode cL_asks 293 = .ok (.ladd, 1) := by decide +kernel
theorem dL_asks_294 : decode cL_asks 294 = .ok (.lmul, 1) := by decide +kernel
theorem dL_asks_295 : decode cL_asks 295 = .ok (.aload_n 0, 1) := by decide +kernel
theorem dL_asks_296 : decode cL_asks 296 = .ok (.iload 5, 2) := by decide +kernel
theorem dL_asks_298 : decode cL_asks 298 = .ok (.invokestatic 310, 3) := by decide +kernel
theorem dL_asks_301 : decode cL_asks 301 = .ok (.i2l, 1) := by decide +kernel
theorem dL_asks_302 : decode cL_asks 302 = .ok (.ladd, 1) := by decide +kernel
theorem dL_asks_303 : decode cL_asks 303 = .ok (.lstore_n 2, 1) := by decide +kernel
theorem dL_asks_304 : decode cL_asks 304 = .ok (.iinc 4 1, 3) := by decide +kernel
theorem dL_asks_307 : decode cL_asks 307 = .ok (.goto (-108), 3) := by decide +kernel
theorem dL_asks_310 : decode cL_asks 310 = .ok (.lload_n 2, 1) := by decide +kernel
theorem dL_asks_311 : decode cL_asks 311 = .ok (.lreturn, 1) := by decide +kernel
theorem dL_changes_0 : decode cL_changes 0 = .ok (.iload_n 1, 1) := by decide +kernel
theorem dL_changes_1 : decode cL_changes 1 = .ok (.iconst 4, 1) := by decide +kernel
theorem dL_changes_2 : decode cL_changes 2 = .ok (.ishr, 1) := by decide +kernel
theorem dL_changes_3 : decode cL_changes 3 = .ok (.bipush 9, 2) := by decide +kernel
theorem dL_changes_5 : decode cL_changes 5 = .ok (.invokestatic 206, 3) := by decide +kernel
theorem dL_changes_8 : decode cL_changes 8 = .ok (.istore_n 2, 1) := by decide +kernel
theorem dL_changes_9 : decode cL_changes 9 = .ok (.iload_n 1, 1) := by decide +kernel
theorem dL_changes_10 : decode cL_changes 10 = .ok (.bipush 7, 2) := by decide +kernel
theorem dL_changes_12 : decode cL_changes 12 = .ok (.ishr, 1) := by decide +kernel
theorem dL_changes_13 : decode cL_changes 13 = .ok (.bipush 9, 2) := by decide +kernel
theorem dL_changes_15 : decode cL_changes 15 = .ok (.invokestatic 206, 3) := by decide +kernel
theorem dL_changes_18 : decode cL_changes 18 = .ok (.istore_n 3, 1) := by decide +kernel
theorem dL_changes_19 : decode cL_changes 19 = .ok (.iload_n 1, 1) := by decide +kernel
theorem dL_changes_20 : decode cL_changes 20 = .ok (.iconst 5, 1) := by decide +kernel
theorem dL_changes_21 : decode cL_changes 21 = .ok (.ishr, 1) := by decide +kernel
theorem dL_changes_22 : decode cL_changes 22 = .ok (.bipush 9, 2) := by decide +kernel
theorem dL_changes_24 : decode cL_changes 24 = .ok (.invokestatic 206, 3) := by decide +kernel
theorem dL_changes_27 : decode cL_changes 27 = .ok (.istore 4, 2) := by decide +kernel
theorem dL_changes_29 : decode cL_changes 29 = .ok (.iload_n 1, 1) := by decide +kernel
theorem dL_changes_30 : decode cL_changes 30 = .ok (.bipush 26, 2) := by decide +kernel
theorem dL_changes_32 : decode cL_changes 32 = .ok (.invokestatic 206, 3) := by decide +kernel
theorem dL_changes_35 : decode cL_changes 35 = .ok (.tableswitch 386 0 22 #[105, 118, 118, 118, 142, 142, 157, 157, 182, 182, 182, 228, 228, 228, 243, 243, 243, 258, 273, 288, 288, 312, 312], 105) := by decide +kernel
theorem dL_changes_140 : decode cL_changes 140 = .ok (.aload_n 0, 1) := by decide +kernel
theorem dL_changes_141 : decode cL_changes 141 = .ok (.invokestatic 227, 3) := by decide +kernel
theorem dL_changes_144 : decode cL_changes 144 = .ok (.ifCond .lt 7, 3) := by decide +kernel
theorem dL_changes_147 : decode cL_changes 147 = .ok (.iconst 1, 1) := by decide +kernel
theorem dL_changes_148 : decode cL_changes 148 = .ok (.goto 4, 3) := by decide +kernel
theorem dL_changes_151 : decode cL_changes 151 = .ok (.iconst 0, 1) := by decide +kernel
theorem dL_changes_152 : decode cL_changes 152 = .ok (.ireturn, 1) := by decide +kernel
theorem dL_changes_153 : decode cL_changes 153 = .ok (.aload_n 0, 1) := by decide +kernel
theorem dL_changes_154 : decode cL_changes 154 = .ok (.iload_n 2, 1) := by decide +kernel
theorem dL_changes_155 : decode cL_changes 155 = .ok (.iload_n 3, 1) := by decide +kernel
theorem dL_changes_156 : decode cL_changes 156 = .ok (.iload_n 1, 1) := by decide +kernel
theorem dL_changes_157 : decode cL_changes 157 = .ok (.bipush 10, 2) := by decide +kernel
theorem dL_changes_159 : decode cL_changes 159 = .ok (.ishr, 1) := by decide +kernel
theorem dL_changes_160 : decode cL_changes 160 = .ok (.bipush 22, 2) := by decide +kernel
theorem dL_changes_162 : decode cL_changes 162 = .ok (.invokestatic 206, 3) := by decide +kernel
theorem dL_changes_165 : decode cL_changes 165 = .ok (.invokestatic 229, 3) := by decide +kernel
theorem dL_changes_168 : decode cL_changes 168 = .ok (.ifCond .lt 7, 3) := by decide +kernel
theorem dL_changes_171 : decode cL_changes 171 = .ok (.iconst 1, 1) := by decide +kernel
theorem dL_changes_172 : decode cL_changes 172 = .ok (.goto 4, 3) := by decide +kernel
theorem dL_changes_175 : decode cL_changes 175 = .ok (.iconst 0, 1) := by decide +kernel
theorem dL_changes_176 : decode cL_changes 176 = .ok (.ireturn, 1) := by decide +kernel
theorem dL_changes_177 : decode cL_changes 177 = .ok (.aload_n 0, 1) := by decide +kernel
theorem dL_changes_178 : decode cL_changes 178 = .ok (.iload_n 2, 1) := by decide +kernel
theorem dL_changes_179 : decode cL_changes 179 = .ok (.iload_n 3, 1) := by decide +kernel
theorem dL_changes_180 : decode cL_changes 180 = .ok (.invokestatic 312, 3) := by decide +kernel
theorem dL_changes_183 : decode cL_changes 183 = .ok (.ifCond .lt 7, 3) := by decide +kernel
theorem dL_changes_186 : decode cL_changes 186 = .ok (.iconst 1, 1) := by decide +kernel
theorem dL_changes_187 : decode cL_changes 187 = .ok (.goto 4, 3) := by decide +kernel
theorem dL_changes_190 : decode cL_changes 190 = .ok (.iconst 0, 1) := by decide +kernel
theorem dL_changes_191 : decode cL_changes 191 = .ok (.ireturn, 1) := by decide +kernel
theorem dL_changes_192 : decode cL_changes 192 = .ok (.aload_n 0, 1) := by decide +kernel
theorem dL_changes_193 : decode cL_changes 193 = .ok (.iload_n 1, 1) := by decide +kernel
theorem dL_changes_194 : decode cL_changes 194 = .ok (.iconst 4, 1) := by decide +kernel
theorem dL_changes_195 : decode cL_changes 195 = .ok (.ishr, 1) := by decide +kernel
theorem dL_changes_196 : decode cL_changes 196 = .ok (.bipush 102, 2) := by decide +kernel
theorem dL_changes_198 : decode cL_changes 198 = .ok (.invokestatic 206, 3) := by decide +kernel
theorem dL_changes_201 : decode cL_changes 201 = .ok (.iload_n 1, 1) := by decide +kernel
theorem dL_changes_202 : decode cL_changes 202 = .ok (.invokestatic 232, 3) := by decide +kernel
theorem dL_changes_205 : decode cL_changes 205 = .ok (.invokestatic 236, 3) := by decide +kernel
theorem dL_changes_208 : decode cL_changes 208 = .ok (.ifCond .lt 7, 3) := by decide +kernel
theorem dL_changes_211 : decode cL_changes 211 = .ok (.iconst 1, 1) := by decide +kernel
theorem dL_changes_212 : decode cL_changes 212 = .ok (.goto 4, 3) := by decide +kernel
theorem dL_changes_215 : decode cL_changes 215 = .ok (.iconst 0, 1) := by decide +kernel
theorem dL_changes_216 : decode cL_changes 216 = .ok (.ireturn, 1) := by decide +kernel
theorem dL_changes_217 : decode cL_changes 217 = .ok (.aload_n 0, 1) := by decide +kernel
theorem dL_changes_218 : decode cL_changes 218 = .ok (.iload_n 2, 1) := by decide +kernel
theorem dL_changes_219 : decode cL_changes 219 = .ok (.iload_n 3, 1) := by decide +kernel
theorem dL_changes_220 : decode cL_changes 220 = .ok (.iload_n 1, 1) := by decide +kernel
theorem dL_changes_221 : decode cL_changes 221 = .ok (.bipush 9, 2) := by decide +kernel
theorem dL_changes_223 : decode cL_changes 223 = .ok (.ishr, 1) := by decide +kernel
theorem dL_changes_224 : decode cL_changes 224 = .ok (.bipush 101, 2) := by decide +kernel
theorem dL_changes_226 : decode cL_changes 226 = .ok (.invokestatic 206, 3) := by decide +kernel
theorem dL_changes_229 : decode cL_changes 229 = .ok (.iload_n 1, 1) := by decide +kernel
theorem dL_changes_230 : decode cL_changes 230 = .ok (.bipush 10, 2) := by decide +kernel
theorem dL_changes_232 : decode cL_changes 232 = .ok (.ishr, 1) := by decide +kernel
theorem dL_changes_233 : decode cL_changes 233 = .ok (.bipush 7, 2) := by decide +kernel
theorem dL_changes_235 : decode cL_changes 235 = .ok (.invokestatic 206, 3) := by decide +kernel
theorem dL_changes_238 : decode cL_changes 238 = .ok (.iload_n 1, 1) := by decide +kernel
theorem dL_changes_239 : decode cL_changes 239 = .ok (.bipush 11, 2) := by decide +kernel
theorem dL_changes_241 : decode cL_changes 241 = .ok (.ishr, 1) := by decide +kernel
theorem dL_changes_242 : decode cL_changes 242 = .ok (.bipush 40, 2) := by decide +kernel
theorem dL_changes_244 : decode cL_changes 244 = .ok (.invokestatic 206, 3) := by decide +kernel
theorem dL_changes_247 : decode cL_changes 247 = .ok (.iload_n 1, 1) := by decide +kernel
theorem dL_changes_248 : decode cL_changes 248 = .ok (.invokestatic 232, 3) := by decide +kernel
theorem dL_changes_251 : decode cL_changes 251 = .ok (.invokestatic 240, 3) := by decide +kernel
theorem dL_changes_254 : decode cL_changes 254 = .ok (.ifCond .lt 7, 3) := by decide +kernel
theorem dL_changes_257 : decode cL_changes 257 = .ok (.iconst 1, 1) := by decide +kernel
theorem dL_changes_258 : decode cL_changes 258 = .ok (.goto 4, 3) := by decide +kernel
theorem dL_changes_261 : decode cL_changes 261 = .ok (.iconst 0, 1) := by decide +kernel
theorem dL_changes_262 : decode cL_changes 262 = .ok (.ireturn, 1) := by decide +kernel
theorem dL_changes_263 : decode cL_changes 263 = .ok (.aload_n 0, 1) := by decide +kernel
theorem dL_changes_264 : decode cL_changes 264 = .ok (.iload 4, 2) := by decide +kernel
theorem dL_changes_266 : decode cL_changes 266 = .ok (.invokestatic 244, 3) := by decide +kernel
theorem dL_changes_269 : decode cL_changes 269 = .ok (.ifCond .lt 7, 3) := by decide +kernel
theorem dL_changes_272 : decode cL_changes 272 = .ok (.iconst 1, 1) := by decide +kernel
theorem dL_changes_273 : decode cL_changes 273 = .ok (.goto 4, 3) := by decide +kernel
theorem dL_changes_276 : decode cL_changes 276 = .ok (.iconst 0, 1) := by decide +kernel
theorem dL_changes_277 : decode cL_changes 277 = .ok (.ireturn, 1) := by decide +kernel
theorem dL_changes_278 : decode cL_changes 278 = .ok (.aload_n 0, 1) := by decide +kernel
theorem dL_changes_279 : decode cL_changes 279 = .ok (.iload 4, 2) := by decide +kernel
theorem dL_changes_281 : decode cL_changes 281 = .ok (.invokestatic 315, 3) := by decide +kernel
theorem dL_changes_284 : decode cL_changes 284 = .ok (.ifCond .lt 7, 3) := by decide +kernel
theorem dL_changes_287 : decode cL_changes 287 = .ok (.iconst 1, 1) := by decide +kernel
theorem dL_changes_288 : decode cL_changes 288 = .ok (.goto 4, 3) := by decide +kernel
theorem dL_changes_291 : decode cL_changes 291 = .ok (.iconst 0, 1) := by decide +kernel
theorem dL_changes_292 : decode cL_changes 292 = .ok (.ireturn, 1) := by decide +kernel
theorem dL_changes_293 : decode cL_changes 293 = .ok (.aload_n 0, 1) := by decide +kernel
theorem dL_changes_294 : decode cL_changes 294 = .ok (.iload 4, 2) := by decide +kernel
theorem dL_changes_296 : decode cL_changes 296 = .ok (.invokestatic 317, 3) := by decide +kernel
theorem dL_changes_299 : decode cL_changes 299 = .ok (.ifCond .lt 7, 3) := by decide +kernel
theorem dL_changes_302 : decode cL_changes 302 = .ok (.iconst 1, 1) := by decide +kernel
theorem dL_changes_303 : decode cL_changes 303 = .ok (.goto 4, 3) := by decide +kernel
theorem dL_changes_306 : decode cL_changes 306 = .ok (.iconst 0, 1) := by decide +kernel
theorem dL_changes_307 : decode cL_changes 307 = .ok (.ireturn, 1) := by decide +kernel
theorem dL_changes_308 : decode cL_changes 308 = .ok (.aload_n 0, 1) := by decide +kernel
theorem dL_changes_309 : decode cL_changes 309 = .ok (.iload 4, 2) := by decide +kernel
theorem dL_changes_311 : decode cL_changes 311 = .ok (.invokestatic 319, 3) := by decide +kernel
theorem dL_changes_314 : decode cL_changes 314 = .ok (.ifCond .lt 7, 3) := by decide +kernel
theorem dL_changes_317 : decode cL_changes 317 = .ok (.iconst 1, 1) := by decide +kernel
theorem dL_changes_318 : decode cL_changes 318 = .ok (.goto 4, 3) := by decide +kernel
theorem dL_changes_321 : decode cL_changes 321 = .ok (.iconst 0, 1) := by decide +kernel
theorem dL_changes_322 : decode cL_changes 322 = .ok (.ireturn, 1) := by decide +kernel
theorem dL_changes_323 : decode cL_changes 323 = .ok (.aload_n 0, 1) := by decide +kernel
theorem dL_changes_324 : decode cL_changes 324 = .ok (.iload_n 2, 1) := by decide +kernel
theorem dL_changes_325 : decode cL_changes 325 = .ok (.iload_n 3, 1) := by decide +kernel
theorem dL_changes_326 : decode cL_changes 326 = .ok (.iload_n 1, 1) := by decide +kernel
theorem dL_changes_327 : decode cL_changes 327 = .ok (.bipush 10, 2) := by decide +kernel
theorem dL_changes_329 : decode cL_changes 329 = .ok (.ishr, 1) := by decide +kernel
theorem dL_changes_330 : decode cL_changes 330 = .ok (.bipush 30, 2) := by decide +kernel
theorem dL_changes_332 : decode cL_changes 332 = .ok (.invokestatic 206, 3) := by decide +kernel
theorem dL_changes_335 : decode cL_changes 335 = .ok (.invokestatic 321, 3) := by decide +kernel
theorem dL_changes_338 : decode cL_changes 338 = .ok (.ifCond .lt 7, 3) := by decide +kernel
theorem dL_changes_341 : decode cL_changes 341 = .ok (.iconst 1, 1) := by decide +kernel
theorem dL_changes_342 : decode cL_changes 342 = .ok (.goto 4, 3) := by decide +kernel
theorem dL_changes_345 : decode cL_changes 345 = .ok (.iconst 0, 1) := by decide +kernel
theorem dL_changes_346 : decode cL_changes 346 = .ok (.ireturn, 1) := by decide +kernel
theorem dL_changes_347 : decode cL_changes 347 = .ok (.aload_n 0, 1) := by decide +kernel
theorem dL_changes_348 : decode cL_changes 348 = .ok (.iload_n 1, 1) := by decide +kernel
theorem dL_changes_349 : decode cL_changes 349 = .ok (.bipush 6, 2) := by decide +kernel
theorem dL_changes_351 : decode cL_changes 351 = .ok (.ishr, 1) := by decide +kernel
theorem dL_changes_352 : decode cL_changes 352 = .ok (.iconst 1, 1) := by decide +kernel
theorem dL_changes_353 : decode cL_changes 353 = .ok (.iand, 1) := by decide +kernel
theorem dL_changes_354 : decode cL_changes 354 = .ok (.ifCond .ne 27, 3) := by decide +kernel
theorem dL_changes_357 : decode cL_changes 357 = .ok (.new 209, 3) := by decide +kernel
theorem dL_changes_360 : decode cL_changes 360 = .ok (.dup, 1) := by decide +kernel
theorem dL_changes_361 : decode cL_changes 361 = .ok (.invokespecial 211, 3) := by decide +kernel
theorem dL_changes_364 : decode cL_changes 364 = .ok (.ldc_w 323, 3) := by decide +kernel
theorem dL_changes_367 : decode cL_changes 367 = .ok (.invokevirtual 212, 3) := by decide +kernel
theorem dL_changes_370 : decode cL_changes 370 = .ok (.iload 4, 2) := by decide +kernel
theorem dL_changes_372 : decode cL_changes 372 = .ok (.invokevirtual 325, 3) := by decide +kernel
theorem dL_changes_375 : decode cL_changes 375 = .ok (.invokevirtual 219, 3) := by decide +kernel
theorem dL_changes_378 : decode cL_changes 378 = .ok (.goto 31, 3) := by decide +kernel
theorem dL_changes_381 : decode cL_changes 381 = .ok (.new 209, 3) := by decide +kernel
theorem dL_changes_384 : decode cL_changes 384 = .ok (.dup, 1) := by decide +kernel
theorem dL_changes_385 : decode cL_changes 385 = .ok (.invokespecial 211, 3) := by decide +kernel
theorem dL_changes_388 : decode cL_changes 388 = .ok (.ldc_w 328, 3) := by decide +kernel
theorem dL_changes_391 : decode cL_changes 391 = .ok (.invokevirtual 212, 3) := by decide +kernel
theorem dL_changes_394 : decode cL_changes 394 = .ok (.iload_n 1, 1) := by decide +kernel
theorem dL_changes_395 : decode cL_changes 395 = .ok (.bipush 8, 2) := by decide +kernel
theorem dL_changes_397 : decode cL_changes 397 = .ok (.ishr, 1) := by decide +kernel
theorem dL_changes_398 : decode cL_changes 398 = .ok (.bipush 22, 2) := by decide +kernel
theorem dL_changes_400 : decode cL_changes 400 = .ok (.invokestatic 206, 3) := by decide +kernel
theorem dL_changes_403 : decode cL_changes 403 = .ok (.invokevirtual 325, 3) := by decide +kernel
theorem dL_changes_406 : decode cL_changes 406 = .ok (.invokevirtual 219, 3) := by decide +kernel
theorem dL_changes_409 : decode cL_changes 409 = .ok (.invokestatic 330, 3) := by decide +kernel
theorem dL_changes_412 : decode cL_changes 412 = .ok (.ifCond .lt 7, 3) := by decide +kernel
theorem dL_changes_415 : decode cL_changes 415 = .ok (.iconst 1, 1) := by decide +kernel
theorem dL_changes_416 : decode cL_changes 416 = .ok (.goto 4, 3) := by decide +kernel
theorem dL_changes_419 : decode cL_changes 419 = .ok (.iconst 0, 1) := by decide +kernel
theorem dL_changes_420 : decode cL_changes 420 = .ok (.ireturn, 1) := by decide +kernel
theorem dL_changes_421 : decode cL_changes 421 = .ok (.aload_n 0, 1) := by decide +kernel
theorem dL_changes_422 : decode cL_changes 422 = .ok (.iload_n 1, 1) := by decide +kernel
theorem dL_changes_423 : decode cL_changes 423 = .ok (.iconst 4, 1) := by decide +kernel
theorem dL_changes_424 : decode cL_changes 424 = .ok (.ishr, 1) := by decide +kernel
theorem dL_changes_425 : decode cL_changes 425 = .ok (.bipush 101, 2) := by decide +kernel
theorem dL_changes_427 : decode cL_changes 427 = .ok (.invokestatic 206, 3) := by decide +kernel
theorem dL_changes_430 : decode cL_changes 430 = .ok (.invokestatic 334, 3) := by decide +kernel
theorem dL_changes_433 : decode cL_changes 433 = .ok (.ifCond .lt 7, 3) := by decide +kernel
theorem dL_changes_436 : decode cL_changes 436 = .ok (.iconst 1, 1) := by decide +kernel
theorem dL_changes_437 : decode cL_changes 437 = .ok (.goto 4, 3) := by decide +kernel
theorem dL_changes_440 : decode cL_changes 440 = .ok (.iconst 0, 1) := by decide +kernel
theorem dL_changes_441 : decode cL_changes 441 = .ok (.ireturn, 1) := by decide +kernel
theorem dL_thrown_0 : decode cL_thrown 0 = .ok (.aload_n 0, 1) := by decide +kernel
theorem dL_thrown_1 : decode cL_thrown 1 = .ok (.ldc_w 336, 3) := by decide +kernel
theorem dL_thrown_4 : decode cL_thrown 4 = .ok (.invokestatic 186, 3) := by decide +kernel
theorem dL_thrown_7 : decode cL_thrown 7 = .ok (.ifCond .ne 5, 3) := by decide +kernel
theorem dL_thrown_10 : decode cL_thrown 10 = .ok (.iconst 0, 1) := by decide +kernel
theorem dL_thrown_11 : decode cL_thrown 11 = .ok (.ireturn, 1) := by decide +kernel
theorem dL_thrown_12 : decode cL_thrown 12 = .ok (.aload_n 0, 1) := by decide +kernel
theorem dL_thrown_13 : decode cL_thrown 13 = .ok (.invokestatic 338, 3) := by decide +kernel
theorem dL_thrown_16 : decode cL_thrown 16 = .ok (.lstore_n 1, 1) := by decide +kernel
theorem dL_thrown_17 : decode cL_thrown 17 = .ok (.aload_n 0, 1) := by decide +kernel
theorem dL_thrown_18 : decode cL_thrown 18 = .ok (.invokevirtual 246, 3) := by decide +kernel
theorem dL_thrown_21 : decode cL_thrown 21 = .ok (.istore_n 3, 1) := by decide +kernel
theorem dL_thrown_22 : decode cL_thrown 22 = .ok (.aload_n 0, 1) := by decide +kernel
theorem dL_thrown_23 : decode cL_thrown 23 = .ok (.invokevirtual 275, 3) := by decide +kernel
theorem dL_thrown_26 : decode cL_thrown 26 = .ok (.istore 4, 2) := by decide +kernel
theorem dL_thrown_28 : decode cL_thrown 28 = .ok (.aload_n 0, 1) := by decide +kernel
theorem dL_thrown_29 : decode cL_thrown 29 = .ok (.invokevirtual 272, 3) := by decide +kernel
theorem dL_thrown_32 : decode cL_thrown 32 = .ok (.istore 5, 2) := by decide +kernel
theorem dL_thrown_34 : decode cL_thrown 34 = .ok (.iload_n 3, 1) := by decide +kernel
theorem dL_thrown_35 : decode cL_thrown 35 = .ok (.bipush 8, 2) := by decide +kernel
theorem dL_thrown_37 : decode cL_thrown 37 = .ok (.if_icmp .lt 13, 3) := by decide +kernel
theorem dL_thrown_40 : decode cL_thrown 40 = .ok (.aload_n 0, 1) := by decide +kernel
theorem dL_thrown_41 : decode cL_thrown 41 = .ok (.invokestatic 227, 3) := by decide +kernel
theorem dL_thrown_44 : decode cL_thrown 44 = .ok (.sipush (-1001), 3) := by decide +kernel
theorem dL_thrown_47 : decode cL_thrown 47 = .ok (.if_icmp .ne 429, 3) := by decide +kernel
theorem dL_thrown_50 : decode cL_thrown 50 = .ok (.aload_n 0, 1) := by decide +kernel
theorem dL_thrown_51 : decode cL_thrown 51 = .ok (.iload_n 3, 1) := by decide +kernel
theorem dL_thrown_52 : decode cL_thrown 52 = .ok (.iload_n 3, 1) := by decide +kernel
theorem dL_thrown_53 : decode cL_thrown 53 = .ok (.iconst 0, 1) := by decide +kernel
theorem dL_thrown_54 : decode cL_thrown 54 = .ok (.invokestatic 229, 3) := by decide +kernel
theorem dL_thrown_57 : decode cL_thrown 57 = .ok (.sipush (-1001), 3) := by decide +kernel
theorem dL_thrown_60 : decode cL_thrown 60 = .ok (.if_icmp .ne 416, 3) := by decide +kernel
theorem dL_thrown_63 : decode cL_thrown 63 = .ok (.aload_n 0, 1) := by decide +kernel
theorem dL_thrown_64 : decode cL_thrown 64 = .ok (.iconst 0, 1) := by decide +kernel
theorem dL_thrown_65 : decode cL_thrown 65 = .ok (.iconst (-1), 1) := by decide +kernel
theorem dL_thrown_66 : decode cL_thrown 66 = .ok (.iconst 5, 1) := by decide +kernel
theorem dL_thrown_67 : decode cL_thrown 67 = .ok (.invokestatic 229, 3) := by decide +kernel
theorem dL_thrown_70 : decode cL_thrown 70 = .ok (.sipush (-1001), 3) := by decide +kernel
theorem dL_thrown_73 : decode cL_thrown 73 = .ok (.if_icmp .ne 403, 3) := by decide +kernel
theorem dL_thrown_76 : decode cL_thrown 76 = .ok (.aload_n 0, 1) := by decide +kernel
theorem dL_thrown_77 : decode cL_thrown 77 = .ok (.iconst 0, 1) := by decide +kernel
theorem dL_thrown_78 : decode cL_thrown 78 = .ok (.iconst 0, 1) := by decide +kernel
theorem dL_thrown_79 : decode cL_thrown 79 = .ok (.iconst 5, 1) := by decide +kernel
theorem dL_thrown_80 : decode cL_thrown 80 = .ok (.invokestatic 229, 3) := by decide +kernel
theorem dL_thrown_83 : decode cL_thrown 83 = .ok (.sipush (-1002), 3) := by decide +kernel
theorem dL_thrown_86 : decode cL_thrown 86 = .ok (.if_icmp .ne 390, 3) := by decide +kernel
theorem dL_thrown_89 : decode cL_thrown 89 = .ok (.aload_n 0, 1) := by decide +kernel
theorem dL_thrown_90 : decode cL_thrown 90 = .ok (.iconst 0, 1) := by decide +kernel
theorem dL_thrown_91 : decode cL_thrown 91 = .ok (.iconst 1, 1) := by decide +kernel
theorem dL_thrown_92 : decode cL_thrown 92 = .ok (.iconst 0, 1) := by decide +kernel
theorem dL_thrown_93 : decode cL_thrown 93 = .ok (.invokestatic 229, 3) := by decide +kernel
theorem dL_thrown_96 : decode cL_thrown 96 = .ok (.sipush (-1002), 3) := by decide +kernel
theorem dL_thrown_99 : decode cL_thrown 99 = .ok (.if_icmp .ne 377, 3) := by decide +kernel
theorem dL_thrown_102 : decode cL_thrown 102 = .ok (.aload_n 0, 1) := by decide +kernel
theorem dL_thrown_103 : decode cL_thrown 103 = .ok (.iconst 0, 1) := by decide +kernel
theorem dL_thrown_104 : decode cL_thrown 104 = .ok (.iconst 1, 1) := by decide +kernel
theorem dL_thrown_105 : decode cL_thrown 105 = .ok (.bipush 21, 2) := by decide +kernel
theorem dL_thrown_107 : decode cL_thrown 107 = .ok (.invokestatic 229, 3) := by decide +kernel
theorem dL_thrown_110 : decode cL_thrown 110 = .ok (.sipush (-1002), 3) := by decide +kernel
theorem dL_thrown_113 : decode cL_thrown 113 = .ok (.if_icmp .ne 363, 3) := by decide +kernel
theorem dL_thrown_116 : decode cL_thrown 116 = .ok (.aload_n 0, 1) := by decide +kernel
theorem dL_thrown_117 : decode cL_thrown 117 = .ok (.iload_n 3, 1) := by decide +kernel
theorem dL_thrown_118 : decode cL_thrown 118 = .ok (.iload_n 3, 1) := by decide +kernel
theorem dL_thrown_119 : decode cL_thrown 119 = .ok (.invokestatic 312, 3) := by decide +kernel
theorem dL_thrown_122 : decode cL_thrown 122 = .ok (.sipush (-1001), 3) := by decide +kernel
theorem dL_thrown_125 : decode cL_thrown 125 = .ok (.if_icmp .ne 351, 3) := by decide +kernel
theorem dL_thrown_128 : decode cL_thrown 128 = .ok (.aload_n 0, 1) := by decide +kernel
theorem dL_thrown_129 : decode cL_thrown 129 = .ok (.iconst 0, 1) := by decide +kernel
theorem dL_thrown_130 : decode cL_thrown 130 = .ok (.iconst 0, 1) := by decide +kernel
theorem dL_thrown_131 : decode cL_thrown 131 = .ok (.invokestatic 312, 3) := by decide +kernel
theorem dL_thrown_134 : decode cL_thrown 134 = .ok (.sipush (-1002), 3) := by decide +kernel
theorem dL_thrown_137 : decode cL_thrown 137 = .ok (.if_icmp .ne 339, 3) := by decide +kernel
theorem dL_thrown_140 : decode cL_thrown 140 = .ok (.aload_n 0, 1) := by decide +kernel
theorem dL_thrown_141 : decode cL_thrown 141 = .ok (.bipush 123, 2) := by decide +kernel
theorem dL_thrown_143 : decode cL_thrown 143 = .ok (.invokestatic 181, 3) := by decide +kernel
theorem dL_thrown_146 : decode cL_thrown 146 = .ok (.sipush (-1001), 3) := by decide +kernel
theorem dL_thrown_149 : decode cL_thrown 149 = .ok (.if_icmp .ne 327, 3) := by decide +kernel
theorem dL_thrown_152 : decode cL_thrown 152 = .ok (.aload_n 0, 1) := by decide +kernel
theorem dL_thrown_153 : decode cL_thrown 153 = .ok (.iconst (-1), 1) := by decide +kernel
theorem dL_thrown_154 : decode cL_thrown 154 = .ok (.invokestatic 193, 3) := by decide +kernel
theorem dL_thrown_157 : decode cL_thrown 157 = .ok (.sipush (-1001), 3) := by decide +kernel
theorem dL_thrown_160 : decode cL_thrown 160 = .ok (.if_icmp .ne 316, 3) := by decide +kernel
theorem dL_thrown_163 : decode cL_thrown 163 = .ok (.aload_n 0, 1) := by decide +kernel
theorem dL_thrown_164 : decode cL_thrown 164 = .ok (.bipush 101, 2) := by decide +kernel
theorem dL_thrown_166 : decode cL_thrown 166 = .ok (.invokestatic 193, 3) := by decide +kernel
theorem dL_thrown_169 : decode cL_thrown 169 = .ok (.sipush (-1001), 3) := by decide +kernel
theorem dL_thrown_172 : decode cL_thrown 172 = .ok (.if_icmp .ne 304, 3) := by decide +kernel
theorem dL_thrown_175 : decode cL_thrown 175 = .ok (.aload_n 0, 1) := by decide +kernel
theorem dL_thrown_176 : decode cL_thrown 176 = .ok (.iload_n 3, 1) := by decide +kernel
theorem dL_thrown_177 : decode cL_thrown 177 = .ok (.iload_n 3, 1) := by decide +kernel
theorem dL_thrown_178 : decode cL_thrown 178 = .ok (.iconst 0, 1) := by decide +kernel
theorem dL_thrown_179 : decode cL_thrown 179 = .ok (.iconst 0, 1) := by decide +kernel
theorem dL_thrown_180 : decode cL_thrown 180 = .ok (.iconst 0, 1) := by decide +kernel
theorem dL_thrown_181 : decode cL_thrown 181 = .ok (.invokestatic 190, 3) := by decide +kernel
theorem dL_thrown_184 : decode cL_thrown 184 = .ok (.sipush (-1001), 3) := by decide +kernel
theorem dL_thrown_187 : decode cL_thrown 187 = .ok (.if_icmp .ne 289, 3) := by decide +kernel
theorem dL_thrown_190 : decode cL_thrown 190 = .ok (.aload_n 0, 1) := by decide +kernel
theorem dL_thrown_191 : decode cL_thrown 191 = .ok (.iconst 0, 1) := by decide +kernel
theorem dL_thrown_192 : decode cL_thrown 192 = .ok (.iload_n 3, 1) := by decide +kernel
theorem dL_thrown_193 : decode cL_thrown 193 = .ok (.iconst 5, 1) := by decide +kernel
theorem dL_thrown_194 : decode cL_thrown 194 = .ok (.iconst 1, 1) := by decide +kernel
theorem dL_thrown_195 : decode cL_thrown 195 = .ok (.iconst 5, 1) := by decide +kernel
theorem dL_thrown_196 : decode cL_thrown 196 = .ok (.invokestatic 190, 3) := by decide +kernel
theorem dL_thrown_199 : decode cL_thrown 199 = .ok (.sipush (-1001), 3) := by decide +kernel
theorem dL_thrown_202 : decode cL_thrown 202 = .ok (.if_icmp .ne 274, 3) := by decide +kernel
theorem dL_thrown_205 : decode cL_thrown 205 = .ok (.aload_n 0, 1) := by decide +kernel
theorem dL_thrown_206 : decode cL_thrown 206 = .ok (.iconst 0, 1) := by decide +kernel
theorem dL_thrown_207 : decode cL_thrown 207 = .ok (.iconst 0, 1) := by decide +kernel
theorem dL_thrown_208 : decode cL_thrown 208 = .ok (.iconst 5, 1) := by decide +kernel
theorem dL_thrown_209 : decode cL_thrown 209 = .ok (.iconst 1, 1) := by decide +kernel
theorem dL_thrown_210 : decode cL_thrown 210 = .ok (.iconst 5, 1) := by decide +kernel
theorem dL_thrown_211 : decode cL_thrown 211 = .ok (.invokestatic 190, 3) := by decide +kernel
theorem dL_thrown_214 : decode cL_thrown 214 = .ok (.sipush (-1002), 3) := by decide +kernel
theorem dL_thrown_217 : decode cL_thrown 217 = .ok (.if_icmp .ne 259, 3) := by decide +kernel
theorem dL_thrown_220 : decode cL_thrown 220 = .ok (.aload_n 0, 1) := by decide +kernel
theorem dL_thrown_221 : decode cL_thrown 221 = .ok (.iconst 0, 1) := by decide +kernel
theorem dL_thrown_222 : decode cL_thrown 222 = .ok (.iconst 1, 1) := by decide +kernel
theorem dL_thrown_223 : decode cL_thrown 223 = .ok (.iconst 0, 1) := by decide +kernel
theorem dL_thrown_224 : decode cL_thrown 224 = .ok (.iconst 1, 1) := by decide +kernel
theorem dL_thrown_225 : decode cL_thrown 225 = .ok (.iconst 5, 1) := by decide +kernel
theorem dL_thrown_226 : decode cL_thrown 226 = .ok (.invokestatic 190, 3) := by decide +kernel
theorem dL_thrown_229 : decode cL_thrown 229 = .ok (.sipush (-1002), 3) := by decide +kernel
theorem dL_thrown_232 : decode cL_thrown 232 = .ok (.if_icmp .ne 244, 3) := by decide +kernel
theorem dL_thrown_235 : decode cL_thrown 235 = .ok (.aload_n 0, 1) := by decide +kernel
theorem dL_thrown_236 : decode cL_thrown 236 = .ok (.iconst 0, 1) := by decide +kernel
theorem dL_thrown_237 : decode cL_thrown 237 = .ok (.iconst 1, 1) := by decide +kernel
theorem dL_thrown_238 : decode cL_thrown 238 = .ok (.bipush 100, 2) := by decide +kernel
theorem dL_thrown_240 : decode cL_thrown 240 = .ok (.iconst 1, 1) := by decide +kernel
theorem dL_thrown_241 : decode cL_thrown 241 = .ok (.iconst 5, 1) := by decide +kernel
theorem dL_thrown_242 : decode cL_thrown 242 = .ok (.invokestatic 190, 3) := by decide +kernel
theorem dL_thrown_245 : decode cL_thrown 245 = .ok (.sipush (-1002), 3) := by decide +kernel
theorem dL_thrown_248 : decode cL_thrown 248 = .ok (.if_icmp .ne 228, 3) := by decide +kernel
theorem dL_thrown_251 : decode cL_thrown 251 = .ok (.aload_n 0, 1) := by decide +kernel
theorem dL_thrown_252 : decode cL_thrown 252 = .ok (.iconst 0, 1) := by decide +kernel
theorem dL_thrown_253 : decode cL_thrown 253 = .ok (.iconst 1, 1) := by decide +kernel
theorem dL_thrown_254 : decode cL_thrown 254 = .ok (.iconst 5, 1) := by decide +kernel
theorem dL_thrown_255 : decode cL_thrown 255 = .ok (.iconst 0, 1) := by decide +kernel
theorem dL_thrown_256 : decode cL_thrown 256 = .ok (.iconst 5, 1) := by decide +kernel
theorem dL_thrown_257 : decode cL_thrown 257 = .ok (.invokestatic 190, 3) := by decide +kernel
theorem dL_thrown_260 : decode cL_thrown 260 = .ok (.sipush (-1002), 3) := by decide +kernel
theorem dL_thrown_263 : decode cL_thrown 263 = .ok (.if_icmp .ne 213, 3) := by decide +kernel
theorem dL_thrown_266 : decode cL_thrown 266 = .ok (.aload_n 0, 1) := by decide +kernel
theorem dL_thrown_267 : decode cL_thrown 267 = .ok (.iconst 0, 1) := by decide +kernel
theorem dL_thrown_268 : decode cL_thrown 268 = .ok (.iconst 1, 1) := by decide +kernel
theorem dL_thrown_269 : decode cL_thrown 269 = .ok (.iconst 5, 1) := by decide +kernel
theorem dL_thrown_270 : decode cL_thrown 270 = .ok (.bipush 6, 2) := by decide +kernel
theorem dL_thrown_272 : decode cL_thrown 272 = .ok (.iconst 5, 1) := by decide +kernel
theorem dL_thrown_273 : decode cL_thrown 273 = .ok (.invokestatic 190, 3) := by decide +kernel
theorem dL_thrown_276 : decode cL_thrown 276 = .ok (.sipush (-1002), 3) := by decide +kernel
theorem dL_thrown_279 : decode cL_thrown 279 = .ok (.if_icmp .ne 197, 3) := by decide +kernel
theorem dL_thrown_282 : decode cL_thrown 282 = .ok (.aload_n 0, 1) := by decide +kernel
theorem dL_thrown_283 : decode cL_thrown 283 = .ok (.iconst 0, 1) := by decide +kernel
theorem dL_thrown_284 : decode cL_thrown 284 = .ok (.iconst 1, 1) := by decide +kernel
theorem dL_thrown_285 : decode cL_thrown 285 = .ok (.iconst 5, 1) := by decide +kernel
theorem dL_thrown_286 : decode cL_thrown 286 = .ok (.iconst 1, 1) := by decide +kernel
theorem dL_thrown_287 : decode cL_thrown 287 = .ok (.iconst (-1), 1) := by decide +kernel
theorem dL_thrown_288 : decode cL_thrown 288 = .ok (.invokestatic 190, 3) := by decide +kernel
theorem dL_thrown_291 : decode cL_thrown 291 = .ok (.sipush (-1002), 3) := by decide +kernel
theorem dL_thrown_294 : decode cL_thrown 294 = .ok (.if_icmp .ne 182, 3) := by decide +kernel
theorem dL_thrown_297 : decode cL_thrown 297 = .ok (.aload_n 0, 1) := by decide +kernel
theorem dL_thrown_298 : decode cL_thrown 298 = .ok (.iconst 0, 1) := by decide +kernel
theorem dL_thrown_299 : decode cL_thrown 299 = .ok (.iconst 1, 1) := by decide +kernel
theorem dL_thrown_300 : decode cL_thrown 300 = .ok (.iconst 5, 1) := by decide +kernel
theorem dL_thrown_301 : decode cL_thrown 301 = .ok (.iconst 1, 1) := by decide +kernel
theorem dL_thrown_302 : decode cL_thrown 302 = .ok (.sipush 1000, 3) := by decide +kernel
theorem dL_thrown_305 : decode cL_thrown 305 = .ok (.invokestatic 190, 3) := by decide +kernel
theorem dL_thrown_308 : decode cL_thrown 308 = .ok (.sipush (-1002), 3) := by decide +kernel
theorem dL_thrown_311 : decode cL_thrown 311 = .ok (.if_icmp .ne 165, 3) := by decide +kernel
theorem dL_thrown_314 : decode cL_thrown 314 = .ok (.aload_n 0, 1) := by decide +kernel
theorem dL_thrown_315 : decode cL_thrown 315 = .ok (.bipush 99, 2) := by decide +kernel
theorem dL_thrown_317 : decode cL_thrown 317 = .ok (.invokestatic 244, 3) := by decide +kernel
theorem dL_thrown_320 : decode cL_thrown 320 = .ok (.sipush (-1001), 3) := by decide +kernel
theorem dL_thrown_323 : decode cL_thrown 323 = .ok (.if_icmp .ne 153, 3) := by decide +kernel
theorem dL_thrown_326 : decode cL_thrown 326 = .ok (.aload_n 0, 1) := by decide +kernel
theorem dL_thrown_327 : decode cL_thrown 327 = .ok (.iconst (-1), 1) := by decide +kernel
theorem dL_thrown_328 : decode cL_thrown 328 = .ok (.invokestatic 315, 3) := by decide +kernel
theorem dL_thrown_331 : decode cL_thrown 331 = .ok (.sipush (-1001), 3) := by decide +kernel
theorem dL_thrown_334 : decode cL_thrown 334 = .ok (.if_icmp .ne 142, 3) := by decide +kernel
theorem dL_thrown_337 : decode cL_thrown 337 = .ok (.aload_n 0, 1) := by decide +kernel
theorem dL_thrown_338 : decode cL_thrown 338 = .ok (.bipush 99, 2) := by decide +kernel
theorem dL_thrown_340 : decode cL_thrown 340 = .ok (.invokestatic 317, 3) := by decide +kernel
theorem dL_thrown_343 : decode cL_thrown 343 = .ok (.sipush (-1001), 3) := by decide +kernel
theorem dL_thrown_346 : decode cL_thrown 346 = .ok (.if_icmp .ne 130, 3) := by decide +kernel
theorem dL_thrown_349 : decode cL_thrown 349 = .ok (.aload_n 0, 1) := by decide +kernel
theorem dL_thrown_350 : decode cL_thrown 350 = .ok (.bipush 99, 2) := by decide +kernel
theorem dL_thrown_352 : decode cL_thrown 352 = .ok (.invokestatic 319, 3) := by decide +kernel
theorem dL_thrown_355 : decode cL_thrown 355 = .ok (.sipush (-1001), 3) := by decide +kernel
theorem dL_thrown_358 : decode cL_thrown 358 = .ok (.if_icmp .ne 118, 3) := by decide +kernel
theorem dL_thrown_361 : decode cL_thrown 361 = .ok (.aload_n 0, 1) := by decide +kernel
theorem dL_thrown_362 : decode cL_thrown 362 = .ok (.iload_n 3, 1) := by decide +kernel
theorem dL_thrown_363 : decode cL_thrown 363 = .ok (.iload_n 3, 1) := by decide +kernel
theorem dL_thrown_364 : decode cL_thrown 364 = .ok (.iconst 0, 1) := by decide +kernel
theorem dL_thrown_365 : decode cL_thrown 365 = .ok (.invokestatic 321, 3) := by decide +kernel
theorem dL_thrown_368 : decode cL_thrown 368 = .ok (.sipush (-1001), 3) := by decide +kernel
theorem dL_thrown_371 : decode cL_thrown 371 = .ok (.if_icmp .ne 105, 3) := by decide +kernel
theorem dL_thrown_374 : decode cL_thrown 374 = .ok (.aload_n 0, 1) := by decide +kernel
theorem dL_thrown_375 : decode cL_thrown 375 = .ok (.iconst 0, 1) := by decide +kernel
theorem dL_thrown_376 : decode cL_thrown 376 = .ok (.iconst 0, 1) := by decide +kernel
theorem dL_thrown_377 : decode cL_thrown 377 = .ok (.iconst 5, 1) := by decide +kernel
theorem dL_thrown_378 : decode cL_thrown 378 = .ok (.invokestatic 321, 3) := by decide +kernel
theorem dL_thrown_381 : decode cL_thrown 381 = .ok (.sipush (-1002), 3) := by decide +kernel
theorem dL_thrown_384 : decode cL_thrown 384 = .ok (.if_icmp .ne 92, 3) := by decide +kernel
theorem dL_thrown_387 : decode cL_thrown 387 = .ok (.aload_n 0, 1) := by decide +kernel
theorem dL_thrown_388 : decode cL_thrown 388 = .ok (.iconst 0, 1) := by decide +kernel
theorem dL_thrown_389 : decode cL_thrown 389 = .ok (.iconst 1, 1) := by decide +kernel
theorem dL_thrown_390 : decode cL_thrown 390 = .ok (.iconst 0, 1) := by decide +kernel
theorem dL_thrown_391 : decode cL_thrown 391 = .ok (.invokestatic 321, 3) := by decide +kernel
theorem dL_thrown_394 : decode cL_thrown 394 = .ok (.sipush (-1002), 3) := by decide +kernel
theorem dL_thrown_397 : decode cL_thrown 397 = .ok (.if_icmp .ne 79, 3) := by decide +kernel
theorem dL_thrown_400 : decode cL_thrown 400 = .ok (.aload_n 0, 1) := by decide +kernel
theorem dL_thrown_401 : decode cL_thrown 401 = .ok (.iconst 0, 1) := by decide +kernel
theorem dL_thrown_402 : decode cL_thrown 402 = .ok (.iconst 1, 1) := by decide +kernel
theorem dL_thrown_403 : decode cL_thrown 403 = .ok (.sipush 1000, 3) := by decide +kernel
theorem dL_thrown_406 : decode cL_thrown 406 = .ok (.invokestatic 321, 3) := by decide +kernel
theorem dL_thrown_409 : decode cL_thrown 409 = .ok (.sipush (-1002), 3) := by decide +kernel
theorem dL_thrown_412 : decode cL_thrown 412 = .ok (.if_icmp .ne 64, 3) := by decide +kernel
theorem dL_thrown_415 : decode cL_thrown 415 = .ok (.aload_n 0, 1) := by decide +kernel
theorem dL_thrown_416 : decode cL_thrown 416 = .ok (.iconst 0, 1) := by decide +kernel
theorem dL_thrown_417 : decode cL_thrown 417 = .ok (.invokestatic 342, 3) := by decide +kernel
theorem dL_thrown_420 : decode cL_thrown 420 = .ok (.sipush 998, 3) := by decide +kernel
theorem dL_thrown_423 : decode cL_thrown 423 = .ok (.if_icmp .gt 26, 3) := by decide +kernel
theorem dL_thrown_426 : decode cL_thrown 426 = .ok (.aload_n 0, 1) := by decide +kernel
theorem dL_thrown_427 : decode cL_thrown 427 = .ok (.iconst 0, 1) := by decide +kernel
theorem dL_thrown_428 : decode cL_thrown 428 = .ok (.iconst 1, 1) := by decide +kernel
theorem dL_thrown_429 : decode cL_thrown 429 = .ok (.iconst 1, 1) := by decide +kernel
theorem dL_thrown_430 : decode cL_thrown 430 = .ok (.aload_n 0, 1) := by decide +kernel
theorem dL_thrown_431 : decode cL_thrown 431 = .ok (.iconst 0, 1) := by decide +kernel
theorem dL_thrown_432 : decode cL_thrown 432 = .ok (.invokestatic 342, 3) := by decide +kernel
theorem dL_thrown_435 : decode cL_thrown 435 = .ok (.iconst 1, 1) := by decide +kernel
theorem dL_thrown_436 : decode cL_thrown 436 = .ok (.iadd, 1) := by decide +kernel
theorem dL_thrown_437 : decode cL_thrown 437 = .ok (.invokestatic 344, 3) := by decide +kernel
theorem dL_thrown_440 : decode cL_thrown 440 = .ok (.invokestatic 321, 3) := by decide +kernel
theorem dL_thrown_443 : decode cL_thrown 443 = .ok (.sipush (-1003), 3) := by decide +kernel
theorem dL_thrown_446 : decode cL_thrown 446 = .ok (.if_icmp .ne 30, 3) := by decide +kernel
theorem dL_thrown_449 : decode cL_thrown 449 = .ok (.aload_n 0, 1) := by decide +kernel
theorem dL_thrown_450 : decode cL_thrown 450 = .ok (.iconst 0, 1) := by decide +kernel
theorem dL_thrown_451 : decode cL_thrown 451 = .ok (.invokestatic 334, 3) := by decide +kernel
theorem dL_thrown_454 : decode cL_thrown 454 = .ok (.sipush (-1001), 3) := by decide +kernel
theorem dL_thrown_457 : decode cL_thrown 457 = .ok (.if_icmp .ne 19, 3) := by decide +kernel
theorem dL_thrown_460 : decode cL_thrown 460 = .ok (.aload_n 0, 1) := by decide +kernel
theorem dL_thrown_461 : decode cL_thrown 461 = .ok (.bipush 100, 2) := by decide +kernel
theorem dL_thrown_463 : decode cL_thrown 463 = .ok (.invokestatic 334, 3) := by decide +kernel
theorem dL_thrown_466 : decode cL_thrown 466 = .ok (.sipush (-1001), 3) := by decide +kernel
theorem dL_thrown_469 : decode cL_thrown 469 = .ok (.if_icmp .ne 7, 3) := by decide +kernel
theorem dL_thrown_472 : decode cL_thrown 472 = .ok (.iconst 1, 1) := by decide +kernel
theorem dL_thrown_473 : decode cL_thrown 473 = .ok (.goto 4, 3) := by decide +kernel
theorem dL_thrown_476 : decode cL_thrown 476 = .ok (.iconst 0, 1) := by decide +kernel
theorem dL_thrown_477 : decode cL_thrown 477 = .ok (.istore 6, 2) := by decide +kernel
theorem dL_thrown_479 : decode cL_thrown 479 = .ok (.aload_n 0, 1) := by decide +kernel
theorem dL_thrown_480 : decode cL_thrown 480 = .ok (.invokevirtual 170, 3) := by decide +kernel
theorem dL_thrown_483 : decode cL_thrown 483 = .ok (.iconst 2, 1) := by decide +kernel
theorem dL_thrown_484 : decode cL_thrown 484 = .ok (.if_icmp .eq 5, 3) := by decide +kernel
theorem dL_thrown_487 : decode cL_thrown 487 = .ok (.iconst 0, 1) := by decide +kernel
theorem dL_thrown_488 : decode cL_thrown 488 = .ok (.ireturn, 1) := by decide +kernel
theorem dL_thrown_489 : decode cL_thrown 489 = .ok (.iload 6, 2) := by decide +kernel
theorem dL_thrown_491 : decode cL_thrown 491 = .ok (.ifCond .eq 62, 3) := by decide +kernel
theorem dL_thrown_494 : decode cL_thrown 494 = .ok (.aload_n 0, 1) := by decide +kernel
theorem dL_thrown_495 : decode cL_thrown 495 = .ok (.bipush 50, 2) := by decide +kernel
theorem dL_thrown_497 : decode cL_thrown 497 = .ok (.invokestatic 193, 3) := by decide +kernel
theorem dL_thrown_500 : decode cL_thrown 500 = .ok (.iload 4, 2) := by decide +kernel
theorem dL_thrown_502 : decode cL_thrown 502 = .ok (.bipush 20, 2) := by decide +kernel
theorem dL_thrown_504 : decode cL_thrown 504 = .ok (.if_icmp .ne 9, 3) := by decide +kernel
theorem dL_thrown_507 : decode cL_thrown 507 = .ok (.sipush (-1002), 3) := by decide +kernel
theorem dL_thrown_510 : decode cL_thrown 510 = .ok (.goto 6, 3) := by decide +kernel
theorem dL_thrown_513 : decode cL_thrown 513 = .ok (.sipush (-1003), 3) := by decide +kernel
theorem dL_thrown_516 : decode cL_thrown 516 = .ok (.if_icmp .ne 37, 3) := by decide +kernel
theorem dL_thrown_519 : decode cL_thrown 519 = .ok (.aload_n 0, 1) := by decide +kernel
theorem dL_thrown_520 : decode cL_thrown 520 = .ok (.iconst 0, 1) := by decide +kernel
theorem dL_thrown_521 : decode cL_thrown 521 = .ok (.iconst 1, 1) := by decide +kernel
theorem dL_thrown_522 : decode cL_thrown 522 = .ok (.iconst 5, 1) := by decide +kernel
theorem dL_thrown_523 : decode cL_thrown 523 = .ok (.iconst 1, 1) := by decide +kernel
theorem dL_thrown_524 : decode cL_thrown 524 = .ok (.iconst 5, 1) := by decide +kernel
theorem dL_thrown_525 : decode cL_thrown 525 = .ok (.invokestatic 190, 3) := by decide +kernel
theorem dL_thrown_528 : decode cL_thrown 528 = .ok (.aload_n 0, 1) := by decide +kernel
theorem dL_thrown_529 : decode cL_thrown 529 = .ok (.invokevirtual 295, 3) := by decide +kernel
theorem dL_thrown_532 : decode cL_thrown 532 = .ok (.bipush 12, 2) := by decide +kernel
theorem dL_thrown_534 : decode cL_thrown 534 = .ok (.if_icmp .ne 9, 3) := by decide +kernel
theorem dL_thrown_537 : decode cL_thrown 537 = .ok (.sipush (-1003), 3) := by decide +kernel
theorem dL_thrown_540 : decode cL_thrown 540 = .ok (.goto 6, 3) := by decide +kernel
theorem dL_thrown_543 : decode cL_thrown 543 = .ok (.sipush (-1004), 3) := by decide +kernel
theorem dL_thrown_546 : decode cL_thrown 546 = .ok (.if_icmp .ne 7, 3) := by decide +kernel
theorem dL_thrown_549 : decode cL_thrown 549 = .ok (.iconst 1, 1) := by decide +kernel
theorem dL_thrown_550 : decode cL_thrown 550 = .ok (.goto 4, 3) := by decide +kernel
theorem dL_thrown_553 : decode cL_thrown 553 = .ok (.iconst 0, 1) := by decide +kernel
theorem dL_thrown_554 : decode cL_thrown 554 = .ok (.istore 6, 2) := by decide +kernel
theorem dL_thrown_556 : decode cL_thrown 556 = .ok (.iconst 0, 1) := by decide +kernel
theorem dL_thrown_557 : decode cL_thrown 557 = .ok (.istore 7, 2) := by decide +kernel
theorem dL_thrown_559 : decode cL_thrown 559 = .ok (.iload 7, 2) := by decide +kernel
theorem dL_thrown_561 : decode cL_thrown 561 = .ok (.aload_n 0, 1) := by decide +kernel
theorem dL_thrown_562 : decode cL_thrown 562 = .ok (.invokevirtual 295, 3) := by decide +kernel
theorem dL_thrown_565 : decode cL_thrown 565 = .ok (.if_icmp .ge 272, 3) := by decide +kernel
theorem dL_thrown_568 : decode cL_thrown 568 = .ok (.aload_n 0, 1) := by decide +kernel
theorem dL_thrown_569 : decode cL_thrown 569 = .ok (.iload 7, 2) := by decide +kernel
theorem dL_thrown_571 : decode cL_thrown 571 = .ok (.invokestatic 298, 3) := by decide +kernel
theorem dL_thrown_574 : decode cL_thrown 574 = .ok (.istore 8, 2) := by decide +kernel
theorem dL_thrown_576 : decode cL_thrown 576 = .ok (.aload_n 0, 1) := by decide +kernel
theorem dL_thrown_577 : decode cL_thrown 577 = .ok (.iload 8, 2) := by decide +kernel
theorem dL_thrown_579 : decode cL_thrown 579 = .ok (.invokestatic 349, 3) := by decide +kernel
theorem dL_thrown_582 : decode cL_thrown 582 = .ok (.bipush 102, 2) := by decide +kernel
theorem dL_thrown_584 : decode cL_thrown 584 = .ok (.if_icmp .ne 7, 3) := by decide +kernel
theorem dL_thrown_587 : decode cL_thrown 587 = .ok (.iconst 1, 1) := by decide +kernel
theorem dL_thrown_588 : decode cL_thrown 588 = .ok (.goto 4, 3) := by decide +kernel
theorem dL_thrown_591 : decode cL_thrown 591 = .ok (.iconst 0, 1) := by decide +kernel
theorem dL_thrown_592 : decode cL_thrown 592 = .ok (.istore 9, 2) := by decide +kernel
theorem dL_thrown_594 : decode cL_thrown 594 = .ok (.iload 6, 2) := by decide +kernel
theorem dL_thrown_596 : decode cL_thrown 596 = .ok (.ifCond .eq 180, 3) := by decide +kernel
theorem dL_thrown_599 : decode cL_thrown 599 = .ok (.iload 9, 2) := by decide +kernel
theorem dL_thrown_601 : decode cL_thrown 601 = .ok (.ifCond .eq 66, 3) := by decide +kernel
theorem dL_thrown_604 : decode cL_thrown 604 = .ok (.aload_n 0, 1) := by decide +kernel
theorem dL_thrown_605 : decode cL_thrown 605 = .ok (.iload 8, 2) := by decide +kernel
theorem dL_thrown_607 : decode cL_thrown 607 = .ok (.invokestatic 315, 3) := by decide +kernel
theorem dL_thrown_610 : decode cL_thrown 610 = .ok (.sipush (-1002), 3) := by decide +kernel
theorem dL_thrown_613 : decode cL_thrown 613 = .ok (.if_icmp .ne 163, 3) := by decide +kernel
theorem dL_thrown_616 : decode cL_thrown 616 = .ok (.aload_n 0, 1) := by decide +kernel
theorem dL_thrown_617 : decode cL_thrown 617 = .ok (.iload 8, 2) := by decide +kernel
theorem dL_thrown_619 : decode cL_thrown 619 = .ok (.invokestatic 319, 3) := by decide +kernel
theorem dL_thrown_622 : decode cL_thrown 622 = .ok (.sipush (-1002), 3) := by decide +kernel
theorem dL_thrown_625 : decode cL_thrown 625 = .ok (.if_icmp .ne 151, 3) := by decide +kernel
theorem dL_thrown_628 : decode cL_thrown 628 = .ok (.aload_n 0, 1) := by decide +kernel
theorem dL_thrown_629 : decode cL_thrown 629 = .ok (.iload 8, 2) := by decide +kernel
theorem dL_thrown_631 : decode cL_thrown 631 = .ok (.invokestatic 310, 3) := by decide +kernel
theorem dL_thrown_634 : decode cL_thrown 634 = .ok (.sipush (-1002), 3) := by decide +kernel
theorem dL_thrown_637 : decode cL_thrown 637 = .ok (.if_icmp .ne 139, 3) := by decide +kernel
theorem dL_thrown_640 : decode cL_thrown 640 = .ok (.aload_n 0, 1) := by decide +kernel
theorem dL_thrown_641 : decode cL_thrown 641 = .ok (.iload 8, 2) := by decide +kernel
theorem dL_thrown_643 : decode cL_thrown 643 = .ok (.invokestatic 351, 3) := by decide +kernel
theorem dL_thrown_646 : decode cL_thrown 646 = .ok (.sipush (-1002), 3) := by decide +kernel
theorem dL_thrown_649 : decode cL_thrown 649 = .ok (.if_icmp .ne 127, 3) := by decide +kernel
theorem dL_thrown_652 : decode cL_thrown 652 = .ok (.aload_n 0, 1) := by decide +kernel
theorem dL_thrown_653 : decode cL_thrown 653 = .ok (.iload 8, 2) := by decide +kernel
theorem dL_thrown_655 : decode cL_thrown 655 = .ok (.invokestatic 308, 3) := by decide +kernel
theorem dL_thrown_658 : decode cL_thrown 658 = .ok (.sipush (-1002), 3) := by decide +kernel
theorem dL_thrown_661 : decode cL_thrown 661 = .ok (.if_icmp .ne 115, 3) := by decide +kernel
theorem dL_thrown_664 : decode cL_thrown 664 = .ok (.goto 27, 3) := by decide +kernel
theorem dL_thrown_667 : decode cL_thrown 667 = .ok (.aload_n 0, 1) := by decide +kernel
theorem dL_thrown_668 : decode cL_thrown 668 = .ok (.iload 8, 2) := by decide +kernel
theorem dL_thrown_670 : decode cL_thrown 670 = .ok (.invokestatic 244, 3) := by decide +kernel
theorem dL_thrown_673 : decode cL_thrown 673 = .ok (.sipush (-1002), 3) := by decide +kernel
theorem dL_thrown_676 : decode cL_thrown 676 = .ok (.if_icmp .ne 100, 3) := by decide +kernel
theorem dL_thrown_679 : decode cL_thrown 679 = .ok (.aload_n 0, 1) := by decide +kernel
theorem dL_thrown_680 : decode cL_thrown 680 = .ok (.iload 8, 2) := by decide +kernel
theorem dL_thrown_682 : decode cL_thrown 682 = .ok (.invokestatic 317, 3) := by decide +kernel
theorem dL_thrown_685 : decode cL_thrown 685 = .ok (.sipush (-1002), 3) := by decide +kernel
theorem dL_thrown_688 : decode cL_thrown 688 = .ok (.if_icmp .ne 88, 3) := by decide +kernel
theorem dL_thrown_691 : decode cL_thrown 691 = .ok (.aload_n 0, 1) := by decide +kernel
theorem dL_thrown_692 : decode cL_thrown 692 = .ok (.iload 8, 2) := by decide +kernel
theorem dL_thrown_694 : decode cL_thrown 694 = .ok (.invokestatic 349, 3) := by decide +kernel
theorem dL_thrown_697 : decode cL_thrown 697 = .ok (.bipush 100, 2) := by decide +kernel
theorem dL_thrown_699 : decode cL_thrown 699 = .ok (.if_icmp .ne 15, 3) := by decide +kernel
theorem dL_thrown_702 : decode cL_thrown 702 = .ok (.aload_n 0, 1) := by decide +kernel
theorem dL_thrown_703 : decode cL_thrown 703 = .ok (.iload 8, 2) := by decide +kernel
theorem dL_thrown_705 : decode cL_thrown 705 = .ok (.invokestatic 315, 3) := by decide +kernel
theorem dL_thrown_708 : decode cL_thrown 708 = .ok (.sipush (-1002), 3) := by decide +kernel
theorem dL_thrown_711 : decode cL_thrown 711 = .ok (.if_icmp .ne 65, 3) := by decide +kernel
theorem dL_thrown_714 : decode cL_thrown 714 = .ok (.aload_n 0, 1) := by decide +kernel
theorem dL_thrown_715 : decode cL_thrown 715 = .ok (.iload 8, 2) := by decide +kernel
theorem dL_thrown_717 : decode cL_thrown 717 = .ok (.iconst (-1), 1) := by decide +kernel
theorem dL_thrown_718 : decode cL_thrown 718 = .ok (.invokestatic 353, 3) := by decide +kernel
theorem dL_thrown_721 : decode cL_thrown 721 = .ok (.sipush (-1002), 3) := by decide +kernel
theorem dL_thrown_724 : decode cL_thrown 724 = .ok (.if_icmp .ne 52, 3) := by decide +kernel
theorem dL_thrown_727 : decode cL_thrown 727 = .ok (.aload_n 0, 1) := by decide +kernel
theorem dL_thrown_728 : decode cL_thrown 728 = .ok (.iload 8, 2) := by decide +kernel
theorem dL_thrown_730 : decode cL_thrown 730 = .ok (.aload_n 0, 1) := by decide +kernel
theorem dL_thrown_731 : decode cL_thrown 731 = .ok (.iload 8, 2) := by decide +kernel
theorem dL_thrown_733 : decode cL_thrown 733 = .ok (.invokestatic 355, 3) := by decide +kernel
theorem dL_thrown_736 : decode cL_thrown 736 = .ok (.invokestatic 353, 3) := by decide +kernel
theorem dL_thrown_739 : decode cL_thrown 739 = .ok (.sipush (-1002), 3) := by decide +kernel
theorem dL_thrown_742 : decode cL_thrown 742 = .ok (.if_icmp .ne 34, 3) := by decide +kernel
theorem dL_thrown_745 : decode cL_thrown 745 = .ok (.aload_n 0, 1) := by decide +kernel
theorem dL_thrown_746 : decode cL_thrown 746 = .ok (.iload 8, 2) := by decide +kernel
theorem dL_thrown_748 : decode cL_thrown 748 = .ok (.iload 4, 2) := by decide +kernel
theorem dL_thrown_750 : decode cL_thrown 750 = .ok (.invokestatic 357, 3) := by decide +kernel
theorem dL_thrown_753 : decode cL_thrown 753 = .ok (.sipush (-1002), 3) := by decide +kernel
theorem dL_thrown_756 : decode cL_thrown 756 = .ok (.if_icmp .ne 20, 3) := by decide +kernel
theorem dL_thrown_759 : decode cL_thrown 759 = .ok (.aload_n 0, 1) := by decide +kernel
theorem dL_thrown_760 : decode cL_thrown 760 = .ok (.iload 8, 2) := by decide +kernel
theorem dL_thrown_762 : decode cL_thrown 762 = .ok (.iconst (-1), 1) := by decide +kernel
theorem dL_thrown_763 : decode cL_thrown 763 = .ok (.invokestatic 359, 3) := by decide +kernel
theorem dL_thrown_766 : decode cL_thrown 766 = .ok (.sipush (-1002), 3) := by decide +kernel
theorem dL_thrown_769 : decode cL_thrown 769 = .ok (.if_icmp .ne 7, 3) := by decide +kernel
theorem dL_thrown_772 : decode cL_thrown 772 = .ok (.iconst 1, 1) := by decide +kernel
theorem dL_thrown_773 : decode cL_thrown 773 = .ok (.goto 4, 3) := by decide +kernel
theorem dL_thrown_776 : decode cL_thrown 776 = .ok (.iconst 0, 1) := by decide +kernel
theorem dL_thrown_777 : decode cL_thrown 777 = .ok (.istore 6, 2) := by decide +kernel
theorem dL_thrown_779 : decode cL_thrown 779 = .ok (.iload 9, 2) := by decide +kernel
theorem dL_thrown_781 : decode cL_thrown 781 = .ok (.ifCond .eq 50, 3) := by decide +kernel
theorem dL_thrown_784 : decode cL_thrown 784 = .ok (.iload 4, 2) := by decide +kernel
theorem dL_thrown_786 : decode cL_thrown 786 = .ok (.ifCond .ne 45, 3) := by decide +kernel
theorem dL_thrown_789 : decode cL_thrown 789 = .ok (.iload 5, 2) := by decide +kernel
theorem dL_thrown_791 : decode cL_thrown 791 = .ok (.aload_n 0, 1) := by decide +kernel
theorem dL_thrown_792 : decode cL_thrown 792 = .ok (.iload 8, 2) := by decide +kernel
theorem dL_thrown_794 : decode cL_thrown 794 = .ok (.invokestatic 362, 3) := by decide +kernel
theorem dL_thrown_797 : decode cL_thrown 797 = .ok (.iadd, 1) := by decide +kernel
theorem dL_thrown_798 : decode cL_thrown 798 = .ok (.aload_n 0, 1) := by decide +kernel
theorem dL_thrown_799 : decode cL_thrown 799 = .ok (.iload 8, 2) := by decide +kernel
theorem dL_thrown_801 : decode cL_thrown 801 = .ok (.invokestatic 364, 3) := by decide +kernel
theorem dL_thrown_804 : decode cL_thrown 804 = .ok (.if_icmp .gt 27, 3) := by decide +kernel
theorem dL_thrown_807 : decode cL_thrown 807 = .ok (.iload 6, 2) := by decide +kernel
theorem dL_thrown_809 : decode cL_thrown 809 = .ok (.ifCond .eq 19, 3) := by decide +kernel
theorem dL_thrown_812 : decode cL_thrown 812 = .ok (.aload_n 0, 1) := by decide +kernel
theorem dL_thrown_813 : decode cL_thrown 813 = .ok (.iload 8, 2) := by decide +kernel
theorem dL_thrown_815 : decode cL_thrown 815 = .ok (.invokestatic 244, 3) := by decide +kernel
theorem dL_thrown_818 : decode cL_thrown 818 = .ok (.sipush (-1003), 3) := by decide +kernel
theorem dL_thrown_821 : decode cL_thrown 821 = .ok (.if_icmp .ne 7, 3) := by decide +kernel
theorem dL_thrown_824 : decode cL_thrown 824 = .ok (.iconst 1, 1) := by decide +kernel
theorem dL_thrown_825 : decode cL_thrown 825 = .ok (.goto 4, 3) := by decide +kernel
theorem dL_thrown_828 : decode cL_thrown 828 = .ok (.iconst 0, 1) := by decide +kernel
theorem dL_thrown_829 : decode cL_thrown 829 = .ok (.istore 6, 2) := by decide +kernel
theorem dL_thrown_831 : decode cL_thrown 831 = .ok (.iinc 7 1, 3) := by decide +kernel
theorem dL_thrown_834 : decode cL_thrown 834 = .ok (.goto (-275), 3) := by decide +kernel
theorem dL_thrown_837 : decode cL_thrown 837 = .ok (.iload 6, 2) := by decide +kernel
theorem dL_thrown_839 : decode cL_thrown 839 = .ok (.ifCond .eq 416, 3) := by decide +kernel
theorem dL_thrown_842 : decode cL_thrown 842 = .ok (.aload_n 0, 1) := by decide +kernel
theorem dL_thrown_843 : decode cL_thrown 843 = .ok (.iload_n 3, 1) := by decide +kernel
theorem dL_thrown_844 : decode cL_thrown 844 = .ok (.invokestatic 342, 3) := by decide +kernel
theorem dL_thrown_847 : decode cL_thrown 847 = .ok (.ldc 169, 2) := by decide +kernel
theorem dL_thrown_849 : decode cL_thrown 849 = .ok (.if_icmp .ne 406, 3) := by decide +kernel
theorem dL_thrown_852 : decode cL_thrown 852 = .ok (.aload_n 0, 1) := by decide +kernel
theorem dL_thrown_853 : decode cL_thrown 853 = .ok (.iload_n 3, 1) := by decide +kernel
theorem dL_thrown_854 : decode cL_thrown 854 = .ok (.iload_n 3, 1) := by decide +kernel
theorem dL_thrown_855 : decode cL_thrown 855 = .ok (.invokestatic 366, 3) := by decide +kernel
theorem dL_thrown_858 : decode cL_thrown 858 = .ok (.sipush (-1001), 3) := by decide +kernel
theorem dL_thrown_861 : decode cL_thrown 861 = .ok (.if_icmp .ne 394, 3) := by decide +kernel
theorem dL_thrown_864 : decode cL_thrown 864 = .ok (.aload_n 0, 1) := by decide +kernel
theorem dL_thrown_865 : decode cL_thrown 865 = .ok (.iconst 0, 1) := by decide +kernel
theorem dL_thrown_866 : decode cL_thrown 866 = .ok (.iconst 0, 1) := by decide +kernel
theorem dL_thrown_867 : decode cL_thrown 867 = .ok (.invokestatic 366, 3) := by decide +kernel
theorem dL_thrown_870 : decode cL_thrown 870 = .ok (.sipush (-1002), 3) := by decide +kernel
theorem dL_thrown_873 : decode cL_thrown 873 = .ok (.if_icmp .ne 382, 3) := by decide +kernel
theorem dL_thrown_876 : decode cL_thrown 876 = .ok (.aload_n 0, 1) := by decide +kernel
theorem dL_thrown_877 : decode cL_thrown 877 = .ok (.iload_n 3, 1) := by decide +kernel
theorem dL_thrown_878 : decode cL_thrown 878 = .ok (.iload_n 3, 1) := by decide +kernel
theorem dL_thrown_879 : decode cL_thrown 879 = .ok (.invokestatic 368, 3) := by decide +kernel
theorem dL_thrown_882 : decode cL_thrown 882 = .ok (.sipush (-1001), 3) := by decide +kernel
theorem dL_thrown_885 : decode cL_thrown 885 = .ok (.if_icmp .ne 370, 3) := by decide +kernel
theorem dL_thrown_888 : decode cL_thrown 888 = .ok (.aload_n 0, 1) := by decide +kernel
theorem dL_thrown_889 : decode cL_thrown 889 = .ok (.iconst 1, 1) := by decide +kernel
theorem dL_thrown_890 : decode cL_thrown 890 = .ok (.iconst 1, 1) := by decide +kernel
theorem dL_thrown_891 : decode cL_thrown 891 = .ok (.invokestatic 368, 3) := by decide +kernel
theorem dL_thrown_894 : decode cL_thrown 894 = .ok (.sipush (-1002), 3) := by decide +kernel
theorem dL_thrown_897 : decode cL_thrown 897 = .ok (.if_icmp .ne 358, 3) := by decide +kernel
theorem dL_thrown_900 : decode cL_thrown 900 = .ok (.aload_n 0, 1) := by decide +kernel
theorem dL_thrown_901 : decode cL_thrown 901 = .ok (.iconst 0, 1) := by decide +kernel
theorem dL_thrown_902 : decode cL_thrown 902 = .ok (.iload_n 3, 1) := by decide +kernel
theorem dL_thrown_903 : decode cL_thrown 903 = .ok (.invokestatic 370, 3) := by decide +kernel
theorem dL_thrown_906 : decode cL_thrown 906 = .ok (.sipush (-1001), 3) := by decide +kernel
theorem dL_thrown_909 : decode cL_thrown 909 = .ok (.if_icmp .ne 346, 3) := by decide +kernel
theorem dL_thrown_912 : decode cL_thrown 912 = .ok (.aload_n 0, 1) := by decide +kernel
theorem dL_thrown_913 : decode cL_thrown 913 = .ok (.iconst 0, 1) := by decide +kernel
theorem dL_thrown_914 : decode cL_thrown 914 = .ok (.iconst 0, 1) := by decide +kernel
theorem dL_thrown_915 : decode cL_thrown 915 = .ok (.invokestatic 370, 3) := by decide +kernel
theorem dL_thrown_918 : decode cL_thrown 918 = .ok (.sipush (-1002), 3) := by decide +kernel
theorem dL_thrown_921 : decode cL_thrown 921 = .ok (.if_icmp .ne 334, 3) := by decide +kernel
theorem dL_thrown_924 : decode cL_thrown 924 = .ok (.aload_n 0, 1) := by decide +kernel
theorem dL_thrown_925 : decode cL_thrown 925 = .ok (.aload_n 0, 1) := by decide +kernel
theorem dL_thrown_926 : decode cL_thrown 926 = .ok (.invokevirtual 295, 3) := by decide +kernel
theorem dL_thrown_929 : decode cL_thrown 929 = .ok (.invokestatic 298, 3) := by decide +kernel
theorem dL_thrown_932 : decode cL_thrown 932 = .ok (.sipush (-1001), 3) := by decide +kernel
theorem dL_thrown_935 : decode cL_thrown 935 = .ok (.if_icmp .ne 320, 3) := by decide +kernel
theorem dL_thrown_938 : decode cL_thrown 938 = .ok (.aload_n 0, 1) := by decide +kernel
theorem dL_thrown_939 : decode cL_thrown 939 = .ok (.iconst (-1), 1) := by decide +kernel
theorem dL_thrown_940 : decode cL_thrown 940 = .ok (.invokestatic 298, 3) := by decide +kernel
theorem dL_thrown_943 : decode cL_thrown 943 = .ok (.sipush (-1001), 3) := by decide +kernel
theorem dL_thrown_946 : decode cL_thrown 946 = .ok (.if_icmp .ne 309, 3) := by decide +kernel
theorem dL_thrown_949 : decode cL_thrown 949 = .ok (.aload_n 0, 1) := by decide +kernel
theorem dL_thrown_950 : decode cL_thrown 950 = .ok (.bipush 99, 2) := by decide +kernel
theorem dL_thrown_952 : decode cL_thrown 952 = .ok (.invokestatic 372, 3) := by decide +kernel
theorem dL_thrown_955 : decode cL_thrown 955 = .ok (.sipush (-1001), 3) := by decide +kernel
theorem dL_thrown_958 : decode cL_thrown 958 = .ok (.if_icmp .ne 297, 3) := by decide +kernel
theorem dL_thrown_961 : decode cL_thrown 961 = .ok (.aload_n 0, 1) := by decide +kernel
theorem dL_thrown_962 : decode cL_thrown 962 = .ok (.bipush 99, 2) := by decide +kernel
theorem dL_thrown_964 : decode cL_thrown 964 = .ok (.invokestatic 374, 3) := by decide +kernel
theorem dL_thrown_967 : decode cL_thrown 967 = .ok (.sipush (-1001), 3) := by decide +kernel
theorem dL_thrown_970 : decode cL_thrown 970 = .ok (.if_icmp .ne 285, 3) := by decide +kernel
theorem dL_thrown_973 : decode cL_thrown 973 = .ok (.aload_n 0, 1) := by decide +kernel
theorem dL_thrown_974 : decode cL_thrown 974 = .ok (.iconst (-1), 1) := by decide +kernel
theorem dL_thrown_975 : decode cL_thrown 975 = .ok (.invokestatic 376, 3) := by decide +kernel
theorem dL_thrown_978 : decode cL_thrown 978 = .ok (.sipush (-1001), 3) := by decide +kernel
theorem dL_thrown_981 : decode cL_thrown 981 = .ok (.if_icmp .ne 274, 3) := by decide +kernel
theorem dL_thrown_984 : decode cL_thrown 984 = .ok (.aload_n 0, 1) := by decide +kernel
theorem dL_thrown_985 : decode cL_thrown 985 = .ok (.bipush 99, 2) := by decide +kernel
theorem dL_thrown_987 : decode cL_thrown 987 = .ok (.invokestatic 362, 3) := by decide +kernel
theorem dL_thrown_990 : decode cL_thrown 990 = .ok (.sipush (-1001), 3) := by decide +kernel
theorem dL_thrown_993 : decode cL_thrown 993 = .ok (.if_icmp .ne 262, 3) := by decide +kernel
theorem dL_thrown_996 : decode cL_thrown 996 = .ok (.aload_n 0, 1) := by decide +kernel
theorem dL_thrown_997 : decode cL_thrown 997 = .ok (.bipush 99, 2) := by decide +kernel
theorem dL_thrown_999 : decode cL_thrown 999 = .ok (.invokestatic 364, 3) := by decide +kernel
theorem dL_thrown_1002 : decode cL_thrown 1002 = .ok (.sipush (-1001), 3) := by decide +kernel
theorem dL_thrown_1005 : decode cL_thrown 1005 = .ok (.if_icmp .ne 250, 3) := by decide +kernel
theorem dL_thrown_1008 : decode cL_thrown 1008 = .ok (.aload_n 0, 1) := by decide +kernel
theorem dL_thrown_1009 : decode cL_thrown 1009 = .ok (.bipush 99, 2) := by decide +kernel
theorem dL_thrown_1011 : decode cL_thrown 1011 = .ok (.invokestatic 349, 3) := by decide +kernel
theorem dL_thrown_1014 : decode cL_thrown 1014 = .ok (.sipush (-1001), 3) := by decide +kernel
theorem dL_thrown_1017 : decode cL_thrown 1017 = .ok (.if_icmp .ne 238, 3) := by decide +kernel
theorem dL_thrown_1020 : decode cL_thrown 1020 = .ok (.aload_n 0, 1) := by decide +kernel
theorem dL_thrown_1021 : decode cL_thrown 1021 = .ok (.bipush 99, 2) := by decide +kernel
theorem dL_thrown_1023 : decode cL_thrown 1023 = .ok (.invokestatic 355, 3) := by decide +kernel
theorem dL_thrown_1026 : decode cL_thrown 1026 = .ok (.sipush (-1001), 3) := by decide +kernel
theorem dL_thrown_1029 : decode cL_thrown 1029 = .ok (.if_icmp .ne 226, 3) := by decide +kernel
theorem dL_thrown_1032 : decode cL_thrown 1032 = .ok (.aload_n 0, 1) := by decide +kernel
theorem dL_thrown_1033 : decode cL_thrown 1033 = .ok (.bipush 99, 2) := by decide +kernel
theorem dL_thrown_1035 : decode cL_thrown 1035 = .ok (.bipush 99, 2) := by decide +kernel
theorem dL_thrown_1037 : decode cL_thrown 1037 = .ok (.invokestatic 353, 3) := by decide +kernel
theorem dL_thrown_1040 : decode cL_thrown 1040 = .ok (.sipush (-1001), 3) := by decide +kernel
theorem dL_thrown_1043 : decode cL_thrown 1043 = .ok (.if_icmp .ne 212, 3) := by decide +kernel
theorem dL_thrown_1046 : decode cL_thrown 1046 = .ok (.aload_n 0, 1) := by decide +kernel
theorem dL_thrown_1047 : decode cL_thrown 1047 = .ok (.bipush 99, 2) := by decide +kernel
theorem dL_thrown_1049 : decode cL_thrown 1049 = .ok (.invokestatic 310, 3) := by decide +kernel
theorem dL_thrown_1052 : decode cL_thrown 1052 = .ok (.sipush (-1001), 3) := by decide +kernel
theorem dL_thrown_1055 : decode cL_thrown 1055 = .ok (.if_icmp .ne 200, 3) := by decide +kernel
theorem dL_thrown_1058 : decode cL_thrown 1058 = .ok (.aload_n 0, 1) := by decide +kernel
theorem dL_thrown_1059 : decode cL_thrown 1059 = .ok (.bipush 99, 2) := by decide +kernel
theorem dL_thrown_1061 : decode cL_thrown 1061 = .ok (.invokestatic 351, 3) := by decide +kernel
theorem dL_thrown_1064 : decode cL_thrown 1064 = .ok (.sipush (-1001), 3) := by decide +kernel
theorem dL_thrown_1067 : decode cL_thrown 1067 = .ok (.if_icmp .ne 188, 3) := by decide +kernel
theorem dL_thrown_1070 : decode cL_thrown 1070 = .ok (.aload_n 0, 1) := by decide +kernel
theorem dL_thrown_1071 : decode cL_thrown 1071 = .ok (.bipush 99, 2) := by decide +kernel
theorem dL_thrown_1073 : decode cL_thrown 1073 = .ok (.invokestatic 308, 3) := by decide +kernel
theorem dL_thrown_1076 : decode cL_thrown 1076 = .ok (.sipush (-1001), 3) := by decide +kernel
theorem dL_thrown_1079 : decode cL_thrown 1079 = .ok (.if_icmp .ne 176, 3) := by decide +kernel
theorem dL_thrown_1082 : decode cL_thrown 1082 = .ok (.aload_n 0, 1) := by decide +kernel
theorem dL_thrown_1083 : decode cL_thrown 1083 = .ok (.bipush 99, 2) := by decide +kernel
theorem dL_thrown_1085 : decode cL_thrown 1085 = .ok (.invokestatic 305, 3) := by decide +kernel
theorem dL_thrown_1088 : decode cL_thrown 1088 = .ok (.sipush (-1001), 3) := by decide +kernel
theorem dL_thrown_1091 : decode cL_thrown 1091 = .ok (.if_icmp .ne 164, 3) := by decide +kernel
theorem dL_thrown_1094 : decode cL_thrown 1094 = .ok (.aload_n 0, 1) := by decide +kernel
theorem dL_thrown_1095 : decode cL_thrown 1095 = .ok (.iload 4, 2) := by decide +kernel
theorem dL_thrown_1097 : decode cL_thrown 1097 = .ok (.invokestatic 292, 3) := by decide +kernel
theorem dL_thrown_1100 : decode cL_thrown 1100 = .ok (.sipush (-1001), 3) := by decide +kernel
theorem dL_thrown_1103 : decode cL_thrown 1103 = .ok (.if_icmp .ne 152, 3) := by decide +kernel
theorem dL_thrown_1106 : decode cL_thrown 1106 = .ok (.aload_n 0, 1) := by decide +kernel
theorem dL_thrown_1107 : decode cL_thrown 1107 = .ok (.iconst (-1), 1) := by decide +kernel
theorem dL_thrown_1108 : decode cL_thrown 1108 = .ok (.invokestatic 292, 3) := by decide +kernel
theorem dL_thrown_1111 : decode cL_thrown 1111 = .ok (.sipush (-1001), 3) := by decide +kernel
theorem dL_thrown_1114 : decode cL_thrown 1114 = .ok (.if_icmp .ne 141, 3) := by decide +kernel
theorem dL_thrown_1117 : decode cL_thrown 1117 = .ok (.aload_n 0, 1) := by decide +kernel
theorem dL_thrown_1118 : decode cL_thrown 1118 = .ok (.bipush 99, 2) := by decide +kernel
theorem dL_thrown_1120 : decode cL_thrown 1120 = .ok (.bipush 99, 2) := by decide +kernel
theorem dL_thrown_1122 : decode cL_thrown 1122 = .ok (.invokestatic 357, 3) := by decide +kernel
theorem dL_thrown_1125 : decode cL_thrown 1125 = .ok (.sipush (-1001), 3) := by decide +kernel
theorem dL_thrown_1128 : decode cL_thrown 1128 = .ok (.if_icmp .ne 127, 3) := by decide +kernel
theorem dL_thrown_1131 : decode cL_thrown 1131 = .ok (.aload_n 0, 1) := by decide +kernel
theorem dL_thrown_1132 : decode cL_thrown 1132 = .ok (.bipush 99, 2) := by decide +kernel
theorem dL_thrown_1134 : decode cL_thrown 1134 = .ok (.iconst 0, 1) := by decide +kernel
theorem dL_thrown_1135 : decode cL_thrown 1135 = .ok (.invokestatic 359, 3) := by decide +kernel
theorem dL_thrown_1138 : decode cL_thrown 1138 = .ok (.sipush (-1001), 3) := by decide +kernel
theorem dL_thrown_1141 : decode cL_thrown 1141 = .ok (.if_icmp .ne 114, 3) := by decide +kernel
theorem dL_thrown_1144 : decode cL_thrown 1144 = .ok (.aload_n 0, 1) := by decide +kernel
theorem dL_thrown_1145 : decode cL_thrown 1145 = .ok (.aload_n 0, 1) := by decide +kernel
theorem dL_thrown_1146 : decode cL_thrown 1146 = .ok (.invokevirtual 295, 3) := by decide +kernel
theorem dL_thrown_1149 : decode cL_thrown 1149 = .ok (.invokestatic 302, 3) := by decide +kernel
theorem dL_thrown_1152 : decode cL_thrown 1152 = .ok (.sipush (-1001), 3) := by decide +kernel
theorem dL_thrown_1155 : decode cL_thrown 1155 = .ok (.if_icmp .ne 100, 3) := by decide +kernel
theorem dL_thrown_1158 : decode cL_thrown 1158 = .ok (.aload_n 0, 1) := by decide +kernel
theorem dL_thrown_1159 : decode cL_thrown 1159 = .ok (.iload_n 3, 1) := by decide +kernel
theorem dL_thrown_1160 : decode cL_thrown 1160 = .ok (.invokestatic 289, 3) := by decide +kernel
theorem dL_thrown_1163 : decode cL_thrown 1163 = .ok (.sipush (-1001), 3) := by decide +kernel
theorem dL_thrown_1166 : decode cL_thrown 1166 = .ok (.if_icmp .ne 89, 3) := by decide +kernel
theorem dL_thrown_1169 : decode cL_thrown 1169 = .ok (.aload_n 0, 1) := by decide +kernel
theorem dL_thrown_1170 : decode cL_thrown 1170 = .ok (.iconst (-1), 1) := by decide +kernel
theorem dL_thrown_1171 : decode cL_thrown 1171 = .ok (.invokestatic 289, 3) := by decide +kernel
theorem dL_thrown_1174 : decode cL_thrown 1174 = .ok (.sipush (-1001), 3) := by decide +kernel
theorem dL_thrown_1177 : decode cL_thrown 1177 = .ok (.if_icmp .ne 78, 3) := by decide +kernel
theorem dL_thrown_1180 : decode cL_thrown 1180 = .ok (.aload_n 0, 1) := by decide +kernel
theorem dL_thrown_1181 : decode cL_thrown 1181 = .ok (.bipush 99, 2) := by decide +kernel
theorem dL_thrown_1183 : decode cL_thrown 1183 = .ok (.invokestatic 300, 3) := by decide +kernel
theorem dL_thrown_1186 : decode cL_thrown 1186 = .ok (.sipush (-1001), 3) := by decide +kernel
theorem dL_thrown_1189 : decode cL_thrown 1189 = .ok (.if_icmp .ne 66, 3) := by decide +kernel
theorem dL_thrown_1192 : decode cL_thrown 1192 = .ok (.aload_n 0, 1) := by decide +kernel
theorem dL_thrown_1193 : decode cL_thrown 1193 = .ok (.iload_n 3, 1) := by decide +kernel
theorem dL_thrown_1194 : decode cL_thrown 1194 = .ok (.invokestatic 287, 3) := by decide +kernel
theorem dL_thrown_1197 : decode cL_thrown 1197 = .ok (.sipush (-1001), 3) := by decide +kernel
theorem dL_thrown_1200 : decode cL_thrown 1200 = .ok (.if_icmp .ne 55, 3) := by decide +kernel
theorem dL_thrown_1203 : decode cL_thrown 1203 = .ok (.aload_n 0, 1) := by decide +kernel
theorem dL_thrown_1204 : decode cL_thrown 1204 = .ok (.iconst (-1), 1) := by decide +kernel
theorem dL_thrown_1205 : decode cL_thrown 1205 = .ok (.invokestatic 202, 3) := by decide +kernel
theorem dL_thrown_1208 : decode cL_thrown 1208 = .ok (.sipush (-1001), 3) := by decide +kernel
theorem dL_thrown_1211 : decode cL_thrown 1211 = .ok (.if_icmp .ne 44, 3) := by decide +kernel
theorem dL_thrown_1214 : decode cL_thrown 1214 = .ok (.aload_n 0, 1) := by decide +kernel
theorem dL_thrown_1215 : decode cL_thrown 1215 = .ok (.sipush 160, 3) := by decide +kernel
theorem dL_thrown_1218 : decode cL_thrown 1218 = .ok (.invokestatic 202, 3) := by decide +kernel
theorem dL_thrown_1221 : decode cL_thrown 1221 = .ok (.sipush (-1001), 3) := by decide +kernel
theorem dL_thrown_1224 : decode cL_thrown 1224 = .ok (.if_icmp .ne 31, 3) := by decide +kernel
theorem dL_thrown_1227 : decode cL_thrown 1227 = .ok (.aload_n 0, 1) := by decide +kernel
theorem dL_thrown_1228 : decode cL_thrown 1228 = .ok (.bipush 31, 2) := by decide +kernel
theorem dL_thrown_1230 : decode cL_thrown 1230 = .ok (.invokestatic 196, 3) := by decide +kernel
theorem dL_thrown_1233 : decode cL_thrown 1233 = .ok (.sipush (-1001), 3) := by decide +kernel
theorem dL_thrown_1236 : decode cL_thrown 1236 = .ok (.if_icmp .ne 19, 3) := by decide +kernel
theorem dL_thrown_1239 : decode cL_thrown 1239 = .ok (.aload_n 0, 1) := by decide +kernel
theorem dL_thrown_1240 : decode cL_thrown 1240 = .ok (.bipush 127, 2) := by decide +kernel
theorem dL_thrown_1242 : decode cL_thrown 1242 = .ok (.invokestatic 196, 3) := by decide +kernel
theorem dL_thrown_1245 : decode cL_thrown 1245 = .ok (.sipush (-1001), 3) := by decide +kernel
theorem dL_thrown_1248 : decode cL_thrown 1248 = .ok (.if_icmp .ne 7, 3) := by decide +kernel
theorem dL_thrown_1251 : decode cL_thrown 1251 = .ok (.iconst 1, 1) := by decide +kernel
theorem dL_thrown_1252 : decode cL_thrown 1252 = .ok (.goto 4, 3) := by decide +kernel
theorem dL_thrown_1255 : decode cL_thrown 1255 = .ok (.iconst 0, 1) := by decide +kernel
theorem dL_thrown_1256 : decode cL_thrown 1256 = .ok (.istore 6, 2) := by decide +kernel
theorem dL_thrown_1258 : decode cL_thrown 1258 = .ok (.iload 6, 2) := by decide +kernel
theorem dL_thrown_1260 : decode cL_thrown 1260 = .ok (.ifCond .eq 84, 3) := by decide +kernel
theorem dL_thrown_1263 : decode cL_thrown 1263 = .ok (.aload_n 0, 1) := by decide +kernel
theorem dL_thrown_1264 : decode cL_thrown 1264 = .ok (.ldc_w 378, 3) := by decide +kernel
theorem dL_thrown_1267 : decode cL_thrown 1267 = .ok (.invokestatic 330, 3) := by decide +kernel
theorem dL_thrown_1270 : decode cL_thrown 1270 = .ok (.sipush (-1001), 3) := by decide +kernel
theorem dL_thrown_1273 : decode cL_thrown 1273 = .ok (.if_icmp .ne 71, 3) := by decide +kernel
theorem dL_thrown_1276 : decode cL_thrown 1276 = .ok (.aload_n 0, 1) := by decide +kernel
theorem dL_thrown_1277 : decode cL_thrown 1277 = .ok (.invokestatic 380, 3) := by decide +kernel
theorem dL_thrown_1280 : decode cL_thrown 1280 = .ok (.ifCond .ne 64, 3) := by decide +kernel
theorem dL_thrown_1283 : decode cL_thrown 1283 = .ok (.aload_n 0, 1) := by decide +kernel
theorem dL_thrown_1284 : decode cL_thrown 1284 = .ok (.ldc_w 382, 3) := by decide +kernel
theorem dL_thrown_1287 : decode cL_thrown 1287 = .ok (.invokestatic 330, 3) := by decide +kernel
theorem dL_thrown_1290 : decode cL_thrown 1290 = .ok (.sipush (-1002), 3) := by decide +kernel
theorem dL_thrown_1293 : decode cL_thrown 1293 = .ok (.if_icmp .ne 51, 3) := by decide +kernel
theorem dL_thrown_1296 : decode cL_thrown 1296 = .ok (.aload_n 0, 1) := by decide +kernel
theorem dL_thrown_1297 : decode cL_thrown 1297 = .ok (.invokestatic 384, 3) := by decide +kernel
theorem dL_thrown_1300 : decode cL_thrown 1300 = .ok (.iconst 1, 1) := by decide +kernel
theorem dL_thrown_1301 : decode cL_thrown 1301 = .ok (.if_icmp .ne 43, 3) := by decide +kernel
theorem dL_thrown_1304 : decode cL_thrown 1304 = .ok (.aload_n 0, 1) := by decide +kernel
theorem dL_thrown_1305 : decode cL_thrown 1305 = .ok (.ldc_w 386, 3) := by decide +kernel
theorem dL_thrown_1308 : decode cL_thrown 1308 = .ok (.invokestatic 330, 3) := by decide +kernel
theorem dL_thrown_1311 : decode cL_thrown 1311 = .ok (.sipush (-1002), 3) := by decide +kernel
theorem dL_thrown_1314 : decode cL_thrown 1314 = .ok (.if_icmp .ne 30, 3) := by decide +kernel
theorem dL_thrown_1317 : decode cL_thrown 1317 = .ok (.aload_n 0, 1) := by decide +kernel
theorem dL_thrown_1318 : decode cL_thrown 1318 = .ok (.invokestatic 384, 3) := by decide +kernel
theorem dL_thrown_1321 : decode cL_thrown 1321 = .ok (.ifCond .ne 23, 3) := by decide +kernel
theorem dL_thrown_1324 : decode cL_thrown 1324 = .ok (.aload_n 0, 1) := by decide +kernel
theorem dL_thrown_1325 : decode cL_thrown 1325 = .ok (.invokestatic 380, 3) := by decide +kernel
theorem dL_thrown_1328 : decode cL_thrown 1328 = .ok (.ifCond .ne 16, 3) := by decide +kernel
theorem dL_thrown_1331 : decode cL_thrown 1331 = .ok (.aload_n 0, 1) := by decide +kernel
theorem dL_thrown_1332 : decode cL_thrown 1332 = .ok (.invokestatic 338, 3) := by decide +kernel
theorem dL_thrown_1335 : decode cL_thrown 1335 = .ok (.lload_n 1, 1) := by decide +kernel
theorem dL_thrown_1336 : decode cL_thrown 1336 = .ok (.lcmp, 1) := by decide +kernel
theorem dL_thrown_1337 : decode cL_thrown 1337 = .ok (.ifCond .ne 7, 3) := by decide +kernel
theorem dL_thrown_1340 : decode cL_thrown 1340 = .ok (.iconst 1, 1) := by decide +kernel
theorem dL_thrown_1341 : decode cL_thrown 1341 = .ok (.goto 4, 3) := by decide +kernel
theorem dL_thrown_1344 : decode cL_thrown 1344 = .ok (.iconst 0, 1) := by decide +kernel
theorem dL_thrown_1345 : decode cL_thrown 1345 = .ok (.ireturn, 1) := by decide +kernel
theorem dL_law_0 : decode cL_law 0 = .ok (.new 8, 3) := by decide +kernel
theorem dL_law_3 : decode cL_law 3 = .ok (.dup, 1) := by decide +kernel
theorem dL_law_4 : decode cL_law 4 = .ok (.invokespecial 388, 3) := by decide +kernel
theorem dL_law_7 : decode cL_law 7 = .ok (.astore_n 1, 1) := by decide +kernel
theorem dL_law_8 : decode cL_law 8 = .ok (.aload_n 1, 1) := by decide +kernel
theorem dL_law_9 : decode cL_law 9 = .ok (.invokestatic 389, 3) := by decide +kernel
theorem dL_law_12 : decode cL_law 12 = .ok (.sipush (-1001), 3) := by decide +kernel
theorem dL_law_15 : decode cL_law 15 = .ok (.if_icmp .ne 31, 3) := by decide +kernel
theorem dL_law_18 : decode cL_law 18 = .ok (.aload_n 1, 1) := by decide +kernel
theorem dL_law_19 : decode cL_law 19 = .ok (.invokestatic 391, 3) := by decide +kernel
theorem dL_law_22 : decode cL_law 22 = .ok (.sipush (-1001), 3) := by decide +kernel
theorem dL_law_25 : decode cL_law 25 = .ok (.if_icmp .ne 21, 3) := by decide +kernel
theorem dL_law_28 : decode cL_law 28 = .ok (.aload_n 1, 1) := by decide +kernel
theorem dL_law_29 : decode cL_law 29 = .ok (.invokevirtual 393, 3) := by decide +kernel
theorem dL_law_32 : decode cL_law 32 = .ok (.ifCond .ne 14, 3) := by decide +kernel
theorem dL_law_35 : decode cL_law 35 = .ok (.aload_n 1, 1) := by decide +kernel
theorem dL_law_36 : decode cL_law 36 = .ok (.bipush 99, 2) := by decide +kernel
theorem dL_law_38 : decode cL_law 38 = .ok (.invokestatic 334, 3) := by decide +kernel
theorem dL_law_41 : decode cL_law 41 = .ok (.bipush 99, 2) := by decide +kernel
theorem dL_law_43 : decode cL_law 43 = .ok (.if_icmp .eq 5, 3) := by decide +kernel
theorem dL_law_46 : decode cL_law 46 = .ok (.iconst 0, 1) := by decide +kernel
theorem dL_law_47 : decode cL_law 47 = .ok (.ireturn, 1) := by decide +kernel
theorem dL_law_48 : decode cL_law 48 = .ok (.iconst 0, 1) := by decide +kernel
theorem dL_law_49 : decode cL_law 49 = .ok (.istore_n 2, 1) := by decide +kernel
theorem dL_law_50 : decode cL_law 50 = .ok (.iload_n 2, 1) := by decide +kernel
theorem dL_law_51 : decode cL_law 51 = .ok (.bipush 60, 2) := by decide +kernel
theorem dL_law_53 : decode cL_law 53 = .ok (.if_icmp .ge 29, 3) := by decide +kernel
theorem dL_law_56 : decode cL_law 56 = .ok (.aload_n 1, 1) := by decide +kernel
theorem dL_law_57 : decode cL_law 57 = .ok (.bipush 65, 2) := by decide +kernel
theorem dL_law_59 : decode cL_law 59 = .ok (.iload_n 2, 1) := by decide +kernel
theorem dL_law_60 : decode cL_law 60 = .ok (.bipush 26, 2) := by decide +kernel
theorem dL_law_62 : decode cL_law 62 = .ok (.irem, 1) := by decide +kernel
theorem dL_law_63 : decode cL_law 63 = .ok (.iadd, 1) := by decide +kernel
theorem dL_law_64 : decode cL_law 64 = .ok (.i2c, 1) := by decide +kernel
theorem dL_law_65 : decode cL_law 65 = .ok (.invokestatic 196, 3) := by decide +kernel
theorem dL_law_68 : decode cL_law 68 = .ok (.iload_n 2, 1) := by decide +kernel
theorem dL_law_69 : decode cL_law 69 = .ok (.iconst 1, 1) := by decide +kernel
theorem dL_law_70 : decode cL_law 70 = .ok (.iadd, 1) := by decide +kernel
theorem dL_law_71 : decode cL_law 71 = .ok (.if_icmp .eq 5, 3) := by decide +kernel
theorem dL_law_74 : decode cL_law 74 = .ok (.iconst 0, 1) := by decide +kernel
theorem dL_law_75 : decode cL_law 75 = .ok (.ireturn, 1) := by decide +kernel
theorem dL_law_76 : decode cL_law 76 = .ok (.iinc 2 1, 3) := by decide +kernel
theorem dL_law_79 : decode cL_law 79 = .ok (.goto (-29), 3) := by decide +kernel
theorem dL_law_82 : decode cL_law 82 = .ok (.aload_n 1, 1) := by decide +kernel
theorem dL_law_83 : decode cL_law 83 = .ok (.bipush 100, 2) := by decide +kernel
theorem dL_law_85 : decode cL_law 85 = .ok (.invokestatic 196, 3) := by decide +kernel
theorem dL_law_88 : decode cL_law 88 = .ok (.sipush (-1002), 3) := by decide +kernel
theorem dL_law_91 : decode cL_law 91 = .ok (.if_icmp .ne 48, 3) := by decide +kernel
theorem dL_law_94 : decode cL_law 94 = .ok (.aload_n 1, 1) := by decide +kernel
theorem dL_law_95 : decode cL_law 95 = .ok (.invokestatic 198, 3) := by decide +kernel
theorem dL_law_98 : decode cL_law 98 = .ok (.sipush (-1001), 3) := by decide +kernel
theorem dL_law_101 : decode cL_law 101 = .ok (.if_icmp .ne 38, 3) := by decide +kernel
theorem dL_law_104 : decode cL_law 104 = .ok (.aload_n 1, 1) := by decide +kernel
theorem dL_law_105 : decode cL_law 105 = .ok (.invokestatic 380, 3) := by decide +kernel
theorem dL_law_108 : decode cL_law 108 = .ok (.ifCond .ne 31, 3) := by decide +kernel
theorem dL_law_111 : decode cL_law 111 = .ok (.aload_n 1, 1) := by decide +kernel
theorem dL_law_112 : decode cL_law 112 = .ok (.bipush 100, 2) := by decide +kernel
theorem dL_law_114 : decode cL_law 114 = .ok (.invokestatic 196, 3) := by decide +kernel
theorem dL_law_117 : decode cL_law 117 = .ok (.iconst 1, 1) := by decide +kernel
theorem dL_law_118 : decode cL_law 118 = .ok (.if_icmp .ne 21, 3) := by decide +kernel
theorem dL_law_121 : decode cL_law 121 = .ok (.aload_n 1, 1) := by decide +kernel
theorem dL_law_122 : decode cL_law 122 = .ok (.invokestatic 198, 3) := by decide +kernel
theorem dL_law_125 : decode cL_law 125 = .ok (.sipush (-1001), 3) := by decide +kernel
theorem dL_law_128 : decode cL_law 128 = .ok (.if_icmp .ne 11, 3) := by decide +kernel
theorem dL_law_131 : decode cL_law 131 = .ok (.aload_n 1, 1) := by decide +kernel
theorem dL_law_132 : decode cL_law 132 = .ok (.invokestatic 380, 3) := by decide +kernel
theorem dL_law_135 : decode cL_law 135 = .ok (.iconst 1, 1) := by decide +kernel
theorem dL_law_136 : decode cL_law 136 = .ok (.if_icmp .eq 5, 3) := by decide +kernel
theorem dL_law_139 : decode cL_law 139 = .ok (.iconst 0, 1) := by decide +kernel
theorem dL_law_140 : decode cL_law 140 = .ok (.ireturn, 1) := by decide +kernel
theorem dL_law_141 : decode cL_law 141 = .ok (.iconst 0, 1) := by decide +kernel
theorem dL_law_142 : decode cL_law 142 = .ok (.istore_n 2, 1) := by decide +kernel
theorem dL_law_143 : decode cL_law 143 = .ok (.iload_n 2, 1) := by decide +kernel
theorem dL_law_144 : decode cL_law 144 = .ok (.bipush 8, 2) := by decide +kernel
theorem dL_law_146 : decode cL_law 146 = .ok (.if_icmp .ge 31, 3) := by decide +kernel
theorem dL_law_149 : decode cL_law 149 = .ok (.aload_n 1, 1) := by decide +kernel
theorem dL_law_150 : decode cL_law 150 = .ok (.invokestatic 227, 3) := by decide +kernel
theorem dL_law_153 : decode cL_law 153 = .ok (.iload_n 2, 1) := by decide +kernel
theorem dL_law_154 : decode cL_law 154 = .ok (.if_icmp .ne 15, 3) := by decide +kernel
theorem dL_law_157 : decode cL_law 157 = .ok (.aload_n 1, 1) := by decide +kernel
theorem dL_law_158 : decode cL_law 158 = .ok (.bipush 97, 2) := by decide +kernel
theorem dL_law_160 : decode cL_law 160 = .ok (.invokestatic 181, 3) := by decide +kernel
theorem dL_law_163 : decode cL_law 163 = .ok (.iload_n 2, 1) := by decide +kernel
theorem dL_law_164 : decode cL_law 164 = .ok (.iconst 1, 1) := by decide +kernel
theorem dL_law_165 : decode cL_law 165 = .ok (.iadd, 1) := by decide +kernel
theorem dL_law_166 : decode cL_law 166 = .ok (.if_icmp .eq 5, 3) := by decide +kernel
theorem dL_law_169 : decode cL_law 169 = .ok (.iconst 0, 1) := by decide +kernel
theorem dL_law_170 : decode cL_law 170 = .ok (.ireturn, 1) := by decide +kernel
theorem dL_law_171 : decode cL_law 171 = .ok (.iinc 2 1, 3) := by decide +kernel
theorem dL_law_174 : decode cL_law 174 = .ok (.goto (-31), 3) := by decide +kernel
theorem dL_law_177 : decode cL_law 177 = .ok (.aload_n 1, 1) := by decide +kernel
theorem dL_law_178 : decode cL_law 178 = .ok (.invokestatic 227, 3) := by decide +kernel
theorem dL_law_181 : decode cL_law 181 = .ok (.sipush (-1001), 3) := by decide +kernel
theorem dL_law_184 : decode cL_law 184 = .ok (.if_icmp .ne 24, 3) := by decide +kernel
theorem dL_law_187 : decode cL_law 187 = .ok (.aload_n 1, 1) := by decide +kernel
theorem dL_law_188 : decode cL_law 188 = .ok (.bipush 97, 2) := by decide +kernel
theorem dL_law_190 : decode cL_law 190 = .ok (.invokestatic 181, 3) := by decide +kernel
theorem dL_law_193 : decode cL_law 193 = .ok (.sipush (-1002), 3) := by decide +kernel
theorem dL_law_196 : decode cL_law 196 = .ok (.if_icmp .ne 12, 3) := by decide +kernel
theorem dL_law_199 : decode cL_law 199 = .ok (.aload_n 1, 1) := by decide +kernel
theorem dL_law_200 : decode cL_law 200 = .ok (.invokevirtual 170, 3) := by decide +kernel
theorem dL_law_203 : decode cL_law 203 = .ok (.bipush 8, 2) := by decide +kernel
theorem dL_law_205 : decode cL_law 205 = .ok (.if_icmp .eq 5, 3) := by decide +kernel
theorem dL_law_208 : decode cL_law 208 = .ok (.iconst 0, 1) := by decide +kernel
theorem dL_law_209 : decode cL_law 209 = .ok (.ireturn, 1) := by decide +kernel
theorem dL_law_210 : decode cL_law 210 = .ok (.iconst 0, 1) := by decide +kernel
theorem dL_law_211 : decode cL_law 211 = .ok (.istore_n 2, 1) := by decide +kernel
theorem dL_law_212 : decode cL_law 212 = .ok (.iload_n 2, 1) := by decide +kernel
theorem dL_law_213 : decode cL_law 213 = .ok (.bipush 20, 2) := by decide +kernel
theorem dL_law_215 : decode cL_law 215 = .ok (.if_icmp .ge 25, 3) := by decide +kernel
theorem dL_law_218 : decode cL_law 218 = .ok (.aload_n 1, 1) := by decide +kernel
theorem dL_law_219 : decode cL_law 219 = .ok (.iconst 5, 1) := by decide +kernel
theorem dL_law_220 : decode cL_law 220 = .ok (.iload_n 2, 1) := by decide +kernel
theorem dL_law_221 : decode cL_law 221 = .ok (.imul, 1) := by decide +kernel
theorem dL_law_222 : decode cL_law 222 = .ok (.ldc_w 336, 3) := by decide +kernel
theorem dL_law_225 : decode cL_law 225 = .ok (.invokestatic 236, 3) := by decide +kernel
theorem dL_law_228 : decode cL_law 228 = .ok (.iload_n 2, 1) := by decide +kernel
theorem dL_law_229 : decode cL_law 229 = .ok (.if_icmp .eq 5, 3) := by decide +kernel
theorem dL_law_232 : decode cL_law 232 = .ok (.iconst 0, 1) := by decide +kernel
theorem dL_law_233 : decode cL_law 233 = .ok (.ireturn, 1) := by decide +kernel
theorem dL_law_234 : decode cL_law 234 = .ok (.iinc 2 1, 3) := by decide +kernel
theorem dL_law_237 : decode cL_law 237 = .ok (.goto (-25), 3) := by decide +kernel
theorem dL_law_240 : decode cL_law 240 = .ok (.iconst 0, 1) := by decide +kernel
theorem dL_law_241 : decode cL_law 241 = .ok (.istore_n 2, 1) := by decide +kernel
theorem dL_law_242 : decode cL_law 242 = .ok (.iload_n 2, 1) := by decide +kernel
theorem dL_law_243 : decode cL_law 243 = .ok (.bipush 12, 2) := by decide +kernel
theorem dL_law_245 : decode cL_law 245 = .ok (.if_icmp .ge 38, 3) := by decide +kernel
theorem dL_law_248 : decode cL_law 248 = .ok (.aload_n 1, 1) := by decide +kernel
theorem dL_law_249 : decode cL_law 249 = .ok (.iload_n 2, 1) := by decide +kernel
theorem dL_law_250 : decode cL_law 250 = .ok (.bipush 8, 2) := by decide +kernel
theorem dL_law_252 : decode cL_law 252 = .ok (.irem, 1) := by decide +kernel
theorem dL_law_253 : decode cL_law 253 = .ok (.iload_n 2, 1) := by decide +kernel
theorem dL_law_254 : decode cL_law 254 = .ok (.iconst 1, 1) := by decide +kernel
theorem dL_law_255 : decode cL_law 255 = .ok (.iadd, 1) := by decide +kernel
theorem dL_law_256 : decode cL_law 256 = .ok (.bipush 8, 2) := by decide +kernel
theorem dL_law_258 : decode cL_law 258 = .ok (.irem, 1) := by decide +kernel
theorem dL_law_259 : decode cL_law 259 = .ok (.bipush 10, 2) := by decide +kernel
theorem dL_law_261 : decode cL_law 261 = .ok (.iconst 1, 1) := by decide +kernel
theorem dL_law_262 : decode cL_law 262 = .ok (.sipush 999, 3) := by decide +kernel
theorem dL_law_265 : decode cL_law 265 = .ok (.ldc_w 336, 3) := by decide +kernel
theorem dL_law_268 : decode cL_law 268 = .ok (.invokestatic 240, 3) := by decide +kernel
theorem dL_law_271 : decode cL_law 271 = .ok (.iload_n 2, 1) := by decide +kernel
theorem dL_law_272 : decode cL_law 272 = .ok (.if_icmp .eq 5, 3) := by decide +kernel
theorem dL_law_275 : decode cL_law 275 = .ok (.iconst 0, 1) := by decide +kernel
theorem dL_law_276 : decode cL_law 276 = .ok (.ireturn, 1) := by decide +kernel
theorem dL_law_277 : decode cL_law 277 = .ok (.iinc 2 1, 3) := by decide +kernel
theorem dL_law_280 : decode cL_law 280 = .ok (.goto (-38), 3) := by decide +kernel
theorem dL_law_283 : decode cL_law 283 = .ok (.aload_n 1, 1) := by decide +kernel
theorem dL_law_284 : decode cL_law 284 = .ok (.iconst 0, 1) := by decide +kernel
theorem dL_law_285 : decode cL_law 285 = .ok (.iconst 1, 1) := by decide +kernel
theorem dL_law_286 : decode cL_law 286 = .ok (.iconst 1, 1) := by decide +kernel
theorem dL_law_287 : decode cL_law 287 = .ok (.iconst 1, 1) := by decide +kernel
theorem dL_law_288 : decode cL_law 288 = .ok (.iconst 1, 1) := by decide +kernel
theorem dL_law_289 : decode cL_law 289 = .ok (.ldc_w 396, 3) := by decide +kernel
theorem dL_law_292 : decode cL_law 292 = .ok (.invokestatic 240, 3) := by decide +kernel
theorem dL_law_295 : decode cL_law 295 = .ok (.sipush (-1003), 3) := by decide +kernel
theorem dL_law_298 : decode cL_law 298 = .ok (.if_icmp .ne 169, 3) := by decide +kernel
theorem dL_law_301 : decode cL_law 301 = .ok (.aload_n 1, 1) := by decide +kernel
theorem dL_law_302 : decode cL_law 302 = .ok (.invokevirtual 170, 3) := by decide +kernel
theorem dL_law_305 : decode cL_law 305 = .ok (.iconst 1, 1) := by decide +kernel
theorem dL_law_306 : decode cL_law 306 = .ok (.if_icmp .ne 161, 3) := by decide +kernel
theorem dL_law_309 : decode cL_law 309 = .ok (.aload_n 1, 1) := by decide +kernel
theorem dL_law_310 : decode cL_law 310 = .ok (.bipush 50, 2) := by decide +kernel
theorem dL_law_312 : decode cL_law 312 = .ok (.ldc_w 396, 3) := by decide +kernel
theorem dL_law_315 : decode cL_law 315 = .ok (.invokestatic 236, 3) := by decide +kernel
theorem dL_law_318 : decode cL_law 318 = .ok (.sipush (-1002), 3) := by decide +kernel
theorem dL_law_321 : decode cL_law 321 = .ok (.if_icmp .ne 146, 3) := by decide +kernel
theorem dL_law_324 : decode cL_law 324 = .ok (.aload_n 1, 1) := by decide +kernel
theorem dL_law_325 : decode cL_law 325 = .ok (.invokevirtual 170, 3) := by decide +kernel
theorem dL_law_328 : decode cL_law 328 = .ok (.iconst 1, 1) := by decide +kernel
theorem dL_law_329 : decode cL_law 329 = .ok (.if_icmp .ne 138, 3) := by decide +kernel
theorem dL_law_332 : decode cL_law 332 = .ok (.aload_n 1, 1) := by decide +kernel
theorem dL_law_333 : decode cL_law 333 = .ok (.iconst 0, 1) := by decide +kernel
theorem dL_law_334 : decode cL_law 334 = .ok (.invokestatic 244, 3) := by decide +kernel
theorem dL_law_337 : decode cL_law 337 = .ok (.bipush 9, 2) := by decide +kernel
theorem dL_law_339 : decode cL_law 339 = .ok (.if_icmp .ne 128, 3) := by decide +kernel
theorem dL_law_342 : decode cL_law 342 = .ok (.aload_n 1, 1) := by decide +kernel
theorem dL_law_343 : decode cL_law 343 = .ok (.invokevirtual 275, 3) := by decide +kernel
theorem dL_law_346 : decode cL_law 346 = .ok (.bipush 20, 2) := by decide +kernel
theorem dL_law_348 : decode cL_law 348 = .ok (.if_icmp .ne 119, 3) := by decide +kernel
theorem dL_law_351 : decode cL_law 351 = .ok (.aload_n 1, 1) := by decide +kernel
theorem dL_law_352 : decode cL_law 352 = .ok (.iconst 0, 1) := by decide +kernel
theorem dL_law_353 : decode cL_law 353 = .ok (.invokestatic 308, 3) := by decide +kernel
theorem dL_law_356 : decode cL_law 356 = .ok (.bipush 29, 2) := by decide +kernel
theorem dL_law_358 : decode cL_law 358 = .ok (.if_icmp .ne 109, 3) := by decide +kernel
theorem dL_law_361 : decode cL_law 361 = .ok (.aload_n 1, 1) := by decide +kernel
theorem dL_law_362 : decode cL_law 362 = .ok (.iconst 0, 1) := by decide +kernel
theorem dL_law_363 : decode cL_law 363 = .ok (.invokestatic 342, 3) := by decide +kernel
theorem dL_law_366 : decode cL_law 366 = .ok (.bipush 8, 2) := by decide +kernel
theorem dL_law_368 : decode cL_law 368 = .ok (.if_icmp .ne 99, 3) := by decide +kernel
theorem dL_law_371 : decode cL_law 371 = .ok (.aload_n 1, 1) := by decide +kernel
theorem dL_law_372 : decode cL_law 372 = .ok (.iconst 1, 1) := by decide +kernel
theorem dL_law_373 : decode cL_law 373 = .ok (.invokestatic 342, 3) := by decide +kernel
theorem dL_law_376 : decode cL_law 376 = .ok (.bipush (-37), 2) := by decide +kernel
theorem dL_law_378 : decode cL_law 378 = .ok (.if_icmp .ne 89, 3) := by decide +kernel
theorem dL_law_381 : decode cL_law 381 = .ok (.aload_n 1, 1) := by decide +kernel
theorem dL_law_382 : decode cL_law 382 = .ok (.invokevirtual 269, 3) := by decide +kernel
theorem dL_law_385 : decode cL_law 385 = .ok (.bipush 29, 2) := by decide +kernel
theorem dL_law_387 : decode cL_law 387 = .ok (.if_icmp .ne 80, 3) := by decide +kernel
theorem dL_law_390 : decode cL_law 390 = .ok (.aload_n 1, 1) := by decide +kernel
theorem dL_law_391 : decode cL_law 391 = .ok (.iconst 0, 1) := by decide +kernel
theorem dL_law_392 : decode cL_law 392 = .ok (.invokestatic 315, 3) := by decide +kernel
theorem dL_law_395 : decode cL_law 395 = .ok (.bipush 9, 2) := by decide +kernel
theorem dL_law_397 : decode cL_law 397 = .ok (.if_icmp .ne 70, 3) := by decide +kernel
theorem dL_law_400 : decode cL_law 400 = .ok (.aload_n 1, 1) := by decide +kernel
theorem dL_law_401 : decode cL_law 401 = .ok (.iconst 0, 1) := by decide +kernel
theorem dL_law_402 : decode cL_law 402 = .ok (.invokestatic 310, 3) := by decide +kernel
theorem dL_law_405 : decode cL_law 405 = .ok (.bipush 90, 2) := by decide +kernel
theorem dL_law_407 : decode cL_law 407 = .ok (.if_icmp .ne 60, 3) := by decide +kernel
theorem dL_law_410 : decode cL_law 410 = .ok (.aload_n 1, 1) := by decide +kernel
theorem dL_law_411 : decode cL_law 411 = .ok (.iconst 0, 1) := by decide +kernel
theorem dL_law_412 : decode cL_law 412 = .ok (.invokestatic 342, 3) := by decide +kernel
theorem dL_law_415 : decode cL_law 415 = .ok (.iconst 5, 1) := by decide +kernel
theorem dL_law_416 : decode cL_law 416 = .ok (.if_icmp .ne 51, 3) := by decide +kernel
theorem dL_law_419 : decode cL_law 419 = .ok (.aload_n 1, 1) := by decide +kernel
theorem dL_law_420 : decode cL_law 420 = .ok (.iconst 1, 1) := by decide +kernel
theorem dL_law_421 : decode cL_law 421 = .ok (.invokestatic 342, 3) := by decide +kernel
theorem dL_law_424 : decode cL_law 424 = .ok (.bipush (-40), 2) := by decide +kernel
theorem dL_law_426 : decode cL_law 426 = .ok (.if_icmp .ne 41, 3) := by decide +kernel
theorem dL_law_429 : decode cL_law 429 = .ok (.aload_n 1, 1) := by decide +kernel
theorem dL_law_430 : decode cL_law 430 = .ok (.invokevirtual 269, 3) := by decide +kernel
theorem dL_law_433 : decode cL_law 433 = .ok (.bipush 35, 2) := by decide +kernel
theorem dL_law_435 : decode cL_law 435 = .ok (.if_icmp .ne 32, 3) := by decide +kernel
theorem dL_law_438 : decode cL_law 438 = .ok (.aload_n 1, 1) := by decide +kernel
theorem dL_law_439 : decode cL_law 439 = .ok (.bipush 11, 2) := by decide +kernel
theorem dL_law_441 : decode cL_law 441 = .ok (.invokestatic 317, 3) := by decide +kernel
theorem dL_law_444 : decode cL_law 444 = .ok (.bipush 10, 2) := by decide +kernel
theorem dL_law_446 : decode cL_law 446 = .ok (.if_icmp .ne 21, 3) := by decide +kernel
theorem dL_law_449 : decode cL_law 449 = .ok (.aload_n 1, 1) := by decide +kernel
theorem dL_law_450 : decode cL_law 450 = .ok (.iconst 1, 1) := by decide +kernel
theorem dL_law_451 : decode cL_law 451 = .ok (.iconst 2, 1) := by decide +kernel
theorem dL_law_452 : decode cL_law 452 = .ok (.bipush 7, 2) := by decide +kernel
theorem dL_law_454 : decode cL_law 454 = .ok (.iconst 1, 1) := by decide +kernel
theorem dL_law_455 : decode cL_law 455 = .ok (.iconst 5, 1) := by decide +kernel
theorem dL_law_456 : decode cL_law 456 = .ok (.ldc_w 398, 3) := by decide +kernel
theorem dL_law_459 : decode cL_law 459 = .ok (.invokestatic 240, 3) := by decide +kernel
theorem dL_law_462 : decode cL_law 462 = .ok (.bipush 12, 2) := by decide +kernel
theorem dL_law_464 : decode cL_law 464 = .ok (.if_icmp .eq 5, 3) := by decide +kernel
theorem dL_law_467 : decode cL_law 467 = .ok (.iconst 0, 1) := by decide +kernel
theorem dL_law_468 : decode cL_law 468 = .ok (.ireturn, 1) := by decide +kernel
theorem dL_law_469 : decode cL_law 469 = .ok (.aload_n 1, 1) := by decide +kernel
theorem dL_law_470 : decode cL_law 470 = .ok (.invokestatic 389, 3) := by decide +kernel
theorem dL_law_473 : decode cL_law 473 = .ok (.bipush 7, 2) := by decide +kernel
theorem dL_law_475 : decode cL_law 475 = .ok (.if_icmp .ne 160, 3) := by decide +kernel
theorem dL_law_478 : decode cL_law 478 = .ok (.aload_n 1, 1) := by decide +kernel
theorem dL_law_479 : decode cL_law 479 = .ok (.invokevirtual 295, 3) := by decide +kernel
theorem dL_law_482 : decode cL_law 482 = .ok (.bipush 11, 2) := by decide +kernel
theorem dL_law_484 : decode cL_law 484 = .ok (.if_icmp .ne 151, 3) := by decide +kernel
theorem dL_law_487 : decode cL_law 487 = .ok (.aload_n 1, 1) := by decide +kernel
theorem dL_law_488 : decode cL_law 488 = .ok (.invokestatic 389, 3) := by decide +kernel
theorem dL_law_491 : decode cL_law 491 = .ok (.bipush 6, 2) := by decide +kernel
theorem dL_law_493 : decode cL_law 493 = .ok (.if_icmp .ne 142, 3) := by decide +kernel
theorem dL_law_496 : decode cL_law 496 = .ok (.aload_n 1, 1) := by decide +kernel
theorem dL_law_497 : decode cL_law 497 = .ok (.bipush 11, 2) := by decide +kernel
theorem dL_law_499 : decode cL_law 499 = .ok (.invokestatic 376, 3) := by decide +kernel
theorem dL_law_502 : decode cL_law 502 = .ok (.bipush 10, 2) := by decide +kernel
theorem dL_law_504 : decode cL_law 504 = .ok (.if_icmp .ne 131, 3) := by decide +kernel
theorem dL_law_507 : decode cL_law 507 = .ok (.aload_n 1, 1) := by decide +kernel
theorem dL_law_508 : decode cL_law 508 = .ok (.invokestatic 389, 3) := by decide +kernel
theorem dL_law_511 : decode cL_law 511 = .ok (.iconst 5, 1) := by decide +kernel
theorem dL_law_512 : decode cL_law 512 = .ok (.if_icmp .ne 123, 3) := by decide +kernel
theorem dL_law_515 : decode cL_law 515 = .ok (.aload_n 1, 1) := by decide +kernel
theorem dL_law_516 : decode cL_law 516 = .ok (.iconst 1, 1) := by decide +kernel
theorem dL_law_517 : decode cL_law 517 = .ok (.invokestatic 342, 3) := by decide +kernel
theorem dL_law_520 : decode cL_law 520 = .ok (.bipush (-37), 2) := by decide +kernel
theorem dL_law_522 : decode cL_law 522 = .ok (.if_icmp .ne 113, 3) := by decide +kernel
theorem dL_law_525 : decode cL_law 525 = .ok (.aload_n 1, 1) := by decide +kernel
theorem dL_law_526 : decode cL_law 526 = .ok (.invokestatic 389, 3) := by decide +kernel
theorem dL_law_529 : decode cL_law 529 = .ok (.iconst 4, 1) := by decide +kernel
theorem dL_law_530 : decode cL_law 530 = .ok (.if_icmp .ne 105, 3) := by decide +kernel
theorem dL_law_533 : decode cL_law 533 = .ok (.aload_n 1, 1) := by decide +kernel
theorem dL_law_534 : decode cL_law 534 = .ok (.iconst 0, 1) := by decide +kernel
theorem dL_law_535 : decode cL_law 535 = .ok (.invokestatic 349, 3) := by decide +kernel
theorem dL_law_538 : decode cL_law 538 = .ok (.bipush 102, 2) := by decide +kernel
theorem dL_law_540 : decode cL_law 540 = .ok (.if_icmp .ne 95, 3) := by decide +kernel
theorem dL_law_543 : decode cL_law 543 = .ok (.aload_n 1, 1) := by decide +kernel
theorem dL_law_544 : decode cL_law 544 = .ok (.invokevirtual 272, 3) := by decide +kernel
theorem dL_law_547 : decode cL_law 547 = .ok (.bipush 99, 2) := by decide +kernel
theorem dL_law_549 : decode cL_law 549 = .ok (.if_icmp .ne 86, 3) := by decide +kernel
theorem dL_law_552 : decode cL_law 552 = .ok (.aload_n 1, 1) := by decide +kernel
theorem dL_law_553 : decode cL_law 553 = .ok (.invokevirtual 269, 3) := by decide +kernel
theorem dL_law_556 : decode cL_law 556 = .ok (.ifCond .ne 79, 3) := by decide +kernel
theorem dL_law_559 : decode cL_law 559 = .ok (.aload_n 1, 1) := by decide +kernel
theorem dL_law_560 : decode cL_law 560 = .ok (.invokestatic 389, 3) := by decide +kernel
theorem dL_law_563 : decode cL_law 563 = .ok (.iconst 3, 1) := by decide +kernel
theorem dL_law_564 : decode cL_law 564 = .ok (.if_icmp .ne 71, 3) := by decide +kernel
theorem dL_law_567 : decode cL_law 567 = .ok (.aload_n 1, 1) := by decide +kernel
theorem dL_law_568 : decode cL_law 568 = .ok (.invokevirtual 295, 3) := by decide +kernel
theorem dL_law_571 : decode cL_law 571 = .ok (.bipush 11, 2) := by decide +kernel
theorem dL_law_573 : decode cL_law 573 = .ok (.if_icmp .ne 62, 3) := by decide +kernel
theorem dL_law_576 : decode cL_law 576 = .ok (.aload_n 1, 1) := by decide +kernel
theorem dL_law_577 : decode cL_law 577 = .ok (.invokestatic 389, 3) := by decide +kernel
theorem dL_law_580 : decode cL_law 580 = .ok (.iconst 2, 1) := by decide +kernel
theorem dL_law_581 : decode cL_law 581 = .ok (.if_icmp .ne 54, 3) := by decide +kernel
theorem dL_law_584 : decode cL_law 584 = .ok (.aload_n 1, 1) := by decide +kernel
theorem dL_law_585 : decode cL_law 585 = .ok (.invokestatic 389, 3) := by decide +kernel
theorem dL_law_588 : decode cL_law 588 = .ok (.iconst 1, 1) := by decide +kernel
theorem dL_law_589 : decode cL_law 589 = .ok (.if_icmp .ne 46, 3) := by decide +kernel
theorem dL_law_592 : decode cL_law 592 = .ok (.aload_n 1, 1) := by decide +kernel
theorem dL_law_593 : decode cL_law 593 = .ok (.invokestatic 389, 3) := by decide +kernel
theorem dL_law_596 : decode cL_law 596 = .ok (.ifCond .ne 39, 3) := by decide +kernel
theorem dL_law_599 : decode cL_law 599 = .ok (.aload_n 1, 1) := by decide +kernel
theorem dL_law_600 : decode cL_law 600 = .ok (.invokevirtual 295, 3) := by decide +kernel
theorem dL_law_603 : decode cL_law 603 = .ok (.bipush 8, 2) := by decide +kernel
theorem dL_law_605 : decode cL_law 605 = .ok (.if_icmp .ne 30, 3) := by decide +kernel
theorem dL_law_608 : decode cL_law 608 = .ok (.aload_n 1, 1) := by decide +kernel
theorem dL_law_609 : decode cL_law 609 = .ok (.invokestatic 389, 3) := by decide +kernel
theorem dL_law_612 : decode cL_law 612 = .ok (.sipush (-1001), 3) := by decide +kernel
theorem dL_law_615 : decode cL_law 615 = .ok (.if_icmp .ne 20, 3) := by decide +kernel
theorem dL_law_618 : decode cL_law 618 = .ok (.aload_n 1, 1) := by decide +kernel
theorem dL_law_619 : decode cL_law 619 = .ok (.iconst 0, 1) := by decide +kernel
theorem dL_law_620 : decode cL_law 620 = .ok (.iconst 1, 1) := by decide +kernel
theorem dL_law_621 : decode cL_law 621 = .ok (.iconst 1, 1) := by decide +kernel
theorem dL_law_622 : decode cL_law 622 = .ok (.iconst 1, 1) := by decide +kernel
theorem dL_law_623 : decode cL_law 623 = .ok (.iconst 1, 1) := by decide +kernel
theorem dL_law_624 : decode cL_law 624 = .ok (.ldc_w 396, 3) := by decide +kernel
theorem dL_law_627 : decode cL_law 627 = .ok (.invokestatic 240, 3) := by decide +kernel
theorem dL_law_630 : decode cL_law 630 = .ok (.bipush 8, 2) := by decide +kernel
theorem dL_law_632 : decode cL_law 632 = .ok (.if_icmp .eq 5, 3) := by decide +kernel
theorem dL_law_635 : decode cL_law 635 = .ok (.iconst 0, 1) := by decide +kernel
theorem dL_law_636 : decode cL_law 636 = .ok (.ireturn, 1) := by decide +kernel
theorem dL_law_637 : decode cL_law 637 = .ok (.aload_n 1, 1) := by decide +kernel
theorem dL_law_638 : decode cL_law 638 = .ok (.invokestatic 391, 3) := by decide +kernel
theorem dL_law_641 : decode cL_law 641 = .ok (.ifCond .ne 34, 3) := by decide +kernel
theorem dL_law_644 : decode cL_law 644 = .ok (.aload_n 1, 1) := by decide +kernel
theorem dL_law_645 : decode cL_law 645 = .ok (.invokevirtual 246, 3) := by decide +kernel
theorem dL_law_648 : decode cL_law 648 = .ok (.ifCond .ne 27, 3) := by decide +kernel
theorem dL_law_651 : decode cL_law 651 = .ok (.aload_n 1, 1) := by decide +kernel
theorem dL_law_652 : decode cL_law 652 = .ok (.invokevirtual 272, 3) := by decide +kernel
theorem dL_law_655 : decode cL_law 655 = .ok (.ifCond .ne 20, 3) := by decide +kernel
theorem dL_law_658 : decode cL_law 658 = .ok (.aload_n 1, 1) := by decide +kernel
theorem dL_law_659 : decode cL_law 659 = .ok (.invokevirtual 275, 3) := by decide +kernel
theorem dL_law_662 : decode cL_law 662 = .ok (.ifCond .ne 13, 3) := by decide +kernel
theorem dL_law_665 : decode cL_law 665 = .ok (.aload_n 1, 1) := by decide +kernel
theorem dL_law_666 : decode cL_law 666 = .ok (.invokestatic 389, 3) := by decide +kernel
theorem dL_law_669 : decode cL_law 669 = .ok (.sipush (-1001), 3) := by decide +kernel
theorem dL_law_672 : decode cL_law 672 = .ok (.if_icmp .eq 5, 3) := by decide +kernel
theorem dL_law_675 : decode cL_law 675 = .ok (.iconst 0, 1) := by decide +kernel
theorem dL_law_676 : decode cL_law 676 = .ok (.ireturn, 1) := by decide +kernel
theorem dL_law_677 : decode cL_law 677 = .ok (.new 8, 3) := by decide +kernel
theorem dL_law_680 : decode cL_law 680 = .ok (.dup, 1) := by decide +kernel
theorem dL_law_681 : decode cL_law 681 = .ok (.invokespecial 388, 3) := by decide +kernel
theorem dL_law_684 : decode cL_law 684 = .ok (.astore_n 2, 1) := by decide +kernel
theorem dL_law_685 : decode cL_law 685 = .ok (.aload_n 2, 1) := by decide +kernel
theorem dL_law_686 : decode cL_law 686 = .ok (.aload_n 0, 1) := by decide +kernel
theorem dL_law_687 : decode cL_law 687 = .ok (.invokestatic 400, 3) := by decide +kernel
theorem dL_law_690 : decode cL_law 690 = .ok (.ifCond .eq 10, 3) := by decide +kernel
theorem dL_law_693 : decode cL_law 693 = .ok (.aload_n 2, 1) := by decide +kernel
theorem dL_law_694 : decode cL_law 694 = .ok (.invokestatic 404, 3) := by decide +kernel
theorem dL_law_697 : decode cL_law 697 = .ok (.ifCond .ne 5, 3) := by decide +kernel
theorem dL_law_700 : decode cL_law 700 = .ok (.iconst 0, 1) := by decide +kernel
theorem dL_law_701 : decode cL_law 701 = .ok (.ireturn, 1) := by decide +kernel
theorem dL_law_702 : decode cL_law 702 = .ok (.aload_n 2, 1) := by decide +kernel
theorem dL_law_703 : decode cL_law 703 = .ok (.invokestatic 338, 3) := by decide +kernel
theorem dL_law_706 : decode cL_law 706 = .ok (.lstore_n 3, 1) := by decide +kernel
theorem dL_law_707 : decode cL_law 707 = .ok (.aload_n 2, 1) := by decide +kernel
theorem dL_law_708 : decode cL_law 708 = .ok (.invokevirtual 393, 3) := by decide +kernel
theorem dL_law_711 : decode cL_law 711 = .ok (.istore 5, 2) := by decide +kernel
theorem dL_law_713 : decode cL_law 713 = .ok (.iload 5, 2) := by decide +kernel
theorem dL_law_715 : decode cL_law 715 = .ok (.aload_n 2, 1) := by decide +kernel
theorem dL_law_716 : decode cL_law 716 = .ok (.invokevirtual 295, 3) := by decide +kernel
theorem dL_law_719 : decode cL_law 719 = .ok (.if_icmp .ne 21, 3) := by decide +kernel
theorem dL_law_722 : decode cL_law 722 = .ok (.aload_n 2, 1) := by decide +kernel
theorem dL_law_723 : decode cL_law 723 = .ok (.invokestatic 338, 3) := by decide +kernel
theorem dL_law_726 : decode cL_law 726 = .ok (.lload_n 3, 1) := by decide +kernel
theorem dL_law_727 : decode cL_law 727 = .ok (.lcmp, 1) := by decide +kernel
theorem dL_law_728 : decode cL_law 728 = .ok (.ifCond .ne 12, 3) := by decide +kernel
theorem dL_law_731 : decode cL_law 731 = .ok (.aload_n 2, 1) := by decide +kernel
theorem dL_law_732 : decode cL_law 732 = .ok (.invokestatic 391, 3) := by decide +kernel
theorem dL_law_735 : decode cL_law 735 = .ok (.iload 5, 2) := by decide +kernel
theorem dL_law_737 : decode cL_law 737 = .ok (.if_icmp .eq 5, 3) := by decide +kernel
theorem dL_law_740 : decode cL_law 740 = .ok (.iconst 0, 1) := by decide +kernel
theorem dL_law_741 : decode cL_law 741 = .ok (.ireturn, 1) := by decide +kernel
theorem dL_law_742 : decode cL_law 742 = .ok (.bipush 9, 2) := by decide +kernel
theorem dL_law_744 : decode cL_law 744 = .ok (.newarray .long, 2) := by decide +kernel
theorem dL_law_746 : decode cL_law 746 = .ok (.astore 6, 2) := by decide +kernel
theorem dL_law_748 : decode cL_law 748 = .ok (.iconst 0, 1) := by decide +kernel
theorem dL_law_749 : decode cL_law 749 = .ok (.istore 7, 2) := by decide +kernel
theorem dL_law_751 : decode cL_law 751 = .ok (.iconst 0, 1) := by decide +kernel
theorem dL_law_752 : decode cL_law 752 = .ok (.istore 8, 2) := by decide +kernel
theorem dL_law_754 : decode cL_law 754 = .ok (.iload 8, 2) := by decide +kernel
theorem dL_law_756 : decode cL_law 756 = .ok (.bipush 8, 2) := by decide +kernel
theorem dL_law_758 : decode cL_law 758 = .ok (.if_icmp .ge 63, 3) := by decide +kernel
theorem dL_law_761 : decode cL_law 761 = .ok (.aload_n 2, 1) := by decide +kernel
theorem dL_law_762 : decode cL_law 762 = .ok (.invokestatic 338, 3) := by decide +kernel
theorem dL_law_765 : decode cL_law 765 = .ok (.lstore 9, 2) := by decide +kernel
theorem dL_law_767 : decode cL_law 767 = .ok (.aload_n 2, 1) := by decide +kernel
theorem dL_law_768 : decode cL_law 768 = .ok (.aload_n 0, 1) := by decide +kernel
theorem dL_law_769 : decode cL_law 769 = .ok (.bipush 20, 2) := by decide +kernel
theorem dL_law_771 : decode cL_law 771 = .ok (.iload 8, 2) := by decide +kernel
theorem dL_law_773 : decode cL_law 773 = .ok (.iadd, 1) := by decide +kernel
theorem dL_law_774 : decode cL_law 774 = .ok (.invokestatic 223, 3) := by decide +kernel
theorem dL_law_777 : decode cL_law 777 = .ok (.iload 8, 2) := by decide +kernel
theorem dL_law_779 : decode cL_law 779 = .ok (.sipush 977, 3) := by decide +kernel
theorem dL_law_782 : decode cL_law 782 = .ok (.imul, 1) := by decide +kernel
theorem dL_law_783 : decode cL_law 783 = .ok (.ixor, 1) := by decide +kernel
theorem dL_law_784 : decode cL_law 784 = .ok (.invokestatic 408, 3) := by decide +kernel
theorem dL_law_787 : decode cL_law 787 = .ok (.ifCond .eq 16, 3) := by decide +kernel
theorem dL_law_790 : decode cL_law 790 = .ok (.aload 6, 2) := by decide +kernel
theorem dL_law_792 : decode cL_law 792 = .ok (.iload 7, 2) := by decide +kernel
theorem dL_law_794 : decode cL_law 794 = .ok (.iinc 7 1, 3) := by decide +kernel
theorem dL_law_797 : decode cL_law 797 = .ok (.lload 9, 2) := by decide +kernel
theorem dL_law_799 : decode cL_law 799 = .ok (.lastore, 1) := by decide +kernel
theorem dL_law_800 : decode cL_law 800 = .ok (.goto 15, 3) := by decide +kernel
theorem dL_law_803 : decode cL_law 803 = .ok (.aload_n 2, 1) := by decide +kernel
theorem dL_law_804 : decode cL_law 804 = .ok (.invokestatic 338, 3) := by decide +kernel
theorem dL_law_807 : decode cL_law 807 = .ok (.lload 9, 2) := by decide +kernel
theorem dL_law_809 : decode cL_law 809 = .ok (.lcmp, 1) := by decide +kernel
theorem dL_law_810 : decode cL_law 810 = .ok (.ifCond .eq 5, 3) := by decide +kernel
theorem dL_law_813 : decode cL_law 813 = .ok (.iconst 0, 1) := by decide +kernel
theorem dL_law_814 : decode cL_law 814 = .ok (.ireturn, 1) := by decide +kernel
theorem dL_law_815 : decode cL_law 815 = .ok (.iinc 8 1, 3) := by decide +kernel
theorem dL_law_818 : decode cL_law 818 = .ok (.goto (-64), 3) := by decide +kernel
theorem dL_law_821 : decode cL_law 821 = .ok (.iconst 1, 1) := by decide +kernel
theorem dL_law_822 : decode cL_law 822 = .ok (.istore 8, 2) := by decide +kernel
theorem dL_law_824 : decode cL_law 824 = .ok (.iload 8, 2) := by decide +kernel
theorem dL_law_826 : decode cL_law 826 = .ok (.iload 7, 2) := by decide +kernel
theorem dL_law_828 : decode cL_law 828 = .ok (.if_icmp .gt 39, 3) := by decide +kernel
theorem dL_law_831 : decode cL_law 831 = .ok (.aload_n 2, 1) := by decide +kernel
theorem dL_law_832 : decode cL_law 832 = .ok (.invokestatic 389, 3) := by decide +kernel
theorem dL_law_835 : decode cL_law 835 = .ok (.iload 7, 2) := by decide +kernel
theorem dL_law_837 : decode cL_law 837 = .ok (.iload 8, 2) := by decide +kernel
theorem dL_law_839 : decode cL_law 839 = .ok (.isub, 1) := by decide +kernel
theorem dL_law_840 : decode cL_law 840 = .ok (.if_icmp .ne 19, 3) := by decide +kernel
theorem dL_law_843 : decode cL_law 843 = .ok (.aload_n 2, 1) := by decide +kernel
theorem dL_law_844 : decode cL_law 844 = .ok (.invokestatic 338, 3) := by decide +kernel
theorem dL_law_847 : decode cL_law 847 = .ok (.aload 6, 2) := by decide +kernel
theorem dL_law_849 : decode cL_law 849 = .ok (.iload 7, 2) := by decide +kernel
theorem dL_law_851 : decode cL_law 851 = .ok (.iload 8, 2) := by decide +kernel
theorem dL_law_853 : decode cL_law 853 = .ok (.isub, 1) := by decide +kernel
theorem dL_law_854 : decode cL_law 854 = .ok (.laload, 1) := by decide +kernel
theorem dL_law_855 : decode cL_law 855 = .ok (.lcmp, 1) := by decide +kernel
theorem dL_law_856 : decode cL_law 856 = .ok (.ifCond .eq 5, 3) := by decide +kernel
theorem dL_law_859 : decode cL_law 859 = .ok (.iconst 0, 1) := by decide +kernel
theorem dL_law_860 : decode cL_law 860 = .ok (.ireturn, 1) := by decide +kernel
theorem dL_law_861 : decode cL_law 861 = .ok (.iinc 8 1, 3) := by decide +kernel
theorem dL_law_864 : decode cL_law 864 = .ok (.goto (-40), 3) := by decide +kernel
theorem dL_law_867 : decode cL_law 867 = .ok (.aload_n 2, 1) := by decide +kernel
theorem dL_law_868 : decode cL_law 868 = .ok (.invokestatic 389, 3) := by decide +kernel
theorem dL_law_871 : decode cL_law 871 = .ok (.sipush (-1001), 3) := by decide +kernel
theorem dL_law_874 : decode cL_law 874 = .ok (.if_icmp .ne 35, 3) := by decide +kernel
theorem dL_law_877 : decode cL_law 877 = .ok (.aload_n 2, 1) := by decide +kernel
theorem dL_law_878 : decode cL_law 878 = .ok (.invokestatic 391, 3) := by decide +kernel
theorem dL_law_881 : decode cL_law 881 = .ok (.iload 5, 2) := by decide +kernel
theorem dL_law_883 : decode cL_law 883 = .ok (.if_icmp .ne 26, 3) := by decide +kernel
theorem dL_law_886 : decode cL_law 886 = .ok (.aload_n 2, 1) := by decide +kernel
theorem dL_law_887 : decode cL_law 887 = .ok (.invokestatic 338, 3) := by decide +kernel
theorem dL_law_890 : decode cL_law 890 = .ok (.lload_n 3, 1) := by decide +kernel
theorem dL_law_891 : decode cL_law 891 = .ok (.lcmp, 1) := by decide +kernel
theorem dL_law_892 : decode cL_law 892 = .ok (.ifCond .ne 17, 3) := by decide +kernel
theorem dL_law_895 : decode cL_law 895 = .ok (.aload_n 2, 1) := by decide +kernel
theorem dL_law_896 : decode cL_law 896 = .ok (.invokestatic 389, 3) := by decide +kernel
theorem dL_law_899 : decode cL_law 899 = .ok (.sipush (-1001), 3) := by decide +kernel
theorem dL_law_902 : decode cL_law 902 = .ok (.if_icmp .ne 7, 3) := by decide +kernel
theorem dL_law_905 : decode cL_law 905 = .ok (.iconst 1, 1) := by decide +kernel
theorem dL_law_906 : decode cL_law 906 = .ok (.goto 4, 3) := by decide +kernel
theorem dL_law_909 : decode cL_law 909 = .ok (.iconst 0, 1) := by decide +kernel
theorem dL_law_910 : decode cL_law 910 = .ok (.ireturn, 1) := by decide +kernel
abbrev vwCl : List vw_C := [(RJ0, TJ0, 4), (RJ4, TJ4, 4), (RJx00060, TJx00060, 6), (RJx7c733, TJx7c733, 6), (RJx4a65c, TJx4a65c, 3), (RX1, TX1, 14), (RX2, TX2, 2), (RX3, TX3, 2), (RX4, TX4, 4), (RX5, TX5, 2), (RX6, TX6, 3), (RX7, TX7, 3), (RX8, TX8, 3), (RX9, TX9, 8), (RX10, TX10, 3), (RX12, TX12, 12)]
