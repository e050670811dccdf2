/-! Names: classes, fields, methods, the words that are used, decoded instructions. Written by wip/tools/gen.py. -/
def R_V : String := "VisitGrammar"
theorem pl_V : plainName "VisitGrammar" = true := by decide +kernel
def R_G : String := "VisitGrammar$Grammar"
theorem pl_G : plainName "VisitGrammar$Grammar" = true := by decide +kernel
def R_A : String := "VisitGrammar$Analysis"
theorem pl_A : plainName "VisitGrammar$Analysis" = true := by decide +kernel
def R_E : String := "VisitGrammar$Leads"
theorem pl_E : plainName "VisitGrammar$Leads" = true := by decide +kernel
def R_K : String := "VisitGrammar$Ranking"
theorem pl_K : plainName "VisitGrammar$Ranking" = true := by decide +kernel
def R_Q : String := "VisitGrammar$Sequences"
theorem pl_Q : plainName "VisitGrammar$Sequences" = true := by decide +kernel
def R_Z : String := "VisitGrammar$Tree"
theorem pl_Z : plainName "VisitGrammar$Tree" = true := by decide +kernel
def R_U : String := "VisitGrammar$Walk"
theorem pl_U : plainName "VisitGrammar$Walk" = true := by decide +kernel
def R_M : String := "VisitGrammarModel"
theorem pl_M : plainName "VisitGrammarModel" = true := by decide +kernel
def R_L : String := "VisitGrammarLaw"
theorem pl_L : plainName "VisitGrammarLaw" = true := by decide +kernel
def R_I : String := "java/lang/Integer"
theorem pl_I : plainName "java/lang/Integer" = true := by decide +kernel
def R_R : String := "java/util/Arrays"
theorem pl_R : plainName "java/util/Arrays" = true := by decide +kernel
def F_V : u_T := fun k => match k with
  | 0 => ("VisitGrammar", "grammar", "LVisitGrammar$Grammar;", true)
  | 1 => ("VisitGrammar", "analysis", "LVisitGrammar$Analysis;", true)
  | 2 => ("VisitGrammar", "tree", "LVisitGrammar$Tree;", true)
  | _ => ("VisitGrammar", "walk", "LVisitGrammar$Walk;", true)
def t_V : Nat → FieldType := fun k => match k with
  | 0 => .object "VisitGrammar$Grammar"
  | 1 => .object "VisitGrammar$Analysis"
  | 2 => .object "VisitGrammar$Tree"
  | _ => .object "VisitGrammar$Walk"
def F_G : u_T := fun k => match k with
  | 0 => ("VisitGrammar$Grammar", "attributeCounts", "[I", true)
  | 1 => ("VisitGrammar$Grammar", "inheritedBits", "[I", true)
  | 2 => ("VisitGrammar$Grammar", "symbolCount", "I", false)
  | 3 => ("VisitGrammar$Grammar", "symbolsAt", "[I", true)
  | 4 => ("VisitGrammar$Grammar", "lastPositions", "[I", true)
  | 5 => ("VisitGrammar$Grammar", "presentBits", "[I", true)
  | 6 => ("VisitGrammar$Grammar", "toDefineBits", "[I", true)
  | 7 => ("VisitGrammar$Grammar", "productionCount", "I", false)
  | 8 => ("VisitGrammar$Grammar", "ruledBits", "[I", true)
  | 9 => ("VisitGrammar$Grammar", "forms", "[I", true)
  | 10 => ("VisitGrammar$Grammar", "firsts", "[I", true)
  | 11 => ("VisitGrammar$Grammar", "seconds", "[I", true)
  | _ => ("VisitGrammar$Grammar", "usedBits", "[I", true)
def t_G : Nat → FieldType := fun k => match k with
  | 0 => .array .int
  | 1 => .array .int
  | 2 => .int
  | 3 => .array .int
  | 4 => .array .int
  | 5 => .array .int
  | 6 => .array .int
  | 7 => .int
  | 8 => .array .int
  | 9 => .array .int
  | 10 => .array .int
  | 11 => .array .int
  | _ => .array .int
def F_A : u_T := fun k => match k with
  | 0 => ("VisitGrammar$Analysis", "grammar", "LVisitGrammar$Grammar;", true)
  | 1 => ("VisitGrammar$Analysis", "leads", "LVisitGrammar$Leads;", true)
  | 2 => ("VisitGrammar$Analysis", "ranking", "LVisitGrammar$Ranking;", true)
  | 3 => ("VisitGrammar$Analysis", "sequences", "LVisitGrammar$Sequences;", true)
  | 4 => ("VisitGrammar$Analysis", "present", "Z", false)
  | 5 => ("VisitGrammar$Analysis", "faultKind", "I", false)
  | 6 => ("VisitGrammar$Analysis", "faultProduction", "I", false)
  | _ => ("VisitGrammar$Analysis", "faultOccurrence", "I", false)
def t_A : Nat → FieldType := fun k => match k with
  | 0 => .object "VisitGrammar$Grammar"
  | 1 => .object "VisitGrammar$Leads"
  | 2 => .object "VisitGrammar$Ranking"
  | 3 => .object "VisitGrammar$Sequences"
  | 4 => .boolean
  | 5 => .int
  | 6 => .int
  | _ => .int
def F_E : u_T := fun k => match k with
  | 0 => ("VisitGrammar$Leads", "grammar", "LVisitGrammar$Grammar;", true)
  | 1 => ("VisitGrammar$Leads", "ofOccurrences", "[I", true)
  | _ => ("VisitGrammar$Leads", "ofAttributes", "[I", true)
def t_E : Nat → FieldType := fun k => match k with
  | 0 => .object "VisitGrammar$Grammar"
  | 1 => .array .int
  | _ => .array .int
def F_K : u_T := fun k => match k with
  | 0 => ("VisitGrammar$Ranking", "grammar", "LVisitGrammar$Grammar;", true)
  | 1 => ("VisitGrammar$Ranking", "leads", "LVisitGrammar$Leads;", true)
  | 2 => ("VisitGrammar$Ranking", "ranks", "[I", true)
  | 3 => ("VisitGrammar$Ranking", "visitCounts", "[I", true)
  | _ => ("VisitGrammar$Ranking", "belonging", "[I", true)
def t_K : Nat → FieldType := fun k => match k with
  | 0 => .object "VisitGrammar$Grammar"
  | 1 => .object "VisitGrammar$Leads"
  | 2 => .array .int
  | 3 => .array .int
  | _ => .array .int
def F_Q : u_T := fun k => match k with
  | 0 => ("VisitGrammar$Sequences", "grammar", "LVisitGrammar$Grammar;", true)
  | 1 => ("VisitGrammar$Sequences", "ranking", "LVisitGrammar$Ranking;", true)
  | 2 => ("VisitGrammar$Sequences", "instructions", "[I", true)
  | 3 => ("VisitGrammar$Sequences", "lengths", "[I", true)
  | 4 => ("VisitGrammar$Sequences", "visitsWritten", "[I", true)
  | 5 => ("VisitGrammar$Sequences", "setBits", "I", false)
  | _ => ("VisitGrammar$Sequences", "knownBits", "I", false)
def t_Q : Nat → FieldType := fun k => match k with
  | 0 => .object "VisitGrammar$Grammar"
  | 1 => .object "VisitGrammar$Ranking"
  | 2 => .array .int
  | 3 => .array .int
  | 4 => .array .int
  | 5 => .int
  | _ => .int
def F_Z : u_T := fun k => match k with
  | 0 => ("VisitGrammar$Tree", "grammar", "LVisitGrammar$Grammar;", true)
  | 1 => ("VisitGrammar$Tree", "productions", "[I", true)
  | 2 => ("VisitGrammar$Tree", "tokens", "[I", true)
  | 3 => ("VisitGrammar$Tree", "parents", "[I", true)
  | 4 => ("VisitGrammar$Tree", "nodesAt", "[I", true)
  | _ => ("VisitGrammar$Tree", "nodeCount", "I", false)
def t_Z : Nat → FieldType := fun k => match k with
  | 0 => .object "VisitGrammar$Grammar"
  | 1 => .array .int
  | 2 => .array .int
  | 3 => .array .int
  | 4 => .array .int
  | _ => .int
def F_U : u_T := fun k => match k with
  | 0 => ("VisitGrammar$Walk", "grammar", "LVisitGrammar$Grammar;", true)
  | 1 => ("VisitGrammar$Walk", "sequences", "LVisitGrammar$Sequences;", true)
  | 2 => ("VisitGrammar$Walk", "tree", "LVisitGrammar$Tree;", true)
  | 3 => ("VisitGrammar$Walk", "given", "[I", true)
  | 4 => ("VisitGrammar$Walk", "values", "[I", true)
  | 5 => ("VisitGrammar$Walk", "knownBits", "[I", true)
  | 6 => ("VisitGrammar$Walk", "instructionsDone", "[I", true)
  | 7 => ("VisitGrammar$Walk", "state", "I", false)
  | 8 => ("VisitGrammar$Walk", "root", "I", false)
  | _ => ("VisitGrammar$Walk", "nodeAtHand", "I", false)
def t_U : Nat → FieldType := fun k => match k with
  | 0 => .object "VisitGrammar$Grammar"
  | 1 => .object "VisitGrammar$Sequences"
  | 2 => .object "VisitGrammar$Tree"
  | 3 => .array .int
  | 4 => .array .int
  | 5 => .array .int
  | 6 => .array .int
  | 7 => .int
  | 8 => .int
  | _ => .int
def F_M : u_T := fun k => match k with
  | 0 => ("VisitGrammarModel", "code", "I", false)
  | 1 => ("VisitGrammarModel", "symbols", "I", false)
  | 2 => ("VisitGrammarModel", "attributes", "[I", true)
  | 3 => ("VisitGrammarModel", "inherits", "[Z", true)
  | 4 => ("VisitGrammarModel", "productions", "I", false)
  | 5 => ("VisitGrammarModel", "positions", "[I", true)
  | 6 => ("VisitGrammarModel", "symbolAt", "[I", true)
  | 7 => ("VisitGrammarModel", "form", "[I", true)
  | 8 => ("VisitGrammarModel", "ruleX", "[I", true)
  | 9 => ("VisitGrammarModel", "ruleY", "[I", true)
  | 10 => ("VisitGrammarModel", "analysed", "Z", false)
  | 11 => ("VisitGrammarModel", "faultKind", "I", false)
  | 12 => ("VisitGrammarModel", "faultProduction", "I", false)
  | 13 => ("VisitGrammarModel", "faultOccurrence", "I", false)
  | 14 => ("VisitGrammarModel", "uses", "[Z", true)
  | 15 => ("VisitGrammarModel", "leads", "[Z", true)
  | 16 => ("VisitGrammarModel", "symbolLeads", "[Z", true)
  | 17 => ("VisitGrammarModel", "order", "[Z", true)
  | 18 => ("VisitGrammarModel", "rank", "[I", true)
  | 19 => ("VisitGrammarModel", "visits", "[I", true)
  | 20 => ("VisitGrammarModel", "length", "[I", true)
  | 21 => ("VisitGrammarModel", "sequence", "[I", true)
  | 22 => ("VisitGrammarModel", "set", "[Z", true)
  | 23 => ("VisitGrammarModel", "visited", "[I", true)
  | 24 => ("VisitGrammarModel", "nodes", "I", false)
  | 25 => ("VisitGrammarModel", "production", "[I", true)
  | 26 => ("VisitGrammarModel", "token", "[I", true)
  | 27 => ("VisitGrammarModel", "child", "[I", true)
  | 28 => ("VisitGrammarModel", "parent", "[I", true)
  | 29 => ("VisitGrammarModel", "next", "[I", true)
  | 30 => ("VisitGrammarModel", "known", "[Z", true)
  | 31 => ("VisitGrammarModel", "value", "[I", true)
  | 32 => ("VisitGrammarModel", "given", "[I", true)
  | 33 => ("VisitGrammarModel", "root", "I", false)
  | _ => ("VisitGrammarModel", "hand", "I", false)
def t_M : Nat → FieldType := fun k => match k with
  | 0 => .int
  | 1 => .int
  | 2 => .array .int
  | 3 => .array .boolean
  | 4 => .int
  | 5 => .array .int
  | 6 => .array .int
  | 7 => .array .int
  | 8 => .array .int
  | 9 => .array .int
  | 10 => .boolean
  | 11 => .int
  | 12 => .int
  | 13 => .int
  | 14 => .array .boolean
  | 15 => .array .boolean
  | 16 => .array .boolean
  | 17 => .array .boolean
  | 18 => .array .int
  | 19 => .array .int
  | 20 => .array .int
  | 21 => .array .int
  | 22 => .array .boolean
  | 23 => .array .int
  | 24 => .int
  | 25 => .array .int
  | 26 => .array .int
  | 27 => .array .int
  | 28 => .array .int
  | 29 => .array .int
  | 30 => .array .boolean
  | 31 => .array .int
  | 32 => .array .int
  | 33 => .int
  | _ => .int
def y_V_init : MethodName := ⟨"VisitGrammar", "<init>", "()V"⟩
def y_V_symbol : MethodName := ⟨"VisitGrammar", "symbol", "(II)I"⟩
def y_V_production : MethodName := ⟨"VisitGrammar", "production", "(IIII)I"⟩
def y_V_rule : MethodName := ⟨"VisitGrammar", "rule", "(IIIII)V"⟩
def y_V_analyse : MethodName := ⟨"VisitGrammar", "analyse", "()I"⟩
def y_V_fault : MethodName := ⟨"VisitGrammar", "fault", "(I)I"⟩
def y_V_visits : MethodName := ⟨"VisitGrammar", "visits", "(I)I"⟩
def y_V_rank : MethodName := ⟨"VisitGrammar", "rank", "(II)I"⟩
def y_V_instruction : MethodName := ⟨"VisitGrammar", "instruction", "(II)I"⟩
def y_V_node : MethodName := ⟨"VisitGrammar", "node", "(IIIII)I"⟩
def y_V_fell : MethodName := ⟨"VisitGrammar", "fell", "()V"⟩
def y_V_give : MethodName := ⟨"VisitGrammar", "give", "(II)V"⟩
def y_V_start : MethodName := ⟨"VisitGrammar", "start", "(I)V"⟩
def y_V_run : MethodName := ⟨"VisitGrammar", "run", "(I)I"⟩
def y_V_status : MethodName := ⟨"VisitGrammar", "status", "()I"⟩
def y_V_atHand : MethodName := ⟨"VisitGrammar", "atHand", "()I"⟩
def y_V_knows : MethodName := ⟨"VisitGrammar", "knows", "(II)Z"⟩
def y_V_value : MethodName := ⟨"VisitGrammar", "value", "(II)I"⟩
def y_V_dropAnalysis : MethodName := ⟨"VisitGrammar", "dropAnalysis", "()V"⟩
def y_V_requireAnalysis : MethodName := ⟨"VisitGrammar", "requireAnalysis", "()V"⟩
def y_V_requireAttribute : MethodName := ⟨"VisitGrammar", "requireAttribute", "(II)V"⟩
def y_V_holds : MethodName := ⟨"VisitGrammar", "holds", "(II)Z"⟩
def y_V_holdsAll : MethodName := ⟨"VisitGrammar", "holdsAll", "(II)Z"⟩
def y_V_leastOf : MethodName := ⟨"VisitGrammar", "leastOf", "(I)I"⟩
def y_M_init : MethodName := ⟨"VisitGrammarModel", "<init>", "()V"⟩
def y_M_thrown : MethodName := ⟨"VisitGrammarModel", "thrown", "()I"⟩
def y_M_fail : MethodName := ⟨"VisitGrammarModel", "fail", "(I)I"⟩
def y_M_endRun : MethodName := ⟨"VisitGrammarModel", "endRun", "()V"⟩
def y_M_forget : MethodName := ⟨"VisitGrammarModel", "forget", "()V"⟩
def y_M_symbol : MethodName := ⟨"VisitGrammarModel", "symbol", "(II)I"⟩
def y_M_isSymbol : MethodName := ⟨"VisitGrammarModel", "isSymbol", "(I)Z"⟩
def y_M_production : MethodName := ⟨"VisitGrammarModel", "production", "(IIII)I"⟩
def y_M_isOccurrence : MethodName := ⟨"VisitGrammarModel", "isOccurrence", "(II)Z"⟩
def y_M_attributeOf : MethodName := ⟨"VisitGrammarModel", "attributeOf", "(II)I"⟩
def y_M_isDefined : MethodName := ⟨"VisitGrammarModel", "isDefined", "(II)Z"⟩
def y_M_needs : MethodName := ⟨"VisitGrammarModel", "needs", "(I)I"⟩
def y_M_rule : MethodName := ⟨"VisitGrammarModel", "rule", "(IIIII)V"⟩
def y_M_isUsed : MethodName := ⟨"VisitGrammarModel", "isUsed", "(III)Z"⟩
def y_M_lacks : MethodName := ⟨"VisitGrammarModel", "lacks", "()Z"⟩
def y_M_blame : MethodName := ⟨"VisitGrammarModel", "blame", "(III)Z"⟩
def y_M_begin : MethodName := ⟨"VisitGrammarModel", "begin", "()V"⟩
def y_M_learn : MethodName := ⟨"VisitGrammarModel", "learn", "(I)Z"⟩
def y_M_circles : MethodName := ⟨"VisitGrammarModel", "circles", "()Z"⟩
def y_M_reach : MethodName := ⟨"VisitGrammarModel", "reach", "(II)I"⟩
def y_M_rankAll : MethodName := ⟨"VisitGrammarModel", "rankAll", "(I)V"⟩
def y_M_isDemanded : MethodName := ⟨"VisitGrammarModel", "isDemanded", "(III)Z"⟩
def y_M_mixes : MethodName := ⟨"VisitGrammarModel", "mixes", "()Z"⟩
def y_M_visitOf : MethodName := ⟨"VisitGrammarModel", "visitOf", "(II)I"⟩
def y_M_isKnown : MethodName := ⟨"VisitGrammarModel", "isKnown", "(II)Z"⟩
def y_M_canSet : MethodName := ⟨"VisitGrammarModel", "canSet", "(II)Z"⟩
def y_M_isPrepared : MethodName := ⟨"VisitGrammarModel", "isPrepared", "(III)Z"⟩
def y_M_canGo : MethodName := ⟨"VisitGrammarModel", "canGo", "(II)Z"⟩
def y_M_plan : MethodName := ⟨"VisitGrammarModel", "plan", "(I)V"⟩
def y_M_analyse : MethodName := ⟨"VisitGrammarModel", "analyse", "()I"⟩
def y_M_fault : MethodName := ⟨"VisitGrammarModel", "fault", "(I)I"⟩
def y_M_visits : MethodName := ⟨"VisitGrammarModel", "visits", "(I)I"⟩
def y_M_rank : MethodName := ⟨"VisitGrammarModel", "rank", "(II)I"⟩
def y_M_instruction : MethodName := ⟨"VisitGrammarModel", "instruction", "(II)I"⟩
def y_M_fits : MethodName := ⟨"VisitGrammarModel", "fits", "(III)Z"⟩
def y_M_node : MethodName := ⟨"VisitGrammarModel", "node", "(IIIII)I"⟩
def y_M_fell : MethodName := ⟨"VisitGrammarModel", "fell", "()V"⟩
def y_M_give : MethodName := ⟨"VisitGrammarModel", "give", "(II)V"⟩
def y_M_isNode : MethodName := ⟨"VisitGrammarModel", "isNode", "(I)Z"⟩
def y_M_start : MethodName := ⟨"VisitGrammarModel", "start", "(I)V"⟩
def y_M_cell : MethodName := ⟨"VisitGrammarModel", "cell", "(II)I"⟩
def y_M_worth : MethodName := ⟨"VisitGrammarModel", "worth", "(II)I"⟩
def y_M_step : MethodName := ⟨"VisitGrammarModel", "step", "()V"⟩
def y_M_run : MethodName := ⟨"VisitGrammarModel", "run", "(I)I"⟩
def y_M_status : MethodName := ⟨"VisitGrammarModel", "status", "()I"⟩
def y_M_atHand : MethodName := ⟨"VisitGrammarModel", "atHand", "()I"⟩
def y_M_isAttribute : MethodName := ⟨"VisitGrammarModel", "isAttribute", "(II)Z"⟩
def y_M_knows : MethodName := ⟨"VisitGrammarModel", "knows", "(II)Z"⟩
def y_M_value : MethodName := ⟨"VisitGrammarModel", "value", "(II)I"⟩
def y_A_init : MethodName := ⟨"VisitGrammar$Analysis", "<init>", "(LVisitGrammar$Grammar;)V"⟩
def y_A_make : MethodName := ⟨"VisitGrammar$Analysis", "make", "()V"⟩
def y_A_forgetFault : MethodName := ⟨"VisitGrammar$Analysis", "forgetFault", "()V"⟩
def y_A_isComplete : MethodName := ⟨"VisitGrammar$Analysis", "isComplete", "()Z"⟩
def y_A_isWithoutCircle : MethodName := ⟨"VisitGrammar$Analysis", "isWithoutCircle", "()Z"⟩
def y_A_isOrdered : MethodName := ⟨"VisitGrammar$Analysis", "isOrdered", "()Z"⟩
def y_A_noneLeadsToItself : MethodName := ⟨"VisitGrammar$Analysis", "noneLeadsToItself", "(I)Z"⟩
def y_A_noteFault : MethodName := ⟨"VisitGrammar$Analysis", "noteFault", "(III)V"⟩
def y_G_init : MethodName := ⟨"VisitGrammar$Grammar", "<init>", "()V"⟩
def y_G_hasSymbol : MethodName := ⟨"VisitGrammar$Grammar", "hasSymbol", "(I)Z"⟩
def y_G_hasAttribute : MethodName := ⟨"VisitGrammar$Grammar", "hasAttribute", "(II)Z"⟩
def y_G_hasProduction : MethodName := ⟨"VisitGrammar$Grammar", "hasProduction", "(I)Z"⟩
def y_G_hasOccurrence : MethodName := ⟨"VisitGrammar$Grammar", "hasOccurrence", "(II)Z"⟩
def y_G_isToBeDefined : MethodName := ⟨"VisitGrammar$Grammar", "isToBeDefined", "(II)Z"⟩
def y_G_isRight : MethodName := ⟨"VisitGrammar$Grammar", "isRight", "(III)Z"⟩
def y_G_isForm : MethodName := ⟨"VisitGrammar$Grammar", "isForm", "(IIII)Z"⟩
def y_G_symbolAt : MethodName := ⟨"VisitGrammar$Grammar", "symbolAt", "(II)I"⟩
def y_G_addSymbol : MethodName := ⟨"VisitGrammar$Grammar", "addSymbol", "(II)I"⟩
def y_G_addProduction : MethodName := ⟨"VisitGrammar$Grammar", "addProduction", "(IIII)I"⟩
def y_G_place : MethodName := ⟨"VisitGrammar$Grammar", "place", "(III)V"⟩
def y_G_setRule : MethodName := ⟨"VisitGrammar$Grammar", "setRule", "(IIIII)V"⟩
def y_G_allAttributes : MethodName := ⟨"VisitGrammar$Grammar", "allAttributes", "(I)I"⟩
def y_G_leastWithoutRule : MethodName := ⟨"VisitGrammar$Grammar", "leastWithoutRule", "(I)I"⟩
def y_G_usesFirst : MethodName := ⟨"VisitGrammar$Grammar", "usesFirst", "(I)Z"⟩
def y_G_usesSecond : MethodName := ⟨"VisitGrammar$Grammar", "usesSecond", "(I)Z"⟩
def y_E_init : MethodName := ⟨"VisitGrammar$Leads", "<init>", "(LVisitGrammar$Grammar;)V"⟩
def y_E_spread : MethodName := ⟨"VisitGrammar$Leads", "spread", "()V"⟩
def y_E_takeOrder : MethodName := ⟨"VisitGrammar$Leads", "takeOrder", "()V"⟩
def y_E_leastLeadingToItself : MethodName := ⟨"VisitGrammar$Leads", "leastLeadingToItself", "(I)I"⟩
def y_E_takeRules : MethodName := ⟨"VisitGrammar$Leads", "takeRules", "()V"⟩
def y_E_takeRule : MethodName := ⟨"VisitGrammar$Leads", "takeRule", "(III)V"⟩
def y_E_takeFromSymbols : MethodName := ⟨"VisitGrammar$Leads", "takeFromSymbols", "(I)V"⟩
def y_E_close : MethodName := ⟨"VisitGrammar$Leads", "close", "(I)V"⟩
def y_E_giveToSymbols : MethodName := ⟨"VisitGrammar$Leads", "giveToSymbols", "(I)Z"⟩
def y_E_othersAt : MethodName := ⟨"VisitGrammar$Leads", "othersAt", "(III)I"⟩
def y_K_init : MethodName := ⟨"VisitGrammar$Ranking", "<init>", "(LVisitGrammar$Grammar;LVisitGrammar$Leads;)V"⟩
def y_K_make : MethodName := ⟨"VisitGrammar$Ranking", "make", "()V"⟩
def y_K_addToLeads : MethodName := ⟨"VisitGrammar$Ranking", "addToLeads", "()V"⟩
def y_K_inheritedOf : MethodName := ⟨"VisitGrammar$Ranking", "inheritedOf", "(II)I"⟩
def y_K_synthesizedOf : MethodName := ⟨"VisitGrammar$Ranking", "synthesizedOf", "(II)I"⟩
def y_K_rankAttributes : MethodName := ⟨"VisitGrammar$Ranking", "rankAttributes", "(I)V"⟩
def y_K_leastRank : MethodName := ⟨"VisitGrammar$Ranking", "leastRank", "(II)I"⟩
def y_K_rankAboveLed : MethodName := ⟨"VisitGrammar$Ranking", "rankAboveLed", "(II)I"⟩
def y_K_countVisits : MethodName := ⟨"VisitGrammar$Ranking", "countVisits", "(I)V"⟩
def y_K_shareOut : MethodName := ⟨"VisitGrammar$Ranking", "shareOut", "(I)V"⟩
def y_K_ofLessRank : MethodName := ⟨"VisitGrammar$Ranking", "ofLessRank", "(II)I"⟩
def y_Q_init : MethodName := ⟨"VisitGrammar$Sequences", "<init>", "(LVisitGrammar$Grammar;LVisitGrammar$Ranking;)V"⟩
def y_Q_at : MethodName := ⟨"VisitGrammar$Sequences", "at", "(II)I"⟩
def y_Q_lengthOfAll : MethodName := ⟨"VisitGrammar$Sequences", "lengthOfAll", "()I"⟩
def y_Q_write : MethodName := ⟨"VisitGrammar$Sequences", "write", "()V"⟩
def y_Q_beginWriting : MethodName := ⟨"VisitGrammar$Sequences", "beginWriting", "(I)V"⟩
def y_Q_fullLength : MethodName := ⟨"VisitGrammar$Sequences", "fullLength", "(I)I"⟩
def y_Q_visitsAt : MethodName := ⟨"VisitGrammar$Sequences", "visitsAt", "(II)I"⟩
def y_Q_writeNext : MethodName := ⟨"VisitGrammar$Sequences", "writeNext", "(IZ)I"⟩
def y_Q_readySet : MethodName := ⟨"VisitGrammar$Sequences", "readySet", "(I)I"⟩
def y_Q_readyVisit : MethodName := ⟨"VisitGrammar$Sequences", "readyVisit", "(I)I"⟩
def y_Q_isLeaveReady : MethodName := ⟨"VisitGrammar$Sequences", "isLeaveReady", "(IZ)Z"⟩
def y_Q_writeSet : MethodName := ⟨"VisitGrammar$Sequences", "writeSet", "(I)I"⟩
def y_Q_writeVisit : MethodName := ⟨"VisitGrammar$Sequences", "writeVisit", "(II)I"⟩
def y_Q_writeLeave : MethodName := ⟨"VisitGrammar$Sequences", "writeLeave", "(I)I"⟩
def y_Z_init : MethodName := ⟨"VisitGrammar$Tree", "<init>", "(LVisitGrammar$Grammar;)V"⟩
def y_Z_hasNode : MethodName := ⟨"VisitGrammar$Tree", "hasNode", "(I)Z"⟩
def y_Z_symbolOf : MethodName := ⟨"VisitGrammar$Tree", "symbolOf", "(I)I"⟩
def y_Z_nodeAt : MethodName := ⟨"VisitGrammar$Tree", "nodeAt", "(II)I"⟩
def y_Z_canBeChildren : MethodName := ⟨"VisitGrammar$Tree", "canBeChildren", "(IIII)Z"⟩
def y_Z_canBeChild : MethodName := ⟨"VisitGrammar$Tree", "canBeChild", "(III)Z"⟩
def y_Z_grow : MethodName := ⟨"VisitGrammar$Tree", "grow", "(IIIII)I"⟩
def y_Z_adopt : MethodName := ⟨"VisitGrammar$Tree", "adopt", "(III)V"⟩
def y_Z_clear : MethodName := ⟨"VisitGrammar$Tree", "clear", "()V"⟩
def y_U_init : MethodName := ⟨"VisitGrammar$Walk", "<init>", "(LVisitGrammar$Grammar;LVisitGrammar$Sequences;LVisitGrammar$Tree;)V"⟩
def y_U_begin : MethodName := ⟨"VisitGrammar$Walk", "begin", "(I)V"⟩
def y_U_end : MethodName := ⟨"VisitGrammar$Walk", "end", "()V"⟩
def y_U_isKnown : MethodName := ⟨"VisitGrammar$Walk", "isKnown", "(II)Z"⟩
def y_U_advance : MethodName := ⟨"VisitGrammar$Walk", "advance", "(I)I"⟩
def y_U_step : MethodName := ⟨"VisitGrammar$Walk", "step", "()V"⟩
def y_U_leaveNode : MethodName := ⟨"VisitGrammar$Walk", "leaveNode", "(I)V"⟩
def y_U_setOccurrence : MethodName := ⟨"VisitGrammar$Walk", "setOccurrence", "(II)V"⟩
def y_U_result : MethodName := ⟨"VisitGrammar$Walk", "result", "(I)I"⟩
def y_U_valueOf : MethodName := ⟨"VisitGrammar$Walk", "valueOf", "(I)I"⟩
def y_L_symbol : MethodName := ⟨"VisitGrammarLaw", "symbol", "(LVisitGrammar;II[J)I"⟩
def y_L_production : MethodName := ⟨"VisitGrammarLaw", "production", "(LVisitGrammar;IIII[J)I"⟩
def y_L_rule : MethodName := ⟨"VisitGrammarLaw", "rule", "(LVisitGrammar;IIIII)I"⟩
def y_L_analyse : MethodName := ⟨"VisitGrammarLaw", "analyse", "(LVisitGrammar;[J)I"⟩
def y_L_visits : MethodName := ⟨"VisitGrammarLaw", "visits", "(LVisitGrammar;I[J)I"⟩
def y_L_rank : MethodName := ⟨"VisitGrammarLaw", "rank", "(LVisitGrammar;II[J)I"⟩
def y_L_instruction : MethodName := ⟨"VisitGrammarLaw", "instruction", "(LVisitGrammar;II[J)I"⟩
def y_L_node : MethodName := ⟨"VisitGrammarLaw", "node", "(LVisitGrammar;IIIII[J)I"⟩
def y_L_give : MethodName := ⟨"VisitGrammarLaw", "give", "(LVisitGrammar;II)I"⟩
def y_L_start : MethodName := ⟨"VisitGrammarLaw", "start", "(LVisitGrammar;I)I"⟩
def y_L_run : MethodName := ⟨"VisitGrammarLaw", "run", "(LVisitGrammar;I[J)I"⟩
def y_L_knows : MethodName := ⟨"VisitGrammarLaw", "knows", "(LVisitGrammar;II[J)I"⟩
def y_L_value : MethodName := ⟨"VisitGrammarLaw", "value", "(LVisitGrammar;II[J)I"⟩
def y_L_law : MethodName := ⟨"VisitGrammarLaw", "law", "([I)Z"⟩
def y_I_bitCount : MethodName := ⟨"java/lang/Integer", "bitCount", "(I)I"⟩
def y_R_fill : MethodName := ⟨"java/util/Arrays", "fill", "([II)V"⟩
abbrev CL : List vw_C := [(R_V, F_V, 4), (R_G, F_G, 13), (R_A, F_A, 8), (R_E, F_E, 3), (R_K, F_K, 5), (R_Q, F_Q, 7), (R_Z, F_Z, 6), (R_U, F_U, 10), (R_M, F_M, 35)]
/-! The words, one list for all, and where each stands. Written by wip/tools/gen.py. -/
def WS_0 : List Cond := [(Jvm.Cond.code y_V_holds prog_1_method_22_code (2 : Nat) (Option.some Jvm.ClassFile.FieldType.boolean)), (Jvm.Cond.code y_V_holdsAll prog_1_method_23_code (2 : Nat) (Option.some Jvm.ClassFile.FieldType.boolean)), (Jvm.Cond.code y_G_usesFirst prog_3_method_16_code (1 : Nat) (Option.some Jvm.ClassFile.FieldType.boolean)), (Jvm.Cond.code y_G_usesSecond prog_3_method_17_code (1 : Nat) (Option.some Jvm.ClassFile.FieldType.boolean)), (Jvm.Cond.code y_E_othersAt prog_4_method_10_code (4 : Nat) (Option.some Jvm.ClassFile.FieldType.int)), (Jvm.Cond.code y_M_needs prog_10_method_12_code (1 : Nat) (Option.some Jvm.ClassFile.FieldType.int)), (Jvm.Cond.code y_I_bitCount prog_15_method_49_code (1 : Nat) (Option.some Jvm.ClassFile.FieldType.int)), (Jvm.Cond.constant "java/lang/Integer" (265 : Nat) (1431655765 : Int32)), (Jvm.Cond.constant "java/lang/Integer" (266 : Nat) (858993459 : Int32)), (Jvm.Cond.constant "java/lang/Integer" (267 : Nat) (252645135 : Int32)), (Jvm.Cond.code y_V_leastOf prog_1_method_24_code (1 : Nat) (Option.some Jvm.ClassFile.FieldType.int)), (Jvm.Cond.initialized "java/lang/Integer"), (Jvm.Cond.methodLink "VisitGrammar" (235 : Nat) y_I_bitCount), (Jvm.Cond.static y_I_bitCount), (Jvm.Cond.code y_G_hasSymbol prog_3_method_2_code (2 : Nat) (Option.some Jvm.ClassFile.FieldType.boolean)), (Jvm.Cond.fieldLink "VisitGrammar$Grammar" (45 : Nat) "VisitGrammar$Grammar" "symbolCount" "I"), (Jvm.Cond.code y_G_hasAttribute prog_3_method_3_code (3 : Nat) (Option.some Jvm.ClassFile.FieldType.boolean)), (Jvm.Cond.fieldLink "VisitGrammar$Grammar" (9 : Nat) "VisitGrammar$Grammar" "attributeCounts" "[I"), (Jvm.Cond.code y_G_hasProduction prog_3_method_4_code (2 : Nat) (Option.some Jvm.ClassFile.FieldType.boolean)), (Jvm.Cond.fieldLink "VisitGrammar$Grammar" (49 : Nat) "VisitGrammar$Grammar" "productionCount" "I"), (Jvm.Cond.code y_G_hasOccurrence prog_3_method_5_code (3 : Nat) (Option.some Jvm.ClassFile.FieldType.boolean)), (Jvm.Cond.fieldLink "VisitGrammar$Grammar" (24 : Nat) "VisitGrammar$Grammar" "presentBits" "[I"), (Jvm.Cond.initialized "VisitGrammar"), (Jvm.Cond.methodLinkNest "VisitGrammar$Grammar" (52 : Nat) y_V_holds "VisitGrammar"), (Jvm.Cond.static y_V_holds), (Jvm.Cond.code y_G_isToBeDefined prog_3_method_6_code (3 : Nat) (Option.some Jvm.ClassFile.FieldType.boolean)), (Jvm.Cond.initialized "VisitGrammar$Grammar"), (Jvm.Cond.methodLink "VisitGrammar$Grammar" (56 : Nat) y_G_hasOccurrence), (Jvm.Cond.instanceMethod y_G_hasOccurrence), (Jvm.Cond.selects "VisitGrammar$Grammar" y_G_hasOccurrence y_G_hasOccurrence), (Jvm.Cond.fieldLink "VisitGrammar$Grammar" (27 : Nat) "VisitGrammar$Grammar" "toDefineBits" "[I"), (Jvm.Cond.code y_G_isRight prog_3_method_7_code (4 : Nat) (Option.some Jvm.ClassFile.FieldType.boolean)), (Jvm.Cond.methodLink "VisitGrammar$Grammar" (59 : Nat) y_G_hasSymbol), (Jvm.Cond.instanceMethod y_G_hasSymbol), (Jvm.Cond.selects "VisitGrammar$Grammar" y_G_hasSymbol y_G_hasSymbol), (Jvm.Cond.code y_G_isForm prog_3_method_8_code (5 : Nat) (Option.some Jvm.ClassFile.FieldType.boolean)), (Jvm.Cond.methodLink "VisitGrammar$Grammar" (63 : Nat) y_G_usesFirst), (Jvm.Cond.static y_G_usesFirst), (Jvm.Cond.methodLink "VisitGrammar$Grammar" (66 : Nat) y_G_usesSecond), (Jvm.Cond.static y_G_usesSecond), (Jvm.Cond.code y_G_symbolAt prog_3_method_9_code (3 : Nat) (Option.some Jvm.ClassFile.FieldType.int)), (Jvm.Cond.fieldLink "VisitGrammar$Grammar" (18 : Nat) "VisitGrammar$Grammar" "symbolsAt" "[I"), (Jvm.Cond.code y_G_allAttributes prog_3_method_14_code (2 : Nat) (Option.some Jvm.ClassFile.FieldType.int)), (Jvm.Cond.code y_G_addSymbol prog_3_method_10_code (4 : Nat) (Option.some Jvm.ClassFile.FieldType.int)), (Jvm.Cond.fieldLink "VisitGrammar$Grammar" (15 : Nat) "VisitGrammar$Grammar" "inheritedBits" "[I"), (Jvm.Cond.methodLink "VisitGrammar$Grammar" (69 : Nat) y_G_allAttributes), (Jvm.Cond.instanceMethod y_G_allAttributes), (Jvm.Cond.selects "VisitGrammar$Grammar" y_G_allAttributes y_G_allAttributes), (Jvm.Cond.code y_G_place prog_3_method_12_code (8 : Nat) (Option.none : Option Jvm.ClassFile.FieldType)), (Jvm.Cond.fieldLink "VisitGrammar$Grammar" (21 : Nat) "VisitGrammar$Grammar" "lastPositions" "[I"), (Jvm.Cond.code y_G_addProduction prog_3_method_11_code (6 : Nat) (Option.some Jvm.ClassFile.FieldType.int)), (Jvm.Cond.methodLink "VisitGrammar$Grammar" (73 : Nat) y_G_place), (Jvm.Cond.instanceMethod y_G_place), (Jvm.Cond.selects "VisitGrammar$Grammar" y_G_place y_G_place), (Jvm.Cond.code y_G_setRule prog_3_method_13_code (7 : Nat) (Option.none : Option Jvm.ClassFile.FieldType)), (Jvm.Cond.fieldLink "VisitGrammar$Grammar" (33 : Nat) "VisitGrammar$Grammar" "forms" "[I"), (Jvm.Cond.fieldLink "VisitGrammar$Grammar" (36 : Nat) "VisitGrammar$Grammar" "firsts" "[I"), (Jvm.Cond.fieldLink "VisitGrammar$Grammar" (39 : Nat) "VisitGrammar$Grammar" "seconds" "[I"), (Jvm.Cond.fieldLink "VisitGrammar$Grammar" (42 : Nat) "VisitGrammar$Grammar" "usedBits" "[I"), (Jvm.Cond.fieldLink "VisitGrammar$Grammar" (30 : Nat) "VisitGrammar$Grammar" "ruledBits" "[I")]
def WS_1 : List Cond := [(Jvm.Cond.code y_G_leastWithoutRule prog_3_method_15_code (2 : Nat) (Option.some Jvm.ClassFile.FieldType.int)), (Jvm.Cond.methodLinkNest "VisitGrammar$Grammar" (77 : Nat) y_V_leastOf "VisitGrammar"), (Jvm.Cond.static y_V_leastOf), (Jvm.Cond.code y_E_takeRule prog_4_method_6_code (5 : Nat) (Option.none : Option Jvm.ClassFile.FieldType)), (Jvm.Cond.methodLinkNest "VisitGrammar$Leads" (48 : Nat) y_V_holds "VisitGrammar"), (Jvm.Cond.fieldLink "VisitGrammar$Leads" (9 : Nat) "VisitGrammar$Leads" "ofOccurrences" "[I"), (Jvm.Cond.code y_E_takeRules prog_4_method_5_code (4 : Nat) (Option.none : Option Jvm.ClassFile.FieldType)), (Jvm.Cond.code y_R_fill prog_22_method_103_code (4 : Nat) (Option.none : Option Jvm.ClassFile.FieldType)), (Jvm.Cond.initialized "java/util/Arrays"), (Jvm.Cond.methodLink "VisitGrammar$Leads" (22 : Nat) y_R_fill), (Jvm.Cond.static y_R_fill), (Jvm.Cond.fieldLink "VisitGrammar$Leads" (18 : Nat) "VisitGrammar$Leads" "grammar" "LVisitGrammar$Grammar;"), (Jvm.Cond.fieldLinkNest "VisitGrammar$Leads" (31 : Nat) "VisitGrammar$Grammar" "productionCount" "I" "VisitGrammar"), (Jvm.Cond.fieldLinkNest "VisitGrammar$Leads" (52 : Nat) "VisitGrammar$Grammar" "usedBits" "[I" "VisitGrammar"), (Jvm.Cond.initialized "VisitGrammar$Leads"), (Jvm.Cond.methodLink "VisitGrammar$Leads" (55 : Nat) y_E_takeRule), (Jvm.Cond.instanceMethod y_E_takeRule), (Jvm.Cond.selects "VisitGrammar$Leads" y_E_takeRule y_E_takeRule), (Jvm.Cond.code y_E_takeFromSymbols prog_4_method_7_code (7 : Nat) (Option.none : Option Jvm.ClassFile.FieldType)), (Jvm.Cond.fieldLinkNest "VisitGrammar$Leads" (59 : Nat) "VisitGrammar$Grammar" "lastPositions" "[I" "VisitGrammar"), (Jvm.Cond.methodLink "VisitGrammar$Leads" (62 : Nat) y_G_symbolAt), (Jvm.Cond.instanceMethod y_G_symbolAt), (Jvm.Cond.selects "VisitGrammar$Grammar" y_G_symbolAt y_G_symbolAt), (Jvm.Cond.fieldLink "VisitGrammar$Leads" (15 : Nat) "VisitGrammar$Leads" "ofAttributes" "[I"), (Jvm.Cond.code y_E_close prog_4_method_8_code (6 : Nat) (Option.none : Option Jvm.ClassFile.FieldType)), (Jvm.Cond.code y_E_giveToSymbols prog_4_method_9_code (9 : Nat) (Option.some Jvm.ClassFile.FieldType.boolean)), (Jvm.Cond.methodLink "VisitGrammar$Leads" (66 : Nat) y_E_othersAt), (Jvm.Cond.static y_E_othersAt), (Jvm.Cond.methodLinkNest "VisitGrammar$Leads" (70 : Nat) y_V_holdsAll "VisitGrammar"), (Jvm.Cond.static y_V_holdsAll), (Jvm.Cond.code y_E_takeOrder prog_4_method_3_code (2 : Nat) (Option.none : Option Jvm.ClassFile.FieldType)), (Jvm.Cond.methodLink "VisitGrammar$Leads" (37 : Nat) y_E_takeFromSymbols), (Jvm.Cond.instanceMethod y_E_takeFromSymbols), (Jvm.Cond.selects "VisitGrammar$Leads" y_E_takeFromSymbols y_E_takeFromSymbols), (Jvm.Cond.methodLink "VisitGrammar$Leads" (41 : Nat) y_E_close), (Jvm.Cond.instanceMethod y_E_close), (Jvm.Cond.selects "VisitGrammar$Leads" y_E_close y_E_close), (Jvm.Cond.code y_E_leastLeadingToItself prog_4_method_4_code (4 : Nat) (Option.some Jvm.ClassFile.FieldType.int)), (Jvm.Cond.code y_E_spread prog_4_method_2_code (4 : Nat) (Option.none : Option Jvm.ClassFile.FieldType)), (Jvm.Cond.methodLink "VisitGrammar$Leads" (28 : Nat) y_E_takeRules), (Jvm.Cond.instanceMethod y_E_takeRules), (Jvm.Cond.selects "VisitGrammar$Leads" y_E_takeRules y_E_takeRules), (Jvm.Cond.methodLink "VisitGrammar$Leads" (44 : Nat) y_E_giveToSymbols), (Jvm.Cond.instanceMethod y_E_giveToSymbols), (Jvm.Cond.selects "VisitGrammar$Leads" y_E_giveToSymbols y_E_giveToSymbols), (Jvm.Cond.code y_K_inheritedOf prog_5_method_4_code (3 : Nat) (Option.some Jvm.ClassFile.FieldType.int)), (Jvm.Cond.fieldLink "VisitGrammar$Ranking" (18 : Nat) "VisitGrammar$Ranking" "belonging" "[I"), (Jvm.Cond.fieldLink "VisitGrammar$Ranking" (21 : Nat) "VisitGrammar$Ranking" "grammar" "LVisitGrammar$Grammar;"), (Jvm.Cond.fieldLinkNest "VisitGrammar$Ranking" (63 : Nat) "VisitGrammar$Grammar" "inheritedBits" "[I" "VisitGrammar"), (Jvm.Cond.code y_K_synthesizedOf prog_5_method_5_code (3 : Nat) (Option.some Jvm.ClassFile.FieldType.int)), (Jvm.Cond.code y_K_leastRank prog_5_method_7_code (3 : Nat) (Option.some Jvm.ClassFile.FieldType.int)), (Jvm.Cond.methodLinkNest "VisitGrammar$Ranking" (72 : Nat) y_V_holds "VisitGrammar"), (Jvm.Cond.code y_K_rankAboveLed prog_5_method_8_code (7 : Nat) (Option.some Jvm.ClassFile.FieldType.int)), (Jvm.Cond.fieldLink "VisitGrammar$Ranking" (9 : Nat) "VisitGrammar$Ranking" "ranks" "[I"), (Jvm.Cond.fieldLinkNest "VisitGrammar$Ranking" (51 : Nat) "VisitGrammar$Grammar" "attributeCounts" "[I" "VisitGrammar"), (Jvm.Cond.fieldLink "VisitGrammar$Ranking" (25 : Nat) "VisitGrammar$Ranking" "leads" "LVisitGrammar$Leads;"), (Jvm.Cond.fieldLinkNest "VisitGrammar$Ranking" (54 : Nat) "VisitGrammar$Leads" "ofAttributes" "[I" "VisitGrammar"), (Jvm.Cond.methodLink "VisitGrammar$Ranking" (76 : Nat) ({ cls := "java/lang/Math", name := "max", desc := "(II)I" } : Jvm.MethodName)), (Jvm.Cond.static ({ cls := "java/lang/Math", name := "max", desc := "(II)I" } : Jvm.MethodName)), (Jvm.Cond.initialized "java/lang/Math")]
def WS_2 : List Cond := [(Jvm.Cond.code ({ cls := "java/lang/Math", name := "max", desc := "(II)I" } : Jvm.MethodName) prog_16_method_65_code (2 : Nat) (Option.some Jvm.ClassFile.FieldType.int)), (Jvm.Cond.code y_K_rankAttributes prog_5_method_6_code (6 : Nat) (Option.none : Option Jvm.ClassFile.FieldType)), (Jvm.Cond.initialized "VisitGrammar$Ranking"), (Jvm.Cond.methodLink "VisitGrammar$Ranking" (69 : Nat) y_K_rankAboveLed), (Jvm.Cond.instanceMethod y_K_rankAboveLed), (Jvm.Cond.selects "VisitGrammar$Ranking" y_K_rankAboveLed y_K_rankAboveLed), (Jvm.Cond.methodLink "VisitGrammar$Ranking" (66 : Nat) y_K_leastRank), (Jvm.Cond.instanceMethod y_K_leastRank), (Jvm.Cond.selects "VisitGrammar$Ranking" y_K_leastRank y_K_leastRank), (Jvm.Cond.code y_K_countVisits prog_5_method_9_code (4 : Nat) (Option.none : Option Jvm.ClassFile.FieldType)), (Jvm.Cond.fieldLink "VisitGrammar$Ranking" (15 : Nat) "VisitGrammar$Ranking" "visitCounts" "[I"), (Jvm.Cond.code y_K_shareOut prog_5_method_10_code (5 : Nat) (Option.none : Option Jvm.ClassFile.FieldType)), (Jvm.Cond.code y_K_ofLessRank prog_5_method_11_code (5 : Nat) (Option.some Jvm.ClassFile.FieldType.int)), (Jvm.Cond.code y_K_addToLeads prog_5_method_3_code (4 : Nat) (Option.none : Option Jvm.ClassFile.FieldType)), (Jvm.Cond.fieldLinkNest "VisitGrammar$Ranking" (35 : Nat) "VisitGrammar$Grammar" "symbolCount" "I" "VisitGrammar"), (Jvm.Cond.methodLink "VisitGrammar$Ranking" (59 : Nat) y_K_ofLessRank), (Jvm.Cond.instanceMethod y_K_ofLessRank), (Jvm.Cond.selects "VisitGrammar$Ranking" y_K_ofLessRank y_K_ofLessRank), (Jvm.Cond.code y_K_make prog_5_method_2_code (2 : Nat) (Option.none : Option Jvm.ClassFile.FieldType)), (Jvm.Cond.methodLink "VisitGrammar$Ranking" (29 : Nat) y_R_fill), (Jvm.Cond.methodLink "VisitGrammar$Ranking" (41 : Nat) y_K_rankAttributes), (Jvm.Cond.instanceMethod y_K_rankAttributes), (Jvm.Cond.selects "VisitGrammar$Ranking" y_K_rankAttributes y_K_rankAttributes), (Jvm.Cond.methodLink "VisitGrammar$Ranking" (45 : Nat) y_K_countVisits), (Jvm.Cond.instanceMethod y_K_countVisits), (Jvm.Cond.selects "VisitGrammar$Ranking" y_K_countVisits y_K_countVisits), (Jvm.Cond.methodLink "VisitGrammar$Ranking" (48 : Nat) y_K_shareOut), (Jvm.Cond.instanceMethod y_K_shareOut), (Jvm.Cond.selects "VisitGrammar$Ranking" y_K_shareOut y_K_shareOut), (Jvm.Cond.code y_Q_at prog_6_method_2_code (3 : Nat) (Option.some Jvm.ClassFile.FieldType.int)), (Jvm.Cond.fieldLink "VisitGrammar$Sequences" (15 : Nat) "VisitGrammar$Sequences" "lengths" "[I"), (Jvm.Cond.fieldLink "VisitGrammar$Sequences" (11 : Nat) "VisitGrammar$Sequences" "instructions" "[I"), (Jvm.Cond.code y_Q_lengthOfAll prog_6_method_3_code (3 : Nat) (Option.some Jvm.ClassFile.FieldType.int)), (Jvm.Cond.fieldLink "VisitGrammar$Sequences" (21 : Nat) "VisitGrammar$Sequences" "grammar" "LVisitGrammar$Grammar;"), (Jvm.Cond.fieldLinkNest "VisitGrammar$Sequences" (29 : Nat) "VisitGrammar$Grammar" "productionCount" "I" "VisitGrammar"), (Jvm.Cond.code y_Q_visitsAt prog_6_method_7_code (3 : Nat) (Option.some Jvm.ClassFile.FieldType.int)), (Jvm.Cond.fieldLink "VisitGrammar$Sequences" (25 : Nat) "VisitGrammar$Sequences" "ranking" "LVisitGrammar$Ranking;"), (Jvm.Cond.fieldLinkNest "VisitGrammar$Sequences" (82 : Nat) "VisitGrammar$Ranking" "visitCounts" "[I" "VisitGrammar"), (Jvm.Cond.methodLink "VisitGrammar$Sequences" (56 : Nat) y_G_symbolAt), (Jvm.Cond.code y_Q_readySet prog_6_method_9_code (5 : Nat) (Option.some Jvm.ClassFile.FieldType.int)), (Jvm.Cond.fieldLinkNest "VisitGrammar$Sequences" (68 : Nat) "VisitGrammar$Grammar" "toDefineBits" "[I" "VisitGrammar"), (Jvm.Cond.fieldLink "VisitGrammar$Sequences" (53 : Nat) "VisitGrammar$Sequences" "setBits" "I"), (Jvm.Cond.methodLinkNest "VisitGrammar$Sequences" (104 : Nat) y_V_holds "VisitGrammar"), (Jvm.Cond.fieldLink "VisitGrammar$Sequences" (65 : Nat) "VisitGrammar$Sequences" "knownBits" "I"), (Jvm.Cond.fieldLinkNest "VisitGrammar$Sequences" (108 : Nat) "VisitGrammar$Grammar" "usedBits" "[I" "VisitGrammar"), (Jvm.Cond.methodLinkNest "VisitGrammar$Sequences" (111 : Nat) y_V_holdsAll "VisitGrammar"), (Jvm.Cond.code y_Q_readyVisit prog_6_method_10_code (6 : Nat) (Option.some Jvm.ClassFile.FieldType.int)), (Jvm.Cond.fieldLinkNest "VisitGrammar$Sequences" (76 : Nat) "VisitGrammar$Grammar" "lastPositions" "[I" "VisitGrammar"), (Jvm.Cond.fieldLink "VisitGrammar$Sequences" (18 : Nat) "VisitGrammar$Sequences" "visitsWritten" "[I"), (Jvm.Cond.initialized "VisitGrammar$Sequences"), (Jvm.Cond.methodLink "VisitGrammar$Sequences" (79 : Nat) y_Q_visitsAt), (Jvm.Cond.instanceMethod y_Q_visitsAt), (Jvm.Cond.selects "VisitGrammar$Sequences" y_Q_visitsAt y_Q_visitsAt), (Jvm.Cond.methodLink "VisitGrammar$Sequences" (60 : Nat) y_K_inheritedOf), (Jvm.Cond.instanceMethod y_K_inheritedOf), (Jvm.Cond.selects "VisitGrammar$Ranking" y_K_inheritedOf y_K_inheritedOf), (Jvm.Cond.code y_Q_isLeaveReady prog_6_method_11_code (5 : Nat) (Option.some Jvm.ClassFile.FieldType.boolean)), (Jvm.Cond.methodLink "VisitGrammar$Sequences" (114 : Nat) y_K_synthesizedOf), (Jvm.Cond.instanceMethod y_K_synthesizedOf), (Jvm.Cond.selects "VisitGrammar$Ranking" y_K_synthesizedOf y_K_synthesizedOf)]
def WS_3 : List Cond := [(Jvm.Cond.code y_Q_writeSet prog_6_method_12_code (2 : Nat) (Option.some Jvm.ClassFile.FieldType.int)), (Jvm.Cond.code y_Q_writeVisit prog_6_method_13_code (5 : Nat) (Option.some Jvm.ClassFile.FieldType.int)), (Jvm.Cond.code y_Q_writeLeave prog_6_method_14_code (3 : Nat) (Option.some Jvm.ClassFile.FieldType.int)), (Jvm.Cond.code y_Q_writeNext prog_6_method_8_code (5 : Nat) (Option.some Jvm.ClassFile.FieldType.int)), (Jvm.Cond.methodLink "VisitGrammar$Sequences" (85 : Nat) y_Q_readySet), (Jvm.Cond.instanceMethod y_Q_readySet), (Jvm.Cond.selects "VisitGrammar$Sequences" y_Q_readySet y_Q_readySet), (Jvm.Cond.methodLink "VisitGrammar$Sequences" (91 : Nat) y_Q_readyVisit), (Jvm.Cond.instanceMethod y_Q_readyVisit), (Jvm.Cond.selects "VisitGrammar$Sequences" y_Q_readyVisit y_Q_readyVisit), (Jvm.Cond.methodLink "VisitGrammar$Sequences" (97 : Nat) y_Q_isLeaveReady), (Jvm.Cond.instanceMethod y_Q_isLeaveReady), (Jvm.Cond.selects "VisitGrammar$Sequences" y_Q_isLeaveReady y_Q_isLeaveReady), (Jvm.Cond.methodLink "VisitGrammar$Sequences" (101 : Nat) y_Q_writeLeave), (Jvm.Cond.instanceMethod y_Q_writeLeave), (Jvm.Cond.selects "VisitGrammar$Sequences" y_Q_writeLeave y_Q_writeLeave), (Jvm.Cond.methodLink "VisitGrammar$Sequences" (94 : Nat) y_Q_writeVisit), (Jvm.Cond.instanceMethod y_Q_writeVisit), (Jvm.Cond.selects "VisitGrammar$Sequences" y_Q_writeVisit y_Q_writeVisit), (Jvm.Cond.methodLink "VisitGrammar$Sequences" (88 : Nat) y_Q_writeSet), (Jvm.Cond.instanceMethod y_Q_writeSet), (Jvm.Cond.selects "VisitGrammar$Sequences" y_Q_writeSet y_Q_writeSet), (Jvm.Cond.code y_Q_beginWriting prog_6_method_5_code (2 : Nat) (Option.none : Option Jvm.ClassFile.FieldType)), (Jvm.Cond.methodLink "VisitGrammar$Sequences" (47 : Nat) y_R_fill), (Jvm.Cond.code y_Q_fullLength prog_6_method_6_code (4 : Nat) (Option.some Jvm.ClassFile.FieldType.int)), (Jvm.Cond.methodLink "VisitGrammar$Sequences" (71 : Nat) y_I_bitCount), (Jvm.Cond.code y_Q_write prog_6_method_4_code (4 : Nat) (Option.none : Option Jvm.ClassFile.FieldType)), (Jvm.Cond.methodLink "VisitGrammar$Sequences" (35 : Nat) y_Q_beginWriting), (Jvm.Cond.instanceMethod y_Q_beginWriting), (Jvm.Cond.selects "VisitGrammar$Sequences" y_Q_beginWriting y_Q_beginWriting), (Jvm.Cond.methodLink "VisitGrammar$Sequences" (39 : Nat) y_Q_fullLength), (Jvm.Cond.instanceMethod y_Q_fullLength), (Jvm.Cond.selects "VisitGrammar$Sequences" y_Q_fullLength y_Q_fullLength), (Jvm.Cond.methodLink "VisitGrammar$Sequences" (43 : Nat) y_Q_writeNext), (Jvm.Cond.instanceMethod y_Q_writeNext), (Jvm.Cond.selects "VisitGrammar$Sequences" y_Q_writeNext y_Q_writeNext), (Jvm.Cond.code y_Z_hasNode prog_7_method_2_code (2 : Nat) (Option.some Jvm.ClassFile.FieldType.boolean)), (Jvm.Cond.fieldLink "VisitGrammar$Tree" (28 : Nat) "VisitGrammar$Tree" "nodeCount" "I"), (Jvm.Cond.code y_Z_symbolOf prog_7_method_3_code (2 : Nat) (Option.some Jvm.ClassFile.FieldType.int)), (Jvm.Cond.fieldLink "VisitGrammar$Tree" (24 : Nat) "VisitGrammar$Tree" "grammar" "LVisitGrammar$Grammar;"), (Jvm.Cond.fieldLink "VisitGrammar$Tree" (9 : Nat) "VisitGrammar$Tree" "productions" "[I"), (Jvm.Cond.methodLink "VisitGrammar$Tree" (32 : Nat) y_G_symbolAt), (Jvm.Cond.code y_Z_nodeAt prog_7_method_4_code (3 : Nat) (Option.some Jvm.ClassFile.FieldType.int)), (Jvm.Cond.fieldLink "VisitGrammar$Tree" (21 : Nat) "VisitGrammar$Tree" "nodesAt" "[I"), (Jvm.Cond.code y_Z_canBeChild prog_7_method_6_code (4 : Nat) (Option.some Jvm.ClassFile.FieldType.boolean)), (Jvm.Cond.fieldLinkNest "VisitGrammar$Tree" (42 : Nat) "VisitGrammar$Grammar" "lastPositions" "[I" "VisitGrammar"), (Jvm.Cond.initialized "VisitGrammar$Tree"), (Jvm.Cond.methodLink "VisitGrammar$Tree" (45 : Nat) y_Z_hasNode), (Jvm.Cond.instanceMethod y_Z_hasNode), (Jvm.Cond.selects "VisitGrammar$Tree" y_Z_hasNode y_Z_hasNode), (Jvm.Cond.fieldLink "VisitGrammar$Tree" (18 : Nat) "VisitGrammar$Tree" "parents" "[I"), (Jvm.Cond.methodLink "VisitGrammar$Tree" (49 : Nat) y_Z_symbolOf), (Jvm.Cond.instanceMethod y_Z_symbolOf), (Jvm.Cond.selects "VisitGrammar$Tree" y_Z_symbolOf y_Z_symbolOf), (Jvm.Cond.code y_Z_canBeChildren prog_7_method_5_code (5 : Nat) (Option.some Jvm.ClassFile.FieldType.boolean)), (Jvm.Cond.methodLink "VisitGrammar$Tree" (38 : Nat) y_Z_canBeChild), (Jvm.Cond.instanceMethod y_Z_canBeChild), (Jvm.Cond.selects "VisitGrammar$Tree" y_Z_canBeChild y_Z_canBeChild), (Jvm.Cond.code y_Z_adopt prog_7_method_8_code (4 : Nat) (Option.none : Option Jvm.ClassFile.FieldType)), (Jvm.Cond.code y_Z_grow prog_7_method_7_code (7 : Nat) (Option.some Jvm.ClassFile.FieldType.int))]
def WS_4 : List Cond := [(Jvm.Cond.fieldLink "VisitGrammar$Tree" (15 : Nat) "VisitGrammar$Tree" "tokens" "[I"), (Jvm.Cond.methodLink "VisitGrammar$Tree" (53 : Nat) y_Z_adopt), (Jvm.Cond.instanceMethod y_Z_adopt), (Jvm.Cond.selects "VisitGrammar$Tree" y_Z_adopt y_Z_adopt), (Jvm.Cond.code y_Z_clear prog_7_method_9_code (1 : Nat) (Option.none : Option Jvm.ClassFile.FieldType)), (Jvm.Cond.code y_U_begin prog_8_method_2_code (2 : Nat) (Option.none : Option Jvm.ClassFile.FieldType)), (Jvm.Cond.fieldLink "VisitGrammar$Walk" (18 : Nat) "VisitGrammar$Walk" "knownBits" "[I"), (Jvm.Cond.methodLink "VisitGrammar$Walk" (36 : Nat) y_R_fill), (Jvm.Cond.fieldLink "VisitGrammar$Walk" (21 : Nat) "VisitGrammar$Walk" "instructionsDone" "[I"), (Jvm.Cond.fieldLink "VisitGrammar$Walk" (9 : Nat) "VisitGrammar$Walk" "given" "[I"), (Jvm.Cond.fieldLink "VisitGrammar$Walk" (15 : Nat) "VisitGrammar$Walk" "values" "[I"), (Jvm.Cond.methodLink "VisitGrammar$Walk" (42 : Nat) ({ cls := "java/lang/System", name := "arraycopy", desc := "(Ljava/lang/Object;ILjava/lang/Object;II)V" } : Jvm.MethodName)), (Jvm.Cond.native ({ cls := "java/lang/System", name := "arraycopy", desc := "(Ljava/lang/Object;ILjava/lang/Object;II)V" } : Jvm.MethodName)), (Jvm.Cond.static ({ cls := "java/lang/System", name := "arraycopy", desc := "(Ljava/lang/Object;ILjava/lang/Object;II)V" } : Jvm.MethodName)), (Jvm.Cond.initialized "java/lang/System"), (Jvm.Cond.fieldLink "VisitGrammar$Walk" (24 : Nat) "VisitGrammar$Walk" "grammar" "LVisitGrammar$Grammar;"), (Jvm.Cond.fieldLinkNest "VisitGrammar$Walk" (48 : Nat) "VisitGrammar$Grammar" "inheritedBits" "[I" "VisitGrammar"), (Jvm.Cond.fieldLink "VisitGrammar$Walk" (32 : Nat) "VisitGrammar$Walk" "tree" "LVisitGrammar$Tree;"), (Jvm.Cond.methodLink "VisitGrammar$Walk" (53 : Nat) y_Z_symbolOf), (Jvm.Cond.fieldLink "VisitGrammar$Walk" (59 : Nat) "VisitGrammar$Walk" "root" "I"), (Jvm.Cond.fieldLink "VisitGrammar$Walk" (63 : Nat) "VisitGrammar$Walk" "nodeAtHand" "I"), (Jvm.Cond.fieldLink "VisitGrammar$Walk" (66 : Nat) "VisitGrammar$Walk" "state" "I"), (Jvm.Cond.code y_U_end prog_8_method_3_code (1 : Nat) (Option.none : Option Jvm.ClassFile.FieldType)), (Jvm.Cond.code y_U_isKnown prog_8_method_4_code (3 : Nat) (Option.some Jvm.ClassFile.FieldType.boolean)), (Jvm.Cond.methodLinkNest "VisitGrammar$Walk" (69 : Nat) y_V_holds "VisitGrammar"), (Jvm.Cond.code y_U_leaveNode prog_8_method_7_code (2 : Nat) (Option.none : Option Jvm.ClassFile.FieldType)), (Jvm.Cond.fieldLink "VisitGrammar$Walk" (28 : Nat) "VisitGrammar$Walk" "sequences" "LVisitGrammar$Sequences;"), (Jvm.Cond.fieldLinkNest "VisitGrammar$Walk" (102 : Nat) "VisitGrammar$Sequences" "lengths" "[I" "VisitGrammar"), (Jvm.Cond.fieldLinkNest "VisitGrammar$Walk" (99 : Nat) "VisitGrammar$Tree" "parents" "[I" "VisitGrammar"), (Jvm.Cond.code y_U_setOccurrence prog_8_method_8_code (5 : Nat) (Option.none : Option Jvm.ClassFile.FieldType)), (Jvm.Cond.methodLink "VisitGrammar$Walk" (89 : Nat) y_Z_nodeAt), (Jvm.Cond.instanceMethod y_Z_nodeAt), (Jvm.Cond.selects "VisitGrammar$Tree" y_Z_nodeAt y_Z_nodeAt), (Jvm.Cond.code y_U_valueOf prog_8_method_10_code (3 : Nat) (Option.some Jvm.ClassFile.FieldType.int)), (Jvm.Cond.code y_U_result prog_8_method_9_code (4 : Nat) (Option.some Jvm.ClassFile.FieldType.int)), (Jvm.Cond.fieldLinkNest "VisitGrammar$Walk" (105 : Nat) "VisitGrammar$Grammar" "firsts" "[I" "VisitGrammar"), (Jvm.Cond.fieldLinkNest "VisitGrammar$Walk" (108 : Nat) "VisitGrammar$Grammar" "seconds" "[I" "VisitGrammar"), (Jvm.Cond.fieldLinkNest "VisitGrammar$Walk" (111 : Nat) "VisitGrammar$Grammar" "forms" "[I" "VisitGrammar"), (Jvm.Cond.fieldLinkNest "VisitGrammar$Walk" (114 : Nat) "VisitGrammar$Tree" "tokens" "[I" "VisitGrammar"), (Jvm.Cond.initialized "VisitGrammar$Walk"), (Jvm.Cond.methodLink "VisitGrammar$Walk" (117 : Nat) y_U_valueOf), (Jvm.Cond.instanceMethod y_U_valueOf), (Jvm.Cond.selects "VisitGrammar$Walk" y_U_valueOf y_U_valueOf), (Jvm.Cond.methodLink "VisitGrammar$Walk" (120 : Nat) ({ cls := "java/lang/Math", name := "max", desc := "(II)I" } : Jvm.MethodName)), (Jvm.Cond.code y_U_step prog_8_method_6_code (3 : Nat) (Option.none : Option Jvm.ClassFile.FieldType)), (Jvm.Cond.fieldLinkNest "VisitGrammar$Walk" (76 : Nat) "VisitGrammar$Tree" "productions" "[I" "VisitGrammar"), (Jvm.Cond.methodLink "VisitGrammar$Walk" (79 : Nat) y_Q_at), (Jvm.Cond.instanceMethod y_Q_at), (Jvm.Cond.selects "VisitGrammar$Sequences" y_Q_at y_Q_at), (Jvm.Cond.methodLink "VisitGrammar$Walk" (92 : Nat) y_U_result), (Jvm.Cond.instanceMethod y_U_result), (Jvm.Cond.selects "VisitGrammar$Walk" y_U_result y_U_result), (Jvm.Cond.methodLink "VisitGrammar$Walk" (95 : Nat) y_U_setOccurrence), (Jvm.Cond.instanceMethod y_U_setOccurrence), (Jvm.Cond.selects "VisitGrammar$Walk" y_U_setOccurrence y_U_setOccurrence), (Jvm.Cond.methodLink "VisitGrammar$Walk" (85 : Nat) y_U_leaveNode), (Jvm.Cond.instanceMethod y_U_leaveNode), (Jvm.Cond.selects "VisitGrammar$Walk" y_U_leaveNode y_U_leaveNode), (Jvm.Cond.code y_U_advance prog_8_method_5_code (3 : Nat) (Option.some Jvm.ClassFile.FieldType.int)), (Jvm.Cond.methodLink "VisitGrammar$Walk" (73 : Nat) y_U_step)]
def WS_5 : List Cond := [(Jvm.Cond.instanceMethod y_U_step), (Jvm.Cond.selects "VisitGrammar$Walk" y_U_step y_U_step), (Jvm.Cond.code y_A_forgetFault prog_2_method_3_code (1 : Nat) (Option.none : Option Jvm.ClassFile.FieldType)), (Jvm.Cond.fieldLink "VisitGrammar$Analysis" (74 : Nat) "VisitGrammar$Analysis" "faultKind" "I"), (Jvm.Cond.fieldLink "VisitGrammar$Analysis" (9 : Nat) "VisitGrammar$Analysis" "faultProduction" "I"), (Jvm.Cond.fieldLink "VisitGrammar$Analysis" (15 : Nat) "VisitGrammar$Analysis" "faultOccurrence" "I"), (Jvm.Cond.code y_A_noteFault prog_2_method_8_code (4 : Nat) (Option.none : Option Jvm.ClassFile.FieldType)), (Jvm.Cond.code y_A_isComplete prog_2_method_4_code (3 : Nat) (Option.some Jvm.ClassFile.FieldType.boolean)), (Jvm.Cond.fieldLink "VisitGrammar$Analysis" (18 : Nat) "VisitGrammar$Analysis" "grammar" "LVisitGrammar$Grammar;"), (Jvm.Cond.fieldLinkNest "VisitGrammar$Analysis" (52 : Nat) "VisitGrammar$Grammar" "productionCount" "I" "VisitGrammar"), (Jvm.Cond.methodLink "VisitGrammar$Analysis" (77 : Nat) y_G_leastWithoutRule), (Jvm.Cond.instanceMethod y_G_leastWithoutRule), (Jvm.Cond.selects "VisitGrammar$Grammar" y_G_leastWithoutRule y_G_leastWithoutRule), (Jvm.Cond.initialized "VisitGrammar$Analysis"), (Jvm.Cond.methodLink "VisitGrammar$Analysis" (81 : Nat) y_A_noteFault), (Jvm.Cond.instanceMethod y_A_noteFault), (Jvm.Cond.selects "VisitGrammar$Analysis" y_A_noteFault y_A_noteFault), (Jvm.Cond.code y_A_noneLeadsToItself prog_2_method_7_code (4 : Nat) (Option.some Jvm.ClassFile.FieldType.boolean)), (Jvm.Cond.fieldLink "VisitGrammar$Analysis" (27 : Nat) "VisitGrammar$Analysis" "leads" "LVisitGrammar$Leads;"), (Jvm.Cond.methodLink "VisitGrammar$Analysis" (101 : Nat) y_E_leastLeadingToItself), (Jvm.Cond.instanceMethod y_E_leastLeadingToItself), (Jvm.Cond.selects "VisitGrammar$Leads" y_E_leastLeadingToItself y_E_leastLeadingToItself), (Jvm.Cond.code y_A_isWithoutCircle prog_2_method_5_code (1 : Nat) (Option.some Jvm.ClassFile.FieldType.boolean)), (Jvm.Cond.methodLink "VisitGrammar$Analysis" (85 : Nat) y_E_spread), (Jvm.Cond.instanceMethod y_E_spread), (Jvm.Cond.selects "VisitGrammar$Leads" y_E_spread y_E_spread), (Jvm.Cond.methodLink "VisitGrammar$Analysis" (88 : Nat) y_A_noneLeadsToItself), (Jvm.Cond.instanceMethod y_A_noneLeadsToItself), (Jvm.Cond.selects "VisitGrammar$Analysis" y_A_noneLeadsToItself y_A_noneLeadsToItself), (Jvm.Cond.code y_A_isOrdered prog_2_method_6_code (1 : Nat) (Option.some Jvm.ClassFile.FieldType.boolean)), (Jvm.Cond.fieldLink "VisitGrammar$Analysis" (36 : Nat) "VisitGrammar$Analysis" "ranking" "LVisitGrammar$Ranking;"), (Jvm.Cond.methodLink "VisitGrammar$Analysis" (92 : Nat) y_K_make), (Jvm.Cond.instanceMethod y_K_make), (Jvm.Cond.selects "VisitGrammar$Ranking" y_K_make y_K_make), (Jvm.Cond.methodLink "VisitGrammar$Analysis" (95 : Nat) y_K_addToLeads), (Jvm.Cond.instanceMethod y_K_addToLeads), (Jvm.Cond.selects "VisitGrammar$Ranking" y_K_addToLeads y_K_addToLeads), (Jvm.Cond.methodLink "VisitGrammar$Analysis" (98 : Nat) y_E_takeOrder), (Jvm.Cond.instanceMethod y_E_takeOrder), (Jvm.Cond.selects "VisitGrammar$Leads" y_E_takeOrder y_E_takeOrder), (Jvm.Cond.code y_A_make prog_2_method_2_code (1 : Nat) (Option.none : Option Jvm.ClassFile.FieldType)), (Jvm.Cond.methodLink "VisitGrammar$Analysis" (49 : Nat) y_A_forgetFault), (Jvm.Cond.instanceMethod y_A_forgetFault), (Jvm.Cond.selects "VisitGrammar$Analysis" y_A_forgetFault y_A_forgetFault), (Jvm.Cond.fieldLink "VisitGrammar$Analysis" (67 : Nat) "VisitGrammar$Analysis" "present" "Z"), (Jvm.Cond.fieldLink "VisitGrammar$Analysis" (45 : Nat) "VisitGrammar$Analysis" "sequences" "LVisitGrammar$Sequences;"), (Jvm.Cond.methodLink "VisitGrammar$Analysis" (71 : Nat) y_Q_write), (Jvm.Cond.instanceMethod y_Q_write), (Jvm.Cond.selects "VisitGrammar$Sequences" y_Q_write y_Q_write), (Jvm.Cond.methodLink "VisitGrammar$Analysis" (57 : Nat) y_A_isComplete), (Jvm.Cond.instanceMethod y_A_isComplete), (Jvm.Cond.selects "VisitGrammar$Analysis" y_A_isComplete y_A_isComplete), (Jvm.Cond.methodLink "VisitGrammar$Analysis" (61 : Nat) y_A_isWithoutCircle), (Jvm.Cond.instanceMethod y_A_isWithoutCircle), (Jvm.Cond.selects "VisitGrammar$Analysis" y_A_isWithoutCircle y_A_isWithoutCircle), (Jvm.Cond.methodLink "VisitGrammar$Analysis" (64 : Nat) y_A_isOrdered), (Jvm.Cond.instanceMethod y_A_isOrdered), (Jvm.Cond.selects "VisitGrammar$Analysis" y_A_isOrdered y_A_isOrdered), (Jvm.Cond.code y_M_thrown prog_10_method_2_code (1 : Nat) (Option.some Jvm.ClassFile.FieldType.int)), (Jvm.Cond.fieldLink "VisitGrammarModel" (99 : Nat) "VisitGrammarModel" "code" "I")]
def WS_6 : List Cond := [(Jvm.Cond.code y_M_fail prog_10_method_3_code (2 : Nat) (Option.some Jvm.ClassFile.FieldType.int)), (Jvm.Cond.code y_M_endRun prog_10_method_4_code (2 : Nat) (Option.none : Option Jvm.ClassFile.FieldType)), (Jvm.Cond.fieldLink "VisitGrammarModel" (93 : Nat) "VisitGrammarModel" "root" "I"), (Jvm.Cond.fieldLink "VisitGrammarModel" (96 : Nat) "VisitGrammarModel" "hand" "I"), (Jvm.Cond.fieldLink "VisitGrammarModel" (84 : Nat) "VisitGrammarModel" "known" "[Z"), (Jvm.Cond.code y_M_forget prog_10_method_5_code (1 : Nat) (Option.none : Option Jvm.ClassFile.FieldType)), (Jvm.Cond.fieldLink "VisitGrammarModel" (102 : Nat) "VisitGrammarModel" "analysed" "Z"), (Jvm.Cond.initialized "VisitGrammarModel"), (Jvm.Cond.methodLink "VisitGrammarModel" (106 : Nat) y_M_endRun), (Jvm.Cond.instanceMethod y_M_endRun), (Jvm.Cond.selects "VisitGrammarModel" y_M_endRun y_M_endRun), (Jvm.Cond.code y_M_symbol prog_10_method_6_code (4 : Nat) (Option.some Jvm.ClassFile.FieldType.int)), (Jvm.Cond.fieldLink "VisitGrammarModel" (7 : Nat) "VisitGrammarModel" "attributes" "[I"), (Jvm.Cond.fieldLink "VisitGrammarModel" (109 : Nat) "VisitGrammarModel" "symbols" "I"), (Jvm.Cond.methodLink "VisitGrammarModel" (112 : Nat) y_M_forget), (Jvm.Cond.instanceMethod y_M_forget), (Jvm.Cond.selects "VisitGrammarModel" y_M_forget y_M_forget), (Jvm.Cond.fieldLink "VisitGrammarModel" (13 : Nat) "VisitGrammarModel" "inherits" "[Z"), (Jvm.Cond.code y_M_isSymbol prog_10_method_7_code (2 : Nat) (Option.some Jvm.ClassFile.FieldType.boolean)), (Jvm.Cond.code y_M_production prog_10_method_8_code (9 : Nat) (Option.some Jvm.ClassFile.FieldType.int)), (Jvm.Cond.methodLink "VisitGrammarModel" (115 : Nat) y_M_isSymbol), (Jvm.Cond.instanceMethod y_M_isSymbol), (Jvm.Cond.selects "VisitGrammarModel" y_M_isSymbol y_M_isSymbol), (Jvm.Cond.fieldLink "VisitGrammarModel" (119 : Nat) "VisitGrammarModel" "productions" "I"), (Jvm.Cond.fieldLink "VisitGrammarModel" (20 : Nat) "VisitGrammarModel" "symbolAt" "[I"), (Jvm.Cond.fieldLink "VisitGrammarModel" (17 : Nat) "VisitGrammarModel" "positions" "[I"), (Jvm.Cond.code y_M_isOccurrence prog_10_method_9_code (3 : Nat) (Option.some Jvm.ClassFile.FieldType.boolean)), (Jvm.Cond.code y_M_attributeOf prog_10_method_10_code (3 : Nat) (Option.some Jvm.ClassFile.FieldType.int)), (Jvm.Cond.code y_M_isDefined prog_10_method_11_code (3 : Nat) (Option.some Jvm.ClassFile.FieldType.boolean)), (Jvm.Cond.methodLink "VisitGrammarModel" (122 : Nat) y_M_isOccurrence), (Jvm.Cond.instanceMethod y_M_isOccurrence), (Jvm.Cond.selects "VisitGrammarModel" y_M_isOccurrence y_M_isOccurrence), (Jvm.Cond.methodLink "VisitGrammarModel" (126 : Nat) y_M_attributeOf), (Jvm.Cond.instanceMethod y_M_attributeOf), (Jvm.Cond.selects "VisitGrammarModel" y_M_attributeOf y_M_attributeOf), (Jvm.Cond.code y_M_rule prog_10_method_13_code (7 : Nat) (Option.none : Option Jvm.ClassFile.FieldType)), (Jvm.Cond.methodLink "VisitGrammarModel" (130 : Nat) y_M_isDefined), (Jvm.Cond.instanceMethod y_M_isDefined), (Jvm.Cond.selects "VisitGrammarModel" y_M_isDefined y_M_isDefined), (Jvm.Cond.fieldLink "VisitGrammarModel" (23 : Nat) "VisitGrammarModel" "form" "[I"), (Jvm.Cond.fieldLink "VisitGrammarModel" (26 : Nat) "VisitGrammarModel" "ruleX" "[I"), (Jvm.Cond.fieldLink "VisitGrammarModel" (29 : Nat) "VisitGrammarModel" "ruleY" "[I"), (Jvm.Cond.methodLink "VisitGrammarModel" (133 : Nat) y_M_needs), (Jvm.Cond.static y_M_needs), (Jvm.Cond.code y_M_isUsed prog_10_method_14_code (5 : Nat) (Option.some Jvm.ClassFile.FieldType.boolean)), (Jvm.Cond.code y_M_blame prog_10_method_16_code (4 : Nat) (Option.some Jvm.ClassFile.FieldType.boolean)), (Jvm.Cond.fieldLink "VisitGrammarModel" (141 : Nat) "VisitGrammarModel" "faultKind" "I"), (Jvm.Cond.fieldLink "VisitGrammarModel" (32 : Nat) "VisitGrammarModel" "faultProduction" "I"), (Jvm.Cond.fieldLink "VisitGrammarModel" (36 : Nat) "VisitGrammarModel" "faultOccurrence" "I"), (Jvm.Cond.code y_M_lacks prog_10_method_15_code (3 : Nat) (Option.some Jvm.ClassFile.FieldType.boolean)), (Jvm.Cond.methodLink "VisitGrammarModel" (137 : Nat) y_M_blame), (Jvm.Cond.instanceMethod y_M_blame), (Jvm.Cond.selects "VisitGrammarModel" y_M_blame y_M_blame), (Jvm.Cond.code y_M_begin prog_10_method_17_code (5 : Nat) (Option.none : Option Jvm.ClassFile.FieldType)), (Jvm.Cond.fieldLink "VisitGrammarModel" (39 : Nat) "VisitGrammarModel" "uses" "[Z"), (Jvm.Cond.fieldLink "VisitGrammarModel" (42 : Nat) "VisitGrammarModel" "leads" "[Z"), (Jvm.Cond.methodLink "VisitGrammarModel" (144 : Nat) y_M_isUsed), (Jvm.Cond.instanceMethod y_M_isUsed), (Jvm.Cond.selects "VisitGrammarModel" y_M_isUsed y_M_isUsed), (Jvm.Cond.fieldLink "VisitGrammarModel" (45 : Nat) "VisitGrammarModel" "symbolLeads" "[Z")]
def WS_7 : List Cond := [(Jvm.Cond.code y_M_learn prog_10_method_18_code (8 : Nat) (Option.some Jvm.ClassFile.FieldType.boolean)), (Jvm.Cond.code y_M_circles prog_10_method_19_code (4 : Nat) (Option.some Jvm.ClassFile.FieldType.boolean)), (Jvm.Cond.methodLink "VisitGrammarModel" (147 : Nat) y_M_learn), (Jvm.Cond.instanceMethod y_M_learn), (Jvm.Cond.selects "VisitGrammarModel" y_M_learn y_M_learn), (Jvm.Cond.code y_M_reach prog_10_method_20_code (5 : Nat) (Option.some Jvm.ClassFile.FieldType.int)), (Jvm.Cond.code y_M_rankAll prog_10_method_21_code (7 : Nat) (Option.none : Option Jvm.ClassFile.FieldType)), (Jvm.Cond.fieldLink "VisitGrammarModel" (54 : Nat) "VisitGrammarModel" "visits" "[I"), (Jvm.Cond.methodLink "VisitGrammarModel" (150 : Nat) y_M_reach), (Jvm.Cond.instanceMethod y_M_reach), (Jvm.Cond.selects "VisitGrammarModel" y_M_reach y_M_reach), (Jvm.Cond.fieldLink "VisitGrammarModel" (51 : Nat) "VisitGrammarModel" "rank" "[I"), (Jvm.Cond.code y_M_isDemanded prog_10_method_22_code (5 : Nat) (Option.some Jvm.ClassFile.FieldType.boolean)), (Jvm.Cond.code y_M_mixes prog_10_method_23_code (4 : Nat) (Option.some Jvm.ClassFile.FieldType.boolean)), (Jvm.Cond.fieldLink "VisitGrammarModel" (48 : Nat) "VisitGrammarModel" "order" "[Z"), (Jvm.Cond.methodLink "VisitGrammarModel" (153 : Nat) y_M_isDemanded), (Jvm.Cond.instanceMethod y_M_isDemanded), (Jvm.Cond.selects "VisitGrammarModel" y_M_isDemanded y_M_isDemanded), (Jvm.Cond.code y_M_visitOf prog_10_method_24_code (4 : Nat) (Option.some Jvm.ClassFile.FieldType.int)), (Jvm.Cond.code y_M_isKnown prog_10_method_25_code (3 : Nat) (Option.some Jvm.ClassFile.FieldType.boolean)), (Jvm.Cond.fieldLink "VisitGrammarModel" (63 : Nat) "VisitGrammarModel" "set" "[Z"), (Jvm.Cond.methodLink "VisitGrammarModel" (156 : Nat) y_M_visitOf), (Jvm.Cond.instanceMethod y_M_visitOf), (Jvm.Cond.selects "VisitGrammarModel" y_M_visitOf y_M_visitOf), (Jvm.Cond.fieldLink "VisitGrammarModel" (66 : Nat) "VisitGrammarModel" "visited" "[I"), (Jvm.Cond.code y_M_canSet prog_10_method_26_code (5 : Nat) (Option.some Jvm.ClassFile.FieldType.boolean)), (Jvm.Cond.methodLink "VisitGrammarModel" (159 : Nat) y_M_isKnown), (Jvm.Cond.instanceMethod y_M_isKnown), (Jvm.Cond.selects "VisitGrammarModel" y_M_isKnown y_M_isKnown), (Jvm.Cond.code y_M_isPrepared prog_10_method_27_code (6 : Nat) (Option.some Jvm.ClassFile.FieldType.boolean)), (Jvm.Cond.code y_M_canGo prog_10_method_28_code (4 : Nat) (Option.some Jvm.ClassFile.FieldType.boolean)), (Jvm.Cond.methodLink "VisitGrammarModel" (162 : Nat) y_M_isPrepared), (Jvm.Cond.instanceMethod y_M_isPrepared), (Jvm.Cond.selects "VisitGrammarModel" y_M_isPrepared y_M_isPrepared), (Jvm.Cond.code y_M_plan prog_10_method_29_code (4 : Nat) (Option.none : Option Jvm.ClassFile.FieldType)), (Jvm.Cond.fieldLink "VisitGrammarModel" (57 : Nat) "VisitGrammarModel" "length" "[I"), (Jvm.Cond.fieldLink "VisitGrammarModel" (60 : Nat) "VisitGrammarModel" "sequence" "[I"), (Jvm.Cond.methodLink "VisitGrammarModel" (168 : Nat) y_M_canGo), (Jvm.Cond.instanceMethod y_M_canGo), (Jvm.Cond.selects "VisitGrammarModel" y_M_canGo y_M_canGo), (Jvm.Cond.methodLink "VisitGrammarModel" (165 : Nat) y_M_canSet), (Jvm.Cond.instanceMethod y_M_canSet), (Jvm.Cond.selects "VisitGrammarModel" y_M_canSet y_M_canSet), (Jvm.Cond.code y_M_analyse prog_10_method_30_code (3 : Nat) (Option.some Jvm.ClassFile.FieldType.int)), (Jvm.Cond.methodLink "VisitGrammarModel" (171 : Nat) y_M_lacks), (Jvm.Cond.instanceMethod y_M_lacks), (Jvm.Cond.selects "VisitGrammarModel" y_M_lacks y_M_lacks), (Jvm.Cond.methodLink "VisitGrammarModel" (175 : Nat) y_M_fail), (Jvm.Cond.instanceMethod y_M_fail), (Jvm.Cond.selects "VisitGrammarModel" y_M_fail y_M_fail), (Jvm.Cond.methodLink "VisitGrammarModel" (178 : Nat) y_M_begin), (Jvm.Cond.instanceMethod y_M_begin), (Jvm.Cond.selects "VisitGrammarModel" y_M_begin y_M_begin), (Jvm.Cond.methodLink "VisitGrammarModel" (181 : Nat) y_M_circles), (Jvm.Cond.instanceMethod y_M_circles), (Jvm.Cond.selects "VisitGrammarModel" y_M_circles y_M_circles), (Jvm.Cond.methodLink "VisitGrammarModel" (188 : Nat) y_M_mixes), (Jvm.Cond.instanceMethod y_M_mixes), (Jvm.Cond.selects "VisitGrammarModel" y_M_mixes y_M_mixes), (Jvm.Cond.methodLink "VisitGrammarModel" (191 : Nat) y_M_plan)]
def WS_8 : List Cond := [(Jvm.Cond.instanceMethod y_M_plan), (Jvm.Cond.selects "VisitGrammarModel" y_M_plan y_M_plan), (Jvm.Cond.methodLink "VisitGrammarModel" (184 : Nat) y_M_rankAll), (Jvm.Cond.instanceMethod y_M_rankAll), (Jvm.Cond.selects "VisitGrammarModel" y_M_rankAll y_M_rankAll), (Jvm.Cond.code y_M_fault prog_10_method_31_code (2 : Nat) (Option.some Jvm.ClassFile.FieldType.int)), (Jvm.Cond.code y_M_visits prog_10_method_32_code (2 : Nat) (Option.some Jvm.ClassFile.FieldType.int)), (Jvm.Cond.code y_M_rank prog_10_method_33_code (3 : Nat) (Option.some Jvm.ClassFile.FieldType.int)), (Jvm.Cond.code y_M_instruction prog_10_method_34_code (3 : Nat) (Option.some Jvm.ClassFile.FieldType.int)), (Jvm.Cond.code y_M_fits prog_10_method_35_code (4 : Nat) (Option.some Jvm.ClassFile.FieldType.boolean)), (Jvm.Cond.fieldLink "VisitGrammarModel" (194 : Nat) "VisitGrammarModel" "nodes" "I"), (Jvm.Cond.fieldLink "VisitGrammarModel" (78 : Nat) "VisitGrammarModel" "parent" "[I"), (Jvm.Cond.fieldLink "VisitGrammarModel" (69 : Nat) "VisitGrammarModel" "production" "[I"), (Jvm.Cond.code y_M_node prog_10_method_36_code (9 : Nat) (Option.some Jvm.ClassFile.FieldType.int)), (Jvm.Cond.fieldLink "VisitGrammarModel" (72 : Nat) "VisitGrammarModel" "token" "[I"), (Jvm.Cond.fieldLink "VisitGrammarModel" (75 : Nat) "VisitGrammarModel" "child" "[I"), (Jvm.Cond.methodLink "VisitGrammarModel" (197 : Nat) y_M_fits), (Jvm.Cond.instanceMethod y_M_fits), (Jvm.Cond.selects "VisitGrammarModel" y_M_fits y_M_fits), (Jvm.Cond.code y_M_fell prog_10_method_37_code (1 : Nat) (Option.none : Option Jvm.ClassFile.FieldType)), (Jvm.Cond.code y_M_give prog_10_method_38_code (3 : Nat) (Option.none : Option Jvm.ClassFile.FieldType)), (Jvm.Cond.fieldLink "VisitGrammarModel" (90 : Nat) "VisitGrammarModel" "given" "[I"), (Jvm.Cond.code y_M_isNode prog_10_method_39_code (2 : Nat) (Option.some Jvm.ClassFile.FieldType.boolean)), (Jvm.Cond.code y_M_start prog_10_method_40_code (4 : Nat) (Option.none : Option Jvm.ClassFile.FieldType)), (Jvm.Cond.fieldLink "VisitGrammarModel" (87 : Nat) "VisitGrammarModel" "value" "[I"), (Jvm.Cond.fieldLink "VisitGrammarModel" (81 : Nat) "VisitGrammarModel" "next" "[I"), (Jvm.Cond.methodLink "VisitGrammarModel" (200 : Nat) y_M_isNode), (Jvm.Cond.instanceMethod y_M_isNode), (Jvm.Cond.selects "VisitGrammarModel" y_M_isNode y_M_isNode), (Jvm.Cond.code y_M_cell prog_10_method_41_code (3 : Nat) (Option.some Jvm.ClassFile.FieldType.int)), (Jvm.Cond.code y_M_worth prog_10_method_42_code (7 : Nat) (Option.some Jvm.ClassFile.FieldType.int)), (Jvm.Cond.methodLink "VisitGrammarModel" (203 : Nat) y_M_cell), (Jvm.Cond.instanceMethod y_M_cell), (Jvm.Cond.selects "VisitGrammarModel" y_M_cell y_M_cell), (Jvm.Cond.code y_M_step prog_10_method_43_code (4 : Nat) (Option.none : Option Jvm.ClassFile.FieldType)), (Jvm.Cond.methodLink "VisitGrammarModel" (206 : Nat) y_M_worth), (Jvm.Cond.instanceMethod y_M_worth), (Jvm.Cond.selects "VisitGrammarModel" y_M_worth y_M_worth), (Jvm.Cond.code y_M_run prog_10_method_44_code (3 : Nat) (Option.some Jvm.ClassFile.FieldType.int)), (Jvm.Cond.methodLink "VisitGrammarModel" (209 : Nat) y_M_step), (Jvm.Cond.instanceMethod y_M_step), (Jvm.Cond.selects "VisitGrammarModel" y_M_step y_M_step), (Jvm.Cond.code y_M_status prog_10_method_45_code (1 : Nat) (Option.some Jvm.ClassFile.FieldType.int)), (Jvm.Cond.code y_M_atHand prog_10_method_46_code (1 : Nat) (Option.some Jvm.ClassFile.FieldType.int)), (Jvm.Cond.code y_M_isAttribute prog_10_method_47_code (3 : Nat) (Option.some Jvm.ClassFile.FieldType.boolean)), (Jvm.Cond.code y_M_knows prog_10_method_48_code (3 : Nat) (Option.some Jvm.ClassFile.FieldType.boolean)), (Jvm.Cond.methodLink "VisitGrammarModel" (212 : Nat) y_M_isAttribute), (Jvm.Cond.instanceMethod y_M_isAttribute), (Jvm.Cond.selects "VisitGrammarModel" y_M_isAttribute y_M_isAttribute), (Jvm.Cond.code y_M_value prog_10_method_49_code (3 : Nat) (Option.some Jvm.ClassFile.FieldType.int)), (Jvm.Cond.code y_V_dropAnalysis prog_1_method_19_code (1 : Nat) (Option.none : Option Jvm.ClassFile.FieldType)), (Jvm.Cond.fieldLink "VisitGrammar" (21 : Nat) "VisitGrammar" "analysis" "LVisitGrammar$Analysis;"), (Jvm.Cond.fieldLinkNest "VisitGrammar" (125 : Nat) "VisitGrammar$Analysis" "present" "Z" "VisitGrammar"), (Jvm.Cond.fieldLink "VisitGrammar" (41 : Nat) "VisitGrammar" "walk" "LVisitGrammar$Walk;"), (Jvm.Cond.methodLink "VisitGrammar" (111 : Nat) y_U_end), (Jvm.Cond.instanceMethod y_U_end), (Jvm.Cond.selects "VisitGrammar$Walk" y_U_end y_U_end), (Jvm.Cond.code y_V_requireAnalysis prog_1_method_20_code (1 : Nat) (Option.none : Option Jvm.ClassFile.FieldType)), (Jvm.Cond.methodLink "VisitGrammar" (60 : Nat) ({ cls := "java/lang/IllegalStateException", name := "<init>", desc := "(Ljava/lang/String;)V" } : Jvm.MethodName)), (Jvm.Cond.classLink "VisitGrammar" (56 : Nat) "java/lang/IllegalStateException")]
def WS_9 : List Cond := [(Jvm.Cond.initialized "java/lang/IllegalStateException"), (Jvm.Cond.stringRef "VisitGrammar" (228 : Nat) "there is no analysis"), (Jvm.Cond.code y_V_requireAttribute prog_1_method_21_code (3 : Nat) (Option.none : Option Jvm.ClassFile.FieldType)), (Jvm.Cond.fieldLink "VisitGrammar" (28 : Nat) "VisitGrammar" "tree" "LVisitGrammar$Tree;"), (Jvm.Cond.methodLink "VisitGrammar" (193 : Nat) y_Z_hasNode), (Jvm.Cond.methodLink "VisitGrammar" (94 : Nat) ({ cls := "java/lang/IndexOutOfBoundsException", name := "<init>", desc := "(Ljava/lang/String;)V" } : Jvm.MethodName)), (Jvm.Cond.fieldLink "VisitGrammar" (12 : Nat) "VisitGrammar" "grammar" "LVisitGrammar$Grammar;"), (Jvm.Cond.methodLink "VisitGrammar" (230 : Nat) y_Z_symbolOf), (Jvm.Cond.methodLink "VisitGrammar" (158 : Nat) y_G_hasAttribute), (Jvm.Cond.instanceMethod y_G_hasAttribute), (Jvm.Cond.selects "VisitGrammar$Grammar" y_G_hasAttribute y_G_hasAttribute), (Jvm.Cond.classLink "VisitGrammar" (90 : Nat) "java/lang/IndexOutOfBoundsException"), (Jvm.Cond.initialized "java/lang/IndexOutOfBoundsException"), (Jvm.Cond.stringRef "VisitGrammar" (233 : Nat) "no such node or attribute"), (Jvm.Cond.code y_V_symbol prog_1_method_2_code (3 : Nat) (Option.some Jvm.ClassFile.FieldType.int)), (Jvm.Cond.methodLink "VisitGrammar" (49 : Nat) ({ cls := "java/lang/IllegalArgumentException", name := "<init>", desc := "(Ljava/lang/String;)V" } : Jvm.MethodName)), (Jvm.Cond.fieldLinkNest "VisitGrammar" (52 : Nat) "VisitGrammar$Grammar" "symbolCount" "I" "VisitGrammar"), (Jvm.Cond.methodLink "VisitGrammar" (61 : Nat) y_V_dropAnalysis), (Jvm.Cond.instanceMethod y_V_dropAnalysis), (Jvm.Cond.selects "VisitGrammar" y_V_dropAnalysis y_V_dropAnalysis), (Jvm.Cond.methodLink "VisitGrammar" (64 : Nat) y_G_addSymbol), (Jvm.Cond.instanceMethod y_G_addSymbol), (Jvm.Cond.selects "VisitGrammar$Grammar" y_G_addSymbol y_G_addSymbol), (Jvm.Cond.classLink "VisitGrammar" (45 : Nat) "java/lang/IllegalArgumentException"), (Jvm.Cond.initialized "java/lang/IllegalArgumentException"), (Jvm.Cond.stringRef "VisitGrammar" (47 : Nat) "attributes are not 0 to 4"), (Jvm.Cond.stringRef "VisitGrammar" (58 : Nat) "there are 6 symbols"), (Jvm.Cond.code y_V_production prog_1_method_3_code (5 : Nat) (Option.some Jvm.ClassFile.FieldType.int)), (Jvm.Cond.methodLink "VisitGrammar" (68 : Nat) y_G_hasSymbol), (Jvm.Cond.methodLink "VisitGrammar" (72 : Nat) y_G_isRight), (Jvm.Cond.instanceMethod y_G_isRight), (Jvm.Cond.selects "VisitGrammar$Grammar" y_G_isRight y_G_isRight), (Jvm.Cond.fieldLinkNest "VisitGrammar" (78 : Nat) "VisitGrammar$Grammar" "productionCount" "I" "VisitGrammar"), (Jvm.Cond.methodLink "VisitGrammar" (83 : Nat) y_G_addProduction), (Jvm.Cond.instanceMethod y_G_addProduction), (Jvm.Cond.selects "VisitGrammar$Grammar" y_G_addProduction y_G_addProduction), (Jvm.Cond.stringRef "VisitGrammar" (76 : Nat) "no such symbol, or something behind a -1"), (Jvm.Cond.stringRef "VisitGrammar" (81 : Nat) "there are 10 productions"), (Jvm.Cond.code y_V_rule prog_1_method_4_code (6 : Nat) (Option.none : Option Jvm.ClassFile.FieldType)), (Jvm.Cond.methodLink "VisitGrammar" (87 : Nat) y_G_hasProduction), (Jvm.Cond.instanceMethod y_G_hasProduction), (Jvm.Cond.selects "VisitGrammar$Grammar" y_G_hasProduction y_G_hasProduction), (Jvm.Cond.methodLink "VisitGrammar" (95 : Nat) y_G_isToBeDefined), (Jvm.Cond.instanceMethod y_G_isToBeDefined), (Jvm.Cond.selects "VisitGrammar$Grammar" y_G_isToBeDefined y_G_isToBeDefined), (Jvm.Cond.methodLink "VisitGrammar" (101 : Nat) y_G_isForm), (Jvm.Cond.instanceMethod y_G_isForm), (Jvm.Cond.selects "VisitGrammar$Grammar" y_G_isForm y_G_isForm), (Jvm.Cond.methodLink "VisitGrammar" (107 : Nat) y_G_setRule), (Jvm.Cond.instanceMethod y_G_setRule), (Jvm.Cond.selects "VisitGrammar$Grammar" y_G_setRule y_G_setRule), (Jvm.Cond.stringRef "VisitGrammar" (105 : Nat) "no such form, or no such occurrence used"), (Jvm.Cond.stringRef "VisitGrammar" (99 : Nat) "not an occurrence to be defined"), (Jvm.Cond.stringRef "VisitGrammar" (92 : Nat) "no such production"), (Jvm.Cond.code y_V_analyse prog_1_method_5_code (1 : Nat) (Option.some Jvm.ClassFile.FieldType.int)), (Jvm.Cond.methodLink "VisitGrammar" (114 : Nat) y_A_make), (Jvm.Cond.instanceMethod y_A_make), (Jvm.Cond.selects "VisitGrammar$Analysis" y_A_make y_A_make), (Jvm.Cond.fieldLinkNest "VisitGrammar" (117 : Nat) "VisitGrammar$Analysis" "faultKind" "I" "VisitGrammar"), (Jvm.Cond.methodLink "VisitGrammar" (124 : Nat) ({ cls := "java/lang/UnsupportedOperationException", name := "<init>", desc := "(Ljava/lang/String;)V" } : Jvm.MethodName))]
def WS_10 : List Cond := [(Jvm.Cond.fieldLinkNest "VisitGrammar" (34 : Nat) "VisitGrammar$Analysis" "sequences" "LVisitGrammar$Sequences;" "VisitGrammar"), (Jvm.Cond.methodLink "VisitGrammar" (131 : Nat) y_Q_lengthOfAll), (Jvm.Cond.instanceMethod y_Q_lengthOfAll), (Jvm.Cond.selects "VisitGrammar$Sequences" y_Q_lengthOfAll y_Q_lengthOfAll), (Jvm.Cond.stringRef "VisitGrammar" (129 : Nat) "incomplete, or no production"), (Jvm.Cond.classLink "VisitGrammar" (120 : Nat) "java/lang/UnsupportedOperationException"), (Jvm.Cond.initialized "java/lang/UnsupportedOperationException"), (Jvm.Cond.stringRef "VisitGrammar" (122 : Nat) "circular, or not ordered"), (Jvm.Cond.code y_V_fault prog_1_method_6_code (2 : Nat) (Option.some Jvm.ClassFile.FieldType.int)), (Jvm.Cond.fieldLinkNest "VisitGrammar" (137 : Nat) "VisitGrammar$Analysis" "faultProduction" "I" "VisitGrammar"), (Jvm.Cond.fieldLinkNest "VisitGrammar" (140 : Nat) "VisitGrammar$Analysis" "faultOccurrence" "I" "VisitGrammar"), (Jvm.Cond.code y_V_visits prog_1_method_7_code (2 : Nat) (Option.some Jvm.ClassFile.FieldType.int)), (Jvm.Cond.methodLink "VisitGrammar" (143 : Nat) y_V_requireAnalysis), (Jvm.Cond.instanceMethod y_V_requireAnalysis), (Jvm.Cond.selects "VisitGrammar" y_V_requireAnalysis y_V_requireAnalysis), (Jvm.Cond.fieldLinkNest "VisitGrammar" (148 : Nat) "VisitGrammar$Analysis" "ranking" "LVisitGrammar$Ranking;" "VisitGrammar"), (Jvm.Cond.fieldLinkNest "VisitGrammar" (152 : Nat) "VisitGrammar$Ranking" "visitCounts" "[I" "VisitGrammar"), (Jvm.Cond.stringRef "VisitGrammar" (146 : Nat) "no such symbol"), (Jvm.Cond.code y_V_rank prog_1_method_8_code (3 : Nat) (Option.some Jvm.ClassFile.FieldType.int)), (Jvm.Cond.fieldLinkNest "VisitGrammar" (163 : Nat) "VisitGrammar$Ranking" "ranks" "[I" "VisitGrammar"), (Jvm.Cond.stringRef "VisitGrammar" (161 : Nat) "no such symbol or attribute"), (Jvm.Cond.code y_V_instruction prog_1_method_9_code (3 : Nat) (Option.some Jvm.ClassFile.FieldType.int)), (Jvm.Cond.methodLink "VisitGrammar" (168 : Nat) y_Q_at), (Jvm.Cond.stringRef "VisitGrammar" (166 : Nat) "no such production, or k below 0"), (Jvm.Cond.code y_V_node prog_1_method_10_code (6 : Nat) (Option.some Jvm.ClassFile.FieldType.int)), (Jvm.Cond.methodLink "VisitGrammar" (171 : Nat) y_Z_canBeChildren), (Jvm.Cond.instanceMethod y_Z_canBeChildren), (Jvm.Cond.selects "VisitGrammar$Tree" y_Z_canBeChildren y_Z_canBeChildren), (Jvm.Cond.fieldLinkNest "VisitGrammar" (176 : Nat) "VisitGrammar$Tree" "nodeCount" "I" "VisitGrammar"), (Jvm.Cond.methodLink "VisitGrammar" (181 : Nat) y_Z_grow), (Jvm.Cond.instanceMethod y_Z_grow), (Jvm.Cond.selects "VisitGrammar$Tree" y_Z_grow y_Z_grow), (Jvm.Cond.stringRef "VisitGrammar" (174 : Nat) "no such production, or a child that will not do"), (Jvm.Cond.stringRef "VisitGrammar" (179 : Nat) "there are 40 nodes"), (Jvm.Cond.code y_V_fell prog_1_method_11_code (1 : Nat) (Option.none : Option Jvm.ClassFile.FieldType)), (Jvm.Cond.methodLink "VisitGrammar" (185 : Nat) y_Z_clear), (Jvm.Cond.instanceMethod y_Z_clear), (Jvm.Cond.selects "VisitGrammar$Tree" y_Z_clear y_Z_clear), (Jvm.Cond.code y_V_give prog_1_method_12_code (3 : Nat) (Option.none : Option Jvm.ClassFile.FieldType)), (Jvm.Cond.fieldLinkNest "VisitGrammar" (190 : Nat) "VisitGrammar$Walk" "given" "[I" "VisitGrammar"), (Jvm.Cond.stringRef "VisitGrammar" (188 : Nat) "not an attribute 0 to 3"), (Jvm.Cond.code y_V_start prog_1_method_13_code (2 : Nat) (Option.none : Option Jvm.ClassFile.FieldType)), (Jvm.Cond.methodLink "VisitGrammar" (198 : Nat) y_U_begin), (Jvm.Cond.instanceMethod y_U_begin), (Jvm.Cond.selects "VisitGrammar$Walk" y_U_begin y_U_begin), (Jvm.Cond.stringRef "VisitGrammar" (196 : Nat) "no such node"), (Jvm.Cond.code y_V_run prog_1_method_14_code (2 : Nat) (Option.some Jvm.ClassFile.FieldType.int)), (Jvm.Cond.fieldLinkNest "VisitGrammar" (204 : Nat) "VisitGrammar$Walk" "state" "I" "VisitGrammar"), (Jvm.Cond.methodLink "VisitGrammar" (209 : Nat) y_U_advance), (Jvm.Cond.instanceMethod y_U_advance), (Jvm.Cond.selects "VisitGrammar$Walk" y_U_advance y_U_advance), (Jvm.Cond.stringRef "VisitGrammar" (202 : Nat) "steps are not 0 to 500"), (Jvm.Cond.stringRef "VisitGrammar" (207 : Nat) "there is no run"), (Jvm.Cond.code y_V_status prog_1_method_15_code (1 : Nat) (Option.some Jvm.ClassFile.FieldType.int)), (Jvm.Cond.code y_V_atHand prog_1_method_16_code (1 : Nat) (Option.some Jvm.ClassFile.FieldType.int)), (Jvm.Cond.fieldLinkNest "VisitGrammar" (213 : Nat) "VisitGrammar$Walk" "nodeAtHand" "I" "VisitGrammar"), (Jvm.Cond.code y_V_knows prog_1_method_17_code (3 : Nat) (Option.some Jvm.ClassFile.FieldType.boolean)), (Jvm.Cond.methodLink "VisitGrammar" (216 : Nat) y_V_requireAttribute), (Jvm.Cond.instanceMethod y_V_requireAttribute), (Jvm.Cond.selects "VisitGrammar" y_V_requireAttribute y_V_requireAttribute)]
def WS_11 : List Cond := [(Jvm.Cond.methodLink "VisitGrammar" (220 : Nat) y_U_isKnown), (Jvm.Cond.instanceMethod y_U_isKnown), (Jvm.Cond.selects "VisitGrammar$Walk" y_U_isKnown y_U_isKnown), (Jvm.Cond.code y_V_value prog_1_method_18_code (3 : Nat) (Option.some Jvm.ClassFile.FieldType.int)), (Jvm.Cond.fieldLinkNest "VisitGrammar" (225 : Nat) "VisitGrammar$Walk" "values" "[I" "VisitGrammar"), (Jvm.Cond.stringRef "VisitGrammar" (223 : Nat) "the attribute is not known"), (Jvm.Cond.codeWith y_L_symbol method_3_code (5 : Nat) (Option.some Jvm.ClassFile.FieldType.int) [((0 : Nat), (10 : Nat), (13 : Nat), (13 : Nat)), ((0 : Nat), (10 : Nat), (17 : Nat), (15 : Nat))]), (Jvm.Cond.methodLink "VisitGrammarLaw" (7 : Nat) y_V_symbol), (Jvm.Cond.instanceMethod y_V_symbol), (Jvm.Cond.selects "VisitGrammar" y_V_symbol y_V_symbol), (Jvm.Cond.classLink "VisitGrammarLaw" (13 : Nat) "java/lang/IllegalArgumentException"), (Jvm.Cond.castable "java/lang/IllegalArgumentException" "java/lang/IllegalArgumentException"), (Jvm.Cond.classLink "VisitGrammarLaw" (15 : Nat) "java/lang/IllegalStateException"), (Jvm.Cond.castable "java/lang/IllegalStateException" "java/lang/IllegalStateException"), (Jvm.Cond.codeWith y_L_production method_4_code (7 : Nat) (Option.some Jvm.ClassFile.FieldType.int) [((0 : Nat), (14 : Nat), (17 : Nat), (13 : Nat)), ((0 : Nat), (14 : Nat), (21 : Nat), (15 : Nat))]), (Jvm.Cond.methodLink "VisitGrammarLaw" (17 : Nat) y_V_production), (Jvm.Cond.instanceMethod y_V_production), (Jvm.Cond.selects "VisitGrammar" y_V_production y_V_production), (Jvm.Cond.codeWith y_L_rule method_5_code (7 : Nat) (Option.some Jvm.ClassFile.FieldType.int) [((0 : Nat), (11 : Nat), (14 : Nat), (25 : Nat)), ((0 : Nat), (11 : Nat), (18 : Nat), (13 : Nat))]), (Jvm.Cond.methodLink "VisitGrammarLaw" (21 : Nat) y_V_rule), (Jvm.Cond.instanceMethod y_V_rule), (Jvm.Cond.selects "VisitGrammar" y_V_rule y_V_rule), (Jvm.Cond.classLink "VisitGrammarLaw" (25 : Nat) "java/lang/IndexOutOfBoundsException"), (Jvm.Cond.castable "java/lang/IndexOutOfBoundsException" "java/lang/IndexOutOfBoundsException"), (Jvm.Cond.codeWith y_L_analyse method_6_code (3 : Nat) (Option.some Jvm.ClassFile.FieldType.int) [((0 : Nat), (8 : Nat), (11 : Nat), (15 : Nat)), ((0 : Nat), (8 : Nat), (14 : Nat), (31 : Nat))]), (Jvm.Cond.methodLink "VisitGrammarLaw" (27 : Nat) y_V_analyse), (Jvm.Cond.instanceMethod y_V_analyse), (Jvm.Cond.selects "VisitGrammar" y_V_analyse y_V_analyse), (Jvm.Cond.classLink "VisitGrammarLaw" (31 : Nat) "java/lang/UnsupportedOperationException"), (Jvm.Cond.castable "java/lang/UnsupportedOperationException" "java/lang/UnsupportedOperationException"), (Jvm.Cond.codeWith y_L_visits method_7_code (4 : Nat) (Option.some Jvm.ClassFile.FieldType.int) [((0 : Nat), (9 : Nat), (12 : Nat), (15 : Nat)), ((0 : Nat), (9 : Nat), (15 : Nat), (25 : Nat))]), (Jvm.Cond.methodLink "VisitGrammarLaw" (33 : Nat) y_V_visits), (Jvm.Cond.instanceMethod y_V_visits), (Jvm.Cond.selects "VisitGrammar" y_V_visits y_V_visits), (Jvm.Cond.codeWith y_L_rank method_8_code (5 : Nat) (Option.some Jvm.ClassFile.FieldType.int) [((0 : Nat), (10 : Nat), (13 : Nat), (15 : Nat)), ((0 : Nat), (10 : Nat), (17 : Nat), (25 : Nat))]), (Jvm.Cond.methodLink "VisitGrammarLaw" (37 : Nat) y_V_rank), (Jvm.Cond.instanceMethod y_V_rank), (Jvm.Cond.selects "VisitGrammar" y_V_rank y_V_rank), (Jvm.Cond.codeWith y_L_instruction method_9_code (5 : Nat) (Option.some Jvm.ClassFile.FieldType.int) [((0 : Nat), (10 : Nat), (13 : Nat), (15 : Nat)), ((0 : Nat), (10 : Nat), (17 : Nat), (25 : Nat))]), (Jvm.Cond.methodLink "VisitGrammarLaw" (40 : Nat) y_V_instruction), (Jvm.Cond.instanceMethod y_V_instruction), (Jvm.Cond.selects "VisitGrammar" y_V_instruction y_V_instruction), (Jvm.Cond.codeWith y_L_node method_10_code (8 : Nat) (Option.some Jvm.ClassFile.FieldType.int) [((0 : Nat), (16 : Nat), (19 : Nat), (13 : Nat)), ((0 : Nat), (16 : Nat), (23 : Nat), (15 : Nat))]), (Jvm.Cond.methodLink "VisitGrammarLaw" (43 : Nat) y_V_node), (Jvm.Cond.instanceMethod y_V_node), (Jvm.Cond.selects "VisitGrammar" y_V_node y_V_node), (Jvm.Cond.codeWith y_L_give method_11_code (4 : Nat) (Option.some Jvm.ClassFile.FieldType.int) [((0 : Nat), (6 : Nat), (9 : Nat), (25 : Nat))]), (Jvm.Cond.methodLink "VisitGrammarLaw" (47 : Nat) y_V_give), (Jvm.Cond.instanceMethod y_V_give), (Jvm.Cond.selects "VisitGrammar" y_V_give y_V_give), (Jvm.Cond.codeWith y_L_start method_12_code (3 : Nat) (Option.some Jvm.ClassFile.FieldType.int) [((0 : Nat), (5 : Nat), (8 : Nat), (15 : Nat)), ((0 : Nat), (5 : Nat), (11 : Nat), (25 : Nat))]), (Jvm.Cond.methodLink "VisitGrammarLaw" (51 : Nat) y_V_start), (Jvm.Cond.instanceMethod y_V_start), (Jvm.Cond.selects "VisitGrammar" y_V_start y_V_start), (Jvm.Cond.codeWith y_L_run method_13_code (4 : Nat) (Option.some Jvm.ClassFile.FieldType.int) [((0 : Nat), (9 : Nat), (12 : Nat), (13 : Nat)), ((0 : Nat), (9 : Nat), (15 : Nat), (15 : Nat))]), (Jvm.Cond.methodLink "VisitGrammarLaw" (55 : Nat) y_V_run), (Jvm.Cond.instanceMethod y_V_run), (Jvm.Cond.selects "VisitGrammar" y_V_run y_V_run), (Jvm.Cond.codeWith y_L_knows method_14_code (5 : Nat) (Option.some Jvm.ClassFile.FieldType.int) [((0 : Nat), (17 : Nat), (20 : Nat), (25 : Nat))]), (Jvm.Cond.methodLink "VisitGrammarLaw" (58 : Nat) y_V_knows)]
def WS_12 : List Cond := [(Jvm.Cond.instanceMethod y_V_knows), (Jvm.Cond.selects "VisitGrammar" y_V_knows y_V_knows), (Jvm.Cond.codeWith y_L_value method_15_code (5 : Nat) (Option.some Jvm.ClassFile.FieldType.int) [((0 : Nat), (10 : Nat), (13 : Nat), (25 : Nat)), ((0 : Nat), (10 : Nat), (17 : Nat), (15 : Nat))]), (Jvm.Cond.methodLink "VisitGrammarLaw" (62 : Nat) y_V_value), (Jvm.Cond.instanceMethod y_V_value), (Jvm.Cond.selects "VisitGrammar" y_V_value y_V_value), (Jvm.Cond.code y_G_init prog_3_method_1_code (1 : Nat) (Option.none : Option Jvm.ClassFile.FieldType)), (Jvm.Cond.methodLink "VisitGrammar$Grammar" (3 : Nat) ({ cls := "java/lang/Object", name := "<init>", desc := "()V" } : Jvm.MethodName)), (Jvm.Cond.instanceMethod ({ cls := "java/lang/Object", name := "<init>", desc := "()V" } : Jvm.MethodName)), (Jvm.Cond.code ({ cls := "java/lang/Object", name := "<init>", desc := "()V" } : Jvm.MethodName) object_method_1_code (1 : Nat) (Option.none : Option Jvm.ClassFile.FieldType)), (Jvm.Cond.arrayClass Jvm.ClassFile.FieldType.int), (Jvm.Cond.code y_E_init prog_4_method_1_code (2 : Nat) (Option.none : Option Jvm.ClassFile.FieldType)), (Jvm.Cond.methodLink "VisitGrammar$Leads" (3 : Nat) ({ cls := "java/lang/Object", name := "<init>", desc := "()V" } : Jvm.MethodName)), (Jvm.Cond.code y_K_init prog_5_method_1_code (3 : Nat) (Option.none : Option Jvm.ClassFile.FieldType)), (Jvm.Cond.methodLink "VisitGrammar$Ranking" (3 : Nat) ({ cls := "java/lang/Object", name := "<init>", desc := "()V" } : Jvm.MethodName)), (Jvm.Cond.code y_Q_init prog_6_method_1_code (3 : Nat) (Option.none : Option Jvm.ClassFile.FieldType)), (Jvm.Cond.methodLink "VisitGrammar$Sequences" (3 : Nat) ({ cls := "java/lang/Object", name := "<init>", desc := "()V" } : Jvm.MethodName)), (Jvm.Cond.code y_A_init prog_2_method_1_code (2 : Nat) (Option.none : Option Jvm.ClassFile.FieldType)), (Jvm.Cond.methodLink "VisitGrammar$Analysis" (3 : Nat) ({ cls := "java/lang/Object", name := "<init>", desc := "()V" } : Jvm.MethodName)), (Jvm.Cond.classLink "VisitGrammar$Analysis" (22 : Nat) "VisitGrammar$Leads"), (Jvm.Cond.instantiable "VisitGrammar$Leads" (3 : Nat)), (Jvm.Cond.methodLink "VisitGrammar$Analysis" (24 : Nat) y_E_init), (Jvm.Cond.instanceMethod y_E_init), (Jvm.Cond.classLink "VisitGrammar$Analysis" (31 : Nat) "VisitGrammar$Ranking"), (Jvm.Cond.instantiable "VisitGrammar$Ranking" (5 : Nat)), (Jvm.Cond.methodLink "VisitGrammar$Analysis" (33 : Nat) y_K_init), (Jvm.Cond.instanceMethod y_K_init), (Jvm.Cond.classLink "VisitGrammar$Analysis" (40 : Nat) "VisitGrammar$Sequences"), (Jvm.Cond.instantiable "VisitGrammar$Sequences" (7 : Nat)), (Jvm.Cond.methodLink "VisitGrammar$Analysis" (42 : Nat) y_Q_init), (Jvm.Cond.instanceMethod y_Q_init), (Jvm.Cond.code y_Z_init prog_7_method_1_code (2 : Nat) (Option.none : Option Jvm.ClassFile.FieldType)), (Jvm.Cond.methodLink "VisitGrammar$Tree" (3 : Nat) ({ cls := "java/lang/Object", name := "<init>", desc := "()V" } : Jvm.MethodName)), (Jvm.Cond.code y_U_init prog_8_method_1_code (4 : Nat) (Option.none : Option Jvm.ClassFile.FieldType)), (Jvm.Cond.methodLink "VisitGrammar$Walk" (3 : Nat) ({ cls := "java/lang/Object", name := "<init>", desc := "()V" } : Jvm.MethodName)), (Jvm.Cond.code y_V_init prog_1_method_1_code (1 : Nat) (Option.none : Option Jvm.ClassFile.FieldType)), (Jvm.Cond.methodLink "VisitGrammar" (3 : Nat) ({ cls := "java/lang/Object", name := "<init>", desc := "()V" } : Jvm.MethodName)), (Jvm.Cond.classLink "VisitGrammar" (9 : Nat) "VisitGrammar$Grammar"), (Jvm.Cond.instantiable "VisitGrammar$Grammar" (13 : Nat)), (Jvm.Cond.methodLinkNest "VisitGrammar" (11 : Nat) y_G_init "VisitGrammar"), (Jvm.Cond.instanceMethod y_G_init), (Jvm.Cond.classLink "VisitGrammar" (16 : Nat) "VisitGrammar$Analysis"), (Jvm.Cond.instantiable "VisitGrammar$Analysis" (8 : Nat)), (Jvm.Cond.methodLink "VisitGrammar" (18 : Nat) y_A_init), (Jvm.Cond.instanceMethod y_A_init), (Jvm.Cond.classLink "VisitGrammar" (25 : Nat) "VisitGrammar$Tree"), (Jvm.Cond.instantiable "VisitGrammar$Tree" (6 : Nat)), (Jvm.Cond.methodLink "VisitGrammar" (27 : Nat) y_Z_init), (Jvm.Cond.instanceMethod y_Z_init), (Jvm.Cond.classLink "VisitGrammar" (32 : Nat) "VisitGrammar$Walk"), (Jvm.Cond.instantiable "VisitGrammar$Walk" (10 : Nat)), (Jvm.Cond.methodLink "VisitGrammar" (38 : Nat) y_U_init), (Jvm.Cond.instanceMethod y_U_init), (Jvm.Cond.code y_M_init prog_10_method_1_code (2 : Nat) (Option.none : Option Jvm.ClassFile.FieldType)), (Jvm.Cond.methodLink "VisitGrammarModel" (1 : Nat) ({ cls := "java/lang/Object", name := "<init>", desc := "()V" } : Jvm.MethodName)), (Jvm.Cond.arrayClass Jvm.ClassFile.FieldType.boolean), (Jvm.Cond.initialized "VisitGrammarLaw"), (Jvm.Cond.methodLink "VisitGrammarLaw" (69 : Nat) y_L_symbol), (Jvm.Cond.static y_L_symbol), (Jvm.Cond.methodLink "VisitGrammarLaw" (74 : Nat) y_M_symbol)]
def WS_13 : List Cond := [(Jvm.Cond.instanceMethod y_M_symbol), (Jvm.Cond.selects "VisitGrammarModel" y_M_symbol y_M_symbol), (Jvm.Cond.methodLink "VisitGrammarLaw" (75 : Nat) y_L_production), (Jvm.Cond.static y_L_production), (Jvm.Cond.methodLink "VisitGrammarLaw" (78 : Nat) y_M_production), (Jvm.Cond.instanceMethod y_M_production), (Jvm.Cond.selects "VisitGrammarModel" y_M_production y_M_production), (Jvm.Cond.methodLink "VisitGrammarLaw" (79 : Nat) y_L_rule), (Jvm.Cond.static y_L_rule), (Jvm.Cond.methodLink "VisitGrammarLaw" (82 : Nat) y_M_rule), (Jvm.Cond.instanceMethod y_M_rule), (Jvm.Cond.selects "VisitGrammarModel" y_M_rule y_M_rule), (Jvm.Cond.methodLink "VisitGrammarLaw" (83 : Nat) y_L_analyse), (Jvm.Cond.static y_L_analyse), (Jvm.Cond.methodLink "VisitGrammarLaw" (86 : Nat) y_M_analyse), (Jvm.Cond.instanceMethod y_M_analyse), (Jvm.Cond.selects "VisitGrammarModel" y_M_analyse y_M_analyse), (Jvm.Cond.methodLink "VisitGrammarLaw" (87 : Nat) y_V_fault), (Jvm.Cond.instanceMethod y_V_fault), (Jvm.Cond.selects "VisitGrammar" y_V_fault y_V_fault), (Jvm.Cond.methodLink "VisitGrammarLaw" (90 : Nat) y_M_fault), (Jvm.Cond.instanceMethod y_M_fault), (Jvm.Cond.selects "VisitGrammarModel" y_M_fault y_M_fault), (Jvm.Cond.methodLink "VisitGrammarLaw" (91 : Nat) y_L_visits), (Jvm.Cond.static y_L_visits), (Jvm.Cond.methodLink "VisitGrammarLaw" (94 : Nat) y_M_visits), (Jvm.Cond.instanceMethod y_M_visits), (Jvm.Cond.selects "VisitGrammarModel" y_M_visits y_M_visits), (Jvm.Cond.methodLink "VisitGrammarLaw" (95 : Nat) y_L_rank), (Jvm.Cond.static y_L_rank), (Jvm.Cond.methodLink "VisitGrammarLaw" (97 : Nat) y_M_rank), (Jvm.Cond.instanceMethod y_M_rank), (Jvm.Cond.selects "VisitGrammarModel" y_M_rank y_M_rank), (Jvm.Cond.methodLink "VisitGrammarLaw" (98 : Nat) y_L_instruction), (Jvm.Cond.static y_L_instruction), (Jvm.Cond.methodLink "VisitGrammarLaw" (100 : Nat) y_M_instruction), (Jvm.Cond.instanceMethod y_M_instruction), (Jvm.Cond.selects "VisitGrammarModel" y_M_instruction y_M_instruction), (Jvm.Cond.methodLink "VisitGrammarLaw" (101 : Nat) y_L_node), (Jvm.Cond.static y_L_node), (Jvm.Cond.methodLink "VisitGrammarLaw" (104 : Nat) y_M_node), (Jvm.Cond.instanceMethod y_M_node), (Jvm.Cond.selects "VisitGrammarModel" y_M_node y_M_node), (Jvm.Cond.methodLink "VisitGrammarLaw" (105 : Nat) y_V_fell), (Jvm.Cond.instanceMethod y_V_fell), (Jvm.Cond.selects "VisitGrammar" y_V_fell y_V_fell), (Jvm.Cond.methodLink "VisitGrammarLaw" (108 : Nat) y_M_fell), (Jvm.Cond.instanceMethod y_M_fell), (Jvm.Cond.selects "VisitGrammarModel" y_M_fell y_M_fell), (Jvm.Cond.methodLink "VisitGrammarLaw" (109 : Nat) y_L_give), (Jvm.Cond.static y_L_give), (Jvm.Cond.methodLink "VisitGrammarLaw" (112 : Nat) y_M_give), (Jvm.Cond.instanceMethod y_M_give), (Jvm.Cond.selects "VisitGrammarModel" y_M_give y_M_give), (Jvm.Cond.methodLink "VisitGrammarLaw" (113 : Nat) y_L_start), (Jvm.Cond.static y_L_start), (Jvm.Cond.methodLink "VisitGrammarLaw" (116 : Nat) y_M_start), (Jvm.Cond.instanceMethod y_M_start), (Jvm.Cond.selects "VisitGrammarModel" y_M_start y_M_start), (Jvm.Cond.methodLink "VisitGrammarLaw" (117 : Nat) y_L_run)]
def WS_14 : List Cond := [(Jvm.Cond.static y_L_run), (Jvm.Cond.methodLink "VisitGrammarLaw" (119 : Nat) y_M_run), (Jvm.Cond.instanceMethod y_M_run), (Jvm.Cond.selects "VisitGrammarModel" y_M_run y_M_run), (Jvm.Cond.methodLink "VisitGrammarLaw" (120 : Nat) y_V_status), (Jvm.Cond.instanceMethod y_V_status), (Jvm.Cond.selects "VisitGrammar" y_V_status y_V_status), (Jvm.Cond.methodLink "VisitGrammarLaw" (123 : Nat) y_M_status), (Jvm.Cond.instanceMethod y_M_status), (Jvm.Cond.selects "VisitGrammarModel" y_M_status y_M_status), (Jvm.Cond.methodLink "VisitGrammarLaw" (124 : Nat) y_V_atHand), (Jvm.Cond.instanceMethod y_V_atHand), (Jvm.Cond.selects "VisitGrammar" y_V_atHand y_V_atHand), (Jvm.Cond.methodLink "VisitGrammarLaw" (127 : Nat) y_M_atHand), (Jvm.Cond.instanceMethod y_M_atHand), (Jvm.Cond.selects "VisitGrammarModel" y_M_atHand y_M_atHand), (Jvm.Cond.methodLink "VisitGrammarLaw" (128 : Nat) y_L_knows), (Jvm.Cond.static y_L_knows), (Jvm.Cond.methodLink "VisitGrammarLaw" (130 : Nat) y_M_knows), (Jvm.Cond.instanceMethod y_M_knows), (Jvm.Cond.selects "VisitGrammarModel" y_M_knows y_M_knows), (Jvm.Cond.methodLink "VisitGrammarLaw" (131 : Nat) y_L_value), (Jvm.Cond.static y_L_value), (Jvm.Cond.methodLink "VisitGrammarLaw" (133 : Nat) y_M_value), (Jvm.Cond.instanceMethod y_M_value), (Jvm.Cond.selects "VisitGrammarModel" y_M_value y_M_value), (Jvm.Cond.methodLink "VisitGrammarLaw" (134 : Nat) y_M_thrown), (Jvm.Cond.instanceMethod y_M_thrown), (Jvm.Cond.selects "VisitGrammarModel" y_M_thrown y_M_thrown), (Jvm.Cond.classLink "VisitGrammarLaw" (8 : Nat) "VisitGrammar"), (Jvm.Cond.instantiable "VisitGrammar" (4 : Nat)), (Jvm.Cond.methodLink "VisitGrammarLaw" (65 : Nat) y_V_init), (Jvm.Cond.instanceMethod y_V_init), (Jvm.Cond.classLink "VisitGrammarLaw" (66 : Nat) "VisitGrammarModel"), (Jvm.Cond.instantiable "VisitGrammarModel" (35 : Nat)), (Jvm.Cond.methodLink "VisitGrammarLaw" (68 : Nat) y_M_init), (Jvm.Cond.instanceMethod y_M_init), (Jvm.Cond.arrayClass Jvm.ClassFile.FieldType.long), (Jvm.Cond.initialized "java/lang/Throwable"), (Jvm.Cond.initialized "java/lang/Exception"), (Jvm.Cond.initialized "java/lang/RuntimeException"), (Jvm.Cond.laysFinal "VisitGrammar$Grammar" "VisitGrammar$Grammar" "attributeCounts" "[I"), (Jvm.Cond.laysFinal "VisitGrammar$Grammar" "VisitGrammar$Grammar" "inheritedBits" "[I"), (Jvm.Cond.lays "VisitGrammar$Grammar" "VisitGrammar$Grammar" "symbolCount" "I"), (Jvm.Cond.laysFinal "VisitGrammar$Grammar" "VisitGrammar$Grammar" "symbolsAt" "[I"), (Jvm.Cond.laysFinal "VisitGrammar$Grammar" "VisitGrammar$Grammar" "lastPositions" "[I"), (Jvm.Cond.laysFinal "VisitGrammar$Grammar" "VisitGrammar$Grammar" "presentBits" "[I"), (Jvm.Cond.laysFinal "VisitGrammar$Grammar" "VisitGrammar$Grammar" "toDefineBits" "[I"), (Jvm.Cond.lays "VisitGrammar$Grammar" "VisitGrammar$Grammar" "productionCount" "I"), (Jvm.Cond.laysFinal "VisitGrammar$Grammar" "VisitGrammar$Grammar" "ruledBits" "[I"), (Jvm.Cond.laysFinal "VisitGrammar$Grammar" "VisitGrammar$Grammar" "forms" "[I"), (Jvm.Cond.laysFinal "VisitGrammar$Grammar" "VisitGrammar$Grammar" "firsts" "[I"), (Jvm.Cond.laysFinal "VisitGrammar$Grammar" "VisitGrammar$Grammar" "seconds" "[I"), (Jvm.Cond.laysFinal "VisitGrammar$Grammar" "VisitGrammar$Grammar" "usedBits" "[I"), (Jvm.Cond.laysFinal "VisitGrammar$Leads" "VisitGrammar$Leads" "grammar" "LVisitGrammar$Grammar;"), (Jvm.Cond.laysFinal "VisitGrammar$Leads" "VisitGrammar$Leads" "ofOccurrences" "[I"), (Jvm.Cond.laysFinal "VisitGrammar$Leads" "VisitGrammar$Leads" "ofAttributes" "[I"), (Jvm.Cond.laysFinal "VisitGrammar$Ranking" "VisitGrammar$Ranking" "grammar" "LVisitGrammar$Grammar;"), (Jvm.Cond.laysFinal "VisitGrammar$Ranking" "VisitGrammar$Ranking" "leads" "LVisitGrammar$Leads;"), (Jvm.Cond.laysFinal "VisitGrammar$Ranking" "VisitGrammar$Ranking" "ranks" "[I")]
def WS_15 : List Cond := [(Jvm.Cond.laysFinal "VisitGrammar$Ranking" "VisitGrammar$Ranking" "visitCounts" "[I"), (Jvm.Cond.laysFinal "VisitGrammar$Ranking" "VisitGrammar$Ranking" "belonging" "[I"), (Jvm.Cond.laysFinal "VisitGrammar$Sequences" "VisitGrammar$Sequences" "grammar" "LVisitGrammar$Grammar;"), (Jvm.Cond.laysFinal "VisitGrammar$Sequences" "VisitGrammar$Sequences" "ranking" "LVisitGrammar$Ranking;"), (Jvm.Cond.laysFinal "VisitGrammar$Sequences" "VisitGrammar$Sequences" "instructions" "[I"), (Jvm.Cond.laysFinal "VisitGrammar$Sequences" "VisitGrammar$Sequences" "lengths" "[I"), (Jvm.Cond.laysFinal "VisitGrammar$Sequences" "VisitGrammar$Sequences" "visitsWritten" "[I"), (Jvm.Cond.lays "VisitGrammar$Sequences" "VisitGrammar$Sequences" "setBits" "I"), (Jvm.Cond.lays "VisitGrammar$Sequences" "VisitGrammar$Sequences" "knownBits" "I"), (Jvm.Cond.laysFinal "VisitGrammar$Analysis" "VisitGrammar$Analysis" "grammar" "LVisitGrammar$Grammar;"), (Jvm.Cond.laysFinal "VisitGrammar$Analysis" "VisitGrammar$Analysis" "leads" "LVisitGrammar$Leads;"), (Jvm.Cond.laysFinal "VisitGrammar$Analysis" "VisitGrammar$Analysis" "ranking" "LVisitGrammar$Ranking;"), (Jvm.Cond.laysFinal "VisitGrammar$Analysis" "VisitGrammar$Analysis" "sequences" "LVisitGrammar$Sequences;"), (Jvm.Cond.lays "VisitGrammar$Analysis" "VisitGrammar$Analysis" "present" "Z"), (Jvm.Cond.lays "VisitGrammar$Analysis" "VisitGrammar$Analysis" "faultKind" "I"), (Jvm.Cond.lays "VisitGrammar$Analysis" "VisitGrammar$Analysis" "faultProduction" "I"), (Jvm.Cond.lays "VisitGrammar$Analysis" "VisitGrammar$Analysis" "faultOccurrence" "I"), (Jvm.Cond.laysFinal "VisitGrammar$Tree" "VisitGrammar$Tree" "grammar" "LVisitGrammar$Grammar;"), (Jvm.Cond.laysFinal "VisitGrammar$Tree" "VisitGrammar$Tree" "productions" "[I"), (Jvm.Cond.laysFinal "VisitGrammar$Tree" "VisitGrammar$Tree" "tokens" "[I"), (Jvm.Cond.laysFinal "VisitGrammar$Tree" "VisitGrammar$Tree" "parents" "[I"), (Jvm.Cond.laysFinal "VisitGrammar$Tree" "VisitGrammar$Tree" "nodesAt" "[I"), (Jvm.Cond.lays "VisitGrammar$Tree" "VisitGrammar$Tree" "nodeCount" "I"), (Jvm.Cond.laysFinal "VisitGrammar$Walk" "VisitGrammar$Walk" "grammar" "LVisitGrammar$Grammar;"), (Jvm.Cond.laysFinal "VisitGrammar$Walk" "VisitGrammar$Walk" "sequences" "LVisitGrammar$Sequences;"), (Jvm.Cond.laysFinal "VisitGrammar$Walk" "VisitGrammar$Walk" "tree" "LVisitGrammar$Tree;"), (Jvm.Cond.laysFinal "VisitGrammar$Walk" "VisitGrammar$Walk" "given" "[I"), (Jvm.Cond.laysFinal "VisitGrammar$Walk" "VisitGrammar$Walk" "values" "[I"), (Jvm.Cond.laysFinal "VisitGrammar$Walk" "VisitGrammar$Walk" "knownBits" "[I"), (Jvm.Cond.laysFinal "VisitGrammar$Walk" "VisitGrammar$Walk" "instructionsDone" "[I"), (Jvm.Cond.lays "VisitGrammar$Walk" "VisitGrammar$Walk" "state" "I"), (Jvm.Cond.lays "VisitGrammar$Walk" "VisitGrammar$Walk" "root" "I"), (Jvm.Cond.lays "VisitGrammar$Walk" "VisitGrammar$Walk" "nodeAtHand" "I"), (Jvm.Cond.laysFinal "VisitGrammar" "VisitGrammar" "grammar" "LVisitGrammar$Grammar;"), (Jvm.Cond.laysFinal "VisitGrammar" "VisitGrammar" "analysis" "LVisitGrammar$Analysis;"), (Jvm.Cond.laysFinal "VisitGrammar" "VisitGrammar" "tree" "LVisitGrammar$Tree;"), (Jvm.Cond.laysFinal "VisitGrammar" "VisitGrammar" "walk" "LVisitGrammar$Walk;"), (Jvm.Cond.instantiable "java/lang/IllegalArgumentException" (6 : Nat)), (Jvm.Cond.declares ({ cls := "java/lang/RuntimeException", name := "<init>", desc := "()V" } : Jvm.MethodName)), (Jvm.Cond.declares ({ cls := "java/lang/RuntimeException", name := "<init>", desc := "(Ljava/lang/String;)V" } : Jvm.MethodName)), (Jvm.Cond.declares ({ cls := "java/lang/Exception", name := "<init>", desc := "()V" } : Jvm.MethodName)), (Jvm.Cond.declares ({ cls := "java/lang/Exception", name := "<init>", desc := "(Ljava/lang/String;)V" } : Jvm.MethodName)), (Jvm.Cond.declares ({ cls := "java/lang/Throwable", name := "<init>", desc := "()V" } : Jvm.MethodName)), (Jvm.Cond.declares ({ cls := "java/lang/Throwable", name := "<init>", desc := "(Ljava/lang/String;)V" } : Jvm.MethodName)), (Jvm.Cond.selects "java/lang/IllegalArgumentException" ({ cls := "java/lang/Throwable", name := "fillInStackTrace", desc := "(I)Ljava/lang/Throwable;" } : Jvm.MethodName) ({ cls := "java/lang/Throwable", name := "fillInStackTrace", desc := "(I)Ljava/lang/Throwable;" } : Jvm.MethodName)), (Jvm.Cond.selects "java/lang/IllegalArgumentException" ({ cls := "java/lang/Throwable", name := "fillInStackTrace", desc := "()Ljava/lang/Throwable;" } : Jvm.MethodName) ({ cls := "java/lang/Throwable", name := "fillInStackTrace", desc := "()Ljava/lang/Throwable;" } : Jvm.MethodName)), (Jvm.Cond.lays "java/lang/IllegalArgumentException" "java/lang/Throwable" "cause" "Ljava/lang/Throwable;"), (Jvm.Cond.lays "java/lang/Throwable" "java/lang/Throwable" "cause" "Ljava/lang/Throwable;"), (Jvm.Cond.lays "java/lang/IllegalArgumentException" "java/lang/Throwable" "stackTrace" "[Ljava/lang/StackTraceElement;"), (Jvm.Cond.lays "java/lang/Throwable" "java/lang/Throwable" "stackTrace" "[Ljava/lang/StackTraceElement;"), (Jvm.Cond.lays "java/lang/IllegalArgumentException" "java/lang/Throwable" "suppressedExceptions" "Ljava/util/List;"), (Jvm.Cond.lays "java/lang/Throwable" "java/lang/Throwable" "suppressedExceptions" "Ljava/util/List;"), (Jvm.Cond.lays "java/lang/IllegalArgumentException" "java/lang/Throwable" "detailMessage" "Ljava/lang/String;"), (Jvm.Cond.lays "java/lang/Throwable" "java/lang/Throwable" "detailMessage" "Ljava/lang/String;"), (Jvm.Cond.lays "java/lang/IllegalArgumentException" "java/lang/Throwable" "backtrace" "Ljava/lang/Object;"), (Jvm.Cond.lays "java/lang/Throwable" "java/lang/Throwable" "backtrace" "Ljava/lang/Object;"), (Jvm.Cond.fieldLink "java/lang/Throwable" (198 : Nat) "java/lang/Throwable" "backtrace" "Ljava/lang/Object;"), (Jvm.Cond.instanceMethod ({ cls := "java/lang/Throwable", name := "<init>", desc := "()V" } : Jvm.MethodName)), (Jvm.Cond.code ({ cls := "java/lang/Throwable", name := "<init>", desc := "()V" } : Jvm.MethodName) prog_20_method_1_code (1 : Nat) (Option.none : Option Jvm.ClassFile.FieldType)), (Jvm.Cond.methodLink "java/lang/Throwable" (1 : Nat) ({ cls := "java/lang/Object", name := "<init>", desc := "()V" } : Jvm.MethodName))]
def WS_16 : List Cond := [(Jvm.Cond.fieldLink "java/lang/Throwable" (13 : Nat) "java/lang/Throwable" "UNASSIGNED_STACK" "[Ljava/lang/StackTraceElement;"), (Jvm.Cond.fieldLink "java/lang/Throwable" (20 : Nat) "java/lang/Throwable" "SUPPRESSED_SENTINEL" "Ljava/util/List;"), (Jvm.Cond.methodLink "java/lang/Throwable" (27 : Nat) ({ cls := "java/lang/Throwable", name := "fillInStackTrace", desc := "()Ljava/lang/Throwable;" } : Jvm.MethodName)), (Jvm.Cond.instanceMethod ({ cls := "java/lang/Throwable", name := "fillInStackTrace", desc := "()Ljava/lang/Throwable;" } : Jvm.MethodName)), (Jvm.Cond.selects "java/lang/IllegalStateException" ({ cls := "java/lang/Throwable", name := "fillInStackTrace", desc := "()Ljava/lang/Throwable;" } : Jvm.MethodName) ({ cls := "java/lang/Throwable", name := "fillInStackTrace", desc := "()Ljava/lang/Throwable;" } : Jvm.MethodName)), (Jvm.Cond.selects "java/lang/IndexOutOfBoundsException" ({ cls := "java/lang/Throwable", name := "fillInStackTrace", desc := "()Ljava/lang/Throwable;" } : Jvm.MethodName) ({ cls := "java/lang/Throwable", name := "fillInStackTrace", desc := "()Ljava/lang/Throwable;" } : Jvm.MethodName)), (Jvm.Cond.selects "java/lang/UnsupportedOperationException" ({ cls := "java/lang/Throwable", name := "fillInStackTrace", desc := "()Ljava/lang/Throwable;" } : Jvm.MethodName) ({ cls := "java/lang/Throwable", name := "fillInStackTrace", desc := "()Ljava/lang/Throwable;" } : Jvm.MethodName)), (Jvm.Cond.codeSync ({ cls := "java/lang/Throwable", name := "fillInStackTrace", desc := "()Ljava/lang/Throwable;" } : Jvm.MethodName) prog_20_method_18_code (1 : Nat) (Option.some (Jvm.ClassFile.FieldType.object "java/lang/Throwable"))), (Jvm.Cond.methodLink "java/lang/Throwable" (202 : Nat) ({ cls := "java/lang/Throwable", name := "fillInStackTrace", desc := "(I)Ljava/lang/Throwable;" } : Jvm.MethodName)), (Jvm.Cond.instanceMethod ({ cls := "java/lang/Throwable", name := "fillInStackTrace", desc := "(I)Ljava/lang/Throwable;" } : Jvm.MethodName)), (Jvm.Cond.instantiable "java/lang/Throwable" (6 : Nat)), (Jvm.Cond.native ({ cls := "java/lang/Throwable", name := "fillInStackTrace", desc := "(I)Ljava/lang/Throwable;" } : Jvm.MethodName)), (Jvm.Cond.instanceMethod ({ cls := "java/lang/IllegalArgumentException", name := "<init>", desc := "(Ljava/lang/String;)V" } : Jvm.MethodName)), (Jvm.Cond.code ({ cls := "java/lang/IllegalArgumentException", name := "<init>", desc := "(Ljava/lang/String;)V" } : Jvm.MethodName) prog_12_method_2_code (2 : Nat) (Option.none : Option Jvm.ClassFile.FieldType)), (Jvm.Cond.methodLink "java/lang/IllegalArgumentException" (7 : Nat) ({ cls := "java/lang/RuntimeException", name := "<init>", desc := "(Ljava/lang/String;)V" } : Jvm.MethodName)), (Jvm.Cond.instanceMethod ({ cls := "java/lang/RuntimeException", name := "<init>", desc := "(Ljava/lang/String;)V" } : Jvm.MethodName)), (Jvm.Cond.code ({ cls := "java/lang/RuntimeException", name := "<init>", desc := "(Ljava/lang/String;)V" } : Jvm.MethodName) prog_17_method_2_code (2 : Nat) (Option.none : Option Jvm.ClassFile.FieldType)), (Jvm.Cond.methodLink "java/lang/RuntimeException" (7 : Nat) ({ cls := "java/lang/Exception", name := "<init>", desc := "(Ljava/lang/String;)V" } : Jvm.MethodName)), (Jvm.Cond.instanceMethod ({ cls := "java/lang/Exception", name := "<init>", desc := "(Ljava/lang/String;)V" } : Jvm.MethodName)), (Jvm.Cond.code ({ cls := "java/lang/Exception", name := "<init>", desc := "(Ljava/lang/String;)V" } : Jvm.MethodName) prog_11_method_2_code (2 : Nat) (Option.none : Option Jvm.ClassFile.FieldType)), (Jvm.Cond.methodLink "java/lang/Exception" (7 : Nat) ({ cls := "java/lang/Throwable", name := "<init>", desc := "(Ljava/lang/String;)V" } : Jvm.MethodName)), (Jvm.Cond.instanceMethod ({ cls := "java/lang/Throwable", name := "<init>", desc := "(Ljava/lang/String;)V" } : Jvm.MethodName)), (Jvm.Cond.code ({ cls := "java/lang/Throwable", name := "<init>", desc := "(Ljava/lang/String;)V" } : Jvm.MethodName) prog_20_method_2_code (2 : Nat) (Option.none : Option Jvm.ClassFile.FieldType)), (Jvm.Cond.fieldLink "java/lang/Throwable" (31 : Nat) "java/lang/Throwable" "detailMessage" "Ljava/lang/String;"), (Jvm.Cond.fieldLink "java/lang/Throwable" (7 : Nat) "java/lang/Throwable" "cause" "Ljava/lang/Throwable;"), (Jvm.Cond.fieldLink "java/lang/Throwable" (17 : Nat) "java/lang/Throwable" "stackTrace" "[Ljava/lang/StackTraceElement;"), (Jvm.Cond.fieldLink "java/lang/Throwable" (24 : Nat) "java/lang/Throwable" "suppressedExceptions" "Ljava/util/List;"), (Jvm.Cond.lays "java/lang/IllegalArgumentException" "java/lang/Throwable" "depth" "I"), (Jvm.Cond.arrayClass Jvm.ClassFile.FieldType.byte), (Jvm.Cond.instantiable "java/lang/IllegalStateException" (6 : Nat)), (Jvm.Cond.selects "java/lang/IllegalStateException" ({ cls := "java/lang/Throwable", name := "fillInStackTrace", desc := "(I)Ljava/lang/Throwable;" } : Jvm.MethodName) ({ cls := "java/lang/Throwable", name := "fillInStackTrace", desc := "(I)Ljava/lang/Throwable;" } : Jvm.MethodName)), (Jvm.Cond.lays "java/lang/IllegalStateException" "java/lang/Throwable" "cause" "Ljava/lang/Throwable;"), (Jvm.Cond.lays "java/lang/IllegalStateException" "java/lang/Throwable" "stackTrace" "[Ljava/lang/StackTraceElement;"), (Jvm.Cond.lays "java/lang/IllegalStateException" "java/lang/Throwable" "suppressedExceptions" "Ljava/util/List;"), (Jvm.Cond.lays "java/lang/IllegalStateException" "java/lang/Throwable" "detailMessage" "Ljava/lang/String;"), (Jvm.Cond.lays "java/lang/IllegalStateException" "java/lang/Throwable" "backtrace" "Ljava/lang/Object;"), (Jvm.Cond.instanceMethod ({ cls := "java/lang/IllegalStateException", name := "<init>", desc := "(Ljava/lang/String;)V" } : Jvm.MethodName)), (Jvm.Cond.code ({ cls := "java/lang/IllegalStateException", name := "<init>", desc := "(Ljava/lang/String;)V" } : Jvm.MethodName) prog_13_method_2_code (2 : Nat) (Option.none : Option Jvm.ClassFile.FieldType)), (Jvm.Cond.methodLink "java/lang/IllegalStateException" (7 : Nat) ({ cls := "java/lang/RuntimeException", name := "<init>", desc := "(Ljava/lang/String;)V" } : Jvm.MethodName)), (Jvm.Cond.lays "java/lang/IllegalStateException" "java/lang/Throwable" "depth" "I"), (Jvm.Cond.instantiable "java/lang/IndexOutOfBoundsException" (6 : Nat)), (Jvm.Cond.selects "java/lang/IndexOutOfBoundsException" ({ cls := "java/lang/Throwable", name := "fillInStackTrace", desc := "(I)Ljava/lang/Throwable;" } : Jvm.MethodName) ({ cls := "java/lang/Throwable", name := "fillInStackTrace", desc := "(I)Ljava/lang/Throwable;" } : Jvm.MethodName)), (Jvm.Cond.lays "java/lang/IndexOutOfBoundsException" "java/lang/Throwable" "cause" "Ljava/lang/Throwable;"), (Jvm.Cond.lays "java/lang/IndexOutOfBoundsException" "java/lang/Throwable" "stackTrace" "[Ljava/lang/StackTraceElement;"), (Jvm.Cond.lays "java/lang/IndexOutOfBoundsException" "java/lang/Throwable" "suppressedExceptions" "Ljava/util/List;"), (Jvm.Cond.lays "java/lang/IndexOutOfBoundsException" "java/lang/Throwable" "detailMessage" "Ljava/lang/String;"), (Jvm.Cond.lays "java/lang/IndexOutOfBoundsException" "java/lang/Throwable" "backtrace" "Ljava/lang/Object;"), (Jvm.Cond.instanceMethod ({ cls := "java/lang/IndexOutOfBoundsException", name := "<init>", desc := "(Ljava/lang/String;)V" } : Jvm.MethodName)), (Jvm.Cond.code ({ cls := "java/lang/IndexOutOfBoundsException", name := "<init>", desc := "(Ljava/lang/String;)V" } : Jvm.MethodName) prog_14_method_2_code (2 : Nat) (Option.none : Option Jvm.ClassFile.FieldType)), (Jvm.Cond.methodLink "java/lang/IndexOutOfBoundsException" (7 : Nat) ({ cls := "java/lang/RuntimeException", name := "<init>", desc := "(Ljava/lang/String;)V" } : Jvm.MethodName)), (Jvm.Cond.lays "java/lang/IndexOutOfBoundsException" "java/lang/Throwable" "depth" "I"), (Jvm.Cond.instantiable "java/lang/UnsupportedOperationException" (6 : Nat)), (Jvm.Cond.selects "java/lang/UnsupportedOperationException" ({ cls := "java/lang/Throwable", name := "fillInStackTrace", desc := "(I)Ljava/lang/Throwable;" } : Jvm.MethodName) ({ cls := "java/lang/Throwable", name := "fillInStackTrace", desc := "(I)Ljava/lang/Throwable;" } : Jvm.MethodName)), (Jvm.Cond.lays "java/lang/UnsupportedOperationException" "java/lang/Throwable" "cause" "Ljava/lang/Throwable;"), (Jvm.Cond.lays "java/lang/UnsupportedOperationException" "java/lang/Throwable" "stackTrace" "[Ljava/lang/StackTraceElement;"), (Jvm.Cond.lays "java/lang/UnsupportedOperationException" "java/lang/Throwable" "suppressedExceptions" "Ljava/util/List;"), (Jvm.Cond.lays "java/lang/UnsupportedOperationException" "java/lang/Throwable" "detailMessage" "Ljava/lang/String;"), (Jvm.Cond.lays "java/lang/UnsupportedOperationException" "java/lang/Throwable" "backtrace" "Ljava/lang/Object;"), (Jvm.Cond.instanceMethod ({ cls := "java/lang/UnsupportedOperationException", name := "<init>", desc := "(Ljava/lang/String;)V" } : Jvm.MethodName)), (Jvm.Cond.code ({ cls := "java/lang/UnsupportedOperationException", name := "<init>", desc := "(Ljava/lang/String;)V" } : Jvm.MethodName) prog_21_method_2_code (2 : Nat) (Option.none : Option Jvm.ClassFile.FieldType))]
def WS_17 : List Cond := [(Jvm.Cond.methodLink "java/lang/UnsupportedOperationException" (7 : Nat) ({ cls := "java/lang/RuntimeException", name := "<init>", desc := "(Ljava/lang/String;)V" } : Jvm.MethodName)), (Jvm.Cond.lays "java/lang/UnsupportedOperationException" "java/lang/Throwable" "depth" "I"), (Jvm.Cond.lays "VisitGrammarModel" "VisitGrammarModel" "code" "I"), (Jvm.Cond.lays "VisitGrammarModel" "VisitGrammarModel" "symbols" "I"), (Jvm.Cond.laysFinal "VisitGrammarModel" "VisitGrammarModel" "attributes" "[I"), (Jvm.Cond.laysFinal "VisitGrammarModel" "VisitGrammarModel" "inherits" "[Z"), (Jvm.Cond.lays "VisitGrammarModel" "VisitGrammarModel" "productions" "I"), (Jvm.Cond.laysFinal "VisitGrammarModel" "VisitGrammarModel" "positions" "[I"), (Jvm.Cond.laysFinal "VisitGrammarModel" "VisitGrammarModel" "symbolAt" "[I"), (Jvm.Cond.laysFinal "VisitGrammarModel" "VisitGrammarModel" "form" "[I"), (Jvm.Cond.laysFinal "VisitGrammarModel" "VisitGrammarModel" "ruleX" "[I"), (Jvm.Cond.laysFinal "VisitGrammarModel" "VisitGrammarModel" "ruleY" "[I"), (Jvm.Cond.lays "VisitGrammarModel" "VisitGrammarModel" "analysed" "Z"), (Jvm.Cond.lays "VisitGrammarModel" "VisitGrammarModel" "faultKind" "I"), (Jvm.Cond.lays "VisitGrammarModel" "VisitGrammarModel" "faultProduction" "I"), (Jvm.Cond.lays "VisitGrammarModel" "VisitGrammarModel" "faultOccurrence" "I"), (Jvm.Cond.laysFinal "VisitGrammarModel" "VisitGrammarModel" "uses" "[Z"), (Jvm.Cond.laysFinal "VisitGrammarModel" "VisitGrammarModel" "leads" "[Z"), (Jvm.Cond.laysFinal "VisitGrammarModel" "VisitGrammarModel" "symbolLeads" "[Z"), (Jvm.Cond.laysFinal "VisitGrammarModel" "VisitGrammarModel" "order" "[Z"), (Jvm.Cond.laysFinal "VisitGrammarModel" "VisitGrammarModel" "rank" "[I"), (Jvm.Cond.laysFinal "VisitGrammarModel" "VisitGrammarModel" "visits" "[I"), (Jvm.Cond.laysFinal "VisitGrammarModel" "VisitGrammarModel" "length" "[I"), (Jvm.Cond.laysFinal "VisitGrammarModel" "VisitGrammarModel" "sequence" "[I"), (Jvm.Cond.laysFinal "VisitGrammarModel" "VisitGrammarModel" "set" "[Z"), (Jvm.Cond.laysFinal "VisitGrammarModel" "VisitGrammarModel" "visited" "[I"), (Jvm.Cond.lays "VisitGrammarModel" "VisitGrammarModel" "nodes" "I"), (Jvm.Cond.laysFinal "VisitGrammarModel" "VisitGrammarModel" "production" "[I"), (Jvm.Cond.laysFinal "VisitGrammarModel" "VisitGrammarModel" "token" "[I"), (Jvm.Cond.laysFinal "VisitGrammarModel" "VisitGrammarModel" "child" "[I"), (Jvm.Cond.laysFinal "VisitGrammarModel" "VisitGrammarModel" "parent" "[I"), (Jvm.Cond.laysFinal "VisitGrammarModel" "VisitGrammarModel" "next" "[I"), (Jvm.Cond.laysFinal "VisitGrammarModel" "VisitGrammarModel" "known" "[Z"), (Jvm.Cond.laysFinal "VisitGrammarModel" "VisitGrammarModel" "value" "[I"), (Jvm.Cond.laysFinal "VisitGrammarModel" "VisitGrammarModel" "given" "[I"), (Jvm.Cond.lays "VisitGrammarModel" "VisitGrammarModel" "root" "I"), (Jvm.Cond.lays "VisitGrammarModel" "VisitGrammarModel" "hand" "I"), (Jvm.Cond.superclass "java/lang/Throwable" "java/lang/Object"), (Jvm.Cond.sameMethod "java/lang/Throwable" "java/lang/Throwable" "fillInStackTrace" "()Ljava/lang/Throwable;"), (Jvm.Cond.privateMethod ({ cls := "java/lang/Throwable", name := "fillInStackTrace", desc := "(I)Ljava/lang/Throwable;" } : Jvm.MethodName)), (Jvm.Cond.soleField "java/lang/Throwable" "backtrace"), (Jvm.Cond.soleField "java/lang/Throwable" "detailMessage"), (Jvm.Cond.soleField "java/lang/Throwable" "cause"), (Jvm.Cond.soleField "java/lang/Throwable" "stackTrace"), (Jvm.Cond.soleField "java/lang/Throwable" "depth"), (Jvm.Cond.soleField "java/lang/Throwable" "suppressedExceptions"), (Jvm.Cond.superclass "java/lang/IllegalArgumentException" "java/lang/RuntimeException"), (Jvm.Cond.superclass "java/lang/IllegalStateException" "java/lang/RuntimeException"), (Jvm.Cond.superclass "java/lang/IndexOutOfBoundsException" "java/lang/RuntimeException"), (Jvm.Cond.superclass "java/lang/UnsupportedOperationException" "java/lang/RuntimeException"), (Jvm.Cond.sameMethod "java/lang/Throwable" "java/lang/Throwable" "fillInStackTrace" "(I)Ljava/lang/Throwable;")]
def WS : List Cond := WS_0 ++ (WS_1 ++ (WS_2 ++ (WS_3 ++ (WS_4 ++ (WS_5 ++ (WS_6 ++ (WS_7 ++ (WS_8 ++ (WS_9 ++ (WS_10 ++ (WS_11 ++ (WS_12 ++ (WS_13 ++ (WS_14 ++ (WS_15 ++ (WS_16 ++ (WS_17)))))))))))))))))
theorem WSk : WS.all vq_k = true := by decide +kernel
theorem WSi_0 {w : Cond} (h : w ∈ WS_0) : w ∈ WS := List.mem_append_left _ h
theorem WSi_1 {w : Cond} (h : w ∈ WS_1) : w ∈ WS := List.mem_append_right _ (List.mem_append_left _ h)
theorem WSi_2 {w : Cond} (h : w ∈ WS_2) : w ∈ WS := List.mem_append_right _ (List.mem_append_right _ (List.mem_append_left _ h))
theorem WSi_3 {w : Cond} (h : w ∈ WS_3) : w ∈ WS := List.mem_append_right _ (List.mem_append_right _ (List.mem_append_right _ (List.mem_append_left _ h)))
theorem WSi_4 {w : Cond} (h : w ∈ WS_4) : w ∈ WS := List.mem_append_right _ (List.mem_append_right _ (List.mem_append_right _ (List.mem_append_right _ (List.mem_append_left _ h))))
theorem WSi_5 {w : Cond} (h : w ∈ WS_5) : w ∈ WS := List.mem_append_right _ (List.mem_append_right _ (List.mem_append_right _ (List.mem_append_right _ (List.mem_append_right _ (List.mem_append_left _ h)))))
theorem WSi_6 {w : Cond} (h : w ∈ WS_6) : w ∈ WS := List.mem_append_right _ (List.mem_append_right _ (List.mem_append_right _ (List.mem_append_right _ (List.mem_append_right _ (List.mem_append_right _ (List.mem_append_left _ h))))))
theorem WSi_7 {w : Cond} (h : w ∈ WS_7) : w ∈ WS := List.mem_append_right _ (List.mem_append_right _ (List.mem_append_right _ (List.mem_append_right _ (List.mem_append_right _ (List.mem_append_right _ (List.mem_append_right _ (List.mem_append_left _ h)))))))
theorem WSi_8 {w : Cond} (h : w ∈ WS_8) : w ∈ WS := List.mem_append_right _ (List.mem_append_right _ (List.mem_append_right _ (List.mem_append_right _ (List.mem_append_right _ (List.mem_append_right _ (List.mem_append_right _ (List.mem_append_right _ (List.mem_append_left _ h))))))))
theorem WSi_9 {w : Cond} (h : w ∈ WS_9) : w ∈ WS := List.mem_append_right _ (List.mem_append_right _ (List.mem_append_right _ (List.mem_append_right _ (List.mem_append_right _ (List.mem_append_right _ (List.mem_append_right _ (List.mem_append_right _ (List.mem_append_right _ (List.mem_append_left _ h)))))))))
theorem WSi_10 {w : Cond} (h : w ∈ WS_10) : w ∈ WS := List.mem_append_right _ (List.mem_append_right _ (List.mem_append_right _ (List.mem_append_right _ (List.mem_append_right _ (List.mem_append_right _ (List.mem_append_right _ (List.mem_append_right _ (List.mem_append_right _ (List.mem_append_right _ (List.mem_append_left _ h))))))))))
theorem WSi_11 {w : Cond} (h : w ∈ WS_11) : w ∈ WS := List.mem_append_right _ (List.mem_append_right _ (List.mem_append_right _ (List.mem_append_right _ (List.mem_append_right _ (List.mem_append_right _ (List.mem_append_right _ (List.mem_append_right _ (List.mem_append_right _ (List.mem_append_right _ (List.mem_append_right _ (List.mem_append_left _ h)))))))))))
theorem WSi_12 {w : Cond} (h : w ∈ WS_12) : w ∈ WS := List.mem_append_right _ (List.mem_append_right _ (List.mem_append_right _ (List.mem_append_right _ (List.mem_append_right _ (List.mem_append_right _ (List.mem_append_right _ (List.mem_append_right _ (List.mem_append_right _ (List.mem_append_right _ (List.mem_append_right _ (List.mem_append_right _ (List.mem_append_left _ h))))))))))))
theorem WSi_13 {w : Cond} (h : w ∈ WS_13) : w ∈ WS := List.mem_append_right _ (List.mem_append_right _ (List.mem_append_right _ (List.mem_append_right _ (List.mem_append_right _ (List.mem_append_right _ (List.mem_append_right _ (List.mem_append_right _ (List.mem_append_right _ (List.mem_append_right _ (List.mem_append_right _ (List.mem_append_right _ (List.mem_append_right _ (List.mem_append_left _ h)))))))))))))
theorem WSi_14 {w : Cond} (h : w ∈ WS_14) : w ∈ WS := List.mem_append_right _ (List.mem_append_right _ (List.mem_append_right _ (List.mem_append_right _ (List.mem_append_right _ (List.mem_append_right _ (List.mem_append_right _ (List.mem_append_right _ (List.mem_append_right _ (List.mem_append_right _ (List.mem_append_right _ (List.mem_append_right _ (List.mem_append_right _ (List.mem_append_right _ (List.mem_append_left _ h))))))))))))))
theorem WSi_15 {w : Cond} (h : w ∈ WS_15) : w ∈ WS := List.mem_append_right _ (List.mem_append_right _ (List.mem_append_right _ (List.mem_append_right _ (List.mem_append_right _ (List.mem_append_right _ (List.mem_append_right _ (List.mem_append_right _ (List.mem_append_right _ (List.mem_append_right _ (List.mem_append_right _ (List.mem_append_right _ (List.mem_append_right _ (List.mem_append_right _ (List.mem_append_right _ (List.mem_append_left _ h)))))))))))))))
theorem WSi_16 {w : Cond} (h : w ∈ WS_16) : w ∈ WS := List.mem_append_right _ (List.mem_append_right _ (List.mem_append_right _ (List.mem_append_right _ (List.mem_append_right _ (List.mem_append_right _ (List.mem_append_right _ (List.mem_append_right _ (List.mem_append_right _ (List.mem_append_right _ (List.mem_append_right _ (List.mem_append_right _ (List.mem_append_right _ (List.mem_append_right _ (List.mem_append_right _ (List.mem_append_right _ (List.mem_append_left _ h))))))))))))))))
theorem WSi_17 {w : Cond} (h : w ∈ WS_17) : w ∈ WS := List.mem_append_right _ (List.mem_append_right _ (List.mem_append_right _ (List.mem_append_right _ (List.mem_append_right _ (List.mem_append_right _ (List.mem_append_right _ (List.mem_append_right _ (List.mem_append_right _ (List.mem_append_right _ (List.mem_append_right _ (List.mem_append_right _ (List.mem_append_right _ (List.mem_append_right _ (List.mem_append_right _ (List.mem_append_right _ (List.mem_append_right _ (h)))))))))))))))))
theorem we_c {a : Cond} {l : List Cond} (h1 : a ∈ WS) (h2 : ∀ w ∈ l, w ∈ WS) : ∀ w ∈ a :: l, w ∈ WS := by
  intro w hw
  cases hw with
  | head => exact h1
  | tail _ h => exact h2 w h
theorem we_n : ∀ w ∈ ([] : List Cond), w ∈ WS := by
  intro w hw
  cases hw
theorem k_0 : (Jvm.Cond.code y_V_holds prog_1_method_22_code (2 : Nat) (Option.some Jvm.ClassFile.FieldType.boolean)) ∈ WS := WSi_0 (List.mem_of_getElem? (i := 0) rfl)
theorem k_1 : (Jvm.Cond.code y_V_holdsAll prog_1_method_23_code (2 : Nat) (Option.some Jvm.ClassFile.FieldType.boolean)) ∈ WS := WSi_0 (List.mem_of_getElem? (i := 1) rfl)
theorem k_2 : (Jvm.Cond.code y_G_usesFirst prog_3_method_16_code (1 : Nat) (Option.some Jvm.ClassFile.FieldType.boolean)) ∈ WS := WSi_0 (List.mem_of_getElem? (i := 2) rfl)
theorem k_3 : (Jvm.Cond.code y_G_usesSecond prog_3_method_17_code (1 : Nat) (Option.some Jvm.ClassFile.FieldType.boolean)) ∈ WS := WSi_0 (List.mem_of_getElem? (i := 3) rfl)
theorem k_4 : (Jvm.Cond.code y_E_othersAt prog_4_method_10_code (4 : Nat) (Option.some Jvm.ClassFile.FieldType.int)) ∈ WS := WSi_0 (List.mem_of_getElem? (i := 4) rfl)
theorem k_5 : (Jvm.Cond.code y_M_needs prog_10_method_12_code (1 : Nat) (Option.some Jvm.ClassFile.FieldType.int)) ∈ WS := WSi_0 (List.mem_of_getElem? (i := 5) rfl)
theorem k_6 : (Jvm.Cond.code y_I_bitCount prog_15_method_49_code (1 : Nat) (Option.some Jvm.ClassFile.FieldType.int)) ∈ WS := WSi_0 (List.mem_of_getElem? (i := 6) rfl)
theorem k_7 : (Jvm.Cond.constant "java/lang/Integer" (265 : Nat) (1431655765 : Int32)) ∈ WS := WSi_0 (List.mem_of_getElem? (i := 7) rfl)
theorem k_8 : (Jvm.Cond.constant "java/lang/Integer" (266 : Nat) (858993459 : Int32)) ∈ WS := WSi_0 (List.mem_of_getElem? (i := 8) rfl)
theorem k_9 : (Jvm.Cond.constant "java/lang/Integer" (267 : Nat) (252645135 : Int32)) ∈ WS := WSi_0 (List.mem_of_getElem? (i := 9) rfl)
theorem k_10 : (Jvm.Cond.code y_V_leastOf prog_1_method_24_code (1 : Nat) (Option.some Jvm.ClassFile.FieldType.int)) ∈ WS := WSi_0 (List.mem_of_getElem? (i := 10) rfl)
theorem k_11 : (Jvm.Cond.initialized "java/lang/Integer") ∈ WS := WSi_0 (List.mem_of_getElem? (i := 11) rfl)
theorem k_12 : (Jvm.Cond.methodLink "VisitGrammar" (235 : Nat) y_I_bitCount) ∈ WS := WSi_0 (List.mem_of_getElem? (i := 12) rfl)
theorem k_13 : (Jvm.Cond.static y_I_bitCount) ∈ WS := WSi_0 (List.mem_of_getElem? (i := 13) rfl)
theorem k_14 : (Jvm.Cond.code y_G_hasSymbol prog_3_method_2_code (2 : Nat) (Option.some Jvm.ClassFile.FieldType.boolean)) ∈ WS := WSi_0 (List.mem_of_getElem? (i := 14) rfl)
theorem k_15 : (Jvm.Cond.fieldLink "VisitGrammar$Grammar" (45 : Nat) "VisitGrammar$Grammar" "symbolCount" "I") ∈ WS := WSi_0 (List.mem_of_getElem? (i := 15) rfl)
theorem k_16 : (Jvm.Cond.code y_G_hasAttribute prog_3_method_3_code (3 : Nat) (Option.some Jvm.ClassFile.FieldType.boolean)) ∈ WS := WSi_0 (List.mem_of_getElem? (i := 16) rfl)
theorem k_17 : (Jvm.Cond.fieldLink "VisitGrammar$Grammar" (9 : Nat) "VisitGrammar$Grammar" "attributeCounts" "[I") ∈ WS := WSi_0 (List.mem_of_getElem? (i := 17) rfl)
theorem k_18 : (Jvm.Cond.code y_G_hasProduction prog_3_method_4_code (2 : Nat) (Option.some Jvm.ClassFile.FieldType.boolean)) ∈ WS := WSi_0 (List.mem_of_getElem? (i := 18) rfl)
theorem k_19 : (Jvm.Cond.fieldLink "VisitGrammar$Grammar" (49 : Nat) "VisitGrammar$Grammar" "productionCount" "I") ∈ WS := WSi_0 (List.mem_of_getElem? (i := 19) rfl)
theorem k_20 : (Jvm.Cond.code y_G_hasOccurrence prog_3_method_5_code (3 : Nat) (Option.some Jvm.ClassFile.FieldType.boolean)) ∈ WS := WSi_0 (List.mem_of_getElem? (i := 20) rfl)
theorem k_21 : (Jvm.Cond.fieldLink "VisitGrammar$Grammar" (24 : Nat) "VisitGrammar$Grammar" "presentBits" "[I") ∈ WS := WSi_0 (List.mem_of_getElem? (i := 21) rfl)
theorem k_22 : (Jvm.Cond.initialized "VisitGrammar") ∈ WS := WSi_0 (List.mem_of_getElem? (i := 22) rfl)
theorem k_23 : (Jvm.Cond.methodLinkNest "VisitGrammar$Grammar" (52 : Nat) y_V_holds "VisitGrammar") ∈ WS := WSi_0 (List.mem_of_getElem? (i := 23) rfl)
theorem k_24 : (Jvm.Cond.static y_V_holds) ∈ WS := WSi_0 (List.mem_of_getElem? (i := 24) rfl)
theorem k_25 : (Jvm.Cond.code y_G_isToBeDefined prog_3_method_6_code (3 : Nat) (Option.some Jvm.ClassFile.FieldType.boolean)) ∈ WS := WSi_0 (List.mem_of_getElem? (i := 25) rfl)
theorem k_26 : (Jvm.Cond.initialized "VisitGrammar$Grammar") ∈ WS := WSi_0 (List.mem_of_getElem? (i := 26) rfl)
theorem k_27 : (Jvm.Cond.methodLink "VisitGrammar$Grammar" (56 : Nat) y_G_hasOccurrence) ∈ WS := WSi_0 (List.mem_of_getElem? (i := 27) rfl)
theorem k_28 : (Jvm.Cond.instanceMethod y_G_hasOccurrence) ∈ WS := WSi_0 (List.mem_of_getElem? (i := 28) rfl)
theorem k_29 : (Jvm.Cond.selects "VisitGrammar$Grammar" y_G_hasOccurrence y_G_hasOccurrence) ∈ WS := WSi_0 (List.mem_of_getElem? (i := 29) rfl)
theorem k_30 : (Jvm.Cond.fieldLink "VisitGrammar$Grammar" (27 : Nat) "VisitGrammar$Grammar" "toDefineBits" "[I") ∈ WS := WSi_0 (List.mem_of_getElem? (i := 30) rfl)
theorem k_31 : (Jvm.Cond.code y_G_isRight prog_3_method_7_code (4 : Nat) (Option.some Jvm.ClassFile.FieldType.boolean)) ∈ WS := WSi_0 (List.mem_of_getElem? (i := 31) rfl)
theorem k_32 : (Jvm.Cond.methodLink "VisitGrammar$Grammar" (59 : Nat) y_G_hasSymbol) ∈ WS := WSi_0 (List.mem_of_getElem? (i := 32) rfl)
theorem k_33 : (Jvm.Cond.instanceMethod y_G_hasSymbol) ∈ WS := WSi_0 (List.mem_of_getElem? (i := 33) rfl)
theorem k_34 : (Jvm.Cond.selects "VisitGrammar$Grammar" y_G_hasSymbol y_G_hasSymbol) ∈ WS := WSi_0 (List.mem_of_getElem? (i := 34) rfl)
theorem k_35 : (Jvm.Cond.code y_G_isForm prog_3_method_8_code (5 : Nat) (Option.some Jvm.ClassFile.FieldType.boolean)) ∈ WS := WSi_0 (List.mem_of_getElem? (i := 35) rfl)
theorem k_36 : (Jvm.Cond.methodLink "VisitGrammar$Grammar" (63 : Nat) y_G_usesFirst) ∈ WS := WSi_0 (List.mem_of_getElem? (i := 36) rfl)
theorem k_37 : (Jvm.Cond.static y_G_usesFirst) ∈ WS := WSi_0 (List.mem_of_getElem? (i := 37) rfl)
theorem k_38 : (Jvm.Cond.methodLink "VisitGrammar$Grammar" (66 : Nat) y_G_usesSecond) ∈ WS := WSi_0 (List.mem_of_getElem? (i := 38) rfl)
theorem k_39 : (Jvm.Cond.static y_G_usesSecond) ∈ WS := WSi_0 (List.mem_of_getElem? (i := 39) rfl)
theorem k_40 : (Jvm.Cond.code y_G_symbolAt prog_3_method_9_code (3 : Nat) (Option.some Jvm.ClassFile.FieldType.int)) ∈ WS := WSi_0 (List.mem_of_getElem? (i := 40) rfl)
theorem k_41 : (Jvm.Cond.fieldLink "VisitGrammar$Grammar" (18 : Nat) "VisitGrammar$Grammar" "symbolsAt" "[I") ∈ WS := WSi_0 (List.mem_of_getElem? (i := 41) rfl)
theorem k_42 : (Jvm.Cond.code y_G_allAttributes prog_3_method_14_code (2 : Nat) (Option.some Jvm.ClassFile.FieldType.int)) ∈ WS := WSi_0 (List.mem_of_getElem? (i := 42) rfl)
theorem k_43 : (Jvm.Cond.code y_G_addSymbol prog_3_method_10_code (4 : Nat) (Option.some Jvm.ClassFile.FieldType.int)) ∈ WS := WSi_0 (List.mem_of_getElem? (i := 43) rfl)
theorem k_44 : (Jvm.Cond.fieldLink "VisitGrammar$Grammar" (15 : Nat) "VisitGrammar$Grammar" "inheritedBits" "[I") ∈ WS := WSi_0 (List.mem_of_getElem? (i := 44) rfl)
theorem k_45 : (Jvm.Cond.methodLink "VisitGrammar$Grammar" (69 : Nat) y_G_allAttributes) ∈ WS := WSi_0 (List.mem_of_getElem? (i := 45) rfl)
theorem k_46 : (Jvm.Cond.instanceMethod y_G_allAttributes) ∈ WS := WSi_0 (List.mem_of_getElem? (i := 46) rfl)
theorem k_47 : (Jvm.Cond.selects "VisitGrammar$Grammar" y_G_allAttributes y_G_allAttributes) ∈ WS := WSi_0 (List.mem_of_getElem? (i := 47) rfl)
theorem k_48 : (Jvm.Cond.code y_G_place prog_3_method_12_code (8 : Nat) (Option.none : Option Jvm.ClassFile.FieldType)) ∈ WS := WSi_0 (List.mem_of_getElem? (i := 48) rfl)
theorem k_49 : (Jvm.Cond.fieldLink "VisitGrammar$Grammar" (21 : Nat) "VisitGrammar$Grammar" "lastPositions" "[I") ∈ WS := WSi_0 (List.mem_of_getElem? (i := 49) rfl)
theorem k_50 : (Jvm.Cond.code y_G_addProduction prog_3_method_11_code (6 : Nat) (Option.some Jvm.ClassFile.FieldType.int)) ∈ WS := WSi_0 (List.mem_of_getElem? (i := 50) rfl)
theorem k_51 : (Jvm.Cond.methodLink "VisitGrammar$Grammar" (73 : Nat) y_G_place) ∈ WS := WSi_0 (List.mem_of_getElem? (i := 51) rfl)
theorem k_52 : (Jvm.Cond.instanceMethod y_G_place) ∈ WS := WSi_0 (List.mem_of_getElem? (i := 52) rfl)
theorem k_53 : (Jvm.Cond.selects "VisitGrammar$Grammar" y_G_place y_G_place) ∈ WS := WSi_0 (List.mem_of_getElem? (i := 53) rfl)
theorem k_54 : (Jvm.Cond.code y_G_setRule prog_3_method_13_code (7 : Nat) (Option.none : Option Jvm.ClassFile.FieldType)) ∈ WS := WSi_0 (List.mem_of_getElem? (i := 54) rfl)
theorem k_55 : (Jvm.Cond.fieldLink "VisitGrammar$Grammar" (33 : Nat) "VisitGrammar$Grammar" "forms" "[I") ∈ WS := WSi_0 (List.mem_of_getElem? (i := 55) rfl)
theorem k_56 : (Jvm.Cond.fieldLink "VisitGrammar$Grammar" (36 : Nat) "VisitGrammar$Grammar" "firsts" "[I") ∈ WS := WSi_0 (List.mem_of_getElem? (i := 56) rfl)
theorem k_57 : (Jvm.Cond.fieldLink "VisitGrammar$Grammar" (39 : Nat) "VisitGrammar$Grammar" "seconds" "[I") ∈ WS := WSi_0 (List.mem_of_getElem? (i := 57) rfl)
theorem k_58 : (Jvm.Cond.fieldLink "VisitGrammar$Grammar" (42 : Nat) "VisitGrammar$Grammar" "usedBits" "[I") ∈ WS := WSi_0 (List.mem_of_getElem? (i := 58) rfl)
theorem k_59 : (Jvm.Cond.fieldLink "VisitGrammar$Grammar" (30 : Nat) "VisitGrammar$Grammar" "ruledBits" "[I") ∈ WS := WSi_0 (List.mem_of_getElem? (i := 59) rfl)
theorem k_60 : (Jvm.Cond.code y_G_leastWithoutRule prog_3_method_15_code (2 : Nat) (Option.some Jvm.ClassFile.FieldType.int)) ∈ WS := WSi_1 (List.mem_of_getElem? (i := 0) rfl)
theorem k_61 : (Jvm.Cond.methodLinkNest "VisitGrammar$Grammar" (77 : Nat) y_V_leastOf "VisitGrammar") ∈ WS := WSi_1 (List.mem_of_getElem? (i := 1) rfl)
theorem k_62 : (Jvm.Cond.static y_V_leastOf) ∈ WS := WSi_1 (List.mem_of_getElem? (i := 2) rfl)
theorem k_63 : (Jvm.Cond.code y_E_takeRule prog_4_method_6_code (5 : Nat) (Option.none : Option Jvm.ClassFile.FieldType)) ∈ WS := WSi_1 (List.mem_of_getElem? (i := 3) rfl)
theorem k_64 : (Jvm.Cond.methodLinkNest "VisitGrammar$Leads" (48 : Nat) y_V_holds "VisitGrammar") ∈ WS := WSi_1 (List.mem_of_getElem? (i := 4) rfl)
theorem k_65 : (Jvm.Cond.fieldLink "VisitGrammar$Leads" (9 : Nat) "VisitGrammar$Leads" "ofOccurrences" "[I") ∈ WS := WSi_1 (List.mem_of_getElem? (i := 5) rfl)
theorem k_66 : (Jvm.Cond.code y_E_takeRules prog_4_method_5_code (4 : Nat) (Option.none : Option Jvm.ClassFile.FieldType)) ∈ WS := WSi_1 (List.mem_of_getElem? (i := 6) rfl)
theorem k_67 : (Jvm.Cond.code y_R_fill prog_22_method_103_code (4 : Nat) (Option.none : Option Jvm.ClassFile.FieldType)) ∈ WS := WSi_1 (List.mem_of_getElem? (i := 7) rfl)
theorem k_68 : (Jvm.Cond.initialized "java/util/Arrays") ∈ WS := WSi_1 (List.mem_of_getElem? (i := 8) rfl)
theorem k_69 : (Jvm.Cond.methodLink "VisitGrammar$Leads" (22 : Nat) y_R_fill) ∈ WS := WSi_1 (List.mem_of_getElem? (i := 9) rfl)
theorem k_70 : (Jvm.Cond.static y_R_fill) ∈ WS := WSi_1 (List.mem_of_getElem? (i := 10) rfl)
theorem k_71 : (Jvm.Cond.fieldLink "VisitGrammar$Leads" (18 : Nat) "VisitGrammar$Leads" "grammar" "LVisitGrammar$Grammar;") ∈ WS := WSi_1 (List.mem_of_getElem? (i := 11) rfl)
theorem k_72 : (Jvm.Cond.fieldLinkNest "VisitGrammar$Leads" (31 : Nat) "VisitGrammar$Grammar" "productionCount" "I" "VisitGrammar") ∈ WS := WSi_1 (List.mem_of_getElem? (i := 12) rfl)
theorem k_73 : (Jvm.Cond.fieldLinkNest "VisitGrammar$Leads" (52 : Nat) "VisitGrammar$Grammar" "usedBits" "[I" "VisitGrammar") ∈ WS := WSi_1 (List.mem_of_getElem? (i := 13) rfl)
theorem k_74 : (Jvm.Cond.initialized "VisitGrammar$Leads") ∈ WS := WSi_1 (List.mem_of_getElem? (i := 14) rfl)
theorem k_75 : (Jvm.Cond.methodLink "VisitGrammar$Leads" (55 : Nat) y_E_takeRule) ∈ WS := WSi_1 (List.mem_of_getElem? (i := 15) rfl)
theorem k_76 : (Jvm.Cond.instanceMethod y_E_takeRule) ∈ WS := WSi_1 (List.mem_of_getElem? (i := 16) rfl)
theorem k_77 : (Jvm.Cond.selects "VisitGrammar$Leads" y_E_takeRule y_E_takeRule) ∈ WS := WSi_1 (List.mem_of_getElem? (i := 17) rfl)
theorem k_78 : (Jvm.Cond.code y_E_takeFromSymbols prog_4_method_7_code (7 : Nat) (Option.none : Option Jvm.ClassFile.FieldType)) ∈ WS := WSi_1 (List.mem_of_getElem? (i := 18) rfl)
theorem k_79 : (Jvm.Cond.fieldLinkNest "VisitGrammar$Leads" (59 : Nat) "VisitGrammar$Grammar" "lastPositions" "[I" "VisitGrammar") ∈ WS := WSi_1 (List.mem_of_getElem? (i := 19) rfl)
theorem k_80 : (Jvm.Cond.methodLink "VisitGrammar$Leads" (62 : Nat) y_G_symbolAt) ∈ WS := WSi_1 (List.mem_of_getElem? (i := 20) rfl)
theorem k_81 : (Jvm.Cond.instanceMethod y_G_symbolAt) ∈ WS := WSi_1 (List.mem_of_getElem? (i := 21) rfl)
theorem k_82 : (Jvm.Cond.selects "VisitGrammar$Grammar" y_G_symbolAt y_G_symbolAt) ∈ WS := WSi_1 (List.mem_of_getElem? (i := 22) rfl)
theorem k_83 : (Jvm.Cond.fieldLink "VisitGrammar$Leads" (15 : Nat) "VisitGrammar$Leads" "ofAttributes" "[I") ∈ WS := WSi_1 (List.mem_of_getElem? (i := 23) rfl)
theorem k_84 : (Jvm.Cond.code y_E_close prog_4_method_8_code (6 : Nat) (Option.none : Option Jvm.ClassFile.FieldType)) ∈ WS := WSi_1 (List.mem_of_getElem? (i := 24) rfl)
theorem k_85 : (Jvm.Cond.code y_E_giveToSymbols prog_4_method_9_code (9 : Nat) (Option.some Jvm.ClassFile.FieldType.boolean)) ∈ WS := WSi_1 (List.mem_of_getElem? (i := 25) rfl)
theorem k_86 : (Jvm.Cond.methodLink "VisitGrammar$Leads" (66 : Nat) y_E_othersAt) ∈ WS := WSi_1 (List.mem_of_getElem? (i := 26) rfl)
theorem k_87 : (Jvm.Cond.static y_E_othersAt) ∈ WS := WSi_1 (List.mem_of_getElem? (i := 27) rfl)
theorem k_88 : (Jvm.Cond.methodLinkNest "VisitGrammar$Leads" (70 : Nat) y_V_holdsAll "VisitGrammar") ∈ WS := WSi_1 (List.mem_of_getElem? (i := 28) rfl)
theorem k_89 : (Jvm.Cond.static y_V_holdsAll) ∈ WS := WSi_1 (List.mem_of_getElem? (i := 29) rfl)
theorem k_90 : (Jvm.Cond.code y_E_takeOrder prog_4_method_3_code (2 : Nat) (Option.none : Option Jvm.ClassFile.FieldType)) ∈ WS := WSi_1 (List.mem_of_getElem? (i := 30) rfl)
theorem k_91 : (Jvm.Cond.methodLink "VisitGrammar$Leads" (37 : Nat) y_E_takeFromSymbols) ∈ WS := WSi_1 (List.mem_of_getElem? (i := 31) rfl)
theorem k_92 : (Jvm.Cond.instanceMethod y_E_takeFromSymbols) ∈ WS := WSi_1 (List.mem_of_getElem? (i := 32) rfl)
theorem k_93 : (Jvm.Cond.selects "VisitGrammar$Leads" y_E_takeFromSymbols y_E_takeFromSymbols) ∈ WS := WSi_1 (List.mem_of_getElem? (i := 33) rfl)
theorem k_94 : (Jvm.Cond.methodLink "VisitGrammar$Leads" (41 : Nat) y_E_close) ∈ WS := WSi_1 (List.mem_of_getElem? (i := 34) rfl)
theorem k_95 : (Jvm.Cond.instanceMethod y_E_close) ∈ WS := WSi_1 (List.mem_of_getElem? (i := 35) rfl)
theorem k_96 : (Jvm.Cond.selects "VisitGrammar$Leads" y_E_close y_E_close) ∈ WS := WSi_1 (List.mem_of_getElem? (i := 36) rfl)
theorem k_97 : (Jvm.Cond.code y_E_leastLeadingToItself prog_4_method_4_code (4 : Nat) (Option.some Jvm.ClassFile.FieldType.int)) ∈ WS := WSi_1 (List.mem_of_getElem? (i := 37) rfl)
theorem k_98 : (Jvm.Cond.code y_E_spread prog_4_method_2_code (4 : Nat) (Option.none : Option Jvm.ClassFile.FieldType)) ∈ WS := WSi_1 (List.mem_of_getElem? (i := 38) rfl)
theorem k_99 : (Jvm.Cond.methodLink "VisitGrammar$Leads" (28 : Nat) y_E_takeRules) ∈ WS := WSi_1 (List.mem_of_getElem? (i := 39) rfl)
theorem k_100 : (Jvm.Cond.instanceMethod y_E_takeRules) ∈ WS := WSi_1 (List.mem_of_getElem? (i := 40) rfl)
theorem k_101 : (Jvm.Cond.selects "VisitGrammar$Leads" y_E_takeRules y_E_takeRules) ∈ WS := WSi_1 (List.mem_of_getElem? (i := 41) rfl)
theorem k_102 : (Jvm.Cond.methodLink "VisitGrammar$Leads" (44 : Nat) y_E_giveToSymbols) ∈ WS := WSi_1 (List.mem_of_getElem? (i := 42) rfl)
theorem k_103 : (Jvm.Cond.instanceMethod y_E_giveToSymbols) ∈ WS := WSi_1 (List.mem_of_getElem? (i := 43) rfl)
theorem k_104 : (Jvm.Cond.selects "VisitGrammar$Leads" y_E_giveToSymbols y_E_giveToSymbols) ∈ WS := WSi_1 (List.mem_of_getElem? (i := 44) rfl)
theorem k_105 : (Jvm.Cond.code y_K_inheritedOf prog_5_method_4_code (3 : Nat) (Option.some Jvm.ClassFile.FieldType.int)) ∈ WS := WSi_1 (List.mem_of_getElem? (i := 45) rfl)
theorem k_106 : (Jvm.Cond.fieldLink "VisitGrammar$Ranking" (18 : Nat) "VisitGrammar$Ranking" "belonging" "[I") ∈ WS := WSi_1 (List.mem_of_getElem? (i := 46) rfl)
theorem k_107 : (Jvm.Cond.fieldLink "VisitGrammar$Ranking" (21 : Nat) "VisitGrammar$Ranking" "grammar" "LVisitGrammar$Grammar;") ∈ WS := WSi_1 (List.mem_of_getElem? (i := 47) rfl)
theorem k_108 : (Jvm.Cond.fieldLinkNest "VisitGrammar$Ranking" (63 : Nat) "VisitGrammar$Grammar" "inheritedBits" "[I" "VisitGrammar") ∈ WS := WSi_1 (List.mem_of_getElem? (i := 48) rfl)
theorem k_109 : (Jvm.Cond.code y_K_synthesizedOf prog_5_method_5_code (3 : Nat) (Option.some Jvm.ClassFile.FieldType.int)) ∈ WS := WSi_1 (List.mem_of_getElem? (i := 49) rfl)
theorem k_110 : (Jvm.Cond.code y_K_leastRank prog_5_method_7_code (3 : Nat) (Option.some Jvm.ClassFile.FieldType.int)) ∈ WS := WSi_1 (List.mem_of_getElem? (i := 50) rfl)
theorem k_111 : (Jvm.Cond.methodLinkNest "VisitGrammar$Ranking" (72 : Nat) y_V_holds "VisitGrammar") ∈ WS := WSi_1 (List.mem_of_getElem? (i := 51) rfl)
theorem k_112 : (Jvm.Cond.code y_K_rankAboveLed prog_5_method_8_code (7 : Nat) (Option.some Jvm.ClassFile.FieldType.int)) ∈ WS := WSi_1 (List.mem_of_getElem? (i := 52) rfl)
theorem k_113 : (Jvm.Cond.fieldLink "VisitGrammar$Ranking" (9 : Nat) "VisitGrammar$Ranking" "ranks" "[I") ∈ WS := WSi_1 (List.mem_of_getElem? (i := 53) rfl)
theorem k_114 : (Jvm.Cond.fieldLinkNest "VisitGrammar$Ranking" (51 : Nat) "VisitGrammar$Grammar" "attributeCounts" "[I" "VisitGrammar") ∈ WS := WSi_1 (List.mem_of_getElem? (i := 54) rfl)
theorem k_115 : (Jvm.Cond.fieldLink "VisitGrammar$Ranking" (25 : Nat) "VisitGrammar$Ranking" "leads" "LVisitGrammar$Leads;") ∈ WS := WSi_1 (List.mem_of_getElem? (i := 55) rfl)
theorem k_116 : (Jvm.Cond.fieldLinkNest "VisitGrammar$Ranking" (54 : Nat) "VisitGrammar$Leads" "ofAttributes" "[I" "VisitGrammar") ∈ WS := WSi_1 (List.mem_of_getElem? (i := 56) rfl)
theorem k_117 : (Jvm.Cond.methodLink "VisitGrammar$Ranking" (76 : Nat) ({ cls := "java/lang/Math", name := "max", desc := "(II)I" } : Jvm.MethodName)) ∈ WS := WSi_1 (List.mem_of_getElem? (i := 57) rfl)
theorem k_118 : (Jvm.Cond.static ({ cls := "java/lang/Math", name := "max", desc := "(II)I" } : Jvm.MethodName)) ∈ WS := WSi_1 (List.mem_of_getElem? (i := 58) rfl)
theorem k_119 : (Jvm.Cond.initialized "java/lang/Math") ∈ WS := WSi_1 (List.mem_of_getElem? (i := 59) rfl)
theorem k_120 : (Jvm.Cond.code ({ cls := "java/lang/Math", name := "max", desc := "(II)I" } : Jvm.MethodName) prog_16_method_65_code (2 : Nat) (Option.some Jvm.ClassFile.FieldType.int)) ∈ WS := WSi_2 (List.mem_of_getElem? (i := 0) rfl)
theorem k_121 : (Jvm.Cond.code y_K_rankAttributes prog_5_method_6_code (6 : Nat) (Option.none : Option Jvm.ClassFile.FieldType)) ∈ WS := WSi_2 (List.mem_of_getElem? (i := 1) rfl)
theorem k_122 : (Jvm.Cond.initialized "VisitGrammar$Ranking") ∈ WS := WSi_2 (List.mem_of_getElem? (i := 2) rfl)
theorem k_123 : (Jvm.Cond.methodLink "VisitGrammar$Ranking" (69 : Nat) y_K_rankAboveLed) ∈ WS := WSi_2 (List.mem_of_getElem? (i := 3) rfl)
theorem k_124 : (Jvm.Cond.instanceMethod y_K_rankAboveLed) ∈ WS := WSi_2 (List.mem_of_getElem? (i := 4) rfl)
theorem k_125 : (Jvm.Cond.selects "VisitGrammar$Ranking" y_K_rankAboveLed y_K_rankAboveLed) ∈ WS := WSi_2 (List.mem_of_getElem? (i := 5) rfl)
theorem k_126 : (Jvm.Cond.methodLink "VisitGrammar$Ranking" (66 : Nat) y_K_leastRank) ∈ WS := WSi_2 (List.mem_of_getElem? (i := 6) rfl)
theorem k_127 : (Jvm.Cond.instanceMethod y_K_leastRank) ∈ WS := WSi_2 (List.mem_of_getElem? (i := 7) rfl)
theorem k_128 : (Jvm.Cond.selects "VisitGrammar$Ranking" y_K_leastRank y_K_leastRank) ∈ WS := WSi_2 (List.mem_of_getElem? (i := 8) rfl)
theorem k_129 : (Jvm.Cond.code y_K_countVisits prog_5_method_9_code (4 : Nat) (Option.none : Option Jvm.ClassFile.FieldType)) ∈ WS := WSi_2 (List.mem_of_getElem? (i := 9) rfl)
theorem k_130 : (Jvm.Cond.fieldLink "VisitGrammar$Ranking" (15 : Nat) "VisitGrammar$Ranking" "visitCounts" "[I") ∈ WS := WSi_2 (List.mem_of_getElem? (i := 10) rfl)
theorem k_131 : (Jvm.Cond.code y_K_shareOut prog_5_method_10_code (5 : Nat) (Option.none : Option Jvm.ClassFile.FieldType)) ∈ WS := WSi_2 (List.mem_of_getElem? (i := 11) rfl)
theorem k_132 : (Jvm.Cond.code y_K_ofLessRank prog_5_method_11_code (5 : Nat) (Option.some Jvm.ClassFile.FieldType.int)) ∈ WS := WSi_2 (List.mem_of_getElem? (i := 12) rfl)
theorem k_133 : (Jvm.Cond.code y_K_addToLeads prog_5_method_3_code (4 : Nat) (Option.none : Option Jvm.ClassFile.FieldType)) ∈ WS := WSi_2 (List.mem_of_getElem? (i := 13) rfl)
theorem k_134 : (Jvm.Cond.fieldLinkNest "VisitGrammar$Ranking" (35 : Nat) "VisitGrammar$Grammar" "symbolCount" "I" "VisitGrammar") ∈ WS := WSi_2 (List.mem_of_getElem? (i := 14) rfl)
theorem k_135 : (Jvm.Cond.methodLink "VisitGrammar$Ranking" (59 : Nat) y_K_ofLessRank) ∈ WS := WSi_2 (List.mem_of_getElem? (i := 15) rfl)
theorem k_136 : (Jvm.Cond.instanceMethod y_K_ofLessRank) ∈ WS := WSi_2 (List.mem_of_getElem? (i := 16) rfl)
theorem k_137 : (Jvm.Cond.selects "VisitGrammar$Ranking" y_K_ofLessRank y_K_ofLessRank) ∈ WS := WSi_2 (List.mem_of_getElem? (i := 17) rfl)
theorem k_138 : (Jvm.Cond.code y_K_make prog_5_method_2_code (2 : Nat) (Option.none : Option Jvm.ClassFile.FieldType)) ∈ WS := WSi_2 (List.mem_of_getElem? (i := 18) rfl)
theorem k_139 : (Jvm.Cond.methodLink "VisitGrammar$Ranking" (29 : Nat) y_R_fill) ∈ WS := WSi_2 (List.mem_of_getElem? (i := 19) rfl)
theorem k_140 : (Jvm.Cond.methodLink "VisitGrammar$Ranking" (41 : Nat) y_K_rankAttributes) ∈ WS := WSi_2 (List.mem_of_getElem? (i := 20) rfl)
theorem k_141 : (Jvm.Cond.instanceMethod y_K_rankAttributes) ∈ WS := WSi_2 (List.mem_of_getElem? (i := 21) rfl)
theorem k_142 : (Jvm.Cond.selects "VisitGrammar$Ranking" y_K_rankAttributes y_K_rankAttributes) ∈ WS := WSi_2 (List.mem_of_getElem? (i := 22) rfl)
theorem k_143 : (Jvm.Cond.methodLink "VisitGrammar$Ranking" (45 : Nat) y_K_countVisits) ∈ WS := WSi_2 (List.mem_of_getElem? (i := 23) rfl)
theorem k_144 : (Jvm.Cond.instanceMethod y_K_countVisits) ∈ WS := WSi_2 (List.mem_of_getElem? (i := 24) rfl)
theorem k_145 : (Jvm.Cond.selects "VisitGrammar$Ranking" y_K_countVisits y_K_countVisits) ∈ WS := WSi_2 (List.mem_of_getElem? (i := 25) rfl)
theorem k_146 : (Jvm.Cond.methodLink "VisitGrammar$Ranking" (48 : Nat) y_K_shareOut) ∈ WS := WSi_2 (List.mem_of_getElem? (i := 26) rfl)
theorem k_147 : (Jvm.Cond.instanceMethod y_K_shareOut) ∈ WS := WSi_2 (List.mem_of_getElem? (i := 27) rfl)
theorem k_148 : (Jvm.Cond.selects "VisitGrammar$Ranking" y_K_shareOut y_K_shareOut) ∈ WS := WSi_2 (List.mem_of_getElem? (i := 28) rfl)
theorem k_149 : (Jvm.Cond.code y_Q_at prog_6_method_2_code (3 : Nat) (Option.some Jvm.ClassFile.FieldType.int)) ∈ WS := WSi_2 (List.mem_of_getElem? (i := 29) rfl)
theorem k_150 : (Jvm.Cond.fieldLink "VisitGrammar$Sequences" (15 : Nat) "VisitGrammar$Sequences" "lengths" "[I") ∈ WS := WSi_2 (List.mem_of_getElem? (i := 30) rfl)
theorem k_151 : (Jvm.Cond.fieldLink "VisitGrammar$Sequences" (11 : Nat) "VisitGrammar$Sequences" "instructions" "[I") ∈ WS := WSi_2 (List.mem_of_getElem? (i := 31) rfl)
theorem k_152 : (Jvm.Cond.code y_Q_lengthOfAll prog_6_method_3_code (3 : Nat) (Option.some Jvm.ClassFile.FieldType.int)) ∈ WS := WSi_2 (List.mem_of_getElem? (i := 32) rfl)
theorem k_153 : (Jvm.Cond.fieldLink "VisitGrammar$Sequences" (21 : Nat) "VisitGrammar$Sequences" "grammar" "LVisitGrammar$Grammar;") ∈ WS := WSi_2 (List.mem_of_getElem? (i := 33) rfl)
theorem k_154 : (Jvm.Cond.fieldLinkNest "VisitGrammar$Sequences" (29 : Nat) "VisitGrammar$Grammar" "productionCount" "I" "VisitGrammar") ∈ WS := WSi_2 (List.mem_of_getElem? (i := 34) rfl)
theorem k_155 : (Jvm.Cond.code y_Q_visitsAt prog_6_method_7_code (3 : Nat) (Option.some Jvm.ClassFile.FieldType.int)) ∈ WS := WSi_2 (List.mem_of_getElem? (i := 35) rfl)
theorem k_156 : (Jvm.Cond.fieldLink "VisitGrammar$Sequences" (25 : Nat) "VisitGrammar$Sequences" "ranking" "LVisitGrammar$Ranking;") ∈ WS := WSi_2 (List.mem_of_getElem? (i := 36) rfl)
theorem k_157 : (Jvm.Cond.fieldLinkNest "VisitGrammar$Sequences" (82 : Nat) "VisitGrammar$Ranking" "visitCounts" "[I" "VisitGrammar") ∈ WS := WSi_2 (List.mem_of_getElem? (i := 37) rfl)
theorem k_158 : (Jvm.Cond.methodLink "VisitGrammar$Sequences" (56 : Nat) y_G_symbolAt) ∈ WS := WSi_2 (List.mem_of_getElem? (i := 38) rfl)
theorem k_159 : (Jvm.Cond.code y_Q_readySet prog_6_method_9_code (5 : Nat) (Option.some Jvm.ClassFile.FieldType.int)) ∈ WS := WSi_2 (List.mem_of_getElem? (i := 39) rfl)
theorem k_160 : (Jvm.Cond.fieldLinkNest "VisitGrammar$Sequences" (68 : Nat) "VisitGrammar$Grammar" "toDefineBits" "[I" "VisitGrammar") ∈ WS := WSi_2 (List.mem_of_getElem? (i := 40) rfl)
theorem k_161 : (Jvm.Cond.fieldLink "VisitGrammar$Sequences" (53 : Nat) "VisitGrammar$Sequences" "setBits" "I") ∈ WS := WSi_2 (List.mem_of_getElem? (i := 41) rfl)
theorem k_162 : (Jvm.Cond.methodLinkNest "VisitGrammar$Sequences" (104 : Nat) y_V_holds "VisitGrammar") ∈ WS := WSi_2 (List.mem_of_getElem? (i := 42) rfl)
theorem k_163 : (Jvm.Cond.fieldLink "VisitGrammar$Sequences" (65 : Nat) "VisitGrammar$Sequences" "knownBits" "I") ∈ WS := WSi_2 (List.mem_of_getElem? (i := 43) rfl)
theorem k_164 : (Jvm.Cond.fieldLinkNest "VisitGrammar$Sequences" (108 : Nat) "VisitGrammar$Grammar" "usedBits" "[I" "VisitGrammar") ∈ WS := WSi_2 (List.mem_of_getElem? (i := 44) rfl)
theorem k_165 : (Jvm.Cond.methodLinkNest "VisitGrammar$Sequences" (111 : Nat) y_V_holdsAll "VisitGrammar") ∈ WS := WSi_2 (List.mem_of_getElem? (i := 45) rfl)
theorem k_166 : (Jvm.Cond.code y_Q_readyVisit prog_6_method_10_code (6 : Nat) (Option.some Jvm.ClassFile.FieldType.int)) ∈ WS := WSi_2 (List.mem_of_getElem? (i := 46) rfl)
theorem k_167 : (Jvm.Cond.fieldLinkNest "VisitGrammar$Sequences" (76 : Nat) "VisitGrammar$Grammar" "lastPositions" "[I" "VisitGrammar") ∈ WS := WSi_2 (List.mem_of_getElem? (i := 47) rfl)
theorem k_168 : (Jvm.Cond.fieldLink "VisitGrammar$Sequences" (18 : Nat) "VisitGrammar$Sequences" "visitsWritten" "[I") ∈ WS := WSi_2 (List.mem_of_getElem? (i := 48) rfl)
theorem k_169 : (Jvm.Cond.initialized "VisitGrammar$Sequences") ∈ WS := WSi_2 (List.mem_of_getElem? (i := 49) rfl)
theorem k_170 : (Jvm.Cond.methodLink "VisitGrammar$Sequences" (79 : Nat) y_Q_visitsAt) ∈ WS := WSi_2 (List.mem_of_getElem? (i := 50) rfl)
theorem k_171 : (Jvm.Cond.instanceMethod y_Q_visitsAt) ∈ WS := WSi_2 (List.mem_of_getElem? (i := 51) rfl)
theorem k_172 : (Jvm.Cond.selects "VisitGrammar$Sequences" y_Q_visitsAt y_Q_visitsAt) ∈ WS := WSi_2 (List.mem_of_getElem? (i := 52) rfl)
theorem k_173 : (Jvm.Cond.methodLink "VisitGrammar$Sequences" (60 : Nat) y_K_inheritedOf) ∈ WS := WSi_2 (List.mem_of_getElem? (i := 53) rfl)
theorem k_174 : (Jvm.Cond.instanceMethod y_K_inheritedOf) ∈ WS := WSi_2 (List.mem_of_getElem? (i := 54) rfl)
theorem k_175 : (Jvm.Cond.selects "VisitGrammar$Ranking" y_K_inheritedOf y_K_inheritedOf) ∈ WS := WSi_2 (List.mem_of_getElem? (i := 55) rfl)
theorem k_176 : (Jvm.Cond.code y_Q_isLeaveReady prog_6_method_11_code (5 : Nat) (Option.some Jvm.ClassFile.FieldType.boolean)) ∈ WS := WSi_2 (List.mem_of_getElem? (i := 56) rfl)
theorem k_177 : (Jvm.Cond.methodLink "VisitGrammar$Sequences" (114 : Nat) y_K_synthesizedOf) ∈ WS := WSi_2 (List.mem_of_getElem? (i := 57) rfl)
theorem k_178 : (Jvm.Cond.instanceMethod y_K_synthesizedOf) ∈ WS := WSi_2 (List.mem_of_getElem? (i := 58) rfl)
theorem k_179 : (Jvm.Cond.selects "VisitGrammar$Ranking" y_K_synthesizedOf y_K_synthesizedOf) ∈ WS := WSi_2 (List.mem_of_getElem? (i := 59) rfl)
theorem k_180 : (Jvm.Cond.code y_Q_writeSet prog_6_method_12_code (2 : Nat) (Option.some Jvm.ClassFile.FieldType.int)) ∈ WS := WSi_3 (List.mem_of_getElem? (i := 0) rfl)
theorem k_181 : (Jvm.Cond.code y_Q_writeVisit prog_6_method_13_code (5 : Nat) (Option.some Jvm.ClassFile.FieldType.int)) ∈ WS := WSi_3 (List.mem_of_getElem? (i := 1) rfl)
theorem k_182 : (Jvm.Cond.code y_Q_writeLeave prog_6_method_14_code (3 : Nat) (Option.some Jvm.ClassFile.FieldType.int)) ∈ WS := WSi_3 (List.mem_of_getElem? (i := 2) rfl)
theorem k_183 : (Jvm.Cond.code y_Q_writeNext prog_6_method_8_code (5 : Nat) (Option.some Jvm.ClassFile.FieldType.int)) ∈ WS := WSi_3 (List.mem_of_getElem? (i := 3) rfl)
theorem k_184 : (Jvm.Cond.methodLink "VisitGrammar$Sequences" (85 : Nat) y_Q_readySet) ∈ WS := WSi_3 (List.mem_of_getElem? (i := 4) rfl)
theorem k_185 : (Jvm.Cond.instanceMethod y_Q_readySet) ∈ WS := WSi_3 (List.mem_of_getElem? (i := 5) rfl)
theorem k_186 : (Jvm.Cond.selects "VisitGrammar$Sequences" y_Q_readySet y_Q_readySet) ∈ WS := WSi_3 (List.mem_of_getElem? (i := 6) rfl)
theorem k_187 : (Jvm.Cond.methodLink "VisitGrammar$Sequences" (91 : Nat) y_Q_readyVisit) ∈ WS := WSi_3 (List.mem_of_getElem? (i := 7) rfl)
theorem k_188 : (Jvm.Cond.instanceMethod y_Q_readyVisit) ∈ WS := WSi_3 (List.mem_of_getElem? (i := 8) rfl)
theorem k_189 : (Jvm.Cond.selects "VisitGrammar$Sequences" y_Q_readyVisit y_Q_readyVisit) ∈ WS := WSi_3 (List.mem_of_getElem? (i := 9) rfl)
theorem k_190 : (Jvm.Cond.methodLink "VisitGrammar$Sequences" (97 : Nat) y_Q_isLeaveReady) ∈ WS := WSi_3 (List.mem_of_getElem? (i := 10) rfl)
theorem k_191 : (Jvm.Cond.instanceMethod y_Q_isLeaveReady) ∈ WS := WSi_3 (List.mem_of_getElem? (i := 11) rfl)
theorem k_192 : (Jvm.Cond.selects "VisitGrammar$Sequences" y_Q_isLeaveReady y_Q_isLeaveReady) ∈ WS := WSi_3 (List.mem_of_getElem? (i := 12) rfl)
theorem k_193 : (Jvm.Cond.methodLink "VisitGrammar$Sequences" (101 : Nat) y_Q_writeLeave) ∈ WS := WSi_3 (List.mem_of_getElem? (i := 13) rfl)
theorem k_194 : (Jvm.Cond.instanceMethod y_Q_writeLeave) ∈ WS := WSi_3 (List.mem_of_getElem? (i := 14) rfl)
theorem k_195 : (Jvm.Cond.selects "VisitGrammar$Sequences" y_Q_writeLeave y_Q_writeLeave) ∈ WS := WSi_3 (List.mem_of_getElem? (i := 15) rfl)
theorem k_196 : (Jvm.Cond.methodLink "VisitGrammar$Sequences" (94 : Nat) y_Q_writeVisit) ∈ WS := WSi_3 (List.mem_of_getElem? (i := 16) rfl)
theorem k_197 : (Jvm.Cond.instanceMethod y_Q_writeVisit) ∈ WS := WSi_3 (List.mem_of_getElem? (i := 17) rfl)
theorem k_198 : (Jvm.Cond.selects "VisitGrammar$Sequences" y_Q_writeVisit y_Q_writeVisit) ∈ WS := WSi_3 (List.mem_of_getElem? (i := 18) rfl)
theorem k_199 : (Jvm.Cond.methodLink "VisitGrammar$Sequences" (88 : Nat) y_Q_writeSet) ∈ WS := WSi_3 (List.mem_of_getElem? (i := 19) rfl)
theorem k_200 : (Jvm.Cond.instanceMethod y_Q_writeSet) ∈ WS := WSi_3 (List.mem_of_getElem? (i := 20) rfl)
theorem k_201 : (Jvm.Cond.selects "VisitGrammar$Sequences" y_Q_writeSet y_Q_writeSet) ∈ WS := WSi_3 (List.mem_of_getElem? (i := 21) rfl)
theorem k_202 : (Jvm.Cond.code y_Q_beginWriting prog_6_method_5_code (2 : Nat) (Option.none : Option Jvm.ClassFile.FieldType)) ∈ WS := WSi_3 (List.mem_of_getElem? (i := 22) rfl)
theorem k_203 : (Jvm.Cond.methodLink "VisitGrammar$Sequences" (47 : Nat) y_R_fill) ∈ WS := WSi_3 (List.mem_of_getElem? (i := 23) rfl)
theorem k_204 : (Jvm.Cond.code y_Q_fullLength prog_6_method_6_code (4 : Nat) (Option.some Jvm.ClassFile.FieldType.int)) ∈ WS := WSi_3 (List.mem_of_getElem? (i := 24) rfl)
theorem k_205 : (Jvm.Cond.methodLink "VisitGrammar$Sequences" (71 : Nat) y_I_bitCount) ∈ WS := WSi_3 (List.mem_of_getElem? (i := 25) rfl)
theorem k_206 : (Jvm.Cond.code y_Q_write prog_6_method_4_code (4 : Nat) (Option.none : Option Jvm.ClassFile.FieldType)) ∈ WS := WSi_3 (List.mem_of_getElem? (i := 26) rfl)
theorem k_207 : (Jvm.Cond.methodLink "VisitGrammar$Sequences" (35 : Nat) y_Q_beginWriting) ∈ WS := WSi_3 (List.mem_of_getElem? (i := 27) rfl)
theorem k_208 : (Jvm.Cond.instanceMethod y_Q_beginWriting) ∈ WS := WSi_3 (List.mem_of_getElem? (i := 28) rfl)
theorem k_209 : (Jvm.Cond.selects "VisitGrammar$Sequences" y_Q_beginWriting y_Q_beginWriting) ∈ WS := WSi_3 (List.mem_of_getElem? (i := 29) rfl)
theorem k_210 : (Jvm.Cond.methodLink "VisitGrammar$Sequences" (39 : Nat) y_Q_fullLength) ∈ WS := WSi_3 (List.mem_of_getElem? (i := 30) rfl)
theorem k_211 : (Jvm.Cond.instanceMethod y_Q_fullLength) ∈ WS := WSi_3 (List.mem_of_getElem? (i := 31) rfl)
theorem k_212 : (Jvm.Cond.selects "VisitGrammar$Sequences" y_Q_fullLength y_Q_fullLength) ∈ WS := WSi_3 (List.mem_of_getElem? (i := 32) rfl)
theorem k_213 : (Jvm.Cond.methodLink "VisitGrammar$Sequences" (43 : Nat) y_Q_writeNext) ∈ WS := WSi_3 (List.mem_of_getElem? (i := 33) rfl)
theorem k_214 : (Jvm.Cond.instanceMethod y_Q_writeNext) ∈ WS := WSi_3 (List.mem_of_getElem? (i := 34) rfl)
theorem k_215 : (Jvm.Cond.selects "VisitGrammar$Sequences" y_Q_writeNext y_Q_writeNext) ∈ WS := WSi_3 (List.mem_of_getElem? (i := 35) rfl)
theorem k_216 : (Jvm.Cond.code y_Z_hasNode prog_7_method_2_code (2 : Nat) (Option.some Jvm.ClassFile.FieldType.boolean)) ∈ WS := WSi_3 (List.mem_of_getElem? (i := 36) rfl)
theorem k_217 : (Jvm.Cond.fieldLink "VisitGrammar$Tree" (28 : Nat) "VisitGrammar$Tree" "nodeCount" "I") ∈ WS := WSi_3 (List.mem_of_getElem? (i := 37) rfl)
theorem k_218 : (Jvm.Cond.code y_Z_symbolOf prog_7_method_3_code (2 : Nat) (Option.some Jvm.ClassFile.FieldType.int)) ∈ WS := WSi_3 (List.mem_of_getElem? (i := 38) rfl)
theorem k_219 : (Jvm.Cond.fieldLink "VisitGrammar$Tree" (24 : Nat) "VisitGrammar$Tree" "grammar" "LVisitGrammar$Grammar;") ∈ WS := WSi_3 (List.mem_of_getElem? (i := 39) rfl)
theorem k_220 : (Jvm.Cond.fieldLink "VisitGrammar$Tree" (9 : Nat) "VisitGrammar$Tree" "productions" "[I") ∈ WS := WSi_3 (List.mem_of_getElem? (i := 40) rfl)
theorem k_221 : (Jvm.Cond.methodLink "VisitGrammar$Tree" (32 : Nat) y_G_symbolAt) ∈ WS := WSi_3 (List.mem_of_getElem? (i := 41) rfl)
theorem k_222 : (Jvm.Cond.code y_Z_nodeAt prog_7_method_4_code (3 : Nat) (Option.some Jvm.ClassFile.FieldType.int)) ∈ WS := WSi_3 (List.mem_of_getElem? (i := 42) rfl)
theorem k_223 : (Jvm.Cond.fieldLink "VisitGrammar$Tree" (21 : Nat) "VisitGrammar$Tree" "nodesAt" "[I") ∈ WS := WSi_3 (List.mem_of_getElem? (i := 43) rfl)
theorem k_224 : (Jvm.Cond.code y_Z_canBeChild prog_7_method_6_code (4 : Nat) (Option.some Jvm.ClassFile.FieldType.boolean)) ∈ WS := WSi_3 (List.mem_of_getElem? (i := 44) rfl)
theorem k_225 : (Jvm.Cond.fieldLinkNest "VisitGrammar$Tree" (42 : Nat) "VisitGrammar$Grammar" "lastPositions" "[I" "VisitGrammar") ∈ WS := WSi_3 (List.mem_of_getElem? (i := 45) rfl)
theorem k_226 : (Jvm.Cond.initialized "VisitGrammar$Tree") ∈ WS := WSi_3 (List.mem_of_getElem? (i := 46) rfl)
theorem k_227 : (Jvm.Cond.methodLink "VisitGrammar$Tree" (45 : Nat) y_Z_hasNode) ∈ WS := WSi_3 (List.mem_of_getElem? (i := 47) rfl)
theorem k_228 : (Jvm.Cond.instanceMethod y_Z_hasNode) ∈ WS := WSi_3 (List.mem_of_getElem? (i := 48) rfl)
theorem k_229 : (Jvm.Cond.selects "VisitGrammar$Tree" y_Z_hasNode y_Z_hasNode) ∈ WS := WSi_3 (List.mem_of_getElem? (i := 49) rfl)
theorem k_230 : (Jvm.Cond.fieldLink "VisitGrammar$Tree" (18 : Nat) "VisitGrammar$Tree" "parents" "[I") ∈ WS := WSi_3 (List.mem_of_getElem? (i := 50) rfl)
theorem k_231 : (Jvm.Cond.methodLink "VisitGrammar$Tree" (49 : Nat) y_Z_symbolOf) ∈ WS := WSi_3 (List.mem_of_getElem? (i := 51) rfl)
theorem k_232 : (Jvm.Cond.instanceMethod y_Z_symbolOf) ∈ WS := WSi_3 (List.mem_of_getElem? (i := 52) rfl)
theorem k_233 : (Jvm.Cond.selects "VisitGrammar$Tree" y_Z_symbolOf y_Z_symbolOf) ∈ WS := WSi_3 (List.mem_of_getElem? (i := 53) rfl)
theorem k_234 : (Jvm.Cond.code y_Z_canBeChildren prog_7_method_5_code (5 : Nat) (Option.some Jvm.ClassFile.FieldType.boolean)) ∈ WS := WSi_3 (List.mem_of_getElem? (i := 54) rfl)
theorem k_235 : (Jvm.Cond.methodLink "VisitGrammar$Tree" (38 : Nat) y_Z_canBeChild) ∈ WS := WSi_3 (List.mem_of_getElem? (i := 55) rfl)
theorem k_236 : (Jvm.Cond.instanceMethod y_Z_canBeChild) ∈ WS := WSi_3 (List.mem_of_getElem? (i := 56) rfl)
theorem k_237 : (Jvm.Cond.selects "VisitGrammar$Tree" y_Z_canBeChild y_Z_canBeChild) ∈ WS := WSi_3 (List.mem_of_getElem? (i := 57) rfl)
theorem k_238 : (Jvm.Cond.code y_Z_adopt prog_7_method_8_code (4 : Nat) (Option.none : Option Jvm.ClassFile.FieldType)) ∈ WS := WSi_3 (List.mem_of_getElem? (i := 58) rfl)
theorem k_239 : (Jvm.Cond.code y_Z_grow prog_7_method_7_code (7 : Nat) (Option.some Jvm.ClassFile.FieldType.int)) ∈ WS := WSi_3 (List.mem_of_getElem? (i := 59) rfl)
theorem k_240 : (Jvm.Cond.fieldLink "VisitGrammar$Tree" (15 : Nat) "VisitGrammar$Tree" "tokens" "[I") ∈ WS := WSi_4 (List.mem_of_getElem? (i := 0) rfl)
theorem k_241 : (Jvm.Cond.methodLink "VisitGrammar$Tree" (53 : Nat) y_Z_adopt) ∈ WS := WSi_4 (List.mem_of_getElem? (i := 1) rfl)
theorem k_242 : (Jvm.Cond.instanceMethod y_Z_adopt) ∈ WS := WSi_4 (List.mem_of_getElem? (i := 2) rfl)
theorem k_243 : (Jvm.Cond.selects "VisitGrammar$Tree" y_Z_adopt y_Z_adopt) ∈ WS := WSi_4 (List.mem_of_getElem? (i := 3) rfl)
theorem k_244 : (Jvm.Cond.code y_Z_clear prog_7_method_9_code (1 : Nat) (Option.none : Option Jvm.ClassFile.FieldType)) ∈ WS := WSi_4 (List.mem_of_getElem? (i := 4) rfl)
theorem k_245 : (Jvm.Cond.code y_U_begin prog_8_method_2_code (2 : Nat) (Option.none : Option Jvm.ClassFile.FieldType)) ∈ WS := WSi_4 (List.mem_of_getElem? (i := 5) rfl)
theorem k_246 : (Jvm.Cond.fieldLink "VisitGrammar$Walk" (18 : Nat) "VisitGrammar$Walk" "knownBits" "[I") ∈ WS := WSi_4 (List.mem_of_getElem? (i := 6) rfl)
theorem k_247 : (Jvm.Cond.methodLink "VisitGrammar$Walk" (36 : Nat) y_R_fill) ∈ WS := WSi_4 (List.mem_of_getElem? (i := 7) rfl)
theorem k_248 : (Jvm.Cond.fieldLink "VisitGrammar$Walk" (21 : Nat) "VisitGrammar$Walk" "instructionsDone" "[I") ∈ WS := WSi_4 (List.mem_of_getElem? (i := 8) rfl)
theorem k_249 : (Jvm.Cond.fieldLink "VisitGrammar$Walk" (9 : Nat) "VisitGrammar$Walk" "given" "[I") ∈ WS := WSi_4 (List.mem_of_getElem? (i := 9) rfl)
theorem k_250 : (Jvm.Cond.fieldLink "VisitGrammar$Walk" (15 : Nat) "VisitGrammar$Walk" "values" "[I") ∈ WS := WSi_4 (List.mem_of_getElem? (i := 10) rfl)
theorem k_251 : (Jvm.Cond.methodLink "VisitGrammar$Walk" (42 : Nat) ({ cls := "java/lang/System", name := "arraycopy", desc := "(Ljava/lang/Object;ILjava/lang/Object;II)V" } : Jvm.MethodName)) ∈ WS := WSi_4 (List.mem_of_getElem? (i := 11) rfl)
theorem k_252 : (Jvm.Cond.native ({ cls := "java/lang/System", name := "arraycopy", desc := "(Ljava/lang/Object;ILjava/lang/Object;II)V" } : Jvm.MethodName)) ∈ WS := WSi_4 (List.mem_of_getElem? (i := 12) rfl)
theorem k_253 : (Jvm.Cond.static ({ cls := "java/lang/System", name := "arraycopy", desc := "(Ljava/lang/Object;ILjava/lang/Object;II)V" } : Jvm.MethodName)) ∈ WS := WSi_4 (List.mem_of_getElem? (i := 13) rfl)
theorem k_254 : (Jvm.Cond.initialized "java/lang/System") ∈ WS := WSi_4 (List.mem_of_getElem? (i := 14) rfl)
theorem k_255 : (Jvm.Cond.fieldLink "VisitGrammar$Walk" (24 : Nat) "VisitGrammar$Walk" "grammar" "LVisitGrammar$Grammar;") ∈ WS := WSi_4 (List.mem_of_getElem? (i := 15) rfl)
theorem k_256 : (Jvm.Cond.fieldLinkNest "VisitGrammar$Walk" (48 : Nat) "VisitGrammar$Grammar" "inheritedBits" "[I" "VisitGrammar") ∈ WS := WSi_4 (List.mem_of_getElem? (i := 16) rfl)
theorem k_257 : (Jvm.Cond.fieldLink "VisitGrammar$Walk" (32 : Nat) "VisitGrammar$Walk" "tree" "LVisitGrammar$Tree;") ∈ WS := WSi_4 (List.mem_of_getElem? (i := 17) rfl)
theorem k_258 : (Jvm.Cond.methodLink "VisitGrammar$Walk" (53 : Nat) y_Z_symbolOf) ∈ WS := WSi_4 (List.mem_of_getElem? (i := 18) rfl)
theorem k_259 : (Jvm.Cond.fieldLink "VisitGrammar$Walk" (59 : Nat) "VisitGrammar$Walk" "root" "I") ∈ WS := WSi_4 (List.mem_of_getElem? (i := 19) rfl)
theorem k_260 : (Jvm.Cond.fieldLink "VisitGrammar$Walk" (63 : Nat) "VisitGrammar$Walk" "nodeAtHand" "I") ∈ WS := WSi_4 (List.mem_of_getElem? (i := 20) rfl)
theorem k_261 : (Jvm.Cond.fieldLink "VisitGrammar$Walk" (66 : Nat) "VisitGrammar$Walk" "state" "I") ∈ WS := WSi_4 (List.mem_of_getElem? (i := 21) rfl)
theorem k_262 : (Jvm.Cond.code y_U_end prog_8_method_3_code (1 : Nat) (Option.none : Option Jvm.ClassFile.FieldType)) ∈ WS := WSi_4 (List.mem_of_getElem? (i := 22) rfl)
theorem k_263 : (Jvm.Cond.code y_U_isKnown prog_8_method_4_code (3 : Nat) (Option.some Jvm.ClassFile.FieldType.boolean)) ∈ WS := WSi_4 (List.mem_of_getElem? (i := 23) rfl)
theorem k_264 : (Jvm.Cond.methodLinkNest "VisitGrammar$Walk" (69 : Nat) y_V_holds "VisitGrammar") ∈ WS := WSi_4 (List.mem_of_getElem? (i := 24) rfl)
theorem k_265 : (Jvm.Cond.code y_U_leaveNode prog_8_method_7_code (2 : Nat) (Option.none : Option Jvm.ClassFile.FieldType)) ∈ WS := WSi_4 (List.mem_of_getElem? (i := 25) rfl)
theorem k_266 : (Jvm.Cond.fieldLink "VisitGrammar$Walk" (28 : Nat) "VisitGrammar$Walk" "sequences" "LVisitGrammar$Sequences;") ∈ WS := WSi_4 (List.mem_of_getElem? (i := 26) rfl)
theorem k_267 : (Jvm.Cond.fieldLinkNest "VisitGrammar$Walk" (102 : Nat) "VisitGrammar$Sequences" "lengths" "[I" "VisitGrammar") ∈ WS := WSi_4 (List.mem_of_getElem? (i := 27) rfl)
theorem k_268 : (Jvm.Cond.fieldLinkNest "VisitGrammar$Walk" (99 : Nat) "VisitGrammar$Tree" "parents" "[I" "VisitGrammar") ∈ WS := WSi_4 (List.mem_of_getElem? (i := 28) rfl)
theorem k_269 : (Jvm.Cond.code y_U_setOccurrence prog_8_method_8_code (5 : Nat) (Option.none : Option Jvm.ClassFile.FieldType)) ∈ WS := WSi_4 (List.mem_of_getElem? (i := 29) rfl)
theorem k_270 : (Jvm.Cond.methodLink "VisitGrammar$Walk" (89 : Nat) y_Z_nodeAt) ∈ WS := WSi_4 (List.mem_of_getElem? (i := 30) rfl)
theorem k_271 : (Jvm.Cond.instanceMethod y_Z_nodeAt) ∈ WS := WSi_4 (List.mem_of_getElem? (i := 31) rfl)
theorem k_272 : (Jvm.Cond.selects "VisitGrammar$Tree" y_Z_nodeAt y_Z_nodeAt) ∈ WS := WSi_4 (List.mem_of_getElem? (i := 32) rfl)
theorem k_273 : (Jvm.Cond.code y_U_valueOf prog_8_method_10_code (3 : Nat) (Option.some Jvm.ClassFile.FieldType.int)) ∈ WS := WSi_4 (List.mem_of_getElem? (i := 33) rfl)
theorem k_274 : (Jvm.Cond.code y_U_result prog_8_method_9_code (4 : Nat) (Option.some Jvm.ClassFile.FieldType.int)) ∈ WS := WSi_4 (List.mem_of_getElem? (i := 34) rfl)
theorem k_275 : (Jvm.Cond.fieldLinkNest "VisitGrammar$Walk" (105 : Nat) "VisitGrammar$Grammar" "firsts" "[I" "VisitGrammar") ∈ WS := WSi_4 (List.mem_of_getElem? (i := 35) rfl)
theorem k_276 : (Jvm.Cond.fieldLinkNest "VisitGrammar$Walk" (108 : Nat) "VisitGrammar$Grammar" "seconds" "[I" "VisitGrammar") ∈ WS := WSi_4 (List.mem_of_getElem? (i := 36) rfl)
theorem k_277 : (Jvm.Cond.fieldLinkNest "VisitGrammar$Walk" (111 : Nat) "VisitGrammar$Grammar" "forms" "[I" "VisitGrammar") ∈ WS := WSi_4 (List.mem_of_getElem? (i := 37) rfl)
theorem k_278 : (Jvm.Cond.fieldLinkNest "VisitGrammar$Walk" (114 : Nat) "VisitGrammar$Tree" "tokens" "[I" "VisitGrammar") ∈ WS := WSi_4 (List.mem_of_getElem? (i := 38) rfl)
theorem k_279 : (Jvm.Cond.initialized "VisitGrammar$Walk") ∈ WS := WSi_4 (List.mem_of_getElem? (i := 39) rfl)
theorem k_280 : (Jvm.Cond.methodLink "VisitGrammar$Walk" (117 : Nat) y_U_valueOf) ∈ WS := WSi_4 (List.mem_of_getElem? (i := 40) rfl)
theorem k_281 : (Jvm.Cond.instanceMethod y_U_valueOf) ∈ WS := WSi_4 (List.mem_of_getElem? (i := 41) rfl)
theorem k_282 : (Jvm.Cond.selects "VisitGrammar$Walk" y_U_valueOf y_U_valueOf) ∈ WS := WSi_4 (List.mem_of_getElem? (i := 42) rfl)
theorem k_283 : (Jvm.Cond.methodLink "VisitGrammar$Walk" (120 : Nat) ({ cls := "java/lang/Math", name := "max", desc := "(II)I" } : Jvm.MethodName)) ∈ WS := WSi_4 (List.mem_of_getElem? (i := 43) rfl)
theorem k_284 : (Jvm.Cond.code y_U_step prog_8_method_6_code (3 : Nat) (Option.none : Option Jvm.ClassFile.FieldType)) ∈ WS := WSi_4 (List.mem_of_getElem? (i := 44) rfl)
theorem k_285 : (Jvm.Cond.fieldLinkNest "VisitGrammar$Walk" (76 : Nat) "VisitGrammar$Tree" "productions" "[I" "VisitGrammar") ∈ WS := WSi_4 (List.mem_of_getElem? (i := 45) rfl)
theorem k_286 : (Jvm.Cond.methodLink "VisitGrammar$Walk" (79 : Nat) y_Q_at) ∈ WS := WSi_4 (List.mem_of_getElem? (i := 46) rfl)
theorem k_287 : (Jvm.Cond.instanceMethod y_Q_at) ∈ WS := WSi_4 (List.mem_of_getElem? (i := 47) rfl)
theorem k_288 : (Jvm.Cond.selects "VisitGrammar$Sequences" y_Q_at y_Q_at) ∈ WS := WSi_4 (List.mem_of_getElem? (i := 48) rfl)
theorem k_289 : (Jvm.Cond.methodLink "VisitGrammar$Walk" (92 : Nat) y_U_result) ∈ WS := WSi_4 (List.mem_of_getElem? (i := 49) rfl)
theorem k_290 : (Jvm.Cond.instanceMethod y_U_result) ∈ WS := WSi_4 (List.mem_of_getElem? (i := 50) rfl)
theorem k_291 : (Jvm.Cond.selects "VisitGrammar$Walk" y_U_result y_U_result) ∈ WS := WSi_4 (List.mem_of_getElem? (i := 51) rfl)
theorem k_292 : (Jvm.Cond.methodLink "VisitGrammar$Walk" (95 : Nat) y_U_setOccurrence) ∈ WS := WSi_4 (List.mem_of_getElem? (i := 52) rfl)
theorem k_293 : (Jvm.Cond.instanceMethod y_U_setOccurrence) ∈ WS := WSi_4 (List.mem_of_getElem? (i := 53) rfl)
theorem k_294 : (Jvm.Cond.selects "VisitGrammar$Walk" y_U_setOccurrence y_U_setOccurrence) ∈ WS := WSi_4 (List.mem_of_getElem? (i := 54) rfl)
theorem k_295 : (Jvm.Cond.methodLink "VisitGrammar$Walk" (85 : Nat) y_U_leaveNode) ∈ WS := WSi_4 (List.mem_of_getElem? (i := 55) rfl)
theorem k_296 : (Jvm.Cond.instanceMethod y_U_leaveNode) ∈ WS := WSi_4 (List.mem_of_getElem? (i := 56) rfl)
theorem k_297 : (Jvm.Cond.selects "VisitGrammar$Walk" y_U_leaveNode y_U_leaveNode) ∈ WS := WSi_4 (List.mem_of_getElem? (i := 57) rfl)
theorem k_298 : (Jvm.Cond.code y_U_advance prog_8_method_5_code (3 : Nat) (Option.some Jvm.ClassFile.FieldType.int)) ∈ WS := WSi_4 (List.mem_of_getElem? (i := 58) rfl)
theorem k_299 : (Jvm.Cond.methodLink "VisitGrammar$Walk" (73 : Nat) y_U_step) ∈ WS := WSi_4 (List.mem_of_getElem? (i := 59) rfl)
theorem k_300 : (Jvm.Cond.instanceMethod y_U_step) ∈ WS := WSi_5 (List.mem_of_getElem? (i := 0) rfl)
theorem k_301 : (Jvm.Cond.selects "VisitGrammar$Walk" y_U_step y_U_step) ∈ WS := WSi_5 (List.mem_of_getElem? (i := 1) rfl)
theorem k_302 : (Jvm.Cond.code y_A_forgetFault prog_2_method_3_code (1 : Nat) (Option.none : Option Jvm.ClassFile.FieldType)) ∈ WS := WSi_5 (List.mem_of_getElem? (i := 2) rfl)
theorem k_303 : (Jvm.Cond.fieldLink "VisitGrammar$Analysis" (74 : Nat) "VisitGrammar$Analysis" "faultKind" "I") ∈ WS := WSi_5 (List.mem_of_getElem? (i := 3) rfl)
theorem k_304 : (Jvm.Cond.fieldLink "VisitGrammar$Analysis" (9 : Nat) "VisitGrammar$Analysis" "faultProduction" "I") ∈ WS := WSi_5 (List.mem_of_getElem? (i := 4) rfl)
theorem k_305 : (Jvm.Cond.fieldLink "VisitGrammar$Analysis" (15 : Nat) "VisitGrammar$Analysis" "faultOccurrence" "I") ∈ WS := WSi_5 (List.mem_of_getElem? (i := 5) rfl)
theorem k_306 : (Jvm.Cond.code y_A_noteFault prog_2_method_8_code (4 : Nat) (Option.none : Option Jvm.ClassFile.FieldType)) ∈ WS := WSi_5 (List.mem_of_getElem? (i := 6) rfl)
theorem k_307 : (Jvm.Cond.code y_A_isComplete prog_2_method_4_code (3 : Nat) (Option.some Jvm.ClassFile.FieldType.boolean)) ∈ WS := WSi_5 (List.mem_of_getElem? (i := 7) rfl)
theorem k_308 : (Jvm.Cond.fieldLink "VisitGrammar$Analysis" (18 : Nat) "VisitGrammar$Analysis" "grammar" "LVisitGrammar$Grammar;") ∈ WS := WSi_5 (List.mem_of_getElem? (i := 8) rfl)
theorem k_309 : (Jvm.Cond.fieldLinkNest "VisitGrammar$Analysis" (52 : Nat) "VisitGrammar$Grammar" "productionCount" "I" "VisitGrammar") ∈ WS := WSi_5 (List.mem_of_getElem? (i := 9) rfl)
theorem k_310 : (Jvm.Cond.methodLink "VisitGrammar$Analysis" (77 : Nat) y_G_leastWithoutRule) ∈ WS := WSi_5 (List.mem_of_getElem? (i := 10) rfl)
theorem k_311 : (Jvm.Cond.instanceMethod y_G_leastWithoutRule) ∈ WS := WSi_5 (List.mem_of_getElem? (i := 11) rfl)
theorem k_312 : (Jvm.Cond.selects "VisitGrammar$Grammar" y_G_leastWithoutRule y_G_leastWithoutRule) ∈ WS := WSi_5 (List.mem_of_getElem? (i := 12) rfl)
theorem k_313 : (Jvm.Cond.initialized "VisitGrammar$Analysis") ∈ WS := WSi_5 (List.mem_of_getElem? (i := 13) rfl)
theorem k_314 : (Jvm.Cond.methodLink "VisitGrammar$Analysis" (81 : Nat) y_A_noteFault) ∈ WS := WSi_5 (List.mem_of_getElem? (i := 14) rfl)
theorem k_315 : (Jvm.Cond.instanceMethod y_A_noteFault) ∈ WS := WSi_5 (List.mem_of_getElem? (i := 15) rfl)
theorem k_316 : (Jvm.Cond.selects "VisitGrammar$Analysis" y_A_noteFault y_A_noteFault) ∈ WS := WSi_5 (List.mem_of_getElem? (i := 16) rfl)
theorem k_317 : (Jvm.Cond.code y_A_noneLeadsToItself prog_2_method_7_code (4 : Nat) (Option.some Jvm.ClassFile.FieldType.boolean)) ∈ WS := WSi_5 (List.mem_of_getElem? (i := 17) rfl)
theorem k_318 : (Jvm.Cond.fieldLink "VisitGrammar$Analysis" (27 : Nat) "VisitGrammar$Analysis" "leads" "LVisitGrammar$Leads;") ∈ WS := WSi_5 (List.mem_of_getElem? (i := 18) rfl)
theorem k_319 : (Jvm.Cond.methodLink "VisitGrammar$Analysis" (101 : Nat) y_E_leastLeadingToItself) ∈ WS := WSi_5 (List.mem_of_getElem? (i := 19) rfl)
theorem k_320 : (Jvm.Cond.instanceMethod y_E_leastLeadingToItself) ∈ WS := WSi_5 (List.mem_of_getElem? (i := 20) rfl)
theorem k_321 : (Jvm.Cond.selects "VisitGrammar$Leads" y_E_leastLeadingToItself y_E_leastLeadingToItself) ∈ WS := WSi_5 (List.mem_of_getElem? (i := 21) rfl)
theorem k_322 : (Jvm.Cond.code y_A_isWithoutCircle prog_2_method_5_code (1 : Nat) (Option.some Jvm.ClassFile.FieldType.boolean)) ∈ WS := WSi_5 (List.mem_of_getElem? (i := 22) rfl)
theorem k_323 : (Jvm.Cond.methodLink "VisitGrammar$Analysis" (85 : Nat) y_E_spread) ∈ WS := WSi_5 (List.mem_of_getElem? (i := 23) rfl)
theorem k_324 : (Jvm.Cond.instanceMethod y_E_spread) ∈ WS := WSi_5 (List.mem_of_getElem? (i := 24) rfl)
theorem k_325 : (Jvm.Cond.selects "VisitGrammar$Leads" y_E_spread y_E_spread) ∈ WS := WSi_5 (List.mem_of_getElem? (i := 25) rfl)
theorem k_326 : (Jvm.Cond.methodLink "VisitGrammar$Analysis" (88 : Nat) y_A_noneLeadsToItself) ∈ WS := WSi_5 (List.mem_of_getElem? (i := 26) rfl)
theorem k_327 : (Jvm.Cond.instanceMethod y_A_noneLeadsToItself) ∈ WS := WSi_5 (List.mem_of_getElem? (i := 27) rfl)
theorem k_328 : (Jvm.Cond.selects "VisitGrammar$Analysis" y_A_noneLeadsToItself y_A_noneLeadsToItself) ∈ WS := WSi_5 (List.mem_of_getElem? (i := 28) rfl)
theorem k_329 : (Jvm.Cond.code y_A_isOrdered prog_2_method_6_code (1 : Nat) (Option.some Jvm.ClassFile.FieldType.boolean)) ∈ WS := WSi_5 (List.mem_of_getElem? (i := 29) rfl)
theorem k_330 : (Jvm.Cond.fieldLink "VisitGrammar$Analysis" (36 : Nat) "VisitGrammar$Analysis" "ranking" "LVisitGrammar$Ranking;") ∈ WS := WSi_5 (List.mem_of_getElem? (i := 30) rfl)
theorem k_331 : (Jvm.Cond.methodLink "VisitGrammar$Analysis" (92 : Nat) y_K_make) ∈ WS := WSi_5 (List.mem_of_getElem? (i := 31) rfl)
theorem k_332 : (Jvm.Cond.instanceMethod y_K_make) ∈ WS := WSi_5 (List.mem_of_getElem? (i := 32) rfl)
theorem k_333 : (Jvm.Cond.selects "VisitGrammar$Ranking" y_K_make y_K_make) ∈ WS := WSi_5 (List.mem_of_getElem? (i := 33) rfl)
theorem k_334 : (Jvm.Cond.methodLink "VisitGrammar$Analysis" (95 : Nat) y_K_addToLeads) ∈ WS := WSi_5 (List.mem_of_getElem? (i := 34) rfl)
theorem k_335 : (Jvm.Cond.instanceMethod y_K_addToLeads) ∈ WS := WSi_5 (List.mem_of_getElem? (i := 35) rfl)
theorem k_336 : (Jvm.Cond.selects "VisitGrammar$Ranking" y_K_addToLeads y_K_addToLeads) ∈ WS := WSi_5 (List.mem_of_getElem? (i := 36) rfl)
theorem k_337 : (Jvm.Cond.methodLink "VisitGrammar$Analysis" (98 : Nat) y_E_takeOrder) ∈ WS := WSi_5 (List.mem_of_getElem? (i := 37) rfl)
theorem k_338 : (Jvm.Cond.instanceMethod y_E_takeOrder) ∈ WS := WSi_5 (List.mem_of_getElem? (i := 38) rfl)
theorem k_339 : (Jvm.Cond.selects "VisitGrammar$Leads" y_E_takeOrder y_E_takeOrder) ∈ WS := WSi_5 (List.mem_of_getElem? (i := 39) rfl)
theorem k_340 : (Jvm.Cond.code y_A_make prog_2_method_2_code (1 : Nat) (Option.none : Option Jvm.ClassFile.FieldType)) ∈ WS := WSi_5 (List.mem_of_getElem? (i := 40) rfl)
theorem k_341 : (Jvm.Cond.methodLink "VisitGrammar$Analysis" (49 : Nat) y_A_forgetFault) ∈ WS := WSi_5 (List.mem_of_getElem? (i := 41) rfl)
theorem k_342 : (Jvm.Cond.instanceMethod y_A_forgetFault) ∈ WS := WSi_5 (List.mem_of_getElem? (i := 42) rfl)
theorem k_343 : (Jvm.Cond.selects "VisitGrammar$Analysis" y_A_forgetFault y_A_forgetFault) ∈ WS := WSi_5 (List.mem_of_getElem? (i := 43) rfl)
theorem k_344 : (Jvm.Cond.fieldLink "VisitGrammar$Analysis" (67 : Nat) "VisitGrammar$Analysis" "present" "Z") ∈ WS := WSi_5 (List.mem_of_getElem? (i := 44) rfl)
theorem k_345 : (Jvm.Cond.fieldLink "VisitGrammar$Analysis" (45 : Nat) "VisitGrammar$Analysis" "sequences" "LVisitGrammar$Sequences;") ∈ WS := WSi_5 (List.mem_of_getElem? (i := 45) rfl)
theorem k_346 : (Jvm.Cond.methodLink "VisitGrammar$Analysis" (71 : Nat) y_Q_write) ∈ WS := WSi_5 (List.mem_of_getElem? (i := 46) rfl)
theorem k_347 : (Jvm.Cond.instanceMethod y_Q_write) ∈ WS := WSi_5 (List.mem_of_getElem? (i := 47) rfl)
theorem k_348 : (Jvm.Cond.selects "VisitGrammar$Sequences" y_Q_write y_Q_write) ∈ WS := WSi_5 (List.mem_of_getElem? (i := 48) rfl)
theorem k_349 : (Jvm.Cond.methodLink "VisitGrammar$Analysis" (57 : Nat) y_A_isComplete) ∈ WS := WSi_5 (List.mem_of_getElem? (i := 49) rfl)
theorem k_350 : (Jvm.Cond.instanceMethod y_A_isComplete) ∈ WS := WSi_5 (List.mem_of_getElem? (i := 50) rfl)
theorem k_351 : (Jvm.Cond.selects "VisitGrammar$Analysis" y_A_isComplete y_A_isComplete) ∈ WS := WSi_5 (List.mem_of_getElem? (i := 51) rfl)
theorem k_352 : (Jvm.Cond.methodLink "VisitGrammar$Analysis" (61 : Nat) y_A_isWithoutCircle) ∈ WS := WSi_5 (List.mem_of_getElem? (i := 52) rfl)
theorem k_353 : (Jvm.Cond.instanceMethod y_A_isWithoutCircle) ∈ WS := WSi_5 (List.mem_of_getElem? (i := 53) rfl)
theorem k_354 : (Jvm.Cond.selects "VisitGrammar$Analysis" y_A_isWithoutCircle y_A_isWithoutCircle) ∈ WS := WSi_5 (List.mem_of_getElem? (i := 54) rfl)
theorem k_355 : (Jvm.Cond.methodLink "VisitGrammar$Analysis" (64 : Nat) y_A_isOrdered) ∈ WS := WSi_5 (List.mem_of_getElem? (i := 55) rfl)
theorem k_356 : (Jvm.Cond.instanceMethod y_A_isOrdered) ∈ WS := WSi_5 (List.mem_of_getElem? (i := 56) rfl)
theorem k_357 : (Jvm.Cond.selects "VisitGrammar$Analysis" y_A_isOrdered y_A_isOrdered) ∈ WS := WSi_5 (List.mem_of_getElem? (i := 57) rfl)
theorem k_358 : (Jvm.Cond.code y_M_thrown prog_10_method_2_code (1 : Nat) (Option.some Jvm.ClassFile.FieldType.int)) ∈ WS := WSi_5 (List.mem_of_getElem? (i := 58) rfl)
theorem k_359 : (Jvm.Cond.fieldLink "VisitGrammarModel" (99 : Nat) "VisitGrammarModel" "code" "I") ∈ WS := WSi_5 (List.mem_of_getElem? (i := 59) rfl)
theorem k_360 : (Jvm.Cond.code y_M_fail prog_10_method_3_code (2 : Nat) (Option.some Jvm.ClassFile.FieldType.int)) ∈ WS := WSi_6 (List.mem_of_getElem? (i := 0) rfl)
theorem k_361 : (Jvm.Cond.code y_M_endRun prog_10_method_4_code (2 : Nat) (Option.none : Option Jvm.ClassFile.FieldType)) ∈ WS := WSi_6 (List.mem_of_getElem? (i := 1) rfl)
theorem k_362 : (Jvm.Cond.fieldLink "VisitGrammarModel" (93 : Nat) "VisitGrammarModel" "root" "I") ∈ WS := WSi_6 (List.mem_of_getElem? (i := 2) rfl)
theorem k_363 : (Jvm.Cond.fieldLink "VisitGrammarModel" (96 : Nat) "VisitGrammarModel" "hand" "I") ∈ WS := WSi_6 (List.mem_of_getElem? (i := 3) rfl)
theorem k_364 : (Jvm.Cond.fieldLink "VisitGrammarModel" (84 : Nat) "VisitGrammarModel" "known" "[Z") ∈ WS := WSi_6 (List.mem_of_getElem? (i := 4) rfl)
theorem k_365 : (Jvm.Cond.code y_M_forget prog_10_method_5_code (1 : Nat) (Option.none : Option Jvm.ClassFile.FieldType)) ∈ WS := WSi_6 (List.mem_of_getElem? (i := 5) rfl)
theorem k_366 : (Jvm.Cond.fieldLink "VisitGrammarModel" (102 : Nat) "VisitGrammarModel" "analysed" "Z") ∈ WS := WSi_6 (List.mem_of_getElem? (i := 6) rfl)
theorem k_367 : (Jvm.Cond.initialized "VisitGrammarModel") ∈ WS := WSi_6 (List.mem_of_getElem? (i := 7) rfl)
theorem k_368 : (Jvm.Cond.methodLink "VisitGrammarModel" (106 : Nat) y_M_endRun) ∈ WS := WSi_6 (List.mem_of_getElem? (i := 8) rfl)
theorem k_369 : (Jvm.Cond.instanceMethod y_M_endRun) ∈ WS := WSi_6 (List.mem_of_getElem? (i := 9) rfl)
theorem k_370 : (Jvm.Cond.selects "VisitGrammarModel" y_M_endRun y_M_endRun) ∈ WS := WSi_6 (List.mem_of_getElem? (i := 10) rfl)
theorem k_371 : (Jvm.Cond.code y_M_symbol prog_10_method_6_code (4 : Nat) (Option.some Jvm.ClassFile.FieldType.int)) ∈ WS := WSi_6 (List.mem_of_getElem? (i := 11) rfl)
theorem k_372 : (Jvm.Cond.fieldLink "VisitGrammarModel" (7 : Nat) "VisitGrammarModel" "attributes" "[I") ∈ WS := WSi_6 (List.mem_of_getElem? (i := 12) rfl)
theorem k_373 : (Jvm.Cond.fieldLink "VisitGrammarModel" (109 : Nat) "VisitGrammarModel" "symbols" "I") ∈ WS := WSi_6 (List.mem_of_getElem? (i := 13) rfl)
theorem k_374 : (Jvm.Cond.methodLink "VisitGrammarModel" (112 : Nat) y_M_forget) ∈ WS := WSi_6 (List.mem_of_getElem? (i := 14) rfl)
theorem k_375 : (Jvm.Cond.instanceMethod y_M_forget) ∈ WS := WSi_6 (List.mem_of_getElem? (i := 15) rfl)
theorem k_376 : (Jvm.Cond.selects "VisitGrammarModel" y_M_forget y_M_forget) ∈ WS := WSi_6 (List.mem_of_getElem? (i := 16) rfl)
theorem k_377 : (Jvm.Cond.fieldLink "VisitGrammarModel" (13 : Nat) "VisitGrammarModel" "inherits" "[Z") ∈ WS := WSi_6 (List.mem_of_getElem? (i := 17) rfl)
theorem k_378 : (Jvm.Cond.code y_M_isSymbol prog_10_method_7_code (2 : Nat) (Option.some Jvm.ClassFile.FieldType.boolean)) ∈ WS := WSi_6 (List.mem_of_getElem? (i := 18) rfl)
theorem k_379 : (Jvm.Cond.code y_M_production prog_10_method_8_code (9 : Nat) (Option.some Jvm.ClassFile.FieldType.int)) ∈ WS := WSi_6 (List.mem_of_getElem? (i := 19) rfl)
theorem k_380 : (Jvm.Cond.methodLink "VisitGrammarModel" (115 : Nat) y_M_isSymbol) ∈ WS := WSi_6 (List.mem_of_getElem? (i := 20) rfl)
theorem k_381 : (Jvm.Cond.instanceMethod y_M_isSymbol) ∈ WS := WSi_6 (List.mem_of_getElem? (i := 21) rfl)
theorem k_382 : (Jvm.Cond.selects "VisitGrammarModel" y_M_isSymbol y_M_isSymbol) ∈ WS := WSi_6 (List.mem_of_getElem? (i := 22) rfl)
theorem k_383 : (Jvm.Cond.fieldLink "VisitGrammarModel" (119 : Nat) "VisitGrammarModel" "productions" "I") ∈ WS := WSi_6 (List.mem_of_getElem? (i := 23) rfl)
theorem k_384 : (Jvm.Cond.fieldLink "VisitGrammarModel" (20 : Nat) "VisitGrammarModel" "symbolAt" "[I") ∈ WS := WSi_6 (List.mem_of_getElem? (i := 24) rfl)
theorem k_385 : (Jvm.Cond.fieldLink "VisitGrammarModel" (17 : Nat) "VisitGrammarModel" "positions" "[I") ∈ WS := WSi_6 (List.mem_of_getElem? (i := 25) rfl)
theorem k_386 : (Jvm.Cond.code y_M_isOccurrence prog_10_method_9_code (3 : Nat) (Option.some Jvm.ClassFile.FieldType.boolean)) ∈ WS := WSi_6 (List.mem_of_getElem? (i := 26) rfl)
theorem k_387 : (Jvm.Cond.code y_M_attributeOf prog_10_method_10_code (3 : Nat) (Option.some Jvm.ClassFile.FieldType.int)) ∈ WS := WSi_6 (List.mem_of_getElem? (i := 27) rfl)
theorem k_388 : (Jvm.Cond.code y_M_isDefined prog_10_method_11_code (3 : Nat) (Option.some Jvm.ClassFile.FieldType.boolean)) ∈ WS := WSi_6 (List.mem_of_getElem? (i := 28) rfl)
theorem k_389 : (Jvm.Cond.methodLink "VisitGrammarModel" (122 : Nat) y_M_isOccurrence) ∈ WS := WSi_6 (List.mem_of_getElem? (i := 29) rfl)
theorem k_390 : (Jvm.Cond.instanceMethod y_M_isOccurrence) ∈ WS := WSi_6 (List.mem_of_getElem? (i := 30) rfl)
theorem k_391 : (Jvm.Cond.selects "VisitGrammarModel" y_M_isOccurrence y_M_isOccurrence) ∈ WS := WSi_6 (List.mem_of_getElem? (i := 31) rfl)
theorem k_392 : (Jvm.Cond.methodLink "VisitGrammarModel" (126 : Nat) y_M_attributeOf) ∈ WS := WSi_6 (List.mem_of_getElem? (i := 32) rfl)
theorem k_393 : (Jvm.Cond.instanceMethod y_M_attributeOf) ∈ WS := WSi_6 (List.mem_of_getElem? (i := 33) rfl)
theorem k_394 : (Jvm.Cond.selects "VisitGrammarModel" y_M_attributeOf y_M_attributeOf) ∈ WS := WSi_6 (List.mem_of_getElem? (i := 34) rfl)
theorem k_395 : (Jvm.Cond.code y_M_rule prog_10_method_13_code (7 : Nat) (Option.none : Option Jvm.ClassFile.FieldType)) ∈ WS := WSi_6 (List.mem_of_getElem? (i := 35) rfl)
theorem k_396 : (Jvm.Cond.methodLink "VisitGrammarModel" (130 : Nat) y_M_isDefined) ∈ WS := WSi_6 (List.mem_of_getElem? (i := 36) rfl)
theorem k_397 : (Jvm.Cond.instanceMethod y_M_isDefined) ∈ WS := WSi_6 (List.mem_of_getElem? (i := 37) rfl)
theorem k_398 : (Jvm.Cond.selects "VisitGrammarModel" y_M_isDefined y_M_isDefined) ∈ WS := WSi_6 (List.mem_of_getElem? (i := 38) rfl)
theorem k_399 : (Jvm.Cond.fieldLink "VisitGrammarModel" (23 : Nat) "VisitGrammarModel" "form" "[I") ∈ WS := WSi_6 (List.mem_of_getElem? (i := 39) rfl)
theorem k_400 : (Jvm.Cond.fieldLink "VisitGrammarModel" (26 : Nat) "VisitGrammarModel" "ruleX" "[I") ∈ WS := WSi_6 (List.mem_of_getElem? (i := 40) rfl)
theorem k_401 : (Jvm.Cond.fieldLink "VisitGrammarModel" (29 : Nat) "VisitGrammarModel" "ruleY" "[I") ∈ WS := WSi_6 (List.mem_of_getElem? (i := 41) rfl)
theorem k_402 : (Jvm.Cond.methodLink "VisitGrammarModel" (133 : Nat) y_M_needs) ∈ WS := WSi_6 (List.mem_of_getElem? (i := 42) rfl)
theorem k_403 : (Jvm.Cond.static y_M_needs) ∈ WS := WSi_6 (List.mem_of_getElem? (i := 43) rfl)
theorem k_404 : (Jvm.Cond.code y_M_isUsed prog_10_method_14_code (5 : Nat) (Option.some Jvm.ClassFile.FieldType.boolean)) ∈ WS := WSi_6 (List.mem_of_getElem? (i := 44) rfl)
theorem k_405 : (Jvm.Cond.code y_M_blame prog_10_method_16_code (4 : Nat) (Option.some Jvm.ClassFile.FieldType.boolean)) ∈ WS := WSi_6 (List.mem_of_getElem? (i := 45) rfl)
theorem k_406 : (Jvm.Cond.fieldLink "VisitGrammarModel" (141 : Nat) "VisitGrammarModel" "faultKind" "I") ∈ WS := WSi_6 (List.mem_of_getElem? (i := 46) rfl)
theorem k_407 : (Jvm.Cond.fieldLink "VisitGrammarModel" (32 : Nat) "VisitGrammarModel" "faultProduction" "I") ∈ WS := WSi_6 (List.mem_of_getElem? (i := 47) rfl)
theorem k_408 : (Jvm.Cond.fieldLink "VisitGrammarModel" (36 : Nat) "VisitGrammarModel" "faultOccurrence" "I") ∈ WS := WSi_6 (List.mem_of_getElem? (i := 48) rfl)
theorem k_409 : (Jvm.Cond.code y_M_lacks prog_10_method_15_code (3 : Nat) (Option.some Jvm.ClassFile.FieldType.boolean)) ∈ WS := WSi_6 (List.mem_of_getElem? (i := 49) rfl)
theorem k_410 : (Jvm.Cond.methodLink "VisitGrammarModel" (137 : Nat) y_M_blame) ∈ WS := WSi_6 (List.mem_of_getElem? (i := 50) rfl)
theorem k_411 : (Jvm.Cond.instanceMethod y_M_blame) ∈ WS := WSi_6 (List.mem_of_getElem? (i := 51) rfl)
theorem k_412 : (Jvm.Cond.selects "VisitGrammarModel" y_M_blame y_M_blame) ∈ WS := WSi_6 (List.mem_of_getElem? (i := 52) rfl)
theorem k_413 : (Jvm.Cond.code y_M_begin prog_10_method_17_code (5 : Nat) (Option.none : Option Jvm.ClassFile.FieldType)) ∈ WS := WSi_6 (List.mem_of_getElem? (i := 53) rfl)
theorem k_414 : (Jvm.Cond.fieldLink "VisitGrammarModel" (39 : Nat) "VisitGrammarModel" "uses" "[Z") ∈ WS := WSi_6 (List.mem_of_getElem? (i := 54) rfl)
theorem k_415 : (Jvm.Cond.fieldLink "VisitGrammarModel" (42 : Nat) "VisitGrammarModel" "leads" "[Z") ∈ WS := WSi_6 (List.mem_of_getElem? (i := 55) rfl)
theorem k_416 : (Jvm.Cond.methodLink "VisitGrammarModel" (144 : Nat) y_M_isUsed) ∈ WS := WSi_6 (List.mem_of_getElem? (i := 56) rfl)
theorem k_417 : (Jvm.Cond.instanceMethod y_M_isUsed) ∈ WS := WSi_6 (List.mem_of_getElem? (i := 57) rfl)
theorem k_418 : (Jvm.Cond.selects "VisitGrammarModel" y_M_isUsed y_M_isUsed) ∈ WS := WSi_6 (List.mem_of_getElem? (i := 58) rfl)
theorem k_419 : (Jvm.Cond.fieldLink "VisitGrammarModel" (45 : Nat) "VisitGrammarModel" "symbolLeads" "[Z") ∈ WS := WSi_6 (List.mem_of_getElem? (i := 59) rfl)
theorem k_420 : (Jvm.Cond.code y_M_learn prog_10_method_18_code (8 : Nat) (Option.some Jvm.ClassFile.FieldType.boolean)) ∈ WS := WSi_7 (List.mem_of_getElem? (i := 0) rfl)
theorem k_421 : (Jvm.Cond.code y_M_circles prog_10_method_19_code (4 : Nat) (Option.some Jvm.ClassFile.FieldType.boolean)) ∈ WS := WSi_7 (List.mem_of_getElem? (i := 1) rfl)
theorem k_422 : (Jvm.Cond.methodLink "VisitGrammarModel" (147 : Nat) y_M_learn) ∈ WS := WSi_7 (List.mem_of_getElem? (i := 2) rfl)
theorem k_423 : (Jvm.Cond.instanceMethod y_M_learn) ∈ WS := WSi_7 (List.mem_of_getElem? (i := 3) rfl)
theorem k_424 : (Jvm.Cond.selects "VisitGrammarModel" y_M_learn y_M_learn) ∈ WS := WSi_7 (List.mem_of_getElem? (i := 4) rfl)
theorem k_425 : (Jvm.Cond.code y_M_reach prog_10_method_20_code (5 : Nat) (Option.some Jvm.ClassFile.FieldType.int)) ∈ WS := WSi_7 (List.mem_of_getElem? (i := 5) rfl)
theorem k_426 : (Jvm.Cond.code y_M_rankAll prog_10_method_21_code (7 : Nat) (Option.none : Option Jvm.ClassFile.FieldType)) ∈ WS := WSi_7 (List.mem_of_getElem? (i := 6) rfl)
theorem k_427 : (Jvm.Cond.fieldLink "VisitGrammarModel" (54 : Nat) "VisitGrammarModel" "visits" "[I") ∈ WS := WSi_7 (List.mem_of_getElem? (i := 7) rfl)
theorem k_428 : (Jvm.Cond.methodLink "VisitGrammarModel" (150 : Nat) y_M_reach) ∈ WS := WSi_7 (List.mem_of_getElem? (i := 8) rfl)
theorem k_429 : (Jvm.Cond.instanceMethod y_M_reach) ∈ WS := WSi_7 (List.mem_of_getElem? (i := 9) rfl)
theorem k_430 : (Jvm.Cond.selects "VisitGrammarModel" y_M_reach y_M_reach) ∈ WS := WSi_7 (List.mem_of_getElem? (i := 10) rfl)
theorem k_431 : (Jvm.Cond.fieldLink "VisitGrammarModel" (51 : Nat) "VisitGrammarModel" "rank" "[I") ∈ WS := WSi_7 (List.mem_of_getElem? (i := 11) rfl)
theorem k_432 : (Jvm.Cond.code y_M_isDemanded prog_10_method_22_code (5 : Nat) (Option.some Jvm.ClassFile.FieldType.boolean)) ∈ WS := WSi_7 (List.mem_of_getElem? (i := 12) rfl)
theorem k_433 : (Jvm.Cond.code y_M_mixes prog_10_method_23_code (4 : Nat) (Option.some Jvm.ClassFile.FieldType.boolean)) ∈ WS := WSi_7 (List.mem_of_getElem? (i := 13) rfl)
theorem k_434 : (Jvm.Cond.fieldLink "VisitGrammarModel" (48 : Nat) "VisitGrammarModel" "order" "[Z") ∈ WS := WSi_7 (List.mem_of_getElem? (i := 14) rfl)
theorem k_435 : (Jvm.Cond.methodLink "VisitGrammarModel" (153 : Nat) y_M_isDemanded) ∈ WS := WSi_7 (List.mem_of_getElem? (i := 15) rfl)
theorem k_436 : (Jvm.Cond.instanceMethod y_M_isDemanded) ∈ WS := WSi_7 (List.mem_of_getElem? (i := 16) rfl)
theorem k_437 : (Jvm.Cond.selects "VisitGrammarModel" y_M_isDemanded y_M_isDemanded) ∈ WS := WSi_7 (List.mem_of_getElem? (i := 17) rfl)
theorem k_438 : (Jvm.Cond.code y_M_visitOf prog_10_method_24_code (4 : Nat) (Option.some Jvm.ClassFile.FieldType.int)) ∈ WS := WSi_7 (List.mem_of_getElem? (i := 18) rfl)
theorem k_439 : (Jvm.Cond.code y_M_isKnown prog_10_method_25_code (3 : Nat) (Option.some Jvm.ClassFile.FieldType.boolean)) ∈ WS := WSi_7 (List.mem_of_getElem? (i := 19) rfl)
theorem k_440 : (Jvm.Cond.fieldLink "VisitGrammarModel" (63 : Nat) "VisitGrammarModel" "set" "[Z") ∈ WS := WSi_7 (List.mem_of_getElem? (i := 20) rfl)
theorem k_441 : (Jvm.Cond.methodLink "VisitGrammarModel" (156 : Nat) y_M_visitOf) ∈ WS := WSi_7 (List.mem_of_getElem? (i := 21) rfl)
theorem k_442 : (Jvm.Cond.instanceMethod y_M_visitOf) ∈ WS := WSi_7 (List.mem_of_getElem? (i := 22) rfl)
theorem k_443 : (Jvm.Cond.selects "VisitGrammarModel" y_M_visitOf y_M_visitOf) ∈ WS := WSi_7 (List.mem_of_getElem? (i := 23) rfl)
theorem k_444 : (Jvm.Cond.fieldLink "VisitGrammarModel" (66 : Nat) "VisitGrammarModel" "visited" "[I") ∈ WS := WSi_7 (List.mem_of_getElem? (i := 24) rfl)
theorem k_445 : (Jvm.Cond.code y_M_canSet prog_10_method_26_code (5 : Nat) (Option.some Jvm.ClassFile.FieldType.boolean)) ∈ WS := WSi_7 (List.mem_of_getElem? (i := 25) rfl)
theorem k_446 : (Jvm.Cond.methodLink "VisitGrammarModel" (159 : Nat) y_M_isKnown) ∈ WS := WSi_7 (List.mem_of_getElem? (i := 26) rfl)
theorem k_447 : (Jvm.Cond.instanceMethod y_M_isKnown) ∈ WS := WSi_7 (List.mem_of_getElem? (i := 27) rfl)
theorem k_448 : (Jvm.Cond.selects "VisitGrammarModel" y_M_isKnown y_M_isKnown) ∈ WS := WSi_7 (List.mem_of_getElem? (i := 28) rfl)
theorem k_449 : (Jvm.Cond.code y_M_isPrepared prog_10_method_27_code (6 : Nat) (Option.some Jvm.ClassFile.FieldType.boolean)) ∈ WS := WSi_7 (List.mem_of_getElem? (i := 29) rfl)
theorem k_450 : (Jvm.Cond.code y_M_canGo prog_10_method_28_code (4 : Nat) (Option.some Jvm.ClassFile.FieldType.boolean)) ∈ WS := WSi_7 (List.mem_of_getElem? (i := 30) rfl)
theorem k_451 : (Jvm.Cond.methodLink "VisitGrammarModel" (162 : Nat) y_M_isPrepared) ∈ WS := WSi_7 (List.mem_of_getElem? (i := 31) rfl)
theorem k_452 : (Jvm.Cond.instanceMethod y_M_isPrepared) ∈ WS := WSi_7 (List.mem_of_getElem? (i := 32) rfl)
theorem k_453 : (Jvm.Cond.selects "VisitGrammarModel" y_M_isPrepared y_M_isPrepared) ∈ WS := WSi_7 (List.mem_of_getElem? (i := 33) rfl)
theorem k_454 : (Jvm.Cond.code y_M_plan prog_10_method_29_code (4 : Nat) (Option.none : Option Jvm.ClassFile.FieldType)) ∈ WS := WSi_7 (List.mem_of_getElem? (i := 34) rfl)
theorem k_455 : (Jvm.Cond.fieldLink "VisitGrammarModel" (57 : Nat) "VisitGrammarModel" "length" "[I") ∈ WS := WSi_7 (List.mem_of_getElem? (i := 35) rfl)
theorem k_456 : (Jvm.Cond.fieldLink "VisitGrammarModel" (60 : Nat) "VisitGrammarModel" "sequence" "[I") ∈ WS := WSi_7 (List.mem_of_getElem? (i := 36) rfl)
theorem k_457 : (Jvm.Cond.methodLink "VisitGrammarModel" (168 : Nat) y_M_canGo) ∈ WS := WSi_7 (List.mem_of_getElem? (i := 37) rfl)
theorem k_458 : (Jvm.Cond.instanceMethod y_M_canGo) ∈ WS := WSi_7 (List.mem_of_getElem? (i := 38) rfl)
theorem k_459 : (Jvm.Cond.selects "VisitGrammarModel" y_M_canGo y_M_canGo) ∈ WS := WSi_7 (List.mem_of_getElem? (i := 39) rfl)
theorem k_460 : (Jvm.Cond.methodLink "VisitGrammarModel" (165 : Nat) y_M_canSet) ∈ WS := WSi_7 (List.mem_of_getElem? (i := 40) rfl)
theorem k_461 : (Jvm.Cond.instanceMethod y_M_canSet) ∈ WS := WSi_7 (List.mem_of_getElem? (i := 41) rfl)
theorem k_462 : (Jvm.Cond.selects "VisitGrammarModel" y_M_canSet y_M_canSet) ∈ WS := WSi_7 (List.mem_of_getElem? (i := 42) rfl)
theorem k_463 : (Jvm.Cond.code y_M_analyse prog_10_method_30_code (3 : Nat) (Option.some Jvm.ClassFile.FieldType.int)) ∈ WS := WSi_7 (List.mem_of_getElem? (i := 43) rfl)
theorem k_464 : (Jvm.Cond.methodLink "VisitGrammarModel" (171 : Nat) y_M_lacks) ∈ WS := WSi_7 (List.mem_of_getElem? (i := 44) rfl)
theorem k_465 : (Jvm.Cond.instanceMethod y_M_lacks) ∈ WS := WSi_7 (List.mem_of_getElem? (i := 45) rfl)
theorem k_466 : (Jvm.Cond.selects "VisitGrammarModel" y_M_lacks y_M_lacks) ∈ WS := WSi_7 (List.mem_of_getElem? (i := 46) rfl)
theorem k_467 : (Jvm.Cond.methodLink "VisitGrammarModel" (175 : Nat) y_M_fail) ∈ WS := WSi_7 (List.mem_of_getElem? (i := 47) rfl)
theorem k_468 : (Jvm.Cond.instanceMethod y_M_fail) ∈ WS := WSi_7 (List.mem_of_getElem? (i := 48) rfl)
theorem k_469 : (Jvm.Cond.selects "VisitGrammarModel" y_M_fail y_M_fail) ∈ WS := WSi_7 (List.mem_of_getElem? (i := 49) rfl)
theorem k_470 : (Jvm.Cond.methodLink "VisitGrammarModel" (178 : Nat) y_M_begin) ∈ WS := WSi_7 (List.mem_of_getElem? (i := 50) rfl)
theorem k_471 : (Jvm.Cond.instanceMethod y_M_begin) ∈ WS := WSi_7 (List.mem_of_getElem? (i := 51) rfl)
theorem k_472 : (Jvm.Cond.selects "VisitGrammarModel" y_M_begin y_M_begin) ∈ WS := WSi_7 (List.mem_of_getElem? (i := 52) rfl)
theorem k_473 : (Jvm.Cond.methodLink "VisitGrammarModel" (181 : Nat) y_M_circles) ∈ WS := WSi_7 (List.mem_of_getElem? (i := 53) rfl)
theorem k_474 : (Jvm.Cond.instanceMethod y_M_circles) ∈ WS := WSi_7 (List.mem_of_getElem? (i := 54) rfl)
theorem k_475 : (Jvm.Cond.selects "VisitGrammarModel" y_M_circles y_M_circles) ∈ WS := WSi_7 (List.mem_of_getElem? (i := 55) rfl)
theorem k_476 : (Jvm.Cond.methodLink "VisitGrammarModel" (188 : Nat) y_M_mixes) ∈ WS := WSi_7 (List.mem_of_getElem? (i := 56) rfl)
theorem k_477 : (Jvm.Cond.instanceMethod y_M_mixes) ∈ WS := WSi_7 (List.mem_of_getElem? (i := 57) rfl)
theorem k_478 : (Jvm.Cond.selects "VisitGrammarModel" y_M_mixes y_M_mixes) ∈ WS := WSi_7 (List.mem_of_getElem? (i := 58) rfl)
theorem k_479 : (Jvm.Cond.methodLink "VisitGrammarModel" (191 : Nat) y_M_plan) ∈ WS := WSi_7 (List.mem_of_getElem? (i := 59) rfl)
theorem k_480 : (Jvm.Cond.instanceMethod y_M_plan) ∈ WS := WSi_8 (List.mem_of_getElem? (i := 0) rfl)
theorem k_481 : (Jvm.Cond.selects "VisitGrammarModel" y_M_plan y_M_plan) ∈ WS := WSi_8 (List.mem_of_getElem? (i := 1) rfl)
theorem k_482 : (Jvm.Cond.methodLink "VisitGrammarModel" (184 : Nat) y_M_rankAll) ∈ WS := WSi_8 (List.mem_of_getElem? (i := 2) rfl)
theorem k_483 : (Jvm.Cond.instanceMethod y_M_rankAll) ∈ WS := WSi_8 (List.mem_of_getElem? (i := 3) rfl)
theorem k_484 : (Jvm.Cond.selects "VisitGrammarModel" y_M_rankAll y_M_rankAll) ∈ WS := WSi_8 (List.mem_of_getElem? (i := 4) rfl)
theorem k_485 : (Jvm.Cond.code y_M_fault prog_10_method_31_code (2 : Nat) (Option.some Jvm.ClassFile.FieldType.int)) ∈ WS := WSi_8 (List.mem_of_getElem? (i := 5) rfl)
theorem k_486 : (Jvm.Cond.code y_M_visits prog_10_method_32_code (2 : Nat) (Option.some Jvm.ClassFile.FieldType.int)) ∈ WS := WSi_8 (List.mem_of_getElem? (i := 6) rfl)
theorem k_487 : (Jvm.Cond.code y_M_rank prog_10_method_33_code (3 : Nat) (Option.some Jvm.ClassFile.FieldType.int)) ∈ WS := WSi_8 (List.mem_of_getElem? (i := 7) rfl)
theorem k_488 : (Jvm.Cond.code y_M_instruction prog_10_method_34_code (3 : Nat) (Option.some Jvm.ClassFile.FieldType.int)) ∈ WS := WSi_8 (List.mem_of_getElem? (i := 8) rfl)
theorem k_489 : (Jvm.Cond.code y_M_fits prog_10_method_35_code (4 : Nat) (Option.some Jvm.ClassFile.FieldType.boolean)) ∈ WS := WSi_8 (List.mem_of_getElem? (i := 9) rfl)
theorem k_490 : (Jvm.Cond.fieldLink "VisitGrammarModel" (194 : Nat) "VisitGrammarModel" "nodes" "I") ∈ WS := WSi_8 (List.mem_of_getElem? (i := 10) rfl)
theorem k_491 : (Jvm.Cond.fieldLink "VisitGrammarModel" (78 : Nat) "VisitGrammarModel" "parent" "[I") ∈ WS := WSi_8 (List.mem_of_getElem? (i := 11) rfl)
theorem k_492 : (Jvm.Cond.fieldLink "VisitGrammarModel" (69 : Nat) "VisitGrammarModel" "production" "[I") ∈ WS := WSi_8 (List.mem_of_getElem? (i := 12) rfl)
theorem k_493 : (Jvm.Cond.code y_M_node prog_10_method_36_code (9 : Nat) (Option.some Jvm.ClassFile.FieldType.int)) ∈ WS := WSi_8 (List.mem_of_getElem? (i := 13) rfl)
theorem k_494 : (Jvm.Cond.fieldLink "VisitGrammarModel" (72 : Nat) "VisitGrammarModel" "token" "[I") ∈ WS := WSi_8 (List.mem_of_getElem? (i := 14) rfl)
theorem k_495 : (Jvm.Cond.fieldLink "VisitGrammarModel" (75 : Nat) "VisitGrammarModel" "child" "[I") ∈ WS := WSi_8 (List.mem_of_getElem? (i := 15) rfl)
theorem k_496 : (Jvm.Cond.methodLink "VisitGrammarModel" (197 : Nat) y_M_fits) ∈ WS := WSi_8 (List.mem_of_getElem? (i := 16) rfl)
theorem k_497 : (Jvm.Cond.instanceMethod y_M_fits) ∈ WS := WSi_8 (List.mem_of_getElem? (i := 17) rfl)
theorem k_498 : (Jvm.Cond.selects "VisitGrammarModel" y_M_fits y_M_fits) ∈ WS := WSi_8 (List.mem_of_getElem? (i := 18) rfl)
theorem k_499 : (Jvm.Cond.code y_M_fell prog_10_method_37_code (1 : Nat) (Option.none : Option Jvm.ClassFile.FieldType)) ∈ WS := WSi_8 (List.mem_of_getElem? (i := 19) rfl)
theorem k_500 : (Jvm.Cond.code y_M_give prog_10_method_38_code (3 : Nat) (Option.none : Option Jvm.ClassFile.FieldType)) ∈ WS := WSi_8 (List.mem_of_getElem? (i := 20) rfl)
theorem k_501 : (Jvm.Cond.fieldLink "VisitGrammarModel" (90 : Nat) "VisitGrammarModel" "given" "[I") ∈ WS := WSi_8 (List.mem_of_getElem? (i := 21) rfl)
theorem k_502 : (Jvm.Cond.code y_M_isNode prog_10_method_39_code (2 : Nat) (Option.some Jvm.ClassFile.FieldType.boolean)) ∈ WS := WSi_8 (List.mem_of_getElem? (i := 22) rfl)
theorem k_503 : (Jvm.Cond.code y_M_start prog_10_method_40_code (4 : Nat) (Option.none : Option Jvm.ClassFile.FieldType)) ∈ WS := WSi_8 (List.mem_of_getElem? (i := 23) rfl)
theorem k_504 : (Jvm.Cond.fieldLink "VisitGrammarModel" (87 : Nat) "VisitGrammarModel" "value" "[I") ∈ WS := WSi_8 (List.mem_of_getElem? (i := 24) rfl)
theorem k_505 : (Jvm.Cond.fieldLink "VisitGrammarModel" (81 : Nat) "VisitGrammarModel" "next" "[I") ∈ WS := WSi_8 (List.mem_of_getElem? (i := 25) rfl)
theorem k_506 : (Jvm.Cond.methodLink "VisitGrammarModel" (200 : Nat) y_M_isNode) ∈ WS := WSi_8 (List.mem_of_getElem? (i := 26) rfl)
theorem k_507 : (Jvm.Cond.instanceMethod y_M_isNode) ∈ WS := WSi_8 (List.mem_of_getElem? (i := 27) rfl)
theorem k_508 : (Jvm.Cond.selects "VisitGrammarModel" y_M_isNode y_M_isNode) ∈ WS := WSi_8 (List.mem_of_getElem? (i := 28) rfl)
theorem k_509 : (Jvm.Cond.code y_M_cell prog_10_method_41_code (3 : Nat) (Option.some Jvm.ClassFile.FieldType.int)) ∈ WS := WSi_8 (List.mem_of_getElem? (i := 29) rfl)
theorem k_510 : (Jvm.Cond.code y_M_worth prog_10_method_42_code (7 : Nat) (Option.some Jvm.ClassFile.FieldType.int)) ∈ WS := WSi_8 (List.mem_of_getElem? (i := 30) rfl)
theorem k_511 : (Jvm.Cond.methodLink "VisitGrammarModel" (203 : Nat) y_M_cell) ∈ WS := WSi_8 (List.mem_of_getElem? (i := 31) rfl)
theorem k_512 : (Jvm.Cond.instanceMethod y_M_cell) ∈ WS := WSi_8 (List.mem_of_getElem? (i := 32) rfl)
theorem k_513 : (Jvm.Cond.selects "VisitGrammarModel" y_M_cell y_M_cell) ∈ WS := WSi_8 (List.mem_of_getElem? (i := 33) rfl)
theorem k_514 : (Jvm.Cond.code y_M_step prog_10_method_43_code (4 : Nat) (Option.none : Option Jvm.ClassFile.FieldType)) ∈ WS := WSi_8 (List.mem_of_getElem? (i := 34) rfl)
theorem k_515 : (Jvm.Cond.methodLink "VisitGrammarModel" (206 : Nat) y_M_worth) ∈ WS := WSi_8 (List.mem_of_getElem? (i := 35) rfl)
theorem k_516 : (Jvm.Cond.instanceMethod y_M_worth) ∈ WS := WSi_8 (List.mem_of_getElem? (i := 36) rfl)
theorem k_517 : (Jvm.Cond.selects "VisitGrammarModel" y_M_worth y_M_worth) ∈ WS := WSi_8 (List.mem_of_getElem? (i := 37) rfl)
theorem k_518 : (Jvm.Cond.code y_M_run prog_10_method_44_code (3 : Nat) (Option.some Jvm.ClassFile.FieldType.int)) ∈ WS := WSi_8 (List.mem_of_getElem? (i := 38) rfl)
theorem k_519 : (Jvm.Cond.methodLink "VisitGrammarModel" (209 : Nat) y_M_step) ∈ WS := WSi_8 (List.mem_of_getElem? (i := 39) rfl)
theorem k_520 : (Jvm.Cond.instanceMethod y_M_step) ∈ WS := WSi_8 (List.mem_of_getElem? (i := 40) rfl)
theorem k_521 : (Jvm.Cond.selects "VisitGrammarModel" y_M_step y_M_step) ∈ WS := WSi_8 (List.mem_of_getElem? (i := 41) rfl)
theorem k_522 : (Jvm.Cond.code y_M_status prog_10_method_45_code (1 : Nat) (Option.some Jvm.ClassFile.FieldType.int)) ∈ WS := WSi_8 (List.mem_of_getElem? (i := 42) rfl)
theorem k_523 : (Jvm.Cond.code y_M_atHand prog_10_method_46_code (1 : Nat) (Option.some Jvm.ClassFile.FieldType.int)) ∈ WS := WSi_8 (List.mem_of_getElem? (i := 43) rfl)
theorem k_524 : (Jvm.Cond.code y_M_isAttribute prog_10_method_47_code (3 : Nat) (Option.some Jvm.ClassFile.FieldType.boolean)) ∈ WS := WSi_8 (List.mem_of_getElem? (i := 44) rfl)
theorem k_525 : (Jvm.Cond.code y_M_knows prog_10_method_48_code (3 : Nat) (Option.some Jvm.ClassFile.FieldType.boolean)) ∈ WS := WSi_8 (List.mem_of_getElem? (i := 45) rfl)
theorem k_526 : (Jvm.Cond.methodLink "VisitGrammarModel" (212 : Nat) y_M_isAttribute) ∈ WS := WSi_8 (List.mem_of_getElem? (i := 46) rfl)
theorem k_527 : (Jvm.Cond.instanceMethod y_M_isAttribute) ∈ WS := WSi_8 (List.mem_of_getElem? (i := 47) rfl)
theorem k_528 : (Jvm.Cond.selects "VisitGrammarModel" y_M_isAttribute y_M_isAttribute) ∈ WS := WSi_8 (List.mem_of_getElem? (i := 48) rfl)
theorem k_529 : (Jvm.Cond.code y_M_value prog_10_method_49_code (3 : Nat) (Option.some Jvm.ClassFile.FieldType.int)) ∈ WS := WSi_8 (List.mem_of_getElem? (i := 49) rfl)
theorem k_530 : (Jvm.Cond.code y_V_dropAnalysis prog_1_method_19_code (1 : Nat) (Option.none : Option Jvm.ClassFile.FieldType)) ∈ WS := WSi_8 (List.mem_of_getElem? (i := 50) rfl)
theorem k_531 : (Jvm.Cond.fieldLink "VisitGrammar" (21 : Nat) "VisitGrammar" "analysis" "LVisitGrammar$Analysis;") ∈ WS := WSi_8 (List.mem_of_getElem? (i := 51) rfl)
theorem k_532 : (Jvm.Cond.fieldLinkNest "VisitGrammar" (125 : Nat) "VisitGrammar$Analysis" "present" "Z" "VisitGrammar") ∈ WS := WSi_8 (List.mem_of_getElem? (i := 52) rfl)
theorem k_533 : (Jvm.Cond.fieldLink "VisitGrammar" (41 : Nat) "VisitGrammar" "walk" "LVisitGrammar$Walk;") ∈ WS := WSi_8 (List.mem_of_getElem? (i := 53) rfl)
theorem k_534 : (Jvm.Cond.methodLink "VisitGrammar" (111 : Nat) y_U_end) ∈ WS := WSi_8 (List.mem_of_getElem? (i := 54) rfl)
theorem k_535 : (Jvm.Cond.instanceMethod y_U_end) ∈ WS := WSi_8 (List.mem_of_getElem? (i := 55) rfl)
theorem k_536 : (Jvm.Cond.selects "VisitGrammar$Walk" y_U_end y_U_end) ∈ WS := WSi_8 (List.mem_of_getElem? (i := 56) rfl)
theorem k_537 : (Jvm.Cond.code y_V_requireAnalysis prog_1_method_20_code (1 : Nat) (Option.none : Option Jvm.ClassFile.FieldType)) ∈ WS := WSi_8 (List.mem_of_getElem? (i := 57) rfl)
theorem k_538 : (Jvm.Cond.methodLink "VisitGrammar" (60 : Nat) ({ cls := "java/lang/IllegalStateException", name := "<init>", desc := "(Ljava/lang/String;)V" } : Jvm.MethodName)) ∈ WS := WSi_8 (List.mem_of_getElem? (i := 58) rfl)
theorem k_539 : (Jvm.Cond.classLink "VisitGrammar" (56 : Nat) "java/lang/IllegalStateException") ∈ WS := WSi_8 (List.mem_of_getElem? (i := 59) rfl)
theorem k_540 : (Jvm.Cond.initialized "java/lang/IllegalStateException") ∈ WS := WSi_9 (List.mem_of_getElem? (i := 0) rfl)
theorem k_541 : (Jvm.Cond.stringRef "VisitGrammar" (228 : Nat) "there is no analysis") ∈ WS := WSi_9 (List.mem_of_getElem? (i := 1) rfl)
theorem k_542 : (Jvm.Cond.code y_V_requireAttribute prog_1_method_21_code (3 : Nat) (Option.none : Option Jvm.ClassFile.FieldType)) ∈ WS := WSi_9 (List.mem_of_getElem? (i := 2) rfl)
theorem k_543 : (Jvm.Cond.fieldLink "VisitGrammar" (28 : Nat) "VisitGrammar" "tree" "LVisitGrammar$Tree;") ∈ WS := WSi_9 (List.mem_of_getElem? (i := 3) rfl)
theorem k_544 : (Jvm.Cond.methodLink "VisitGrammar" (193 : Nat) y_Z_hasNode) ∈ WS := WSi_9 (List.mem_of_getElem? (i := 4) rfl)
theorem k_545 : (Jvm.Cond.methodLink "VisitGrammar" (94 : Nat) ({ cls := "java/lang/IndexOutOfBoundsException", name := "<init>", desc := "(Ljava/lang/String;)V" } : Jvm.MethodName)) ∈ WS := WSi_9 (List.mem_of_getElem? (i := 5) rfl)
theorem k_546 : (Jvm.Cond.fieldLink "VisitGrammar" (12 : Nat) "VisitGrammar" "grammar" "LVisitGrammar$Grammar;") ∈ WS := WSi_9 (List.mem_of_getElem? (i := 6) rfl)
theorem k_547 : (Jvm.Cond.methodLink "VisitGrammar" (230 : Nat) y_Z_symbolOf) ∈ WS := WSi_9 (List.mem_of_getElem? (i := 7) rfl)
theorem k_548 : (Jvm.Cond.methodLink "VisitGrammar" (158 : Nat) y_G_hasAttribute) ∈ WS := WSi_9 (List.mem_of_getElem? (i := 8) rfl)
theorem k_549 : (Jvm.Cond.instanceMethod y_G_hasAttribute) ∈ WS := WSi_9 (List.mem_of_getElem? (i := 9) rfl)
theorem k_550 : (Jvm.Cond.selects "VisitGrammar$Grammar" y_G_hasAttribute y_G_hasAttribute) ∈ WS := WSi_9 (List.mem_of_getElem? (i := 10) rfl)
theorem k_551 : (Jvm.Cond.classLink "VisitGrammar" (90 : Nat) "java/lang/IndexOutOfBoundsException") ∈ WS := WSi_9 (List.mem_of_getElem? (i := 11) rfl)
theorem k_552 : (Jvm.Cond.initialized "java/lang/IndexOutOfBoundsException") ∈ WS := WSi_9 (List.mem_of_getElem? (i := 12) rfl)
theorem k_553 : (Jvm.Cond.stringRef "VisitGrammar" (233 : Nat) "no such node or attribute") ∈ WS := WSi_9 (List.mem_of_getElem? (i := 13) rfl)
theorem k_554 : (Jvm.Cond.code y_V_symbol prog_1_method_2_code (3 : Nat) (Option.some Jvm.ClassFile.FieldType.int)) ∈ WS := WSi_9 (List.mem_of_getElem? (i := 14) rfl)
theorem k_555 : (Jvm.Cond.methodLink "VisitGrammar" (49 : Nat) ({ cls := "java/lang/IllegalArgumentException", name := "<init>", desc := "(Ljava/lang/String;)V" } : Jvm.MethodName)) ∈ WS := WSi_9 (List.mem_of_getElem? (i := 15) rfl)
theorem k_556 : (Jvm.Cond.fieldLinkNest "VisitGrammar" (52 : Nat) "VisitGrammar$Grammar" "symbolCount" "I" "VisitGrammar") ∈ WS := WSi_9 (List.mem_of_getElem? (i := 16) rfl)
theorem k_557 : (Jvm.Cond.methodLink "VisitGrammar" (61 : Nat) y_V_dropAnalysis) ∈ WS := WSi_9 (List.mem_of_getElem? (i := 17) rfl)
theorem k_558 : (Jvm.Cond.instanceMethod y_V_dropAnalysis) ∈ WS := WSi_9 (List.mem_of_getElem? (i := 18) rfl)
theorem k_559 : (Jvm.Cond.selects "VisitGrammar" y_V_dropAnalysis y_V_dropAnalysis) ∈ WS := WSi_9 (List.mem_of_getElem? (i := 19) rfl)
theorem k_560 : (Jvm.Cond.methodLink "VisitGrammar" (64 : Nat) y_G_addSymbol) ∈ WS := WSi_9 (List.mem_of_getElem? (i := 20) rfl)
theorem k_561 : (Jvm.Cond.instanceMethod y_G_addSymbol) ∈ WS := WSi_9 (List.mem_of_getElem? (i := 21) rfl)
theorem k_562 : (Jvm.Cond.selects "VisitGrammar$Grammar" y_G_addSymbol y_G_addSymbol) ∈ WS := WSi_9 (List.mem_of_getElem? (i := 22) rfl)
theorem k_563 : (Jvm.Cond.classLink "VisitGrammar" (45 : Nat) "java/lang/IllegalArgumentException") ∈ WS := WSi_9 (List.mem_of_getElem? (i := 23) rfl)
theorem k_564 : (Jvm.Cond.initialized "java/lang/IllegalArgumentException") ∈ WS := WSi_9 (List.mem_of_getElem? (i := 24) rfl)
theorem k_565 : (Jvm.Cond.stringRef "VisitGrammar" (47 : Nat) "attributes are not 0 to 4") ∈ WS := WSi_9 (List.mem_of_getElem? (i := 25) rfl)
theorem k_566 : (Jvm.Cond.stringRef "VisitGrammar" (58 : Nat) "there are 6 symbols") ∈ WS := WSi_9 (List.mem_of_getElem? (i := 26) rfl)
theorem k_567 : (Jvm.Cond.code y_V_production prog_1_method_3_code (5 : Nat) (Option.some Jvm.ClassFile.FieldType.int)) ∈ WS := WSi_9 (List.mem_of_getElem? (i := 27) rfl)
theorem k_568 : (Jvm.Cond.methodLink "VisitGrammar" (68 : Nat) y_G_hasSymbol) ∈ WS := WSi_9 (List.mem_of_getElem? (i := 28) rfl)
theorem k_569 : (Jvm.Cond.methodLink "VisitGrammar" (72 : Nat) y_G_isRight) ∈ WS := WSi_9 (List.mem_of_getElem? (i := 29) rfl)
theorem k_570 : (Jvm.Cond.instanceMethod y_G_isRight) ∈ WS := WSi_9 (List.mem_of_getElem? (i := 30) rfl)
theorem k_571 : (Jvm.Cond.selects "VisitGrammar$Grammar" y_G_isRight y_G_isRight) ∈ WS := WSi_9 (List.mem_of_getElem? (i := 31) rfl)
theorem k_572 : (Jvm.Cond.fieldLinkNest "VisitGrammar" (78 : Nat) "VisitGrammar$Grammar" "productionCount" "I" "VisitGrammar") ∈ WS := WSi_9 (List.mem_of_getElem? (i := 32) rfl)
theorem k_573 : (Jvm.Cond.methodLink "VisitGrammar" (83 : Nat) y_G_addProduction) ∈ WS := WSi_9 (List.mem_of_getElem? (i := 33) rfl)
theorem k_574 : (Jvm.Cond.instanceMethod y_G_addProduction) ∈ WS := WSi_9 (List.mem_of_getElem? (i := 34) rfl)
theorem k_575 : (Jvm.Cond.selects "VisitGrammar$Grammar" y_G_addProduction y_G_addProduction) ∈ WS := WSi_9 (List.mem_of_getElem? (i := 35) rfl)
theorem k_576 : (Jvm.Cond.stringRef "VisitGrammar" (76 : Nat) "no such symbol, or something behind a -1") ∈ WS := WSi_9 (List.mem_of_getElem? (i := 36) rfl)
theorem k_577 : (Jvm.Cond.stringRef "VisitGrammar" (81 : Nat) "there are 10 productions") ∈ WS := WSi_9 (List.mem_of_getElem? (i := 37) rfl)
theorem k_578 : (Jvm.Cond.code y_V_rule prog_1_method_4_code (6 : Nat) (Option.none : Option Jvm.ClassFile.FieldType)) ∈ WS := WSi_9 (List.mem_of_getElem? (i := 38) rfl)
theorem k_579 : (Jvm.Cond.methodLink "VisitGrammar" (87 : Nat) y_G_hasProduction) ∈ WS := WSi_9 (List.mem_of_getElem? (i := 39) rfl)
theorem k_580 : (Jvm.Cond.instanceMethod y_G_hasProduction) ∈ WS := WSi_9 (List.mem_of_getElem? (i := 40) rfl)
theorem k_581 : (Jvm.Cond.selects "VisitGrammar$Grammar" y_G_hasProduction y_G_hasProduction) ∈ WS := WSi_9 (List.mem_of_getElem? (i := 41) rfl)
theorem k_582 : (Jvm.Cond.methodLink "VisitGrammar" (95 : Nat) y_G_isToBeDefined) ∈ WS := WSi_9 (List.mem_of_getElem? (i := 42) rfl)
theorem k_583 : (Jvm.Cond.instanceMethod y_G_isToBeDefined) ∈ WS := WSi_9 (List.mem_of_getElem? (i := 43) rfl)
theorem k_584 : (Jvm.Cond.selects "VisitGrammar$Grammar" y_G_isToBeDefined y_G_isToBeDefined) ∈ WS := WSi_9 (List.mem_of_getElem? (i := 44) rfl)
theorem k_585 : (Jvm.Cond.methodLink "VisitGrammar" (101 : Nat) y_G_isForm) ∈ WS := WSi_9 (List.mem_of_getElem? (i := 45) rfl)
theorem k_586 : (Jvm.Cond.instanceMethod y_G_isForm) ∈ WS := WSi_9 (List.mem_of_getElem? (i := 46) rfl)
theorem k_587 : (Jvm.Cond.selects "VisitGrammar$Grammar" y_G_isForm y_G_isForm) ∈ WS := WSi_9 (List.mem_of_getElem? (i := 47) rfl)
theorem k_588 : (Jvm.Cond.methodLink "VisitGrammar" (107 : Nat) y_G_setRule) ∈ WS := WSi_9 (List.mem_of_getElem? (i := 48) rfl)
theorem k_589 : (Jvm.Cond.instanceMethod y_G_setRule) ∈ WS := WSi_9 (List.mem_of_getElem? (i := 49) rfl)
theorem k_590 : (Jvm.Cond.selects "VisitGrammar$Grammar" y_G_setRule y_G_setRule) ∈ WS := WSi_9 (List.mem_of_getElem? (i := 50) rfl)
theorem k_591 : (Jvm.Cond.stringRef "VisitGrammar" (105 : Nat) "no such form, or no such occurrence used") ∈ WS := WSi_9 (List.mem_of_getElem? (i := 51) rfl)
theorem k_592 : (Jvm.Cond.stringRef "VisitGrammar" (99 : Nat) "not an occurrence to be defined") ∈ WS := WSi_9 (List.mem_of_getElem? (i := 52) rfl)
theorem k_593 : (Jvm.Cond.stringRef "VisitGrammar" (92 : Nat) "no such production") ∈ WS := WSi_9 (List.mem_of_getElem? (i := 53) rfl)
theorem k_594 : (Jvm.Cond.code y_V_analyse prog_1_method_5_code (1 : Nat) (Option.some Jvm.ClassFile.FieldType.int)) ∈ WS := WSi_9 (List.mem_of_getElem? (i := 54) rfl)
theorem k_595 : (Jvm.Cond.methodLink "VisitGrammar" (114 : Nat) y_A_make) ∈ WS := WSi_9 (List.mem_of_getElem? (i := 55) rfl)
theorem k_596 : (Jvm.Cond.instanceMethod y_A_make) ∈ WS := WSi_9 (List.mem_of_getElem? (i := 56) rfl)
theorem k_597 : (Jvm.Cond.selects "VisitGrammar$Analysis" y_A_make y_A_make) ∈ WS := WSi_9 (List.mem_of_getElem? (i := 57) rfl)
theorem k_598 : (Jvm.Cond.fieldLinkNest "VisitGrammar" (117 : Nat) "VisitGrammar$Analysis" "faultKind" "I" "VisitGrammar") ∈ WS := WSi_9 (List.mem_of_getElem? (i := 58) rfl)
theorem k_599 : (Jvm.Cond.methodLink "VisitGrammar" (124 : Nat) ({ cls := "java/lang/UnsupportedOperationException", name := "<init>", desc := "(Ljava/lang/String;)V" } : Jvm.MethodName)) ∈ WS := WSi_9 (List.mem_of_getElem? (i := 59) rfl)
theorem k_600 : (Jvm.Cond.fieldLinkNest "VisitGrammar" (34 : Nat) "VisitGrammar$Analysis" "sequences" "LVisitGrammar$Sequences;" "VisitGrammar") ∈ WS := WSi_10 (List.mem_of_getElem? (i := 0) rfl)
theorem k_601 : (Jvm.Cond.methodLink "VisitGrammar" (131 : Nat) y_Q_lengthOfAll) ∈ WS := WSi_10 (List.mem_of_getElem? (i := 1) rfl)
theorem k_602 : (Jvm.Cond.instanceMethod y_Q_lengthOfAll) ∈ WS := WSi_10 (List.mem_of_getElem? (i := 2) rfl)
theorem k_603 : (Jvm.Cond.selects "VisitGrammar$Sequences" y_Q_lengthOfAll y_Q_lengthOfAll) ∈ WS := WSi_10 (List.mem_of_getElem? (i := 3) rfl)
theorem k_604 : (Jvm.Cond.stringRef "VisitGrammar" (129 : Nat) "incomplete, or no production") ∈ WS := WSi_10 (List.mem_of_getElem? (i := 4) rfl)
theorem k_605 : (Jvm.Cond.classLink "VisitGrammar" (120 : Nat) "java/lang/UnsupportedOperationException") ∈ WS := WSi_10 (List.mem_of_getElem? (i := 5) rfl)
theorem k_606 : (Jvm.Cond.initialized "java/lang/UnsupportedOperationException") ∈ WS := WSi_10 (List.mem_of_getElem? (i := 6) rfl)
theorem k_607 : (Jvm.Cond.stringRef "VisitGrammar" (122 : Nat) "circular, or not ordered") ∈ WS := WSi_10 (List.mem_of_getElem? (i := 7) rfl)
theorem k_608 : (Jvm.Cond.code y_V_fault prog_1_method_6_code (2 : Nat) (Option.some Jvm.ClassFile.FieldType.int)) ∈ WS := WSi_10 (List.mem_of_getElem? (i := 8) rfl)
theorem k_609 : (Jvm.Cond.fieldLinkNest "VisitGrammar" (137 : Nat) "VisitGrammar$Analysis" "faultProduction" "I" "VisitGrammar") ∈ WS := WSi_10 (List.mem_of_getElem? (i := 9) rfl)
theorem k_610 : (Jvm.Cond.fieldLinkNest "VisitGrammar" (140 : Nat) "VisitGrammar$Analysis" "faultOccurrence" "I" "VisitGrammar") ∈ WS := WSi_10 (List.mem_of_getElem? (i := 10) rfl)
theorem k_611 : (Jvm.Cond.code y_V_visits prog_1_method_7_code (2 : Nat) (Option.some Jvm.ClassFile.FieldType.int)) ∈ WS := WSi_10 (List.mem_of_getElem? (i := 11) rfl)
theorem k_612 : (Jvm.Cond.methodLink "VisitGrammar" (143 : Nat) y_V_requireAnalysis) ∈ WS := WSi_10 (List.mem_of_getElem? (i := 12) rfl)
theorem k_613 : (Jvm.Cond.instanceMethod y_V_requireAnalysis) ∈ WS := WSi_10 (List.mem_of_getElem? (i := 13) rfl)
theorem k_614 : (Jvm.Cond.selects "VisitGrammar" y_V_requireAnalysis y_V_requireAnalysis) ∈ WS := WSi_10 (List.mem_of_getElem? (i := 14) rfl)
theorem k_615 : (Jvm.Cond.fieldLinkNest "VisitGrammar" (148 : Nat) "VisitGrammar$Analysis" "ranking" "LVisitGrammar$Ranking;" "VisitGrammar") ∈ WS := WSi_10 (List.mem_of_getElem? (i := 15) rfl)
theorem k_616 : (Jvm.Cond.fieldLinkNest "VisitGrammar" (152 : Nat) "VisitGrammar$Ranking" "visitCounts" "[I" "VisitGrammar") ∈ WS := WSi_10 (List.mem_of_getElem? (i := 16) rfl)
theorem k_617 : (Jvm.Cond.stringRef "VisitGrammar" (146 : Nat) "no such symbol") ∈ WS := WSi_10 (List.mem_of_getElem? (i := 17) rfl)
theorem k_618 : (Jvm.Cond.code y_V_rank prog_1_method_8_code (3 : Nat) (Option.some Jvm.ClassFile.FieldType.int)) ∈ WS := WSi_10 (List.mem_of_getElem? (i := 18) rfl)
theorem k_619 : (Jvm.Cond.fieldLinkNest "VisitGrammar" (163 : Nat) "VisitGrammar$Ranking" "ranks" "[I" "VisitGrammar") ∈ WS := WSi_10 (List.mem_of_getElem? (i := 19) rfl)
theorem k_620 : (Jvm.Cond.stringRef "VisitGrammar" (161 : Nat) "no such symbol or attribute") ∈ WS := WSi_10 (List.mem_of_getElem? (i := 20) rfl)
theorem k_621 : (Jvm.Cond.code y_V_instruction prog_1_method_9_code (3 : Nat) (Option.some Jvm.ClassFile.FieldType.int)) ∈ WS := WSi_10 (List.mem_of_getElem? (i := 21) rfl)
theorem k_622 : (Jvm.Cond.methodLink "VisitGrammar" (168 : Nat) y_Q_at) ∈ WS := WSi_10 (List.mem_of_getElem? (i := 22) rfl)
theorem k_623 : (Jvm.Cond.stringRef "VisitGrammar" (166 : Nat) "no such production, or k below 0") ∈ WS := WSi_10 (List.mem_of_getElem? (i := 23) rfl)
theorem k_624 : (Jvm.Cond.code y_V_node prog_1_method_10_code (6 : Nat) (Option.some Jvm.ClassFile.FieldType.int)) ∈ WS := WSi_10 (List.mem_of_getElem? (i := 24) rfl)
theorem k_625 : (Jvm.Cond.methodLink "VisitGrammar" (171 : Nat) y_Z_canBeChildren) ∈ WS := WSi_10 (List.mem_of_getElem? (i := 25) rfl)
theorem k_626 : (Jvm.Cond.instanceMethod y_Z_canBeChildren) ∈ WS := WSi_10 (List.mem_of_getElem? (i := 26) rfl)
theorem k_627 : (Jvm.Cond.selects "VisitGrammar$Tree" y_Z_canBeChildren y_Z_canBeChildren) ∈ WS := WSi_10 (List.mem_of_getElem? (i := 27) rfl)
theorem k_628 : (Jvm.Cond.fieldLinkNest "VisitGrammar" (176 : Nat) "VisitGrammar$Tree" "nodeCount" "I" "VisitGrammar") ∈ WS := WSi_10 (List.mem_of_getElem? (i := 28) rfl)
theorem k_629 : (Jvm.Cond.methodLink "VisitGrammar" (181 : Nat) y_Z_grow) ∈ WS := WSi_10 (List.mem_of_getElem? (i := 29) rfl)
theorem k_630 : (Jvm.Cond.instanceMethod y_Z_grow) ∈ WS := WSi_10 (List.mem_of_getElem? (i := 30) rfl)
theorem k_631 : (Jvm.Cond.selects "VisitGrammar$Tree" y_Z_grow y_Z_grow) ∈ WS := WSi_10 (List.mem_of_getElem? (i := 31) rfl)
theorem k_632 : (Jvm.Cond.stringRef "VisitGrammar" (174 : Nat) "no such production, or a child that will not do") ∈ WS := WSi_10 (List.mem_of_getElem? (i := 32) rfl)
theorem k_633 : (Jvm.Cond.stringRef "VisitGrammar" (179 : Nat) "there are 40 nodes") ∈ WS := WSi_10 (List.mem_of_getElem? (i := 33) rfl)
theorem k_634 : (Jvm.Cond.code y_V_fell prog_1_method_11_code (1 : Nat) (Option.none : Option Jvm.ClassFile.FieldType)) ∈ WS := WSi_10 (List.mem_of_getElem? (i := 34) rfl)
theorem k_635 : (Jvm.Cond.methodLink "VisitGrammar" (185 : Nat) y_Z_clear) ∈ WS := WSi_10 (List.mem_of_getElem? (i := 35) rfl)
theorem k_636 : (Jvm.Cond.instanceMethod y_Z_clear) ∈ WS := WSi_10 (List.mem_of_getElem? (i := 36) rfl)
theorem k_637 : (Jvm.Cond.selects "VisitGrammar$Tree" y_Z_clear y_Z_clear) ∈ WS := WSi_10 (List.mem_of_getElem? (i := 37) rfl)
theorem k_638 : (Jvm.Cond.code y_V_give prog_1_method_12_code (3 : Nat) (Option.none : Option Jvm.ClassFile.FieldType)) ∈ WS := WSi_10 (List.mem_of_getElem? (i := 38) rfl)
theorem k_639 : (Jvm.Cond.fieldLinkNest "VisitGrammar" (190 : Nat) "VisitGrammar$Walk" "given" "[I" "VisitGrammar") ∈ WS := WSi_10 (List.mem_of_getElem? (i := 39) rfl)
theorem k_640 : (Jvm.Cond.stringRef "VisitGrammar" (188 : Nat) "not an attribute 0 to 3") ∈ WS := WSi_10 (List.mem_of_getElem? (i := 40) rfl)
theorem k_641 : (Jvm.Cond.code y_V_start prog_1_method_13_code (2 : Nat) (Option.none : Option Jvm.ClassFile.FieldType)) ∈ WS := WSi_10 (List.mem_of_getElem? (i := 41) rfl)
theorem k_642 : (Jvm.Cond.methodLink "VisitGrammar" (198 : Nat) y_U_begin) ∈ WS := WSi_10 (List.mem_of_getElem? (i := 42) rfl)
theorem k_643 : (Jvm.Cond.instanceMethod y_U_begin) ∈ WS := WSi_10 (List.mem_of_getElem? (i := 43) rfl)
theorem k_644 : (Jvm.Cond.selects "VisitGrammar$Walk" y_U_begin y_U_begin) ∈ WS := WSi_10 (List.mem_of_getElem? (i := 44) rfl)
theorem k_645 : (Jvm.Cond.stringRef "VisitGrammar" (196 : Nat) "no such node") ∈ WS := WSi_10 (List.mem_of_getElem? (i := 45) rfl)
theorem k_646 : (Jvm.Cond.code y_V_run prog_1_method_14_code (2 : Nat) (Option.some Jvm.ClassFile.FieldType.int)) ∈ WS := WSi_10 (List.mem_of_getElem? (i := 46) rfl)
theorem k_647 : (Jvm.Cond.fieldLinkNest "VisitGrammar" (204 : Nat) "VisitGrammar$Walk" "state" "I" "VisitGrammar") ∈ WS := WSi_10 (List.mem_of_getElem? (i := 47) rfl)
theorem k_648 : (Jvm.Cond.methodLink "VisitGrammar" (209 : Nat) y_U_advance) ∈ WS := WSi_10 (List.mem_of_getElem? (i := 48) rfl)
theorem k_649 : (Jvm.Cond.instanceMethod y_U_advance) ∈ WS := WSi_10 (List.mem_of_getElem? (i := 49) rfl)
theorem k_650 : (Jvm.Cond.selects "VisitGrammar$Walk" y_U_advance y_U_advance) ∈ WS := WSi_10 (List.mem_of_getElem? (i := 50) rfl)
theorem k_651 : (Jvm.Cond.stringRef "VisitGrammar" (202 : Nat) "steps are not 0 to 500") ∈ WS := WSi_10 (List.mem_of_getElem? (i := 51) rfl)
theorem k_652 : (Jvm.Cond.stringRef "VisitGrammar" (207 : Nat) "there is no run") ∈ WS := WSi_10 (List.mem_of_getElem? (i := 52) rfl)
theorem k_653 : (Jvm.Cond.code y_V_status prog_1_method_15_code (1 : Nat) (Option.some Jvm.ClassFile.FieldType.int)) ∈ WS := WSi_10 (List.mem_of_getElem? (i := 53) rfl)
theorem k_654 : (Jvm.Cond.code y_V_atHand prog_1_method_16_code (1 : Nat) (Option.some Jvm.ClassFile.FieldType.int)) ∈ WS := WSi_10 (List.mem_of_getElem? (i := 54) rfl)
theorem k_655 : (Jvm.Cond.fieldLinkNest "VisitGrammar" (213 : Nat) "VisitGrammar$Walk" "nodeAtHand" "I" "VisitGrammar") ∈ WS := WSi_10 (List.mem_of_getElem? (i := 55) rfl)
theorem k_656 : (Jvm.Cond.code y_V_knows prog_1_method_17_code (3 : Nat) (Option.some Jvm.ClassFile.FieldType.boolean)) ∈ WS := WSi_10 (List.mem_of_getElem? (i := 56) rfl)
theorem k_657 : (Jvm.Cond.methodLink "VisitGrammar" (216 : Nat) y_V_requireAttribute) ∈ WS := WSi_10 (List.mem_of_getElem? (i := 57) rfl)
theorem k_658 : (Jvm.Cond.instanceMethod y_V_requireAttribute) ∈ WS := WSi_10 (List.mem_of_getElem? (i := 58) rfl)
theorem k_659 : (Jvm.Cond.selects "VisitGrammar" y_V_requireAttribute y_V_requireAttribute) ∈ WS := WSi_10 (List.mem_of_getElem? (i := 59) rfl)
theorem k_660 : (Jvm.Cond.methodLink "VisitGrammar" (220 : Nat) y_U_isKnown) ∈ WS := WSi_11 (List.mem_of_getElem? (i := 0) rfl)
theorem k_661 : (Jvm.Cond.instanceMethod y_U_isKnown) ∈ WS := WSi_11 (List.mem_of_getElem? (i := 1) rfl)
theorem k_662 : (Jvm.Cond.selects "VisitGrammar$Walk" y_U_isKnown y_U_isKnown) ∈ WS := WSi_11 (List.mem_of_getElem? (i := 2) rfl)
theorem k_663 : (Jvm.Cond.code y_V_value prog_1_method_18_code (3 : Nat) (Option.some Jvm.ClassFile.FieldType.int)) ∈ WS := WSi_11 (List.mem_of_getElem? (i := 3) rfl)
theorem k_664 : (Jvm.Cond.fieldLinkNest "VisitGrammar" (225 : Nat) "VisitGrammar$Walk" "values" "[I" "VisitGrammar") ∈ WS := WSi_11 (List.mem_of_getElem? (i := 4) rfl)
theorem k_665 : (Jvm.Cond.stringRef "VisitGrammar" (223 : Nat) "the attribute is not known") ∈ WS := WSi_11 (List.mem_of_getElem? (i := 5) rfl)
theorem k_666 : (Jvm.Cond.codeWith y_L_symbol method_3_code (5 : Nat) (Option.some Jvm.ClassFile.FieldType.int) [((0 : Nat), (10 : Nat), (13 : Nat), (13 : Nat)), ((0 : Nat), (10 : Nat), (17 : Nat), (15 : Nat))]) ∈ WS := WSi_11 (List.mem_of_getElem? (i := 6) rfl)
theorem k_667 : (Jvm.Cond.methodLink "VisitGrammarLaw" (7 : Nat) y_V_symbol) ∈ WS := WSi_11 (List.mem_of_getElem? (i := 7) rfl)
theorem k_668 : (Jvm.Cond.instanceMethod y_V_symbol) ∈ WS := WSi_11 (List.mem_of_getElem? (i := 8) rfl)
theorem k_669 : (Jvm.Cond.selects "VisitGrammar" y_V_symbol y_V_symbol) ∈ WS := WSi_11 (List.mem_of_getElem? (i := 9) rfl)
theorem k_670 : (Jvm.Cond.classLink "VisitGrammarLaw" (13 : Nat) "java/lang/IllegalArgumentException") ∈ WS := WSi_11 (List.mem_of_getElem? (i := 10) rfl)
theorem k_671 : (Jvm.Cond.castable "java/lang/IllegalArgumentException" "java/lang/IllegalArgumentException") ∈ WS := WSi_11 (List.mem_of_getElem? (i := 11) rfl)
theorem k_672 : (Jvm.Cond.classLink "VisitGrammarLaw" (15 : Nat) "java/lang/IllegalStateException") ∈ WS := WSi_11 (List.mem_of_getElem? (i := 12) rfl)
theorem k_673 : (Jvm.Cond.castable "java/lang/IllegalStateException" "java/lang/IllegalStateException") ∈ WS := WSi_11 (List.mem_of_getElem? (i := 13) rfl)
theorem k_674 : (Jvm.Cond.codeWith y_L_production method_4_code (7 : Nat) (Option.some Jvm.ClassFile.FieldType.int) [((0 : Nat), (14 : Nat), (17 : Nat), (13 : Nat)), ((0 : Nat), (14 : Nat), (21 : Nat), (15 : Nat))]) ∈ WS := WSi_11 (List.mem_of_getElem? (i := 14) rfl)
theorem k_675 : (Jvm.Cond.methodLink "VisitGrammarLaw" (17 : Nat) y_V_production) ∈ WS := WSi_11 (List.mem_of_getElem? (i := 15) rfl)
theorem k_676 : (Jvm.Cond.instanceMethod y_V_production) ∈ WS := WSi_11 (List.mem_of_getElem? (i := 16) rfl)
theorem k_677 : (Jvm.Cond.selects "VisitGrammar" y_V_production y_V_production) ∈ WS := WSi_11 (List.mem_of_getElem? (i := 17) rfl)
theorem k_678 : (Jvm.Cond.codeWith y_L_rule method_5_code (7 : Nat) (Option.some Jvm.ClassFile.FieldType.int) [((0 : Nat), (11 : Nat), (14 : Nat), (25 : Nat)), ((0 : Nat), (11 : Nat), (18 : Nat), (13 : Nat))]) ∈ WS := WSi_11 (List.mem_of_getElem? (i := 18) rfl)
theorem k_679 : (Jvm.Cond.methodLink "VisitGrammarLaw" (21 : Nat) y_V_rule) ∈ WS := WSi_11 (List.mem_of_getElem? (i := 19) rfl)
theorem k_680 : (Jvm.Cond.instanceMethod y_V_rule) ∈ WS := WSi_11 (List.mem_of_getElem? (i := 20) rfl)
theorem k_681 : (Jvm.Cond.selects "VisitGrammar" y_V_rule y_V_rule) ∈ WS := WSi_11 (List.mem_of_getElem? (i := 21) rfl)
theorem k_682 : (Jvm.Cond.classLink "VisitGrammarLaw" (25 : Nat) "java/lang/IndexOutOfBoundsException") ∈ WS := WSi_11 (List.mem_of_getElem? (i := 22) rfl)
theorem k_683 : (Jvm.Cond.castable "java/lang/IndexOutOfBoundsException" "java/lang/IndexOutOfBoundsException") ∈ WS := WSi_11 (List.mem_of_getElem? (i := 23) rfl)
theorem k_684 : (Jvm.Cond.codeWith y_L_analyse method_6_code (3 : Nat) (Option.some Jvm.ClassFile.FieldType.int) [((0 : Nat), (8 : Nat), (11 : Nat), (15 : Nat)), ((0 : Nat), (8 : Nat), (14 : Nat), (31 : Nat))]) ∈ WS := WSi_11 (List.mem_of_getElem? (i := 24) rfl)
theorem k_685 : (Jvm.Cond.methodLink "VisitGrammarLaw" (27 : Nat) y_V_analyse) ∈ WS := WSi_11 (List.mem_of_getElem? (i := 25) rfl)
theorem k_686 : (Jvm.Cond.instanceMethod y_V_analyse) ∈ WS := WSi_11 (List.mem_of_getElem? (i := 26) rfl)
theorem k_687 : (Jvm.Cond.selects "VisitGrammar" y_V_analyse y_V_analyse) ∈ WS := WSi_11 (List.mem_of_getElem? (i := 27) rfl)
theorem k_688 : (Jvm.Cond.classLink "VisitGrammarLaw" (31 : Nat) "java/lang/UnsupportedOperationException") ∈ WS := WSi_11 (List.mem_of_getElem? (i := 28) rfl)
theorem k_689 : (Jvm.Cond.castable "java/lang/UnsupportedOperationException" "java/lang/UnsupportedOperationException") ∈ WS := WSi_11 (List.mem_of_getElem? (i := 29) rfl)
theorem k_690 : (Jvm.Cond.codeWith y_L_visits method_7_code (4 : Nat) (Option.some Jvm.ClassFile.FieldType.int) [((0 : Nat), (9 : Nat), (12 : Nat), (15 : Nat)), ((0 : Nat), (9 : Nat), (15 : Nat), (25 : Nat))]) ∈ WS := WSi_11 (List.mem_of_getElem? (i := 30) rfl)
theorem k_691 : (Jvm.Cond.methodLink "VisitGrammarLaw" (33 : Nat) y_V_visits) ∈ WS := WSi_11 (List.mem_of_getElem? (i := 31) rfl)
theorem k_692 : (Jvm.Cond.instanceMethod y_V_visits) ∈ WS := WSi_11 (List.mem_of_getElem? (i := 32) rfl)
theorem k_693 : (Jvm.Cond.selects "VisitGrammar" y_V_visits y_V_visits) ∈ WS := WSi_11 (List.mem_of_getElem? (i := 33) rfl)
theorem k_694 : (Jvm.Cond.codeWith y_L_rank method_8_code (5 : Nat) (Option.some Jvm.ClassFile.FieldType.int) [((0 : Nat), (10 : Nat), (13 : Nat), (15 : Nat)), ((0 : Nat), (10 : Nat), (17 : Nat), (25 : Nat))]) ∈ WS := WSi_11 (List.mem_of_getElem? (i := 34) rfl)
theorem k_695 : (Jvm.Cond.methodLink "VisitGrammarLaw" (37 : Nat) y_V_rank) ∈ WS := WSi_11 (List.mem_of_getElem? (i := 35) rfl)
theorem k_696 : (Jvm.Cond.instanceMethod y_V_rank) ∈ WS := WSi_11 (List.mem_of_getElem? (i := 36) rfl)
theorem k_697 : (Jvm.Cond.selects "VisitGrammar" y_V_rank y_V_rank) ∈ WS := WSi_11 (List.mem_of_getElem? (i := 37) rfl)
theorem k_698 : (Jvm.Cond.codeWith y_L_instruction method_9_code (5 : Nat) (Option.some Jvm.ClassFile.FieldType.int) [((0 : Nat), (10 : Nat), (13 : Nat), (15 : Nat)), ((0 : Nat), (10 : Nat), (17 : Nat), (25 : Nat))]) ∈ WS := WSi_11 (List.mem_of_getElem? (i := 38) rfl)
theorem k_699 : (Jvm.Cond.methodLink "VisitGrammarLaw" (40 : Nat) y_V_instruction) ∈ WS := WSi_11 (List.mem_of_getElem? (i := 39) rfl)
theorem k_700 : (Jvm.Cond.instanceMethod y_V_instruction) ∈ WS := WSi_11 (List.mem_of_getElem? (i := 40) rfl)
theorem k_701 : (Jvm.Cond.selects "VisitGrammar" y_V_instruction y_V_instruction) ∈ WS := WSi_11 (List.mem_of_getElem? (i := 41) rfl)
theorem k_702 : (Jvm.Cond.codeWith y_L_node method_10_code (8 : Nat) (Option.some Jvm.ClassFile.FieldType.int) [((0 : Nat), (16 : Nat), (19 : Nat), (13 : Nat)), ((0 : Nat), (16 : Nat), (23 : Nat), (15 : Nat))]) ∈ WS := WSi_11 (List.mem_of_getElem? (i := 42) rfl)
theorem k_703 : (Jvm.Cond.methodLink "VisitGrammarLaw" (43 : Nat) y_V_node) ∈ WS := WSi_11 (List.mem_of_getElem? (i := 43) rfl)
theorem k_704 : (Jvm.Cond.instanceMethod y_V_node) ∈ WS := WSi_11 (List.mem_of_getElem? (i := 44) rfl)
theorem k_705 : (Jvm.Cond.selects "VisitGrammar" y_V_node y_V_node) ∈ WS := WSi_11 (List.mem_of_getElem? (i := 45) rfl)
theorem k_706 : (Jvm.Cond.codeWith y_L_give method_11_code (4 : Nat) (Option.some Jvm.ClassFile.FieldType.int) [((0 : Nat), (6 : Nat), (9 : Nat), (25 : Nat))]) ∈ WS := WSi_11 (List.mem_of_getElem? (i := 46) rfl)
theorem k_707 : (Jvm.Cond.methodLink "VisitGrammarLaw" (47 : Nat) y_V_give) ∈ WS := WSi_11 (List.mem_of_getElem? (i := 47) rfl)
theorem k_708 : (Jvm.Cond.instanceMethod y_V_give) ∈ WS := WSi_11 (List.mem_of_getElem? (i := 48) rfl)
theorem k_709 : (Jvm.Cond.selects "VisitGrammar" y_V_give y_V_give) ∈ WS := WSi_11 (List.mem_of_getElem? (i := 49) rfl)
theorem k_710 : (Jvm.Cond.codeWith y_L_start method_12_code (3 : Nat) (Option.some Jvm.ClassFile.FieldType.int) [((0 : Nat), (5 : Nat), (8 : Nat), (15 : Nat)), ((0 : Nat), (5 : Nat), (11 : Nat), (25 : Nat))]) ∈ WS := WSi_11 (List.mem_of_getElem? (i := 50) rfl)
theorem k_711 : (Jvm.Cond.methodLink "VisitGrammarLaw" (51 : Nat) y_V_start) ∈ WS := WSi_11 (List.mem_of_getElem? (i := 51) rfl)
theorem k_712 : (Jvm.Cond.instanceMethod y_V_start) ∈ WS := WSi_11 (List.mem_of_getElem? (i := 52) rfl)
theorem k_713 : (Jvm.Cond.selects "VisitGrammar" y_V_start y_V_start) ∈ WS := WSi_11 (List.mem_of_getElem? (i := 53) rfl)
theorem k_714 : (Jvm.Cond.codeWith y_L_run method_13_code (4 : Nat) (Option.some Jvm.ClassFile.FieldType.int) [((0 : Nat), (9 : Nat), (12 : Nat), (13 : Nat)), ((0 : Nat), (9 : Nat), (15 : Nat), (15 : Nat))]) ∈ WS := WSi_11 (List.mem_of_getElem? (i := 54) rfl)
theorem k_715 : (Jvm.Cond.methodLink "VisitGrammarLaw" (55 : Nat) y_V_run) ∈ WS := WSi_11 (List.mem_of_getElem? (i := 55) rfl)
theorem k_716 : (Jvm.Cond.instanceMethod y_V_run) ∈ WS := WSi_11 (List.mem_of_getElem? (i := 56) rfl)
theorem k_717 : (Jvm.Cond.selects "VisitGrammar" y_V_run y_V_run) ∈ WS := WSi_11 (List.mem_of_getElem? (i := 57) rfl)
theorem k_718 : (Jvm.Cond.codeWith y_L_knows method_14_code (5 : Nat) (Option.some Jvm.ClassFile.FieldType.int) [((0 : Nat), (17 : Nat), (20 : Nat), (25 : Nat))]) ∈ WS := WSi_11 (List.mem_of_getElem? (i := 58) rfl)
theorem k_719 : (Jvm.Cond.methodLink "VisitGrammarLaw" (58 : Nat) y_V_knows) ∈ WS := WSi_11 (List.mem_of_getElem? (i := 59) rfl)
theorem k_720 : (Jvm.Cond.instanceMethod y_V_knows) ∈ WS := WSi_12 (List.mem_of_getElem? (i := 0) rfl)
theorem k_721 : (Jvm.Cond.selects "VisitGrammar" y_V_knows y_V_knows) ∈ WS := WSi_12 (List.mem_of_getElem? (i := 1) rfl)
theorem k_722 : (Jvm.Cond.codeWith y_L_value method_15_code (5 : Nat) (Option.some Jvm.ClassFile.FieldType.int) [((0 : Nat), (10 : Nat), (13 : Nat), (25 : Nat)), ((0 : Nat), (10 : Nat), (17 : Nat), (15 : Nat))]) ∈ WS := WSi_12 (List.mem_of_getElem? (i := 2) rfl)
theorem k_723 : (Jvm.Cond.methodLink "VisitGrammarLaw" (62 : Nat) y_V_value) ∈ WS := WSi_12 (List.mem_of_getElem? (i := 3) rfl)
theorem k_724 : (Jvm.Cond.instanceMethod y_V_value) ∈ WS := WSi_12 (List.mem_of_getElem? (i := 4) rfl)
theorem k_725 : (Jvm.Cond.selects "VisitGrammar" y_V_value y_V_value) ∈ WS := WSi_12 (List.mem_of_getElem? (i := 5) rfl)
theorem k_726 : (Jvm.Cond.code y_G_init prog_3_method_1_code (1 : Nat) (Option.none : Option Jvm.ClassFile.FieldType)) ∈ WS := WSi_12 (List.mem_of_getElem? (i := 6) rfl)
theorem k_727 : (Jvm.Cond.methodLink "VisitGrammar$Grammar" (3 : Nat) ({ cls := "java/lang/Object", name := "<init>", desc := "()V" } : Jvm.MethodName)) ∈ WS := WSi_12 (List.mem_of_getElem? (i := 7) rfl)
theorem k_728 : (Jvm.Cond.instanceMethod ({ cls := "java/lang/Object", name := "<init>", desc := "()V" } : Jvm.MethodName)) ∈ WS := WSi_12 (List.mem_of_getElem? (i := 8) rfl)
theorem k_729 : (Jvm.Cond.code ({ cls := "java/lang/Object", name := "<init>", desc := "()V" } : Jvm.MethodName) object_method_1_code (1 : Nat) (Option.none : Option Jvm.ClassFile.FieldType)) ∈ WS := WSi_12 (List.mem_of_getElem? (i := 9) rfl)
theorem k_730 : (Jvm.Cond.arrayClass Jvm.ClassFile.FieldType.int) ∈ WS := WSi_12 (List.mem_of_getElem? (i := 10) rfl)
theorem k_731 : (Jvm.Cond.code y_E_init prog_4_method_1_code (2 : Nat) (Option.none : Option Jvm.ClassFile.FieldType)) ∈ WS := WSi_12 (List.mem_of_getElem? (i := 11) rfl)
theorem k_732 : (Jvm.Cond.methodLink "VisitGrammar$Leads" (3 : Nat) ({ cls := "java/lang/Object", name := "<init>", desc := "()V" } : Jvm.MethodName)) ∈ WS := WSi_12 (List.mem_of_getElem? (i := 12) rfl)
theorem k_733 : (Jvm.Cond.code y_K_init prog_5_method_1_code (3 : Nat) (Option.none : Option Jvm.ClassFile.FieldType)) ∈ WS := WSi_12 (List.mem_of_getElem? (i := 13) rfl)
theorem k_734 : (Jvm.Cond.methodLink "VisitGrammar$Ranking" (3 : Nat) ({ cls := "java/lang/Object", name := "<init>", desc := "()V" } : Jvm.MethodName)) ∈ WS := WSi_12 (List.mem_of_getElem? (i := 14) rfl)
theorem k_735 : (Jvm.Cond.code y_Q_init prog_6_method_1_code (3 : Nat) (Option.none : Option Jvm.ClassFile.FieldType)) ∈ WS := WSi_12 (List.mem_of_getElem? (i := 15) rfl)
theorem k_736 : (Jvm.Cond.methodLink "VisitGrammar$Sequences" (3 : Nat) ({ cls := "java/lang/Object", name := "<init>", desc := "()V" } : Jvm.MethodName)) ∈ WS := WSi_12 (List.mem_of_getElem? (i := 16) rfl)
theorem k_737 : (Jvm.Cond.code y_A_init prog_2_method_1_code (2 : Nat) (Option.none : Option Jvm.ClassFile.FieldType)) ∈ WS := WSi_12 (List.mem_of_getElem? (i := 17) rfl)
theorem k_738 : (Jvm.Cond.methodLink "VisitGrammar$Analysis" (3 : Nat) ({ cls := "java/lang/Object", name := "<init>", desc := "()V" } : Jvm.MethodName)) ∈ WS := WSi_12 (List.mem_of_getElem? (i := 18) rfl)
theorem k_739 : (Jvm.Cond.classLink "VisitGrammar$Analysis" (22 : Nat) "VisitGrammar$Leads") ∈ WS := WSi_12 (List.mem_of_getElem? (i := 19) rfl)
theorem k_740 : (Jvm.Cond.instantiable "VisitGrammar$Leads" (3 : Nat)) ∈ WS := WSi_12 (List.mem_of_getElem? (i := 20) rfl)
theorem k_741 : (Jvm.Cond.methodLink "VisitGrammar$Analysis" (24 : Nat) y_E_init) ∈ WS := WSi_12 (List.mem_of_getElem? (i := 21) rfl)
theorem k_742 : (Jvm.Cond.instanceMethod y_E_init) ∈ WS := WSi_12 (List.mem_of_getElem? (i := 22) rfl)
theorem k_743 : (Jvm.Cond.classLink "VisitGrammar$Analysis" (31 : Nat) "VisitGrammar$Ranking") ∈ WS := WSi_12 (List.mem_of_getElem? (i := 23) rfl)
theorem k_744 : (Jvm.Cond.instantiable "VisitGrammar$Ranking" (5 : Nat)) ∈ WS := WSi_12 (List.mem_of_getElem? (i := 24) rfl)
theorem k_745 : (Jvm.Cond.methodLink "VisitGrammar$Analysis" (33 : Nat) y_K_init) ∈ WS := WSi_12 (List.mem_of_getElem? (i := 25) rfl)
theorem k_746 : (Jvm.Cond.instanceMethod y_K_init) ∈ WS := WSi_12 (List.mem_of_getElem? (i := 26) rfl)
theorem k_747 : (Jvm.Cond.classLink "VisitGrammar$Analysis" (40 : Nat) "VisitGrammar$Sequences") ∈ WS := WSi_12 (List.mem_of_getElem? (i := 27) rfl)
theorem k_748 : (Jvm.Cond.instantiable "VisitGrammar$Sequences" (7 : Nat)) ∈ WS := WSi_12 (List.mem_of_getElem? (i := 28) rfl)
theorem k_749 : (Jvm.Cond.methodLink "VisitGrammar$Analysis" (42 : Nat) y_Q_init) ∈ WS := WSi_12 (List.mem_of_getElem? (i := 29) rfl)
theorem k_750 : (Jvm.Cond.instanceMethod y_Q_init) ∈ WS := WSi_12 (List.mem_of_getElem? (i := 30) rfl)
theorem k_751 : (Jvm.Cond.code y_Z_init prog_7_method_1_code (2 : Nat) (Option.none : Option Jvm.ClassFile.FieldType)) ∈ WS := WSi_12 (List.mem_of_getElem? (i := 31) rfl)
theorem k_752 : (Jvm.Cond.methodLink "VisitGrammar$Tree" (3 : Nat) ({ cls := "java/lang/Object", name := "<init>", desc := "()V" } : Jvm.MethodName)) ∈ WS := WSi_12 (List.mem_of_getElem? (i := 32) rfl)
theorem k_753 : (Jvm.Cond.code y_U_init prog_8_method_1_code (4 : Nat) (Option.none : Option Jvm.ClassFile.FieldType)) ∈ WS := WSi_12 (List.mem_of_getElem? (i := 33) rfl)
theorem k_754 : (Jvm.Cond.methodLink "VisitGrammar$Walk" (3 : Nat) ({ cls := "java/lang/Object", name := "<init>", desc := "()V" } : Jvm.MethodName)) ∈ WS := WSi_12 (List.mem_of_getElem? (i := 34) rfl)
theorem k_755 : (Jvm.Cond.code y_V_init prog_1_method_1_code (1 : Nat) (Option.none : Option Jvm.ClassFile.FieldType)) ∈ WS := WSi_12 (List.mem_of_getElem? (i := 35) rfl)
theorem k_756 : (Jvm.Cond.methodLink "VisitGrammar" (3 : Nat) ({ cls := "java/lang/Object", name := "<init>", desc := "()V" } : Jvm.MethodName)) ∈ WS := WSi_12 (List.mem_of_getElem? (i := 36) rfl)
theorem k_757 : (Jvm.Cond.classLink "VisitGrammar" (9 : Nat) "VisitGrammar$Grammar") ∈ WS := WSi_12 (List.mem_of_getElem? (i := 37) rfl)
theorem k_758 : (Jvm.Cond.instantiable "VisitGrammar$Grammar" (13 : Nat)) ∈ WS := WSi_12 (List.mem_of_getElem? (i := 38) rfl)
theorem k_759 : (Jvm.Cond.methodLinkNest "VisitGrammar" (11 : Nat) y_G_init "VisitGrammar") ∈ WS := WSi_12 (List.mem_of_getElem? (i := 39) rfl)
theorem k_760 : (Jvm.Cond.instanceMethod y_G_init) ∈ WS := WSi_12 (List.mem_of_getElem? (i := 40) rfl)
theorem k_761 : (Jvm.Cond.classLink "VisitGrammar" (16 : Nat) "VisitGrammar$Analysis") ∈ WS := WSi_12 (List.mem_of_getElem? (i := 41) rfl)
theorem k_762 : (Jvm.Cond.instantiable "VisitGrammar$Analysis" (8 : Nat)) ∈ WS := WSi_12 (List.mem_of_getElem? (i := 42) rfl)
theorem k_763 : (Jvm.Cond.methodLink "VisitGrammar" (18 : Nat) y_A_init) ∈ WS := WSi_12 (List.mem_of_getElem? (i := 43) rfl)
theorem k_764 : (Jvm.Cond.instanceMethod y_A_init) ∈ WS := WSi_12 (List.mem_of_getElem? (i := 44) rfl)
theorem k_765 : (Jvm.Cond.classLink "VisitGrammar" (25 : Nat) "VisitGrammar$Tree") ∈ WS := WSi_12 (List.mem_of_getElem? (i := 45) rfl)
theorem k_766 : (Jvm.Cond.instantiable "VisitGrammar$Tree" (6 : Nat)) ∈ WS := WSi_12 (List.mem_of_getElem? (i := 46) rfl)
theorem k_767 : (Jvm.Cond.methodLink "VisitGrammar" (27 : Nat) y_Z_init) ∈ WS := WSi_12 (List.mem_of_getElem? (i := 47) rfl)
theorem k_768 : (Jvm.Cond.instanceMethod y_Z_init) ∈ WS := WSi_12 (List.mem_of_getElem? (i := 48) rfl)
theorem k_769 : (Jvm.Cond.classLink "VisitGrammar" (32 : Nat) "VisitGrammar$Walk") ∈ WS := WSi_12 (List.mem_of_getElem? (i := 49) rfl)
theorem k_770 : (Jvm.Cond.instantiable "VisitGrammar$Walk" (10 : Nat)) ∈ WS := WSi_12 (List.mem_of_getElem? (i := 50) rfl)
theorem k_771 : (Jvm.Cond.methodLink "VisitGrammar" (38 : Nat) y_U_init) ∈ WS := WSi_12 (List.mem_of_getElem? (i := 51) rfl)
theorem k_772 : (Jvm.Cond.instanceMethod y_U_init) ∈ WS := WSi_12 (List.mem_of_getElem? (i := 52) rfl)
theorem k_773 : (Jvm.Cond.code y_M_init prog_10_method_1_code (2 : Nat) (Option.none : Option Jvm.ClassFile.FieldType)) ∈ WS := WSi_12 (List.mem_of_getElem? (i := 53) rfl)
theorem k_774 : (Jvm.Cond.methodLink "VisitGrammarModel" (1 : Nat) ({ cls := "java/lang/Object", name := "<init>", desc := "()V" } : Jvm.MethodName)) ∈ WS := WSi_12 (List.mem_of_getElem? (i := 54) rfl)
theorem k_775 : (Jvm.Cond.arrayClass Jvm.ClassFile.FieldType.boolean) ∈ WS := WSi_12 (List.mem_of_getElem? (i := 55) rfl)
theorem k_776 : (Jvm.Cond.initialized "VisitGrammarLaw") ∈ WS := WSi_12 (List.mem_of_getElem? (i := 56) rfl)
theorem k_777 : (Jvm.Cond.methodLink "VisitGrammarLaw" (69 : Nat) y_L_symbol) ∈ WS := WSi_12 (List.mem_of_getElem? (i := 57) rfl)
theorem k_778 : (Jvm.Cond.static y_L_symbol) ∈ WS := WSi_12 (List.mem_of_getElem? (i := 58) rfl)
theorem k_779 : (Jvm.Cond.methodLink "VisitGrammarLaw" (74 : Nat) y_M_symbol) ∈ WS := WSi_12 (List.mem_of_getElem? (i := 59) rfl)
theorem k_780 : (Jvm.Cond.instanceMethod y_M_symbol) ∈ WS := WSi_13 (List.mem_of_getElem? (i := 0) rfl)
theorem k_781 : (Jvm.Cond.selects "VisitGrammarModel" y_M_symbol y_M_symbol) ∈ WS := WSi_13 (List.mem_of_getElem? (i := 1) rfl)
theorem k_782 : (Jvm.Cond.methodLink "VisitGrammarLaw" (75 : Nat) y_L_production) ∈ WS := WSi_13 (List.mem_of_getElem? (i := 2) rfl)
theorem k_783 : (Jvm.Cond.static y_L_production) ∈ WS := WSi_13 (List.mem_of_getElem? (i := 3) rfl)
theorem k_784 : (Jvm.Cond.methodLink "VisitGrammarLaw" (78 : Nat) y_M_production) ∈ WS := WSi_13 (List.mem_of_getElem? (i := 4) rfl)
theorem k_785 : (Jvm.Cond.instanceMethod y_M_production) ∈ WS := WSi_13 (List.mem_of_getElem? (i := 5) rfl)
theorem k_786 : (Jvm.Cond.selects "VisitGrammarModel" y_M_production y_M_production) ∈ WS := WSi_13 (List.mem_of_getElem? (i := 6) rfl)
theorem k_787 : (Jvm.Cond.methodLink "VisitGrammarLaw" (79 : Nat) y_L_rule) ∈ WS := WSi_13 (List.mem_of_getElem? (i := 7) rfl)
theorem k_788 : (Jvm.Cond.static y_L_rule) ∈ WS := WSi_13 (List.mem_of_getElem? (i := 8) rfl)
theorem k_789 : (Jvm.Cond.methodLink "VisitGrammarLaw" (82 : Nat) y_M_rule) ∈ WS := WSi_13 (List.mem_of_getElem? (i := 9) rfl)
theorem k_790 : (Jvm.Cond.instanceMethod y_M_rule) ∈ WS := WSi_13 (List.mem_of_getElem? (i := 10) rfl)
theorem k_791 : (Jvm.Cond.selects "VisitGrammarModel" y_M_rule y_M_rule) ∈ WS := WSi_13 (List.mem_of_getElem? (i := 11) rfl)
theorem k_792 : (Jvm.Cond.methodLink "VisitGrammarLaw" (83 : Nat) y_L_analyse) ∈ WS := WSi_13 (List.mem_of_getElem? (i := 12) rfl)
theorem k_793 : (Jvm.Cond.static y_L_analyse) ∈ WS := WSi_13 (List.mem_of_getElem? (i := 13) rfl)
theorem k_794 : (Jvm.Cond.methodLink "VisitGrammarLaw" (86 : Nat) y_M_analyse) ∈ WS := WSi_13 (List.mem_of_getElem? (i := 14) rfl)
theorem k_795 : (Jvm.Cond.instanceMethod y_M_analyse) ∈ WS := WSi_13 (List.mem_of_getElem? (i := 15) rfl)
theorem k_796 : (Jvm.Cond.selects "VisitGrammarModel" y_M_analyse y_M_analyse) ∈ WS := WSi_13 (List.mem_of_getElem? (i := 16) rfl)
theorem k_797 : (Jvm.Cond.methodLink "VisitGrammarLaw" (87 : Nat) y_V_fault) ∈ WS := WSi_13 (List.mem_of_getElem? (i := 17) rfl)
theorem k_798 : (Jvm.Cond.instanceMethod y_V_fault) ∈ WS := WSi_13 (List.mem_of_getElem? (i := 18) rfl)
theorem k_799 : (Jvm.Cond.selects "VisitGrammar" y_V_fault y_V_fault) ∈ WS := WSi_13 (List.mem_of_getElem? (i := 19) rfl)
theorem k_800 : (Jvm.Cond.methodLink "VisitGrammarLaw" (90 : Nat) y_M_fault) ∈ WS := WSi_13 (List.mem_of_getElem? (i := 20) rfl)
theorem k_801 : (Jvm.Cond.instanceMethod y_M_fault) ∈ WS := WSi_13 (List.mem_of_getElem? (i := 21) rfl)
theorem k_802 : (Jvm.Cond.selects "VisitGrammarModel" y_M_fault y_M_fault) ∈ WS := WSi_13 (List.mem_of_getElem? (i := 22) rfl)
theorem k_803 : (Jvm.Cond.methodLink "VisitGrammarLaw" (91 : Nat) y_L_visits) ∈ WS := WSi_13 (List.mem_of_getElem? (i := 23) rfl)
theorem k_804 : (Jvm.Cond.static y_L_visits) ∈ WS := WSi_13 (List.mem_of_getElem? (i := 24) rfl)
theorem k_805 : (Jvm.Cond.methodLink "VisitGrammarLaw" (94 : Nat) y_M_visits) ∈ WS := WSi_13 (List.mem_of_getElem? (i := 25) rfl)
theorem k_806 : (Jvm.Cond.instanceMethod y_M_visits) ∈ WS := WSi_13 (List.mem_of_getElem? (i := 26) rfl)
theorem k_807 : (Jvm.Cond.selects "VisitGrammarModel" y_M_visits y_M_visits) ∈ WS := WSi_13 (List.mem_of_getElem? (i := 27) rfl)
theorem k_808 : (Jvm.Cond.methodLink "VisitGrammarLaw" (95 : Nat) y_L_rank) ∈ WS := WSi_13 (List.mem_of_getElem? (i := 28) rfl)
theorem k_809 : (Jvm.Cond.static y_L_rank) ∈ WS := WSi_13 (List.mem_of_getElem? (i := 29) rfl)
theorem k_810 : (Jvm.Cond.methodLink "VisitGrammarLaw" (97 : Nat) y_M_rank) ∈ WS := WSi_13 (List.mem_of_getElem? (i := 30) rfl)
theorem k_811 : (Jvm.Cond.instanceMethod y_M_rank) ∈ WS := WSi_13 (List.mem_of_getElem? (i := 31) rfl)
theorem k_812 : (Jvm.Cond.selects "VisitGrammarModel" y_M_rank y_M_rank) ∈ WS := WSi_13 (List.mem_of_getElem? (i := 32) rfl)
theorem k_813 : (Jvm.Cond.methodLink "VisitGrammarLaw" (98 : Nat) y_L_instruction) ∈ WS := WSi_13 (List.mem_of_getElem? (i := 33) rfl)
theorem k_814 : (Jvm.Cond.static y_L_instruction) ∈ WS := WSi_13 (List.mem_of_getElem? (i := 34) rfl)
theorem k_815 : (Jvm.Cond.methodLink "VisitGrammarLaw" (100 : Nat) y_M_instruction) ∈ WS := WSi_13 (List.mem_of_getElem? (i := 35) rfl)
theorem k_816 : (Jvm.Cond.instanceMethod y_M_instruction) ∈ WS := WSi_13 (List.mem_of_getElem? (i := 36) rfl)
theorem k_817 : (Jvm.Cond.selects "VisitGrammarModel" y_M_instruction y_M_instruction) ∈ WS := WSi_13 (List.mem_of_getElem? (i := 37) rfl)
theorem k_818 : (Jvm.Cond.methodLink "VisitGrammarLaw" (101 : Nat) y_L_node) ∈ WS := WSi_13 (List.mem_of_getElem? (i := 38) rfl)
theorem k_819 : (Jvm.Cond.static y_L_node) ∈ WS := WSi_13 (List.mem_of_getElem? (i := 39) rfl)
theorem k_820 : (Jvm.Cond.methodLink "VisitGrammarLaw" (104 : Nat) y_M_node) ∈ WS := WSi_13 (List.mem_of_getElem? (i := 40) rfl)
theorem k_821 : (Jvm.Cond.instanceMethod y_M_node) ∈ WS := WSi_13 (List.mem_of_getElem? (i := 41) rfl)
theorem k_822 : (Jvm.Cond.selects "VisitGrammarModel" y_M_node y_M_node) ∈ WS := WSi_13 (List.mem_of_getElem? (i := 42) rfl)
theorem k_823 : (Jvm.Cond.methodLink "VisitGrammarLaw" (105 : Nat) y_V_fell) ∈ WS := WSi_13 (List.mem_of_getElem? (i := 43) rfl)
theorem k_824 : (Jvm.Cond.instanceMethod y_V_fell) ∈ WS := WSi_13 (List.mem_of_getElem? (i := 44) rfl)
theorem k_825 : (Jvm.Cond.selects "VisitGrammar" y_V_fell y_V_fell) ∈ WS := WSi_13 (List.mem_of_getElem? (i := 45) rfl)
theorem k_826 : (Jvm.Cond.methodLink "VisitGrammarLaw" (108 : Nat) y_M_fell) ∈ WS := WSi_13 (List.mem_of_getElem? (i := 46) rfl)
theorem k_827 : (Jvm.Cond.instanceMethod y_M_fell) ∈ WS := WSi_13 (List.mem_of_getElem? (i := 47) rfl)
theorem k_828 : (Jvm.Cond.selects "VisitGrammarModel" y_M_fell y_M_fell) ∈ WS := WSi_13 (List.mem_of_getElem? (i := 48) rfl)
theorem k_829 : (Jvm.Cond.methodLink "VisitGrammarLaw" (109 : Nat) y_L_give) ∈ WS := WSi_13 (List.mem_of_getElem? (i := 49) rfl)
theorem k_830 : (Jvm.Cond.static y_L_give) ∈ WS := WSi_13 (List.mem_of_getElem? (i := 50) rfl)
theorem k_831 : (Jvm.Cond.methodLink "VisitGrammarLaw" (112 : Nat) y_M_give) ∈ WS := WSi_13 (List.mem_of_getElem? (i := 51) rfl)
theorem k_832 : (Jvm.Cond.instanceMethod y_M_give) ∈ WS := WSi_13 (List.mem_of_getElem? (i := 52) rfl)
theorem k_833 : (Jvm.Cond.selects "VisitGrammarModel" y_M_give y_M_give) ∈ WS := WSi_13 (List.mem_of_getElem? (i := 53) rfl)
theorem k_834 : (Jvm.Cond.methodLink "VisitGrammarLaw" (113 : Nat) y_L_start) ∈ WS := WSi_13 (List.mem_of_getElem? (i := 54) rfl)
theorem k_835 : (Jvm.Cond.static y_L_start) ∈ WS := WSi_13 (List.mem_of_getElem? (i := 55) rfl)
theorem k_836 : (Jvm.Cond.methodLink "VisitGrammarLaw" (116 : Nat) y_M_start) ∈ WS := WSi_13 (List.mem_of_getElem? (i := 56) rfl)
theorem k_837 : (Jvm.Cond.instanceMethod y_M_start) ∈ WS := WSi_13 (List.mem_of_getElem? (i := 57) rfl)
theorem k_838 : (Jvm.Cond.selects "VisitGrammarModel" y_M_start y_M_start) ∈ WS := WSi_13 (List.mem_of_getElem? (i := 58) rfl)
theorem k_839 : (Jvm.Cond.methodLink "VisitGrammarLaw" (117 : Nat) y_L_run) ∈ WS := WSi_13 (List.mem_of_getElem? (i := 59) rfl)
theorem k_840 : (Jvm.Cond.static y_L_run) ∈ WS := WSi_14 (List.mem_of_getElem? (i := 0) rfl)
theorem k_841 : (Jvm.Cond.methodLink "VisitGrammarLaw" (119 : Nat) y_M_run) ∈ WS := WSi_14 (List.mem_of_getElem? (i := 1) rfl)
theorem k_842 : (Jvm.Cond.instanceMethod y_M_run) ∈ WS := WSi_14 (List.mem_of_getElem? (i := 2) rfl)
theorem k_843 : (Jvm.Cond.selects "VisitGrammarModel" y_M_run y_M_run) ∈ WS := WSi_14 (List.mem_of_getElem? (i := 3) rfl)
theorem k_844 : (Jvm.Cond.methodLink "VisitGrammarLaw" (120 : Nat) y_V_status) ∈ WS := WSi_14 (List.mem_of_getElem? (i := 4) rfl)
theorem k_845 : (Jvm.Cond.instanceMethod y_V_status) ∈ WS := WSi_14 (List.mem_of_getElem? (i := 5) rfl)
theorem k_846 : (Jvm.Cond.selects "VisitGrammar" y_V_status y_V_status) ∈ WS := WSi_14 (List.mem_of_getElem? (i := 6) rfl)
theorem k_847 : (Jvm.Cond.methodLink "VisitGrammarLaw" (123 : Nat) y_M_status) ∈ WS := WSi_14 (List.mem_of_getElem? (i := 7) rfl)
theorem k_848 : (Jvm.Cond.instanceMethod y_M_status) ∈ WS := WSi_14 (List.mem_of_getElem? (i := 8) rfl)
theorem k_849 : (Jvm.Cond.selects "VisitGrammarModel" y_M_status y_M_status) ∈ WS := WSi_14 (List.mem_of_getElem? (i := 9) rfl)
theorem k_850 : (Jvm.Cond.methodLink "VisitGrammarLaw" (124 : Nat) y_V_atHand) ∈ WS := WSi_14 (List.mem_of_getElem? (i := 10) rfl)
theorem k_851 : (Jvm.Cond.instanceMethod y_V_atHand) ∈ WS := WSi_14 (List.mem_of_getElem? (i := 11) rfl)
theorem k_852 : (Jvm.Cond.selects "VisitGrammar" y_V_atHand y_V_atHand) ∈ WS := WSi_14 (List.mem_of_getElem? (i := 12) rfl)
theorem k_853 : (Jvm.Cond.methodLink "VisitGrammarLaw" (127 : Nat) y_M_atHand) ∈ WS := WSi_14 (List.mem_of_getElem? (i := 13) rfl)
theorem k_854 : (Jvm.Cond.instanceMethod y_M_atHand) ∈ WS := WSi_14 (List.mem_of_getElem? (i := 14) rfl)
theorem k_855 : (Jvm.Cond.selects "VisitGrammarModel" y_M_atHand y_M_atHand) ∈ WS := WSi_14 (List.mem_of_getElem? (i := 15) rfl)
theorem k_856 : (Jvm.Cond.methodLink "VisitGrammarLaw" (128 : Nat) y_L_knows) ∈ WS := WSi_14 (List.mem_of_getElem? (i := 16) rfl)
theorem k_857 : (Jvm.Cond.static y_L_knows) ∈ WS := WSi_14 (List.mem_of_getElem? (i := 17) rfl)
theorem k_858 : (Jvm.Cond.methodLink "VisitGrammarLaw" (130 : Nat) y_M_knows) ∈ WS := WSi_14 (List.mem_of_getElem? (i := 18) rfl)
theorem k_859 : (Jvm.Cond.instanceMethod y_M_knows) ∈ WS := WSi_14 (List.mem_of_getElem? (i := 19) rfl)
theorem k_860 : (Jvm.Cond.selects "VisitGrammarModel" y_M_knows y_M_knows) ∈ WS := WSi_14 (List.mem_of_getElem? (i := 20) rfl)
theorem k_861 : (Jvm.Cond.methodLink "VisitGrammarLaw" (131 : Nat) y_L_value) ∈ WS := WSi_14 (List.mem_of_getElem? (i := 21) rfl)
theorem k_862 : (Jvm.Cond.static y_L_value) ∈ WS := WSi_14 (List.mem_of_getElem? (i := 22) rfl)
theorem k_863 : (Jvm.Cond.methodLink "VisitGrammarLaw" (133 : Nat) y_M_value) ∈ WS := WSi_14 (List.mem_of_getElem? (i := 23) rfl)
theorem k_864 : (Jvm.Cond.instanceMethod y_M_value) ∈ WS := WSi_14 (List.mem_of_getElem? (i := 24) rfl)
theorem k_865 : (Jvm.Cond.selects "VisitGrammarModel" y_M_value y_M_value) ∈ WS := WSi_14 (List.mem_of_getElem? (i := 25) rfl)
theorem k_866 : (Jvm.Cond.methodLink "VisitGrammarLaw" (134 : Nat) y_M_thrown) ∈ WS := WSi_14 (List.mem_of_getElem? (i := 26) rfl)
theorem k_867 : (Jvm.Cond.instanceMethod y_M_thrown) ∈ WS := WSi_14 (List.mem_of_getElem? (i := 27) rfl)
theorem k_868 : (Jvm.Cond.selects "VisitGrammarModel" y_M_thrown y_M_thrown) ∈ WS := WSi_14 (List.mem_of_getElem? (i := 28) rfl)
theorem k_869 : (Jvm.Cond.classLink "VisitGrammarLaw" (8 : Nat) "VisitGrammar") ∈ WS := WSi_14 (List.mem_of_getElem? (i := 29) rfl)
theorem k_870 : (Jvm.Cond.instantiable "VisitGrammar" (4 : Nat)) ∈ WS := WSi_14 (List.mem_of_getElem? (i := 30) rfl)
theorem k_871 : (Jvm.Cond.methodLink "VisitGrammarLaw" (65 : Nat) y_V_init) ∈ WS := WSi_14 (List.mem_of_getElem? (i := 31) rfl)
theorem k_872 : (Jvm.Cond.instanceMethod y_V_init) ∈ WS := WSi_14 (List.mem_of_getElem? (i := 32) rfl)
theorem k_873 : (Jvm.Cond.classLink "VisitGrammarLaw" (66 : Nat) "VisitGrammarModel") ∈ WS := WSi_14 (List.mem_of_getElem? (i := 33) rfl)
theorem k_874 : (Jvm.Cond.instantiable "VisitGrammarModel" (35 : Nat)) ∈ WS := WSi_14 (List.mem_of_getElem? (i := 34) rfl)
theorem k_875 : (Jvm.Cond.methodLink "VisitGrammarLaw" (68 : Nat) y_M_init) ∈ WS := WSi_14 (List.mem_of_getElem? (i := 35) rfl)
theorem k_876 : (Jvm.Cond.instanceMethod y_M_init) ∈ WS := WSi_14 (List.mem_of_getElem? (i := 36) rfl)
theorem k_877 : (Jvm.Cond.arrayClass Jvm.ClassFile.FieldType.long) ∈ WS := WSi_14 (List.mem_of_getElem? (i := 37) rfl)
theorem k_878 : (Jvm.Cond.initialized "java/lang/Throwable") ∈ WS := WSi_14 (List.mem_of_getElem? (i := 38) rfl)
theorem k_879 : (Jvm.Cond.initialized "java/lang/Exception") ∈ WS := WSi_14 (List.mem_of_getElem? (i := 39) rfl)
theorem k_880 : (Jvm.Cond.initialized "java/lang/RuntimeException") ∈ WS := WSi_14 (List.mem_of_getElem? (i := 40) rfl)
theorem k_881 : (Jvm.Cond.laysFinal "VisitGrammar$Grammar" "VisitGrammar$Grammar" "attributeCounts" "[I") ∈ WS := WSi_14 (List.mem_of_getElem? (i := 41) rfl)
theorem k_882 : (Jvm.Cond.laysFinal "VisitGrammar$Grammar" "VisitGrammar$Grammar" "inheritedBits" "[I") ∈ WS := WSi_14 (List.mem_of_getElem? (i := 42) rfl)
theorem k_883 : (Jvm.Cond.lays "VisitGrammar$Grammar" "VisitGrammar$Grammar" "symbolCount" "I") ∈ WS := WSi_14 (List.mem_of_getElem? (i := 43) rfl)
theorem k_884 : (Jvm.Cond.laysFinal "VisitGrammar$Grammar" "VisitGrammar$Grammar" "symbolsAt" "[I") ∈ WS := WSi_14 (List.mem_of_getElem? (i := 44) rfl)
theorem k_885 : (Jvm.Cond.laysFinal "VisitGrammar$Grammar" "VisitGrammar$Grammar" "lastPositions" "[I") ∈ WS := WSi_14 (List.mem_of_getElem? (i := 45) rfl)
theorem k_886 : (Jvm.Cond.laysFinal "VisitGrammar$Grammar" "VisitGrammar$Grammar" "presentBits" "[I") ∈ WS := WSi_14 (List.mem_of_getElem? (i := 46) rfl)
theorem k_887 : (Jvm.Cond.laysFinal "VisitGrammar$Grammar" "VisitGrammar$Grammar" "toDefineBits" "[I") ∈ WS := WSi_14 (List.mem_of_getElem? (i := 47) rfl)
theorem k_888 : (Jvm.Cond.lays "VisitGrammar$Grammar" "VisitGrammar$Grammar" "productionCount" "I") ∈ WS := WSi_14 (List.mem_of_getElem? (i := 48) rfl)
theorem k_889 : (Jvm.Cond.laysFinal "VisitGrammar$Grammar" "VisitGrammar$Grammar" "ruledBits" "[I") ∈ WS := WSi_14 (List.mem_of_getElem? (i := 49) rfl)
theorem k_890 : (Jvm.Cond.laysFinal "VisitGrammar$Grammar" "VisitGrammar$Grammar" "forms" "[I") ∈ WS := WSi_14 (List.mem_of_getElem? (i := 50) rfl)
theorem k_891 : (Jvm.Cond.laysFinal "VisitGrammar$Grammar" "VisitGrammar$Grammar" "firsts" "[I") ∈ WS := WSi_14 (List.mem_of_getElem? (i := 51) rfl)
theorem k_892 : (Jvm.Cond.laysFinal "VisitGrammar$Grammar" "VisitGrammar$Grammar" "seconds" "[I") ∈ WS := WSi_14 (List.mem_of_getElem? (i := 52) rfl)
theorem k_893 : (Jvm.Cond.laysFinal "VisitGrammar$Grammar" "VisitGrammar$Grammar" "usedBits" "[I") ∈ WS := WSi_14 (List.mem_of_getElem? (i := 53) rfl)
theorem k_894 : (Jvm.Cond.laysFinal "VisitGrammar$Leads" "VisitGrammar$Leads" "grammar" "LVisitGrammar$Grammar;") ∈ WS := WSi_14 (List.mem_of_getElem? (i := 54) rfl)
theorem k_895 : (Jvm.Cond.laysFinal "VisitGrammar$Leads" "VisitGrammar$Leads" "ofOccurrences" "[I") ∈ WS := WSi_14 (List.mem_of_getElem? (i := 55) rfl)
theorem k_896 : (Jvm.Cond.laysFinal "VisitGrammar$Leads" "VisitGrammar$Leads" "ofAttributes" "[I") ∈ WS := WSi_14 (List.mem_of_getElem? (i := 56) rfl)
theorem k_897 : (Jvm.Cond.laysFinal "VisitGrammar$Ranking" "VisitGrammar$Ranking" "grammar" "LVisitGrammar$Grammar;") ∈ WS := WSi_14 (List.mem_of_getElem? (i := 57) rfl)
theorem k_898 : (Jvm.Cond.laysFinal "VisitGrammar$Ranking" "VisitGrammar$Ranking" "leads" "LVisitGrammar$Leads;") ∈ WS := WSi_14 (List.mem_of_getElem? (i := 58) rfl)
theorem k_899 : (Jvm.Cond.laysFinal "VisitGrammar$Ranking" "VisitGrammar$Ranking" "ranks" "[I") ∈ WS := WSi_14 (List.mem_of_getElem? (i := 59) rfl)
theorem k_900 : (Jvm.Cond.laysFinal "VisitGrammar$Ranking" "VisitGrammar$Ranking" "visitCounts" "[I") ∈ WS := WSi_15 (List.mem_of_getElem? (i := 0) rfl)
theorem k_901 : (Jvm.Cond.laysFinal "VisitGrammar$Ranking" "VisitGrammar$Ranking" "belonging" "[I") ∈ WS := WSi_15 (List.mem_of_getElem? (i := 1) rfl)
theorem k_902 : (Jvm.Cond.laysFinal "VisitGrammar$Sequences" "VisitGrammar$Sequences" "grammar" "LVisitGrammar$Grammar;") ∈ WS := WSi_15 (List.mem_of_getElem? (i := 2) rfl)
theorem k_903 : (Jvm.Cond.laysFinal "VisitGrammar$Sequences" "VisitGrammar$Sequences" "ranking" "LVisitGrammar$Ranking;") ∈ WS := WSi_15 (List.mem_of_getElem? (i := 3) rfl)
theorem k_904 : (Jvm.Cond.laysFinal "VisitGrammar$Sequences" "VisitGrammar$Sequences" "instructions" "[I") ∈ WS := WSi_15 (List.mem_of_getElem? (i := 4) rfl)
theorem k_905 : (Jvm.Cond.laysFinal "VisitGrammar$Sequences" "VisitGrammar$Sequences" "lengths" "[I") ∈ WS := WSi_15 (List.mem_of_getElem? (i := 5) rfl)
theorem k_906 : (Jvm.Cond.laysFinal "VisitGrammar$Sequences" "VisitGrammar$Sequences" "visitsWritten" "[I") ∈ WS := WSi_15 (List.mem_of_getElem? (i := 6) rfl)
theorem k_907 : (Jvm.Cond.lays "VisitGrammar$Sequences" "VisitGrammar$Sequences" "setBits" "I") ∈ WS := WSi_15 (List.mem_of_getElem? (i := 7) rfl)
theorem k_908 : (Jvm.Cond.lays "VisitGrammar$Sequences" "VisitGrammar$Sequences" "knownBits" "I") ∈ WS := WSi_15 (List.mem_of_getElem? (i := 8) rfl)
theorem k_909 : (Jvm.Cond.laysFinal "VisitGrammar$Analysis" "VisitGrammar$Analysis" "grammar" "LVisitGrammar$Grammar;") ∈ WS := WSi_15 (List.mem_of_getElem? (i := 9) rfl)
theorem k_910 : (Jvm.Cond.laysFinal "VisitGrammar$Analysis" "VisitGrammar$Analysis" "leads" "LVisitGrammar$Leads;") ∈ WS := WSi_15 (List.mem_of_getElem? (i := 10) rfl)
theorem k_911 : (Jvm.Cond.laysFinal "VisitGrammar$Analysis" "VisitGrammar$Analysis" "ranking" "LVisitGrammar$Ranking;") ∈ WS := WSi_15 (List.mem_of_getElem? (i := 11) rfl)
theorem k_912 : (Jvm.Cond.laysFinal "VisitGrammar$Analysis" "VisitGrammar$Analysis" "sequences" "LVisitGrammar$Sequences;") ∈ WS := WSi_15 (List.mem_of_getElem? (i := 12) rfl)
theorem k_913 : (Jvm.Cond.lays "VisitGrammar$Analysis" "VisitGrammar$Analysis" "present" "Z") ∈ WS := WSi_15 (List.mem_of_getElem? (i := 13) rfl)
theorem k_914 : (Jvm.Cond.lays "VisitGrammar$Analysis" "VisitGrammar$Analysis" "faultKind" "I") ∈ WS := WSi_15 (List.mem_of_getElem? (i := 14) rfl)
theorem k_915 : (Jvm.Cond.lays "VisitGrammar$Analysis" "VisitGrammar$Analysis" "faultProduction" "I") ∈ WS := WSi_15 (List.mem_of_getElem? (i := 15) rfl)
theorem k_916 : (Jvm.Cond.lays "VisitGrammar$Analysis" "VisitGrammar$Analysis" "faultOccurrence" "I") ∈ WS := WSi_15 (List.mem_of_getElem? (i := 16) rfl)
theorem k_917 : (Jvm.Cond.laysFinal "VisitGrammar$Tree" "VisitGrammar$Tree" "grammar" "LVisitGrammar$Grammar;") ∈ WS := WSi_15 (List.mem_of_getElem? (i := 17) rfl)
theorem k_918 : (Jvm.Cond.laysFinal "VisitGrammar$Tree" "VisitGrammar$Tree" "productions" "[I") ∈ WS := WSi_15 (List.mem_of_getElem? (i := 18) rfl)
theorem k_919 : (Jvm.Cond.laysFinal "VisitGrammar$Tree" "VisitGrammar$Tree" "tokens" "[I") ∈ WS := WSi_15 (List.mem_of_getElem? (i := 19) rfl)
theorem k_920 : (Jvm.Cond.laysFinal "VisitGrammar$Tree" "VisitGrammar$Tree" "parents" "[I") ∈ WS := WSi_15 (List.mem_of_getElem? (i := 20) rfl)
theorem k_921 : (Jvm.Cond.laysFinal "VisitGrammar$Tree" "VisitGrammar$Tree" "nodesAt" "[I") ∈ WS := WSi_15 (List.mem_of_getElem? (i := 21) rfl)
theorem k_922 : (Jvm.Cond.lays "VisitGrammar$Tree" "VisitGrammar$Tree" "nodeCount" "I") ∈ WS := WSi_15 (List.mem_of_getElem? (i := 22) rfl)
theorem k_923 : (Jvm.Cond.laysFinal "VisitGrammar$Walk" "VisitGrammar$Walk" "grammar" "LVisitGrammar$Grammar;") ∈ WS := WSi_15 (List.mem_of_getElem? (i := 23) rfl)
theorem k_924 : (Jvm.Cond.laysFinal "VisitGrammar$Walk" "VisitGrammar$Walk" "sequences" "LVisitGrammar$Sequences;") ∈ WS := WSi_15 (List.mem_of_getElem? (i := 24) rfl)
theorem k_925 : (Jvm.Cond.laysFinal "VisitGrammar$Walk" "VisitGrammar$Walk" "tree" "LVisitGrammar$Tree;") ∈ WS := WSi_15 (List.mem_of_getElem? (i := 25) rfl)
theorem k_926 : (Jvm.Cond.laysFinal "VisitGrammar$Walk" "VisitGrammar$Walk" "given" "[I") ∈ WS := WSi_15 (List.mem_of_getElem? (i := 26) rfl)
theorem k_927 : (Jvm.Cond.laysFinal "VisitGrammar$Walk" "VisitGrammar$Walk" "values" "[I") ∈ WS := WSi_15 (List.mem_of_getElem? (i := 27) rfl)
theorem k_928 : (Jvm.Cond.laysFinal "VisitGrammar$Walk" "VisitGrammar$Walk" "knownBits" "[I") ∈ WS := WSi_15 (List.mem_of_getElem? (i := 28) rfl)
theorem k_929 : (Jvm.Cond.laysFinal "VisitGrammar$Walk" "VisitGrammar$Walk" "instructionsDone" "[I") ∈ WS := WSi_15 (List.mem_of_getElem? (i := 29) rfl)
theorem k_930 : (Jvm.Cond.lays "VisitGrammar$Walk" "VisitGrammar$Walk" "state" "I") ∈ WS := WSi_15 (List.mem_of_getElem? (i := 30) rfl)
theorem k_931 : (Jvm.Cond.lays "VisitGrammar$Walk" "VisitGrammar$Walk" "root" "I") ∈ WS := WSi_15 (List.mem_of_getElem? (i := 31) rfl)
theorem k_932 : (Jvm.Cond.lays "VisitGrammar$Walk" "VisitGrammar$Walk" "nodeAtHand" "I") ∈ WS := WSi_15 (List.mem_of_getElem? (i := 32) rfl)
theorem k_933 : (Jvm.Cond.laysFinal "VisitGrammar" "VisitGrammar" "grammar" "LVisitGrammar$Grammar;") ∈ WS := WSi_15 (List.mem_of_getElem? (i := 33) rfl)
theorem k_934 : (Jvm.Cond.laysFinal "VisitGrammar" "VisitGrammar" "analysis" "LVisitGrammar$Analysis;") ∈ WS := WSi_15 (List.mem_of_getElem? (i := 34) rfl)
theorem k_935 : (Jvm.Cond.laysFinal "VisitGrammar" "VisitGrammar" "tree" "LVisitGrammar$Tree;") ∈ WS := WSi_15 (List.mem_of_getElem? (i := 35) rfl)
theorem k_936 : (Jvm.Cond.laysFinal "VisitGrammar" "VisitGrammar" "walk" "LVisitGrammar$Walk;") ∈ WS := WSi_15 (List.mem_of_getElem? (i := 36) rfl)
theorem k_937 : (Jvm.Cond.instantiable "java/lang/IllegalArgumentException" (6 : Nat)) ∈ WS := WSi_15 (List.mem_of_getElem? (i := 37) rfl)
theorem k_938 : (Jvm.Cond.declares ({ cls := "java/lang/RuntimeException", name := "<init>", desc := "()V" } : Jvm.MethodName)) ∈ WS := WSi_15 (List.mem_of_getElem? (i := 38) rfl)
theorem k_939 : (Jvm.Cond.declares ({ cls := "java/lang/RuntimeException", name := "<init>", desc := "(Ljava/lang/String;)V" } : Jvm.MethodName)) ∈ WS := WSi_15 (List.mem_of_getElem? (i := 39) rfl)
theorem k_940 : (Jvm.Cond.declares ({ cls := "java/lang/Exception", name := "<init>", desc := "()V" } : Jvm.MethodName)) ∈ WS := WSi_15 (List.mem_of_getElem? (i := 40) rfl)
theorem k_941 : (Jvm.Cond.declares ({ cls := "java/lang/Exception", name := "<init>", desc := "(Ljava/lang/String;)V" } : Jvm.MethodName)) ∈ WS := WSi_15 (List.mem_of_getElem? (i := 41) rfl)
theorem k_942 : (Jvm.Cond.declares ({ cls := "java/lang/Throwable", name := "<init>", desc := "()V" } : Jvm.MethodName)) ∈ WS := WSi_15 (List.mem_of_getElem? (i := 42) rfl)
theorem k_943 : (Jvm.Cond.declares ({ cls := "java/lang/Throwable", name := "<init>", desc := "(Ljava/lang/String;)V" } : Jvm.MethodName)) ∈ WS := WSi_15 (List.mem_of_getElem? (i := 43) rfl)
theorem k_944 : (Jvm.Cond.selects "java/lang/IllegalArgumentException" ({ cls := "java/lang/Throwable", name := "fillInStackTrace", desc := "(I)Ljava/lang/Throwable;" } : Jvm.MethodName) ({ cls := "java/lang/Throwable", name := "fillInStackTrace", desc := "(I)Ljava/lang/Throwable;" } : Jvm.MethodName)) ∈ WS := WSi_15 (List.mem_of_getElem? (i := 44) rfl)
theorem k_945 : (Jvm.Cond.selects "java/lang/IllegalArgumentException" ({ cls := "java/lang/Throwable", name := "fillInStackTrace", desc := "()Ljava/lang/Throwable;" } : Jvm.MethodName) ({ cls := "java/lang/Throwable", name := "fillInStackTrace", desc := "()Ljava/lang/Throwable;" } : Jvm.MethodName)) ∈ WS := WSi_15 (List.mem_of_getElem? (i := 45) rfl)
theorem k_946 : (Jvm.Cond.lays "java/lang/IllegalArgumentException" "java/lang/Throwable" "cause" "Ljava/lang/Throwable;") ∈ WS := WSi_15 (List.mem_of_getElem? (i := 46) rfl)
theorem k_947 : (Jvm.Cond.lays "java/lang/Throwable" "java/lang/Throwable" "cause" "Ljava/lang/Throwable;") ∈ WS := WSi_15 (List.mem_of_getElem? (i := 47) rfl)
theorem k_948 : (Jvm.Cond.lays "java/lang/IllegalArgumentException" "java/lang/Throwable" "stackTrace" "[Ljava/lang/StackTraceElement;") ∈ WS := WSi_15 (List.mem_of_getElem? (i := 48) rfl)
theorem k_949 : (Jvm.Cond.lays "java/lang/Throwable" "java/lang/Throwable" "stackTrace" "[Ljava/lang/StackTraceElement;") ∈ WS := WSi_15 (List.mem_of_getElem? (i := 49) rfl)
theorem k_950 : (Jvm.Cond.lays "java/lang/IllegalArgumentException" "java/lang/Throwable" "suppressedExceptions" "Ljava/util/List;") ∈ WS := WSi_15 (List.mem_of_getElem? (i := 50) rfl)
theorem k_951 : (Jvm.Cond.lays "java/lang/Throwable" "java/lang/Throwable" "suppressedExceptions" "Ljava/util/List;") ∈ WS := WSi_15 (List.mem_of_getElem? (i := 51) rfl)
theorem k_952 : (Jvm.Cond.lays "java/lang/IllegalArgumentException" "java/lang/Throwable" "detailMessage" "Ljava/lang/String;") ∈ WS := WSi_15 (List.mem_of_getElem? (i := 52) rfl)
theorem k_953 : (Jvm.Cond.lays "java/lang/Throwable" "java/lang/Throwable" "detailMessage" "Ljava/lang/String;") ∈ WS := WSi_15 (List.mem_of_getElem? (i := 53) rfl)
theorem k_954 : (Jvm.Cond.lays "java/lang/IllegalArgumentException" "java/lang/Throwable" "backtrace" "Ljava/lang/Object;") ∈ WS := WSi_15 (List.mem_of_getElem? (i := 54) rfl)
theorem k_955 : (Jvm.Cond.lays "java/lang/Throwable" "java/lang/Throwable" "backtrace" "Ljava/lang/Object;") ∈ WS := WSi_15 (List.mem_of_getElem? (i := 55) rfl)
theorem k_956 : (Jvm.Cond.fieldLink "java/lang/Throwable" (198 : Nat) "java/lang/Throwable" "backtrace" "Ljava/lang/Object;") ∈ WS := WSi_15 (List.mem_of_getElem? (i := 56) rfl)
theorem k_957 : (Jvm.Cond.instanceMethod ({ cls := "java/lang/Throwable", name := "<init>", desc := "()V" } : Jvm.MethodName)) ∈ WS := WSi_15 (List.mem_of_getElem? (i := 57) rfl)
theorem k_958 : (Jvm.Cond.code ({ cls := "java/lang/Throwable", name := "<init>", desc := "()V" } : Jvm.MethodName) prog_20_method_1_code (1 : Nat) (Option.none : Option Jvm.ClassFile.FieldType)) ∈ WS := WSi_15 (List.mem_of_getElem? (i := 58) rfl)
theorem k_959 : (Jvm.Cond.methodLink "java/lang/Throwable" (1 : Nat) ({ cls := "java/lang/Object", name := "<init>", desc := "()V" } : Jvm.MethodName)) ∈ WS := WSi_15 (List.mem_of_getElem? (i := 59) rfl)
theorem k_960 : (Jvm.Cond.fieldLink "java/lang/Throwable" (13 : Nat) "java/lang/Throwable" "UNASSIGNED_STACK" "[Ljava/lang/StackTraceElement;") ∈ WS := WSi_16 (List.mem_of_getElem? (i := 0) rfl)
theorem k_961 : (Jvm.Cond.fieldLink "java/lang/Throwable" (20 : Nat) "java/lang/Throwable" "SUPPRESSED_SENTINEL" "Ljava/util/List;") ∈ WS := WSi_16 (List.mem_of_getElem? (i := 1) rfl)
theorem k_962 : (Jvm.Cond.methodLink "java/lang/Throwable" (27 : Nat) ({ cls := "java/lang/Throwable", name := "fillInStackTrace", desc := "()Ljava/lang/Throwable;" } : Jvm.MethodName)) ∈ WS := WSi_16 (List.mem_of_getElem? (i := 2) rfl)
theorem k_963 : (Jvm.Cond.instanceMethod ({ cls := "java/lang/Throwable", name := "fillInStackTrace", desc := "()Ljava/lang/Throwable;" } : Jvm.MethodName)) ∈ WS := WSi_16 (List.mem_of_getElem? (i := 3) rfl)
theorem k_964 : (Jvm.Cond.selects "java/lang/IllegalStateException" ({ cls := "java/lang/Throwable", name := "fillInStackTrace", desc := "()Ljava/lang/Throwable;" } : Jvm.MethodName) ({ cls := "java/lang/Throwable", name := "fillInStackTrace", desc := "()Ljava/lang/Throwable;" } : Jvm.MethodName)) ∈ WS := WSi_16 (List.mem_of_getElem? (i := 4) rfl)
theorem k_965 : (Jvm.Cond.selects "java/lang/IndexOutOfBoundsException" ({ cls := "java/lang/Throwable", name := "fillInStackTrace", desc := "()Ljava/lang/Throwable;" } : Jvm.MethodName) ({ cls := "java/lang/Throwable", name := "fillInStackTrace", desc := "()Ljava/lang/Throwable;" } : Jvm.MethodName)) ∈ WS := WSi_16 (List.mem_of_getElem? (i := 5) rfl)
theorem k_966 : (Jvm.Cond.selects "java/lang/UnsupportedOperationException" ({ cls := "java/lang/Throwable", name := "fillInStackTrace", desc := "()Ljava/lang/Throwable;" } : Jvm.MethodName) ({ cls := "java/lang/Throwable", name := "fillInStackTrace", desc := "()Ljava/lang/Throwable;" } : Jvm.MethodName)) ∈ WS := WSi_16 (List.mem_of_getElem? (i := 6) rfl)
theorem k_967 : (Jvm.Cond.codeSync ({ cls := "java/lang/Throwable", name := "fillInStackTrace", desc := "()Ljava/lang/Throwable;" } : Jvm.MethodName) prog_20_method_18_code (1 : Nat) (Option.some (Jvm.ClassFile.FieldType.object "java/lang/Throwable"))) ∈ WS := WSi_16 (List.mem_of_getElem? (i := 7) rfl)
theorem k_968 : (Jvm.Cond.methodLink "java/lang/Throwable" (202 : Nat) ({ cls := "java/lang/Throwable", name := "fillInStackTrace", desc := "(I)Ljava/lang/Throwable;" } : Jvm.MethodName)) ∈ WS := WSi_16 (List.mem_of_getElem? (i := 8) rfl)
theorem k_969 : (Jvm.Cond.instanceMethod ({ cls := "java/lang/Throwable", name := "fillInStackTrace", desc := "(I)Ljava/lang/Throwable;" } : Jvm.MethodName)) ∈ WS := WSi_16 (List.mem_of_getElem? (i := 9) rfl)
theorem k_970 : (Jvm.Cond.instantiable "java/lang/Throwable" (6 : Nat)) ∈ WS := WSi_16 (List.mem_of_getElem? (i := 10) rfl)
theorem k_971 : (Jvm.Cond.native ({ cls := "java/lang/Throwable", name := "fillInStackTrace", desc := "(I)Ljava/lang/Throwable;" } : Jvm.MethodName)) ∈ WS := WSi_16 (List.mem_of_getElem? (i := 11) rfl)
theorem k_972 : (Jvm.Cond.instanceMethod ({ cls := "java/lang/IllegalArgumentException", name := "<init>", desc := "(Ljava/lang/String;)V" } : Jvm.MethodName)) ∈ WS := WSi_16 (List.mem_of_getElem? (i := 12) rfl)
theorem k_973 : (Jvm.Cond.code ({ cls := "java/lang/IllegalArgumentException", name := "<init>", desc := "(Ljava/lang/String;)V" } : Jvm.MethodName) prog_12_method_2_code (2 : Nat) (Option.none : Option Jvm.ClassFile.FieldType)) ∈ WS := WSi_16 (List.mem_of_getElem? (i := 13) rfl)
theorem k_974 : (Jvm.Cond.methodLink "java/lang/IllegalArgumentException" (7 : Nat) ({ cls := "java/lang/RuntimeException", name := "<init>", desc := "(Ljava/lang/String;)V" } : Jvm.MethodName)) ∈ WS := WSi_16 (List.mem_of_getElem? (i := 14) rfl)
theorem k_975 : (Jvm.Cond.instanceMethod ({ cls := "java/lang/RuntimeException", name := "<init>", desc := "(Ljava/lang/String;)V" } : Jvm.MethodName)) ∈ WS := WSi_16 (List.mem_of_getElem? (i := 15) rfl)
theorem k_976 : (Jvm.Cond.code ({ cls := "java/lang/RuntimeException", name := "<init>", desc := "(Ljava/lang/String;)V" } : Jvm.MethodName) prog_17_method_2_code (2 : Nat) (Option.none : Option Jvm.ClassFile.FieldType)) ∈ WS := WSi_16 (List.mem_of_getElem? (i := 16) rfl)
theorem k_977 : (Jvm.Cond.methodLink "java/lang/RuntimeException" (7 : Nat) ({ cls := "java/lang/Exception", name := "<init>", desc := "(Ljava/lang/String;)V" } : Jvm.MethodName)) ∈ WS := WSi_16 (List.mem_of_getElem? (i := 17) rfl)
theorem k_978 : (Jvm.Cond.instanceMethod ({ cls := "java/lang/Exception", name := "<init>", desc := "(Ljava/lang/String;)V" } : Jvm.MethodName)) ∈ WS := WSi_16 (List.mem_of_getElem? (i := 18) rfl)
theorem k_979 : (Jvm.Cond.code ({ cls := "java/lang/Exception", name := "<init>", desc := "(Ljava/lang/String;)V" } : Jvm.MethodName) prog_11_method_2_code (2 : Nat) (Option.none : Option Jvm.ClassFile.FieldType)) ∈ WS := WSi_16 (List.mem_of_getElem? (i := 19) rfl)
theorem k_980 : (Jvm.Cond.methodLink "java/lang/Exception" (7 : Nat) ({ cls := "java/lang/Throwable", name := "<init>", desc := "(Ljava/lang/String;)V" } : Jvm.MethodName)) ∈ WS := WSi_16 (List.mem_of_getElem? (i := 20) rfl)
theorem k_981 : (Jvm.Cond.instanceMethod ({ cls := "java/lang/Throwable", name := "<init>", desc := "(Ljava/lang/String;)V" } : Jvm.MethodName)) ∈ WS := WSi_16 (List.mem_of_getElem? (i := 21) rfl)
theorem k_982 : (Jvm.Cond.code ({ cls := "java/lang/Throwable", name := "<init>", desc := "(Ljava/lang/String;)V" } : Jvm.MethodName) prog_20_method_2_code (2 : Nat) (Option.none : Option Jvm.ClassFile.FieldType)) ∈ WS := WSi_16 (List.mem_of_getElem? (i := 22) rfl)
theorem k_983 : (Jvm.Cond.fieldLink "java/lang/Throwable" (31 : Nat) "java/lang/Throwable" "detailMessage" "Ljava/lang/String;") ∈ WS := WSi_16 (List.mem_of_getElem? (i := 23) rfl)
theorem k_984 : (Jvm.Cond.fieldLink "java/lang/Throwable" (7 : Nat) "java/lang/Throwable" "cause" "Ljava/lang/Throwable;") ∈ WS := WSi_16 (List.mem_of_getElem? (i := 24) rfl)
theorem k_985 : (Jvm.Cond.fieldLink "java/lang/Throwable" (17 : Nat) "java/lang/Throwable" "stackTrace" "[Ljava/lang/StackTraceElement;") ∈ WS := WSi_16 (List.mem_of_getElem? (i := 25) rfl)
theorem k_986 : (Jvm.Cond.fieldLink "java/lang/Throwable" (24 : Nat) "java/lang/Throwable" "suppressedExceptions" "Ljava/util/List;") ∈ WS := WSi_16 (List.mem_of_getElem? (i := 26) rfl)
theorem k_987 : (Jvm.Cond.lays "java/lang/IllegalArgumentException" "java/lang/Throwable" "depth" "I") ∈ WS := WSi_16 (List.mem_of_getElem? (i := 27) rfl)
theorem k_988 : (Jvm.Cond.arrayClass Jvm.ClassFile.FieldType.byte) ∈ WS := WSi_16 (List.mem_of_getElem? (i := 28) rfl)
theorem k_989 : (Jvm.Cond.instantiable "java/lang/IllegalStateException" (6 : Nat)) ∈ WS := WSi_16 (List.mem_of_getElem? (i := 29) rfl)
theorem k_990 : (Jvm.Cond.selects "java/lang/IllegalStateException" ({ cls := "java/lang/Throwable", name := "fillInStackTrace", desc := "(I)Ljava/lang/Throwable;" } : Jvm.MethodName) ({ cls := "java/lang/Throwable", name := "fillInStackTrace", desc := "(I)Ljava/lang/Throwable;" } : Jvm.MethodName)) ∈ WS := WSi_16 (List.mem_of_getElem? (i := 30) rfl)
theorem k_991 : (Jvm.Cond.lays "java/lang/IllegalStateException" "java/lang/Throwable" "cause" "Ljava/lang/Throwable;") ∈ WS := WSi_16 (List.mem_of_getElem? (i := 31) rfl)
theorem k_992 : (Jvm.Cond.lays "java/lang/IllegalStateException" "java/lang/Throwable" "stackTrace" "[Ljava/lang/StackTraceElement;") ∈ WS := WSi_16 (List.mem_of_getElem? (i := 32) rfl)
theorem k_993 : (Jvm.Cond.lays "java/lang/IllegalStateException" "java/lang/Throwable" "suppressedExceptions" "Ljava/util/List;") ∈ WS := WSi_16 (List.mem_of_getElem? (i := 33) rfl)
theorem k_994 : (Jvm.Cond.lays "java/lang/IllegalStateException" "java/lang/Throwable" "detailMessage" "Ljava/lang/String;") ∈ WS := WSi_16 (List.mem_of_getElem? (i := 34) rfl)
theorem k_995 : (Jvm.Cond.lays "java/lang/IllegalStateException" "java/lang/Throwable" "backtrace" "Ljava/lang/Object;") ∈ WS := WSi_16 (List.mem_of_getElem? (i := 35) rfl)
theorem k_996 : (Jvm.Cond.instanceMethod ({ cls := "java/lang/IllegalStateException", name := "<init>", desc := "(Ljava/lang/String;)V" } : Jvm.MethodName)) ∈ WS := WSi_16 (List.mem_of_getElem? (i := 36) rfl)
theorem k_997 : (Jvm.Cond.code ({ cls := "java/lang/IllegalStateException", name := "<init>", desc := "(Ljava/lang/String;)V" } : Jvm.MethodName) prog_13_method_2_code (2 : Nat) (Option.none : Option Jvm.ClassFile.FieldType)) ∈ WS := WSi_16 (List.mem_of_getElem? (i := 37) rfl)
theorem k_998 : (Jvm.Cond.methodLink "java/lang/IllegalStateException" (7 : Nat) ({ cls := "java/lang/RuntimeException", name := "<init>", desc := "(Ljava/lang/String;)V" } : Jvm.MethodName)) ∈ WS := WSi_16 (List.mem_of_getElem? (i := 38) rfl)
theorem k_999 : (Jvm.Cond.lays "java/lang/IllegalStateException" "java/lang/Throwable" "depth" "I") ∈ WS := WSi_16 (List.mem_of_getElem? (i := 39) rfl)
theorem k_1000 : (Jvm.Cond.instantiable "java/lang/IndexOutOfBoundsException" (6 : Nat)) ∈ WS := WSi_16 (List.mem_of_getElem? (i := 40) rfl)
theorem k_1001 : (Jvm.Cond.selects "java/lang/IndexOutOfBoundsException" ({ cls := "java/lang/Throwable", name := "fillInStackTrace", desc := "(I)Ljava/lang/Throwable;" } : Jvm.MethodName) ({ cls := "java/lang/Throwable", name := "fillInStackTrace", desc := "(I)Ljava/lang/Throwable;" } : Jvm.MethodName)) ∈ WS := WSi_16 (List.mem_of_getElem? (i := 41) rfl)
theorem k_1002 : (Jvm.Cond.lays "java/lang/IndexOutOfBoundsException" "java/lang/Throwable" "cause" "Ljava/lang/Throwable;") ∈ WS := WSi_16 (List.mem_of_getElem? (i := 42) rfl)
theorem k_1003 : (Jvm.Cond.lays "java/lang/IndexOutOfBoundsException" "java/lang/Throwable" "stackTrace" "[Ljava/lang/StackTraceElement;") ∈ WS := WSi_16 (List.mem_of_getElem? (i := 43) rfl)
theorem k_1004 : (Jvm.Cond.lays "java/lang/IndexOutOfBoundsException" "java/lang/Throwable" "suppressedExceptions" "Ljava/util/List;") ∈ WS := WSi_16 (List.mem_of_getElem? (i := 44) rfl)
theorem k_1005 : (Jvm.Cond.lays "java/lang/IndexOutOfBoundsException" "java/lang/Throwable" "detailMessage" "Ljava/lang/String;") ∈ WS := WSi_16 (List.mem_of_getElem? (i := 45) rfl)
theorem k_1006 : (Jvm.Cond.lays "java/lang/IndexOutOfBoundsException" "java/lang/Throwable" "backtrace" "Ljava/lang/Object;") ∈ WS := WSi_16 (List.mem_of_getElem? (i := 46) rfl)
theorem k_1007 : (Jvm.Cond.instanceMethod ({ cls := "java/lang/IndexOutOfBoundsException", name := "<init>", desc := "(Ljava/lang/String;)V" } : Jvm.MethodName)) ∈ WS := WSi_16 (List.mem_of_getElem? (i := 47) rfl)
theorem k_1008 : (Jvm.Cond.code ({ cls := "java/lang/IndexOutOfBoundsException", name := "<init>", desc := "(Ljava/lang/String;)V" } : Jvm.MethodName) prog_14_method_2_code (2 : Nat) (Option.none : Option Jvm.ClassFile.FieldType)) ∈ WS := WSi_16 (List.mem_of_getElem? (i := 48) rfl)
theorem k_1009 : (Jvm.Cond.methodLink "java/lang/IndexOutOfBoundsException" (7 : Nat) ({ cls := "java/lang/RuntimeException", name := "<init>", desc := "(Ljava/lang/String;)V" } : Jvm.MethodName)) ∈ WS := WSi_16 (List.mem_of_getElem? (i := 49) rfl)
theorem k_1010 : (Jvm.Cond.lays "java/lang/IndexOutOfBoundsException" "java/lang/Throwable" "depth" "I") ∈ WS := WSi_16 (List.mem_of_getElem? (i := 50) rfl)
theorem k_1011 : (Jvm.Cond.instantiable "java/lang/UnsupportedOperationException" (6 : Nat)) ∈ WS := WSi_16 (List.mem_of_getElem? (i := 51) rfl)
theorem k_1012 : (Jvm.Cond.selects "java/lang/UnsupportedOperationException" ({ cls := "java/lang/Throwable", name := "fillInStackTrace", desc := "(I)Ljava/lang/Throwable;" } : Jvm.MethodName) ({ cls := "java/lang/Throwable", name := "fillInStackTrace", desc := "(I)Ljava/lang/Throwable;" } : Jvm.MethodName)) ∈ WS := WSi_16 (List.mem_of_getElem? (i := 52) rfl)
theorem k_1013 : (Jvm.Cond.lays "java/lang/UnsupportedOperationException" "java/lang/Throwable" "cause" "Ljava/lang/Throwable;") ∈ WS := WSi_16 (List.mem_of_getElem? (i := 53) rfl)
theorem k_1014 : (Jvm.Cond.lays "java/lang/UnsupportedOperationException" "java/lang/Throwable" "stackTrace" "[Ljava/lang/StackTraceElement;") ∈ WS := WSi_16 (List.mem_of_getElem? (i := 54) rfl)
theorem k_1015 : (Jvm.Cond.lays "java/lang/UnsupportedOperationException" "java/lang/Throwable" "suppressedExceptions" "Ljava/util/List;") ∈ WS := WSi_16 (List.mem_of_getElem? (i := 55) rfl)
theorem k_1016 : (Jvm.Cond.lays "java/lang/UnsupportedOperationException" "java/lang/Throwable" "detailMessage" "Ljava/lang/String;") ∈ WS := WSi_16 (List.mem_of_getElem? (i := 56) rfl)
theorem k_1017 : (Jvm.Cond.lays "java/lang/UnsupportedOperationException" "java/lang/Throwable" "backtrace" "Ljava/lang/Object;") ∈ WS := WSi_16 (List.mem_of_getElem? (i := 57) rfl)
theorem k_1018 : (Jvm.Cond.instanceMethod ({ cls := "java/lang/UnsupportedOperationException", name := "<init>", desc := "(Ljava/lang/String;)V" } : Jvm.MethodName)) ∈ WS := WSi_16 (List.mem_of_getElem? (i := 58) rfl)
theorem k_1019 : (Jvm.Cond.code ({ cls := "java/lang/UnsupportedOperationException", name := "<init>", desc := "(Ljava/lang/String;)V" } : Jvm.MethodName) prog_21_method_2_code (2 : Nat) (Option.none : Option Jvm.ClassFile.FieldType)) ∈ WS := WSi_16 (List.mem_of_getElem? (i := 59) rfl)
theorem k_1020 : (Jvm.Cond.methodLink "java/lang/UnsupportedOperationException" (7 : Nat) ({ cls := "java/lang/RuntimeException", name := "<init>", desc := "(Ljava/lang/String;)V" } : Jvm.MethodName)) ∈ WS := WSi_17 (List.mem_of_getElem? (i := 0) rfl)
theorem k_1021 : (Jvm.Cond.lays "java/lang/UnsupportedOperationException" "java/lang/Throwable" "depth" "I") ∈ WS := WSi_17 (List.mem_of_getElem? (i := 1) rfl)
theorem k_1022 : (Jvm.Cond.lays "VisitGrammarModel" "VisitGrammarModel" "code" "I") ∈ WS := WSi_17 (List.mem_of_getElem? (i := 2) rfl)
theorem k_1023 : (Jvm.Cond.lays "VisitGrammarModel" "VisitGrammarModel" "symbols" "I") ∈ WS := WSi_17 (List.mem_of_getElem? (i := 3) rfl)
theorem k_1024 : (Jvm.Cond.laysFinal "VisitGrammarModel" "VisitGrammarModel" "attributes" "[I") ∈ WS := WSi_17 (List.mem_of_getElem? (i := 4) rfl)
theorem k_1025 : (Jvm.Cond.laysFinal "VisitGrammarModel" "VisitGrammarModel" "inherits" "[Z") ∈ WS := WSi_17 (List.mem_of_getElem? (i := 5) rfl)
theorem k_1026 : (Jvm.Cond.lays "VisitGrammarModel" "VisitGrammarModel" "productions" "I") ∈ WS := WSi_17 (List.mem_of_getElem? (i := 6) rfl)
theorem k_1027 : (Jvm.Cond.laysFinal "VisitGrammarModel" "VisitGrammarModel" "positions" "[I") ∈ WS := WSi_17 (List.mem_of_getElem? (i := 7) rfl)
theorem k_1028 : (Jvm.Cond.laysFinal "VisitGrammarModel" "VisitGrammarModel" "symbolAt" "[I") ∈ WS := WSi_17 (List.mem_of_getElem? (i := 8) rfl)
theorem k_1029 : (Jvm.Cond.laysFinal "VisitGrammarModel" "VisitGrammarModel" "form" "[I") ∈ WS := WSi_17 (List.mem_of_getElem? (i := 9) rfl)
theorem k_1030 : (Jvm.Cond.laysFinal "VisitGrammarModel" "VisitGrammarModel" "ruleX" "[I") ∈ WS := WSi_17 (List.mem_of_getElem? (i := 10) rfl)
theorem k_1031 : (Jvm.Cond.laysFinal "VisitGrammarModel" "VisitGrammarModel" "ruleY" "[I") ∈ WS := WSi_17 (List.mem_of_getElem? (i := 11) rfl)
theorem k_1032 : (Jvm.Cond.lays "VisitGrammarModel" "VisitGrammarModel" "analysed" "Z") ∈ WS := WSi_17 (List.mem_of_getElem? (i := 12) rfl)
theorem k_1033 : (Jvm.Cond.lays "VisitGrammarModel" "VisitGrammarModel" "faultKind" "I") ∈ WS := WSi_17 (List.mem_of_getElem? (i := 13) rfl)
theorem k_1034 : (Jvm.Cond.lays "VisitGrammarModel" "VisitGrammarModel" "faultProduction" "I") ∈ WS := WSi_17 (List.mem_of_getElem? (i := 14) rfl)
theorem k_1035 : (Jvm.Cond.lays "VisitGrammarModel" "VisitGrammarModel" "faultOccurrence" "I") ∈ WS := WSi_17 (List.mem_of_getElem? (i := 15) rfl)
theorem k_1036 : (Jvm.Cond.laysFinal "VisitGrammarModel" "VisitGrammarModel" "uses" "[Z") ∈ WS := WSi_17 (List.mem_of_getElem? (i := 16) rfl)
theorem k_1037 : (Jvm.Cond.laysFinal "VisitGrammarModel" "VisitGrammarModel" "leads" "[Z") ∈ WS := WSi_17 (List.mem_of_getElem? (i := 17) rfl)
theorem k_1038 : (Jvm.Cond.laysFinal "VisitGrammarModel" "VisitGrammarModel" "symbolLeads" "[Z") ∈ WS := WSi_17 (List.mem_of_getElem? (i := 18) rfl)
theorem k_1039 : (Jvm.Cond.laysFinal "VisitGrammarModel" "VisitGrammarModel" "order" "[Z") ∈ WS := WSi_17 (List.mem_of_getElem? (i := 19) rfl)
theorem k_1040 : (Jvm.Cond.laysFinal "VisitGrammarModel" "VisitGrammarModel" "rank" "[I") ∈ WS := WSi_17 (List.mem_of_getElem? (i := 20) rfl)
theorem k_1041 : (Jvm.Cond.laysFinal "VisitGrammarModel" "VisitGrammarModel" "visits" "[I") ∈ WS := WSi_17 (List.mem_of_getElem? (i := 21) rfl)
theorem k_1042 : (Jvm.Cond.laysFinal "VisitGrammarModel" "VisitGrammarModel" "length" "[I") ∈ WS := WSi_17 (List.mem_of_getElem? (i := 22) rfl)
theorem k_1043 : (Jvm.Cond.laysFinal "VisitGrammarModel" "VisitGrammarModel" "sequence" "[I") ∈ WS := WSi_17 (List.mem_of_getElem? (i := 23) rfl)
theorem k_1044 : (Jvm.Cond.laysFinal "VisitGrammarModel" "VisitGrammarModel" "set" "[Z") ∈ WS := WSi_17 (List.mem_of_getElem? (i := 24) rfl)
theorem k_1045 : (Jvm.Cond.laysFinal "VisitGrammarModel" "VisitGrammarModel" "visited" "[I") ∈ WS := WSi_17 (List.mem_of_getElem? (i := 25) rfl)
theorem k_1046 : (Jvm.Cond.lays "VisitGrammarModel" "VisitGrammarModel" "nodes" "I") ∈ WS := WSi_17 (List.mem_of_getElem? (i := 26) rfl)
theorem k_1047 : (Jvm.Cond.laysFinal "VisitGrammarModel" "VisitGrammarModel" "production" "[I") ∈ WS := WSi_17 (List.mem_of_getElem? (i := 27) rfl)
theorem k_1048 : (Jvm.Cond.laysFinal "VisitGrammarModel" "VisitGrammarModel" "token" "[I") ∈ WS := WSi_17 (List.mem_of_getElem? (i := 28) rfl)
theorem k_1049 : (Jvm.Cond.laysFinal "VisitGrammarModel" "VisitGrammarModel" "child" "[I") ∈ WS := WSi_17 (List.mem_of_getElem? (i := 29) rfl)
theorem k_1050 : (Jvm.Cond.laysFinal "VisitGrammarModel" "VisitGrammarModel" "parent" "[I") ∈ WS := WSi_17 (List.mem_of_getElem? (i := 30) rfl)
theorem k_1051 : (Jvm.Cond.laysFinal "VisitGrammarModel" "VisitGrammarModel" "next" "[I") ∈ WS := WSi_17 (List.mem_of_getElem? (i := 31) rfl)
theorem k_1052 : (Jvm.Cond.laysFinal "VisitGrammarModel" "VisitGrammarModel" "known" "[Z") ∈ WS := WSi_17 (List.mem_of_getElem? (i := 32) rfl)
theorem k_1053 : (Jvm.Cond.laysFinal "VisitGrammarModel" "VisitGrammarModel" "value" "[I") ∈ WS := WSi_17 (List.mem_of_getElem? (i := 33) rfl)
theorem k_1054 : (Jvm.Cond.laysFinal "VisitGrammarModel" "VisitGrammarModel" "given" "[I") ∈ WS := WSi_17 (List.mem_of_getElem? (i := 34) rfl)
theorem k_1055 : (Jvm.Cond.lays "VisitGrammarModel" "VisitGrammarModel" "root" "I") ∈ WS := WSi_17 (List.mem_of_getElem? (i := 35) rfl)
theorem k_1056 : (Jvm.Cond.lays "VisitGrammarModel" "VisitGrammarModel" "hand" "I") ∈ WS := WSi_17 (List.mem_of_getElem? (i := 36) rfl)
theorem k_1057 : (Jvm.Cond.superclass "java/lang/Throwable" "java/lang/Object") ∈ WS := WSi_17 (List.mem_of_getElem? (i := 37) rfl)
theorem k_1058 : (Jvm.Cond.sameMethod "java/lang/Throwable" "java/lang/Throwable" "fillInStackTrace" "()Ljava/lang/Throwable;") ∈ WS := WSi_17 (List.mem_of_getElem? (i := 38) rfl)
theorem k_1059 : (Jvm.Cond.privateMethod ({ cls := "java/lang/Throwable", name := "fillInStackTrace", desc := "(I)Ljava/lang/Throwable;" } : Jvm.MethodName)) ∈ WS := WSi_17 (List.mem_of_getElem? (i := 39) rfl)
theorem k_1060 : (Jvm.Cond.soleField "java/lang/Throwable" "backtrace") ∈ WS := WSi_17 (List.mem_of_getElem? (i := 40) rfl)
theorem k_1061 : (Jvm.Cond.soleField "java/lang/Throwable" "detailMessage") ∈ WS := WSi_17 (List.mem_of_getElem? (i := 41) rfl)
theorem k_1062 : (Jvm.Cond.soleField "java/lang/Throwable" "cause") ∈ WS := WSi_17 (List.mem_of_getElem? (i := 42) rfl)
theorem k_1063 : (Jvm.Cond.soleField "java/lang/Throwable" "stackTrace") ∈ WS := WSi_17 (List.mem_of_getElem? (i := 43) rfl)
theorem k_1064 : (Jvm.Cond.soleField "java/lang/Throwable" "depth") ∈ WS := WSi_17 (List.mem_of_getElem? (i := 44) rfl)
theorem k_1065 : (Jvm.Cond.soleField "java/lang/Throwable" "suppressedExceptions") ∈ WS := WSi_17 (List.mem_of_getElem? (i := 45) rfl)
theorem k_1066 : (Jvm.Cond.superclass "java/lang/IllegalArgumentException" "java/lang/RuntimeException") ∈ WS := WSi_17 (List.mem_of_getElem? (i := 46) rfl)
theorem k_1067 : (Jvm.Cond.superclass "java/lang/IllegalStateException" "java/lang/RuntimeException") ∈ WS := WSi_17 (List.mem_of_getElem? (i := 47) rfl)
theorem k_1068 : (Jvm.Cond.superclass "java/lang/IndexOutOfBoundsException" "java/lang/RuntimeException") ∈ WS := WSi_17 (List.mem_of_getElem? (i := 48) rfl)
theorem k_1069 : (Jvm.Cond.superclass "java/lang/UnsupportedOperationException" "java/lang/RuntimeException") ∈ WS := WSi_17 (List.mem_of_getElem? (i := 49) rfl)
theorem k_1070 : (Jvm.Cond.sameMethod "java/lang/Throwable" "java/lang/Throwable" "fillInStackTrace" "(I)Ljava/lang/Throwable;") ∈ WS := WSi_17 (List.mem_of_getElem? (i := 50) rfl)
def WSu_V : List Cond := [(Jvm.Cond.laysFinal "VisitGrammar" "VisitGrammar" "grammar" "LVisitGrammar$Grammar;"), (Jvm.Cond.laysFinal "VisitGrammar" "VisitGrammar" "analysis" "LVisitGrammar$Analysis;"), (Jvm.Cond.laysFinal "VisitGrammar" "VisitGrammar" "tree" "LVisitGrammar$Tree;"), (Jvm.Cond.laysFinal "VisitGrammar" "VisitGrammar" "walk" "LVisitGrammar$Walk;")]
set_option maxRecDepth 100000 in
theorem WSu_V_in : ∀ w ∈ WSu_V, w ∈ WS := we_c k_933 (we_c k_934 (we_c k_935 (we_c k_936 (we_n))))
theorem um_V : ∀ w ∈ u_ws R_V F_V 4, w ∈ WSu_V := by decide +kernel
theorem u_V : ∀ w ∈ u_ws R_V F_V 4, w ∈ WS := fun w h => WSu_V_in w (um_V w h)
theorem n_V : ∀ a, a < 4 → ∀ b, b < 4 → a ≠ b → (F_V a).2.1 ≠ (F_V b).2.1 := by decide +kernel
theorem t_V_ok : ∀ k, k < 4 → parseFieldDescriptor (F_V k).2.2.1 = some (t_V k) := by decide +kernel
theorem z_V : ∀ j, j < 4 → defaultValue (t_V j) = vp_V [.null, .null, .null, .null] j := by decide +kernel
def WSu_G : List Cond := [(Jvm.Cond.laysFinal "VisitGrammar$Grammar" "VisitGrammar$Grammar" "attributeCounts" "[I"), (Jvm.Cond.laysFinal "VisitGrammar$Grammar" "VisitGrammar$Grammar" "inheritedBits" "[I"), (Jvm.Cond.lays "VisitGrammar$Grammar" "VisitGrammar$Grammar" "symbolCount" "I"), (Jvm.Cond.laysFinal "VisitGrammar$Grammar" "VisitGrammar$Grammar" "symbolsAt" "[I"), (Jvm.Cond.laysFinal "VisitGrammar$Grammar" "VisitGrammar$Grammar" "lastPositions" "[I"), (Jvm.Cond.laysFinal "VisitGrammar$Grammar" "VisitGrammar$Grammar" "presentBits" "[I"), (Jvm.Cond.laysFinal "VisitGrammar$Grammar" "VisitGrammar$Grammar" "toDefineBits" "[I"), (Jvm.Cond.lays "VisitGrammar$Grammar" "VisitGrammar$Grammar" "productionCount" "I"), (Jvm.Cond.laysFinal "VisitGrammar$Grammar" "VisitGrammar$Grammar" "ruledBits" "[I"), (Jvm.Cond.laysFinal "VisitGrammar$Grammar" "VisitGrammar$Grammar" "forms" "[I"), (Jvm.Cond.laysFinal "VisitGrammar$Grammar" "VisitGrammar$Grammar" "firsts" "[I"), (Jvm.Cond.laysFinal "VisitGrammar$Grammar" "VisitGrammar$Grammar" "seconds" "[I"), (Jvm.Cond.laysFinal "VisitGrammar$Grammar" "VisitGrammar$Grammar" "usedBits" "[I")]
set_option maxRecDepth 100000 in
theorem WSu_G_in : ∀ w ∈ WSu_G, w ∈ WS := we_c k_881 (we_c k_882 (we_c k_883 (we_c k_884 (we_c k_885 (we_c k_886 (we_c k_887 (we_c k_888 (we_c k_889 (we_c k_890 (we_c k_891 (we_c k_892 (we_c k_893 (we_n)))))))))))))
theorem um_G : ∀ w ∈ u_ws R_G F_G 13, w ∈ WSu_G := by decide +kernel
theorem u_G : ∀ w ∈ u_ws R_G F_G 13, w ∈ WS := fun w h => WSu_G_in w (um_G w h)
theorem n_G : ∀ a, a < 13 → ∀ b, b < 13 → a ≠ b → (F_G a).2.1 ≠ (F_G b).2.1 := by decide +kernel
theorem t_G_ok : ∀ k, k < 13 → parseFieldDescriptor (F_G k).2.2.1 = some (t_G k) := by decide +kernel
theorem z_G : ∀ j, j < 13 → defaultValue (t_G j) = vp_V [.null, .null, .int 0, .null, .null, .null, .null, .int 0, .null, .null, .null, .null, .null] j := by decide +kernel
def WSu_A : List Cond := [(Jvm.Cond.laysFinal "VisitGrammar$Analysis" "VisitGrammar$Analysis" "grammar" "LVisitGrammar$Grammar;"), (Jvm.Cond.laysFinal "VisitGrammar$Analysis" "VisitGrammar$Analysis" "leads" "LVisitGrammar$Leads;"), (Jvm.Cond.laysFinal "VisitGrammar$Analysis" "VisitGrammar$Analysis" "ranking" "LVisitGrammar$Ranking;"), (Jvm.Cond.laysFinal "VisitGrammar$Analysis" "VisitGrammar$Analysis" "sequences" "LVisitGrammar$Sequences;"), (Jvm.Cond.lays "VisitGrammar$Analysis" "VisitGrammar$Analysis" "present" "Z"), (Jvm.Cond.lays "VisitGrammar$Analysis" "VisitGrammar$Analysis" "faultKind" "I"), (Jvm.Cond.lays "VisitGrammar$Analysis" "VisitGrammar$Analysis" "faultProduction" "I"), (Jvm.Cond.lays "VisitGrammar$Analysis" "VisitGrammar$Analysis" "faultOccurrence" "I")]
set_option maxRecDepth 100000 in
theorem WSu_A_in : ∀ w ∈ WSu_A, w ∈ WS := we_c k_909 (we_c k_910 (we_c k_911 (we_c k_912 (we_c k_913 (we_c k_914 (we_c k_915 (we_c k_916 (we_n))))))))
theorem um_A : ∀ w ∈ u_ws R_A F_A 8, w ∈ WSu_A := by decide +kernel
theorem u_A : ∀ w ∈ u_ws R_A F_A 8, w ∈ WS := fun w h => WSu_A_in w (um_A w h)
theorem n_A : ∀ a, a < 8 → ∀ b, b < 8 → a ≠ b → (F_A a).2.1 ≠ (F_A b).2.1 := by decide +kernel
theorem t_A_ok : ∀ k, k < 8 → parseFieldDescriptor (F_A k).2.2.1 = some (t_A k) := by decide +kernel
theorem z_A : ∀ j, j < 8 → defaultValue (t_A j) = vp_V [.null, .null, .null, .null, .int 0, .int 0, .int 0, .int 0] j := by decide +kernel
def WSu_E : List Cond := [(Jvm.Cond.laysFinal "VisitGrammar$Leads" "VisitGrammar$Leads" "grammar" "LVisitGrammar$Grammar;"), (Jvm.Cond.laysFinal "VisitGrammar$Leads" "VisitGrammar$Leads" "ofOccurrences" "[I"), (Jvm.Cond.laysFinal "VisitGrammar$Leads" "VisitGrammar$Leads" "ofAttributes" "[I")]
set_option maxRecDepth 100000 in
theorem WSu_E_in : ∀ w ∈ WSu_E, w ∈ WS := we_c k_894 (we_c k_895 (we_c k_896 (we_n)))
theorem um_E : ∀ w ∈ u_ws R_E F_E 3, w ∈ WSu_E := by decide +kernel
theorem u_E : ∀ w ∈ u_ws R_E F_E 3, w ∈ WS := fun w h => WSu_E_in w (um_E w h)
theorem n_E : ∀ a, a < 3 → ∀ b, b < 3 → a ≠ b → (F_E a).2.1 ≠ (F_E b).2.1 := by decide +kernel
theorem t_E_ok : ∀ k, k < 3 → parseFieldDescriptor (F_E k).2.2.1 = some (t_E k) := by decide +kernel
theorem z_E : ∀ j, j < 3 → defaultValue (t_E j) = vp_V [.null, .null, .null] j := by decide +kernel
def WSu_K : List Cond := [(Jvm.Cond.laysFinal "VisitGrammar$Ranking" "VisitGrammar$Ranking" "grammar" "LVisitGrammar$Grammar;"), (Jvm.Cond.laysFinal "VisitGrammar$Ranking" "VisitGrammar$Ranking" "leads" "LVisitGrammar$Leads;"), (Jvm.Cond.laysFinal "VisitGrammar$Ranking" "VisitGrammar$Ranking" "ranks" "[I"), (Jvm.Cond.laysFinal "VisitGrammar$Ranking" "VisitGrammar$Ranking" "visitCounts" "[I"), (Jvm.Cond.laysFinal "VisitGrammar$Ranking" "VisitGrammar$Ranking" "belonging" "[I")]
set_option maxRecDepth 100000 in
theorem WSu_K_in : ∀ w ∈ WSu_K, w ∈ WS := we_c k_897 (we_c k_898 (we_c k_899 (we_c k_900 (we_c k_901 (we_n)))))
theorem um_K : ∀ w ∈ u_ws R_K F_K 5, w ∈ WSu_K := by decide +kernel
theorem u_K : ∀ w ∈ u_ws R_K F_K 5, w ∈ WS := fun w h => WSu_K_in w (um_K w h)
theorem n_K : ∀ a, a < 5 → ∀ b, b < 5 → a ≠ b → (F_K a).2.1 ≠ (F_K b).2.1 := by decide +kernel
theorem t_K_ok : ∀ k, k < 5 → parseFieldDescriptor (F_K k).2.2.1 = some (t_K k) := by decide +kernel
theorem z_K : ∀ j, j < 5 → defaultValue (t_K j) = vp_V [.null, .null, .null, .null, .null] j := by decide +kernel
def WSu_Q : List Cond := [(Jvm.Cond.laysFinal "VisitGrammar$Sequences" "VisitGrammar$Sequences" "grammar" "LVisitGrammar$Grammar;"), (Jvm.Cond.laysFinal "VisitGrammar$Sequences" "VisitGrammar$Sequences" "ranking" "LVisitGrammar$Ranking;"), (Jvm.Cond.laysFinal "VisitGrammar$Sequences" "VisitGrammar$Sequences" "instructions" "[I"), (Jvm.Cond.laysFinal "VisitGrammar$Sequences" "VisitGrammar$Sequences" "lengths" "[I"), (Jvm.Cond.laysFinal "VisitGrammar$Sequences" "VisitGrammar$Sequences" "visitsWritten" "[I"), (Jvm.Cond.lays "VisitGrammar$Sequences" "VisitGrammar$Sequences" "setBits" "I"), (Jvm.Cond.lays "VisitGrammar$Sequences" "VisitGrammar$Sequences" "knownBits" "I")]
set_option maxRecDepth 100000 in
theorem WSu_Q_in : ∀ w ∈ WSu_Q, w ∈ WS := we_c k_902 (we_c k_903 (we_c k_904 (we_c k_905 (we_c k_906 (we_c k_907 (we_c k_908 (we_n)))))))
theorem um_Q : ∀ w ∈ u_ws R_Q F_Q 7, w ∈ WSu_Q := by decide +kernel
theorem u_Q : ∀ w ∈ u_ws R_Q F_Q 7, w ∈ WS := fun w h => WSu_Q_in w (um_Q w h)
theorem n_Q : ∀ a, a < 7 → ∀ b, b < 7 → a ≠ b → (F_Q a).2.1 ≠ (F_Q b).2.1 := by decide +kernel
theorem t_Q_ok : ∀ k, k < 7 → parseFieldDescriptor (F_Q k).2.2.1 = some (t_Q k) := by decide +kernel
theorem z_Q : ∀ j, j < 7 → defaultValue (t_Q j) = vp_V [.null, .null, .null, .null, .null, .int 0, .int 0] j := by decide +kernel
def WSu_Z : List Cond := [(Jvm.Cond.laysFinal "VisitGrammar$Tree" "VisitGrammar$Tree" "grammar" "LVisitGrammar$Grammar;"), (Jvm.Cond.laysFinal "VisitGrammar$Tree" "VisitGrammar$Tree" "productions" "[I"), (Jvm.Cond.laysFinal "VisitGrammar$Tree" "VisitGrammar$Tree" "tokens" "[I"), (Jvm.Cond.laysFinal "VisitGrammar$Tree" "VisitGrammar$Tree" "parents" "[I"), (Jvm.Cond.laysFinal "VisitGrammar$Tree" "VisitGrammar$Tree" "nodesAt" "[I"), (Jvm.Cond.lays "VisitGrammar$Tree" "VisitGrammar$Tree" "nodeCount" "I")]
set_option maxRecDepth 100000 in
theorem WSu_Z_in : ∀ w ∈ WSu_Z, w ∈ WS := we_c k_917 (we_c k_918 (we_c k_919 (we_c k_920 (we_c k_921 (we_c k_922 (we_n))))))
theorem um_Z : ∀ w ∈ u_ws R_Z F_Z 6, w ∈ WSu_Z := by decide +kernel
theorem u_Z : ∀ w ∈ u_ws R_Z F_Z 6, w ∈ WS := fun w h => WSu_Z_in w (um_Z w h)
theorem n_Z : ∀ a, a < 6 → ∀ b, b < 6 → a ≠ b → (F_Z a).2.1 ≠ (F_Z b).2.1 := by decide +kernel
theorem t_Z_ok : ∀ k, k < 6 → parseFieldDescriptor (F_Z k).2.2.1 = some (t_Z k) := by decide +kernel
theorem z_Z : ∀ j, j < 6 → defaultValue (t_Z j) = vp_V [.null, .null, .null, .null, .null, .int 0] j := by decide +kernel
def WSu_U : List Cond := [(Jvm.Cond.laysFinal "VisitGrammar$Walk" "VisitGrammar$Walk" "grammar" "LVisitGrammar$Grammar;"), (Jvm.Cond.laysFinal "VisitGrammar$Walk" "VisitGrammar$Walk" "sequences" "LVisitGrammar$Sequences;"), (Jvm.Cond.laysFinal "VisitGrammar$Walk" "VisitGrammar$Walk" "tree" "LVisitGrammar$Tree;"), (Jvm.Cond.laysFinal "VisitGrammar$Walk" "VisitGrammar$Walk" "given" "[I"), (Jvm.Cond.laysFinal "VisitGrammar$Walk" "VisitGrammar$Walk" "values" "[I"), (Jvm.Cond.laysFinal "VisitGrammar$Walk" "VisitGrammar$Walk" "knownBits" "[I"), (Jvm.Cond.laysFinal "VisitGrammar$Walk" "VisitGrammar$Walk" "instructionsDone" "[I"), (Jvm.Cond.lays "VisitGrammar$Walk" "VisitGrammar$Walk" "state" "I"), (Jvm.Cond.lays "VisitGrammar$Walk" "VisitGrammar$Walk" "root" "I"), (Jvm.Cond.lays "VisitGrammar$Walk" "VisitGrammar$Walk" "nodeAtHand" "I")]
set_option maxRecDepth 100000 in
theorem WSu_U_in : ∀ w ∈ WSu_U, w ∈ WS := we_c k_923 (we_c k_924 (we_c k_925 (we_c k_926 (we_c k_927 (we_c k_928 (we_c k_929 (we_c k_930 (we_c k_931 (we_c k_932 (we_n))))))))))
theorem um_U : ∀ w ∈ u_ws R_U F_U 10, w ∈ WSu_U := by decide +kernel
theorem u_U : ∀ w ∈ u_ws R_U F_U 10, w ∈ WS := fun w h => WSu_U_in w (um_U w h)
theorem n_U : ∀ a, a < 10 → ∀ b, b < 10 → a ≠ b → (F_U a).2.1 ≠ (F_U b).2.1 := by decide +kernel
theorem t_U_ok : ∀ k, k < 10 → parseFieldDescriptor (F_U k).2.2.1 = some (t_U k) := by decide +kernel
theorem z_U : ∀ j, j < 10 → defaultValue (t_U j) = vp_V [.null, .null, .null, .null, .null, .null, .null, .int 0, .int 0, .int 0] j := by decide +kernel
def WSu_M : List Cond := [(Jvm.Cond.lays "VisitGrammarModel" "VisitGrammarModel" "code" "I"), (Jvm.Cond.lays "VisitGrammarModel" "VisitGrammarModel" "symbols" "I"), (Jvm.Cond.laysFinal "VisitGrammarModel" "VisitGrammarModel" "attributes" "[I"), (Jvm.Cond.laysFinal "VisitGrammarModel" "VisitGrammarModel" "inherits" "[Z"), (Jvm.Cond.lays "VisitGrammarModel" "VisitGrammarModel" "productions" "I"), (Jvm.Cond.laysFinal "VisitGrammarModel" "VisitGrammarModel" "positions" "[I"), (Jvm.Cond.laysFinal "VisitGrammarModel" "VisitGrammarModel" "symbolAt" "[I"), (Jvm.Cond.laysFinal "VisitGrammarModel" "VisitGrammarModel" "form" "[I"), (Jvm.Cond.laysFinal "VisitGrammarModel" "VisitGrammarModel" "ruleX" "[I"), (Jvm.Cond.laysFinal "VisitGrammarModel" "VisitGrammarModel" "ruleY" "[I"), (Jvm.Cond.lays "VisitGrammarModel" "VisitGrammarModel" "analysed" "Z"), (Jvm.Cond.lays "VisitGrammarModel" "VisitGrammarModel" "faultKind" "I"), (Jvm.Cond.lays "VisitGrammarModel" "VisitGrammarModel" "faultProduction" "I"), (Jvm.Cond.lays "VisitGrammarModel" "VisitGrammarModel" "faultOccurrence" "I"), (Jvm.Cond.laysFinal "VisitGrammarModel" "VisitGrammarModel" "uses" "[Z"), (Jvm.Cond.laysFinal "VisitGrammarModel" "VisitGrammarModel" "leads" "[Z"), (Jvm.Cond.laysFinal "VisitGrammarModel" "VisitGrammarModel" "symbolLeads" "[Z"), (Jvm.Cond.laysFinal "VisitGrammarModel" "VisitGrammarModel" "order" "[Z"), (Jvm.Cond.laysFinal "VisitGrammarModel" "VisitGrammarModel" "rank" "[I"), (Jvm.Cond.laysFinal "VisitGrammarModel" "VisitGrammarModel" "visits" "[I"), (Jvm.Cond.laysFinal "VisitGrammarModel" "VisitGrammarModel" "length" "[I"), (Jvm.Cond.laysFinal "VisitGrammarModel" "VisitGrammarModel" "sequence" "[I"), (Jvm.Cond.laysFinal "VisitGrammarModel" "VisitGrammarModel" "set" "[Z"), (Jvm.Cond.laysFinal "VisitGrammarModel" "VisitGrammarModel" "visited" "[I"), (Jvm.Cond.lays "VisitGrammarModel" "VisitGrammarModel" "nodes" "I"), (Jvm.Cond.laysFinal "VisitGrammarModel" "VisitGrammarModel" "production" "[I"), (Jvm.Cond.laysFinal "VisitGrammarModel" "VisitGrammarModel" "token" "[I"), (Jvm.Cond.laysFinal "VisitGrammarModel" "VisitGrammarModel" "child" "[I"), (Jvm.Cond.laysFinal "VisitGrammarModel" "VisitGrammarModel" "parent" "[I"), (Jvm.Cond.laysFinal "VisitGrammarModel" "VisitGrammarModel" "next" "[I"), (Jvm.Cond.laysFinal "VisitGrammarModel" "VisitGrammarModel" "known" "[Z"), (Jvm.Cond.laysFinal "VisitGrammarModel" "VisitGrammarModel" "value" "[I"), (Jvm.Cond.laysFinal "VisitGrammarModel" "VisitGrammarModel" "given" "[I"), (Jvm.Cond.lays "VisitGrammarModel" "VisitGrammarModel" "root" "I"), (Jvm.Cond.lays "VisitGrammarModel" "VisitGrammarModel" "hand" "I")]
set_option maxRecDepth 100000 in
theorem WSu_M_in : ∀ w ∈ WSu_M, w ∈ WS := we_c k_1022 (we_c k_1023 (we_c k_1024 (we_c k_1025 (we_c k_1026 (we_c k_1027 (we_c k_1028 (we_c k_1029 (we_c k_1030 (we_c k_1031 (we_c k_1032 (we_c k_1033 (we_c k_1034 (we_c k_1035 (we_c k_1036 (we_c k_1037 (we_c k_1038 (we_c k_1039 (we_c k_1040 (we_c k_1041 (we_c k_1042 (we_c k_1043 (we_c k_1044 (we_c k_1045 (we_c k_1046 (we_c k_1047 (we_c k_1048 (we_c k_1049 (we_c k_1050 (we_c k_1051 (we_c k_1052 (we_c k_1053 (we_c k_1054 (we_c k_1055 (we_c k_1056 (we_n)))))))))))))))))))))))))))))))))))
theorem um_M : ∀ w ∈ u_ws R_M F_M 35, w ∈ WSu_M := by decide +kernel
theorem u_M : ∀ w ∈ u_ws R_M F_M 35, w ∈ WS := fun w h => WSu_M_in w (um_M w h)
theorem n_M : ∀ a, a < 35 → ∀ b, b < 35 → a ≠ b → (F_M a).2.1 ≠ (F_M b).2.1 := by decide +kernel
theorem t_M_ok : ∀ k, k < 35 → parseFieldDescriptor (F_M k).2.2.1 = some (t_M k) := by decide +kernel
theorem z_M : ∀ j, j < 35 → defaultValue (t_M j) = vp_V [.int 0, .int 0, .null, .null, .int 0, .null, .null, .null, .null, .null, .int 0, .int 0, .int 0, .int 0, .null, .null, .null, .null, .null, .null, .null, .null, .null, .null, .int 0, .null, .null, .null, .null, .null, .null, .null, .null, .int 0, .int 0] j := by decide +kernel
def up_names : List String := ["java/lang/RuntimeException", "java/lang/Exception"]
