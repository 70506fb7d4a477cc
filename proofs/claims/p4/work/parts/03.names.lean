abbrev mm_Me : Type := String × MethodName × ByteArray × Nat × Option FieldType × List (Nat × Nat × Nat × Nat) × Nat × Nat
def RX0 : String := "TreeBuilder$Kind"
def TX0 : u_T := fun k => match k with
  | _ => ("", "", "", false)
def tyX0 : Nat → FieldType := fun k => match k with
  | _ => .int
abbrev wsX00 : List Cond := u_ws RX0 TX0 0
theorem nmX0 : ∀ a, a < 0 → ∀ b, b < 0 → a ≠ b → (TX0 a).2.1 ≠ (TX0 b).2.1 := by decide +kernel
theorem tyX0_ok : ∀ k, k < 0 → parseFieldDescriptor (TX0 k).2.2.1 = some (tyX0 k) := by decide +kernel
abbrev cX0_exists : ByteArray := prog_2_method_2_code
def yX0_exists : MethodName := ⟨RX0, "exists", "(I)Z"⟩
abbrev cX0_beginsDecl : ByteArray := prog_2_method_3_code
def yX0_beginsDecl : MethodName := ⟨RX0, "beginsDecl", "(I)Z"⟩
abbrev cX0_beginsType : ByteArray := prog_2_method_4_code
def yX0_beginsType : MethodName := ⟨RX0, "beginsType", "(I)Z"⟩
abbrev cX0_beginsExpr : ByteArray := prog_2_method_5_code
def yX0_beginsExpr : MethodName := ⟨RX0, "beginsExpr", "(I)Z"⟩
abbrev cX0_isUnarySign : ByteArray := prog_2_method_6_code
def yX0_isUnarySign : MethodName := ⟨RX0, "isUnarySign", "(I)Z"⟩
abbrev cX0_isOpAssign : ByteArray := prog_2_method_7_code
def yX0_isOpAssign : MethodName := ⟨RX0, "isOpAssign", "(I)Z"⟩
abbrev cX0_binding : ByteArray := prog_2_method_8_code
def yX0_binding : MethodName := ⟨RX0, "binding", "(I)I"⟩
def RX1 : String := "TreeBuilder$Parser"
def TX1 : u_T := fun k => match k with
  | 0 => ("TreeBuilder$Parser", "tokens", "LTreeBuilder$Tokens;", true)
  | 1 => ("TreeBuilder$Parser", "tree", "LTreeBuilder$Tree;", true)
  | 2 => ("TreeBuilder$Parser", "waiting", "[I", true)
  | 3 => ("TreeBuilder$Parser", "waitingCount", "I", false)
  | 4 => ("TreeBuilder$Parser", "at", "I", false)
  | 5 => ("TreeBuilder$Parser", "kind", "I", false)
  | 6 => ("TreeBuilder$Parser", "open", "I", false)
  | 7 => ("TreeBuilder$Parser", "inHead", "Z", false)
  | _ => ("TreeBuilder$Parser", "guardWord", "I", false)
def tyX1 : Nat → FieldType := fun k => match k with
  | 0 => .object "TreeBuilder$Tokens"
  | 1 => .object "TreeBuilder$Tree"
  | 2 => .array .int
  | 3 => .int
  | 4 => .int
  | 5 => .int
  | 6 => .int
  | 7 => .boolean
  | _ => .int
abbrev wsX10 : List Cond := u_ws RX1 TX1 9
theorem nmX1 : ∀ a, a < 9 → ∀ b, b < 9 → a ≠ b → (TX1 a).2.1 ≠ (TX1 b).2.1 := by decide +kernel
theorem tyX1_ok : ∀ k, k < 9 → parseFieldDescriptor (TX1 k).2.2.1 = some (tyX1 k) := by decide +kernel
abbrev cX1_init : ByteArray := prog_3_method_1_code
def yX1_init : MethodName := ⟨RX1, "<init>", "(LTreeBuilder$Tokens;LTreeBuilder$Tree;)V"⟩
abbrev cX1_refuse : ByteArray := prog_3_method_2_code
def yX1_refuse : MethodName := ⟨RX1, "refuse", "()V"⟩
abbrev cX1_nextKind : ByteArray := prog_3_method_3_code
def yX1_nextKind : MethodName := ⟨RX1, "nextKind", "()I"⟩
abbrev cX1_sees : ByteArray := prog_3_method_4_code
def yX1_sees : MethodName := ⟨RX1, "sees", "(I)Z"⟩
abbrev cX1_take : ByteArray := prog_3_method_5_code
def yX1_take : MethodName := ⟨RX1, "take", "()I"⟩
abbrev cX1_accept : ByteArray := prog_3_method_6_code
def yX1_accept : MethodName := ⟨RX1, "accept", "(I)Z"⟩
abbrev cX1_expect : ByteArray := prog_3_method_7_code
def yX1_expect : MethodName := ⟨RX1, "expect", "(I)I"⟩
abbrev cX1_openPart : ByteArray := prog_3_method_8_code
def yX1_openPart : MethodName := ⟨RX1, "openPart", "()V"⟩
abbrev cX1_closePart : ByteArray := prog_3_method_9_code
def yX1_closePart : MethodName := ⟨RX1, "closePart", "()V"⟩
abbrev cX1_enter : ByteArray := prog_3_method_10_code
def yX1_enter : MethodName := ⟨RX1, "enter", "(I)I"⟩
abbrev cX1_leave : ByteArray := prog_3_method_11_code
def yX1_leave : MethodName := ⟨RX1, "leave", "(I)V"⟩
abbrev cX1_putLeaf : ByteArray := prog_3_method_12_code
def yX1_putLeaf : MethodName := ⟨RX1, "putLeaf", "(I)V"⟩
abbrev cX1_name : ByteArray := prog_3_method_13_code
def yX1_name : MethodName := ⟨RX1, "name", "()V"⟩
abbrev cX1_file : ByteArray := prog_3_method_14_code
def yX1_file : MethodName := ⟨RX1, "file", "()V"⟩
abbrev cX1_functionDecl : ByteArray := prog_3_method_15_code
def yX1_functionDecl : MethodName := ⟨RX1, "functionDecl", "()V"⟩
abbrev cX1_receiver : ByteArray := prog_3_method_16_code
def yX1_receiver : MethodName := ⟨RX1, "receiver", "()V"⟩
abbrev cX1_decl : ByteArray := prog_3_method_17_code
def yX1_decl : MethodName := ⟨RX1, "decl", "()V"⟩
abbrev cX1_groupWhat : ByteArray := prog_3_method_18_code
def yX1_groupWhat : MethodName := ⟨RX1, "groupWhat", "(I)I"⟩
abbrev cX1_group : ByteArray := prog_3_method_19_code
def yX1_group : MethodName := ⟨RX1, "group", "(I)I"⟩
abbrev cX1_spec : ByteArray := prog_3_method_20_code
def yX1_spec : MethodName := ⟨RX1, "spec", "(I)V"⟩
abbrev cX1_constSpec : ByteArray := prog_3_method_21_code
def yX1_constSpec : MethodName := ⟨RX1, "constSpec", "()V"⟩
abbrev cX1_typeSpec : ByteArray := prog_3_method_22_code
def yX1_typeSpec : MethodName := ⟨RX1, "typeSpec", "()V"⟩
abbrev cX1_varSpec : ByteArray := prog_3_method_23_code
def yX1_varSpec : MethodName := ⟨RX1, "varSpec", "()V"⟩
abbrev cX1_names : ByteArray := prog_3_method_24_code
def yX1_names : MethodName := ⟨RX1, "names", "()V"⟩
abbrev cX1_signature : ByteArray := prog_3_method_25_code
def yX1_signature : MethodName := ⟨RX1, "signature", "()V"⟩
abbrev cX1_params : ByteArray := prog_3_method_26_code
def yX1_params : MethodName := ⟨RX1, "params", "()V"⟩
abbrev cX1_param : ByteArray := prog_3_method_27_code
def yX1_param : MethodName := ⟨RX1, "param", "(II)I"⟩
abbrev cX1_type : ByteArray := prog_3_method_28_code
def yX1_type : MethodName := ⟨RX1, "type", "()V"⟩
abbrev cX1_listType : ByteArray := prog_3_method_29_code
def yX1_listType : MethodName := ⟨RX1, "listType", "()V"⟩
abbrev cX1_mapType : ByteArray := prog_3_method_30_code
def yX1_mapType : MethodName := ⟨RX1, "mapType", "()V"⟩
abbrev cX1_chanType : ByteArray := prog_3_method_31_code
def yX1_chanType : MethodName := ⟨RX1, "chanType", "()V"⟩
abbrev cX1_receiveChanType : ByteArray := prog_3_method_32_code
def yX1_receiveChanType : MethodName := ⟨RX1, "receiveChanType", "()V"⟩
abbrev cX1_pointerType : ByteArray := prog_3_method_33_code
def yX1_pointerType : MethodName := ⟨RX1, "pointerType", "()V"⟩
abbrev cX1_structType : ByteArray := prog_3_method_34_code
def yX1_structType : MethodName := ⟨RX1, "structType", "()V"⟩
abbrev cX1_functionType : ByteArray := prog_3_method_35_code
def yX1_functionType : MethodName := ⟨RX1, "functionType", "()V"⟩
abbrev cX1_interfaceType : ByteArray := prog_3_method_36_code
def yX1_interfaceType : MethodName := ⟨RX1, "interfaceType", "()V"⟩
abbrev cX1_block : ByteArray := prog_3_method_37_code
def yX1_block : MethodName := ⟨RX1, "block", "()V"⟩
abbrev cX1_stmts : ByteArray := prog_3_method_38_code
def yX1_stmts : MethodName := ⟨RX1, "stmts", "()I"⟩
abbrev cX1_stmt : ByteArray := prog_3_method_39_code
def yX1_stmt : MethodName := ⟨RX1, "stmt", "()Z"⟩
abbrev cX1_wordStmt : ByteArray := prog_3_method_40_code
def yX1_wordStmt : MethodName := ⟨RX1, "wordStmt", "()Z"⟩
abbrev cX1_startStmt : ByteArray := prog_3_method_41_code
def yX1_startStmt : MethodName := ⟨RX1, "startStmt", "(I)V"⟩
abbrev cX1_returnStmt : ByteArray := prog_3_method_42_code
def yX1_returnStmt : MethodName := ⟨RX1, "returnStmt", "()V"⟩
abbrev cX1_jumpStmt : ByteArray := prog_3_method_43_code
def yX1_jumpStmt : MethodName := ⟨RX1, "jumpStmt", "(I)V"⟩
abbrev cX1_simpleStmt : ByteArray := prog_3_method_44_code
def yX1_simpleStmt : MethodName := ⟨RX1, "simpleStmt", "()Z"⟩
abbrev cX1_labeledStmt : ByteArray := prog_3_method_45_code
def yX1_labeledStmt : MethodName := ⟨RX1, "labeledStmt", "()V"⟩
abbrev cX1_wholeSimple : ByteArray := prog_3_method_46_code
def yX1_wholeSimple : MethodName := ⟨RX1, "wholeSimple", "(I)V"⟩
abbrev cX1_simple : ByteArray := prog_3_method_47_code
def yX1_simple : MethodName := ⟨RX1, "simple", "(I)I"⟩
abbrev cX1_isNameFrom : ByteArray := prog_3_method_48_code
def yX1_isNameFrom : MethodName := ⟨RX1, "isNameFrom", "(I)Z"⟩
abbrev cX1_assign : ByteArray := prog_3_method_49_code
def yX1_assign : MethodName := ⟨RX1, "assign", "(I)I"⟩
abbrev cX1_define : ByteArray := prog_3_method_50_code
def yX1_define : MethodName := ⟨RX1, "define", "(II)I"⟩
abbrev cX1_behindExpr : ByteArray := prog_3_method_51_code
def yX1_behindExpr : MethodName := ⟨RX1, "behindExpr", "(I)I"⟩
abbrev cX1_putGuard : ByteArray := prog_3_method_52_code
def yX1_putGuard : MethodName := ⟨RX1, "putGuard", "(I)V"⟩
abbrev cX1_opening : ByteArray := prog_3_method_53_code
def yX1_opening : MethodName := ⟨RX1, "opening", "(II)I"⟩
abbrev cX1_ifStmt : ByteArray := prog_3_method_54_code
def yX1_ifStmt : MethodName := ⟨RX1, "ifStmt", "()V"⟩
abbrev cX1_elseBranch : ByteArray := prog_3_method_55_code
def yX1_elseBranch : MethodName := ⟨RX1, "elseBranch", "()V"⟩
abbrev cX1_forStmt : ByteArray := prog_3_method_56_code
def yX1_forStmt : MethodName := ⟨RX1, "forStmt", "()V"⟩
abbrev cX1_forHead : ByteArray := prog_3_method_57_code
def yX1_forHead : MethodName := ⟨RX1, "forHead", "()I"⟩
abbrev cX1_range : ByteArray := prog_3_method_58_code
def yX1_range : MethodName := ⟨RX1, "range", "(I)V"⟩
abbrev cX1_restOfForHead : ByteArray := prog_3_method_59_code
def yX1_restOfForHead : MethodName := ⟨RX1, "restOfForHead", "()V"⟩
abbrev cX1_switchStmt : ByteArray := prog_3_method_60_code
def yX1_switchStmt : MethodName := ⟨RX1, "switchStmt", "()V"⟩
abbrev cX1_tag : ByteArray := prog_3_method_61_code
def yX1_tag : MethodName := ⟨RX1, "tag", "()Z"⟩
abbrev cX1_selectStmt : ByteArray := prog_3_method_62_code
def yX1_selectStmt : MethodName := ⟨RX1, "selectStmt", "()V"⟩
abbrev cX1_clauses : ByteArray := prog_3_method_63_code
def yX1_clauses : MethodName := ⟨RX1, "clauses", "(I)I"⟩
abbrev cX1_caseClause : ByteArray := prog_3_method_64_code
def yX1_caseClause : MethodName := ⟨RX1, "caseClause", "(I)V"⟩
abbrev cX1_defaultClause : ByteArray := prog_3_method_65_code
def yX1_defaultClause : MethodName := ⟨RX1, "defaultClause", "(I)V"⟩
abbrev cX1_clauseBody : ByteArray := prog_3_method_66_code
def yX1_clauseBody : MethodName := ⟨RX1, "clauseBody", "()V"⟩
abbrev cX1_types : ByteArray := prog_3_method_67_code
def yX1_types : MethodName := ⟨RX1, "types", "()V"⟩
abbrev cX1_exprs : ByteArray := prog_3_method_68_code
def yX1_exprs : MethodName := ⟨RX1, "exprs", "()V"⟩
abbrev cX1_restOfExprs : ByteArray := prog_3_method_69_code
def yX1_restOfExprs : MethodName := ⟨RX1, "restOfExprs", "(II)V"⟩
abbrev cX1_expr : ByteArray := prog_3_method_70_code
def yX1_expr : MethodName := ⟨RX1, "expr", "(Z)V"⟩
abbrev cX1_await : ByteArray := prog_3_method_71_code
def yX1_await : MethodName := ⟨RX1, "await", "(I)V"⟩
abbrev cX1_putWaiting : ByteArray := prog_3_method_72_code
def yX1_putWaiting : MethodName := ⟨RX1, "putWaiting", "(II)V"⟩
abbrev cX1_unary : ByteArray := prog_3_method_73_code
def yX1_unary : MethodName := ⟨RX1, "unary", "(Z)V"⟩
abbrev cX1_seesUnarySign : ByteArray := prog_3_method_74_code
def yX1_seesUnarySign : MethodName := ⟨RX1, "seesUnarySign", "()Z"⟩
abbrev cX1_primary : ByteArray := prog_3_method_75_code
def yX1_primary : MethodName := ⟨RX1, "primary", "(Z)V"⟩
abbrev cX1_behindOperand : ByteArray := prog_3_method_76_code
def yX1_behindOperand : MethodName := ⟨RX1, "behindOperand", "(Z)Z"⟩
abbrev cX1_dot : ByteArray := prog_3_method_77_code
def yX1_dot : MethodName := ⟨RX1, "dot", "(Z)Z"⟩
abbrev cX1_index : ByteArray := prog_3_method_78_code
def yX1_index : MethodName := ⟨RX1, "index", "()V"⟩
abbrev cX1_upperBounds : ByteArray := prog_3_method_79_code
def yX1_upperBounds : MethodName := ⟨RX1, "upperBounds", "()I"⟩
abbrev cX1_call : ByteArray := prog_3_method_80_code
def yX1_call : MethodName := ⟨RX1, "call", "()V"⟩
abbrev cX1_operand : ByteArray := prog_3_method_81_code
def yX1_operand : MethodName := ⟨RX1, "operand", "()V"⟩
abbrev cX1_paren : ByteArray := prog_3_method_82_code
def yX1_paren : MethodName := ⟨RX1, "paren", "()V"⟩
abbrev cX1_functionOrType : ByteArray := prog_3_method_83_code
def yX1_functionOrType : MethodName := ⟨RX1, "functionOrType", "()V"⟩
abbrev cX1_countedArrayType : ByteArray := prog_3_method_84_code
def yX1_countedArrayType : MethodName := ⟨RX1, "countedArrayType", "()V"⟩
abbrev cX1_elements : ByteArray := prog_3_method_85_code
def yX1_elements : MethodName := ⟨RX1, "elements", "(II)V"⟩
abbrev cX1_value : ByteArray := prog_3_method_86_code
def yX1_value : MethodName := ⟨RX1, "value", "()V"⟩
def RX2 : String := "TreeBuilder$Tokens"
def TX2 : u_T := fun k => match k with
  | 0 => ("TreeBuilder$Tokens", "kinds", "[B", true)
  | _ => ("TreeBuilder$Tokens", "count", "I", false)
def tyX2 : Nat → FieldType := fun k => match k with
  | 0 => .array .byte
  | _ => .int
abbrev wsX20 : List Cond := u_ws RX2 TX2 2
theorem nmX2 : ∀ a, a < 2 → ∀ b, b < 2 → a ≠ b → (TX2 a).2.1 ≠ (TX2 b).2.1 := by decide +kernel
theorem tyX2_ok : ∀ k, k < 2 → parseFieldDescriptor (TX2 k).2.2.1 = some (tyX2 k) := by decide +kernel
abbrev cX2_init : ByteArray := prog_4_method_1_code
def yX2_init : MethodName := ⟨RX2, "<init>", "()V"⟩
abbrev cX2_haveRoomFor : ByteArray := prog_4_method_2_code
def yX2_haveRoomFor : MethodName := ⟨RX2, "haveRoomFor", "(I)Z"⟩
abbrev cX2_append : ByteArray := prog_4_method_3_code
def yX2_append : MethodName := ⟨RX2, "append", "(I)V"⟩
abbrev cX2_kindAt : ByteArray := prog_4_method_4_code
def yX2_kindAt : MethodName := ⟨RX2, "kindAt", "(I)I"⟩
def RX3 : String := "TreeBuilder$Tree"
def TX3 : u_T := fun k => match k with
  | 0 => ("TreeBuilder$Tree", "whats", "[I", false)
  | 1 => ("TreeBuilder$Tree", "tokens", "[I", false)
  | 2 => ("TreeBuilder$Tree", "spans", "[I", false)
  | 3 => ("TreeBuilder$Tree", "counts", "[I", false)
  | 4 => ("TreeBuilder$Tree", "places", "[I", false)
  | 5 => ("TreeBuilder$Tree", "parents", "[I", false)
  | 6 => ("TreeBuilder$Tree", "used", "I", false)
  | _ => ("TreeBuilder$Tree", "numbered", "I", false)
def tyX3 : Nat → FieldType := fun k => match k with
  | 0 => .array .int
  | 1 => .array .int
  | 2 => .array .int
  | 3 => .array .int
  | 4 => .array .int
  | 5 => .array .int
  | 6 => .int
  | _ => .int
abbrev wsX30 : List Cond := u_ws RX3 TX3 8
theorem nmX3 : ∀ a, a < 8 → ∀ b, b < 8 → a ≠ b → (TX3 a).2.1 ≠ (TX3 b).2.1 := by decide +kernel
theorem tyX3_ok : ∀ k, k < 8 → parseFieldDescriptor (TX3 k).2.2.1 = some (tyX3 k) := by decide +kernel
abbrev cX3_init : ByteArray := prog_5_method_1_code
def yX3_init : MethodName := ⟨RX3, "<init>", "()V"⟩
abbrev cX3_beginFor : ByteArray := prog_5_method_2_code
def yX3_beginFor : MethodName := ⟨RX3, "beginFor", "(I)V"⟩
abbrev cX3_makeRows : ByteArray := prog_5_method_3_code
def yX3_makeRows : MethodName := ⟨RX3, "makeRows", "(I)V"⟩
abbrev cX3_put : ByteArray := prog_5_method_4_code
def yX3_put : MethodName := ⟨RX3, "put", "(III)V"⟩
abbrev cX3_spanPutAt : ByteArray := prog_5_method_5_code
def yX3_spanPutAt : MethodName := ⟨RX3, "spanPutAt", "(I)I"⟩
abbrev cX3_number : ByteArray := prog_5_method_6_code
def yX3_number : MethodName := ⟨RX3, "number", "()V"⟩
abbrev cX3_numberChildren : ByteArray := prog_5_method_7_code
def yX3_numberChildren : MethodName := ⟨RX3, "numberChildren", "(I)V"⟩
abbrev cX3_has : ByteArray := prog_5_method_8_code
def yX3_has : MethodName := ⟨RX3, "has", "(I)Z"⟩
abbrev cX3_placeOf : ByteArray := prog_5_method_9_code
def yX3_placeOf : MethodName := ⟨RX3, "placeOf", "(I)I"⟩
abbrev cX3_read : ByteArray := prog_5_method_10_code
def yX3_read : MethodName := ⟨RX3, "read", "([II)I"⟩
abbrev cX3_whatOf : ByteArray := prog_5_method_11_code
def yX3_whatOf : MethodName := ⟨RX3, "whatOf", "(I)I"⟩
abbrev cX3_tokenOf : ByteArray := prog_5_method_12_code
def yX3_tokenOf : MethodName := ⟨RX3, "tokenOf", "(I)I"⟩
abbrev cX3_spanOf : ByteArray := prog_5_method_13_code
def yX3_spanOf : MethodName := ⟨RX3, "spanOf", "(I)I"⟩
abbrev cX3_childrenOf : ByteArray := prog_5_method_14_code
def yX3_childrenOf : MethodName := ⟨RX3, "childrenOf", "(I)I"⟩
abbrev cX3_parentOf : ByteArray := prog_5_method_15_code
def yX3_parentOf : MethodName := ⟨RX3, "parentOf", "(I)I"⟩
def RX4 : String := "TreeBuilder$What"
def TX4 : u_T := fun k => match k with
  | _ => ("", "", "", false)
def tyX4 : Nat → FieldType := fun k => match k with
  | _ => .int
abbrev wsX40 : List Cond := u_ws RX4 TX4 0
theorem nmX4 : ∀ a, a < 0 → ∀ b, b < 0 → a ≠ b → (TX4 a).2.1 ≠ (TX4 b).2.1 := by decide +kernel
theorem tyX4_ok : ∀ k, k < 0 → parseFieldDescriptor (TX4 k).2.2.1 = some (tyX4 k) := by decide +kernel
def RX5 : String := "TreeBuilder"
def TX5 : u_T := fun k => match k with
  | 0 => ("TreeBuilder", "tokens", "LTreeBuilder$Tokens;", true)
  | _ => ("TreeBuilder", "tree", "LTreeBuilder$Tree;", true)
def tyX5 : Nat → FieldType := fun k => match k with
  | 0 => .object "TreeBuilder$Tokens"
  | _ => .object "TreeBuilder$Tree"
abbrev wsX50 : List Cond := u_ws RX5 TX5 2
theorem nmX5 : ∀ a, a < 2 → ∀ b, b < 2 → a ≠ b → (TX5 a).2.1 ≠ (TX5 b).2.1 := by decide +kernel
theorem tyX5_ok : ∀ k, k < 2 → parseFieldDescriptor (TX5 k).2.2.1 = some (tyX5 k) := by decide +kernel
abbrev cX5_init : ByteArray := prog_1_method_1_code
def yX5_init : MethodName := ⟨RX5, "<init>", "()V"⟩
abbrev cX5_add : ByteArray := prog_1_method_2_code
def yX5_add : MethodName := ⟨RX5, "add", "(I)Z"⟩
abbrev cX5_addAll : ByteArray := prog_1_method_3_code
def yX5_addAll : MethodName := ⟨RX5, "addAll", "(J)Z"⟩
abbrev cX5_byteOf : ByteArray := prog_1_method_4_code
def yX5_byteOf : MethodName := ⟨RX5, "byteOf", "(JI)I"⟩
abbrev cX5_build : ByteArray := prog_1_method_5_code
def yX5_build : MethodName := ⟨RX5, "build", "()I"⟩
abbrev cX5_size : ByteArray := prog_1_method_6_code
def yX5_size : MethodName := ⟨RX5, "size", "()I"⟩
abbrev cX5_nodes : ByteArray := prog_1_method_7_code
def yX5_nodes : MethodName := ⟨RX5, "nodes", "()I"⟩
abbrev cX5_node : ByteArray := prog_1_method_8_code
def yX5_node : MethodName := ⟨RX5, "node", "(II)I"⟩
abbrev cX5_child : ByteArray := prog_1_method_9_code
def yX5_child : MethodName := ⟨RX5, "child", "(II)I"⟩
def RX6 : String := "TreeBuilderModel"
def TX6 : u_T := fun k => match k with
  | 0 => ("TreeBuilderModel", "thrown", "I", false)
  | 1 => ("TreeBuilderModel", "count", "I", false)
  | 2 => ("TreeBuilderModel", "kinds", "[B", true)
  | 3 => ("TreeBuilderModel", "made", "I", false)
  | 4 => ("TreeBuilderModel", "nodes", "I", false)
  | 5 => ("TreeBuilderModel", "what", "[I", true)
  | 6 => ("TreeBuilderModel", "token", "[I", true)
  | 7 => ("TreeBuilderModel", "parent", "[I", true)
  | 8 => ("TreeBuilderModel", "first", "[I", true)
  | 9 => ("TreeBuilderModel", "last", "[I", true)
  | 10 => ("TreeBuilderModel", "next", "[I", true)
  | 11 => ("TreeBuilderModel", "number", "[I", true)
  | 12 => ("TreeBuilderModel", "byNumber", "[I", true)
  | 13 => ("TreeBuilderModel", "inside", "[I", true)
  | 14 => ("TreeBuilderModel", "todo", "I", false)
  | 15 => ("TreeBuilderModel", "does", "[I", true)
  | 16 => ("TreeBuilderModel", "node", "[I", true)
  | 17 => ("TreeBuilderModel", "truth", "[I", true)
  | 18 => ("TreeBuilderModel", "at", "I", false)
  | 19 => ("TreeBuilderModel", "depth", "I", false)
  | 20 => ("TreeBuilderModel", "wrong", "I", false)
  | 21 => ("TreeBuilderModel", "rows", "I", false)
  | 22 => ("TreeBuilderModel", "named", "[Z", true)
  | 23 => ("TreeBuilderModel", "plain", "[Z", true)
  | 24 => ("TreeBuilderModel", "pending", "[I", true)
  | _ => ("TreeBuilderModel", "ended", "[Z", true)
def tyX6 : Nat → FieldType := fun k => match k with
  | 0 => .int
  | 1 => .int
  | 2 => .array .byte
  | 3 => .int
  | 4 => .int
  | 5 => .array .int
  | 6 => .array .int
  | 7 => .array .int
  | 8 => .array .int
  | 9 => .array .int
  | 10 => .array .int
  | 11 => .array .int
  | 12 => .array .int
  | 13 => .array .int
  | 14 => .int
  | 15 => .array .int
  | 16 => .array .int
  | 17 => .array .int
  | 18 => .int
  | 19 => .int
  | 20 => .int
  | 21 => .int
  | 22 => .array .boolean
  | 23 => .array .boolean
  | 24 => .array .int
  | _ => .array .boolean
abbrev wsX60 : List Cond := u_ws RX6 TX6 26
theorem nmX6 : ∀ a, a < 26 → ∀ b, b < 26 → a ≠ b → (TX6 a).2.1 ≠ (TX6 b).2.1 := by decide +kernel
theorem tyX6_ok : ∀ k, k < 26 → parseFieldDescriptor (TX6 k).2.2.1 = some (tyX6 k) := by decide +kernel
abbrev cX6_init : ByteArray := prog_8_method_1_code
def yX6_init : MethodName := ⟨RX6, "<init>", "()V"⟩
abbrev cX6_fail : ByteArray := prog_8_method_3_code
def yX6_fail : MethodName := ⟨RX6, "fail", "()I"⟩
abbrev cX6_isKind : ByteArray := prog_8_method_4_code
def yX6_isKind : MethodName := ⟨RX6, "isKind", "(I)Z"⟩
abbrev cX6_add : ByteArray := prog_8_method_5_code
def yX6_add : MethodName := ⟨RX6, "add", "(I)Z"⟩
abbrev cX6_addAll : ByteArray := prog_8_method_6_code
def yX6_addAll : MethodName := ⟨RX6, "addAll", "(J)Z"⟩
abbrev cX6_size : ByteArray := prog_8_method_7_code
def yX6_size : MethodName := ⟨RX6, "size", "()I"⟩
abbrev cX6_look : ByteArray := prog_8_method_8_code
def yX6_look : MethodName := ⟨RX6, "look", "()I"⟩
abbrev cX6_ahead : ByteArray := prog_8_method_9_code
def yX6_ahead : MethodName := ⟨RX6, "ahead", "()I"⟩
abbrev cX6_error : ByteArray := prog_8_method_10_code
def yX6_error : MethodName := ⟨RX6, "error", "()V"⟩
abbrev cX6_pass : ByteArray := prog_8_method_11_code
def yX6_pass : MethodName := ⟨RX6, "pass", "(I)V"⟩
abbrev cX6_more : ByteArray := prog_8_method_12_code
def yX6_more : MethodName := ⟨RX6, "more", "()V"⟩
abbrev cX6_child : ByteArray := prog_8_method_13_code
def yX6_child : MethodName := ⟨RX6, "child", "(III)I"⟩
abbrev cX6_wrap : ByteArray := prog_8_method_14_code
def yX6_wrap : MethodName := ⟨RX6, "wrap", "(III)I"⟩
abbrev cX6_unwrap : ByteArray := prog_8_method_15_code
def yX6_unwrap : MethodName := ⟨RX6, "unwrap", "(I)V"⟩
abbrev cX6_push : ByteArray := prog_8_method_16_code
def yX6_push : MethodName := ⟨RX6, "push", "(III)V"⟩
abbrev cX6_name : ByteArray := prog_8_method_17_code
def yX6_name : MethodName := ⟨RX6, "name", "(I)I"⟩
abbrev cX6_has : ByteArray := prog_8_method_18_code
def yX6_has : MethodName := ⟨RX6, "has", "(II)Z"⟩
abbrev cX6_beginsType : ByteArray := prog_8_method_19_code
def yX6_beginsType : MethodName := ⟨RX6, "beginsType", "(I)Z"⟩
abbrev cX6_isUnary : ByteArray := prog_8_method_20_code
def yX6_isUnary : MethodName := ⟨RX6, "isUnary", "(I)Z"⟩
abbrev cX6_beginsExpr : ByteArray := prog_8_method_21_code
def yX6_beginsExpr : MethodName := ⟨RX6, "beginsExpr", "(I)Z"⟩
abbrev cX6_strength : ByteArray := prog_8_method_22_code
def yX6_strength : MethodName := ⟨RX6, "strength", "(I)I"⟩
abbrev cX6_expression : ByteArray := prog_8_method_23_code
def yX6_expression : MethodName := ⟨RX6, "expression", "(III)V"⟩
abbrev cX6_binary : ByteArray := prog_8_method_24_code
def yX6_binary : MethodName := ⟨RX6, "binary", "(II)V"⟩
abbrev cX6_unary : ByteArray := prog_8_method_25_code
def yX6_unary : MethodName := ⟨RX6, "unary", "(II)V"⟩
abbrev cX6_operand : ByteArray := prog_8_method_26_code
def yX6_operand : MethodName := ⟨RX6, "operand", "(II)V"⟩
abbrev cX6_literal : ByteArray := prog_8_method_27_code
def yX6_literal : MethodName := ⟨RX6, "literal", "(II)V"⟩
abbrev cX6_elements : ByteArray := prog_8_method_28_code
def yX6_elements : MethodName := ⟨RX6, "elements", "(I)V"⟩
abbrev cX6_elementsMore : ByteArray := prog_8_method_29_code
def yX6_elementsMore : MethodName := ⟨RX6, "elementsMore", "(I)V"⟩
abbrev cX6_value : ByteArray := prog_8_method_30_code
def yX6_value : MethodName := ⟨RX6, "value", "(I)V"⟩
abbrev cX6_postfix : ByteArray := prog_8_method_31_code
def yX6_postfix : MethodName := ⟨RX6, "postfix", "(II)V"⟩
abbrev cX6_dot : ByteArray := prog_8_method_32_code
def yX6_dot : MethodName := ⟨RX6, "dot", "(II)V"⟩
abbrev cX6_index : ByteArray := prog_8_method_33_code
def yX6_index : MethodName := ⟨RX6, "index", "(I)V"⟩
abbrev cX6_slice : ByteArray := prog_8_method_34_code
def yX6_slice : MethodName := ⟨RX6, "slice", "(I)V"⟩
abbrev cX6_sliced : ByteArray := prog_8_method_35_code
def yX6_sliced : MethodName := ⟨RX6, "sliced", "(I)V"⟩
abbrev cX6_sliceMore : ByteArray := prog_8_method_36_code
def yX6_sliceMore : MethodName := ⟨RX6, "sliceMore", "(I)V"⟩
abbrev cX6_args : ByteArray := prog_8_method_37_code
def yX6_args : MethodName := ⟨RX6, "args", "(I)V"⟩
abbrev cX6_argsMore : ByteArray := prog_8_method_38_code
def yX6_argsMore : MethodName := ⟨RX6, "argsMore", "(I)V"⟩
abbrev cX6_type : ByteArray := prog_8_method_39_code
def yX6_type : MethodName := ⟨RX6, "type", "(II)V"⟩
abbrev cX6_array : ByteArray := prog_8_method_40_code
def yX6_array : MethodName := ⟨RX6, "array", "(II)V"⟩
abbrev cX6_fields : ByteArray := prog_8_method_41_code
def yX6_fields : MethodName := ⟨RX6, "fields", "(I)V"⟩
abbrev cX6_methods : ByteArray := prog_8_method_42_code
def yX6_methods : MethodName := ⟨RX6, "methods", "(I)V"⟩
abbrev cX6_fieldsMore : ByteArray := prog_8_method_43_code
def yX6_fieldsMore : MethodName := ⟨RX6, "fieldsMore", "(II)V"⟩
abbrev cX6_signature : ByteArray := prog_8_method_44_code
def yX6_signature : MethodName := ⟨RX6, "signature", "(I)V"⟩
abbrev cX6_result : ByteArray := prog_8_method_45_code
def yX6_result : MethodName := ⟨RX6, "result", "(I)V"⟩
abbrev cX6_params : ByteArray := prog_8_method_46_code
def yX6_params : MethodName := ⟨RX6, "params", "(I)V"⟩
abbrev cX6_param : ByteArray := prog_8_method_47_code
def yX6_param : MethodName := ⟨RX6, "param", "(I)V"⟩
abbrev cX6_paramMore : ByteArray := prog_8_method_48_code
def yX6_paramMore : MethodName := ⟨RX6, "paramMore", "(I)V"⟩
abbrev cX6_names : ByteArray := prog_8_method_49_code
def yX6_names : MethodName := ⟨RX6, "names", "(I)V"⟩
abbrev cX6_namesMore : ByteArray := prog_8_method_50_code
def yX6_namesMore : MethodName := ⟨RX6, "namesMore", "(I)V"⟩
abbrev cX6_exprs : ByteArray := prog_8_method_51_code
def yX6_exprs : MethodName := ⟨RX6, "exprs", "(II)V"⟩
abbrev cX6_exprsMore : ByteArray := prog_8_method_52_code
def yX6_exprsMore : MethodName := ⟨RX6, "exprsMore", "(II)V"⟩
abbrev cX6_declaration : ByteArray := prog_8_method_53_code
def yX6_declaration : MethodName := ⟨RX6, "declaration", "(I)V"⟩
abbrev cX6_specs : ByteArray := prog_8_method_54_code
def yX6_specs : MethodName := ⟨RX6, "specs", "(II)V"⟩
abbrev cX6_specsMore : ByteArray := prog_8_method_55_code
def yX6_specsMore : MethodName := ⟨RX6, "specsMore", "(II)V"⟩
abbrev cX6_spec : ByteArray := prog_8_method_56_code
def yX6_spec : MethodName := ⟨RX6, "spec", "(II)V"⟩
abbrev cX6_valued : ByteArray := prog_8_method_57_code
def yX6_valued : MethodName := ⟨RX6, "valued", "(II)V"⟩
abbrev cX6_constRest : ByteArray := prog_8_method_58_code
def yX6_constRest : MethodName := ⟨RX6, "constRest", "(I)V"⟩
abbrev cX6_varRest : ByteArray := prog_8_method_59_code
def yX6_varRest : MethodName := ⟨RX6, "varRest", "(I)V"⟩
abbrev cX6_function : ByteArray := prog_8_method_60_code
def yX6_function : MethodName := ⟨RX6, "function", "(I)V"⟩
abbrev cX6_tops : ByteArray := prog_8_method_61_code
def yX6_tops : MethodName := ⟨RX6, "tops", "(I)V"⟩
abbrev cX6_beginsStatement : ByteArray := prog_8_method_62_code
def yX6_beginsStatement : MethodName := ⟨RX6, "beginsStatement", "(I)Z"⟩
abbrev cX6_block : ByteArray := prog_8_method_63_code
def yX6_block : MethodName := ⟨RX6, "block", "(I)V"⟩
abbrev cX6_statements : ByteArray := prog_8_method_64_code
def yX6_statements : MethodName := ⟨RX6, "statements", "(I)V"⟩
abbrev cX6_statementsMore : ByteArray := prog_8_method_65_code
def yX6_statementsMore : MethodName := ⟨RX6, "statementsMore", "(I)V"⟩
abbrev cX6_statement : ByteArray := prog_8_method_66_code
def yX6_statement : MethodName := ⟨RX6, "statement", "(I)V"⟩
abbrev cX6_leaving : ByteArray := prog_8_method_67_code
def yX6_leaving : MethodName := ⟨RX6, "leaving", "(II)V"⟩
abbrev cX6_simple : ByteArray := prog_8_method_68_code
def yX6_simple : MethodName := ⟨RX6, "simple", "(II)V"⟩
abbrev cX6_simpleRest : ByteArray := prog_8_method_69_code
def yX6_simpleRest : MethodName := ⟨RX6, "simpleRest", "(II)V"⟩
abbrev cX6_listRest : ByteArray := prog_8_method_70_code
def yX6_listRest : MethodName := ⟨RX6, "listRest", "(II)V"⟩
abbrev cX6_ranges : ByteArray := prog_8_method_71_code
def yX6_ranges : MethodName := ⟨RX6, "ranges", "(II)Z"⟩
abbrev cX6_assign : ByteArray := prog_8_method_72_code
def yX6_assign : MethodName := ⟨RX6, "assign", "(II)V"⟩
abbrev cX6_right : ByteArray := prog_8_method_73_code
def yX6_right : MethodName := ⟨RX6, "right", "(III)V"⟩
abbrev cX6_define : ByteArray := prog_8_method_74_code
def yX6_define : MethodName := ⟨RX6, "define", "(IIZ)V"⟩
abbrev cX6_guarded : ByteArray := prog_8_method_75_code
def yX6_guarded : MethodName := ⟨RX6, "guarded", "(II)V"⟩
abbrev cX6_ifs : ByteArray := prog_8_method_76_code
def yX6_ifs : MethodName := ⟨RX6, "ifs", "(I)V"⟩
abbrev cX6_ifRest : ByteArray := prog_8_method_77_code
def yX6_ifRest : MethodName := ⟨RX6, "ifRest", "(I)V"⟩
abbrev cX6_ifElse : ByteArray := prog_8_method_78_code
def yX6_ifElse : MethodName := ⟨RX6, "ifElse", "(I)V"⟩
abbrev cX6_loop : ByteArray := prog_8_method_79_code
def yX6_loop : MethodName := ⟨RX6, "loop", "(I)V"⟩
abbrev cX6_forRest : ByteArray := prog_8_method_80_code
def yX6_forRest : MethodName := ⟨RX6, "forRest", "(I)V"⟩
abbrev cX6_condition : ByteArray := prog_8_method_81_code
def yX6_condition : MethodName := ⟨RX6, "condition", "(I)V"⟩
abbrev cX6_forPost : ByteArray := prog_8_method_82_code
def yX6_forPost : MethodName := ⟨RX6, "forPost", "(II)V"⟩
abbrev cX6_choice : ByteArray := prog_8_method_83_code
def yX6_choice : MethodName := ⟨RX6, "choice", "(I)V"⟩
abbrev cX6_second : ByteArray := prog_8_method_84_code
def yX6_second : MethodName := ⟨RX6, "second", "(I)V"⟩
abbrev cX6_switchRest : ByteArray := prog_8_method_85_code
def yX6_switchRest : MethodName := ⟨RX6, "switchRest", "(I)V"⟩
abbrev cX6_body : ByteArray := prog_8_method_86_code
def yX6_body : MethodName := ⟨RX6, "body", "(II)V"⟩
abbrev cX6_clauses : ByteArray := prog_8_method_87_code
def yX6_clauses : MethodName := ⟨RX6, "clauses", "(II)V"⟩
abbrev cX6_types : ByteArray := prog_8_method_88_code
def yX6_types : MethodName := ⟨RX6, "types", "(I)V"⟩
abbrev cX6_clause : ByteArray := prog_8_method_89_code
def yX6_clause : MethodName := ⟨RX6, "clause", "(I)V"⟩
abbrev cX6_functionTail : ByteArray := prog_8_method_90_code
def yX6_functionTail : MethodName := ⟨RX6, "functionTail", "(I)V"⟩
abbrev cX6_keyed : ByteArray := prog_8_method_91_code
def yX6_keyed : MethodName := ⟨RX6, "keyed", "(I)V"⟩
abbrev cX6_step : ByteArray := prog_8_method_92_code
def yX6_step : MethodName := ⟨RX6, "step", "(III)V"⟩
abbrev cX6_value_ : ByteArray := prog_8_method_93_code
def yX6_value_ : MethodName := ⟨RX6, "value", "(III)V"⟩
abbrev cX6_typing : ByteArray := prog_8_method_94_code
def yX6_typing : MethodName := ⟨RX6, "typing", "(III)V"⟩
abbrev cX6_declaring : ByteArray := prog_8_method_95_code
def yX6_declaring : MethodName := ⟨RX6, "declaring", "(III)V"⟩
abbrev cX6_stating : ByteArray := prog_8_method_96_code
def yX6_stating : MethodName := ⟨RX6, "stating", "(III)V"⟩
abbrev cX6_build : ByteArray := prog_8_method_97_code
def yX6_build : MethodName := ⟨RX6, "build", "()I"⟩
abbrev cX6_numberAll : ByteArray := prog_8_method_98_code
def yX6_numberAll : MethodName := ⟨RX6, "numberAll", "(I)V"⟩
abbrev cX6_nodes : ByteArray := prog_8_method_99_code
def yX6_nodes : MethodName := ⟨RX6, "nodes", "()I"⟩
abbrev cX6_node : ByteArray := prog_8_method_100_code
def yX6_node : MethodName := ⟨RX6, "node", "(II)I"⟩
abbrev cX6_child_ : ByteArray := prog_8_method_101_code
def yX6_child_ : MethodName := ⟨RX6, "child", "(II)I"⟩
def RJ9 : String := "java/lang/Math"
def RJ0 : String := "java/lang/String"
def RL : String := "TreeBuilderLaw"
abbrev cL_node : ByteArray := method_3_code
def yL_node : MethodName := ⟨RL, "node", "(LTreeBuilder;II[J)I"⟩
abbrev cL_child : ByteArray := method_4_code
def yL_child : MethodName := ⟨RL, "child", "(LTreeBuilder;II[J)I"⟩
abbrev cL_law : ByteArray := code
def yL_law : MethodName := ⟨RL, "law", "([I)Z"⟩
/-- the methods: own class, name, code, locals, answer, table, number of parameters, place of its word -/
def mm_MT0 : List mm_Me := [
  (RX5, yX5_init, cX5_init, 1, none, [], 0, 204),
  (RX2, yX2_init, cX2_init, 1, none, [], 0, 212),
  (RX3, yX3_init, cX3_init, 1, none, [], 0, 227),
  (RX5, yX5_add, cX5_add, 2, some .boolean, [], 1, 266),
  (RX0, yX0_exists, cX0_exists, 1, some .boolean, [], 1, 269),
  (RX2, yX2_haveRoomFor, cX2_haveRoomFor, 2, some .boolean, [], 1, 273),
  (RX2, yX2_append, cX2_append, 2, none, [], 1, 277),
  (RX5, yX5_addAll, cX5_addAll, 6, some .boolean, [], 1, 281),
  (RX5, yX5_byteOf, cX5_byteOf, 3, some .int, [], 2, 284),
  (RX5, yX5_build, cX5_build, 4, some .int, [(32, 36, 39, 55)], 0, 288),
  (RX3, yX3_beginFor, cX3_beginFor, 3, none, [], 1, 293),
  (RX3, yX3_makeRows, cX3_makeRows, 2, none, [], 1, 300),
  (RX1, yX1_init, cX1_init, 3, none, [], 2, 305),
  (RX2, yX2_kindAt, cX2_kindAt, 2, some .int, [], 1, 310),
  (RX1, yX1_file, cX1_file, 3, none, [], 0, 343),
  (RX1, yX1_expect, cX1_expect, 2, some .int, [], 1, 347),
  (RX1, yX1_sees, cX1_sees, 2, some .boolean, [], 1, 351),
  (RX1, yX1_refuse, cX1_refuse, 1, none, [], 0, 355),
  (RX1, yX1_take, cX1_take, 2, some .int, [], 0, 425),
  (RX1, yX1_name, cX1_name, 1, none, [], 0, 429),
  (RX3, yX3_put, cX3_put, 7, none, [], 3, 433),
  (RX3, yX3_spanPutAt, cX3_spanPutAt, 2, some .int, [], 1, 437),
  (RX1, yX1_functionDecl, cX1_functionDecl, 3, none, [], 0, 441),
  (RX1, yX1_receiver, cX1_receiver, 3, none, [], 0, 445),
  (RX1, yX1_enter, cX1_enter, 2, some .int, [], 1, 449),
  (RX1, yX1_openPart, cX1_openPart, 1, none, [], 0, 453),
  (RX1, yX1_type, cX1_type, 1, none, [], 0, 457),
  (RX0, yX0_beginsType, cX0_beginsType, 1, some .boolean, [], 1, 460),
  (RX1, yX1_listType, cX1_listType, 4, none, [], 0, 464),
  (RX1, yX1_expr, cX1_expr, 4, none, [], 1, 468),
  (RX1, yX1_unary, cX1_unary, 5, none, [], 1, 472),
  (RX1, yX1_seesUnarySign, cX1_seesUnarySign, 2, some .boolean, [], 0, 476),
  (RX1, yX1_nextKind, cX1_nextKind, 1, some .int, [], 0, 480),
  (RX0, yX0_isUnarySign, cX0_isUnarySign, 1, some .boolean, [], 1, 483),
  (RX1, yX1_primary, cX1_primary, 4, none, [], 1, 487),
  (RX1, yX1_operand, cX1_operand, 2, none, [], 0, 491),
  (RX1, yX1_putLeaf, cX1_putLeaf, 2, none, [], 1, 495),
  (RX1, yX1_elements, cX1_elements, 9, none, [], 2, 499),
  (RX1, yX1_value, cX1_value, 1, none, [], 0, 503),
  (RX1, yX1_accept, cX1_accept, 3, some .boolean, [], 1, 507)]
def mm_MT1 : List mm_Me := [
  (RX1, yX1_leave, cX1_leave, 2, none, [], 1, 511),
  (RX1, yX1_closePart, cX1_closePart, 1, none, [], 0, 515),
  (RX1, yX1_paren, cX1_paren, 3, none, [], 0, 519),
  (RX1, yX1_functionOrType, cX1_functionOrType, 2, none, [], 0, 523),
  (RX1, yX1_signature, cX1_signature, 3, none, [], 0, 527),
  (RX1, yX1_params, cX1_params, 8, none, [], 0, 531),
  (RX1, yX1_param, cX1_param, 8, some .int, [], 2, 535),
  (RX1, yX1_block, cX1_block, 3, none, [], 0, 539),
  (RX1, yX1_stmts, cX1_stmts, 4, some .int, [], 0, 543),
  (RX1, yX1_stmt, cX1_stmt, 1, some .boolean, [], 0, 547),
  (RX1, yX1_decl, cX1_decl, 4, none, [], 0, 551),
  (RX1, yX1_group, cX1_group, 5, some .int, [], 1, 555),
  (RX1, yX1_spec, cX1_spec, 2, none, [], 1, 559),
  (RX1, yX1_constSpec, cX1_constSpec, 3, none, [], 0, 563),
  (RX1, yX1_names, cX1_names, 3, none, [], 0, 567),
  (RX1, yX1_exprs, cX1_exprs, 2, none, [], 0, 571),
  (RX1, yX1_restOfExprs, cX1_restOfExprs, 4, none, [], 2, 575),
  (RX1, yX1_typeSpec, cX1_typeSpec, 2, none, [], 0, 579),
  (RX1, yX1_varSpec, cX1_varSpec, 3, none, [], 0, 583),
  (RX1, yX1_groupWhat, cX1_groupWhat, 1, some .int, [], 1, 586),
  (RX1, yX1_ifStmt, cX1_ifStmt, 4, none, [], 0, 590),
  (RX1, yX1_opening, cX1_opening, 7, some .int, [], 2, 594),
  (RX1, yX1_simple, cX1_simple, 6, some .int, [], 1, 598),
  (RX1, yX1_putGuard, cX1_putGuard, 2, none, [], 1, 602),
  (RX1, yX1_isNameFrom, cX1_isNameFrom, 2, some .boolean, [], 1, 606),
  (RX1, yX1_assign, cX1_assign, 4, some .int, [], 1, 610),
  (RX1, yX1_define, cX1_define, 5, some .int, [], 2, 614),
  (RX1, yX1_behindExpr, cX1_behindExpr, 3, some .int, [], 1, 618),
  (RX0, yX0_isOpAssign, cX0_isOpAssign, 1, some .boolean, [], 1, 621),
  (RX1, yX1_elseBranch, cX1_elseBranch, 1, none, [], 0, 625),
  (RX1, yX1_switchStmt, cX1_switchStmt, 6, none, [], 0, 629),
  (RX1, yX1_tag, cX1_tag, 2, some .boolean, [], 0, 633),
  (RX1, yX1_clauses, cX1_clauses, 3, some .int, [], 1, 637),
  (RX1, yX1_caseClause, cX1_caseClause, 3, none, [], 1, 641),
  (RX1, yX1_types, cX1_types, 3, none, [], 0, 645),
  (RX1, yX1_wholeSimple, cX1_wholeSimple, 3, none, [], 1, 649),
  (RX1, yX1_clauseBody, cX1_clauseBody, 2, none, [], 0, 653),
  (RX1, yX1_defaultClause, cX1_defaultClause, 3, none, [], 1, 657),
  (RX1, yX1_selectStmt, cX1_selectStmt, 2, none, [], 0, 661),
  (RX1, yX1_forStmt, cX1_forStmt, 4, none, [], 0, 665)]
def mm_MT2 : List mm_Me := [
  (RX1, yX1_forHead, cX1_forHead, 2, some .int, [], 0, 669),
  (RX1, yX1_range, cX1_range, 3, none, [], 1, 673),
  (RX1, yX1_restOfForHead, cX1_restOfForHead, 3, none, [], 0, 677),
  (RX1, yX1_wordStmt, cX1_wordStmt, 1, some .boolean, [], 0, 681),
  (RX1, yX1_startStmt, cX1_startStmt, 3, none, [], 1, 685),
  (RX1, yX1_returnStmt, cX1_returnStmt, 3, none, [], 0, 689),
  (RX0, yX0_beginsExpr, cX0_beginsExpr, 1, some .boolean, [], 1, 692),
  (RX1, yX1_jumpStmt, cX1_jumpStmt, 4, none, [], 1, 698),
  (RX1, yX1_simpleStmt, cX1_simpleStmt, 1, some .boolean, [], 0, 702),
  (RX1, yX1_labeledStmt, cX1_labeledStmt, 3, none, [], 0, 706),
  (RX1, yX1_countedArrayType, cX1_countedArrayType, 2, none, [], 0, 710),
  (RX1, yX1_behindOperand, cX1_behindOperand, 2, some .boolean, [], 1, 714),
  (RX1, yX1_dot, cX1_dot, 4, some .boolean, [], 1, 718),
  (RX1, yX1_index, cX1_index, 5, none, [], 0, 722),
  (RX1, yX1_upperBounds, cX1_upperBounds, 1, some .int, [], 0, 726),
  (RX1, yX1_call, cX1_call, 6, none, [], 0, 730),
  (RX0, yX0_binding, cX0_binding, 1, some .int, [], 1, 733),
  (RX1, yX1_putWaiting, cX1_putWaiting, 4, none, [], 2, 737),
  (RX1, yX1_await, cX1_await, 2, none, [], 1, 741),
  (RX1, yX1_mapType, cX1_mapType, 2, none, [], 0, 745),
  (RX1, yX1_chanType, cX1_chanType, 3, none, [], 0, 749),
  (RX1, yX1_receiveChanType, cX1_receiveChanType, 2, none, [], 0, 753),
  (RX1, yX1_pointerType, cX1_pointerType, 2, none, [], 0, 757),
  (RX1, yX1_structType, cX1_structType, 5, none, [], 0, 761),
  (RX1, yX1_functionType, cX1_functionType, 2, none, [], 0, 765),
  (RX1, yX1_interfaceType, cX1_interfaceType, 5, none, [], 0, 769),
  (RX0, yX0_beginsDecl, cX0_beginsDecl, 1, some .boolean, [], 1, 772),
  (RX3, yX3_number, cX3_number, 2, none, [], 0, 776),
  (RX3, yX3_numberChildren, cX3_numberChildren, 8, none, [], 1, 780),
  (RX3, yX3_spanOf, cX3_spanOf, 2, some .int, [], 1, 784),
  (RX3, yX3_placeOf, cX3_placeOf, 2, some .int, [], 1, 788),
  (RX3, yX3_read, cX3_read, 3, some .int, [], 2, 792),
  (RX3, yX3_childrenOf, cX3_childrenOf, 2, some .int, [], 1, 796),
  (RX5, yX5_size, cX5_size, 1, some .int, [], 0, 800),
  (RX5, yX5_nodes, cX5_nodes, 1, some .int, [], 0, 804),
  (RL, yL_node, cL_node, 5, some .int, [(0, 10, 13, 13)], 4, 807),
  (RX5, yX5_node, cX5_node, 3, some .int, [], 2, 812),
  (RX3, yX3_has, cX3_has, 2, some .boolean, [], 1, 816),
  (RX3, yX3_whatOf, cX3_whatOf, 2, some .int, [], 1, 836),
  (RX3, yX3_tokenOf, cX3_tokenOf, 2, some .int, [], 1, 840)]
def mm_MT3 : List mm_Me := [
  (RX3, yX3_parentOf, cX3_parentOf, 2, some .int, [], 1, 846),
  (RL, yL_child, cL_child, 5, some .int, [(0, 10, 13, 13)], 4, 851),
  (RX5, yX5_child, cX5_child, 5, some .int, [], 2, 855),
  (RX6, yX6_init, cX6_init, 1, none, [], 0, 861),
  (RX6, yX6_add, cX6_add, 2, some .boolean, [], 1, 947),
  (RX6, yX6_isKind, cX6_isKind, 1, some .boolean, [], 1, 950),
  (RX6, yX6_addAll, cX6_addAll, 6, some .boolean, [], 1, 954),
  (RX6, yX6_size, cX6_size, 1, some .int, [], 0, 959),
  (RX6, yX6_build, cX6_build, 2, some .int, [], 0, 963),
  (RX6, yX6_child, cX6_child, 4, some .int, [], 3, 967),
  (RX6, yX6_pass, cX6_pass, 2, none, [], 1, 971),
  (RX6, yX6_look, cX6_look, 1, some .int, [], 0, 975),
  (RX6, yX6_error, cX6_error, 1, none, [], 0, 979),
  (RX6, yX6_name, cX6_name, 3, some .int, [], 1, 983),
  (RX6, yX6_push, cX6_push, 4, none, [], 3, 987),
  (RX6, yX6_step, cX6_step, 4, none, [], 3, 991),
  (RX6, yX6_binary, cX6_binary, 6, none, [], 2, 995),
  (RX6, yX6_strength, cX6_strength, 1, some .int, [], 1, 998),
  (RX6, yX6_wrap, cX6_wrap, 8, some .int, [], 3, 1002),
  (RX6, yX6_expression, cX6_expression, 4, none, [], 3, 1006),
  (RX6, yX6_unary, cX6_unary, 5, none, [], 2, 1010),
  (RX6, yX6_isUnary, cX6_isUnary, 1, some .boolean, [], 1, 1013),
  (RX6, yX6_ahead, cX6_ahead, 1, some .int, [], 0, 1017),
  (RX6, yX6_more, cX6_more, 1, none, [], 0, 1021),
  (RX6, yX6_operand, cX6_operand, 5, none, [], 2, 1025),
  (RX6, yX6_postfix, cX6_postfix, 5, none, [], 2, 1029),
  (RX6, yX6_dot, cX6_dot, 5, none, [], 2, 1033),
  (RX6, yX6_has, cX6_has, 2, some .boolean, [], 2, 1036),
  (RX6, yX6_slice, cX6_slice, 2, none, [], 1, 1040),
  (RX6, yX6_value_, cX6_value_, 4, none, [], 3, 1044),
  (RX6, yX6_literal, cX6_literal, 8, none, [], 2, 1048),
  (RX6, yX6_args, cX6_args, 2, none, [], 1, 1052),
  (RX6, yX6_argsMore, cX6_argsMore, 2, none, [], 1, 1056),
  (RX6, yX6_index, cX6_index, 2, none, [], 1, 1060),
  (RX6, yX6_sliced, cX6_sliced, 2, none, [], 1, 1064),
  (RX6, yX6_sliceMore, cX6_sliceMore, 2, none, [], 1, 1068),
  (RX6, yX6_elements, cX6_elements, 3, none, [], 1, 1072),
  (RX6, yX6_elementsMore, cX6_elementsMore, 2, none, [], 1, 1076),
  (RX6, yX6_keyed, cX6_keyed, 2, none, [], 1, 1080),
  (RX6, yX6_value, cX6_value, 3, none, [], 1, 1084)]
def mm_MT4 : List mm_Me := [
  (RX6, yX6_typing, cX6_typing, 4, none, [], 3, 1088),
  (RX6, yX6_type, cX6_type, 5, none, [], 2, 1092),
  (RX6, yX6_beginsType, cX6_beginsType, 1, some .boolean, [], 1, 1095),
  (RX6, yX6_array, cX6_array, 4, none, [], 2, 1099),
  (RX6, yX6_functionTail, cX6_functionTail, 2, none, [], 1, 1103),
  (RX6, yX6_block, cX6_block, 3, none, [], 1, 1107),
  (RX6, yX6_signature, cX6_signature, 3, none, [], 1, 1111),
  (RX6, yX6_result, cX6_result, 3, none, [], 1, 1115),
  (RX6, yX6_params, cX6_params, 3, none, [], 1, 1119),
  (RX6, yX6_param, cX6_param, 7, none, [], 1, 1123),
  (RX6, yX6_paramMore, cX6_paramMore, 3, none, [], 1, 1127),
  (RX6, yX6_fields, cX6_fields, 3, none, [], 1, 1131),
  (RX6, yX6_fieldsMore, cX6_fieldsMore, 3, none, [], 2, 1135),
  (RX6, yX6_methods, cX6_methods, 3, none, [], 1, 1139),
  (RX6, yX6_declaring, cX6_declaring, 4, none, [], 3, 1143),
  (RX6, yX6_names, cX6_names, 3, none, [], 1, 1147),
  (RX6, yX6_namesMore, cX6_namesMore, 2, none, [], 1, 1151),
  (RX6, yX6_exprsMore, cX6_exprsMore, 3, none, [], 2, 1155),
  (RX6, yX6_spec, cX6_spec, 4, none, [], 2, 1159),
  (RX6, yX6_specs, cX6_specs, 3, none, [], 2, 1163),
  (RX6, yX6_specsMore, cX6_specsMore, 3, none, [], 2, 1167),
  (RX6, yX6_constRest, cX6_constRest, 2, none, [], 1, 1171),
  (RX6, yX6_valued, cX6_valued, 3, none, [], 2, 1175),
  (RX6, yX6_exprs, cX6_exprs, 4, none, [], 2, 1179),
  (RX6, yX6_varRest, cX6_varRest, 2, none, [], 1, 1183),
  (RX6, yX6_statements, cX6_statements, 3, none, [], 1, 1187),
  (RX6, yX6_beginsStatement, cX6_beginsStatement, 1, some .boolean, [], 1, 1190),
  (RX6, yX6_beginsExpr, cX6_beginsExpr, 1, some .boolean, [], 1, 1193),
  (RX6, yX6_statement, cX6_statement, 4, none, [], 1, 1197),
  (RX6, yX6_declaration, cX6_declaration, 4, none, [], 1, 1201),
  (RX6, yX6_ifs, cX6_ifs, 3, none, [], 1, 1205),
  (RX6, yX6_loop, cX6_loop, 5, none, [], 1, 1209),
  (RX6, yX6_condition, cX6_condition, 3, none, [], 1, 1213),
  (RX6, yX6_choice, cX6_choice, 3, none, [], 1, 1217),
  (RX6, yX6_body, cX6_body, 3, none, [], 2, 1221),
  (RX6, yX6_second, cX6_second, 2, none, [], 1, 1225),
  (RX6, yX6_leaving, cX6_leaving, 4, none, [], 2, 1229),
  (RX6, yX6_statementsMore, cX6_statementsMore, 2, none, [], 1, 1233),
  (RX6, yX6_stating, cX6_stating, 4, none, [], 3, 1237),
  (RX6, yX6_simple, cX6_simple, 3, none, [], 2, 1241)]
def mm_MT5 : List mm_Me := [
  (RX6, yX6_simpleRest, cX6_simpleRest, 9, none, [], 2, 1245),
  (RX6, yX6_assign, cX6_assign, 4, none, [], 2, 1249),
  (RX6, yX6_ranges, cX6_ranges, 4, some .boolean, [], 2, 1253),
  (RX6, yX6_right, cX6_right, 5, none, [], 3, 1257),
  (RX6, yX6_define, cX6_define, 6, none, [], 3, 1261),
  (RX6, yX6_listRest, cX6_listRest, 6, none, [], 2, 1265),
  (RX6, yX6_ifRest, cX6_ifRest, 2, none, [], 1, 1269),
  (RX6, yX6_unwrap, cX6_unwrap, 6, none, [], 1, 1273),
  (RX6, yX6_ifElse, cX6_ifElse, 2, none, [], 1, 1277),
  (RX6, yX6_forRest, cX6_forRest, 2, none, [], 1, 1281),
  (RX6, yX6_forPost, cX6_forPost, 4, none, [], 2, 1285),
  (RX6, yX6_switchRest, cX6_switchRest, 3, none, [], 1, 1289),
  (RX6, yX6_clauses, cX6_clauses, 6, none, [], 2, 1293),
  (RX6, yX6_clause, cX6_clause, 3, none, [], 1, 1297),
  (RX6, yX6_types, cX6_types, 2, none, [], 1, 1301),
  (RX6, yX6_tops, cX6_tops, 3, none, [], 1, 1305),
  (RX6, yX6_function, cX6_function, 5, none, [], 1, 1309),
  (RX6, yX6_guarded, cX6_guarded, 6, none, [], 2, 1313),
  (RX6, yX6_numberAll, cX6_numberAll, 3, none, [], 1, 1317),
  (RX6, yX6_nodes, cX6_nodes, 1, some .int, [], 0, 1321),
  (RX6, yX6_node, cX6_node, 6, some .int, [], 2, 1325),
  (RX6, yX6_fail, cX6_fail, 1, some .int, [], 0, 1329),
  (RX6, yX6_child_, cX6_child_, 5, some .int, [], 2, 1333)]
def mm_MT : List mm_Me := mm_MT0 ++ (mm_MT1 ++ (mm_MT2 ++ (mm_MT3 ++ (mm_MT4 ++ (mm_MT5)))))
/-- fields: own class, entry, by a nest mate, class, field, place of the word -/
def mm_FT : List (String × Nat × Bool × Nat × Nat × Nat) := [(RX2, 9, false, 1, 0, 214), (RX2, 13, false, 1, 1, 215), (RX5, 40, true, 1, 1, 216), (RX3, 11, false, 2, 0, 229), (RX3, 15, false, 2, 1, 230), (RX3, 18, false, 2, 2, 231), (RX3, 21, false, 2, 3, 232), (RX3, 24, false, 2, 4, 233), (RX3, 27, false, 2, 5, 234), (RX3, 30, false, 2, 6, 235), (RX3, 34, false, 2, 7, 236), (RX5, 63, true, 2, 7, 237), (RX5, 10, false, 3, 0, 256), (RX5, 19, false, 3, 1, 257), (RX1, 11, false, 0, 0, 311), (RX1, 17, false, 0, 1, 312), (RX1, 21, false, 0, 2, 313), (RX1, 289, false, 0, 3, 314), (RX1, 43, false, 0, 4, 315), (RX5, 57, true, 0, 4, 316), (RX1, 33, false, 0, 5, 317), (RX1, 57, false, 0, 6, 318), (RX1, 119, false, 0, 7, 319), (RX1, 25, false, 0, 8, 320), (RX6, 64, false, 4, 0, 864), (RX6, 72, false, 4, 1, 865), (RX6, 7, false, 4, 2, 866), (RX6, 93, false, 4, 3, 867), (RX6, 366, false, 4, 4, 868), (RX6, 14, false, 4, 5, 869), (RX6, 18, false, 4, 6, 870), (RX6, 21, false, 4, 7, 871), (RX6, 24, false, 4, 8, 872), (RX6, 27, false, 4, 9, 873), (RX6, 30, false, 4, 10, 874), (RX6, 33, false, 4, 11, 875), (RX6, 36, false, 4, 12, 876), (RX6, 39, false, 4, 13, 877), (RX6, 96, false, 4, 14, 878), (RX6, 42, false, 4, 15, 879), (RX6, 45, false, 4, 16, 880), (RX6, 48, false, 4, 17, 881), (RX6, 77, false, 4, 18, 882), (RX6, 90, false, 4, 19, 883), (RX6, 80, false, 4, 20, 884), (RX6, 156, false, 4, 21, 885), (RX6, 51, false, 4, 22, 886), (RX6, 55, false, 4, 23, 887), (RX6, 58, false, 4, 24, 888), (RX6, 61, false, 4, 25, 889)]
/-- calls: own class, entry, kind, method, place of the word -/
def mm_CT0 : List (String × Nat × Nat × Nat × Nat) := [(RL, 18, 4, 0, 202), (RX5, 1, 10, 0, 205), (RX5, 9, 5, 1, 210), (RX2, 1, 10, 0, 213), (RX5, 18, 5, 2, 225), (RX3, 3, 10, 0, 228), (RL, 22, 0, 3, 263), (RX5, 23, 3, 4, 267), (RX5, 29, 1, 5, 270), (RX5, 32, 1, 6, 274), (RL, 29, 0, 7, 278), (RX5, 36, 2, 8, 282), (RL, 34, 8, 9, 285), (RX5, 44, 1, 10, 290), (RX3, 37, 11, 0, 294), (RX3, 43, 0, 11, 297), (RX5, 49, 5, 12, 303), (RX1, 5, 10, 0, 306), (RX1, 29, 1, 13, 307), (RX5, 52, 1, 14, 340), (RX1, 63, 0, 15, 344), (RX1, 46, 0, 16, 348), (RX1, 54, 0, 17, 352), (RX1, 50, 0, 18, 422), (RX1, 79, 0, 19, 426), (RX1, 69, 1, 20, 430), (RX3, 47, 0, 21, 434), (RX1, 82, 0, 22, 438), (RX1, 91, 0, 23, 442), (RX1, 100, 0, 24, 446), (RX1, 60, 0, 25, 450), (RX1, 103, 0, 26, 454), (RX1, 138, 3, 27, 458), (RX1, 157, 0, 28, 461), (RX1, 181, 0, 29, 465), (RX1, 292, 0, 30, 469), (RX1, 304, 0, 31, 473), (RX1, 147, 0, 32, 477), (RX1, 307, 3, 33, 481), (RX1, 274, 0, 34, 484), (RX1, 310, 0, 35, 488), (RX1, 154, 0, 36, 492), (RX1, 329, 0, 37, 496), (RX1, 341, 0, 38, 500), (RX1, 123, 0, 39, 504), (RX1, 106, 0, 40, 508), (RX1, 66, 0, 41, 512), (RX1, 332, 0, 42, 516), (RX1, 335, 0, 43, 520), (RX1, 94, 0, 44, 524), (RX1, 144, 0, 45, 528), (RX1, 150, 0, 46, 532), (RX1, 97, 0, 47, 536), (RX1, 185, 0, 48, 540), (RX1, 188, 0, 49, 544), (RX1, 88, 0, 50, 548), (RX1, 110, 0, 51, 552), (RX1, 113, 0, 52, 556), (RX1, 126, 0, 53, 560), (RX1, 135, 0, 54, 564)]
def mm_CT1 : List (String × Nat × Nat × Nat × Nat) := [(RX1, 141, 0, 55, 568), (RX1, 246, 0, 56, 572), (RX1, 129, 0, 57, 576), (RX1, 132, 0, 58, 580), (RX1, 116, 2, 59, 584), (RX1, 192, 0, 60, 587), (RX1, 253, 0, 61, 591), (RX1, 228, 0, 62, 595), (RX1, 231, 0, 63, 599), (RX1, 234, 0, 64, 603), (RX1, 237, 0, 65, 607), (RX1, 240, 0, 66, 611), (RX1, 243, 0, 67, 615), (RX1, 250, 3, 68, 619), (RX1, 256, 0, 69, 622), (RX1, 195, 0, 70, 626), (RX1, 268, 0, 71, 630), (RX1, 271, 0, 72, 634), (RX1, 277, 0, 73, 638), (RX1, 283, 0, 74, 642), (RX1, 225, 0, 75, 646), (RX1, 286, 0, 76, 650), (RX1, 280, 0, 77, 654), (RX1, 198, 0, 78, 658), (RX1, 201, 0, 79, 662), (RX1, 259, 0, 80, 666), (RX1, 262, 0, 81, 670), (RX1, 265, 0, 82, 674), (RX1, 204, 0, 83, 678), (RX1, 210, 0, 84, 682), (RX1, 213, 0, 85, 686), (RX1, 219, 3, 86, 690), (RX0, 9, 2, 27, 693), (RX0, 13, 2, 33, 694), (RX1, 216, 0, 87, 695), (RX1, 207, 0, 88, 699), (RX1, 222, 0, 89, 703), (RX1, 338, 0, 90, 707), (RX1, 313, 0, 91, 711), (RX1, 317, 0, 92, 715), (RX1, 320, 0, 93, 719), (RX1, 326, 0, 94, 723), (RX1, 323, 0, 95, 727), (RX1, 295, 3, 96, 731), (RX1, 298, 0, 97, 734), (RX1, 301, 0, 98, 738), (RX1, 160, 0, 99, 742), (RX1, 163, 0, 100, 746), (RX1, 166, 0, 101, 750), (RX1, 169, 0, 102, 754), (RX1, 172, 0, 103, 758), (RX1, 175, 0, 104, 762), (RX1, 178, 0, 105, 766), (RX1, 85, 3, 106, 770), (RX5, 60, 1, 107, 773), (RX3, 51, 0, 108, 777), (RX3, 54, 0, 109, 781), (RX3, 57, 0, 110, 785), (RX3, 63, 0, 111, 789), (RX3, 60, 0, 112, 793)]
def mm_CT2 : List (String × Nat × Nat × Nat × Nat) := [(RL, 39, 0, 113, 797), (RL, 43, 0, 114, 801), (RL, 47, 9, 115, 805), (RL, 7, 0, 116, 809), (RX5, 66, 1, 117, 813), (RX5, 76, 1, 118, 833), (RX5, 80, 1, 119, 837), (RX5, 83, 1, 109, 841), (RX5, 86, 1, 112, 842), (RX5, 89, 1, 120, 843), (RX3, 67, 0, 117, 847), (RL, 53, 9, 121, 849), (RL, 15, 0, 122, 852), (RL, 21, 4, 123, 859), (RX6, 1, 10, 0, 862), (RL, 26, 0, 124, 944), (RX6, 68, 2, 125, 948), (RL, 33, 0, 126, 951), (RL, 42, 0, 127, 956), (RL, 38, 0, 128, 960), (RX6, 99, 0, 129, 964), (RX6, 141, 0, 130, 968), (RX6, 83, 0, 131, 972), (RX6, 87, 0, 132, 976), (RX6, 130, 0, 133, 980), (RX6, 106, 0, 134, 984), (RX6, 369, 0, 135, 988), (RX6, 220, 0, 136, 992), (RX6, 110, 2, 137, 996), (RX6, 114, 0, 138, 999), (RX6, 117, 0, 139, 1003), (RX6, 223, 0, 140, 1007), (RX6, 103, 2, 141, 1011), (RX6, 120, 0, 142, 1014), (RX6, 123, 0, 143, 1018), (RX6, 126, 0, 144, 1022), (RX6, 226, 0, 145, 1026), (RX6, 144, 0, 146, 1030), (RX6, 133, 2, 147, 1034), (RX6, 147, 0, 148, 1037), (RX6, 229, 0, 149, 1041), (RX6, 241, 0, 150, 1045), (RX6, 244, 0, 151, 1049), (RX6, 247, 0, 152, 1053), (RX6, 250, 0, 153, 1057), (RX6, 253, 0, 154, 1061), (RX6, 256, 0, 155, 1065), (RX6, 137, 0, 156, 1069), (RX6, 259, 0, 157, 1073), (RX6, 262, 0, 158, 1077), (RX6, 265, 0, 159, 1081), (RX6, 232, 0, 160, 1085), (RX6, 267, 0, 161, 1089), (RX6, 150, 2, 162, 1093), (RX6, 153, 0, 163, 1096), (RX6, 270, 0, 164, 1100), (RX6, 180, 0, 165, 1104), (RX6, 273, 0, 166, 1108), (RX6, 276, 0, 167, 1112), (RX6, 279, 0, 168, 1116)]
def mm_CT3 : List (String × Nat × Nat × Nat × Nat) := [(RX6, 282, 0, 169, 1120), (RX6, 285, 0, 170, 1124), (RX6, 288, 0, 171, 1128), (RX6, 291, 0, 172, 1132), (RX6, 294, 0, 173, 1136), (RX6, 235, 0, 174, 1140), (RX6, 297, 0, 175, 1144), (RX6, 300, 0, 176, 1148), (RX6, 303, 0, 177, 1152), (RX6, 306, 0, 178, 1156), (RX6, 309, 0, 179, 1160), (RX6, 312, 0, 180, 1164), (RX6, 315, 0, 181, 1168), (RX6, 162, 0, 182, 1172), (RX6, 159, 0, 183, 1176), (RX6, 318, 0, 184, 1180), (RX6, 321, 0, 185, 1184), (RX6, 174, 2, 186, 1188), (RX6, 171, 2, 187, 1191), (RX6, 177, 0, 188, 1194), (RX6, 165, 0, 189, 1198), (RX6, 183, 0, 190, 1202), (RX6, 186, 0, 191, 1206), (RX6, 214, 0, 192, 1210), (RX6, 189, 0, 193, 1214), (RX6, 192, 0, 194, 1218), (RX6, 217, 0, 195, 1222), (RX6, 195, 0, 196, 1226), (RX6, 324, 0, 197, 1230), (RX6, 238, 0, 198, 1234), (RX6, 327, 0, 199, 1238), (RX6, 330, 0, 200, 1242), (RX6, 198, 0, 201, 1246), (RX6, 205, 0, 202, 1250), (RX6, 208, 0, 203, 1254), (RX6, 201, 0, 204, 1258), (RX6, 333, 0, 205, 1262), (RX6, 336, 0, 206, 1266), (RX6, 211, 0, 207, 1270), (RX6, 339, 0, 208, 1274), (RX6, 342, 0, 209, 1278), (RX6, 345, 0, 210, 1282), (RX6, 348, 0, 211, 1286), (RX6, 351, 0, 212, 1290), (RX6, 354, 0, 213, 1294), (RX6, 357, 0, 214, 1298), (RX6, 360, 0, 215, 1302), (RX6, 168, 0, 216, 1306), (RX6, 363, 0, 217, 1310), (RX6, 372, 0, 218, 1314), (RL, 46, 0, 219, 1318), (RL, 52, 0, 220, 1322), (RX6, 375, 0, 221, 1326), (RL, 55, 0, 222, 1330)]
def mm_CT : List (String × Nat × Nat × Nat × Nat) := mm_CT0 ++ (mm_CT1 ++ (mm_CT2 ++ (mm_CT3)))
/-- objects made: own class, entry, class, place -/
def mm_NT : List (String × Nat × Nat × Nat) := [(RL, 8, 3, 200), (RX5, 7, 1, 208), (RX5, 16, 2, 223), (RX5, 47, 0, 301), (RL, 19, 4, 857)]
/-- classes of exceptions: own class, entry, name, place -/
def mm_XT : List (String × Nat × String × Nat) := [(RX5, 55, "java/lang/IllegalStateException", 289), (RX1, 36, "java/lang/IllegalStateException", 356), (RL, 13, "java/util/NoSuchElementException", 808), (RX5, 69, "java/util/NoSuchElementException", 817)]
def mm_IT : List (String × Nat × Int32 × Nat) := [(RX6, 13, 65536, 863)]
def mm_JT : List (String × Nat × Int64 × Nat) := [(RX6, 75, 255, 955), (RL, 27, 4294967295, 1334)]
abbrev mm_cl : List vw_C := [(RX1, TX1, 9), (RX2, TX2, 2), (RX3, TX3, 8), (RX5, TX5, 2), (RX6, TX6, 26)]
