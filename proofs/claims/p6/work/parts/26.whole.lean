/-! The parser whole: its methods by their numbers, n calls deep. -/
def Pt (K : Nat → Nat) (N : Nat) (rc : Nat → Nat → Nat → Ss → Rs Ss) (mi x y : Nat) (s : Ss) : Rs Ss := if mi = 14 then b_X1_file K N rc  s else if mi = 22 then b_X1_functionDecl K N rc  s else if mi = 23 then b_X1_receiver K N rc  s else if mi = 26 then b_X1_type K N rc  s else if mi = 28 then b_X1_listType K N rc  s else if mi = 29 then b_X1_expr K N rc x s else if mi = 30 then b_X1_unary K N rc x s else if mi = 34 then b_X1_primary K N rc x s else if mi = 35 then b_X1_operand K N rc  s else if mi = 37 then b_X1_elements K N rc x y s else if mi = 38 then b_X1_value K N rc  s else if mi = 42 then b_X1_paren K N rc  s else if mi = 43 then b_X1_functionOrType K N rc  s else if mi = 44 then b_X1_signature K N rc  s else if mi = 45 then b_X1_params K N rc  s else if mi = 46 then b_X1_param K N rc x y s else if mi = 47 then b_X1_block K N rc  s else if mi = 48 then b_X1_stmts K N rc  s else if mi = 49 then b_X1_stmt K N rc  s else if mi = 50 then b_X1_decl K N rc  s else if mi = 51 then b_X1_group K N rc x s else if mi = 52 then b_X1_spec K N rc x s else if mi = 53 then b_X1_constSpec K N rc  s else if mi = 54 then b_X1_names K N rc  s else if mi = 55 then b_X1_exprs K N rc  s else if mi = 56 then b_X1_restOfExprs K N rc x y s else if mi = 57 then b_X1_typeSpec K N rc  s else if mi = 58 then b_X1_varSpec K N rc  s else if mi = 60 then b_X1_ifStmt K N rc  s else if mi = 61 then b_X1_opening K N rc x y s else if mi = 62 then b_X1_simple K N rc x s else if mi = 65 then b_X1_assign K N rc x s else if mi = 66 then b_X1_define K N rc x y s else if mi = 67 then b_X1_behindExpr K N rc x s else if mi = 69 then b_X1_elseBranch K N rc  s else if mi = 70 then b_X1_switchStmt K N rc  s else if mi = 71 then b_X1_tag K N rc  s else if mi = 72 then b_X1_clauses K N rc x s else if mi = 73 then b_X1_caseClause K N rc x s else if mi = 74 then b_X1_types K N rc  s else if mi = 75 then b_X1_wholeSimple K N rc x s else if mi = 76 then b_X1_clauseBody K N rc  s else if mi = 77 then b_X1_defaultClause K N rc x s else if mi = 78 then b_X1_selectStmt K N rc  s else if mi = 79 then b_X1_forStmt K N rc  s else if mi = 80 then b_X1_forHead K N rc  s else if mi = 81 then b_X1_range K N rc x s else if mi = 82 then b_X1_restOfForHead K N rc  s else if mi = 83 then b_X1_wordStmt K N rc  s else if mi = 84 then b_X1_startStmt K N rc x s else if mi = 85 then b_X1_returnStmt K N rc  s else if mi = 87 then b_X1_jumpStmt K N rc x s else if mi = 88 then b_X1_simpleStmt K N rc  s else if mi = 89 then b_X1_labeledStmt K N rc  s else if mi = 90 then b_X1_countedArrayType K N rc  s else if mi = 91 then b_X1_behindOperand K N rc x s else if mi = 92 then b_X1_dot K N rc x s else if mi = 93 then b_X1_index K N rc  s else if mi = 94 then b_X1_upperBounds K N rc  s else if mi = 95 then b_X1_call K N rc  s else if mi = 99 then b_X1_mapType K N rc  s else if mi = 100 then b_X1_chanType K N rc  s else if mi = 101 then b_X1_receiveChanType K N rc  s else if mi = 102 then b_X1_pointerType K N rc  s else if mi = 103 then b_X1_structType K N rc  s else if mi = 104 then b_X1_functionType K N rc  s else if mi = 105 then b_X1_interfaceType K N rc  s else none
def Pf (K : Nat → Nat) (N : Nat) : Nat → Nat → Nat → Nat → Ss → Rs Ss
  | 0 => fun _ _ _ _ => none
  | n + 1 => Pt K N (Pf K N n)
theorem Pf_s {K : Nat → Nat} {N n : Nat} : Pf K N (n + 1) = Pt K N (Pf K N n) := rfl
theorem Pt_X1_file {K : Nat → Nat} {N : Nat} {rc : Nat → Nat → Nat → Ss → Rs Ss} {s : Ss} : Pt K N rc 14 0 0 s = b_X1_file K N rc  s := rfl
theorem Pt_X1_functionDecl {K : Nat → Nat} {N : Nat} {rc : Nat → Nat → Nat → Ss → Rs Ss} {s : Ss} : Pt K N rc 22 0 0 s = b_X1_functionDecl K N rc  s := rfl
theorem Pt_X1_receiver {K : Nat → Nat} {N : Nat} {rc : Nat → Nat → Nat → Ss → Rs Ss} {s : Ss} : Pt K N rc 23 0 0 s = b_X1_receiver K N rc  s := rfl
theorem Pt_X1_type {K : Nat → Nat} {N : Nat} {rc : Nat → Nat → Nat → Ss → Rs Ss} {s : Ss} : Pt K N rc 26 0 0 s = b_X1_type K N rc  s := rfl
theorem Pt_X1_listType {K : Nat → Nat} {N : Nat} {rc : Nat → Nat → Nat → Ss → Rs Ss} {s : Ss} : Pt K N rc 28 0 0 s = b_X1_listType K N rc  s := rfl
theorem Pt_X1_expr {K : Nat → Nat} {N x : Nat} {rc : Nat → Nat → Nat → Ss → Rs Ss} {s : Ss} : Pt K N rc 29 x 0 s = b_X1_expr K N rc x s := rfl
theorem Pt_X1_unary {K : Nat → Nat} {N x : Nat} {rc : Nat → Nat → Nat → Ss → Rs Ss} {s : Ss} : Pt K N rc 30 x 0 s = b_X1_unary K N rc x s := rfl
theorem Pt_X1_primary {K : Nat → Nat} {N x : Nat} {rc : Nat → Nat → Nat → Ss → Rs Ss} {s : Ss} : Pt K N rc 34 x 0 s = b_X1_primary K N rc x s := rfl
theorem Pt_X1_operand {K : Nat → Nat} {N : Nat} {rc : Nat → Nat → Nat → Ss → Rs Ss} {s : Ss} : Pt K N rc 35 0 0 s = b_X1_operand K N rc  s := rfl
theorem Pt_X1_elements {K : Nat → Nat} {N x y : Nat} {rc : Nat → Nat → Nat → Ss → Rs Ss} {s : Ss} : Pt K N rc 37 x y s = b_X1_elements K N rc x y s := rfl
theorem Pt_X1_value {K : Nat → Nat} {N : Nat} {rc : Nat → Nat → Nat → Ss → Rs Ss} {s : Ss} : Pt K N rc 38 0 0 s = b_X1_value K N rc  s := rfl
theorem Pt_X1_paren {K : Nat → Nat} {N : Nat} {rc : Nat → Nat → Nat → Ss → Rs Ss} {s : Ss} : Pt K N rc 42 0 0 s = b_X1_paren K N rc  s := rfl
theorem Pt_X1_functionOrType {K : Nat → Nat} {N : Nat} {rc : Nat → Nat → Nat → Ss → Rs Ss} {s : Ss} : Pt K N rc 43 0 0 s = b_X1_functionOrType K N rc  s := rfl
theorem Pt_X1_signature {K : Nat → Nat} {N : Nat} {rc : Nat → Nat → Nat → Ss → Rs Ss} {s : Ss} : Pt K N rc 44 0 0 s = b_X1_signature K N rc  s := rfl
theorem Pt_X1_params {K : Nat → Nat} {N : Nat} {rc : Nat → Nat → Nat → Ss → Rs Ss} {s : Ss} : Pt K N rc 45 0 0 s = b_X1_params K N rc  s := rfl
theorem Pt_X1_param {K : Nat → Nat} {N x y : Nat} {rc : Nat → Nat → Nat → Ss → Rs Ss} {s : Ss} : Pt K N rc 46 x y s = b_X1_param K N rc x y s := rfl
theorem Pt_X1_block {K : Nat → Nat} {N : Nat} {rc : Nat → Nat → Nat → Ss → Rs Ss} {s : Ss} : Pt K N rc 47 0 0 s = b_X1_block K N rc  s := rfl
theorem Pt_X1_stmts {K : Nat → Nat} {N : Nat} {rc : Nat → Nat → Nat → Ss → Rs Ss} {s : Ss} : Pt K N rc 48 0 0 s = b_X1_stmts K N rc  s := rfl
theorem Pt_X1_stmt {K : Nat → Nat} {N : Nat} {rc : Nat → Nat → Nat → Ss → Rs Ss} {s : Ss} : Pt K N rc 49 0 0 s = b_X1_stmt K N rc  s := rfl
theorem Pt_X1_decl {K : Nat → Nat} {N : Nat} {rc : Nat → Nat → Nat → Ss → Rs Ss} {s : Ss} : Pt K N rc 50 0 0 s = b_X1_decl K N rc  s := rfl
theorem Pt_X1_group {K : Nat → Nat} {N x : Nat} {rc : Nat → Nat → Nat → Ss → Rs Ss} {s : Ss} : Pt K N rc 51 x 0 s = b_X1_group K N rc x s := rfl
theorem Pt_X1_spec {K : Nat → Nat} {N x : Nat} {rc : Nat → Nat → Nat → Ss → Rs Ss} {s : Ss} : Pt K N rc 52 x 0 s = b_X1_spec K N rc x s := rfl
theorem Pt_X1_constSpec {K : Nat → Nat} {N : Nat} {rc : Nat → Nat → Nat → Ss → Rs Ss} {s : Ss} : Pt K N rc 53 0 0 s = b_X1_constSpec K N rc  s := rfl
theorem Pt_X1_names {K : Nat → Nat} {N : Nat} {rc : Nat → Nat → Nat → Ss → Rs Ss} {s : Ss} : Pt K N rc 54 0 0 s = b_X1_names K N rc  s := rfl
theorem Pt_X1_exprs {K : Nat → Nat} {N : Nat} {rc : Nat → Nat → Nat → Ss → Rs Ss} {s : Ss} : Pt K N rc 55 0 0 s = b_X1_exprs K N rc  s := rfl
theorem Pt_X1_restOfExprs {K : Nat → Nat} {N x y : Nat} {rc : Nat → Nat → Nat → Ss → Rs Ss} {s : Ss} : Pt K N rc 56 x y s = b_X1_restOfExprs K N rc x y s := rfl
theorem Pt_X1_typeSpec {K : Nat → Nat} {N : Nat} {rc : Nat → Nat → Nat → Ss → Rs Ss} {s : Ss} : Pt K N rc 57 0 0 s = b_X1_typeSpec K N rc  s := rfl
theorem Pt_X1_varSpec {K : Nat → Nat} {N : Nat} {rc : Nat → Nat → Nat → Ss → Rs Ss} {s : Ss} : Pt K N rc 58 0 0 s = b_X1_varSpec K N rc  s := rfl
theorem Pt_X1_ifStmt {K : Nat → Nat} {N : Nat} {rc : Nat → Nat → Nat → Ss → Rs Ss} {s : Ss} : Pt K N rc 60 0 0 s = b_X1_ifStmt K N rc  s := rfl
theorem Pt_X1_opening {K : Nat → Nat} {N x y : Nat} {rc : Nat → Nat → Nat → Ss → Rs Ss} {s : Ss} : Pt K N rc 61 x y s = b_X1_opening K N rc x y s := rfl
theorem Pt_X1_simple {K : Nat → Nat} {N x : Nat} {rc : Nat → Nat → Nat → Ss → Rs Ss} {s : Ss} : Pt K N rc 62 x 0 s = b_X1_simple K N rc x s := rfl
theorem Pt_X1_assign {K : Nat → Nat} {N x : Nat} {rc : Nat → Nat → Nat → Ss → Rs Ss} {s : Ss} : Pt K N rc 65 x 0 s = b_X1_assign K N rc x s := rfl
theorem Pt_X1_define {K : Nat → Nat} {N x y : Nat} {rc : Nat → Nat → Nat → Ss → Rs Ss} {s : Ss} : Pt K N rc 66 x y s = b_X1_define K N rc x y s := rfl
theorem Pt_X1_behindExpr {K : Nat → Nat} {N x : Nat} {rc : Nat → Nat → Nat → Ss → Rs Ss} {s : Ss} : Pt K N rc 67 x 0 s = b_X1_behindExpr K N rc x s := rfl
theorem Pt_X1_elseBranch {K : Nat → Nat} {N : Nat} {rc : Nat → Nat → Nat → Ss → Rs Ss} {s : Ss} : Pt K N rc 69 0 0 s = b_X1_elseBranch K N rc  s := rfl
theorem Pt_X1_switchStmt {K : Nat → Nat} {N : Nat} {rc : Nat → Nat → Nat → Ss → Rs Ss} {s : Ss} : Pt K N rc 70 0 0 s = b_X1_switchStmt K N rc  s := rfl
theorem Pt_X1_tag {K : Nat → Nat} {N : Nat} {rc : Nat → Nat → Nat → Ss → Rs Ss} {s : Ss} : Pt K N rc 71 0 0 s = b_X1_tag K N rc  s := rfl
theorem Pt_X1_clauses {K : Nat → Nat} {N x : Nat} {rc : Nat → Nat → Nat → Ss → Rs Ss} {s : Ss} : Pt K N rc 72 x 0 s = b_X1_clauses K N rc x s := rfl
theorem Pt_X1_caseClause {K : Nat → Nat} {N x : Nat} {rc : Nat → Nat → Nat → Ss → Rs Ss} {s : Ss} : Pt K N rc 73 x 0 s = b_X1_caseClause K N rc x s := rfl
theorem Pt_X1_types {K : Nat → Nat} {N : Nat} {rc : Nat → Nat → Nat → Ss → Rs Ss} {s : Ss} : Pt K N rc 74 0 0 s = b_X1_types K N rc  s := rfl
theorem Pt_X1_wholeSimple {K : Nat → Nat} {N x : Nat} {rc : Nat → Nat → Nat → Ss → Rs Ss} {s : Ss} : Pt K N rc 75 x 0 s = b_X1_wholeSimple K N rc x s := rfl
theorem Pt_X1_clauseBody {K : Nat → Nat} {N : Nat} {rc : Nat → Nat → Nat → Ss → Rs Ss} {s : Ss} : Pt K N rc 76 0 0 s = b_X1_clauseBody K N rc  s := rfl
theorem Pt_X1_defaultClause {K : Nat → Nat} {N x : Nat} {rc : Nat → Nat → Nat → Ss → Rs Ss} {s : Ss} : Pt K N rc 77 x 0 s = b_X1_defaultClause K N rc x s := rfl
theorem Pt_X1_selectStmt {K : Nat → Nat} {N : Nat} {rc : Nat → Nat → Nat → Ss → Rs Ss} {s : Ss} : Pt K N rc 78 0 0 s = b_X1_selectStmt K N rc  s := rfl
theorem Pt_X1_forStmt {K : Nat → Nat} {N : Nat} {rc : Nat → Nat → Nat → Ss → Rs Ss} {s : Ss} : Pt K N rc 79 0 0 s = b_X1_forStmt K N rc  s := rfl
theorem Pt_X1_forHead {K : Nat → Nat} {N : Nat} {rc : Nat → Nat → Nat → Ss → Rs Ss} {s : Ss} : Pt K N rc 80 0 0 s = b_X1_forHead K N rc  s := rfl
theorem Pt_X1_range {K : Nat → Nat} {N x : Nat} {rc : Nat → Nat → Nat → Ss → Rs Ss} {s : Ss} : Pt K N rc 81 x 0 s = b_X1_range K N rc x s := rfl
theorem Pt_X1_restOfForHead {K : Nat → Nat} {N : Nat} {rc : Nat → Nat → Nat → Ss → Rs Ss} {s : Ss} : Pt K N rc 82 0 0 s = b_X1_restOfForHead K N rc  s := rfl
theorem Pt_X1_wordStmt {K : Nat → Nat} {N : Nat} {rc : Nat → Nat → Nat → Ss → Rs Ss} {s : Ss} : Pt K N rc 83 0 0 s = b_X1_wordStmt K N rc  s := rfl
theorem Pt_X1_startStmt {K : Nat → Nat} {N x : Nat} {rc : Nat → Nat → Nat → Ss → Rs Ss} {s : Ss} : Pt K N rc 84 x 0 s = b_X1_startStmt K N rc x s := rfl
theorem Pt_X1_returnStmt {K : Nat → Nat} {N : Nat} {rc : Nat → Nat → Nat → Ss → Rs Ss} {s : Ss} : Pt K N rc 85 0 0 s = b_X1_returnStmt K N rc  s := rfl
theorem Pt_X1_jumpStmt {K : Nat → Nat} {N x : Nat} {rc : Nat → Nat → Nat → Ss → Rs Ss} {s : Ss} : Pt K N rc 87 x 0 s = b_X1_jumpStmt K N rc x s := rfl
theorem Pt_X1_simpleStmt {K : Nat → Nat} {N : Nat} {rc : Nat → Nat → Nat → Ss → Rs Ss} {s : Ss} : Pt K N rc 88 0 0 s = b_X1_simpleStmt K N rc  s := rfl
theorem Pt_X1_labeledStmt {K : Nat → Nat} {N : Nat} {rc : Nat → Nat → Nat → Ss → Rs Ss} {s : Ss} : Pt K N rc 89 0 0 s = b_X1_labeledStmt K N rc  s := rfl
theorem Pt_X1_countedArrayType {K : Nat → Nat} {N : Nat} {rc : Nat → Nat → Nat → Ss → Rs Ss} {s : Ss} : Pt K N rc 90 0 0 s = b_X1_countedArrayType K N rc  s := rfl
theorem Pt_X1_behindOperand {K : Nat → Nat} {N x : Nat} {rc : Nat → Nat → Nat → Ss → Rs Ss} {s : Ss} : Pt K N rc 91 x 0 s = b_X1_behindOperand K N rc x s := rfl
theorem Pt_X1_dot {K : Nat → Nat} {N x : Nat} {rc : Nat → Nat → Nat → Ss → Rs Ss} {s : Ss} : Pt K N rc 92 x 0 s = b_X1_dot K N rc x s := rfl
theorem Pt_X1_index {K : Nat → Nat} {N : Nat} {rc : Nat → Nat → Nat → Ss → Rs Ss} {s : Ss} : Pt K N rc 93 0 0 s = b_X1_index K N rc  s := rfl
theorem Pt_X1_upperBounds {K : Nat → Nat} {N : Nat} {rc : Nat → Nat → Nat → Ss → Rs Ss} {s : Ss} : Pt K N rc 94 0 0 s = b_X1_upperBounds K N rc  s := rfl
theorem Pt_X1_call {K : Nat → Nat} {N : Nat} {rc : Nat → Nat → Nat → Ss → Rs Ss} {s : Ss} : Pt K N rc 95 0 0 s = b_X1_call K N rc  s := rfl
theorem Pt_X1_mapType {K : Nat → Nat} {N : Nat} {rc : Nat → Nat → Nat → Ss → Rs Ss} {s : Ss} : Pt K N rc 99 0 0 s = b_X1_mapType K N rc  s := rfl
theorem Pt_X1_chanType {K : Nat → Nat} {N : Nat} {rc : Nat → Nat → Nat → Ss → Rs Ss} {s : Ss} : Pt K N rc 100 0 0 s = b_X1_chanType K N rc  s := rfl
theorem Pt_X1_receiveChanType {K : Nat → Nat} {N : Nat} {rc : Nat → Nat → Nat → Ss → Rs Ss} {s : Ss} : Pt K N rc 101 0 0 s = b_X1_receiveChanType K N rc  s := rfl
theorem Pt_X1_pointerType {K : Nat → Nat} {N : Nat} {rc : Nat → Nat → Nat → Ss → Rs Ss} {s : Ss} : Pt K N rc 102 0 0 s = b_X1_pointerType K N rc  s := rfl
theorem Pt_X1_structType {K : Nat → Nat} {N : Nat} {rc : Nat → Nat → Nat → Ss → Rs Ss} {s : Ss} : Pt K N rc 103 0 0 s = b_X1_structType K N rc  s := rfl
theorem Pt_X1_functionType {K : Nat → Nat} {N : Nat} {rc : Nat → Nat → Nat → Ss → Rs Ss} {s : Ss} : Pt K N rc 104 0 0 s = b_X1_functionType K N rc  s := rfl
theorem Pt_X1_interfaceType {K : Nat → Nat} {N : Nat} {rc : Nat → Nat → Nat → Ss → Rs Ss} {s : Ss} : Pt K N rc 105 0 0 s = b_X1_interfaceType K N rc  s := rfl
theorem pc_all {xs : Nat → Int32} {L : Nat} {h0 : mm_H} {a p N cnt : Nat} {ks : Nat → Nat} (G : Cg h0 a p N cnt ks) : ∀ n, Hr xs L h0 a p N cnt ks n (Pf (kA cnt ks) N n) := by
  intro n
  induction n with
  | zero =>
    refine ⟨?_, ?_, ?_, ?_, ?_, ?_, ?_, ?_, ?_, ?_, ?_, ?_, ?_, ?_, ?_, ?_, ?_, ?_, ?_, ?_, ?_, ?_, ?_, ?_, ?_, ?_, ?_, ?_, ?_, ?_, ?_, ?_, ?_, ?_, ?_, ?_, ?_, ?_, ?_, ?_, ?_, ?_, ?_, ?_, ?_, ?_, ?_, ?_, ?_, ?_, ?_, ?_, ?_, ?_, ?_, ?_, ?_, ?_, ?_, ?_, ?_, ?_, ?_, ?_, ?_, ?_, ?_⟩
    all_goals (intros; rename_i hN; exact absurd rfl hN)
  | succ n IH =>
    refine ⟨?_, ?_, ?_, ?_, ?_, ?_, ?_, ?_, ?_, ?_, ?_, ?_, ?_, ?_, ?_, ?_, ?_, ?_, ?_, ?_, ?_, ?_, ?_, ?_, ?_, ?_, ?_, ?_, ?_, ?_, ?_, ?_, ?_, ?_, ?_, ?_, ?_, ?_, ?_, ?_, ?_, ?_, ?_, ?_, ?_, ?_, ?_, ?_, ?_, ?_, ?_, ?_, ?_, ?_, ?_, ?_, ?_, ?_, ?_, ?_, ?_, ?_, ?_, ?_, ?_, ?_, ?_⟩
    · intro  s d hd hN
      rw [Pf_s, Pt_X1_file] at hN ⊢
      exact w_X1_file G IH (by omega) hN
    · intro  s d hd hN
      rw [Pf_s, Pt_X1_functionDecl] at hN ⊢
      exact w_X1_functionDecl G IH (by omega) hN
    · intro  s d hd hN
      rw [Pf_s, Pt_X1_receiver] at hN ⊢
      exact w_X1_receiver G IH (by omega) hN
    · intro  s d hd hN
      rw [Pf_s, Pt_X1_type] at hN ⊢
      exact w_X1_type G IH (by omega) hN
    · intro  s d hd hN
      rw [Pf_s, Pt_X1_listType] at hN ⊢
      exact w_X1_listType G IH (by omega) hN
    · intro x1 s d hd hN
      rw [Pf_s, Pt_X1_expr] at hN ⊢
      exact w_X1_expr G IH (by omega) hN
    · intro x1 s d hd hN
      rw [Pf_s, Pt_X1_unary] at hN ⊢
      exact w_X1_unary G IH (by omega) hN
    · intro x1 s d hd hN
      rw [Pf_s, Pt_X1_primary] at hN ⊢
      exact w_X1_primary G IH (by omega) hN
    · intro  s d hd hN
      rw [Pf_s, Pt_X1_operand] at hN ⊢
      exact w_X1_operand G IH (by omega) hN
    · intro x1 x2 s d hd hN
      rw [Pf_s, Pt_X1_elements] at hN ⊢
      exact w_X1_elements G IH (by omega) hN
    · intro  s d hd hN
      rw [Pf_s, Pt_X1_value] at hN ⊢
      exact w_X1_value G IH (by omega) hN
    · intro  s d hd hN
      rw [Pf_s, Pt_X1_paren] at hN ⊢
      exact w_X1_paren G IH (by omega) hN
    · intro  s d hd hN
      rw [Pf_s, Pt_X1_functionOrType] at hN ⊢
      exact w_X1_functionOrType G IH (by omega) hN
    · intro  s d hd hN
      rw [Pf_s, Pt_X1_signature] at hN ⊢
      exact w_X1_signature G IH (by omega) hN
    · intro  s d hd hN
      rw [Pf_s, Pt_X1_params] at hN ⊢
      exact w_X1_params G IH (by omega) hN
    · intro x1 x2 s d hd hN
      rw [Pf_s, Pt_X1_param] at hN ⊢
      exact w_X1_param G IH (by omega) hN
    · intro  s d hd hN
      rw [Pf_s, Pt_X1_block] at hN ⊢
      exact w_X1_block G IH (by omega) hN
    · intro  s d hd hN
      rw [Pf_s, Pt_X1_stmts] at hN ⊢
      exact w_X1_stmts G IH (by omega) hN
    · intro  s d hd hN
      rw [Pf_s, Pt_X1_stmt] at hN ⊢
      exact w_X1_stmt G IH (by omega) hN
    · intro  s d hd hN
      rw [Pf_s, Pt_X1_decl] at hN ⊢
      exact w_X1_decl G IH (by omega) hN
    · intro x1 s d hd hN
      rw [Pf_s, Pt_X1_group] at hN ⊢
      exact w_X1_group G IH (by omega) hN
    · intro x1 s d hd hN
      rw [Pf_s, Pt_X1_spec] at hN ⊢
      exact w_X1_spec G IH (by omega) hN
    · intro  s d hd hN
      rw [Pf_s, Pt_X1_constSpec] at hN ⊢
      exact w_X1_constSpec G IH (by omega) hN
    · intro  s d hd hN
      rw [Pf_s, Pt_X1_names] at hN ⊢
      exact w_X1_names G IH (by omega) hN
    · intro  s d hd hN
      rw [Pf_s, Pt_X1_exprs] at hN ⊢
      exact w_X1_exprs G IH (by omega) hN
    · intro x1 x2 s d hd hN
      rw [Pf_s, Pt_X1_restOfExprs] at hN ⊢
      exact w_X1_restOfExprs G IH (by omega) hN
    · intro  s d hd hN
      rw [Pf_s, Pt_X1_typeSpec] at hN ⊢
      exact w_X1_typeSpec G IH (by omega) hN
    · intro  s d hd hN
      rw [Pf_s, Pt_X1_varSpec] at hN ⊢
      exact w_X1_varSpec G IH (by omega) hN
    · intro  s d hd hN
      rw [Pf_s, Pt_X1_ifStmt] at hN ⊢
      exact w_X1_ifStmt G IH (by omega) hN
    · intro x1 x2 s d hd hN
      rw [Pf_s, Pt_X1_opening] at hN ⊢
      exact w_X1_opening G IH (by omega) hN
    · intro x1 s d hd hN
      rw [Pf_s, Pt_X1_simple] at hN ⊢
      exact w_X1_simple G IH (by omega) hN
    · intro x1 s d hd hN
      rw [Pf_s, Pt_X1_assign] at hN ⊢
      exact w_X1_assign G IH (by omega) hN
    · intro x1 x2 s d hd hN
      rw [Pf_s, Pt_X1_define] at hN ⊢
      exact w_X1_define G IH (by omega) hN
    · intro x1 s d hd hN
      rw [Pf_s, Pt_X1_behindExpr] at hN ⊢
      exact w_X1_behindExpr G IH (by omega) hN
    · intro  s d hd hN
      rw [Pf_s, Pt_X1_elseBranch] at hN ⊢
      exact w_X1_elseBranch G IH (by omega) hN
    · intro  s d hd hN
      rw [Pf_s, Pt_X1_switchStmt] at hN ⊢
      exact w_X1_switchStmt G IH (by omega) hN
    · intro  s d hd hN
      rw [Pf_s, Pt_X1_tag] at hN ⊢
      exact w_X1_tag G IH (by omega) hN
    · intro x1 s d hd hN
      rw [Pf_s, Pt_X1_clauses] at hN ⊢
      exact w_X1_clauses G IH (by omega) hN
    · intro x1 s d hd hN
      rw [Pf_s, Pt_X1_caseClause] at hN ⊢
      exact w_X1_caseClause G IH (by omega) hN
    · intro  s d hd hN
      rw [Pf_s, Pt_X1_types] at hN ⊢
      exact w_X1_types G IH (by omega) hN
    · intro x1 s d hd hN
      rw [Pf_s, Pt_X1_wholeSimple] at hN ⊢
      exact w_X1_wholeSimple G IH (by omega) hN
    · intro  s d hd hN
      rw [Pf_s, Pt_X1_clauseBody] at hN ⊢
      exact w_X1_clauseBody G IH (by omega) hN
    · intro x1 s d hd hN
      rw [Pf_s, Pt_X1_defaultClause] at hN ⊢
      exact w_X1_defaultClause G IH (by omega) hN
    · intro  s d hd hN
      rw [Pf_s, Pt_X1_selectStmt] at hN ⊢
      exact w_X1_selectStmt G IH (by omega) hN
    · intro  s d hd hN
      rw [Pf_s, Pt_X1_forStmt] at hN ⊢
      exact w_X1_forStmt G IH (by omega) hN
    · intro  s d hd hN
      rw [Pf_s, Pt_X1_forHead] at hN ⊢
      exact w_X1_forHead G IH (by omega) hN
    · intro x1 s d hd hN
      rw [Pf_s, Pt_X1_range] at hN ⊢
      exact w_X1_range G IH (by omega) hN
    · intro  s d hd hN
      rw [Pf_s, Pt_X1_restOfForHead] at hN ⊢
      exact w_X1_restOfForHead G IH (by omega) hN
    · intro  s d hd hN
      rw [Pf_s, Pt_X1_wordStmt] at hN ⊢
      exact w_X1_wordStmt G IH (by omega) hN
    · intro x1 s d hd hN
      rw [Pf_s, Pt_X1_startStmt] at hN ⊢
      exact w_X1_startStmt G IH (by omega) hN
    · intro  s d hd hN
      rw [Pf_s, Pt_X1_returnStmt] at hN ⊢
      exact w_X1_returnStmt G IH (by omega) hN
    · intro x1 s d hd hN
      rw [Pf_s, Pt_X1_jumpStmt] at hN ⊢
      exact w_X1_jumpStmt G IH (by omega) hN
    · intro  s d hd hN
      rw [Pf_s, Pt_X1_simpleStmt] at hN ⊢
      exact w_X1_simpleStmt G IH (by omega) hN
    · intro  s d hd hN
      rw [Pf_s, Pt_X1_labeledStmt] at hN ⊢
      exact w_X1_labeledStmt G IH (by omega) hN
    · intro  s d hd hN
      rw [Pf_s, Pt_X1_countedArrayType] at hN ⊢
      exact w_X1_countedArrayType G IH (by omega) hN
    · intro x1 s d hd hN
      rw [Pf_s, Pt_X1_behindOperand] at hN ⊢
      exact w_X1_behindOperand G IH (by omega) hN
    · intro x1 s d hd hN
      rw [Pf_s, Pt_X1_dot] at hN ⊢
      exact w_X1_dot G IH (by omega) hN
    · intro  s d hd hN
      rw [Pf_s, Pt_X1_index] at hN ⊢
      exact w_X1_index G IH (by omega) hN
    · intro  s d hd hN
      rw [Pf_s, Pt_X1_upperBounds] at hN ⊢
      exact w_X1_upperBounds G IH (by omega) hN
    · intro  s d hd hN
      rw [Pf_s, Pt_X1_call] at hN ⊢
      exact w_X1_call G IH (by omega) hN
    · intro  s d hd hN
      rw [Pf_s, Pt_X1_mapType] at hN ⊢
      exact w_X1_mapType G IH (by omega) hN
    · intro  s d hd hN
      rw [Pf_s, Pt_X1_chanType] at hN ⊢
      exact w_X1_chanType G IH (by omega) hN
    · intro  s d hd hN
      rw [Pf_s, Pt_X1_receiveChanType] at hN ⊢
      exact w_X1_receiveChanType G IH (by omega) hN
    · intro  s d hd hN
      rw [Pf_s, Pt_X1_pointerType] at hN ⊢
      exact w_X1_pointerType G IH (by omega) hN
    · intro  s d hd hN
      rw [Pf_s, Pt_X1_structType] at hN ⊢
      exact w_X1_structType G IH (by omega) hN
    · intro  s d hd hN
      rw [Pf_s, Pt_X1_functionType] at hN ⊢
      exact w_X1_functionType G IH (by omega) hN
    · intro  s d hd hN
      rw [Pf_s, Pt_X1_interfaceType] at hN ⊢
      exact w_X1_interfaceType G IH (by omega) hN
