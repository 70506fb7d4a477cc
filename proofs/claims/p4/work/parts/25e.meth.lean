/-! The methods of the parser. -/
def b_X1_defaultClause (K : Nat → Nat) (N : Nat) (rc : Nat → Nat → Nat → Ss → Rs Ss) (x1 : Nat) (s : Ss) : Rs Ss := bn (q_take s) (fun v1 s1 => bn (rc 76 0 0 s1) (fun v2 s2 => ife x1 2 (bn (b_X3_put K N 75 v1 1 s2) (fun v4 s4 => okR 0 s4)) (bn (b_X3_put K N 72 v1 1 s2) (fun v5 s5 => okR 0 s5))))
theorem w_X1_defaultClause {xs : Nat → Int32} {L : Nat} {h0 : mm_H} {a p N cnt : Nat} {ks : Nat → Nat} (G : Cg h0 a p N cnt ks) {n : Nat} {rc : Nat → Nat → Nat → Ss → Rs Ss} (IH : Hr xs L h0 a p N cnt ks n rc) {x1 : Nat} {s : Ss} {d : Nat} (hd : n + 17 ≤ d) (hN : b_X1_defaultClause (kA cnt ks) N rc x1 s ≠ none) : Rn xs L d 77 [.ref p, .int (nI x1)] (TC h0 a p N cnt ks s) (ou eU (TC h0 a p N cnt ks) (b_X1_defaultClause (kA cnt ks) N rc x1 s)) := by
  unfold Rn
  unfold b_X1_defaultClause at hN ⊢
  refine e_aload_n m_X1_defaultClause dX1_defaultClause_0 rfl rfl rfl ?_
  refine e_cvN (as := []) hN m_X1_defaultClause dX1_defaultClause_1 c_RX1_50 (by decide) rfl rfl (gC_p G.1) rfl (Nat.le_of_ble_eq_true rfl) (Nat.le_of_ble_eq_true rfl) (by omega) (t_take G (by omega)) (fun v1 s1 hN => ?_)
  refine e_istore_n m_X1_defaultClause dX1_defaultClause_4 rfl (by decide) rfl ?_
  refine e_aload_n m_X1_defaultClause dX1_defaultClause_5 rfl rfl rfl ?_
  refine e_cvU (as := []) hN m_X1_defaultClause dX1_defaultClause_6 c_RX1_286 (by decide) rfl rfl (gC_p G.1) rfl (Nat.le_of_ble_eq_true rfl) (Nat.le_of_ble_eq_true rfl) (by omega) (i_X1_clauseBody IH (by omega)) (fun v2 s2 hN => ?_)
  refine e_aload_n m_X1_defaultClause dX1_defaultClause_9 rfl rfl rfl ?_
  refine e_getf m_X1_defaultClause dX1_defaultClause_10 f_RX1_17 (gC_p G.1) rfl ?_
  refine e_iload_n m_X1_defaultClause dX1_defaultClause_13 rfl rfl ?_
  refine e_iconst (v := nI 2) m_X1_defaultClause dX1_defaultClause_14 (by decide) ?_
  refine e_ine (t := 23) (a := x1) (b := 2) hN m_X1_defaultClause dX1_defaultClause_15 (by decide) (fun q3 hN => ?_) (fun q3 hN => ?_)
  · refine e_bipush (v := nI 75) m_X1_defaultClause dX1_defaultClause_18 (by decide) ?_
    refine e_goto (t := 25) m_X1_defaultClause dX1_defaultClause_20 (by decide) ?_
    refine e_iload_n m_X1_defaultClause dX1_defaultClause_25 rfl rfl ?_
    refine e_iconst (v := nI 1) m_X1_defaultClause dX1_defaultClause_26 (by decide) ?_
    refine e_cvU (as := [.int (nI 75), .int (nI v1), .int (nI 1)]) hN m_X1_defaultClause dX1_defaultClause_27 c_RX1_69 (by decide) rfl rfl (gC_r G.1) rfl (Nat.le_of_ble_eq_true rfl) (Nat.le_of_ble_eq_true rfl) (by omega) (w_X3_put G (by omega)) (fun v4 s4 hN => ?_)
    exact e_ret0 m_X1_defaultClause dX1_defaultClause_30
  · refine e_bipush (v := nI 72) m_X1_defaultClause dX1_defaultClause_23 (by decide) ?_
    refine e_iload_n m_X1_defaultClause dX1_defaultClause_25 rfl rfl ?_
    refine e_iconst (v := nI 1) m_X1_defaultClause dX1_defaultClause_26 (by decide) ?_
    refine e_cvU (as := [.int (nI 72), .int (nI v1), .int (nI 1)]) hN m_X1_defaultClause dX1_defaultClause_27 c_RX1_69 (by decide) rfl rfl (gC_r G.1) rfl (Nat.le_of_ble_eq_true rfl) (Nat.le_of_ble_eq_true rfl) (by omega) (w_X3_put G (by omega)) (fun v5 s5 hN => ?_)
    exact e_ret0 m_X1_defaultClause dX1_defaultClause_30

def b_X1_selectStmt (K : Nat → Nat) (N : Nat) (rc : Nat → Nat → Nat → Ss → Rs Ss) (s : Ss) : Rs Ss := bn (q_take s) (fun v1 s1 => bn (rc 72 2 0 s1) (fun v2 s2 => bn (b_X3_put K N 73 v1 v2 s2) (fun v3 s3 => okR 0 s3)))
theorem w_X1_selectStmt {xs : Nat → Int32} {L : Nat} {h0 : mm_H} {a p N cnt : Nat} {ks : Nat → Nat} (G : Cg h0 a p N cnt ks) {n : Nat} {rc : Nat → Nat → Nat → Ss → Rs Ss} (IH : Hr xs L h0 a p N cnt ks n rc) {s : Ss} {d : Nat} (hd : n + 17 ≤ d) (hN : b_X1_selectStmt (kA cnt ks) N rc s ≠ none) : Rn xs L d 78 [.ref p] (TC h0 a p N cnt ks s) (ou eU (TC h0 a p N cnt ks) (b_X1_selectStmt (kA cnt ks) N rc s)) := by
  unfold Rn
  unfold b_X1_selectStmt at hN ⊢
  refine e_aload_n m_X1_selectStmt dX1_selectStmt_0 rfl rfl rfl ?_
  refine e_cvN (as := []) hN m_X1_selectStmt dX1_selectStmt_1 c_RX1_50 (by decide) rfl rfl (gC_p G.1) rfl (Nat.le_of_ble_eq_true rfl) (Nat.le_of_ble_eq_true rfl) (by omega) (t_take G (by omega)) (fun v1 s1 hN => ?_)
  refine e_istore_n m_X1_selectStmt dX1_selectStmt_4 rfl (by decide) rfl ?_
  refine e_aload_n m_X1_selectStmt dX1_selectStmt_5 rfl rfl rfl ?_
  refine e_getf m_X1_selectStmt dX1_selectStmt_6 f_RX1_17 (gC_p G.1) rfl ?_
  refine e_bipush (v := nI 73) m_X1_selectStmt dX1_selectStmt_9 (by decide) ?_
  refine e_iload_n m_X1_selectStmt dX1_selectStmt_11 rfl rfl ?_
  refine e_aload_n m_X1_selectStmt dX1_selectStmt_12 rfl rfl rfl ?_
  refine e_iconst (v := nI 2) m_X1_selectStmt dX1_selectStmt_13 (by decide) ?_
  refine e_cvN (as := [.int (nI 2)]) hN m_X1_selectStmt dX1_selectStmt_14 c_RX1_271 (by decide) rfl rfl (gC_p G.1) rfl (Nat.le_of_ble_eq_true rfl) (Nat.le_of_ble_eq_true rfl) (by omega) (i_X1_clauses IH (by omega)) (fun v2 s2 hN => ?_)
  refine e_cvU (as := [.int (nI 73), .int (nI v1), .int (nI v2)]) hN m_X1_selectStmt dX1_selectStmt_17 c_RX1_69 (by decide) rfl rfl (gC_r G.1) rfl (Nat.le_of_ble_eq_true rfl) (Nat.le_of_ble_eq_true rfl) (by omega) (w_X3_put G (by omega)) (fun v3 s3 hN => ?_)
  exact e_ret0 m_X1_selectStmt dX1_selectStmt_20

def b_X1_forStmt (K : Nat → Nat) (N : Nat) (rc : Nat → Nat → Nat → Ss → Rs Ss) (s : Ss) : Rs Ss := bn (q_take s) (fun v1 s1 => bn (rc 80 0 0 (u_ih s1 1)) (fun v2 s2 => ck ((s_ih s1) < 2) (bn (rc 47 0 0 (u_ih s2 (s_ih s1))) (fun v4 s4 => bn (b_X3_put K N 62 v1 (1 + v2) s4) (fun v5 s5 => okR 0 s5)))))
theorem w_X1_forStmt {xs : Nat → Int32} {L : Nat} {h0 : mm_H} {a p N cnt : Nat} {ks : Nat → Nat} (G : Cg h0 a p N cnt ks) {n : Nat} {rc : Nat → Nat → Nat → Ss → Rs Ss} (IH : Hr xs L h0 a p N cnt ks n rc) {s : Ss} {d : Nat} (hd : n + 17 ≤ d) (hN : b_X1_forStmt (kA cnt ks) N rc s ≠ none) : Rn xs L d 79 [.ref p] (TC h0 a p N cnt ks s) (ou eU (TC h0 a p N cnt ks) (b_X1_forStmt (kA cnt ks) N rc s)) := by
  unfold Rn
  unfold b_X1_forStmt at hN ⊢
  refine e_aload_n m_X1_forStmt dX1_forStmt_0 rfl rfl rfl ?_
  refine e_cvN (as := []) hN m_X1_forStmt dX1_forStmt_1 c_RX1_50 (by decide) rfl rfl (gC_p G.1) rfl (Nat.le_of_ble_eq_true rfl) (Nat.le_of_ble_eq_true rfl) (by omega) (t_take G (by omega)) (fun v1 s1 hN => ?_)
  refine e_istore_n m_X1_forStmt dX1_forStmt_4 rfl (by decide) rfl ?_
  refine e_aload_n m_X1_forStmt dX1_forStmt_5 rfl rfl rfl ?_
  refine e_getf m_X1_forStmt dX1_forStmt_6 f_RX1_119 (gC_p G.1) rfl ?_
  refine e_istore_n m_X1_forStmt dX1_forStmt_9 rfl (by decide) rfl ?_
  refine e_aload_n m_X1_forStmt dX1_forStmt_10 rfl rfl rfl ?_
  refine e_iconst (v := nI 1) m_X1_forStmt dX1_forStmt_11 (by decide) ?_
  refine e_putf (v := .int (nI 1)) (h' := TC h0 a p N cnt ks (u_ih s1 1)) m_X1_forStmt dX1_forStmt_12 f_RX1_119 (gC_p G.1) (Nat.le_of_ble_eq_true rfl) (fit_z rfl (by decide)) rfl (sC_p G.1) ?_
  refine e_iconst (v := nI 1) m_X1_forStmt dX1_forStmt_15 (by decide) ?_
  refine e_aload_n m_X1_forStmt dX1_forStmt_16 rfl rfl rfl ?_
  refine e_cvN (as := []) hN m_X1_forStmt dX1_forStmt_17 c_RX1_259 (by decide) rfl rfl (gC_p G.1) rfl (Nat.le_of_ble_eq_true rfl) (Nat.le_of_ble_eq_true rfl) (by omega) (i_X1_forHead IH (by omega)) (fun v2 s2 hN => ?_)
  refine e_iaddN m_X1_forStmt dX1_forStmt_20 ?_
  refine e_istore_n m_X1_forStmt dX1_forStmt_21 rfl (by decide) rfl ?_
  refine e_aload_n m_X1_forStmt dX1_forStmt_22 rfl rfl rfl ?_
  refine e_iload_n m_X1_forStmt dX1_forStmt_23 rfl rfl ?_
  refine e_ck hN (fun q3 hN => ?_)
  refine e_putf (v := .int (nI (s_ih s1))) (h' := TC h0 a p N cnt ks (u_ih s2 (s_ih s1))) m_X1_forStmt dX1_forStmt_24 f_RX1_119 (gC_p G.1) (Nat.le_of_ble_eq_true rfl) (fit_z rfl (b01 q3)) rfl (sC_p G.1) ?_
  refine e_aload_n m_X1_forStmt dX1_forStmt_27 rfl rfl rfl ?_
  refine e_cvU (as := []) hN m_X1_forStmt dX1_forStmt_28 c_RX1_97 (by decide) rfl rfl (gC_p G.1) rfl (Nat.le_of_ble_eq_true rfl) (Nat.le_of_ble_eq_true rfl) (by omega) (i_X1_block IH (by omega)) (fun v4 s4 hN => ?_)
  refine e_aload_n m_X1_forStmt dX1_forStmt_31 rfl rfl rfl ?_
  refine e_getf m_X1_forStmt dX1_forStmt_32 f_RX1_17 (gC_p G.1) rfl ?_
  refine e_bipush (v := nI 62) m_X1_forStmt dX1_forStmt_35 (by decide) ?_
  refine e_iload_n m_X1_forStmt dX1_forStmt_37 rfl rfl ?_
  refine e_iload_n m_X1_forStmt dX1_forStmt_38 rfl rfl ?_
  refine e_cvU (as := [.int (nI 62), .int (nI v1), .int (nI (1 + v2))]) hN m_X1_forStmt dX1_forStmt_39 c_RX1_69 (by decide) rfl rfl (gC_r G.1) rfl (Nat.le_of_ble_eq_true rfl) (Nat.le_of_ble_eq_true rfl) (by omega) (w_X3_put G (by omega)) (fun v5 s5 hN => ?_)
  exact e_ret0 m_X1_forStmt dX1_forStmt_42

def b_X1_forHead (K : Nat → Nat) (N : Nat) (rc : Nat → Nat → Nat → Ss → Rs Ss) (s : Ss) : Rs Ss := bn (q_sees K 82 s) (fun v1 s1 => ifz v1 (bn (q_sees K 28 s1) (fun v3 s3 => ifz v3 (bn (rc 61 2 63 s3) (fun v5 s5 => ife v5 1 (bn (rc 82 0 0 s5) (fun v7 s7 => okR 3 s7)) (ife v5 2 (bn (rc 81 1 0 s5) (fun v9 s9 => okR 1 s9)) (okR 1 s5)))) (bn (rc 81 0 0 s3) (fun v10 s10 => okR 1 s10)))) (okR 0 s1))
theorem w_X1_forHead {xs : Nat → Int32} {L : Nat} {h0 : mm_H} {a p N cnt : Nat} {ks : Nat → Nat} (G : Cg h0 a p N cnt ks) {n : Nat} {rc : Nat → Nat → Nat → Ss → Rs Ss} (IH : Hr xs L h0 a p N cnt ks n rc) {s : Ss} {d : Nat} (hd : n + 17 ≤ d) (hN : b_X1_forHead (kA cnt ks) N rc s ≠ none) : Rn xs L d 80 [.ref p] (TC h0 a p N cnt ks s) (ou eN (TC h0 a p N cnt ks) (b_X1_forHead (kA cnt ks) N rc s)) := by
  unfold Rn
  unfold b_X1_forHead at hN ⊢
  refine e_aload_n m_X1_forHead dX1_forHead_0 rfl rfl rfl ?_
  refine e_bipush (v := nI 82) m_X1_forHead dX1_forHead_1 (by decide) ?_
  refine e_cvN (as := [.int (nI 82)]) hN m_X1_forHead dX1_forHead_3 c_RX1_46 (by decide) rfl rfl (gC_p G.1) rfl (Nat.le_of_ble_eq_true rfl) (Nat.le_of_ble_eq_true rfl) (by omega) (t_sees G (by omega)) (fun v1 s1 hN => ?_)
  refine e_ifeq (t := 11) hN m_X1_forHead dX1_forHead_6 (by decide) (fun q2 hN => ?_) (fun q2 hN => ?_)
  · refine e_aload_n m_X1_forHead dX1_forHead_11 rfl rfl rfl ?_
    refine e_bipush (v := nI 28) m_X1_forHead dX1_forHead_12 (by decide) ?_
    refine e_cvN (as := [.int (nI 28)]) hN m_X1_forHead dX1_forHead_14 c_RX1_46 (by decide) rfl rfl (gC_p G.1) rfl (Nat.le_of_ble_eq_true rfl) (Nat.le_of_ble_eq_true rfl) (by omega) (t_sees G (by omega)) (fun v3 s3 hN => ?_)
    refine e_ifeq (t := 27) hN m_X1_forHead dX1_forHead_17 (by decide) (fun q4 hN => ?_) (fun q4 hN => ?_)
    · refine e_aload_n m_X1_forHead dX1_forHead_27 rfl rfl rfl ?_
      refine e_iconst (v := nI 2) m_X1_forHead dX1_forHead_28 (by decide) ?_
      refine e_bipush (v := nI 63) m_X1_forHead dX1_forHead_29 (by decide) ?_
      refine e_cvN (as := [.int (nI 2), .int (nI 63)]) hN m_X1_forHead dX1_forHead_31 c_RX1_253 (by decide) rfl rfl (gC_p G.1) rfl (Nat.le_of_ble_eq_true rfl) (Nat.le_of_ble_eq_true rfl) (by omega) (i_X1_opening IH (by omega)) (fun v5 s5 hN => ?_)
      refine e_istore_n m_X1_forHead dX1_forHead_34 rfl (by decide) rfl ?_
      refine e_iload_n m_X1_forHead dX1_forHead_35 rfl rfl ?_
      refine e_iconst (v := nI 1) m_X1_forHead dX1_forHead_36 (by decide) ?_
      refine e_ine (t := 46) (a := v5) (b := 1) hN m_X1_forHead dX1_forHead_37 (by decide) (fun q6 hN => ?_) (fun q6 hN => ?_)
      · refine e_aload_n m_X1_forHead dX1_forHead_40 rfl rfl rfl ?_
        refine e_cvU (as := []) hN m_X1_forHead dX1_forHead_41 c_RX1_265 (by decide) rfl rfl (gC_p G.1) rfl (Nat.le_of_ble_eq_true rfl) (Nat.le_of_ble_eq_true rfl) (by omega) (i_X1_restOfForHead IH (by omega)) (fun v7 s7 hN => ?_)
        refine e_iconst (v := nI 3) m_X1_forHead dX1_forHead_44 (by decide) ?_
        exact e_reti m_X1_forHead dX1_forHead_45 (Or.inl rfl)
      · refine e_iload_n m_X1_forHead dX1_forHead_46 rfl rfl ?_
        refine e_iconst (v := nI 2) m_X1_forHead dX1_forHead_47 (by decide) ?_
        refine e_ine (t := 56) (a := v5) (b := 2) hN m_X1_forHead dX1_forHead_48 (by decide) (fun q8 hN => ?_) (fun q8 hN => ?_)
        · refine e_aload_n m_X1_forHead dX1_forHead_51 rfl rfl rfl ?_
          refine e_iconst (v := nI 1) m_X1_forHead dX1_forHead_52 (by decide) ?_
          refine e_cvU (as := [.int (nI 1)]) hN m_X1_forHead dX1_forHead_53 c_RX1_262 (by decide) rfl rfl (gC_p G.1) rfl (Nat.le_of_ble_eq_true rfl) (Nat.le_of_ble_eq_true rfl) (by omega) (i_X1_range IH (by omega)) (fun v9 s9 hN => ?_)
          refine e_iconst (v := nI 1) m_X1_forHead dX1_forHead_56 (by decide) ?_
          exact e_reti m_X1_forHead dX1_forHead_57 (Or.inl rfl)
        · refine e_iconst (v := nI 1) m_X1_forHead dX1_forHead_56 (by decide) ?_
          exact e_reti m_X1_forHead dX1_forHead_57 (Or.inl rfl)
    · refine e_aload_n m_X1_forHead dX1_forHead_20 rfl rfl rfl ?_
      refine e_iconst (v := nI 0) m_X1_forHead dX1_forHead_21 (by decide) ?_
      refine e_cvU (as := [.int (nI 0)]) hN m_X1_forHead dX1_forHead_22 c_RX1_262 (by decide) rfl rfl (gC_p G.1) rfl (Nat.le_of_ble_eq_true rfl) (Nat.le_of_ble_eq_true rfl) (by omega) (i_X1_range IH (by omega)) (fun v10 s10 hN => ?_)
      refine e_iconst (v := nI 1) m_X1_forHead dX1_forHead_25 (by decide) ?_
      exact e_reti m_X1_forHead dX1_forHead_26 (Or.inl rfl)
  · refine e_iconst (v := nI 0) m_X1_forHead dX1_forHead_9 (by decide) ?_
    exact e_reti m_X1_forHead dX1_forHead_10 (Or.inl rfl)

def b_X1_range (K : Nat → Nat) (N : Nat) (rc : Nat → Nat → Nat → Ss → Rs Ss) (x1 : Nat) (s : Ss) : Rs Ss := bn (q_take s) (fun v1 s1 => bn (rc 29 0 0 s1) (fun v2 s2 => bn (b_X3_put K N 66 v1 (x1 + 1) s2) (fun v3 s3 => okR 0 s3)))
theorem w_X1_range {xs : Nat → Int32} {L : Nat} {h0 : mm_H} {a p N cnt : Nat} {ks : Nat → Nat} (G : Cg h0 a p N cnt ks) {n : Nat} {rc : Nat → Nat → Nat → Ss → Rs Ss} (IH : Hr xs L h0 a p N cnt ks n rc) {x1 : Nat} {s : Ss} {d : Nat} (hd : n + 17 ≤ d) (hN : b_X1_range (kA cnt ks) N rc x1 s ≠ none) : Rn xs L d 81 [.ref p, .int (nI x1)] (TC h0 a p N cnt ks s) (ou eU (TC h0 a p N cnt ks) (b_X1_range (kA cnt ks) N rc x1 s)) := by
  unfold Rn
  unfold b_X1_range at hN ⊢
  refine e_aload_n m_X1_range dX1_range_0 rfl rfl rfl ?_
  refine e_cvN (as := []) hN m_X1_range dX1_range_1 c_RX1_50 (by decide) rfl rfl (gC_p G.1) rfl (Nat.le_of_ble_eq_true rfl) (Nat.le_of_ble_eq_true rfl) (by omega) (t_take G (by omega)) (fun v1 s1 hN => ?_)
  refine e_istore_n m_X1_range dX1_range_4 rfl (by decide) rfl ?_
  refine e_aload_n m_X1_range dX1_range_5 rfl rfl rfl ?_
  refine e_iconst (v := nI 0) m_X1_range dX1_range_6 (by decide) ?_
  refine e_cvU (as := [.int (nI 0)]) hN m_X1_range dX1_range_7 c_RX1_181 (by decide) rfl rfl (gC_p G.1) rfl (Nat.le_of_ble_eq_true rfl) (Nat.le_of_ble_eq_true rfl) (by omega) (i_X1_expr IH (by omega)) (fun v2 s2 hN => ?_)
  refine e_aload_n m_X1_range dX1_range_10 rfl rfl rfl ?_
  refine e_getf m_X1_range dX1_range_11 f_RX1_17 (gC_p G.1) rfl ?_
  refine e_bipush (v := nI 66) m_X1_range dX1_range_14 (by decide) ?_
  refine e_iload_n m_X1_range dX1_range_16 rfl rfl ?_
  refine e_iload_n m_X1_range dX1_range_17 rfl rfl ?_
  refine e_iconst (v := nI 1) m_X1_range dX1_range_18 (by decide) ?_
  refine e_iaddN m_X1_range dX1_range_19 ?_
  refine e_cvU (as := [.int (nI 66), .int (nI v1), .int (nI (x1 + 1))]) hN m_X1_range dX1_range_20 c_RX1_69 (by decide) rfl rfl (gC_r G.1) rfl (Nat.le_of_ble_eq_true rfl) (Nat.le_of_ble_eq_true rfl) (by omega) (w_X3_put G (by omega)) (fun v3 s3 hN => ?_)
  exact e_ret0 m_X1_range dX1_range_23

def b_X1_restOfForHead (K : Nat → Nat) (N : Nat) (rc : Nat → Nat → Nat → Ss → Rs Ss) (s : Ss) : Rs Ss := bn (q_sees K 85 s) (fun v1 s1 => ifz v1 (bn (rc 29 0 0 s1) (fun v3 s3 => bn (b_X1_expect K N 85 s3) (fun v4 s4 => bn (b_X3_put K N 64 v4 1 s4) (fun v5 s5 => bn (q_sees K 82 s5) (fun v6 s6 => ifz v6 (bn (rc 75 3 0 s6) (fun v8 s8 => bn (b_X3_put K N 65 v4 1 s8) (fun v9 s9 => okR 0 s9))) (bn (b_X3_put K N 65 v4 0 s6) (fun v10 s10 => okR 0 s10))))))) (bn (b_X1_expect K N 85 s1) (fun v11 s11 => bn (b_X3_put K N 64 v11 0 s11) (fun v12 s12 => bn (q_sees K 82 s12) (fun v13 s13 => ifz v13 (bn (rc 75 3 0 s13) (fun v15 s15 => bn (b_X3_put K N 65 v11 1 s15) (fun v16 s16 => okR 0 s16))) (bn (b_X3_put K N 65 v11 0 s13) (fun v17 s17 => okR 0 s17)))))))
theorem w_X1_restOfForHead {xs : Nat → Int32} {L : Nat} {h0 : mm_H} {a p N cnt : Nat} {ks : Nat → Nat} (G : Cg h0 a p N cnt ks) {n : Nat} {rc : Nat → Nat → Nat → Ss → Rs Ss} (IH : Hr xs L h0 a p N cnt ks n rc) {s : Ss} {d : Nat} (hd : n + 17 ≤ d) (hN : b_X1_restOfForHead (kA cnt ks) N rc s ≠ none) : Rn xs L d 82 [.ref p] (TC h0 a p N cnt ks s) (ou eU (TC h0 a p N cnt ks) (b_X1_restOfForHead (kA cnt ks) N rc s)) := by
  unfold Rn
  unfold b_X1_restOfForHead at hN ⊢
  refine e_iconst (v := nI 0) m_X1_restOfForHead dX1_restOfForHead_0 (by decide) ?_
  refine e_istore_n m_X1_restOfForHead dX1_restOfForHead_1 rfl (by decide) rfl ?_
  refine e_aload_n m_X1_restOfForHead dX1_restOfForHead_2 rfl rfl rfl ?_
  refine e_bipush (v := nI 85) m_X1_restOfForHead dX1_restOfForHead_3 (by decide) ?_
  refine e_cvN (as := [.int (nI 85)]) hN m_X1_restOfForHead dX1_restOfForHead_5 c_RX1_46 (by decide) rfl rfl (gC_p G.1) rfl (Nat.le_of_ble_eq_true rfl) (Nat.le_of_ble_eq_true rfl) (by omega) (t_sees G (by omega)) (fun v1 s1 hN => ?_)
  refine e_ifne (t := 19) hN m_X1_restOfForHead dX1_restOfForHead_8 (by decide) (fun q2 hN => ?_) (fun q2 hN => ?_)
  · refine e_aload_n m_X1_restOfForHead dX1_restOfForHead_11 rfl rfl rfl ?_
    refine e_iconst (v := nI 0) m_X1_restOfForHead dX1_restOfForHead_12 (by decide) ?_
    refine e_cvU (as := [.int (nI 0)]) hN m_X1_restOfForHead dX1_restOfForHead_13 c_RX1_181 (by decide) rfl rfl (gC_p G.1) rfl (Nat.le_of_ble_eq_true rfl) (Nat.le_of_ble_eq_true rfl) (by omega) (i_X1_expr IH (by omega)) (fun v3 s3 hN => ?_)
    refine e_iincN (n := 1) m_X1_restOfForHead dX1_restOfForHead_16 (by decide) rfl rfl ?_
    refine e_aload_n m_X1_restOfForHead dX1_restOfForHead_19 rfl rfl rfl ?_
    refine e_bipush (v := nI 85) m_X1_restOfForHead dX1_restOfForHead_20 (by decide) ?_
    refine e_cvN (as := [.int (nI 85)]) hN m_X1_restOfForHead dX1_restOfForHead_22 c_RX1_63 (by decide) rfl rfl (gC_p G.1) rfl (Nat.le_of_ble_eq_true rfl) (Nat.le_of_ble_eq_true rfl) (by omega) (w_X1_expect G (by omega)) (fun v4 s4 hN => ?_)
    refine e_istore_n m_X1_restOfForHead dX1_restOfForHead_25 rfl (by decide) rfl ?_
    refine e_aload_n m_X1_restOfForHead dX1_restOfForHead_26 rfl rfl rfl ?_
    refine e_getf m_X1_restOfForHead dX1_restOfForHead_27 f_RX1_17 (gC_p G.1) rfl ?_
    refine e_bipush (v := nI 64) m_X1_restOfForHead dX1_restOfForHead_30 (by decide) ?_
    refine e_iload_n m_X1_restOfForHead dX1_restOfForHead_32 rfl rfl ?_
    refine e_iload_n m_X1_restOfForHead dX1_restOfForHead_33 rfl rfl ?_
    refine e_cvU (as := [.int (nI 64), .int (nI v4), .int (nI 1)]) hN m_X1_restOfForHead dX1_restOfForHead_34 c_RX1_69 (by decide) rfl rfl (gC_r G.1) rfl (Nat.le_of_ble_eq_true rfl) (Nat.le_of_ble_eq_true rfl) (by omega) (w_X3_put G (by omega)) (fun v5 s5 hN => ?_)
    refine e_iconst (v := nI 0) m_X1_restOfForHead dX1_restOfForHead_37 (by decide) ?_
    refine e_istore_n m_X1_restOfForHead dX1_restOfForHead_38 rfl (by decide) rfl ?_
    refine e_aload_n m_X1_restOfForHead dX1_restOfForHead_39 rfl rfl rfl ?_
    refine e_bipush (v := nI 82) m_X1_restOfForHead dX1_restOfForHead_40 (by decide) ?_
    refine e_cvN (as := [.int (nI 82)]) hN m_X1_restOfForHead dX1_restOfForHead_42 c_RX1_46 (by decide) rfl rfl (gC_p G.1) rfl (Nat.le_of_ble_eq_true rfl) (Nat.le_of_ble_eq_true rfl) (by omega) (t_sees G (by omega)) (fun v6 s6 hN => ?_)
    refine e_ifne (t := 56) hN m_X1_restOfForHead dX1_restOfForHead_45 (by decide) (fun q7 hN => ?_) (fun q7 hN => ?_)
    · refine e_aload_n m_X1_restOfForHead dX1_restOfForHead_48 rfl rfl rfl ?_
      refine e_iconst (v := nI 3) m_X1_restOfForHead dX1_restOfForHead_49 (by decide) ?_
      refine e_cvU (as := [.int (nI 3)]) hN m_X1_restOfForHead dX1_restOfForHead_50 c_RX1_225 (by decide) rfl rfl (gC_p G.1) rfl (Nat.le_of_ble_eq_true rfl) (Nat.le_of_ble_eq_true rfl) (by omega) (i_X1_wholeSimple IH (by omega)) (fun v8 s8 hN => ?_)
      refine e_iincN (n := 1) m_X1_restOfForHead dX1_restOfForHead_53 (by decide) rfl rfl ?_
      refine e_aload_n m_X1_restOfForHead dX1_restOfForHead_56 rfl rfl rfl ?_
      refine e_getf m_X1_restOfForHead dX1_restOfForHead_57 f_RX1_17 (gC_p G.1) rfl ?_
      refine e_bipush (v := nI 65) m_X1_restOfForHead dX1_restOfForHead_60 (by decide) ?_
      refine e_iload_n m_X1_restOfForHead dX1_restOfForHead_62 rfl rfl ?_
      refine e_iload_n m_X1_restOfForHead dX1_restOfForHead_63 rfl rfl ?_
      refine e_cvU (as := [.int (nI 65), .int (nI v4), .int (nI 1)]) hN m_X1_restOfForHead dX1_restOfForHead_64 c_RX1_69 (by decide) rfl rfl (gC_r G.1) rfl (Nat.le_of_ble_eq_true rfl) (Nat.le_of_ble_eq_true rfl) (by omega) (w_X3_put G (by omega)) (fun v9 s9 hN => ?_)
      exact e_ret0 m_X1_restOfForHead dX1_restOfForHead_67
    · refine e_aload_n m_X1_restOfForHead dX1_restOfForHead_56 rfl rfl rfl ?_
      refine e_getf m_X1_restOfForHead dX1_restOfForHead_57 f_RX1_17 (gC_p G.1) rfl ?_
      refine e_bipush (v := nI 65) m_X1_restOfForHead dX1_restOfForHead_60 (by decide) ?_
      refine e_iload_n m_X1_restOfForHead dX1_restOfForHead_62 rfl rfl ?_
      refine e_iload_n m_X1_restOfForHead dX1_restOfForHead_63 rfl rfl ?_
      refine e_cvU (as := [.int (nI 65), .int (nI v4), .int (nI 0)]) hN m_X1_restOfForHead dX1_restOfForHead_64 c_RX1_69 (by decide) rfl rfl (gC_r G.1) rfl (Nat.le_of_ble_eq_true rfl) (Nat.le_of_ble_eq_true rfl) (by omega) (w_X3_put G (by omega)) (fun v10 s10 hN => ?_)
      exact e_ret0 m_X1_restOfForHead dX1_restOfForHead_67
  · refine e_aload_n m_X1_restOfForHead dX1_restOfForHead_19 rfl rfl rfl ?_
    refine e_bipush (v := nI 85) m_X1_restOfForHead dX1_restOfForHead_20 (by decide) ?_
    refine e_cvN (as := [.int (nI 85)]) hN m_X1_restOfForHead dX1_restOfForHead_22 c_RX1_63 (by decide) rfl rfl (gC_p G.1) rfl (Nat.le_of_ble_eq_true rfl) (Nat.le_of_ble_eq_true rfl) (by omega) (w_X1_expect G (by omega)) (fun v11 s11 hN => ?_)
    refine e_istore_n m_X1_restOfForHead dX1_restOfForHead_25 rfl (by decide) rfl ?_
    refine e_aload_n m_X1_restOfForHead dX1_restOfForHead_26 rfl rfl rfl ?_
    refine e_getf m_X1_restOfForHead dX1_restOfForHead_27 f_RX1_17 (gC_p G.1) rfl ?_
    refine e_bipush (v := nI 64) m_X1_restOfForHead dX1_restOfForHead_30 (by decide) ?_
    refine e_iload_n m_X1_restOfForHead dX1_restOfForHead_32 rfl rfl ?_
    refine e_iload_n m_X1_restOfForHead dX1_restOfForHead_33 rfl rfl ?_
    refine e_cvU (as := [.int (nI 64), .int (nI v11), .int (nI 0)]) hN m_X1_restOfForHead dX1_restOfForHead_34 c_RX1_69 (by decide) rfl rfl (gC_r G.1) rfl (Nat.le_of_ble_eq_true rfl) (Nat.le_of_ble_eq_true rfl) (by omega) (w_X3_put G (by omega)) (fun v12 s12 hN => ?_)
    refine e_iconst (v := nI 0) m_X1_restOfForHead dX1_restOfForHead_37 (by decide) ?_
    refine e_istore_n m_X1_restOfForHead dX1_restOfForHead_38 rfl (by decide) rfl ?_
    refine e_aload_n m_X1_restOfForHead dX1_restOfForHead_39 rfl rfl rfl ?_
    refine e_bipush (v := nI 82) m_X1_restOfForHead dX1_restOfForHead_40 (by decide) ?_
    refine e_cvN (as := [.int (nI 82)]) hN m_X1_restOfForHead dX1_restOfForHead_42 c_RX1_46 (by decide) rfl rfl (gC_p G.1) rfl (Nat.le_of_ble_eq_true rfl) (Nat.le_of_ble_eq_true rfl) (by omega) (t_sees G (by omega)) (fun v13 s13 hN => ?_)
    refine e_ifne (t := 56) hN m_X1_restOfForHead dX1_restOfForHead_45 (by decide) (fun q14 hN => ?_) (fun q14 hN => ?_)
    · refine e_aload_n m_X1_restOfForHead dX1_restOfForHead_48 rfl rfl rfl ?_
      refine e_iconst (v := nI 3) m_X1_restOfForHead dX1_restOfForHead_49 (by decide) ?_
      refine e_cvU (as := [.int (nI 3)]) hN m_X1_restOfForHead dX1_restOfForHead_50 c_RX1_225 (by decide) rfl rfl (gC_p G.1) rfl (Nat.le_of_ble_eq_true rfl) (Nat.le_of_ble_eq_true rfl) (by omega) (i_X1_wholeSimple IH (by omega)) (fun v15 s15 hN => ?_)
      refine e_iincN (n := 1) m_X1_restOfForHead dX1_restOfForHead_53 (by decide) rfl rfl ?_
      refine e_aload_n m_X1_restOfForHead dX1_restOfForHead_56 rfl rfl rfl ?_
      refine e_getf m_X1_restOfForHead dX1_restOfForHead_57 f_RX1_17 (gC_p G.1) rfl ?_
      refine e_bipush (v := nI 65) m_X1_restOfForHead dX1_restOfForHead_60 (by decide) ?_
      refine e_iload_n m_X1_restOfForHead dX1_restOfForHead_62 rfl rfl ?_
      refine e_iload_n m_X1_restOfForHead dX1_restOfForHead_63 rfl rfl ?_
      refine e_cvU (as := [.int (nI 65), .int (nI v11), .int (nI 1)]) hN m_X1_restOfForHead dX1_restOfForHead_64 c_RX1_69 (by decide) rfl rfl (gC_r G.1) rfl (Nat.le_of_ble_eq_true rfl) (Nat.le_of_ble_eq_true rfl) (by omega) (w_X3_put G (by omega)) (fun v16 s16 hN => ?_)
      exact e_ret0 m_X1_restOfForHead dX1_restOfForHead_67
    · refine e_aload_n m_X1_restOfForHead dX1_restOfForHead_56 rfl rfl rfl ?_
      refine e_getf m_X1_restOfForHead dX1_restOfForHead_57 f_RX1_17 (gC_p G.1) rfl ?_
      refine e_bipush (v := nI 65) m_X1_restOfForHead dX1_restOfForHead_60 (by decide) ?_
      refine e_iload_n m_X1_restOfForHead dX1_restOfForHead_62 rfl rfl ?_
      refine e_iload_n m_X1_restOfForHead dX1_restOfForHead_63 rfl rfl ?_
      refine e_cvU (as := [.int (nI 65), .int (nI v11), .int (nI 0)]) hN m_X1_restOfForHead dX1_restOfForHead_64 c_RX1_69 (by decide) rfl rfl (gC_r G.1) rfl (Nat.le_of_ble_eq_true rfl) (Nat.le_of_ble_eq_true rfl) (by omega) (w_X3_put G (by omega)) (fun v17 s17 hN => ?_)
      exact e_ret0 m_X1_restOfForHead dX1_restOfForHead_67

def b_X1_wordStmt (K : Nat → Nat) (N : Nat) (rc : Nat → Nat → Nat → Ss → Rs Ss) (s : Ss) : Rs Ss := ck ((K (s_at s)) < 2147483648) (ife (K (s_at s)) 10 (bn (rc 87 45 0 s) (fun v3 s3 => okR 1 s3)) (ife (K (s_at s)) 11 (okR 0 s) (ife (K (s_at s)) 12 (okR 0 s) (ife (K (s_at s)) 13 (okR 0 s) (ife (K (s_at s)) 14 (bn (rc 87 46 0 s) (fun v8 s8 => okR 1 s8)) (ife (K (s_at s)) 15 (okR 0 s) (ife (K (s_at s)) 16 (bn (rc 84 43 0 s) (fun v11 s11 => okR 1 s11)) (ife (K (s_at s)) 17 (okR 0 s) (ife (K (s_at s)) 18 (bn (b_X1_putLeaf K N 47 s) (fun v14 s14 => okR 1 s14)) (ife (K (s_at s)) 19 (okR 0 s) (ife (K (s_at s)) 20 (okR 0 s) (ife (K (s_at s)) 21 (bn (rc 84 42 0 s) (fun v18 s18 => okR 1 s18)) (ife (K (s_at s)) 22 (okR 0 s) (ife (K (s_at s)) 23 (okR 0 s) (ife (K (s_at s)) 24 (okR 0 s) (ife (K (s_at s)) 25 (okR 0 s) (ife (K (s_at s)) 26 (okR 0 s) (ife (K (s_at s)) 27 (okR 0 s) (ife (K (s_at s)) 28 (okR 0 s) (ife (K (s_at s)) 29 (bn (rc 85 0 0 s) (fun v27 s27 => okR 1 s27)) (okR 0 s)))))))))))))))))))))
theorem w_X1_wordStmt {xs : Nat → Int32} {L : Nat} {h0 : mm_H} {a p N cnt : Nat} {ks : Nat → Nat} (G : Cg h0 a p N cnt ks) {n : Nat} {rc : Nat → Nat → Nat → Ss → Rs Ss} (IH : Hr xs L h0 a p N cnt ks n rc) {s : Ss} {d : Nat} (hd : n + 17 ≤ d) (hN : b_X1_wordStmt (kA cnt ks) N rc s ≠ none) : Rn xs L d 83 [.ref p] (TC h0 a p N cnt ks s) (ou eN (TC h0 a p N cnt ks) (b_X1_wordStmt (kA cnt ks) N rc s)) := by
  unfold Rn
  unfold b_X1_wordStmt at hN ⊢
  refine e_aload_n m_X1_wordStmt dX1_wordStmt_0 rfl rfl rfl ?_
  refine e_getf m_X1_wordStmt dX1_wordStmt_1 f_RX1_33 (gC_p G.1) rfl ?_
  refine e_ck hN (fun q1 hN => ?_)
  refine sw_c (a := ((kA cnt ks) (s_at s))) (b := 10) hN (fun q2 hN => ?_) (fun q2 hN => ?_)
  · refine e_table (t := 122) m_X1_wordStmt dX1_wordStmt_4 (by rw [q2]; decide) (Or.inr (by rw [q2]; decide)) ?_
    refine e_aload_n m_X1_wordStmt dX1_wordStmt_122 rfl rfl rfl ?_
    refine e_bipush (v := nI 45) m_X1_wordStmt dX1_wordStmt_123 (by decide) ?_
    refine e_cvU (as := [.int (nI 45)]) hN m_X1_wordStmt dX1_wordStmt_125 c_RX1_216 (by decide) rfl rfl (gC_p G.1) rfl (Nat.le_of_ble_eq_true rfl) (Nat.le_of_ble_eq_true rfl) (by omega) (i_X1_jumpStmt IH (by omega)) (fun v3 s3 hN => ?_)
    refine e_iconst (v := nI 1) m_X1_wordStmt dX1_wordStmt_128 (by decide) ?_
    exact e_reti m_X1_wordStmt dX1_wordStmt_129 (Or.inr ⟨rfl, by decide⟩)
  · refine sw_c (a := ((kA cnt ks) (s_at s))) (b := 11) hN (fun q4 hN => ?_) (fun q4 hN => ?_)
    · refine e_table (t := 146) m_X1_wordStmt dX1_wordStmt_4 (by rw [q4]; decide) (Or.inr (by rw [q4]; decide)) ?_
      refine e_iconst (v := nI 0) m_X1_wordStmt dX1_wordStmt_146 (by decide) ?_
      exact e_reti m_X1_wordStmt dX1_wordStmt_147 (Or.inr ⟨rfl, by decide⟩)
    · refine sw_c (a := ((kA cnt ks) (s_at s))) (b := 12) hN (fun q5 hN => ?_) (fun q5 hN => ?_)
      · refine e_table (t := 146) m_X1_wordStmt dX1_wordStmt_4 (by rw [q5]; decide) (Or.inr (by rw [q5]; decide)) ?_
        refine e_iconst (v := nI 0) m_X1_wordStmt dX1_wordStmt_146 (by decide) ?_
        exact e_reti m_X1_wordStmt dX1_wordStmt_147 (Or.inr ⟨rfl, by decide⟩)
      · refine sw_c (a := ((kA cnt ks) (s_at s))) (b := 13) hN (fun q6 hN => ?_) (fun q6 hN => ?_)
        · refine e_table (t := 146) m_X1_wordStmt dX1_wordStmt_4 (by rw [q6]; decide) (Or.inr (by rw [q6]; decide)) ?_
          refine e_iconst (v := nI 0) m_X1_wordStmt dX1_wordStmt_146 (by decide) ?_
          exact e_reti m_X1_wordStmt dX1_wordStmt_147 (Or.inr ⟨rfl, by decide⟩)
        · refine sw_c (a := ((kA cnt ks) (s_at s))) (b := 14) hN (fun q7 hN => ?_) (fun q7 hN => ?_)
          · refine e_table (t := 130) m_X1_wordStmt dX1_wordStmt_4 (by rw [q7]; decide) (Or.inr (by rw [q7]; decide)) ?_
            refine e_aload_n m_X1_wordStmt dX1_wordStmt_130 rfl rfl rfl ?_
            refine e_bipush (v := nI 46) m_X1_wordStmt dX1_wordStmt_131 (by decide) ?_
            refine e_cvU (as := [.int (nI 46)]) hN m_X1_wordStmt dX1_wordStmt_133 c_RX1_216 (by decide) rfl rfl (gC_p G.1) rfl (Nat.le_of_ble_eq_true rfl) (Nat.le_of_ble_eq_true rfl) (by omega) (i_X1_jumpStmt IH (by omega)) (fun v8 s8 hN => ?_)
            refine e_iconst (v := nI 1) m_X1_wordStmt dX1_wordStmt_136 (by decide) ?_
            exact e_reti m_X1_wordStmt dX1_wordStmt_137 (Or.inr ⟨rfl, by decide⟩)
          · refine sw_c (a := ((kA cnt ks) (s_at s))) (b := 15) hN (fun q9 hN => ?_) (fun q9 hN => ?_)
            · refine e_table (t := 146) m_X1_wordStmt dX1_wordStmt_4 (by rw [q9]; decide) (Or.inr (by rw [q9]; decide)) ?_
              refine e_iconst (v := nI 0) m_X1_wordStmt dX1_wordStmt_146 (by decide) ?_
              exact e_reti m_X1_wordStmt dX1_wordStmt_147 (Or.inr ⟨rfl, by decide⟩)
            · refine sw_c (a := ((kA cnt ks) (s_at s))) (b := 16) hN (fun q10 hN => ?_) (fun q10 hN => ?_)
              · refine e_table (t := 108) m_X1_wordStmt dX1_wordStmt_4 (by rw [q10]; decide) (Or.inr (by rw [q10]; decide)) ?_
                refine e_aload_n m_X1_wordStmt dX1_wordStmt_108 rfl rfl rfl ?_
                refine e_bipush (v := nI 43) m_X1_wordStmt dX1_wordStmt_109 (by decide) ?_
                refine e_cvU (as := [.int (nI 43)]) hN m_X1_wordStmt dX1_wordStmt_111 c_RX1_210 (by decide) rfl rfl (gC_p G.1) rfl (Nat.le_of_ble_eq_true rfl) (Nat.le_of_ble_eq_true rfl) (by omega) (i_X1_startStmt IH (by omega)) (fun v11 s11 hN => ?_)
                refine e_iconst (v := nI 1) m_X1_wordStmt dX1_wordStmt_114 (by decide) ?_
                exact e_reti m_X1_wordStmt dX1_wordStmt_115 (Or.inr ⟨rfl, by decide⟩)
              · refine sw_c (a := ((kA cnt ks) (s_at s))) (b := 17) hN (fun q12 hN => ?_) (fun q12 hN => ?_)
                · refine e_table (t := 146) m_X1_wordStmt dX1_wordStmt_4 (by rw [q12]; decide) (Or.inr (by rw [q12]; decide)) ?_
                  refine e_iconst (v := nI 0) m_X1_wordStmt dX1_wordStmt_146 (by decide) ?_
                  exact e_reti m_X1_wordStmt dX1_wordStmt_147 (Or.inr ⟨rfl, by decide⟩)
                · refine sw_c (a := ((kA cnt ks) (s_at s))) (b := 18) hN (fun q13 hN => ?_) (fun q13 hN => ?_)
                  · refine e_table (t := 138) m_X1_wordStmt dX1_wordStmt_4 (by rw [q13]; decide) (Or.inr (by rw [q13]; decide)) ?_
                    refine e_aload_n m_X1_wordStmt dX1_wordStmt_138 rfl rfl rfl ?_
                    refine e_bipush (v := nI 47) m_X1_wordStmt dX1_wordStmt_139 (by decide) ?_
                    refine e_cvU (as := [.int (nI 47)]) hN m_X1_wordStmt dX1_wordStmt_141 c_RX1_154 (by decide) rfl rfl (gC_p G.1) rfl (Nat.le_of_ble_eq_true rfl) (Nat.le_of_ble_eq_true rfl) (by omega) (w_X1_putLeaf G (by omega)) (fun v14 s14 hN => ?_)
                    refine e_iconst (v := nI 1) m_X1_wordStmt dX1_wordStmt_144 (by decide) ?_
                    exact e_reti m_X1_wordStmt dX1_wordStmt_145 (Or.inr ⟨rfl, by decide⟩)
                  · refine sw_c (a := ((kA cnt ks) (s_at s))) (b := 19) hN (fun q15 hN => ?_) (fun q15 hN => ?_)
                    · refine e_table (t := 146) m_X1_wordStmt dX1_wordStmt_4 (by rw [q15]; decide) (Or.inr (by rw [q15]; decide)) ?_
                      refine e_iconst (v := nI 0) m_X1_wordStmt dX1_wordStmt_146 (by decide) ?_
                      exact e_reti m_X1_wordStmt dX1_wordStmt_147 (Or.inr ⟨rfl, by decide⟩)
                    · refine sw_c (a := ((kA cnt ks) (s_at s))) (b := 20) hN (fun q16 hN => ?_) (fun q16 hN => ?_)
                      · refine e_table (t := 146) m_X1_wordStmt dX1_wordStmt_4 (by rw [q16]; decide) (Or.inr (by rw [q16]; decide)) ?_
                        refine e_iconst (v := nI 0) m_X1_wordStmt dX1_wordStmt_146 (by decide) ?_
                        exact e_reti m_X1_wordStmt dX1_wordStmt_147 (Or.inr ⟨rfl, by decide⟩)
                      · refine sw_c (a := ((kA cnt ks) (s_at s))) (b := 21) hN (fun q17 hN => ?_) (fun q17 hN => ?_)
                        · refine e_table (t := 100) m_X1_wordStmt dX1_wordStmt_4 (by rw [q17]; decide) (Or.inr (by rw [q17]; decide)) ?_
                          refine e_aload_n m_X1_wordStmt dX1_wordStmt_100 rfl rfl rfl ?_
                          refine e_bipush (v := nI 42) m_X1_wordStmt dX1_wordStmt_101 (by decide) ?_
                          refine e_cvU (as := [.int (nI 42)]) hN m_X1_wordStmt dX1_wordStmt_103 c_RX1_210 (by decide) rfl rfl (gC_p G.1) rfl (Nat.le_of_ble_eq_true rfl) (Nat.le_of_ble_eq_true rfl) (by omega) (i_X1_startStmt IH (by omega)) (fun v18 s18 hN => ?_)
                          refine e_iconst (v := nI 1) m_X1_wordStmt dX1_wordStmt_106 (by decide) ?_
                          exact e_reti m_X1_wordStmt dX1_wordStmt_107 (Or.inr ⟨rfl, by decide⟩)
                        · refine sw_c (a := ((kA cnt ks) (s_at s))) (b := 22) hN (fun q19 hN => ?_) (fun q19 hN => ?_)
                          · refine e_table (t := 146) m_X1_wordStmt dX1_wordStmt_4 (by rw [q19]; decide) (Or.inr (by rw [q19]; decide)) ?_
                            refine e_iconst (v := nI 0) m_X1_wordStmt dX1_wordStmt_146 (by decide) ?_
                            exact e_reti m_X1_wordStmt dX1_wordStmt_147 (Or.inr ⟨rfl, by decide⟩)
                          · refine sw_c (a := ((kA cnt ks) (s_at s))) (b := 23) hN (fun q20 hN => ?_) (fun q20 hN => ?_)
                            · refine e_table (t := 146) m_X1_wordStmt dX1_wordStmt_4 (by rw [q20]; decide) (Or.inr (by rw [q20]; decide)) ?_
                              refine e_iconst (v := nI 0) m_X1_wordStmt dX1_wordStmt_146 (by decide) ?_
                              exact e_reti m_X1_wordStmt dX1_wordStmt_147 (Or.inr ⟨rfl, by decide⟩)
                            · refine sw_c (a := ((kA cnt ks) (s_at s))) (b := 24) hN (fun q21 hN => ?_) (fun q21 hN => ?_)
                              · refine e_table (t := 146) m_X1_wordStmt dX1_wordStmt_4 (by rw [q21]; decide) (Or.inr (by rw [q21]; decide)) ?_
                                refine e_iconst (v := nI 0) m_X1_wordStmt dX1_wordStmt_146 (by decide) ?_
                                exact e_reti m_X1_wordStmt dX1_wordStmt_147 (Or.inr ⟨rfl, by decide⟩)
                              · refine sw_c (a := ((kA cnt ks) (s_at s))) (b := 25) hN (fun q22 hN => ?_) (fun q22 hN => ?_)
                                · refine e_table (t := 146) m_X1_wordStmt dX1_wordStmt_4 (by rw [q22]; decide) (Or.inr (by rw [q22]; decide)) ?_
                                  refine e_iconst (v := nI 0) m_X1_wordStmt dX1_wordStmt_146 (by decide) ?_
                                  exact e_reti m_X1_wordStmt dX1_wordStmt_147 (Or.inr ⟨rfl, by decide⟩)
                                · refine sw_c (a := ((kA cnt ks) (s_at s))) (b := 26) hN (fun q23 hN => ?_) (fun q23 hN => ?_)
                                  · refine e_table (t := 146) m_X1_wordStmt dX1_wordStmt_4 (by rw [q23]; decide) (Or.inr (by rw [q23]; decide)) ?_
                                    refine e_iconst (v := nI 0) m_X1_wordStmt dX1_wordStmt_146 (by decide) ?_
                                    exact e_reti m_X1_wordStmt dX1_wordStmt_147 (Or.inr ⟨rfl, by decide⟩)
                                  · refine sw_c (a := ((kA cnt ks) (s_at s))) (b := 27) hN (fun q24 hN => ?_) (fun q24 hN => ?_)
                                    · refine e_table (t := 146) m_X1_wordStmt dX1_wordStmt_4 (by rw [q24]; decide) (Or.inr (by rw [q24]; decide)) ?_
                                      refine e_iconst (v := nI 0) m_X1_wordStmt dX1_wordStmt_146 (by decide) ?_
                                      exact e_reti m_X1_wordStmt dX1_wordStmt_147 (Or.inr ⟨rfl, by decide⟩)
                                    · refine sw_c (a := ((kA cnt ks) (s_at s))) (b := 28) hN (fun q25 hN => ?_) (fun q25 hN => ?_)
                                      · refine e_table (t := 146) m_X1_wordStmt dX1_wordStmt_4 (by rw [q25]; decide) (Or.inr (by rw [q25]; decide)) ?_
                                        refine e_iconst (v := nI 0) m_X1_wordStmt dX1_wordStmt_146 (by decide) ?_
                                        exact e_reti m_X1_wordStmt dX1_wordStmt_147 (Or.inr ⟨rfl, by decide⟩)
                                      · refine sw_c (a := ((kA cnt ks) (s_at s))) (b := 29) hN (fun q26 hN => ?_) (fun q26 hN => ?_)
                                        · refine e_table (t := 116) m_X1_wordStmt dX1_wordStmt_4 (by rw [q26]; decide) (Or.inr (by rw [q26]; decide)) ?_
                                          refine e_aload_n m_X1_wordStmt dX1_wordStmt_116 rfl rfl rfl ?_
                                          refine e_cvU (as := []) hN m_X1_wordStmt dX1_wordStmt_117 c_RX1_213 (by decide) rfl rfl (gC_p G.1) rfl (Nat.le_of_ble_eq_true rfl) (Nat.le_of_ble_eq_true rfl) (by omega) (i_X1_returnStmt IH (by omega)) (fun v27 s27 hN => ?_)
                                          refine e_iconst (v := nI 1) m_X1_wordStmt dX1_wordStmt_120 (by decide) ?_
                                          exact e_reti m_X1_wordStmt dX1_wordStmt_121 (Or.inr ⟨rfl, by decide⟩)
                                        · refine e_table (t := 146) m_X1_wordStmt dX1_wordStmt_4 (by rw [show mm_table _ _ _ _ _ = _ from if_pos (by rw [nI_toInt q1]; omega)]; decide) (Or.inl (by rw [nI_toInt q1]; omega)) ?_
                                          refine e_iconst (v := nI 0) m_X1_wordStmt dX1_wordStmt_146 (by decide) ?_
                                          exact e_reti m_X1_wordStmt dX1_wordStmt_147 (Or.inr ⟨rfl, by decide⟩)

def b_X1_startStmt (K : Nat → Nat) (N : Nat) (rc : Nat → Nat → Nat → Ss → Rs Ss) (x1 : Nat) (s : Ss) : Rs Ss := bn (q_take s) (fun v1 s1 => bn (rc 29 0 0 s1) (fun v2 s2 => bn (b_X3_put K N x1 v1 1 s2) (fun v3 s3 => okR 0 s3)))
theorem w_X1_startStmt {xs : Nat → Int32} {L : Nat} {h0 : mm_H} {a p N cnt : Nat} {ks : Nat → Nat} (G : Cg h0 a p N cnt ks) {n : Nat} {rc : Nat → Nat → Nat → Ss → Rs Ss} (IH : Hr xs L h0 a p N cnt ks n rc) {x1 : Nat} {s : Ss} {d : Nat} (hd : n + 17 ≤ d) (hN : b_X1_startStmt (kA cnt ks) N rc x1 s ≠ none) : Rn xs L d 84 [.ref p, .int (nI x1)] (TC h0 a p N cnt ks s) (ou eU (TC h0 a p N cnt ks) (b_X1_startStmt (kA cnt ks) N rc x1 s)) := by
  unfold Rn
  unfold b_X1_startStmt at hN ⊢
  refine e_aload_n m_X1_startStmt dX1_startStmt_0 rfl rfl rfl ?_
  refine e_cvN (as := []) hN m_X1_startStmt dX1_startStmt_1 c_RX1_50 (by decide) rfl rfl (gC_p G.1) rfl (Nat.le_of_ble_eq_true rfl) (Nat.le_of_ble_eq_true rfl) (by omega) (t_take G (by omega)) (fun v1 s1 hN => ?_)
  refine e_istore_n m_X1_startStmt dX1_startStmt_4 rfl (by decide) rfl ?_
  refine e_aload_n m_X1_startStmt dX1_startStmt_5 rfl rfl rfl ?_
  refine e_iconst (v := nI 0) m_X1_startStmt dX1_startStmt_6 (by decide) ?_
  refine e_cvU (as := [.int (nI 0)]) hN m_X1_startStmt dX1_startStmt_7 c_RX1_181 (by decide) rfl rfl (gC_p G.1) rfl (Nat.le_of_ble_eq_true rfl) (Nat.le_of_ble_eq_true rfl) (by omega) (i_X1_expr IH (by omega)) (fun v2 s2 hN => ?_)
  refine e_aload_n m_X1_startStmt dX1_startStmt_10 rfl rfl rfl ?_
  refine e_getf m_X1_startStmt dX1_startStmt_11 f_RX1_17 (gC_p G.1) rfl ?_
  refine e_iload_n m_X1_startStmt dX1_startStmt_14 rfl rfl ?_
  refine e_iload_n m_X1_startStmt dX1_startStmt_15 rfl rfl ?_
  refine e_iconst (v := nI 1) m_X1_startStmt dX1_startStmt_16 (by decide) ?_
  refine e_cvU (as := [.int (nI x1), .int (nI v1), .int (nI 1)]) hN m_X1_startStmt dX1_startStmt_17 c_RX1_69 (by decide) rfl rfl (gC_r G.1) rfl (Nat.le_of_ble_eq_true rfl) (Nat.le_of_ble_eq_true rfl) (by omega) (w_X3_put G (by omega)) (fun v3 s3 hN => ?_)
  exact e_ret0 m_X1_startStmt dX1_startStmt_20

def b_X1_returnStmt (K : Nat → Nat) (N : Nat) (rc : Nat → Nat → Nat → Ss → Rs Ss) (s : Ss) : Rs Ss := bn (q_take s) (fun v1 s1 => ck ((K (s_at s1)) < 2147483648) (ifz (f_X0_beginsExpr (K (s_at s1))) (bn (b_X3_put K N 44 v1 0 s1) (fun v4 s4 => okR 0 s4)) (bn (rc 55 0 0 s1) (fun v5 s5 => bn (b_X3_put K N 44 v1 1 s5) (fun v6 s6 => okR 0 s6)))))
theorem w_X1_returnStmt {xs : Nat → Int32} {L : Nat} {h0 : mm_H} {a p N cnt : Nat} {ks : Nat → Nat} (G : Cg h0 a p N cnt ks) {n : Nat} {rc : Nat → Nat → Nat → Ss → Rs Ss} (IH : Hr xs L h0 a p N cnt ks n rc) {s : Ss} {d : Nat} (hd : n + 17 ≤ d) (hN : b_X1_returnStmt (kA cnt ks) N rc s ≠ none) : Rn xs L d 85 [.ref p] (TC h0 a p N cnt ks s) (ou eU (TC h0 a p N cnt ks) (b_X1_returnStmt (kA cnt ks) N rc s)) := by
  unfold Rn
  unfold b_X1_returnStmt at hN ⊢
  refine e_aload_n m_X1_returnStmt dX1_returnStmt_0 rfl rfl rfl ?_
  refine e_cvN (as := []) hN m_X1_returnStmt dX1_returnStmt_1 c_RX1_50 (by decide) rfl rfl (gC_p G.1) rfl (Nat.le_of_ble_eq_true rfl) (Nat.le_of_ble_eq_true rfl) (by omega) (t_take G (by omega)) (fun v1 s1 hN => ?_)
  refine e_istore_n m_X1_returnStmt dX1_returnStmt_4 rfl (by decide) rfl ?_
  refine e_iconst (v := nI 0) m_X1_returnStmt dX1_returnStmt_5 (by decide) ?_
  refine e_istore_n m_X1_returnStmt dX1_returnStmt_6 rfl (by decide) rfl ?_
  refine e_aload_n m_X1_returnStmt dX1_returnStmt_7 rfl rfl rfl ?_
  refine e_getf m_X1_returnStmt dX1_returnStmt_8 f_RX1_33 (gC_p G.1) rfl ?_
  refine e_ck hN (fun q2 hN => ?_)
  refine e_cs (as := [_]) m_X1_returnStmt dX1_returnStmt_11 c_RX1_219 (by decide) rfl rfl (Nat.le_of_ble_eq_true rfl) (Nat.le_of_ble_eq_true rfl) (by omega) (z_X0_beginsExpr q2 (by omega)) ?_
  refine e_ifeq (t := 24) hN m_X1_returnStmt dX1_returnStmt_14 (by decide) (fun q3 hN => ?_) (fun q3 hN => ?_)
  · refine e_aload_n m_X1_returnStmt dX1_returnStmt_24 rfl rfl rfl ?_
    refine e_getf m_X1_returnStmt dX1_returnStmt_25 f_RX1_17 (gC_p G.1) rfl ?_
    refine e_bipush (v := nI 44) m_X1_returnStmt dX1_returnStmt_28 (by decide) ?_
    refine e_iload_n m_X1_returnStmt dX1_returnStmt_30 rfl rfl ?_
    refine e_iload_n m_X1_returnStmt dX1_returnStmt_31 rfl rfl ?_
    refine e_cvU (as := [.int (nI 44), .int (nI v1), .int (nI 0)]) hN m_X1_returnStmt dX1_returnStmt_32 c_RX1_69 (by decide) rfl rfl (gC_r G.1) rfl (Nat.le_of_ble_eq_true rfl) (Nat.le_of_ble_eq_true rfl) (by omega) (w_X3_put G (by omega)) (fun v4 s4 hN => ?_)
    exact e_ret0 m_X1_returnStmt dX1_returnStmt_35
  · refine e_aload_n m_X1_returnStmt dX1_returnStmt_17 rfl rfl rfl ?_
    refine e_cvU (as := []) hN m_X1_returnStmt dX1_returnStmt_18 c_RX1_141 (by decide) rfl rfl (gC_p G.1) rfl (Nat.le_of_ble_eq_true rfl) (Nat.le_of_ble_eq_true rfl) (by omega) (i_X1_exprs IH (by omega)) (fun v5 s5 hN => ?_)
    refine e_iincN (n := 1) m_X1_returnStmt dX1_returnStmt_21 (by decide) rfl rfl ?_
    refine e_aload_n m_X1_returnStmt dX1_returnStmt_24 rfl rfl rfl ?_
    refine e_getf m_X1_returnStmt dX1_returnStmt_25 f_RX1_17 (gC_p G.1) rfl ?_
    refine e_bipush (v := nI 44) m_X1_returnStmt dX1_returnStmt_28 (by decide) ?_
    refine e_iload_n m_X1_returnStmt dX1_returnStmt_30 rfl rfl ?_
    refine e_iload_n m_X1_returnStmt dX1_returnStmt_31 rfl rfl ?_
    refine e_cvU (as := [.int (nI 44), .int (nI v1), .int (nI 1)]) hN m_X1_returnStmt dX1_returnStmt_32 c_RX1_69 (by decide) rfl rfl (gC_r G.1) rfl (Nat.le_of_ble_eq_true rfl) (Nat.le_of_ble_eq_true rfl) (by omega) (w_X3_put G (by omega)) (fun v6 s6 hN => ?_)
    exact e_ret0 m_X1_returnStmt dX1_returnStmt_35

def b_X1_jumpStmt (K : Nat → Nat) (N : Nat) (rc : Nat → Nat → Nat → Ss → Rs Ss) (x1 : Nat) (s : Ss) : Rs Ss := bn (q_take s) (fun v1 s1 => bn (q_sees K 1 s1) (fun v2 s2 => ifz v2 (bn (b_X3_put K N x1 v1 0 s2) (fun v4 s4 => okR 0 s4)) (bn (b_X1_name K N  s2) (fun v5 s5 => bn (b_X3_put K N x1 v1 1 s5) (fun v6 s6 => okR 0 s6)))))
theorem w_X1_jumpStmt {xs : Nat → Int32} {L : Nat} {h0 : mm_H} {a p N cnt : Nat} {ks : Nat → Nat} (G : Cg h0 a p N cnt ks) {n : Nat} {rc : Nat → Nat → Nat → Ss → Rs Ss} (IH : Hr xs L h0 a p N cnt ks n rc) {x1 : Nat} {s : Ss} {d : Nat} (hd : n + 17 ≤ d) (hN : b_X1_jumpStmt (kA cnt ks) N rc x1 s ≠ none) : Rn xs L d 87 [.ref p, .int (nI x1)] (TC h0 a p N cnt ks s) (ou eU (TC h0 a p N cnt ks) (b_X1_jumpStmt (kA cnt ks) N rc x1 s)) := by
  unfold Rn
  unfold b_X1_jumpStmt at hN ⊢
  refine e_aload_n m_X1_jumpStmt dX1_jumpStmt_0 rfl rfl rfl ?_
  refine e_cvN (as := []) hN m_X1_jumpStmt dX1_jumpStmt_1 c_RX1_50 (by decide) rfl rfl (gC_p G.1) rfl (Nat.le_of_ble_eq_true rfl) (Nat.le_of_ble_eq_true rfl) (by omega) (t_take G (by omega)) (fun v1 s1 hN => ?_)
  refine e_istore_n m_X1_jumpStmt dX1_jumpStmt_4 rfl (by decide) rfl ?_
  refine e_iconst (v := nI 0) m_X1_jumpStmt dX1_jumpStmt_5 (by decide) ?_
  refine e_istore_n m_X1_jumpStmt dX1_jumpStmt_6 rfl (by decide) rfl ?_
  refine e_aload_n m_X1_jumpStmt dX1_jumpStmt_7 rfl rfl rfl ?_
  refine e_iconst (v := nI 1) m_X1_jumpStmt dX1_jumpStmt_8 (by decide) ?_
  refine e_cvN (as := [.int (nI 1)]) hN m_X1_jumpStmt dX1_jumpStmt_9 c_RX1_46 (by decide) rfl rfl (gC_p G.1) rfl (Nat.le_of_ble_eq_true rfl) (Nat.le_of_ble_eq_true rfl) (by omega) (t_sees G (by omega)) (fun v2 s2 hN => ?_)
  refine e_ifeq (t := 22) hN m_X1_jumpStmt dX1_jumpStmt_12 (by decide) (fun q3 hN => ?_) (fun q3 hN => ?_)
  · refine e_aload_n m_X1_jumpStmt dX1_jumpStmt_22 rfl rfl rfl ?_
    refine e_getf m_X1_jumpStmt dX1_jumpStmt_23 f_RX1_17 (gC_p G.1) rfl ?_
    refine e_iload_n m_X1_jumpStmt dX1_jumpStmt_26 rfl rfl ?_
    refine e_iload_n m_X1_jumpStmt dX1_jumpStmt_27 rfl rfl ?_
    refine e_iload_n m_X1_jumpStmt dX1_jumpStmt_28 rfl rfl ?_
    refine e_cvU (as := [.int (nI x1), .int (nI v1), .int (nI 0)]) hN m_X1_jumpStmt dX1_jumpStmt_29 c_RX1_69 (by decide) rfl rfl (gC_r G.1) rfl (Nat.le_of_ble_eq_true rfl) (Nat.le_of_ble_eq_true rfl) (by omega) (w_X3_put G (by omega)) (fun v4 s4 hN => ?_)
    exact e_ret0 m_X1_jumpStmt dX1_jumpStmt_32
  · refine e_aload_n m_X1_jumpStmt dX1_jumpStmt_15 rfl rfl rfl ?_
    refine e_cvU (as := []) hN m_X1_jumpStmt dX1_jumpStmt_16 c_RX1_79 (by decide) rfl rfl (gC_p G.1) rfl (Nat.le_of_ble_eq_true rfl) (Nat.le_of_ble_eq_true rfl) (by omega) (w_X1_name G (by omega)) (fun v5 s5 hN => ?_)
    refine e_iincN (n := 1) m_X1_jumpStmt dX1_jumpStmt_19 (by decide) rfl rfl ?_
    refine e_aload_n m_X1_jumpStmt dX1_jumpStmt_22 rfl rfl rfl ?_
    refine e_getf m_X1_jumpStmt dX1_jumpStmt_23 f_RX1_17 (gC_p G.1) rfl ?_
    refine e_iload_n m_X1_jumpStmt dX1_jumpStmt_26 rfl rfl ?_
    refine e_iload_n m_X1_jumpStmt dX1_jumpStmt_27 rfl rfl ?_
    refine e_iload_n m_X1_jumpStmt dX1_jumpStmt_28 rfl rfl ?_
    refine e_cvU (as := [.int (nI x1), .int (nI v1), .int (nI 1)]) hN m_X1_jumpStmt dX1_jumpStmt_29 c_RX1_69 (by decide) rfl rfl (gC_r G.1) rfl (Nat.le_of_ble_eq_true rfl) (Nat.le_of_ble_eq_true rfl) (by omega) (w_X3_put G (by omega)) (fun v6 s6 hN => ?_)
    exact e_ret0 m_X1_jumpStmt dX1_jumpStmt_32

def b_X1_simpleStmt (K : Nat → Nat) (N : Nat) (rc : Nat → Nat → Nat → Ss → Rs Ss) (s : Ss) : Rs Ss := ck ((K (s_at s)) < 2147483648) (ifz (f_X0_beginsExpr (K (s_at s))) (okR 0 s) (bn (q_sees K 1 s) (fun v3 s3 => ifz v3 (bn (rc 75 0 0 s3) (fun v5 s5 => okR 1 s5)) (bn (q_nextKind K s3) (fun v6 s6 => ife v6 87 (bn (rc 89 0 0 s6) (fun v8 s8 => okR 1 s8)) (bn (rc 75 0 0 s6) (fun v9 s9 => okR 1 s9)))))))
theorem w_X1_simpleStmt {xs : Nat → Int32} {L : Nat} {h0 : mm_H} {a p N cnt : Nat} {ks : Nat → Nat} (G : Cg h0 a p N cnt ks) {n : Nat} {rc : Nat → Nat → Nat → Ss → Rs Ss} (IH : Hr xs L h0 a p N cnt ks n rc) {s : Ss} {d : Nat} (hd : n + 17 ≤ d) (hN : b_X1_simpleStmt (kA cnt ks) N rc s ≠ none) : Rn xs L d 88 [.ref p] (TC h0 a p N cnt ks s) (ou eN (TC h0 a p N cnt ks) (b_X1_simpleStmt (kA cnt ks) N rc s)) := by
  unfold Rn
  unfold b_X1_simpleStmt at hN ⊢
  refine e_aload_n m_X1_simpleStmt dX1_simpleStmt_0 rfl rfl rfl ?_
  refine e_getf m_X1_simpleStmt dX1_simpleStmt_1 f_RX1_33 (gC_p G.1) rfl ?_
  refine e_ck hN (fun q1 hN => ?_)
  refine e_cs (as := [_]) m_X1_simpleStmt dX1_simpleStmt_4 c_RX1_219 (by decide) rfl rfl (Nat.le_of_ble_eq_true rfl) (Nat.le_of_ble_eq_true rfl) (by omega) (z_X0_beginsExpr q1 (by omega)) ?_
  refine e_ifne (t := 12) hN m_X1_simpleStmt dX1_simpleStmt_7 (by decide) (fun q2 hN => ?_) (fun q2 hN => ?_)
  · refine e_iconst (v := nI 0) m_X1_simpleStmt dX1_simpleStmt_10 (by decide) ?_
    exact e_reti m_X1_simpleStmt dX1_simpleStmt_11 (Or.inr ⟨rfl, by decide⟩)
  · refine e_aload_n m_X1_simpleStmt dX1_simpleStmt_12 rfl rfl rfl ?_
    refine e_iconst (v := nI 1) m_X1_simpleStmt dX1_simpleStmt_13 (by decide) ?_
    refine e_cvN (as := [.int (nI 1)]) hN m_X1_simpleStmt dX1_simpleStmt_14 c_RX1_46 (by decide) rfl rfl (gC_p G.1) rfl (Nat.le_of_ble_eq_true rfl) (Nat.le_of_ble_eq_true rfl) (by omega) (t_sees G (by omega)) (fun v3 s3 hN => ?_)
    refine e_ifeq (t := 36) hN m_X1_simpleStmt dX1_simpleStmt_17 (by decide) (fun q4 hN => ?_) (fun q4 hN => ?_)
    · refine e_aload_n m_X1_simpleStmt dX1_simpleStmt_36 rfl rfl rfl ?_
      refine e_iconst (v := nI 0) m_X1_simpleStmt dX1_simpleStmt_37 (by decide) ?_
      refine e_cvU (as := [.int (nI 0)]) hN m_X1_simpleStmt dX1_simpleStmt_38 c_RX1_225 (by decide) rfl rfl (gC_p G.1) rfl (Nat.le_of_ble_eq_true rfl) (Nat.le_of_ble_eq_true rfl) (by omega) (i_X1_wholeSimple IH (by omega)) (fun v5 s5 hN => ?_)
      refine e_iconst (v := nI 1) m_X1_simpleStmt dX1_simpleStmt_41 (by decide) ?_
      exact e_reti m_X1_simpleStmt dX1_simpleStmt_42 (Or.inr ⟨rfl, by decide⟩)
    · refine e_aload_n m_X1_simpleStmt dX1_simpleStmt_20 rfl rfl rfl ?_
      refine e_cvN (as := []) hN m_X1_simpleStmt dX1_simpleStmt_21 c_RX1_147 (by decide) rfl rfl (gC_p G.1) rfl (Nat.le_of_ble_eq_true rfl) (Nat.le_of_ble_eq_true rfl) (by omega) (t_nextKind G (by omega)) (fun v6 s6 hN => ?_)
      refine e_bipush (v := nI 87) m_X1_simpleStmt dX1_simpleStmt_24 (by decide) ?_
      refine e_ine (t := 36) (a := v6) (b := 87) hN m_X1_simpleStmt dX1_simpleStmt_26 (by decide) (fun q7 hN => ?_) (fun q7 hN => ?_)
      · refine e_aload_n m_X1_simpleStmt dX1_simpleStmt_29 rfl rfl rfl ?_
        refine e_cvU (as := []) hN m_X1_simpleStmt dX1_simpleStmt_30 c_RX1_222 (by decide) rfl rfl (gC_p G.1) rfl (Nat.le_of_ble_eq_true rfl) (Nat.le_of_ble_eq_true rfl) (by omega) (i_X1_labeledStmt IH (by omega)) (fun v8 s8 hN => ?_)
        refine e_goto (t := 41) m_X1_simpleStmt dX1_simpleStmt_33 (by decide) ?_
        refine e_iconst (v := nI 1) m_X1_simpleStmt dX1_simpleStmt_41 (by decide) ?_
        exact e_reti m_X1_simpleStmt dX1_simpleStmt_42 (Or.inr ⟨rfl, by decide⟩)
      · refine e_aload_n m_X1_simpleStmt dX1_simpleStmt_36 rfl rfl rfl ?_
        refine e_iconst (v := nI 0) m_X1_simpleStmt dX1_simpleStmt_37 (by decide) ?_
        refine e_cvU (as := [.int (nI 0)]) hN m_X1_simpleStmt dX1_simpleStmt_38 c_RX1_225 (by decide) rfl rfl (gC_p G.1) rfl (Nat.le_of_ble_eq_true rfl) (Nat.le_of_ble_eq_true rfl) (by omega) (i_X1_wholeSimple IH (by omega)) (fun v9 s9 hN => ?_)
        refine e_iconst (v := nI 1) m_X1_simpleStmt dX1_simpleStmt_41 (by decide) ?_
        exact e_reti m_X1_simpleStmt dX1_simpleStmt_42 (Or.inr ⟨rfl, by decide⟩)

def b_X1_labeledStmt (K : Nat → Nat) (N : Nat) (rc : Nat → Nat → Nat → Ss → Rs Ss) (s : Ss) : Rs Ss := bn (b_X1_name K N  s) (fun v1 s1 => bn (b_X1_enter K N 87 s1) (fun v2 s2 => bn (rc 49 0 0 s2) (fun v3 s3 => ifz v3 (bn (b_X1_closePart K N  s3) (fun v5 s5 => bn (b_X3_put K N 41 v2 1 s5) (fun v6 s6 => okR 0 s6))) (bn (b_X1_closePart K N  s3) (fun v7 s7 => bn (b_X3_put K N 41 v2 2 s7) (fun v8 s8 => okR 0 s8))))))
theorem w_X1_labeledStmt {xs : Nat → Int32} {L : Nat} {h0 : mm_H} {a p N cnt : Nat} {ks : Nat → Nat} (G : Cg h0 a p N cnt ks) {n : Nat} {rc : Nat → Nat → Nat → Ss → Rs Ss} (IH : Hr xs L h0 a p N cnt ks n rc) {s : Ss} {d : Nat} (hd : n + 17 ≤ d) (hN : b_X1_labeledStmt (kA cnt ks) N rc s ≠ none) : Rn xs L d 89 [.ref p] (TC h0 a p N cnt ks s) (ou eU (TC h0 a p N cnt ks) (b_X1_labeledStmt (kA cnt ks) N rc s)) := by
  unfold Rn
  unfold b_X1_labeledStmt at hN ⊢
  refine e_aload_n m_X1_labeledStmt dX1_labeledStmt_0 rfl rfl rfl ?_
  refine e_cvU (as := []) hN m_X1_labeledStmt dX1_labeledStmt_1 c_RX1_79 (by decide) rfl rfl (gC_p G.1) rfl (Nat.le_of_ble_eq_true rfl) (Nat.le_of_ble_eq_true rfl) (by omega) (w_X1_name G (by omega)) (fun v1 s1 hN => ?_)
  refine e_aload_n m_X1_labeledStmt dX1_labeledStmt_4 rfl rfl rfl ?_
  refine e_bipush (v := nI 87) m_X1_labeledStmt dX1_labeledStmt_5 (by decide) ?_
  refine e_cvN (as := [.int (nI 87)]) hN m_X1_labeledStmt dX1_labeledStmt_7 c_RX1_100 (by decide) rfl rfl (gC_p G.1) rfl (Nat.le_of_ble_eq_true rfl) (Nat.le_of_ble_eq_true rfl) (by omega) (w_X1_enter G (by omega)) (fun v2 s2 hN => ?_)
  refine e_istore_n m_X1_labeledStmt dX1_labeledStmt_10 rfl (by decide) rfl ?_
  refine e_aload_n m_X1_labeledStmt dX1_labeledStmt_11 rfl rfl rfl ?_
  refine e_cvN (as := []) hN m_X1_labeledStmt dX1_labeledStmt_12 c_RX1_188 (by decide) rfl rfl (gC_p G.1) rfl (Nat.le_of_ble_eq_true rfl) (Nat.le_of_ble_eq_true rfl) (by omega) (i_X1_stmt IH (by omega)) (fun v3 s3 hN => ?_)
  refine e_ifeq (t := 22) hN m_X1_labeledStmt dX1_labeledStmt_15 (by decide) (fun q4 hN => ?_) (fun q4 hN => ?_)
  · refine e_iconst (v := nI 1) m_X1_labeledStmt dX1_labeledStmt_22 (by decide) ?_
    refine e_istore_n m_X1_labeledStmt dX1_labeledStmt_23 rfl (by decide) rfl ?_
    refine e_aload_n m_X1_labeledStmt dX1_labeledStmt_24 rfl rfl rfl ?_
    refine e_cvU (as := []) hN m_X1_labeledStmt dX1_labeledStmt_25 c_RX1_66 (by decide) rfl rfl (gC_p G.1) rfl (Nat.le_of_ble_eq_true rfl) (Nat.le_of_ble_eq_true rfl) (by omega) (w_X1_closePart G (by omega)) (fun v5 s5 hN => ?_)
    refine e_aload_n m_X1_labeledStmt dX1_labeledStmt_28 rfl rfl rfl ?_
    refine e_getf m_X1_labeledStmt dX1_labeledStmt_29 f_RX1_17 (gC_p G.1) rfl ?_
    refine e_bipush (v := nI 41) m_X1_labeledStmt dX1_labeledStmt_32 (by decide) ?_
    refine e_iload_n m_X1_labeledStmt dX1_labeledStmt_34 rfl rfl ?_
    refine e_iload_n m_X1_labeledStmt dX1_labeledStmt_35 rfl rfl ?_
    refine e_cvU (as := [.int (nI 41), .int (nI v2), .int (nI 1)]) hN m_X1_labeledStmt dX1_labeledStmt_36 c_RX1_69 (by decide) rfl rfl (gC_r G.1) rfl (Nat.le_of_ble_eq_true rfl) (Nat.le_of_ble_eq_true rfl) (by omega) (w_X3_put G (by omega)) (fun v6 s6 hN => ?_)
    exact e_ret0 m_X1_labeledStmt dX1_labeledStmt_39
  · refine e_iconst (v := nI 2) m_X1_labeledStmt dX1_labeledStmt_18 (by decide) ?_
    refine e_goto (t := 23) m_X1_labeledStmt dX1_labeledStmt_19 (by decide) ?_
    refine e_istore_n m_X1_labeledStmt dX1_labeledStmt_23 rfl (by decide) rfl ?_
    refine e_aload_n m_X1_labeledStmt dX1_labeledStmt_24 rfl rfl rfl ?_
    refine e_cvU (as := []) hN m_X1_labeledStmt dX1_labeledStmt_25 c_RX1_66 (by decide) rfl rfl (gC_p G.1) rfl (Nat.le_of_ble_eq_true rfl) (Nat.le_of_ble_eq_true rfl) (by omega) (w_X1_closePart G (by omega)) (fun v7 s7 hN => ?_)
    refine e_aload_n m_X1_labeledStmt dX1_labeledStmt_28 rfl rfl rfl ?_
    refine e_getf m_X1_labeledStmt dX1_labeledStmt_29 f_RX1_17 (gC_p G.1) rfl ?_
    refine e_bipush (v := nI 41) m_X1_labeledStmt dX1_labeledStmt_32 (by decide) ?_
    refine e_iload_n m_X1_labeledStmt dX1_labeledStmt_34 rfl rfl ?_
    refine e_iload_n m_X1_labeledStmt dX1_labeledStmt_35 rfl rfl ?_
    refine e_cvU (as := [.int (nI 41), .int (nI v2), .int (nI 2)]) hN m_X1_labeledStmt dX1_labeledStmt_36 c_RX1_69 (by decide) rfl rfl (gC_r G.1) rfl (Nat.le_of_ble_eq_true rfl) (Nat.le_of_ble_eq_true rfl) (by omega) (w_X3_put G (by omega)) (fun v8 s8 hN => ?_)
    exact e_ret0 m_X1_labeledStmt dX1_labeledStmt_39

def b_X1_countedArrayType (K : Nat → Nat) (N : Nat) (rc : Nat → Nat → Nat → Ss → Rs Ss) (s : Ss) : Rs Ss := bn (b_X1_openPart K N  s) (fun v1 s1 => bn (q_take s1) (fun v2 s2 => bn (b_X1_putLeaf K N 17 s2) (fun v3 s3 => bn (b_X1_expect K N 81 s3) (fun v4 s4 => bn (rc 26 0 0 s4) (fun v5 s5 => bn (b_X1_closePart K N  s5) (fun v6 s6 => bn (b_X3_put K N 21 v2 2 s6) (fun v7 s7 => okR 0 s7)))))))
theorem w_X1_countedArrayType {xs : Nat → Int32} {L : Nat} {h0 : mm_H} {a p N cnt : Nat} {ks : Nat → Nat} (G : Cg h0 a p N cnt ks) {n : Nat} {rc : Nat → Nat → Nat → Ss → Rs Ss} (IH : Hr xs L h0 a p N cnt ks n rc) {s : Ss} {d : Nat} (hd : n + 17 ≤ d) (hN : b_X1_countedArrayType (kA cnt ks) N rc s ≠ none) : Rn xs L d 90 [.ref p] (TC h0 a p N cnt ks s) (ou eU (TC h0 a p N cnt ks) (b_X1_countedArrayType (kA cnt ks) N rc s)) := by
  unfold Rn
  unfold b_X1_countedArrayType at hN ⊢
  refine e_aload_n m_X1_countedArrayType dX1_countedArrayType_0 rfl rfl rfl ?_
  refine e_cvU (as := []) hN m_X1_countedArrayType dX1_countedArrayType_1 c_RX1_60 (by decide) rfl rfl (gC_p G.1) rfl (Nat.le_of_ble_eq_true rfl) (Nat.le_of_ble_eq_true rfl) (by omega) (w_X1_openPart G (by omega)) (fun v1 s1 hN => ?_)
  refine e_aload_n m_X1_countedArrayType dX1_countedArrayType_4 rfl rfl rfl ?_
  refine e_cvN (as := []) hN m_X1_countedArrayType dX1_countedArrayType_5 c_RX1_50 (by decide) rfl rfl (gC_p G.1) rfl (Nat.le_of_ble_eq_true rfl) (Nat.le_of_ble_eq_true rfl) (by omega) (t_take G (by omega)) (fun v2 s2 hN => ?_)
  refine e_istore_n m_X1_countedArrayType dX1_countedArrayType_8 rfl (by decide) rfl ?_
  refine e_aload_n m_X1_countedArrayType dX1_countedArrayType_9 rfl rfl rfl ?_
  refine e_bipush (v := nI 17) m_X1_countedArrayType dX1_countedArrayType_10 (by decide) ?_
  refine e_cvU (as := [.int (nI 17)]) hN m_X1_countedArrayType dX1_countedArrayType_12 c_RX1_154 (by decide) rfl rfl (gC_p G.1) rfl (Nat.le_of_ble_eq_true rfl) (Nat.le_of_ble_eq_true rfl) (by omega) (w_X1_putLeaf G (by omega)) (fun v3 s3 hN => ?_)
  refine e_aload_n m_X1_countedArrayType dX1_countedArrayType_15 rfl rfl rfl ?_
  refine e_bipush (v := nI 81) m_X1_countedArrayType dX1_countedArrayType_16 (by decide) ?_
  refine e_cvN (as := [.int (nI 81)]) hN m_X1_countedArrayType dX1_countedArrayType_18 c_RX1_63 (by decide) rfl rfl (gC_p G.1) rfl (Nat.le_of_ble_eq_true rfl) (Nat.le_of_ble_eq_true rfl) (by omega) (w_X1_expect G (by omega)) (fun v4 s4 hN => ?_)
  refine e_pop m_X1_countedArrayType dX1_countedArrayType_21 rfl ?_
  refine e_aload_n m_X1_countedArrayType dX1_countedArrayType_22 rfl rfl rfl ?_
  refine e_cvU (as := []) hN m_X1_countedArrayType dX1_countedArrayType_23 c_RX1_103 (by decide) rfl rfl (gC_p G.1) rfl (Nat.le_of_ble_eq_true rfl) (Nat.le_of_ble_eq_true rfl) (by omega) (i_X1_type IH (by omega)) (fun v5 s5 hN => ?_)
  refine e_aload_n m_X1_countedArrayType dX1_countedArrayType_26 rfl rfl rfl ?_
  refine e_cvU (as := []) hN m_X1_countedArrayType dX1_countedArrayType_27 c_RX1_66 (by decide) rfl rfl (gC_p G.1) rfl (Nat.le_of_ble_eq_true rfl) (Nat.le_of_ble_eq_true rfl) (by omega) (w_X1_closePart G (by omega)) (fun v6 s6 hN => ?_)
  refine e_aload_n m_X1_countedArrayType dX1_countedArrayType_30 rfl rfl rfl ?_
  refine e_getf m_X1_countedArrayType dX1_countedArrayType_31 f_RX1_17 (gC_p G.1) rfl ?_
  refine e_bipush (v := nI 21) m_X1_countedArrayType dX1_countedArrayType_34 (by decide) ?_
  refine e_iload_n m_X1_countedArrayType dX1_countedArrayType_36 rfl rfl ?_
  refine e_iconst (v := nI 2) m_X1_countedArrayType dX1_countedArrayType_37 (by decide) ?_
  refine e_cvU (as := [.int (nI 21), .int (nI v2), .int (nI 2)]) hN m_X1_countedArrayType dX1_countedArrayType_38 c_RX1_69 (by decide) rfl rfl (gC_r G.1) rfl (Nat.le_of_ble_eq_true rfl) (Nat.le_of_ble_eq_true rfl) (by omega) (w_X3_put G (by omega)) (fun v7 s7 hN => ?_)
  exact e_ret0 m_X1_countedArrayType dX1_countedArrayType_41

def b_X1_behindOperand (K : Nat → Nat) (N : Nat) (rc : Nat → Nat → Nat → Ss → Rs Ss) (x1 : Nat) (s : Ss) : Rs Ss := ck ((K (s_at s)) < 2147483648) (ife (K (s_at s)) 78 (bn (rc 95 0 0 s) (fun v3 s3 => okR 1 s3)) (ife (K (s_at s)) 80 (bn (rc 93 0 0 s) (fun v5 s5 => okR 1 s5)) (ife (K (s_at s)) 86 (bn (rc 92 x1 0 s) (fun v7 s7 => ck (v7 < 2) (okR v7 s7))) (okR 0 s))))
theorem w_X1_behindOperand {xs : Nat → Int32} {L : Nat} {h0 : mm_H} {a p N cnt : Nat} {ks : Nat → Nat} (G : Cg h0 a p N cnt ks) {n : Nat} {rc : Nat → Nat → Nat → Ss → Rs Ss} (IH : Hr xs L h0 a p N cnt ks n rc) {x1 : Nat} {s : Ss} {d : Nat} (hd : n + 17 ≤ d) (hN : b_X1_behindOperand (kA cnt ks) N rc x1 s ≠ none) : Rn xs L d 91 [.ref p, .int (nI x1)] (TC h0 a p N cnt ks s) (ou eN (TC h0 a p N cnt ks) (b_X1_behindOperand (kA cnt ks) N rc x1 s)) := by
  unfold Rn
  unfold b_X1_behindOperand at hN ⊢
  refine e_aload_n m_X1_behindOperand dX1_behindOperand_0 rfl rfl rfl ?_
  refine e_getf m_X1_behindOperand dX1_behindOperand_1 f_RX1_33 (gC_p G.1) rfl ?_
  refine e_ck hN (fun q1 hN => ?_)
  refine sw_c (a := ((kA cnt ks) (s_at s))) (b := 78) hN (fun q2 hN => ?_) (fun q2 hN => ?_)
  · refine e_lookup (t := 52) m_X1_behindOperand dX1_behindOperand_4 (by decide) (by rw [q2]; decide) ?_
    refine e_aload_n m_X1_behindOperand dX1_behindOperand_52 rfl rfl rfl ?_
    refine e_cvU (as := []) hN m_X1_behindOperand dX1_behindOperand_53 c_RX1_323 (by decide) rfl rfl (gC_p G.1) rfl (Nat.le_of_ble_eq_true rfl) (Nat.le_of_ble_eq_true rfl) (by omega) (i_X1_call IH (by omega)) (fun v3 s3 hN => ?_)
    refine e_iconst (v := nI 1) m_X1_behindOperand dX1_behindOperand_56 (by decide) ?_
    exact e_reti m_X1_behindOperand dX1_behindOperand_57 (Or.inr ⟨rfl, by decide⟩)
  · refine sw_c (a := ((kA cnt ks) (s_at s))) (b := 80) hN (fun q4 hN => ?_) (fun q4 hN => ?_)
    · refine e_lookup (t := 46) m_X1_behindOperand dX1_behindOperand_4 (by decide) (by rw [q4]; decide) ?_
      refine e_aload_n m_X1_behindOperand dX1_behindOperand_46 rfl rfl rfl ?_
      refine e_cvU (as := []) hN m_X1_behindOperand dX1_behindOperand_47 c_RX1_320 (by decide) rfl rfl (gC_p G.1) rfl (Nat.le_of_ble_eq_true rfl) (Nat.le_of_ble_eq_true rfl) (by omega) (i_X1_index IH (by omega)) (fun v5 s5 hN => ?_)
      refine e_iconst (v := nI 1) m_X1_behindOperand dX1_behindOperand_50 (by decide) ?_
      exact e_reti m_X1_behindOperand dX1_behindOperand_51 (Or.inr ⟨rfl, by decide⟩)
    · refine sw_c (a := ((kA cnt ks) (s_at s))) (b := 86) hN (fun q6 hN => ?_) (fun q6 hN => ?_)
      · refine e_lookup (t := 40) m_X1_behindOperand dX1_behindOperand_4 (by decide) (by rw [q6]; decide) ?_
        refine e_aload_n m_X1_behindOperand dX1_behindOperand_40 rfl rfl rfl ?_
        refine e_iload_n m_X1_behindOperand dX1_behindOperand_41 rfl rfl ?_
        refine e_cvN (as := [.int (nI x1)]) hN m_X1_behindOperand dX1_behindOperand_42 c_RX1_317 (by decide) rfl rfl (gC_p G.1) rfl (Nat.le_of_ble_eq_true rfl) (Nat.le_of_ble_eq_true rfl) (by omega) (i_X1_dot IH (by omega)) (fun v7 s7 hN => ?_)
        refine e_ck hN (fun q8 hN => ?_)
        exact e_reti m_X1_behindOperand dX1_behindOperand_45 (Or.inr ⟨rfl, b01 q8⟩)
      · refine e_lookup (t := 58) m_X1_behindOperand dX1_behindOperand_4 (by decide) (by rw [nI_toInt q1, lk_dflt _ (by intro q hq; simp only [List.mem_cons, List.not_mem_nil, or_false] at hq; rcases hq with rfl | rfl | rfl <;> (simp only []; omega))]; decide) ?_
        refine e_iconst (v := nI 0) m_X1_behindOperand dX1_behindOperand_58 (by decide) ?_
        exact e_reti m_X1_behindOperand dX1_behindOperand_59 (Or.inr ⟨rfl, by decide⟩)

def b_X1_dot (K : Nat → Nat) (N : Nat) (rc : Nat → Nat → Nat → Ss → Rs Ss) (x1 : Nat) (s : Ss) : Rs Ss := bn (q_take s) (fun v1 s1 => bn (q_sees K 78 s1) (fun v2 s2 => ifz v2 (bn (b_X1_name K N  s2) (fun v4 s4 => bn (b_X3_put K N 82 v1 2 s4) (fun v5 s5 => okR 1 s5))) (bn (b_X1_enter K N 78 s2) (fun v6 s6 => ifz x1 (bn (rc 26 0 0 s6) (fun v8 s8 => bn (b_X3_put K N 83 v1 2 s8) (fun v9 s9 => bn (b_X1_leave K N 79 s9) (fun v10 s10 => okR 1 s10)))) (bn (q_sees K 33 s6) (fun v11 s11 => ifz v11 (bn (rc 26 0 0 s11) (fun v13 s13 => bn (b_X3_put K N 83 v1 2 s13) (fun v14 s14 => bn (b_X1_leave K N 79 s14) (fun v15 s15 => okR 1 s15)))) (bn (q_take s11) (fun v16 s16 => bn (b_X1_leave K N 79 (u_gw s16 (v16 + 1))) (fun v17 s17 => okR 0 s17)))))))))
theorem w_X1_dot {xs : Nat → Int32} {L : Nat} {h0 : mm_H} {a p N cnt : Nat} {ks : Nat → Nat} (G : Cg h0 a p N cnt ks) {n : Nat} {rc : Nat → Nat → Nat → Ss → Rs Ss} (IH : Hr xs L h0 a p N cnt ks n rc) {x1 : Nat} {s : Ss} {d : Nat} (hd : n + 17 ≤ d) (hN : b_X1_dot (kA cnt ks) N rc x1 s ≠ none) : Rn xs L d 92 [.ref p, .int (nI x1)] (TC h0 a p N cnt ks s) (ou eN (TC h0 a p N cnt ks) (b_X1_dot (kA cnt ks) N rc x1 s)) := by
  unfold Rn
  unfold b_X1_dot at hN ⊢
  refine e_aload_n m_X1_dot dX1_dot_0 rfl rfl rfl ?_
  refine e_cvN (as := []) hN m_X1_dot dX1_dot_1 c_RX1_50 (by decide) rfl rfl (gC_p G.1) rfl (Nat.le_of_ble_eq_true rfl) (Nat.le_of_ble_eq_true rfl) (by omega) (t_take G (by omega)) (fun v1 s1 hN => ?_)
  refine e_istore_n m_X1_dot dX1_dot_4 rfl (by decide) rfl ?_
  refine e_aload_n m_X1_dot dX1_dot_5 rfl rfl rfl ?_
  refine e_bipush (v := nI 78) m_X1_dot dX1_dot_6 (by decide) ?_
  refine e_cvN (as := [.int (nI 78)]) hN m_X1_dot dX1_dot_8 c_RX1_46 (by decide) rfl rfl (gC_p G.1) rfl (Nat.le_of_ble_eq_true rfl) (Nat.le_of_ble_eq_true rfl) (by omega) (t_sees G (by omega)) (fun v2 s2 hN => ?_)
  refine e_ifne (t := 31) hN m_X1_dot dX1_dot_11 (by decide) (fun q3 hN => ?_) (fun q3 hN => ?_)
  · refine e_aload_n m_X1_dot dX1_dot_14 rfl rfl rfl ?_
    refine e_cvU (as := []) hN m_X1_dot dX1_dot_15 c_RX1_79 (by decide) rfl rfl (gC_p G.1) rfl (Nat.le_of_ble_eq_true rfl) (Nat.le_of_ble_eq_true rfl) (by omega) (w_X1_name G (by omega)) (fun v4 s4 hN => ?_)
    refine e_aload_n m_X1_dot dX1_dot_18 rfl rfl rfl ?_
    refine e_getf m_X1_dot dX1_dot_19 f_RX1_17 (gC_p G.1) rfl ?_
    refine e_bipush (v := nI 82) m_X1_dot dX1_dot_22 (by decide) ?_
    refine e_iload_n m_X1_dot dX1_dot_24 rfl rfl ?_
    refine e_iconst (v := nI 2) m_X1_dot dX1_dot_25 (by decide) ?_
    refine e_cvU (as := [.int (nI 82), .int (nI v1), .int (nI 2)]) hN m_X1_dot dX1_dot_26 c_RX1_69 (by decide) rfl rfl (gC_r G.1) rfl (Nat.le_of_ble_eq_true rfl) (Nat.le_of_ble_eq_true rfl) (by omega) (w_X3_put G (by omega)) (fun v5 s5 hN => ?_)
    refine e_iconst (v := nI 1) m_X1_dot dX1_dot_29 (by decide) ?_
    exact e_reti m_X1_dot dX1_dot_30 (Or.inr ⟨rfl, by decide⟩)
  · refine e_aload_n m_X1_dot dX1_dot_31 rfl rfl rfl ?_
    refine e_bipush (v := nI 78) m_X1_dot dX1_dot_32 (by decide) ?_
    refine e_cvN (as := [.int (nI 78)]) hN m_X1_dot dX1_dot_34 c_RX1_100 (by decide) rfl rfl (gC_p G.1) rfl (Nat.le_of_ble_eq_true rfl) (Nat.le_of_ble_eq_true rfl) (by omega) (w_X1_enter G (by omega)) (fun v6 s6 hN => ?_)
    refine e_pop m_X1_dot dX1_dot_37 rfl ?_
    refine e_iload_n m_X1_dot dX1_dot_38 rfl rfl ?_
    refine e_ifeq (t := 55) hN m_X1_dot dX1_dot_39 (by decide) (fun q7 hN => ?_) (fun q7 hN => ?_)
    · refine e_iconst (v := nI 0) m_X1_dot dX1_dot_55 (by decide) ?_
      refine e_istore_n m_X1_dot dX1_dot_56 rfl (by decide) rfl ?_
      refine e_iload_n m_X1_dot dX1_dot_57 rfl rfl ?_
      refine e_ifT (t := 72) m_X1_dot dX1_dot_58 (by decide) (by decide) ?_
      refine e_aload_n m_X1_dot dX1_dot_72 rfl rfl rfl ?_
      refine e_cvU (as := []) hN m_X1_dot dX1_dot_73 c_RX1_103 (by decide) rfl rfl (gC_p G.1) rfl (Nat.le_of_ble_eq_true rfl) (Nat.le_of_ble_eq_true rfl) (by omega) (i_X1_type IH (by omega)) (fun v8 s8 hN => ?_)
      refine e_aload_n m_X1_dot dX1_dot_76 rfl rfl rfl ?_
      refine e_getf m_X1_dot dX1_dot_77 f_RX1_17 (gC_p G.1) rfl ?_
      refine e_bipush (v := nI 83) m_X1_dot dX1_dot_80 (by decide) ?_
      refine e_iload_n m_X1_dot dX1_dot_82 rfl rfl ?_
      refine e_iconst (v := nI 2) m_X1_dot dX1_dot_83 (by decide) ?_
      refine e_cvU (as := [.int (nI 83), .int (nI v1), .int (nI 2)]) hN m_X1_dot dX1_dot_84 c_RX1_69 (by decide) rfl rfl (gC_r G.1) rfl (Nat.le_of_ble_eq_true rfl) (Nat.le_of_ble_eq_true rfl) (by omega) (w_X3_put G (by omega)) (fun v9 s9 hN => ?_)
      refine e_aload_n m_X1_dot dX1_dot_87 rfl rfl rfl ?_
      refine e_bipush (v := nI 79) m_X1_dot dX1_dot_88 (by decide) ?_
      refine e_cvU (as := [.int (nI 79)]) hN m_X1_dot dX1_dot_90 c_RX1_106 (by decide) rfl rfl (gC_p G.1) rfl (Nat.le_of_ble_eq_true rfl) (Nat.le_of_ble_eq_true rfl) (by omega) (w_X1_leave G (by omega)) (fun v10 s10 hN => ?_)
      refine e_iload_n m_X1_dot dX1_dot_93 rfl rfl ?_
      refine e_ifF (t := 101) m_X1_dot dX1_dot_94 (by decide) (by decide) ?_
      refine e_iconst (v := nI 1) m_X1_dot dX1_dot_97 (by decide) ?_
      refine e_goto (t := 102) m_X1_dot dX1_dot_98 (by decide) ?_
      exact e_reti m_X1_dot dX1_dot_102 (Or.inr ⟨rfl, by decide⟩)
    · refine e_aload_n m_X1_dot dX1_dot_42 rfl rfl rfl ?_
      refine e_bipush (v := nI 33) m_X1_dot dX1_dot_43 (by decide) ?_
      refine e_cvN (as := [.int (nI 33)]) hN m_X1_dot dX1_dot_45 c_RX1_46 (by decide) rfl rfl (gC_p G.1) rfl (Nat.le_of_ble_eq_true rfl) (Nat.le_of_ble_eq_true rfl) (by omega) (t_sees G (by omega)) (fun v11 s11 hN => ?_)
      refine e_ifeq (t := 55) hN m_X1_dot dX1_dot_48 (by decide) (fun q12 hN => ?_) (fun q12 hN => ?_)
      · refine e_iconst (v := nI 0) m_X1_dot dX1_dot_55 (by decide) ?_
        refine e_istore_n m_X1_dot dX1_dot_56 rfl (by decide) rfl ?_
        refine e_iload_n m_X1_dot dX1_dot_57 rfl rfl ?_
        refine e_ifT (t := 72) m_X1_dot dX1_dot_58 (by decide) (by decide) ?_
        refine e_aload_n m_X1_dot dX1_dot_72 rfl rfl rfl ?_
        refine e_cvU (as := []) hN m_X1_dot dX1_dot_73 c_RX1_103 (by decide) rfl rfl (gC_p G.1) rfl (Nat.le_of_ble_eq_true rfl) (Nat.le_of_ble_eq_true rfl) (by omega) (i_X1_type IH (by omega)) (fun v13 s13 hN => ?_)
        refine e_aload_n m_X1_dot dX1_dot_76 rfl rfl rfl ?_
        refine e_getf m_X1_dot dX1_dot_77 f_RX1_17 (gC_p G.1) rfl ?_
        refine e_bipush (v := nI 83) m_X1_dot dX1_dot_80 (by decide) ?_
        refine e_iload_n m_X1_dot dX1_dot_82 rfl rfl ?_
        refine e_iconst (v := nI 2) m_X1_dot dX1_dot_83 (by decide) ?_
        refine e_cvU (as := [.int (nI 83), .int (nI v1), .int (nI 2)]) hN m_X1_dot dX1_dot_84 c_RX1_69 (by decide) rfl rfl (gC_r G.1) rfl (Nat.le_of_ble_eq_true rfl) (Nat.le_of_ble_eq_true rfl) (by omega) (w_X3_put G (by omega)) (fun v14 s14 hN => ?_)
        refine e_aload_n m_X1_dot dX1_dot_87 rfl rfl rfl ?_
        refine e_bipush (v := nI 79) m_X1_dot dX1_dot_88 (by decide) ?_
        refine e_cvU (as := [.int (nI 79)]) hN m_X1_dot dX1_dot_90 c_RX1_106 (by decide) rfl rfl (gC_p G.1) rfl (Nat.le_of_ble_eq_true rfl) (Nat.le_of_ble_eq_true rfl) (by omega) (w_X1_leave G (by omega)) (fun v15 s15 hN => ?_)
        refine e_iload_n m_X1_dot dX1_dot_93 rfl rfl ?_
        refine e_ifF (t := 101) m_X1_dot dX1_dot_94 (by decide) (by decide) ?_
        refine e_iconst (v := nI 1) m_X1_dot dX1_dot_97 (by decide) ?_
        refine e_goto (t := 102) m_X1_dot dX1_dot_98 (by decide) ?_
        exact e_reti m_X1_dot dX1_dot_102 (Or.inr ⟨rfl, by decide⟩)
      · refine e_iconst (v := nI 1) m_X1_dot dX1_dot_51 (by decide) ?_
        refine e_goto (t := 56) m_X1_dot dX1_dot_52 (by decide) ?_
        refine e_istore_n m_X1_dot dX1_dot_56 rfl (by decide) rfl ?_
        refine e_iload_n m_X1_dot dX1_dot_57 rfl rfl ?_
        refine e_ifF (t := 72) m_X1_dot dX1_dot_58 (by decide) (by decide) ?_
        refine e_aload_n m_X1_dot dX1_dot_61 rfl rfl rfl ?_
        refine e_aload_n m_X1_dot dX1_dot_62 rfl rfl rfl ?_
        refine e_cvN (as := []) hN m_X1_dot dX1_dot_63 c_RX1_50 (by decide) rfl rfl (gC_p G.1) rfl (Nat.le_of_ble_eq_true rfl) (Nat.le_of_ble_eq_true rfl) (by omega) (t_take G (by omega)) (fun v16 s16 hN => ?_)
        refine e_putf (v := .int (oI (v16 + 1))) (h' := TC h0 a p N cnt ks (u_gw s16 (v16 + 1))) m_X1_dot dX1_dot_66 f_RX1_25 (gC_p G.1) (Nat.le_of_ble_eq_true rfl) (fit_i rfl) rfl (sC_p G.1) ?_
        refine e_goto (t := 87) m_X1_dot dX1_dot_69 (by decide) ?_
        refine e_aload_n m_X1_dot dX1_dot_87 rfl rfl rfl ?_
        refine e_bipush (v := nI 79) m_X1_dot dX1_dot_88 (by decide) ?_
        refine e_cvU (as := [.int (nI 79)]) hN m_X1_dot dX1_dot_90 c_RX1_106 (by decide) rfl rfl (gC_p G.1) rfl (Nat.le_of_ble_eq_true rfl) (Nat.le_of_ble_eq_true rfl) (by omega) (w_X1_leave G (by omega)) (fun v17 s17 hN => ?_)
        refine e_iload_n m_X1_dot dX1_dot_93 rfl rfl ?_
        refine e_ifT (t := 101) m_X1_dot dX1_dot_94 (by decide) (by decide) ?_
        refine e_iconst (v := nI 0) m_X1_dot dX1_dot_101 (by decide) ?_
        exact e_reti m_X1_dot dX1_dot_102 (Or.inr ⟨rfl, by decide⟩)

def b_X1_index (K : Nat → Nat) (N : Nat) (rc : Nat → Nat → Nat → Ss → Rs Ss) (s : Ss) : Rs Ss := bn (b_X1_enter K N 80 s) (fun v1 s1 => bn (q_sees K 87 (u_ih s1 0)) (fun v2 s2 => ifz v2 (bn (rc 29 0 0 s2) (fun v4 s4 => bn (b_X1_accept K N 87 s4) (fun v5 s5 => ifz v5 (bn (b_X1_leave K N 81 s5) (fun v7 s7 => ck ((s_ih s) < 2) (bn (b_X3_put K N 84 v1 2 (u_ih s7 (s_ih s))) (fun v9 s9 => okR 0 s9)))) (bn (rc 94 0 0 s5) (fun v10 s10 => bn (b_X1_leave K N 81 s10) (fun v11 s11 => ck ((s_ih s) < 2) (bn (b_X3_put K N 85 v1 (2 + v10) (u_ih s11 (s_ih s))) (fun v13 s13 => okR 0 s13)))))))) (bn (b_X3_put K N 86 (s_at s2) 0 s2) (fun v14 s14 => bn (b_X1_accept K N 87 s14) (fun v15 s15 => ifz v15 (bn (b_X1_leave K N 81 s15) (fun v17 s17 => ck ((s_ih s) < 2) (bn (b_X3_put K N 84 v1 2 (u_ih s17 (s_ih s))) (fun v19 s19 => okR 0 s19)))) (bn (rc 94 0 0 s15) (fun v20 s20 => bn (b_X1_leave K N 81 s20) (fun v21 s21 => ck ((s_ih s) < 2) (bn (b_X3_put K N 85 v1 (2 + v20) (u_ih s21 (s_ih s))) (fun v23 s23 => okR 0 s23))))))))))
theorem w_X1_index {xs : Nat → Int32} {L : Nat} {h0 : mm_H} {a p N cnt : Nat} {ks : Nat → Nat} (G : Cg h0 a p N cnt ks) {n : Nat} {rc : Nat → Nat → Nat → Ss → Rs Ss} (IH : Hr xs L h0 a p N cnt ks n rc) {s : Ss} {d : Nat} (hd : n + 17 ≤ d) (hN : b_X1_index (kA cnt ks) N rc s ≠ none) : Rn xs L d 93 [.ref p] (TC h0 a p N cnt ks s) (ou eU (TC h0 a p N cnt ks) (b_X1_index (kA cnt ks) N rc s)) := by
  unfold Rn
  unfold b_X1_index at hN ⊢
  refine e_aload_n m_X1_index dX1_index_0 rfl rfl rfl ?_
  refine e_getf m_X1_index dX1_index_1 f_RX1_119 (gC_p G.1) rfl ?_
  refine e_istore_n m_X1_index dX1_index_4 rfl (by decide) rfl ?_
  refine e_aload_n m_X1_index dX1_index_5 rfl rfl rfl ?_
  refine e_bipush (v := nI 80) m_X1_index dX1_index_6 (by decide) ?_
  refine e_cvN (as := [.int (nI 80)]) hN m_X1_index dX1_index_8 c_RX1_100 (by decide) rfl rfl (gC_p G.1) rfl (Nat.le_of_ble_eq_true rfl) (Nat.le_of_ble_eq_true rfl) (by omega) (w_X1_enter G (by omega)) (fun v1 s1 hN => ?_)
  refine e_istore_n m_X1_index dX1_index_11 rfl (by decide) rfl ?_
  refine e_aload_n m_X1_index dX1_index_12 rfl rfl rfl ?_
  refine e_iconst (v := nI 0) m_X1_index dX1_index_13 (by decide) ?_
  refine e_putf (v := .int (nI 0)) (h' := TC h0 a p N cnt ks (u_ih s1 0)) m_X1_index dX1_index_14 f_RX1_119 (gC_p G.1) (Nat.le_of_ble_eq_true rfl) (fit_z rfl (by decide)) rfl (sC_p G.1) ?_
  refine e_aload_n m_X1_index dX1_index_17 rfl rfl rfl ?_
  refine e_bipush (v := nI 87) m_X1_index dX1_index_18 (by decide) ?_
  refine e_cvN (as := [.int (nI 87)]) hN m_X1_index dX1_index_20 c_RX1_46 (by decide) rfl rfl (gC_p G.1) rfl (Nat.le_of_ble_eq_true rfl) (Nat.le_of_ble_eq_true rfl) (by omega) (t_sees G (by omega)) (fun v2 s2 hN => ?_)
  refine e_ifeq (t := 43) hN m_X1_index dX1_index_23 (by decide) (fun q3 hN => ?_) (fun q3 hN => ?_)
  · refine e_aload_n m_X1_index dX1_index_43 rfl rfl rfl ?_
    refine e_iconst (v := nI 0) m_X1_index dX1_index_44 (by decide) ?_
    refine e_cvU (as := [.int (nI 0)]) hN m_X1_index dX1_index_45 c_RX1_181 (by decide) rfl rfl (gC_p G.1) rfl (Nat.le_of_ble_eq_true rfl) (Nat.le_of_ble_eq_true rfl) (by omega) (i_X1_expr IH (by omega)) (fun v4 s4 hN => ?_)
    refine e_bipush (v := nI 84) m_X1_index dX1_index_48 (by decide) ?_
    refine e_istore_n m_X1_index dX1_index_50 rfl (by decide) rfl ?_
    refine e_iconst (v := nI 2) m_X1_index dX1_index_51 (by decide) ?_
    refine e_istore m_X1_index dX1_index_52 (by decide) rfl ?_
    refine e_aload_n m_X1_index dX1_index_54 rfl rfl rfl ?_
    refine e_bipush (v := nI 87) m_X1_index dX1_index_55 (by decide) ?_
    refine e_cvN (as := [.int (nI 87)]) hN m_X1_index dX1_index_57 c_RX1_123 (by decide) rfl rfl (gC_p G.1) rfl (Nat.le_of_ble_eq_true rfl) (Nat.le_of_ble_eq_true rfl) (by omega) (w_X1_accept G (by omega)) (fun v5 s5 hN => ?_)
    refine e_ifeq (t := 75) hN m_X1_index dX1_index_60 (by decide) (fun q6 hN => ?_) (fun q6 hN => ?_)
    · refine e_aload_n m_X1_index dX1_index_75 rfl rfl rfl ?_
      refine e_bipush (v := nI 81) m_X1_index dX1_index_76 (by decide) ?_
      refine e_cvU (as := [.int (nI 81)]) hN m_X1_index dX1_index_78 c_RX1_106 (by decide) rfl rfl (gC_p G.1) rfl (Nat.le_of_ble_eq_true rfl) (Nat.le_of_ble_eq_true rfl) (by omega) (w_X1_leave G (by omega)) (fun v7 s7 hN => ?_)
      refine e_aload_n m_X1_index dX1_index_81 rfl rfl rfl ?_
      refine e_iload_n m_X1_index dX1_index_82 rfl rfl ?_
      refine e_ck hN (fun q8 hN => ?_)
      refine e_putf (v := .int (nI (s_ih s))) (h' := TC h0 a p N cnt ks (u_ih s7 (s_ih s))) m_X1_index dX1_index_83 f_RX1_119 (gC_p G.1) (Nat.le_of_ble_eq_true rfl) (fit_z rfl (b01 q8)) rfl (sC_p G.1) ?_
      refine e_aload_n m_X1_index dX1_index_86 rfl rfl rfl ?_
      refine e_getf m_X1_index dX1_index_87 f_RX1_17 (gC_p G.1) rfl ?_
      refine e_iload_n m_X1_index dX1_index_90 rfl rfl ?_
      refine e_iload_n m_X1_index dX1_index_91 rfl rfl ?_
      refine e_iload m_X1_index dX1_index_92 rfl ?_
      refine e_cvU (as := [.int (nI 84), .int (nI v1), .int (nI 2)]) hN m_X1_index dX1_index_94 c_RX1_69 (by decide) rfl rfl (gC_r G.1) rfl (Nat.le_of_ble_eq_true rfl) (Nat.le_of_ble_eq_true rfl) (by omega) (w_X3_put G (by omega)) (fun v9 s9 hN => ?_)
      exact e_ret0 m_X1_index dX1_index_97
    · refine e_bipush (v := nI 85) m_X1_index dX1_index_63 (by decide) ?_
      refine e_istore_n m_X1_index dX1_index_65 rfl (by decide) rfl ?_
      refine e_iload m_X1_index dX1_index_66 rfl ?_
      refine e_aload_n m_X1_index dX1_index_68 rfl rfl rfl ?_
      refine e_cvN (as := []) hN m_X1_index dX1_index_69 c_RX1_326 (by decide) rfl rfl (gC_p G.1) rfl (Nat.le_of_ble_eq_true rfl) (Nat.le_of_ble_eq_true rfl) (by omega) (i_X1_upperBounds IH (by omega)) (fun v10 s10 hN => ?_)
      refine e_iaddN m_X1_index dX1_index_72 ?_
      refine e_istore m_X1_index dX1_index_73 (by decide) rfl ?_
      refine e_aload_n m_X1_index dX1_index_75 rfl rfl rfl ?_
      refine e_bipush (v := nI 81) m_X1_index dX1_index_76 (by decide) ?_
      refine e_cvU (as := [.int (nI 81)]) hN m_X1_index dX1_index_78 c_RX1_106 (by decide) rfl rfl (gC_p G.1) rfl (Nat.le_of_ble_eq_true rfl) (Nat.le_of_ble_eq_true rfl) (by omega) (w_X1_leave G (by omega)) (fun v11 s11 hN => ?_)
      refine e_aload_n m_X1_index dX1_index_81 rfl rfl rfl ?_
      refine e_iload_n m_X1_index dX1_index_82 rfl rfl ?_
      refine e_ck hN (fun q12 hN => ?_)
      refine e_putf (v := .int (nI (s_ih s))) (h' := TC h0 a p N cnt ks (u_ih s11 (s_ih s))) m_X1_index dX1_index_83 f_RX1_119 (gC_p G.1) (Nat.le_of_ble_eq_true rfl) (fit_z rfl (b01 q12)) rfl (sC_p G.1) ?_
      refine e_aload_n m_X1_index dX1_index_86 rfl rfl rfl ?_
      refine e_getf m_X1_index dX1_index_87 f_RX1_17 (gC_p G.1) rfl ?_
      refine e_iload_n m_X1_index dX1_index_90 rfl rfl ?_
      refine e_iload_n m_X1_index dX1_index_91 rfl rfl ?_
      refine e_iload m_X1_index dX1_index_92 rfl ?_
      refine e_cvU (as := [.int (nI 85), .int (nI v1), .int (nI (2 + v10))]) hN m_X1_index dX1_index_94 c_RX1_69 (by decide) rfl rfl (gC_r G.1) rfl (Nat.le_of_ble_eq_true rfl) (Nat.le_of_ble_eq_true rfl) (by omega) (w_X3_put G (by omega)) (fun v13 s13 hN => ?_)
      exact e_ret0 m_X1_index dX1_index_97
  · refine e_aload_n m_X1_index dX1_index_26 rfl rfl rfl ?_
    refine e_getf m_X1_index dX1_index_27 f_RX1_17 (gC_p G.1) rfl ?_
    refine e_bipush (v := nI 86) m_X1_index dX1_index_30 (by decide) ?_
    refine e_aload_n m_X1_index dX1_index_32 rfl rfl rfl ?_
    refine e_getf m_X1_index dX1_index_33 f_RX1_43 (gC_p G.1) rfl ?_
    refine e_iconst (v := nI 0) m_X1_index dX1_index_36 (by decide) ?_
    refine e_cvU (as := [.int (nI 86), .int (nI (s_at s2)), .int (nI 0)]) hN m_X1_index dX1_index_37 c_RX1_69 (by decide) rfl rfl (gC_r G.1) rfl (Nat.le_of_ble_eq_true rfl) (Nat.le_of_ble_eq_true rfl) (by omega) (w_X3_put G (by omega)) (fun v14 s14 hN => ?_)
    refine e_goto (t := 48) m_X1_index dX1_index_40 (by decide) ?_
    refine e_bipush (v := nI 84) m_X1_index dX1_index_48 (by decide) ?_
    refine e_istore_n m_X1_index dX1_index_50 rfl (by decide) rfl ?_
    refine e_iconst (v := nI 2) m_X1_index dX1_index_51 (by decide) ?_
    refine e_istore m_X1_index dX1_index_52 (by decide) rfl ?_
    refine e_aload_n m_X1_index dX1_index_54 rfl rfl rfl ?_
    refine e_bipush (v := nI 87) m_X1_index dX1_index_55 (by decide) ?_
    refine e_cvN (as := [.int (nI 87)]) hN m_X1_index dX1_index_57 c_RX1_123 (by decide) rfl rfl (gC_p G.1) rfl (Nat.le_of_ble_eq_true rfl) (Nat.le_of_ble_eq_true rfl) (by omega) (w_X1_accept G (by omega)) (fun v15 s15 hN => ?_)
    refine e_ifeq (t := 75) hN m_X1_index dX1_index_60 (by decide) (fun q16 hN => ?_) (fun q16 hN => ?_)
    · refine e_aload_n m_X1_index dX1_index_75 rfl rfl rfl ?_
      refine e_bipush (v := nI 81) m_X1_index dX1_index_76 (by decide) ?_
      refine e_cvU (as := [.int (nI 81)]) hN m_X1_index dX1_index_78 c_RX1_106 (by decide) rfl rfl (gC_p G.1) rfl (Nat.le_of_ble_eq_true rfl) (Nat.le_of_ble_eq_true rfl) (by omega) (w_X1_leave G (by omega)) (fun v17 s17 hN => ?_)
      refine e_aload_n m_X1_index dX1_index_81 rfl rfl rfl ?_
      refine e_iload_n m_X1_index dX1_index_82 rfl rfl ?_
      refine e_ck hN (fun q18 hN => ?_)
      refine e_putf (v := .int (nI (s_ih s))) (h' := TC h0 a p N cnt ks (u_ih s17 (s_ih s))) m_X1_index dX1_index_83 f_RX1_119 (gC_p G.1) (Nat.le_of_ble_eq_true rfl) (fit_z rfl (b01 q18)) rfl (sC_p G.1) ?_
      refine e_aload_n m_X1_index dX1_index_86 rfl rfl rfl ?_
      refine e_getf m_X1_index dX1_index_87 f_RX1_17 (gC_p G.1) rfl ?_
      refine e_iload_n m_X1_index dX1_index_90 rfl rfl ?_
      refine e_iload_n m_X1_index dX1_index_91 rfl rfl ?_
      refine e_iload m_X1_index dX1_index_92 rfl ?_
      refine e_cvU (as := [.int (nI 84), .int (nI v1), .int (nI 2)]) hN m_X1_index dX1_index_94 c_RX1_69 (by decide) rfl rfl (gC_r G.1) rfl (Nat.le_of_ble_eq_true rfl) (Nat.le_of_ble_eq_true rfl) (by omega) (w_X3_put G (by omega)) (fun v19 s19 hN => ?_)
      exact e_ret0 m_X1_index dX1_index_97
    · refine e_bipush (v := nI 85) m_X1_index dX1_index_63 (by decide) ?_
      refine e_istore_n m_X1_index dX1_index_65 rfl (by decide) rfl ?_
      refine e_iload m_X1_index dX1_index_66 rfl ?_
      refine e_aload_n m_X1_index dX1_index_68 rfl rfl rfl ?_
      refine e_cvN (as := []) hN m_X1_index dX1_index_69 c_RX1_326 (by decide) rfl rfl (gC_p G.1) rfl (Nat.le_of_ble_eq_true rfl) (Nat.le_of_ble_eq_true rfl) (by omega) (i_X1_upperBounds IH (by omega)) (fun v20 s20 hN => ?_)
      refine e_iaddN m_X1_index dX1_index_72 ?_
      refine e_istore m_X1_index dX1_index_73 (by decide) rfl ?_
      refine e_aload_n m_X1_index dX1_index_75 rfl rfl rfl ?_
      refine e_bipush (v := nI 81) m_X1_index dX1_index_76 (by decide) ?_
      refine e_cvU (as := [.int (nI 81)]) hN m_X1_index dX1_index_78 c_RX1_106 (by decide) rfl rfl (gC_p G.1) rfl (Nat.le_of_ble_eq_true rfl) (Nat.le_of_ble_eq_true rfl) (by omega) (w_X1_leave G (by omega)) (fun v21 s21 hN => ?_)
      refine e_aload_n m_X1_index dX1_index_81 rfl rfl rfl ?_
      refine e_iload_n m_X1_index dX1_index_82 rfl rfl ?_
      refine e_ck hN (fun q22 hN => ?_)
      refine e_putf (v := .int (nI (s_ih s))) (h' := TC h0 a p N cnt ks (u_ih s21 (s_ih s))) m_X1_index dX1_index_83 f_RX1_119 (gC_p G.1) (Nat.le_of_ble_eq_true rfl) (fit_z rfl (b01 q22)) rfl (sC_p G.1) ?_
      refine e_aload_n m_X1_index dX1_index_86 rfl rfl rfl ?_
      refine e_getf m_X1_index dX1_index_87 f_RX1_17 (gC_p G.1) rfl ?_
      refine e_iload_n m_X1_index dX1_index_90 rfl rfl ?_
      refine e_iload_n m_X1_index dX1_index_91 rfl rfl ?_
      refine e_iload m_X1_index dX1_index_92 rfl ?_
      refine e_cvU (as := [.int (nI 85), .int (nI v1), .int (nI (2 + v20))]) hN m_X1_index dX1_index_94 c_RX1_69 (by decide) rfl rfl (gC_r G.1) rfl (Nat.le_of_ble_eq_true rfl) (Nat.le_of_ble_eq_true rfl) (by omega) (w_X3_put G (by omega)) (fun v23 s23 hN => ?_)
      exact e_ret0 m_X1_index dX1_index_97

def b_X1_upperBounds (K : Nat → Nat) (N : Nat) (rc : Nat → Nat → Nat → Ss → Rs Ss) (s : Ss) : Rs Ss := bn (q_sees K 81 s) (fun v1 s1 => ifz v1 (bn (rc 29 0 0 s1) (fun v3 s3 => bn (b_X1_accept K N 87 s3) (fun v4 s4 => ifz v4 (okR 1 s4) (bn (rc 29 0 0 s4) (fun v6 s6 => okR 2 s6))))) (bn (b_X3_put K N 86 (s_at s1) 0 s1) (fun v7 s7 => okR 1 s7)))
theorem w_X1_upperBounds {xs : Nat → Int32} {L : Nat} {h0 : mm_H} {a p N cnt : Nat} {ks : Nat → Nat} (G : Cg h0 a p N cnt ks) {n : Nat} {rc : Nat → Nat → Nat → Ss → Rs Ss} (IH : Hr xs L h0 a p N cnt ks n rc) {s : Ss} {d : Nat} (hd : n + 17 ≤ d) (hN : b_X1_upperBounds (kA cnt ks) N rc s ≠ none) : Rn xs L d 94 [.ref p] (TC h0 a p N cnt ks s) (ou eN (TC h0 a p N cnt ks) (b_X1_upperBounds (kA cnt ks) N rc s)) := by
  unfold Rn
  unfold b_X1_upperBounds at hN ⊢
  refine e_aload_n m_X1_upperBounds dX1_upperBounds_0 rfl rfl rfl ?_
  refine e_bipush (v := nI 81) m_X1_upperBounds dX1_upperBounds_1 (by decide) ?_
  refine e_cvN (as := [.int (nI 81)]) hN m_X1_upperBounds dX1_upperBounds_3 c_RX1_46 (by decide) rfl rfl (gC_p G.1) rfl (Nat.le_of_ble_eq_true rfl) (Nat.le_of_ble_eq_true rfl) (by omega) (t_sees G (by omega)) (fun v1 s1 hN => ?_)
  refine e_ifeq (t := 25) hN m_X1_upperBounds dX1_upperBounds_6 (by decide) (fun q2 hN => ?_) (fun q2 hN => ?_)
  · refine e_aload_n m_X1_upperBounds dX1_upperBounds_25 rfl rfl rfl ?_
    refine e_iconst (v := nI 0) m_X1_upperBounds dX1_upperBounds_26 (by decide) ?_
    refine e_cvU (as := [.int (nI 0)]) hN m_X1_upperBounds dX1_upperBounds_27 c_RX1_181 (by decide) rfl rfl (gC_p G.1) rfl (Nat.le_of_ble_eq_true rfl) (Nat.le_of_ble_eq_true rfl) (by omega) (i_X1_expr IH (by omega)) (fun v3 s3 hN => ?_)
    refine e_aload_n m_X1_upperBounds dX1_upperBounds_30 rfl rfl rfl ?_
    refine e_bipush (v := nI 87) m_X1_upperBounds dX1_upperBounds_31 (by decide) ?_
    refine e_cvN (as := [.int (nI 87)]) hN m_X1_upperBounds dX1_upperBounds_33 c_RX1_123 (by decide) rfl rfl (gC_p G.1) rfl (Nat.le_of_ble_eq_true rfl) (Nat.le_of_ble_eq_true rfl) (by omega) (w_X1_accept G (by omega)) (fun v4 s4 hN => ?_)
    refine e_ifne (t := 41) hN m_X1_upperBounds dX1_upperBounds_36 (by decide) (fun q5 hN => ?_) (fun q5 hN => ?_)
    · refine e_iconst (v := nI 1) m_X1_upperBounds dX1_upperBounds_39 (by decide) ?_
      exact e_reti m_X1_upperBounds dX1_upperBounds_40 (Or.inl rfl)
    · refine e_aload_n m_X1_upperBounds dX1_upperBounds_41 rfl rfl rfl ?_
      refine e_iconst (v := nI 0) m_X1_upperBounds dX1_upperBounds_42 (by decide) ?_
      refine e_cvU (as := [.int (nI 0)]) hN m_X1_upperBounds dX1_upperBounds_43 c_RX1_181 (by decide) rfl rfl (gC_p G.1) rfl (Nat.le_of_ble_eq_true rfl) (Nat.le_of_ble_eq_true rfl) (by omega) (i_X1_expr IH (by omega)) (fun v6 s6 hN => ?_)
      refine e_iconst (v := nI 2) m_X1_upperBounds dX1_upperBounds_46 (by decide) ?_
      exact e_reti m_X1_upperBounds dX1_upperBounds_47 (Or.inl rfl)
  · refine e_aload_n m_X1_upperBounds dX1_upperBounds_9 rfl rfl rfl ?_
    refine e_getf m_X1_upperBounds dX1_upperBounds_10 f_RX1_17 (gC_p G.1) rfl ?_
    refine e_bipush (v := nI 86) m_X1_upperBounds dX1_upperBounds_13 (by decide) ?_
    refine e_aload_n m_X1_upperBounds dX1_upperBounds_15 rfl rfl rfl ?_
    refine e_getf m_X1_upperBounds dX1_upperBounds_16 f_RX1_43 (gC_p G.1) rfl ?_
    refine e_iconst (v := nI 0) m_X1_upperBounds dX1_upperBounds_19 (by decide) ?_
    refine e_cvU (as := [.int (nI 86), .int (nI (s_at s1)), .int (nI 0)]) hN m_X1_upperBounds dX1_upperBounds_20 c_RX1_69 (by decide) rfl rfl (gC_r G.1) rfl (Nat.le_of_ble_eq_true rfl) (Nat.le_of_ble_eq_true rfl) (by omega) (w_X3_put G (by omega)) (fun v7 s7 hN => ?_)
    refine e_iconst (v := nI 1) m_X1_upperBounds dX1_upperBounds_23 (by decide) ?_
    exact e_reti m_X1_upperBounds dX1_upperBounds_24 (Or.inl rfl)

def lp_X1_call_22 (K : Nat → Nat) (N : Nat) (rc : Nat → Nat → Nat → Ss → Rs Ss) : Nat → Nat → Nat → Nat → Nat → Ss → Rs Ss
  | 0, _, _, _, _, _ => none
  | f + 1, y1, y2, y3, y4, s => ifl y3 16385 (ifz y4 (bn (b_X1_leave K N 79 s) (fun v27 s27 => ck (y1 < 2) (bn (b_X3_put K N 87 y2 y3 (u_ih s27 y1)) (fun v29 s29 => okR 0 s29)))) (bn (q_sees K 79 s) (fun v30 s30 => ifz v30 (bn (rc 29 0 0 s30) (fun v32 s32 => bn (q_sees K 77 s32) (fun v33 s33 => ifz v33 (bn (b_X1_accept K N 84 s33) (fun v35 s35 => ifz v35 (lp_X1_call_22 K N rc f y1 y2 (y3 + 1) 0 s35) (ifz v33 (lp_X1_call_22 K N rc f y1 y2 (y3 + 1) 1 s35) (lp_X1_call_22 K N rc f y1 y2 (y3 + 1) 0 s35)))) (bn (b_X1_putLeaf K N 17 s33) (fun v38 s38 => bn (b_X1_accept K N 84 s38) (fun v39 s39 => ifz v39 (lp_X1_call_22 K N rc f y1 y2 ((y3 + 1) + 1) 0 s39) (ifz v33 (lp_X1_call_22 K N rc f y1 y2 ((y3 + 1) + 1) 1 s39) (lp_X1_call_22 K N rc f y1 y2 ((y3 + 1) + 1) 0 s39)))))))) (bn (b_X1_leave K N 79 s30) (fun v42 s42 => ck (y1 < 2) (bn (b_X3_put K N 87 y2 y3 (u_ih s42 y1)) (fun v44 s44 => okR 0 s44))))))) (bn (b_X1_leave K N 79 s) (fun v45 s45 => ck (y1 < 2) (bn (b_X3_put K N 87 y2 y3 (u_ih s45 y1)) (fun v47 s47 => okR 0 s47))))
theorem l_X1_call_22 {xs : Nat → Int32} {L : Nat} {h0 : mm_H} {a p N cnt : Nat} {ks : Nat → Nat} (G : Cg h0 a p N cnt ks) {n : Nat} {rc : Nat → Nat → Nat → Ss → Rs Ss} (IH : Hr xs L h0 a p N cnt ks n rc) : ∀ (f : Nat) (y1 y2 y3 y4 : Nat) (s : Ss) (d : Nat) (ls : mm_L) (hd : n + 17 ≤ d) (hl0 : mm_lk ls 0 = some (.ref p)) (hl1 : mm_lk ls 1 = some (.int (nI y1))) (hl2 : mm_lk ls 2 = some (.int (nI y2))) (hl3 : mm_lk ls 3 = some (.int (nI y3))) (hl4 : mm_lk ls 4 = some (.int (nI y4))), lp_X1_call_22 (kA cnt ks) N rc f y1 y2 y3 y4 s ≠ none → Ev xs L d 95 22 ls [] (TC h0 a p N cnt ks s) 0 0 (ou eU (TC h0 a p N cnt ks) (lp_X1_call_22 (kA cnt ks) N rc f y1 y2 y3 y4 s)) := by
  intro f
  induction f with
  | zero => intros; rename_i hN; exact absurd rfl hN
  | succ f ih =>
    intro y1 y2 y3 y4 s d ls hd hl0 hl1 hl2 hl3 hl4 hN
    rw [lp_X1_call_22] at hN ⊢
    refine e_iload_n m_X1_call dX1_call_22 rfl hl3 ?_
    refine e_sipush (v := nI 16385) m_X1_call dX1_call_23 (by decide) ?_
    refine e_ige (t := 97) (a := y3) (b := 16385) hN m_X1_call dX1_call_26 (by decide) (fun q25 hN => ?_) (fun q25 hN => ?_)
    · refine e_iload m_X1_call dX1_call_29 hl4 ?_
      refine e_ifeq (t := 97) hN m_X1_call dX1_call_31 (by decide) (fun q26 hN => ?_) (fun q26 hN => ?_)
      · refine e_aload_n m_X1_call dX1_call_97 rfl hl0 rfl ?_
        refine e_bipush (v := nI 79) m_X1_call dX1_call_98 (by decide) ?_
        refine e_cvU (as := [.int (nI 79)]) hN m_X1_call dX1_call_100 c_RX1_106 (by decide) rfl rfl (gC_p G.1) rfl (Nat.le_of_ble_eq_true rfl) (Nat.le_of_ble_eq_true rfl) (by omega) (w_X1_leave G (by omega)) (fun v27 s27 hN => ?_)
        refine e_aload_n m_X1_call dX1_call_103 rfl hl0 rfl ?_
        refine e_iload_n m_X1_call dX1_call_104 rfl hl1 ?_
        refine e_ck hN (fun q28 hN => ?_)
        refine e_putf (v := .int (nI y1)) (h' := TC h0 a p N cnt ks (u_ih s27 y1)) m_X1_call dX1_call_105 f_RX1_119 (gC_p G.1) (Nat.le_of_ble_eq_true rfl) (fit_z rfl (b01 q28)) rfl (sC_p G.1) ?_
        refine e_aload_n m_X1_call dX1_call_108 rfl hl0 rfl ?_
        refine e_getf m_X1_call dX1_call_109 f_RX1_17 (gC_p G.1) rfl ?_
        refine e_bipush (v := nI 87) m_X1_call dX1_call_112 (by decide) ?_
        refine e_iload_n m_X1_call dX1_call_114 rfl hl2 ?_
        refine e_iload_n m_X1_call dX1_call_115 rfl hl3 ?_
        refine e_cvU (as := [.int (nI 87), .int (nI y2), .int (nI y3)]) hN m_X1_call dX1_call_116 c_RX1_69 (by decide) rfl rfl (gC_r G.1) rfl (Nat.le_of_ble_eq_true rfl) (Nat.le_of_ble_eq_true rfl) (by omega) (w_X3_put G (by omega)) (fun v29 s29 hN => ?_)
        exact e_ret0 m_X1_call dX1_call_119
      · refine e_aload_n m_X1_call dX1_call_34 rfl hl0 rfl ?_
        refine e_bipush (v := nI 79) m_X1_call dX1_call_35 (by decide) ?_
        refine e_cvN (as := [.int (nI 79)]) hN m_X1_call dX1_call_37 c_RX1_46 (by decide) rfl rfl (gC_p G.1) rfl (Nat.le_of_ble_eq_true rfl) (Nat.le_of_ble_eq_true rfl) (by omega) (t_sees G (by omega)) (fun v30 s30 hN => ?_)
        refine e_ifne (t := 97) hN m_X1_call dX1_call_40 (by decide) (fun q31 hN => ?_) (fun q31 hN => ?_)
        · refine e_aload_n m_X1_call dX1_call_43 rfl hl0 rfl ?_
          refine e_iconst (v := nI 0) m_X1_call dX1_call_44 (by decide) ?_
          refine e_cvU (as := [.int (nI 0)]) hN m_X1_call dX1_call_45 c_RX1_181 (by decide) rfl rfl (gC_p G.1) rfl (Nat.le_of_ble_eq_true rfl) (Nat.le_of_ble_eq_true rfl) (by omega) (i_X1_expr IH (by omega)) (fun v32 s32 hN => ?_)
          refine e_iincN (n := 1) m_X1_call dX1_call_48 (by decide) hl3 rfl ?_
          refine e_aload_n m_X1_call dX1_call_51 rfl (lk_mis (by decide) rfl hl0) rfl ?_
          refine e_bipush (v := nI 77) m_X1_call dX1_call_52 (by decide) ?_
          refine e_cvN (as := [.int (nI 77)]) hN m_X1_call dX1_call_54 c_RX1_46 (by decide) rfl rfl (gC_p G.1) rfl (Nat.le_of_ble_eq_true rfl) (Nat.le_of_ble_eq_true rfl) (by omega) (t_sees G (by omega)) (fun v33 s33 hN => ?_)
          refine e_istore m_X1_call dX1_call_57 (by decide) rfl ?_
          refine e_iload m_X1_call dX1_call_59 lk_hit ?_
          refine e_ifeq (t := 73) hN m_X1_call dX1_call_61 (by decide) (fun q34 hN => ?_) (fun q34 hN => ?_)
          · refine e_aload_n m_X1_call dX1_call_73 rfl (lk_mis (by decide) rfl (lk_mis (by decide) rfl hl0)) rfl ?_
            refine e_bipush (v := nI 84) m_X1_call dX1_call_74 (by decide) ?_
            refine e_cvN (as := [.int (nI 84)]) hN m_X1_call dX1_call_76 c_RX1_123 (by decide) rfl rfl (gC_p G.1) rfl (Nat.le_of_ble_eq_true rfl) (Nat.le_of_ble_eq_true rfl) (by omega) (w_X1_accept G (by omega)) (fun v35 s35 hN => ?_)
            refine e_ifeq (t := 91) hN m_X1_call dX1_call_79 (by decide) (fun q36 hN => ?_) (fun q36 hN => ?_)
            · refine e_iconst (v := nI 0) m_X1_call dX1_call_91 (by decide) ?_
              refine e_istore m_X1_call dX1_call_92 (by decide) rfl ?_
              refine e_goto (t := 22) m_X1_call dX1_call_94 (by decide) ?_
              exact ih y1 y2 (y3 + 1) 0 _ _ _ (by omega) (lk_mis (by decide) rfl (lk_mis (by decide) rfl (lk_mis (by decide) rfl hl0))) (lk_mis (by decide) rfl (lk_mis (by decide) rfl (lk_mis (by decide) rfl hl1))) (lk_mis (by decide) rfl (lk_mis (by decide) rfl (lk_mis (by decide) rfl hl2))) (lk_mis (by decide) rfl (lk_mis (by decide) rfl lk_hit)) lk_hit hN
            · refine e_iload m_X1_call dX1_call_82 lk_hit ?_
              refine e_ifne (t := 91) hN m_X1_call dX1_call_84 (by decide) (fun q37 hN => ?_) (fun q37 hN => ?_)
              · refine e_iconst (v := nI 1) m_X1_call dX1_call_87 (by decide) ?_
                refine e_goto (t := 92) m_X1_call dX1_call_88 (by decide) ?_
                refine e_istore m_X1_call dX1_call_92 (by decide) rfl ?_
                refine e_goto (t := 22) m_X1_call dX1_call_94 (by decide) ?_
                exact ih y1 y2 (y3 + 1) 1 _ _ _ (by omega) (lk_mis (by decide) rfl (lk_mis (by decide) rfl (lk_mis (by decide) rfl hl0))) (lk_mis (by decide) rfl (lk_mis (by decide) rfl (lk_mis (by decide) rfl hl1))) (lk_mis (by decide) rfl (lk_mis (by decide) rfl (lk_mis (by decide) rfl hl2))) (lk_mis (by decide) rfl (lk_mis (by decide) rfl lk_hit)) lk_hit hN
              · refine e_iconst (v := nI 0) m_X1_call dX1_call_91 (by decide) ?_
                refine e_istore m_X1_call dX1_call_92 (by decide) rfl ?_
                refine e_goto (t := 22) m_X1_call dX1_call_94 (by decide) ?_
                exact ih y1 y2 (y3 + 1) 0 _ _ _ (by omega) (lk_mis (by decide) rfl (lk_mis (by decide) rfl (lk_mis (by decide) rfl hl0))) (lk_mis (by decide) rfl (lk_mis (by decide) rfl (lk_mis (by decide) rfl hl1))) (lk_mis (by decide) rfl (lk_mis (by decide) rfl (lk_mis (by decide) rfl hl2))) (lk_mis (by decide) rfl (lk_mis (by decide) rfl lk_hit)) lk_hit hN
          · refine e_aload_n m_X1_call dX1_call_64 rfl (lk_mis (by decide) rfl (lk_mis (by decide) rfl hl0)) rfl ?_
            refine e_bipush (v := nI 17) m_X1_call dX1_call_65 (by decide) ?_
            refine e_cvU (as := [.int (nI 17)]) hN m_X1_call dX1_call_67 c_RX1_154 (by decide) rfl rfl (gC_p G.1) rfl (Nat.le_of_ble_eq_true rfl) (Nat.le_of_ble_eq_true rfl) (by omega) (w_X1_putLeaf G (by omega)) (fun v38 s38 hN => ?_)
            refine e_iincN (n := 1) m_X1_call dX1_call_70 (by decide) (lk_mis (by decide) rfl lk_hit) rfl ?_
            refine e_aload_n m_X1_call dX1_call_73 rfl (lk_mis (by decide) rfl (lk_mis (by decide) rfl (lk_mis (by decide) rfl hl0))) rfl ?_
            refine e_bipush (v := nI 84) m_X1_call dX1_call_74 (by decide) ?_
            refine e_cvN (as := [.int (nI 84)]) hN m_X1_call dX1_call_76 c_RX1_123 (by decide) rfl rfl (gC_p G.1) rfl (Nat.le_of_ble_eq_true rfl) (Nat.le_of_ble_eq_true rfl) (by omega) (w_X1_accept G (by omega)) (fun v39 s39 hN => ?_)
            refine e_ifeq (t := 91) hN m_X1_call dX1_call_79 (by decide) (fun q40 hN => ?_) (fun q40 hN => ?_)
            · refine e_iconst (v := nI 0) m_X1_call dX1_call_91 (by decide) ?_
              refine e_istore m_X1_call dX1_call_92 (by decide) rfl ?_
              refine e_goto (t := 22) m_X1_call dX1_call_94 (by decide) ?_
              exact ih y1 y2 ((y3 + 1) + 1) 0 _ _ _ (by omega) (lk_mis (by decide) rfl (lk_mis (by decide) rfl (lk_mis (by decide) rfl (lk_mis (by decide) rfl hl0)))) (lk_mis (by decide) rfl (lk_mis (by decide) rfl (lk_mis (by decide) rfl (lk_mis (by decide) rfl hl1)))) (lk_mis (by decide) rfl (lk_mis (by decide) rfl (lk_mis (by decide) rfl (lk_mis (by decide) rfl hl2)))) (lk_mis (by decide) rfl lk_hit) lk_hit hN
            · refine e_iload m_X1_call dX1_call_82 (lk_mis (by decide) rfl lk_hit) ?_
              refine e_ifne (t := 91) hN m_X1_call dX1_call_84 (by decide) (fun q41 hN => ?_) (fun q41 hN => ?_)
              · refine e_iconst (v := nI 1) m_X1_call dX1_call_87 (by decide) ?_
                refine e_goto (t := 92) m_X1_call dX1_call_88 (by decide) ?_
                refine e_istore m_X1_call dX1_call_92 (by decide) rfl ?_
                refine e_goto (t := 22) m_X1_call dX1_call_94 (by decide) ?_
                exact ih y1 y2 ((y3 + 1) + 1) 1 _ _ _ (by omega) (lk_mis (by decide) rfl (lk_mis (by decide) rfl (lk_mis (by decide) rfl (lk_mis (by decide) rfl hl0)))) (lk_mis (by decide) rfl (lk_mis (by decide) rfl (lk_mis (by decide) rfl (lk_mis (by decide) rfl hl1)))) (lk_mis (by decide) rfl (lk_mis (by decide) rfl (lk_mis (by decide) rfl (lk_mis (by decide) rfl hl2)))) (lk_mis (by decide) rfl lk_hit) lk_hit hN
              · refine e_iconst (v := nI 0) m_X1_call dX1_call_91 (by decide) ?_
                refine e_istore m_X1_call dX1_call_92 (by decide) rfl ?_
                refine e_goto (t := 22) m_X1_call dX1_call_94 (by decide) ?_
                exact ih y1 y2 ((y3 + 1) + 1) 0 _ _ _ (by omega) (lk_mis (by decide) rfl (lk_mis (by decide) rfl (lk_mis (by decide) rfl (lk_mis (by decide) rfl hl0)))) (lk_mis (by decide) rfl (lk_mis (by decide) rfl (lk_mis (by decide) rfl (lk_mis (by decide) rfl hl1)))) (lk_mis (by decide) rfl (lk_mis (by decide) rfl (lk_mis (by decide) rfl (lk_mis (by decide) rfl hl2)))) (lk_mis (by decide) rfl lk_hit) lk_hit hN
        · refine e_aload_n m_X1_call dX1_call_97 rfl hl0 rfl ?_
          refine e_bipush (v := nI 79) m_X1_call dX1_call_98 (by decide) ?_
          refine e_cvU (as := [.int (nI 79)]) hN m_X1_call dX1_call_100 c_RX1_106 (by decide) rfl rfl (gC_p G.1) rfl (Nat.le_of_ble_eq_true rfl) (Nat.le_of_ble_eq_true rfl) (by omega) (w_X1_leave G (by omega)) (fun v42 s42 hN => ?_)
          refine e_aload_n m_X1_call dX1_call_103 rfl hl0 rfl ?_
          refine e_iload_n m_X1_call dX1_call_104 rfl hl1 ?_
          refine e_ck hN (fun q43 hN => ?_)
          refine e_putf (v := .int (nI y1)) (h' := TC h0 a p N cnt ks (u_ih s42 y1)) m_X1_call dX1_call_105 f_RX1_119 (gC_p G.1) (Nat.le_of_ble_eq_true rfl) (fit_z rfl (b01 q43)) rfl (sC_p G.1) ?_
          refine e_aload_n m_X1_call dX1_call_108 rfl hl0 rfl ?_
          refine e_getf m_X1_call dX1_call_109 f_RX1_17 (gC_p G.1) rfl ?_
          refine e_bipush (v := nI 87) m_X1_call dX1_call_112 (by decide) ?_
          refine e_iload_n m_X1_call dX1_call_114 rfl hl2 ?_
          refine e_iload_n m_X1_call dX1_call_115 rfl hl3 ?_
          refine e_cvU (as := [.int (nI 87), .int (nI y2), .int (nI y3)]) hN m_X1_call dX1_call_116 c_RX1_69 (by decide) rfl rfl (gC_r G.1) rfl (Nat.le_of_ble_eq_true rfl) (Nat.le_of_ble_eq_true rfl) (by omega) (w_X3_put G (by omega)) (fun v44 s44 hN => ?_)
          exact e_ret0 m_X1_call dX1_call_119
    · refine e_aload_n m_X1_call dX1_call_97 rfl hl0 rfl ?_
      refine e_bipush (v := nI 79) m_X1_call dX1_call_98 (by decide) ?_
      refine e_cvU (as := [.int (nI 79)]) hN m_X1_call dX1_call_100 c_RX1_106 (by decide) rfl rfl (gC_p G.1) rfl (Nat.le_of_ble_eq_true rfl) (Nat.le_of_ble_eq_true rfl) (by omega) (w_X1_leave G (by omega)) (fun v45 s45 hN => ?_)
      refine e_aload_n m_X1_call dX1_call_103 rfl hl0 rfl ?_
      refine e_iload_n m_X1_call dX1_call_104 rfl hl1 ?_
      refine e_ck hN (fun q46 hN => ?_)
      refine e_putf (v := .int (nI y1)) (h' := TC h0 a p N cnt ks (u_ih s45 y1)) m_X1_call dX1_call_105 f_RX1_119 (gC_p G.1) (Nat.le_of_ble_eq_true rfl) (fit_z rfl (b01 q46)) rfl (sC_p G.1) ?_
      refine e_aload_n m_X1_call dX1_call_108 rfl hl0 rfl ?_
      refine e_getf m_X1_call dX1_call_109 f_RX1_17 (gC_p G.1) rfl ?_
      refine e_bipush (v := nI 87) m_X1_call dX1_call_112 (by decide) ?_
      refine e_iload_n m_X1_call dX1_call_114 rfl hl2 ?_
      refine e_iload_n m_X1_call dX1_call_115 rfl hl3 ?_
      refine e_cvU (as := [.int (nI 87), .int (nI y2), .int (nI y3)]) hN m_X1_call dX1_call_116 c_RX1_69 (by decide) rfl rfl (gC_r G.1) rfl (Nat.le_of_ble_eq_true rfl) (Nat.le_of_ble_eq_true rfl) (by omega) (w_X3_put G (by omega)) (fun v47 s47 hN => ?_)
      exact e_ret0 m_X1_call dX1_call_119
def b_X1_call (K : Nat → Nat) (N : Nat) (rc : Nat → Nat → Nat → Ss → Rs Ss) (s : Ss) : Rs Ss := bn (b_X1_enter K N 78 s) (fun v1 s1 => lp_X1_call_22 K N rc LF (s_ih s) v1 1 1 (u_ih s1 0))
theorem w_X1_call {xs : Nat → Int32} {L : Nat} {h0 : mm_H} {a p N cnt : Nat} {ks : Nat → Nat} (G : Cg h0 a p N cnt ks) {n : Nat} {rc : Nat → Nat → Nat → Ss → Rs Ss} (IH : Hr xs L h0 a p N cnt ks n rc) {s : Ss} {d : Nat} (hd : n + 17 ≤ d) (hN : b_X1_call (kA cnt ks) N rc s ≠ none) : Rn xs L d 95 [.ref p] (TC h0 a p N cnt ks s) (ou eU (TC h0 a p N cnt ks) (b_X1_call (kA cnt ks) N rc s)) := by
  unfold Rn
  unfold b_X1_call at hN ⊢
  refine e_aload_n m_X1_call dX1_call_0 rfl rfl rfl ?_
  refine e_getf m_X1_call dX1_call_1 f_RX1_119 (gC_p G.1) rfl ?_
  refine e_istore_n m_X1_call dX1_call_4 rfl (by decide) rfl ?_
  refine e_aload_n m_X1_call dX1_call_5 rfl rfl rfl ?_
  refine e_bipush (v := nI 78) m_X1_call dX1_call_6 (by decide) ?_
  refine e_cvN (as := [.int (nI 78)]) hN m_X1_call dX1_call_8 c_RX1_100 (by decide) rfl rfl (gC_p G.1) rfl (Nat.le_of_ble_eq_true rfl) (Nat.le_of_ble_eq_true rfl) (by omega) (w_X1_enter G (by omega)) (fun v1 s1 hN => ?_)
  refine e_istore_n m_X1_call dX1_call_11 rfl (by decide) rfl ?_
  refine e_aload_n m_X1_call dX1_call_12 rfl rfl rfl ?_
  refine e_iconst (v := nI 0) m_X1_call dX1_call_13 (by decide) ?_
  refine e_putf (v := .int (nI 0)) (h' := TC h0 a p N cnt ks (u_ih s1 0)) m_X1_call dX1_call_14 f_RX1_119 (gC_p G.1) (Nat.le_of_ble_eq_true rfl) (fit_z rfl (by decide)) rfl (sC_p G.1) ?_
  refine e_iconst (v := nI 1) m_X1_call dX1_call_17 (by decide) ?_
  refine e_istore_n m_X1_call dX1_call_18 rfl (by decide) rfl ?_
  refine e_iconst (v := nI 1) m_X1_call dX1_call_19 (by decide) ?_
  refine e_istore m_X1_call dX1_call_20 (by decide) rfl ?_
  exact l_X1_call_22 G IH LF (s_ih s) v1 1 1 _ _ _ (by omega) rfl rfl rfl rfl rfl hN

def b_X1_mapType (K : Nat → Nat) (N : Nat) (rc : Nat → Nat → Nat → Ss → Rs Ss) (s : Ss) : Rs Ss := bn (q_take s) (fun v1 s1 => bn (b_X1_enter K N 80 s1) (fun v2 s2 => bn (rc 26 0 0 s2) (fun v3 s3 => bn (b_X1_leave K N 81 s3) (fun v4 s4 => bn (rc 26 0 0 s4) (fun v5 s5 => bn (b_X3_put K N 22 v1 2 s5) (fun v6 s6 => okR 0 s6))))))
theorem w_X1_mapType {xs : Nat → Int32} {L : Nat} {h0 : mm_H} {a p N cnt : Nat} {ks : Nat → Nat} (G : Cg h0 a p N cnt ks) {n : Nat} {rc : Nat → Nat → Nat → Ss → Rs Ss} (IH : Hr xs L h0 a p N cnt ks n rc) {s : Ss} {d : Nat} (hd : n + 17 ≤ d) (hN : b_X1_mapType (kA cnt ks) N rc s ≠ none) : Rn xs L d 99 [.ref p] (TC h0 a p N cnt ks s) (ou eU (TC h0 a p N cnt ks) (b_X1_mapType (kA cnt ks) N rc s)) := by
  unfold Rn
  unfold b_X1_mapType at hN ⊢
  refine e_aload_n m_X1_mapType dX1_mapType_0 rfl rfl rfl ?_
  refine e_cvN (as := []) hN m_X1_mapType dX1_mapType_1 c_RX1_50 (by decide) rfl rfl (gC_p G.1) rfl (Nat.le_of_ble_eq_true rfl) (Nat.le_of_ble_eq_true rfl) (by omega) (t_take G (by omega)) (fun v1 s1 hN => ?_)
  refine e_istore_n m_X1_mapType dX1_mapType_4 rfl (by decide) rfl ?_
  refine e_aload_n m_X1_mapType dX1_mapType_5 rfl rfl rfl ?_
  refine e_bipush (v := nI 80) m_X1_mapType dX1_mapType_6 (by decide) ?_
  refine e_cvN (as := [.int (nI 80)]) hN m_X1_mapType dX1_mapType_8 c_RX1_100 (by decide) rfl rfl (gC_p G.1) rfl (Nat.le_of_ble_eq_true rfl) (Nat.le_of_ble_eq_true rfl) (by omega) (w_X1_enter G (by omega)) (fun v2 s2 hN => ?_)
  refine e_pop m_X1_mapType dX1_mapType_11 rfl ?_
  refine e_aload_n m_X1_mapType dX1_mapType_12 rfl rfl rfl ?_
  refine e_cvU (as := []) hN m_X1_mapType dX1_mapType_13 c_RX1_103 (by decide) rfl rfl (gC_p G.1) rfl (Nat.le_of_ble_eq_true rfl) (Nat.le_of_ble_eq_true rfl) (by omega) (i_X1_type IH (by omega)) (fun v3 s3 hN => ?_)
  refine e_aload_n m_X1_mapType dX1_mapType_16 rfl rfl rfl ?_
  refine e_bipush (v := nI 81) m_X1_mapType dX1_mapType_17 (by decide) ?_
  refine e_cvU (as := [.int (nI 81)]) hN m_X1_mapType dX1_mapType_19 c_RX1_106 (by decide) rfl rfl (gC_p G.1) rfl (Nat.le_of_ble_eq_true rfl) (Nat.le_of_ble_eq_true rfl) (by omega) (w_X1_leave G (by omega)) (fun v4 s4 hN => ?_)
  refine e_aload_n m_X1_mapType dX1_mapType_22 rfl rfl rfl ?_
  refine e_cvU (as := []) hN m_X1_mapType dX1_mapType_23 c_RX1_103 (by decide) rfl rfl (gC_p G.1) rfl (Nat.le_of_ble_eq_true rfl) (Nat.le_of_ble_eq_true rfl) (by omega) (i_X1_type IH (by omega)) (fun v5 s5 hN => ?_)
  refine e_aload_n m_X1_mapType dX1_mapType_26 rfl rfl rfl ?_
  refine e_getf m_X1_mapType dX1_mapType_27 f_RX1_17 (gC_p G.1) rfl ?_
  refine e_bipush (v := nI 22) m_X1_mapType dX1_mapType_30 (by decide) ?_
  refine e_iload_n m_X1_mapType dX1_mapType_32 rfl rfl ?_
  refine e_iconst (v := nI 2) m_X1_mapType dX1_mapType_33 (by decide) ?_
  refine e_cvU (as := [.int (nI 22), .int (nI v1), .int (nI 2)]) hN m_X1_mapType dX1_mapType_34 c_RX1_69 (by decide) rfl rfl (gC_r G.1) rfl (Nat.le_of_ble_eq_true rfl) (Nat.le_of_ble_eq_true rfl) (by omega) (w_X3_put G (by omega)) (fun v6 s6 hN => ?_)
  exact e_ret0 m_X1_mapType dX1_mapType_37

def b_X1_chanType (K : Nat → Nat) (N : Nat) (rc : Nat → Nat → Nat → Ss → Rs Ss) (s : Ss) : Rs Ss := bn (q_take s) (fun v1 s1 => bn (b_X1_accept K N 64 s1) (fun v2 s2 => ifz v2 (bn (rc 26 0 0 s2) (fun v4 s4 => bn (b_X3_put K N 23 v1 1 s4) (fun v5 s5 => okR 0 s5))) (bn (rc 26 0 0 s2) (fun v6 s6 => bn (b_X3_put K N 24 v1 1 s6) (fun v7 s7 => okR 0 s7)))))
theorem w_X1_chanType {xs : Nat → Int32} {L : Nat} {h0 : mm_H} {a p N cnt : Nat} {ks : Nat → Nat} (G : Cg h0 a p N cnt ks) {n : Nat} {rc : Nat → Nat → Nat → Ss → Rs Ss} (IH : Hr xs L h0 a p N cnt ks n rc) {s : Ss} {d : Nat} (hd : n + 17 ≤ d) (hN : b_X1_chanType (kA cnt ks) N rc s ≠ none) : Rn xs L d 100 [.ref p] (TC h0 a p N cnt ks s) (ou eU (TC h0 a p N cnt ks) (b_X1_chanType (kA cnt ks) N rc s)) := by
  unfold Rn
  unfold b_X1_chanType at hN ⊢
  refine e_aload_n m_X1_chanType dX1_chanType_0 rfl rfl rfl ?_
  refine e_cvN (as := []) hN m_X1_chanType dX1_chanType_1 c_RX1_50 (by decide) rfl rfl (gC_p G.1) rfl (Nat.le_of_ble_eq_true rfl) (Nat.le_of_ble_eq_true rfl) (by omega) (t_take G (by omega)) (fun v1 s1 hN => ?_)
  refine e_istore_n m_X1_chanType dX1_chanType_4 rfl (by decide) rfl ?_
  refine e_aload_n m_X1_chanType dX1_chanType_5 rfl rfl rfl ?_
  refine e_bipush (v := nI 64) m_X1_chanType dX1_chanType_6 (by decide) ?_
  refine e_cvN (as := [.int (nI 64)]) hN m_X1_chanType dX1_chanType_8 c_RX1_123 (by decide) rfl rfl (gC_p G.1) rfl (Nat.le_of_ble_eq_true rfl) (Nat.le_of_ble_eq_true rfl) (by omega) (w_X1_accept G (by omega)) (fun v2 s2 hN => ?_)
  refine e_ifeq (t := 19) hN m_X1_chanType dX1_chanType_11 (by decide) (fun q3 hN => ?_) (fun q3 hN => ?_)
  · refine e_bipush (v := nI 23) m_X1_chanType dX1_chanType_19 (by decide) ?_
    refine e_istore_n m_X1_chanType dX1_chanType_21 rfl (by decide) rfl ?_
    refine e_aload_n m_X1_chanType dX1_chanType_22 rfl rfl rfl ?_
    refine e_cvU (as := []) hN m_X1_chanType dX1_chanType_23 c_RX1_103 (by decide) rfl rfl (gC_p G.1) rfl (Nat.le_of_ble_eq_true rfl) (Nat.le_of_ble_eq_true rfl) (by omega) (i_X1_type IH (by omega)) (fun v4 s4 hN => ?_)
    refine e_aload_n m_X1_chanType dX1_chanType_26 rfl rfl rfl ?_
    refine e_getf m_X1_chanType dX1_chanType_27 f_RX1_17 (gC_p G.1) rfl ?_
    refine e_iload_n m_X1_chanType dX1_chanType_30 rfl rfl ?_
    refine e_iload_n m_X1_chanType dX1_chanType_31 rfl rfl ?_
    refine e_iconst (v := nI 1) m_X1_chanType dX1_chanType_32 (by decide) ?_
    refine e_cvU (as := [.int (nI 23), .int (nI v1), .int (nI 1)]) hN m_X1_chanType dX1_chanType_33 c_RX1_69 (by decide) rfl rfl (gC_r G.1) rfl (Nat.le_of_ble_eq_true rfl) (Nat.le_of_ble_eq_true rfl) (by omega) (w_X3_put G (by omega)) (fun v5 s5 hN => ?_)
    exact e_ret0 m_X1_chanType dX1_chanType_36
  · refine e_bipush (v := nI 24) m_X1_chanType dX1_chanType_14 (by decide) ?_
    refine e_goto (t := 21) m_X1_chanType dX1_chanType_16 (by decide) ?_
    refine e_istore_n m_X1_chanType dX1_chanType_21 rfl (by decide) rfl ?_
    refine e_aload_n m_X1_chanType dX1_chanType_22 rfl rfl rfl ?_
    refine e_cvU (as := []) hN m_X1_chanType dX1_chanType_23 c_RX1_103 (by decide) rfl rfl (gC_p G.1) rfl (Nat.le_of_ble_eq_true rfl) (Nat.le_of_ble_eq_true rfl) (by omega) (i_X1_type IH (by omega)) (fun v6 s6 hN => ?_)
    refine e_aload_n m_X1_chanType dX1_chanType_26 rfl rfl rfl ?_
    refine e_getf m_X1_chanType dX1_chanType_27 f_RX1_17 (gC_p G.1) rfl ?_
    refine e_iload_n m_X1_chanType dX1_chanType_30 rfl rfl ?_
    refine e_iload_n m_X1_chanType dX1_chanType_31 rfl rfl ?_
    refine e_iconst (v := nI 1) m_X1_chanType dX1_chanType_32 (by decide) ?_
    refine e_cvU (as := [.int (nI 24), .int (nI v1), .int (nI 1)]) hN m_X1_chanType dX1_chanType_33 c_RX1_69 (by decide) rfl rfl (gC_r G.1) rfl (Nat.le_of_ble_eq_true rfl) (Nat.le_of_ble_eq_true rfl) (by omega) (w_X3_put G (by omega)) (fun v7 s7 hN => ?_)
    exact e_ret0 m_X1_chanType dX1_chanType_36

def b_X1_receiveChanType (K : Nat → Nat) (N : Nat) (rc : Nat → Nat → Nat → Ss → Rs Ss) (s : Ss) : Rs Ss := bn (q_take s) (fun v1 s1 => bn (b_X1_expect K N 12 s1) (fun v2 s2 => bn (rc 26 0 0 s2) (fun v3 s3 => bn (b_X3_put K N 25 v1 1 s3) (fun v4 s4 => okR 0 s4))))
theorem w_X1_receiveChanType {xs : Nat → Int32} {L : Nat} {h0 : mm_H} {a p N cnt : Nat} {ks : Nat → Nat} (G : Cg h0 a p N cnt ks) {n : Nat} {rc : Nat → Nat → Nat → Ss → Rs Ss} (IH : Hr xs L h0 a p N cnt ks n rc) {s : Ss} {d : Nat} (hd : n + 17 ≤ d) (hN : b_X1_receiveChanType (kA cnt ks) N rc s ≠ none) : Rn xs L d 101 [.ref p] (TC h0 a p N cnt ks s) (ou eU (TC h0 a p N cnt ks) (b_X1_receiveChanType (kA cnt ks) N rc s)) := by
  unfold Rn
  unfold b_X1_receiveChanType at hN ⊢
  refine e_aload_n m_X1_receiveChanType dX1_receiveChanType_0 rfl rfl rfl ?_
  refine e_cvN (as := []) hN m_X1_receiveChanType dX1_receiveChanType_1 c_RX1_50 (by decide) rfl rfl (gC_p G.1) rfl (Nat.le_of_ble_eq_true rfl) (Nat.le_of_ble_eq_true rfl) (by omega) (t_take G (by omega)) (fun v1 s1 hN => ?_)
  refine e_istore_n m_X1_receiveChanType dX1_receiveChanType_4 rfl (by decide) rfl ?_
  refine e_aload_n m_X1_receiveChanType dX1_receiveChanType_5 rfl rfl rfl ?_
  refine e_bipush (v := nI 12) m_X1_receiveChanType dX1_receiveChanType_6 (by decide) ?_
  refine e_cvN (as := [.int (nI 12)]) hN m_X1_receiveChanType dX1_receiveChanType_8 c_RX1_63 (by decide) rfl rfl (gC_p G.1) rfl (Nat.le_of_ble_eq_true rfl) (Nat.le_of_ble_eq_true rfl) (by omega) (w_X1_expect G (by omega)) (fun v2 s2 hN => ?_)
  refine e_pop m_X1_receiveChanType dX1_receiveChanType_11 rfl ?_
  refine e_aload_n m_X1_receiveChanType dX1_receiveChanType_12 rfl rfl rfl ?_
  refine e_cvU (as := []) hN m_X1_receiveChanType dX1_receiveChanType_13 c_RX1_103 (by decide) rfl rfl (gC_p G.1) rfl (Nat.le_of_ble_eq_true rfl) (Nat.le_of_ble_eq_true rfl) (by omega) (i_X1_type IH (by omega)) (fun v3 s3 hN => ?_)
  refine e_aload_n m_X1_receiveChanType dX1_receiveChanType_16 rfl rfl rfl ?_
  refine e_getf m_X1_receiveChanType dX1_receiveChanType_17 f_RX1_17 (gC_p G.1) rfl ?_
  refine e_bipush (v := nI 25) m_X1_receiveChanType dX1_receiveChanType_20 (by decide) ?_
  refine e_iload_n m_X1_receiveChanType dX1_receiveChanType_22 rfl rfl ?_
  refine e_iconst (v := nI 1) m_X1_receiveChanType dX1_receiveChanType_23 (by decide) ?_
  refine e_cvU (as := [.int (nI 25), .int (nI v1), .int (nI 1)]) hN m_X1_receiveChanType dX1_receiveChanType_24 c_RX1_69 (by decide) rfl rfl (gC_r G.1) rfl (Nat.le_of_ble_eq_true rfl) (Nat.le_of_ble_eq_true rfl) (by omega) (w_X3_put G (by omega)) (fun v4 s4 hN => ?_)
  exact e_ret0 m_X1_receiveChanType dX1_receiveChanType_27

def b_X1_pointerType (K : Nat → Nat) (N : Nat) (rc : Nat → Nat → Nat → Ss → Rs Ss) (s : Ss) : Rs Ss := bn (q_take s) (fun v1 s1 => bn (rc 26 0 0 s1) (fun v2 s2 => bn (b_X3_put K N 26 v1 1 s2) (fun v3 s3 => okR 0 s3)))
theorem w_X1_pointerType {xs : Nat → Int32} {L : Nat} {h0 : mm_H} {a p N cnt : Nat} {ks : Nat → Nat} (G : Cg h0 a p N cnt ks) {n : Nat} {rc : Nat → Nat → Nat → Ss → Rs Ss} (IH : Hr xs L h0 a p N cnt ks n rc) {s : Ss} {d : Nat} (hd : n + 17 ≤ d) (hN : b_X1_pointerType (kA cnt ks) N rc s ≠ none) : Rn xs L d 102 [.ref p] (TC h0 a p N cnt ks s) (ou eU (TC h0 a p N cnt ks) (b_X1_pointerType (kA cnt ks) N rc s)) := by
  unfold Rn
  unfold b_X1_pointerType at hN ⊢
  refine e_aload_n m_X1_pointerType dX1_pointerType_0 rfl rfl rfl ?_
  refine e_cvN (as := []) hN m_X1_pointerType dX1_pointerType_1 c_RX1_50 (by decide) rfl rfl (gC_p G.1) rfl (Nat.le_of_ble_eq_true rfl) (Nat.le_of_ble_eq_true rfl) (by omega) (t_take G (by omega)) (fun v1 s1 hN => ?_)
  refine e_istore_n m_X1_pointerType dX1_pointerType_4 rfl (by decide) rfl ?_
  refine e_aload_n m_X1_pointerType dX1_pointerType_5 rfl rfl rfl ?_
  refine e_cvU (as := []) hN m_X1_pointerType dX1_pointerType_6 c_RX1_103 (by decide) rfl rfl (gC_p G.1) rfl (Nat.le_of_ble_eq_true rfl) (Nat.le_of_ble_eq_true rfl) (by omega) (i_X1_type IH (by omega)) (fun v2 s2 hN => ?_)
  refine e_aload_n m_X1_pointerType dX1_pointerType_9 rfl rfl rfl ?_
  refine e_getf m_X1_pointerType dX1_pointerType_10 f_RX1_17 (gC_p G.1) rfl ?_
  refine e_bipush (v := nI 26) m_X1_pointerType dX1_pointerType_13 (by decide) ?_
  refine e_iload_n m_X1_pointerType dX1_pointerType_15 rfl rfl ?_
  refine e_iconst (v := nI 1) m_X1_pointerType dX1_pointerType_16 (by decide) ?_
  refine e_cvU (as := [.int (nI 26), .int (nI v1), .int (nI 1)]) hN m_X1_pointerType dX1_pointerType_17 c_RX1_69 (by decide) rfl rfl (gC_r G.1) rfl (Nat.le_of_ble_eq_true rfl) (Nat.le_of_ble_eq_true rfl) (by omega) (w_X3_put G (by omega)) (fun v3 s3 hN => ?_)
  exact e_ret0 m_X1_pointerType dX1_pointerType_20

def lp_X1_structType_16 (K : Nat → Nat) (N : Nat) (rc : Nat → Nat → Nat → Ss → Rs Ss) : Nat → Nat → Nat → Nat → Ss → Rs Ss
  | 0, _, _, _, _ => none
  | f + 1, y1, y2, y3, s => ifl y2 16385 (ifz y3 (bn (b_X1_leave K N 83 s) (fun v19 s19 => bn (b_X3_put K N 27 y1 y2 s19) (fun v20 s20 => okR 0 s20))) (bn (q_sees K 1 s) (fun v21 s21 => ifz v21 (bn (b_X1_leave K N 83 s21) (fun v23 s23 => bn (b_X3_put K N 27 y1 y2 s23) (fun v24 s24 => okR 0 s24))) (bn (rc 54 0 0 s21) (fun v25 s25 => bn (rc 26 0 0 s25) (fun v26 s26 => bn (b_X3_put K N 28 (s_at s21) 2 s26) (fun v27 s27 => bn (b_X1_accept K N 85 s27) (fun v28 s28 => lp_X1_structType_16 K N rc f y1 (y2 + 1) v28 s28)))))))) (bn (b_X1_leave K N 83 s) (fun v29 s29 => bn (b_X3_put K N 27 y1 y2 s29) (fun v30 s30 => okR 0 s30)))
theorem l_X1_structType_16 {xs : Nat → Int32} {L : Nat} {h0 : mm_H} {a p N cnt : Nat} {ks : Nat → Nat} (G : Cg h0 a p N cnt ks) {n : Nat} {rc : Nat → Nat → Nat → Ss → Rs Ss} (IH : Hr xs L h0 a p N cnt ks n rc) : ∀ (f : Nat) (y1 y2 y3 : Nat) (s : Ss) (d : Nat) (ls : mm_L) (hd : n + 17 ≤ d) (hl0 : mm_lk ls 0 = some (.ref p)) (hl1 : mm_lk ls 1 = some (.int (nI y1))) (hl2 : mm_lk ls 2 = some (.int (nI y2))) (hl3 : mm_lk ls 3 = some (.int (nI y3))), lp_X1_structType_16 (kA cnt ks) N rc f y1 y2 y3 s ≠ none → Ev xs L d 103 16 ls [] (TC h0 a p N cnt ks s) 0 0 (ou eU (TC h0 a p N cnt ks) (lp_X1_structType_16 (kA cnt ks) N rc f y1 y2 y3 s)) := by
  intro f
  induction f with
  | zero => intros; rename_i hN; exact absurd rfl hN
  | succ f ih =>
    intro y1 y2 y3 s d ls hd hl0 hl1 hl2 hl3 hN
    rw [lp_X1_structType_16] at hN ⊢
    refine e_iload_n m_X1_structType dX1_structType_16 rfl hl2 ?_
    refine e_sipush (v := nI 16385) m_X1_structType dX1_structType_17 (by decide) ?_
    refine e_ige (t := 74) (a := y2) (b := 16385) hN m_X1_structType dX1_structType_20 (by decide) (fun q17 hN => ?_) (fun q17 hN => ?_)
    · refine e_iload_n m_X1_structType dX1_structType_23 rfl hl3 ?_
      refine e_ifeq (t := 74) hN m_X1_structType dX1_structType_24 (by decide) (fun q18 hN => ?_) (fun q18 hN => ?_)
      · refine e_aload_n m_X1_structType dX1_structType_74 rfl hl0 rfl ?_
        refine e_bipush (v := nI 83) m_X1_structType dX1_structType_75 (by decide) ?_
        refine e_cvU (as := [.int (nI 83)]) hN m_X1_structType dX1_structType_77 c_RX1_106 (by decide) rfl rfl (gC_p G.1) rfl (Nat.le_of_ble_eq_true rfl) (Nat.le_of_ble_eq_true rfl) (by omega) (w_X1_leave G (by omega)) (fun v19 s19 hN => ?_)
        refine e_aload_n m_X1_structType dX1_structType_80 rfl hl0 rfl ?_
        refine e_getf m_X1_structType dX1_structType_81 f_RX1_17 (gC_p G.1) rfl ?_
        refine e_bipush (v := nI 27) m_X1_structType dX1_structType_84 (by decide) ?_
        refine e_iload_n m_X1_structType dX1_structType_86 rfl hl1 ?_
        refine e_iload_n m_X1_structType dX1_structType_87 rfl hl2 ?_
        refine e_cvU (as := [.int (nI 27), .int (nI y1), .int (nI y2)]) hN m_X1_structType dX1_structType_88 c_RX1_69 (by decide) rfl rfl (gC_r G.1) rfl (Nat.le_of_ble_eq_true rfl) (Nat.le_of_ble_eq_true rfl) (by omega) (w_X3_put G (by omega)) (fun v20 s20 hN => ?_)
        exact e_ret0 m_X1_structType dX1_structType_91
      · refine e_aload_n m_X1_structType dX1_structType_27 rfl hl0 rfl ?_
        refine e_iconst (v := nI 1) m_X1_structType dX1_structType_28 (by decide) ?_
        refine e_cvN (as := [.int (nI 1)]) hN m_X1_structType dX1_structType_29 c_RX1_46 (by decide) rfl rfl (gC_p G.1) rfl (Nat.le_of_ble_eq_true rfl) (Nat.le_of_ble_eq_true rfl) (by omega) (t_sees G (by omega)) (fun v21 s21 hN => ?_)
        refine e_ifeq (t := 74) hN m_X1_structType dX1_structType_32 (by decide) (fun q22 hN => ?_) (fun q22 hN => ?_)
        · refine e_aload_n m_X1_structType dX1_structType_74 rfl hl0 rfl ?_
          refine e_bipush (v := nI 83) m_X1_structType dX1_structType_75 (by decide) ?_
          refine e_cvU (as := [.int (nI 83)]) hN m_X1_structType dX1_structType_77 c_RX1_106 (by decide) rfl rfl (gC_p G.1) rfl (Nat.le_of_ble_eq_true rfl) (Nat.le_of_ble_eq_true rfl) (by omega) (w_X1_leave G (by omega)) (fun v23 s23 hN => ?_)
          refine e_aload_n m_X1_structType dX1_structType_80 rfl hl0 rfl ?_
          refine e_getf m_X1_structType dX1_structType_81 f_RX1_17 (gC_p G.1) rfl ?_
          refine e_bipush (v := nI 27) m_X1_structType dX1_structType_84 (by decide) ?_
          refine e_iload_n m_X1_structType dX1_structType_86 rfl hl1 ?_
          refine e_iload_n m_X1_structType dX1_structType_87 rfl hl2 ?_
          refine e_cvU (as := [.int (nI 27), .int (nI y1), .int (nI y2)]) hN m_X1_structType dX1_structType_88 c_RX1_69 (by decide) rfl rfl (gC_r G.1) rfl (Nat.le_of_ble_eq_true rfl) (Nat.le_of_ble_eq_true rfl) (by omega) (w_X3_put G (by omega)) (fun v24 s24 hN => ?_)
          exact e_ret0 m_X1_structType dX1_structType_91
        · refine e_aload_n m_X1_structType dX1_structType_35 rfl hl0 rfl ?_
          refine e_getf m_X1_structType dX1_structType_36 f_RX1_43 (gC_p G.1) rfl ?_
          refine e_istore m_X1_structType dX1_structType_39 (by decide) rfl ?_
          refine e_aload_n m_X1_structType dX1_structType_41 rfl (lk_mis (by decide) rfl hl0) rfl ?_
          refine e_cvU (as := []) hN m_X1_structType dX1_structType_42 c_RX1_135 (by decide) rfl rfl (gC_p G.1) rfl (Nat.le_of_ble_eq_true rfl) (Nat.le_of_ble_eq_true rfl) (by omega) (i_X1_names IH (by omega)) (fun v25 s25 hN => ?_)
          refine e_aload_n m_X1_structType dX1_structType_45 rfl (lk_mis (by decide) rfl hl0) rfl ?_
          refine e_cvU (as := []) hN m_X1_structType dX1_structType_46 c_RX1_103 (by decide) rfl rfl (gC_p G.1) rfl (Nat.le_of_ble_eq_true rfl) (Nat.le_of_ble_eq_true rfl) (by omega) (i_X1_type IH (by omega)) (fun v26 s26 hN => ?_)
          refine e_aload_n m_X1_structType dX1_structType_49 rfl (lk_mis (by decide) rfl hl0) rfl ?_
          refine e_getf m_X1_structType dX1_structType_50 f_RX1_17 (gC_p G.1) rfl ?_
          refine e_bipush (v := nI 28) m_X1_structType dX1_structType_53 (by decide) ?_
          refine e_iload m_X1_structType dX1_structType_55 lk_hit ?_
          refine e_iconst (v := nI 2) m_X1_structType dX1_structType_57 (by decide) ?_
          refine e_cvU (as := [.int (nI 28), .int (nI (s_at s21)), .int (nI 2)]) hN m_X1_structType dX1_structType_58 c_RX1_69 (by decide) rfl rfl (gC_r G.1) rfl (Nat.le_of_ble_eq_true rfl) (Nat.le_of_ble_eq_true rfl) (by omega) (w_X3_put G (by omega)) (fun v27 s27 hN => ?_)
          refine e_iincN (n := 1) m_X1_structType dX1_structType_61 (by decide) (lk_mis (by decide) rfl hl2) rfl ?_
          refine e_aload_n m_X1_structType dX1_structType_64 rfl (lk_mis (by decide) rfl (lk_mis (by decide) rfl hl0)) rfl ?_
          refine e_bipush (v := nI 85) m_X1_structType dX1_structType_65 (by decide) ?_
          refine e_cvN (as := [.int (nI 85)]) hN m_X1_structType dX1_structType_67 c_RX1_123 (by decide) rfl rfl (gC_p G.1) rfl (Nat.le_of_ble_eq_true rfl) (Nat.le_of_ble_eq_true rfl) (by omega) (w_X1_accept G (by omega)) (fun v28 s28 hN => ?_)
          refine e_istore_n m_X1_structType dX1_structType_70 rfl (by decide) rfl ?_
          refine e_goto (t := 16) m_X1_structType dX1_structType_71 (by decide) ?_
          exact ih y1 (y2 + 1) v28 _ _ _ (by omega) (lk_mis (by decide) rfl (lk_mis (by decide) rfl (lk_mis (by decide) rfl hl0))) (lk_mis (by decide) rfl (lk_mis (by decide) rfl (lk_mis (by decide) rfl hl1))) (lk_mis (by decide) rfl lk_hit) lk_hit hN
    · refine e_aload_n m_X1_structType dX1_structType_74 rfl hl0 rfl ?_
      refine e_bipush (v := nI 83) m_X1_structType dX1_structType_75 (by decide) ?_
      refine e_cvU (as := [.int (nI 83)]) hN m_X1_structType dX1_structType_77 c_RX1_106 (by decide) rfl rfl (gC_p G.1) rfl (Nat.le_of_ble_eq_true rfl) (Nat.le_of_ble_eq_true rfl) (by omega) (w_X1_leave G (by omega)) (fun v29 s29 hN => ?_)
      refine e_aload_n m_X1_structType dX1_structType_80 rfl hl0 rfl ?_
      refine e_getf m_X1_structType dX1_structType_81 f_RX1_17 (gC_p G.1) rfl ?_
      refine e_bipush (v := nI 27) m_X1_structType dX1_structType_84 (by decide) ?_
      refine e_iload_n m_X1_structType dX1_structType_86 rfl hl1 ?_
      refine e_iload_n m_X1_structType dX1_structType_87 rfl hl2 ?_
      refine e_cvU (as := [.int (nI 27), .int (nI y1), .int (nI y2)]) hN m_X1_structType dX1_structType_88 c_RX1_69 (by decide) rfl rfl (gC_r G.1) rfl (Nat.le_of_ble_eq_true rfl) (Nat.le_of_ble_eq_true rfl) (by omega) (w_X3_put G (by omega)) (fun v30 s30 hN => ?_)
      exact e_ret0 m_X1_structType dX1_structType_91
def b_X1_structType (K : Nat → Nat) (N : Nat) (rc : Nat → Nat → Nat → Ss → Rs Ss) (s : Ss) : Rs Ss := bn (q_take s) (fun v1 s1 => bn (b_X1_enter K N 82 s1) (fun v2 s2 => lp_X1_structType_16 K N rc LF v1 0 1 s2))
theorem w_X1_structType {xs : Nat → Int32} {L : Nat} {h0 : mm_H} {a p N cnt : Nat} {ks : Nat → Nat} (G : Cg h0 a p N cnt ks) {n : Nat} {rc : Nat → Nat → Nat → Ss → Rs Ss} (IH : Hr xs L h0 a p N cnt ks n rc) {s : Ss} {d : Nat} (hd : n + 17 ≤ d) (hN : b_X1_structType (kA cnt ks) N rc s ≠ none) : Rn xs L d 103 [.ref p] (TC h0 a p N cnt ks s) (ou eU (TC h0 a p N cnt ks) (b_X1_structType (kA cnt ks) N rc s)) := by
  unfold Rn
  unfold b_X1_structType at hN ⊢
  refine e_aload_n m_X1_structType dX1_structType_0 rfl rfl rfl ?_
  refine e_cvN (as := []) hN m_X1_structType dX1_structType_1 c_RX1_50 (by decide) rfl rfl (gC_p G.1) rfl (Nat.le_of_ble_eq_true rfl) (Nat.le_of_ble_eq_true rfl) (by omega) (t_take G (by omega)) (fun v1 s1 hN => ?_)
  refine e_istore_n m_X1_structType dX1_structType_4 rfl (by decide) rfl ?_
  refine e_aload_n m_X1_structType dX1_structType_5 rfl rfl rfl ?_
  refine e_bipush (v := nI 82) m_X1_structType dX1_structType_6 (by decide) ?_
  refine e_cvN (as := [.int (nI 82)]) hN m_X1_structType dX1_structType_8 c_RX1_100 (by decide) rfl rfl (gC_p G.1) rfl (Nat.le_of_ble_eq_true rfl) (Nat.le_of_ble_eq_true rfl) (by omega) (w_X1_enter G (by omega)) (fun v2 s2 hN => ?_)
  refine e_pop m_X1_structType dX1_structType_11 rfl ?_
  refine e_iconst (v := nI 0) m_X1_structType dX1_structType_12 (by decide) ?_
  refine e_istore_n m_X1_structType dX1_structType_13 rfl (by decide) rfl ?_
  refine e_iconst (v := nI 1) m_X1_structType dX1_structType_14 (by decide) ?_
  refine e_istore_n m_X1_structType dX1_structType_15 rfl (by decide) rfl ?_
  exact l_X1_structType_16 G IH LF v1 0 1 _ _ _ (by omega) rfl rfl rfl rfl hN

def b_X1_functionType (K : Nat → Nat) (N : Nat) (rc : Nat → Nat → Nat → Ss → Rs Ss) (s : Ss) : Rs Ss := bn (q_take s) (fun v1 s1 => bn (rc 44 0 0 s1) (fun v2 s2 => bn (b_X3_put K N 29 v1 1 s2) (fun v3 s3 => okR 0 s3)))
theorem w_X1_functionType {xs : Nat → Int32} {L : Nat} {h0 : mm_H} {a p N cnt : Nat} {ks : Nat → Nat} (G : Cg h0 a p N cnt ks) {n : Nat} {rc : Nat → Nat → Nat → Ss → Rs Ss} (IH : Hr xs L h0 a p N cnt ks n rc) {s : Ss} {d : Nat} (hd : n + 17 ≤ d) (hN : b_X1_functionType (kA cnt ks) N rc s ≠ none) : Rn xs L d 104 [.ref p] (TC h0 a p N cnt ks s) (ou eU (TC h0 a p N cnt ks) (b_X1_functionType (kA cnt ks) N rc s)) := by
  unfold Rn
  unfold b_X1_functionType at hN ⊢
  refine e_aload_n m_X1_functionType dX1_functionType_0 rfl rfl rfl ?_
  refine e_cvN (as := []) hN m_X1_functionType dX1_functionType_1 c_RX1_50 (by decide) rfl rfl (gC_p G.1) rfl (Nat.le_of_ble_eq_true rfl) (Nat.le_of_ble_eq_true rfl) (by omega) (t_take G (by omega)) (fun v1 s1 hN => ?_)
  refine e_istore_n m_X1_functionType dX1_functionType_4 rfl (by decide) rfl ?_
  refine e_aload_n m_X1_functionType dX1_functionType_5 rfl rfl rfl ?_
  refine e_cvU (as := []) hN m_X1_functionType dX1_functionType_6 c_RX1_94 (by decide) rfl rfl (gC_p G.1) rfl (Nat.le_of_ble_eq_true rfl) (Nat.le_of_ble_eq_true rfl) (by omega) (i_X1_signature IH (by omega)) (fun v2 s2 hN => ?_)
  refine e_aload_n m_X1_functionType dX1_functionType_9 rfl rfl rfl ?_
  refine e_getf m_X1_functionType dX1_functionType_10 f_RX1_17 (gC_p G.1) rfl ?_
  refine e_bipush (v := nI 29) m_X1_functionType dX1_functionType_13 (by decide) ?_
  refine e_iload_n m_X1_functionType dX1_functionType_15 rfl rfl ?_
  refine e_iconst (v := nI 1) m_X1_functionType dX1_functionType_16 (by decide) ?_
  refine e_cvU (as := [.int (nI 29), .int (nI v1), .int (nI 1)]) hN m_X1_functionType dX1_functionType_17 c_RX1_69 (by decide) rfl rfl (gC_r G.1) rfl (Nat.le_of_ble_eq_true rfl) (Nat.le_of_ble_eq_true rfl) (by omega) (w_X3_put G (by omega)) (fun v3 s3 hN => ?_)
  exact e_ret0 m_X1_functionType dX1_functionType_20

def lp_X1_interfaceType_16 (K : Nat → Nat) (N : Nat) (rc : Nat → Nat → Nat → Ss → Rs Ss) : Nat → Nat → Nat → Nat → Ss → Rs Ss
  | 0, _, _, _, _ => none
  | f + 1, y1, y2, y3, s => ifl y2 16385 (ifz y3 (bn (b_X1_leave K N 83 s) (fun v19 s19 => bn (b_X3_put K N 30 y1 y2 s19) (fun v20 s20 => okR 0 s20))) (bn (q_sees K 1 s) (fun v21 s21 => ifz v21 (bn (b_X1_leave K N 83 s21) (fun v23 s23 => bn (b_X3_put K N 30 y1 y2 s23) (fun v24 s24 => okR 0 s24))) (bn (b_X1_name K N  s21) (fun v25 s25 => bn (rc 44 0 0 s25) (fun v26 s26 => bn (b_X3_put K N 31 (s_at s21) 2 s26) (fun v27 s27 => bn (b_X1_accept K N 85 s27) (fun v28 s28 => lp_X1_interfaceType_16 K N rc f y1 (y2 + 1) v28 s28)))))))) (bn (b_X1_leave K N 83 s) (fun v29 s29 => bn (b_X3_put K N 30 y1 y2 s29) (fun v30 s30 => okR 0 s30)))
theorem l_X1_interfaceType_16 {xs : Nat → Int32} {L : Nat} {h0 : mm_H} {a p N cnt : Nat} {ks : Nat → Nat} (G : Cg h0 a p N cnt ks) {n : Nat} {rc : Nat → Nat → Nat → Ss → Rs Ss} (IH : Hr xs L h0 a p N cnt ks n rc) : ∀ (f : Nat) (y1 y2 y3 : Nat) (s : Ss) (d : Nat) (ls : mm_L) (hd : n + 17 ≤ d) (hl0 : mm_lk ls 0 = some (.ref p)) (hl1 : mm_lk ls 1 = some (.int (nI y1))) (hl2 : mm_lk ls 2 = some (.int (nI y2))) (hl3 : mm_lk ls 3 = some (.int (nI y3))), lp_X1_interfaceType_16 (kA cnt ks) N rc f y1 y2 y3 s ≠ none → Ev xs L d 105 16 ls [] (TC h0 a p N cnt ks s) 0 0 (ou eU (TC h0 a p N cnt ks) (lp_X1_interfaceType_16 (kA cnt ks) N rc f y1 y2 y3 s)) := by
  intro f
  induction f with
  | zero => intros; rename_i hN; exact absurd rfl hN
  | succ f ih =>
    intro y1 y2 y3 s d ls hd hl0 hl1 hl2 hl3 hN
    rw [lp_X1_interfaceType_16] at hN ⊢
    refine e_iload_n m_X1_interfaceType dX1_interfaceType_16 rfl hl2 ?_
    refine e_sipush (v := nI 16385) m_X1_interfaceType dX1_interfaceType_17 (by decide) ?_
    refine e_ige (t := 74) (a := y2) (b := 16385) hN m_X1_interfaceType dX1_interfaceType_20 (by decide) (fun q17 hN => ?_) (fun q17 hN => ?_)
    · refine e_iload_n m_X1_interfaceType dX1_interfaceType_23 rfl hl3 ?_
      refine e_ifeq (t := 74) hN m_X1_interfaceType dX1_interfaceType_24 (by decide) (fun q18 hN => ?_) (fun q18 hN => ?_)
      · refine e_aload_n m_X1_interfaceType dX1_interfaceType_74 rfl hl0 rfl ?_
        refine e_bipush (v := nI 83) m_X1_interfaceType dX1_interfaceType_75 (by decide) ?_
        refine e_cvU (as := [.int (nI 83)]) hN m_X1_interfaceType dX1_interfaceType_77 c_RX1_106 (by decide) rfl rfl (gC_p G.1) rfl (Nat.le_of_ble_eq_true rfl) (Nat.le_of_ble_eq_true rfl) (by omega) (w_X1_leave G (by omega)) (fun v19 s19 hN => ?_)
        refine e_aload_n m_X1_interfaceType dX1_interfaceType_80 rfl hl0 rfl ?_
        refine e_getf m_X1_interfaceType dX1_interfaceType_81 f_RX1_17 (gC_p G.1) rfl ?_
        refine e_bipush (v := nI 30) m_X1_interfaceType dX1_interfaceType_84 (by decide) ?_
        refine e_iload_n m_X1_interfaceType dX1_interfaceType_86 rfl hl1 ?_
        refine e_iload_n m_X1_interfaceType dX1_interfaceType_87 rfl hl2 ?_
        refine e_cvU (as := [.int (nI 30), .int (nI y1), .int (nI y2)]) hN m_X1_interfaceType dX1_interfaceType_88 c_RX1_69 (by decide) rfl rfl (gC_r G.1) rfl (Nat.le_of_ble_eq_true rfl) (Nat.le_of_ble_eq_true rfl) (by omega) (w_X3_put G (by omega)) (fun v20 s20 hN => ?_)
        exact e_ret0 m_X1_interfaceType dX1_interfaceType_91
      · refine e_aload_n m_X1_interfaceType dX1_interfaceType_27 rfl hl0 rfl ?_
        refine e_iconst (v := nI 1) m_X1_interfaceType dX1_interfaceType_28 (by decide) ?_
        refine e_cvN (as := [.int (nI 1)]) hN m_X1_interfaceType dX1_interfaceType_29 c_RX1_46 (by decide) rfl rfl (gC_p G.1) rfl (Nat.le_of_ble_eq_true rfl) (Nat.le_of_ble_eq_true rfl) (by omega) (t_sees G (by omega)) (fun v21 s21 hN => ?_)
        refine e_ifeq (t := 74) hN m_X1_interfaceType dX1_interfaceType_32 (by decide) (fun q22 hN => ?_) (fun q22 hN => ?_)
        · refine e_aload_n m_X1_interfaceType dX1_interfaceType_74 rfl hl0 rfl ?_
          refine e_bipush (v := nI 83) m_X1_interfaceType dX1_interfaceType_75 (by decide) ?_
          refine e_cvU (as := [.int (nI 83)]) hN m_X1_interfaceType dX1_interfaceType_77 c_RX1_106 (by decide) rfl rfl (gC_p G.1) rfl (Nat.le_of_ble_eq_true rfl) (Nat.le_of_ble_eq_true rfl) (by omega) (w_X1_leave G (by omega)) (fun v23 s23 hN => ?_)
          refine e_aload_n m_X1_interfaceType dX1_interfaceType_80 rfl hl0 rfl ?_
          refine e_getf m_X1_interfaceType dX1_interfaceType_81 f_RX1_17 (gC_p G.1) rfl ?_
          refine e_bipush (v := nI 30) m_X1_interfaceType dX1_interfaceType_84 (by decide) ?_
          refine e_iload_n m_X1_interfaceType dX1_interfaceType_86 rfl hl1 ?_
          refine e_iload_n m_X1_interfaceType dX1_interfaceType_87 rfl hl2 ?_
          refine e_cvU (as := [.int (nI 30), .int (nI y1), .int (nI y2)]) hN m_X1_interfaceType dX1_interfaceType_88 c_RX1_69 (by decide) rfl rfl (gC_r G.1) rfl (Nat.le_of_ble_eq_true rfl) (Nat.le_of_ble_eq_true rfl) (by omega) (w_X3_put G (by omega)) (fun v24 s24 hN => ?_)
          exact e_ret0 m_X1_interfaceType dX1_interfaceType_91
        · refine e_aload_n m_X1_interfaceType dX1_interfaceType_35 rfl hl0 rfl ?_
          refine e_getf m_X1_interfaceType dX1_interfaceType_36 f_RX1_43 (gC_p G.1) rfl ?_
          refine e_istore m_X1_interfaceType dX1_interfaceType_39 (by decide) rfl ?_
          refine e_aload_n m_X1_interfaceType dX1_interfaceType_41 rfl (lk_mis (by decide) rfl hl0) rfl ?_
          refine e_cvU (as := []) hN m_X1_interfaceType dX1_interfaceType_42 c_RX1_79 (by decide) rfl rfl (gC_p G.1) rfl (Nat.le_of_ble_eq_true rfl) (Nat.le_of_ble_eq_true rfl) (by omega) (w_X1_name G (by omega)) (fun v25 s25 hN => ?_)
          refine e_aload_n m_X1_interfaceType dX1_interfaceType_45 rfl (lk_mis (by decide) rfl hl0) rfl ?_
          refine e_cvU (as := []) hN m_X1_interfaceType dX1_interfaceType_46 c_RX1_94 (by decide) rfl rfl (gC_p G.1) rfl (Nat.le_of_ble_eq_true rfl) (Nat.le_of_ble_eq_true rfl) (by omega) (i_X1_signature IH (by omega)) (fun v26 s26 hN => ?_)
          refine e_aload_n m_X1_interfaceType dX1_interfaceType_49 rfl (lk_mis (by decide) rfl hl0) rfl ?_
          refine e_getf m_X1_interfaceType dX1_interfaceType_50 f_RX1_17 (gC_p G.1) rfl ?_
          refine e_bipush (v := nI 31) m_X1_interfaceType dX1_interfaceType_53 (by decide) ?_
          refine e_iload m_X1_interfaceType dX1_interfaceType_55 lk_hit ?_
          refine e_iconst (v := nI 2) m_X1_interfaceType dX1_interfaceType_57 (by decide) ?_
          refine e_cvU (as := [.int (nI 31), .int (nI (s_at s21)), .int (nI 2)]) hN m_X1_interfaceType dX1_interfaceType_58 c_RX1_69 (by decide) rfl rfl (gC_r G.1) rfl (Nat.le_of_ble_eq_true rfl) (Nat.le_of_ble_eq_true rfl) (by omega) (w_X3_put G (by omega)) (fun v27 s27 hN => ?_)
          refine e_iincN (n := 1) m_X1_interfaceType dX1_interfaceType_61 (by decide) (lk_mis (by decide) rfl hl2) rfl ?_
          refine e_aload_n m_X1_interfaceType dX1_interfaceType_64 rfl (lk_mis (by decide) rfl (lk_mis (by decide) rfl hl0)) rfl ?_
          refine e_bipush (v := nI 85) m_X1_interfaceType dX1_interfaceType_65 (by decide) ?_
          refine e_cvN (as := [.int (nI 85)]) hN m_X1_interfaceType dX1_interfaceType_67 c_RX1_123 (by decide) rfl rfl (gC_p G.1) rfl (Nat.le_of_ble_eq_true rfl) (Nat.le_of_ble_eq_true rfl) (by omega) (w_X1_accept G (by omega)) (fun v28 s28 hN => ?_)
          refine e_istore_n m_X1_interfaceType dX1_interfaceType_70 rfl (by decide) rfl ?_
          refine e_goto (t := 16) m_X1_interfaceType dX1_interfaceType_71 (by decide) ?_
          exact ih y1 (y2 + 1) v28 _ _ _ (by omega) (lk_mis (by decide) rfl (lk_mis (by decide) rfl (lk_mis (by decide) rfl hl0))) (lk_mis (by decide) rfl (lk_mis (by decide) rfl (lk_mis (by decide) rfl hl1))) (lk_mis (by decide) rfl lk_hit) lk_hit hN
    · refine e_aload_n m_X1_interfaceType dX1_interfaceType_74 rfl hl0 rfl ?_
      refine e_bipush (v := nI 83) m_X1_interfaceType dX1_interfaceType_75 (by decide) ?_
      refine e_cvU (as := [.int (nI 83)]) hN m_X1_interfaceType dX1_interfaceType_77 c_RX1_106 (by decide) rfl rfl (gC_p G.1) rfl (Nat.le_of_ble_eq_true rfl) (Nat.le_of_ble_eq_true rfl) (by omega) (w_X1_leave G (by omega)) (fun v29 s29 hN => ?_)
      refine e_aload_n m_X1_interfaceType dX1_interfaceType_80 rfl hl0 rfl ?_
      refine e_getf m_X1_interfaceType dX1_interfaceType_81 f_RX1_17 (gC_p G.1) rfl ?_
      refine e_bipush (v := nI 30) m_X1_interfaceType dX1_interfaceType_84 (by decide) ?_
      refine e_iload_n m_X1_interfaceType dX1_interfaceType_86 rfl hl1 ?_
      refine e_iload_n m_X1_interfaceType dX1_interfaceType_87 rfl hl2 ?_
      refine e_cvU (as := [.int (nI 30), .int (nI y1), .int (nI y2)]) hN m_X1_interfaceType dX1_interfaceType_88 c_RX1_69 (by decide) rfl rfl (gC_r G.1) rfl (Nat.le_of_ble_eq_true rfl) (Nat.le_of_ble_eq_true rfl) (by omega) (w_X3_put G (by omega)) (fun v30 s30 hN => ?_)
      exact e_ret0 m_X1_interfaceType dX1_interfaceType_91
def b_X1_interfaceType (K : Nat → Nat) (N : Nat) (rc : Nat → Nat → Nat → Ss → Rs Ss) (s : Ss) : Rs Ss := bn (q_take s) (fun v1 s1 => bn (b_X1_enter K N 82 s1) (fun v2 s2 => lp_X1_interfaceType_16 K N rc LF v1 0 1 s2))
theorem w_X1_interfaceType {xs : Nat → Int32} {L : Nat} {h0 : mm_H} {a p N cnt : Nat} {ks : Nat → Nat} (G : Cg h0 a p N cnt ks) {n : Nat} {rc : Nat → Nat → Nat → Ss → Rs Ss} (IH : Hr xs L h0 a p N cnt ks n rc) {s : Ss} {d : Nat} (hd : n + 17 ≤ d) (hN : b_X1_interfaceType (kA cnt ks) N rc s ≠ none) : Rn xs L d 105 [.ref p] (TC h0 a p N cnt ks s) (ou eU (TC h0 a p N cnt ks) (b_X1_interfaceType (kA cnt ks) N rc s)) := by
  unfold Rn
  unfold b_X1_interfaceType at hN ⊢
  refine e_aload_n m_X1_interfaceType dX1_interfaceType_0 rfl rfl rfl ?_
  refine e_cvN (as := []) hN m_X1_interfaceType dX1_interfaceType_1 c_RX1_50 (by decide) rfl rfl (gC_p G.1) rfl (Nat.le_of_ble_eq_true rfl) (Nat.le_of_ble_eq_true rfl) (by omega) (t_take G (by omega)) (fun v1 s1 hN => ?_)
  refine e_istore_n m_X1_interfaceType dX1_interfaceType_4 rfl (by decide) rfl ?_
  refine e_aload_n m_X1_interfaceType dX1_interfaceType_5 rfl rfl rfl ?_
  refine e_bipush (v := nI 82) m_X1_interfaceType dX1_interfaceType_6 (by decide) ?_
  refine e_cvN (as := [.int (nI 82)]) hN m_X1_interfaceType dX1_interfaceType_8 c_RX1_100 (by decide) rfl rfl (gC_p G.1) rfl (Nat.le_of_ble_eq_true rfl) (Nat.le_of_ble_eq_true rfl) (by omega) (w_X1_enter G (by omega)) (fun v2 s2 hN => ?_)
  refine e_pop m_X1_interfaceType dX1_interfaceType_11 rfl ?_
  refine e_iconst (v := nI 0) m_X1_interfaceType dX1_interfaceType_12 (by decide) ?_
  refine e_istore_n m_X1_interfaceType dX1_interfaceType_13 rfl (by decide) rfl ?_
  refine e_iconst (v := nI 1) m_X1_interfaceType dX1_interfaceType_14 (by decide) ?_
  refine e_istore_n m_X1_interfaceType dX1_interfaceType_15 rfl (by decide) rfl ?_
  exact l_X1_interfaceType_16 G IH LF v1 0 1 _ _ _ (by omega) rfl rfl rfl rfl hN

