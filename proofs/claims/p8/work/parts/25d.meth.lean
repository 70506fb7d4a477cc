/-! The methods of the parser. -/
def b_X1_ifStmt (K : Nat → Nat) (N : Nat) (rc : Nat → Nat → Nat → Ss → Rs Ss) (s : Ss) : Rs Ss := bn (q_take s) (fun v1 s1 => bn (rc 61 1 61 (u_ih s1 1)) (fun v2 s2 => ife v2 1 (bn (rc 29 0 0 s2) (fun v4 s4 => ck ((s_ih s1) < 2) (bn (rc 47 0 0 (u_ih s4 (s_ih s1))) (fun v6 s6 => bn (q_sees K 17 s6) (fun v7 s7 => ifz v7 (bn (b_X3_put K N 60 v1 3 s7) (fun v9 s9 => okR 0 s9)) (bn (rc 69 0 0 s7) (fun v10 s10 => bn (b_X3_put K N 60 v1 4 s10) (fun v11 s11 => okR 0 s11)))))))) (ck ((s_ih s1) < 2) (bn (rc 47 0 0 (u_ih s2 (s_ih s1))) (fun v13 s13 => bn (q_sees K 17 s13) (fun v14 s14 => ifz v14 (bn (b_X3_put K N 60 v1 2 s14) (fun v16 s16 => okR 0 s16)) (bn (rc 69 0 0 s14) (fun v17 s17 => bn (b_X3_put K N 60 v1 3 s17) (fun v18 s18 => okR 0 s18)))))))))
theorem w_X1_ifStmt {xs : Nat → Int32} {L : Nat} {h0 : mm_H} {a p N cnt : Nat} {ks : Nat → Nat} (G : Cg h0 a p N cnt ks) {n : Nat} {rc : Nat → Nat → Nat → Ss → Rs Ss} (IH : Hr xs L h0 a p N cnt ks n rc) {s : Ss} {d : Nat} (hd : n + 17 ≤ d) (hN : b_X1_ifStmt (kA cnt ks) N rc s ≠ none) : Rn xs L d 60 [.ref p] (TC h0 a p N cnt ks s) (ou eU (TC h0 a p N cnt ks) (b_X1_ifStmt (kA cnt ks) N rc s)) := by
  unfold Rn
  unfold b_X1_ifStmt at hN ⊢
  refine e_aload_n m_X1_ifStmt dX1_ifStmt_0 rfl rfl rfl ?_
  refine e_cvN (as := []) hN m_X1_ifStmt dX1_ifStmt_1 c_RX1_50 (by decide) rfl rfl (gC_p G.1) rfl (Nat.le_of_ble_eq_true rfl) (Nat.le_of_ble_eq_true rfl) (by omega) (t_take G (by omega)) (fun v1 s1 hN => ?_)
  refine e_istore_n m_X1_ifStmt dX1_ifStmt_4 rfl (by decide) rfl ?_
  refine e_aload_n m_X1_ifStmt dX1_ifStmt_5 rfl rfl rfl ?_
  refine e_getf m_X1_ifStmt dX1_ifStmt_6 f_RX1_119 (gC_p G.1) rfl ?_
  refine e_istore_n m_X1_ifStmt dX1_ifStmt_9 rfl (by decide) rfl ?_
  refine e_aload_n m_X1_ifStmt dX1_ifStmt_10 rfl rfl rfl ?_
  refine e_iconst (v := nI 1) m_X1_ifStmt dX1_ifStmt_11 (by decide) ?_
  refine e_putf (v := .int (nI 1)) (h' := TC h0 a p N cnt ks (u_ih s1 1)) m_X1_ifStmt dX1_ifStmt_12 f_RX1_119 (gC_p G.1) (Nat.le_of_ble_eq_true rfl) (fit_z rfl (by decide)) rfl (sC_p G.1) ?_
  refine e_iconst (v := nI 2) m_X1_ifStmt dX1_ifStmt_15 (by decide) ?_
  refine e_istore_n m_X1_ifStmt dX1_ifStmt_16 rfl (by decide) rfl ?_
  refine e_aload_n m_X1_ifStmt dX1_ifStmt_17 rfl rfl rfl ?_
  refine e_iconst (v := nI 1) m_X1_ifStmt dX1_ifStmt_18 (by decide) ?_
  refine e_bipush (v := nI 61) m_X1_ifStmt dX1_ifStmt_19 (by decide) ?_
  refine e_cvN (as := [.int (nI 1), .int (nI 61)]) hN m_X1_ifStmt dX1_ifStmt_21 c_RX1_253 (by decide) rfl rfl (gC_p G.1) rfl (Nat.le_of_ble_eq_true rfl) (Nat.le_of_ble_eq_true rfl) (by omega) (i_X1_opening IH (by omega)) (fun v2 s2 hN => ?_)
  refine e_iconst (v := nI 1) m_X1_ifStmt dX1_ifStmt_24 (by decide) ?_
  refine e_ine (t := 36) (a := v2) (b := 1) hN m_X1_ifStmt dX1_ifStmt_25 (by decide) (fun q3 hN => ?_) (fun q3 hN => ?_)
  · refine e_aload_n m_X1_ifStmt dX1_ifStmt_28 rfl rfl rfl ?_
    refine e_iconst (v := nI 0) m_X1_ifStmt dX1_ifStmt_29 (by decide) ?_
    refine e_cvU (as := [.int (nI 0)]) hN m_X1_ifStmt dX1_ifStmt_30 c_RX1_181 (by decide) rfl rfl (gC_p G.1) rfl (Nat.le_of_ble_eq_true rfl) (Nat.le_of_ble_eq_true rfl) (by omega) (i_X1_expr IH (by omega)) (fun v4 s4 hN => ?_)
    refine e_iincN (n := 1) m_X1_ifStmt dX1_ifStmt_33 (by decide) rfl rfl ?_
    refine e_aload_n m_X1_ifStmt dX1_ifStmt_36 rfl rfl rfl ?_
    refine e_iload_n m_X1_ifStmt dX1_ifStmt_37 rfl rfl ?_
    refine e_ck hN (fun q5 hN => ?_)
    refine e_putf (v := .int (nI (s_ih s1))) (h' := TC h0 a p N cnt ks (u_ih s4 (s_ih s1))) m_X1_ifStmt dX1_ifStmt_38 f_RX1_119 (gC_p G.1) (Nat.le_of_ble_eq_true rfl) (fit_z rfl (b01 q5)) rfl (sC_p G.1) ?_
    refine e_aload_n m_X1_ifStmt dX1_ifStmt_41 rfl rfl rfl ?_
    refine e_cvU (as := []) hN m_X1_ifStmt dX1_ifStmt_42 c_RX1_97 (by decide) rfl rfl (gC_p G.1) rfl (Nat.le_of_ble_eq_true rfl) (Nat.le_of_ble_eq_true rfl) (by omega) (i_X1_block IH (by omega)) (fun v6 s6 hN => ?_)
    refine e_aload_n m_X1_ifStmt dX1_ifStmt_45 rfl rfl rfl ?_
    refine e_bipush (v := nI 17) m_X1_ifStmt dX1_ifStmt_46 (by decide) ?_
    refine e_cvN (as := [.int (nI 17)]) hN m_X1_ifStmt dX1_ifStmt_48 c_RX1_46 (by decide) rfl rfl (gC_p G.1) rfl (Nat.le_of_ble_eq_true rfl) (Nat.le_of_ble_eq_true rfl) (by omega) (t_sees G (by omega)) (fun v7 s7 hN => ?_)
    refine e_ifeq (t := 61) hN m_X1_ifStmt dX1_ifStmt_51 (by decide) (fun q8 hN => ?_) (fun q8 hN => ?_)
    · refine e_aload_n m_X1_ifStmt dX1_ifStmt_61 rfl rfl rfl ?_
      refine e_getf m_X1_ifStmt dX1_ifStmt_62 f_RX1_17 (gC_p G.1) rfl ?_
      refine e_bipush (v := nI 60) m_X1_ifStmt dX1_ifStmt_65 (by decide) ?_
      refine e_iload_n m_X1_ifStmt dX1_ifStmt_67 rfl rfl ?_
      refine e_iload_n m_X1_ifStmt dX1_ifStmt_68 rfl rfl ?_
      refine e_cvU (as := [.int (nI 60), .int (nI v1), .int (nI 3)]) hN m_X1_ifStmt dX1_ifStmt_69 c_RX1_69 (by decide) rfl rfl (gC_r G.1) rfl (Nat.le_of_ble_eq_true rfl) (Nat.le_of_ble_eq_true rfl) (by omega) (w_X3_put G (by omega)) (fun v9 s9 hN => ?_)
      exact e_ret0 m_X1_ifStmt dX1_ifStmt_72
    · refine e_aload_n m_X1_ifStmt dX1_ifStmt_54 rfl rfl rfl ?_
      refine e_cvU (as := []) hN m_X1_ifStmt dX1_ifStmt_55 c_RX1_256 (by decide) rfl rfl (gC_p G.1) rfl (Nat.le_of_ble_eq_true rfl) (Nat.le_of_ble_eq_true rfl) (by omega) (i_X1_elseBranch IH (by omega)) (fun v10 s10 hN => ?_)
      refine e_iincN (n := 1) m_X1_ifStmt dX1_ifStmt_58 (by decide) rfl rfl ?_
      refine e_aload_n m_X1_ifStmt dX1_ifStmt_61 rfl rfl rfl ?_
      refine e_getf m_X1_ifStmt dX1_ifStmt_62 f_RX1_17 (gC_p G.1) rfl ?_
      refine e_bipush (v := nI 60) m_X1_ifStmt dX1_ifStmt_65 (by decide) ?_
      refine e_iload_n m_X1_ifStmt dX1_ifStmt_67 rfl rfl ?_
      refine e_iload_n m_X1_ifStmt dX1_ifStmt_68 rfl rfl ?_
      refine e_cvU (as := [.int (nI 60), .int (nI v1), .int (nI 4)]) hN m_X1_ifStmt dX1_ifStmt_69 c_RX1_69 (by decide) rfl rfl (gC_r G.1) rfl (Nat.le_of_ble_eq_true rfl) (Nat.le_of_ble_eq_true rfl) (by omega) (w_X3_put G (by omega)) (fun v11 s11 hN => ?_)
      exact e_ret0 m_X1_ifStmt dX1_ifStmt_72
  · refine e_aload_n m_X1_ifStmt dX1_ifStmt_36 rfl rfl rfl ?_
    refine e_iload_n m_X1_ifStmt dX1_ifStmt_37 rfl rfl ?_
    refine e_ck hN (fun q12 hN => ?_)
    refine e_putf (v := .int (nI (s_ih s1))) (h' := TC h0 a p N cnt ks (u_ih s2 (s_ih s1))) m_X1_ifStmt dX1_ifStmt_38 f_RX1_119 (gC_p G.1) (Nat.le_of_ble_eq_true rfl) (fit_z rfl (b01 q12)) rfl (sC_p G.1) ?_
    refine e_aload_n m_X1_ifStmt dX1_ifStmt_41 rfl rfl rfl ?_
    refine e_cvU (as := []) hN m_X1_ifStmt dX1_ifStmt_42 c_RX1_97 (by decide) rfl rfl (gC_p G.1) rfl (Nat.le_of_ble_eq_true rfl) (Nat.le_of_ble_eq_true rfl) (by omega) (i_X1_block IH (by omega)) (fun v13 s13 hN => ?_)
    refine e_aload_n m_X1_ifStmt dX1_ifStmt_45 rfl rfl rfl ?_
    refine e_bipush (v := nI 17) m_X1_ifStmt dX1_ifStmt_46 (by decide) ?_
    refine e_cvN (as := [.int (nI 17)]) hN m_X1_ifStmt dX1_ifStmt_48 c_RX1_46 (by decide) rfl rfl (gC_p G.1) rfl (Nat.le_of_ble_eq_true rfl) (Nat.le_of_ble_eq_true rfl) (by omega) (t_sees G (by omega)) (fun v14 s14 hN => ?_)
    refine e_ifeq (t := 61) hN m_X1_ifStmt dX1_ifStmt_51 (by decide) (fun q15 hN => ?_) (fun q15 hN => ?_)
    · refine e_aload_n m_X1_ifStmt dX1_ifStmt_61 rfl rfl rfl ?_
      refine e_getf m_X1_ifStmt dX1_ifStmt_62 f_RX1_17 (gC_p G.1) rfl ?_
      refine e_bipush (v := nI 60) m_X1_ifStmt dX1_ifStmt_65 (by decide) ?_
      refine e_iload_n m_X1_ifStmt dX1_ifStmt_67 rfl rfl ?_
      refine e_iload_n m_X1_ifStmt dX1_ifStmt_68 rfl rfl ?_
      refine e_cvU (as := [.int (nI 60), .int (nI v1), .int (nI 2)]) hN m_X1_ifStmt dX1_ifStmt_69 c_RX1_69 (by decide) rfl rfl (gC_r G.1) rfl (Nat.le_of_ble_eq_true rfl) (Nat.le_of_ble_eq_true rfl) (by omega) (w_X3_put G (by omega)) (fun v16 s16 hN => ?_)
      exact e_ret0 m_X1_ifStmt dX1_ifStmt_72
    · refine e_aload_n m_X1_ifStmt dX1_ifStmt_54 rfl rfl rfl ?_
      refine e_cvU (as := []) hN m_X1_ifStmt dX1_ifStmt_55 c_RX1_256 (by decide) rfl rfl (gC_p G.1) rfl (Nat.le_of_ble_eq_true rfl) (Nat.le_of_ble_eq_true rfl) (by omega) (i_X1_elseBranch IH (by omega)) (fun v17 s17 hN => ?_)
      refine e_iincN (n := 1) m_X1_ifStmt dX1_ifStmt_58 (by decide) rfl rfl ?_
      refine e_aload_n m_X1_ifStmt dX1_ifStmt_61 rfl rfl rfl ?_
      refine e_getf m_X1_ifStmt dX1_ifStmt_62 f_RX1_17 (gC_p G.1) rfl ?_
      refine e_bipush (v := nI 60) m_X1_ifStmt dX1_ifStmt_65 (by decide) ?_
      refine e_iload_n m_X1_ifStmt dX1_ifStmt_67 rfl rfl ?_
      refine e_iload_n m_X1_ifStmt dX1_ifStmt_68 rfl rfl ?_
      refine e_cvU (as := [.int (nI 60), .int (nI v1), .int (nI 3)]) hN m_X1_ifStmt dX1_ifStmt_69 c_RX1_69 (by decide) rfl rfl (gC_r G.1) rfl (Nat.le_of_ble_eq_true rfl) (Nat.le_of_ble_eq_true rfl) (by omega) (w_X3_put G (by omega)) (fun v18 s18 hN => ?_)
      exact e_ret0 m_X1_ifStmt dX1_ifStmt_72

def b_X1_opening (K : Nat → Nat) (N : Nat) (rc : Nat → Nat → Nat → Ss → Rs Ss) (x1 : Nat) (x2 : Nat) (s : Ss) : Rs Ss := bn (q_sees K 85 s) (fun v1 s1 => ifz v1 (bn (rc 62 x1 0 s1) (fun v3 s3 => ifz v3 (bn (q_sees K 85 s3) (fun v5 s5 => ifz v5 (ife v3 1 (bn (b_X1_expect K N 85 s5) (fun v8 s8 => bn (b_X3_put K N x2 v8 1 s8) (fun v9 s9 => okR 1 s9))) (okR v3 s5)) (bn (b_X3_put K N 50 (s_at s1) 1 s5) (fun v10 s10 => bn (b_X1_expect K N 85 s10) (fun v11 s11 => bn (b_X3_put K N x2 v11 1 s11) (fun v12 s12 => okR 1 s12)))))) (ife v3 1 (bn (b_X1_expect K N 85 s3) (fun v14 s14 => bn (b_X3_put K N x2 v14 1 s14) (fun v15 s15 => okR 1 s15))) (okR v3 s3)))) (bn (b_X1_expect K N 85 s1) (fun v16 s16 => bn (b_X3_put K N x2 v16 0 s16) (fun v17 s17 => okR 1 s17))))
theorem w_X1_opening {xs : Nat → Int32} {L : Nat} {h0 : mm_H} {a p N cnt : Nat} {ks : Nat → Nat} (G : Cg h0 a p N cnt ks) {n : Nat} {rc : Nat → Nat → Nat → Ss → Rs Ss} (IH : Hr xs L h0 a p N cnt ks n rc) {x1 : Nat} {x2 : Nat} {s : Ss} {d : Nat} (hd : n + 17 ≤ d) (hN : b_X1_opening (kA cnt ks) N rc x1 x2 s ≠ none) : Rn xs L d 61 [.ref p, .int (nI x1), .int (nI x2)] (TC h0 a p N cnt ks s) (ou eN (TC h0 a p N cnt ks) (b_X1_opening (kA cnt ks) N rc x1 x2 s)) := by
  unfold Rn
  unfold b_X1_opening at hN ⊢
  refine e_iconst (v := nI 0) m_X1_opening dX1_opening_0 (by decide) ?_
  refine e_istore_n m_X1_opening dX1_opening_1 rfl (by decide) rfl ?_
  refine e_aload_n m_X1_opening dX1_opening_2 rfl rfl rfl ?_
  refine e_bipush (v := nI 85) m_X1_opening dX1_opening_3 (by decide) ?_
  refine e_cvN (as := [.int (nI 85)]) hN m_X1_opening dX1_opening_5 c_RX1_46 (by decide) rfl rfl (gC_p G.1) rfl (Nat.le_of_ble_eq_true rfl) (Nat.le_of_ble_eq_true rfl) (by omega) (t_sees G (by omega)) (fun v1 s1 hN => ?_)
  refine e_ifne (t := 77) hN m_X1_opening dX1_opening_8 (by decide) (fun q2 hN => ?_) (fun q2 hN => ?_)
  · refine e_aload_n m_X1_opening dX1_opening_11 rfl rfl rfl ?_
    refine e_getf m_X1_opening dX1_opening_12 f_RX1_43 (gC_p G.1) rfl ?_
    refine e_istore m_X1_opening dX1_opening_15 (by decide) rfl ?_
    refine e_aload_n m_X1_opening dX1_opening_17 rfl rfl rfl ?_
    refine e_iload_n m_X1_opening dX1_opening_18 rfl rfl ?_
    refine e_cvN (as := [.int (nI x1)]) hN m_X1_opening dX1_opening_19 c_RX1_228 (by decide) rfl rfl (gC_p G.1) rfl (Nat.le_of_ble_eq_true rfl) (Nat.le_of_ble_eq_true rfl) (by omega) (i_X1_simple IH (by omega)) (fun v3 s3 hN => ?_)
    refine e_istore m_X1_opening dX1_opening_22 (by decide) rfl ?_
    refine e_iload m_X1_opening dX1_opening_24 rfl ?_
    refine e_ifne (t := 33) hN m_X1_opening dX1_opening_26 (by decide) (fun q4 hN => ?_) (fun q4 hN => ?_)
    · refine e_iconst (v := nI 1) m_X1_opening dX1_opening_29 (by decide) ?_
      refine e_goto (t := 34) m_X1_opening dX1_opening_30 (by decide) ?_
      refine e_istore m_X1_opening dX1_opening_34 (by decide) rfl ?_
      refine e_iload m_X1_opening dX1_opening_36 rfl ?_
      refine e_ifF (t := 65) m_X1_opening dX1_opening_38 (by decide) (by decide) ?_
      refine e_aload_n m_X1_opening dX1_opening_41 rfl rfl rfl ?_
      refine e_bipush (v := nI 85) m_X1_opening dX1_opening_42 (by decide) ?_
      refine e_cvN (as := [.int (nI 85)]) hN m_X1_opening dX1_opening_44 c_RX1_46 (by decide) rfl rfl (gC_p G.1) rfl (Nat.le_of_ble_eq_true rfl) (Nat.le_of_ble_eq_true rfl) (by omega) (t_sees G (by omega)) (fun v5 s5 hN => ?_)
      refine e_ifeq (t := 65) hN m_X1_opening dX1_opening_47 (by decide) (fun q6 hN => ?_) (fun q6 hN => ?_)
      · refine e_iload m_X1_opening dX1_opening_65 rfl ?_
        refine e_iconst (v := nI 1) m_X1_opening dX1_opening_67 (by decide) ?_
        refine e_ieq (t := 74) (a := v3) (b := 1) hN m_X1_opening dX1_opening_68 (by decide) (fun q7 hN => ?_) (fun q7 hN => ?_)
        · refine e_iincN (n := 1) m_X1_opening dX1_opening_74 (by decide) rfl rfl ?_
          refine e_aload_n m_X1_opening dX1_opening_77 rfl rfl rfl ?_
          refine e_getf m_X1_opening dX1_opening_78 f_RX1_17 (gC_p G.1) rfl ?_
          refine e_iload_n m_X1_opening dX1_opening_81 rfl rfl ?_
          refine e_aload_n m_X1_opening dX1_opening_82 rfl rfl rfl ?_
          refine e_bipush (v := nI 85) m_X1_opening dX1_opening_83 (by decide) ?_
          refine e_cvN (as := [.int (nI 85)]) hN m_X1_opening dX1_opening_85 c_RX1_63 (by decide) rfl rfl (gC_p G.1) rfl (Nat.le_of_ble_eq_true rfl) (Nat.le_of_ble_eq_true rfl) (by omega) (w_X1_expect G (by omega)) (fun v8 s8 hN => ?_)
          refine e_iload_n m_X1_opening dX1_opening_88 rfl rfl ?_
          refine e_cvU (as := [.int (nI x2), .int (nI v8), .int (nI 1)]) hN m_X1_opening dX1_opening_89 c_RX1_69 (by decide) rfl rfl (gC_r G.1) rfl (Nat.le_of_ble_eq_true rfl) (Nat.le_of_ble_eq_true rfl) (by omega) (w_X3_put G (by omega)) (fun v9 s9 hN => ?_)
          refine e_iconst (v := nI 1) m_X1_opening dX1_opening_92 (by decide) ?_
          exact e_reti m_X1_opening dX1_opening_93 (Or.inl rfl)
        · refine e_iload m_X1_opening dX1_opening_71 rfl ?_
          exact e_reti m_X1_opening dX1_opening_73 (Or.inl rfl)
      · refine e_aload_n m_X1_opening dX1_opening_50 rfl rfl rfl ?_
        refine e_getf m_X1_opening dX1_opening_51 f_RX1_17 (gC_p G.1) rfl ?_
        refine e_bipush (v := nI 50) m_X1_opening dX1_opening_54 (by decide) ?_
        refine e_iload m_X1_opening dX1_opening_56 rfl ?_
        refine e_iconst (v := nI 1) m_X1_opening dX1_opening_58 (by decide) ?_
        refine e_cvU (as := [.int (nI 50), .int (nI (s_at s1)), .int (nI 1)]) hN m_X1_opening dX1_opening_59 c_RX1_69 (by decide) rfl rfl (gC_r G.1) rfl (Nat.le_of_ble_eq_true rfl) (Nat.le_of_ble_eq_true rfl) (by omega) (w_X3_put G (by omega)) (fun v10 s10 hN => ?_)
        refine e_goto (t := 74) m_X1_opening dX1_opening_62 (by decide) ?_
        refine e_iincN (n := 1) m_X1_opening dX1_opening_74 (by decide) rfl rfl ?_
        refine e_aload_n m_X1_opening dX1_opening_77 rfl rfl rfl ?_
        refine e_getf m_X1_opening dX1_opening_78 f_RX1_17 (gC_p G.1) rfl ?_
        refine e_iload_n m_X1_opening dX1_opening_81 rfl rfl ?_
        refine e_aload_n m_X1_opening dX1_opening_82 rfl rfl rfl ?_
        refine e_bipush (v := nI 85) m_X1_opening dX1_opening_83 (by decide) ?_
        refine e_cvN (as := [.int (nI 85)]) hN m_X1_opening dX1_opening_85 c_RX1_63 (by decide) rfl rfl (gC_p G.1) rfl (Nat.le_of_ble_eq_true rfl) (Nat.le_of_ble_eq_true rfl) (by omega) (w_X1_expect G (by omega)) (fun v11 s11 hN => ?_)
        refine e_iload_n m_X1_opening dX1_opening_88 rfl rfl ?_
        refine e_cvU (as := [.int (nI x2), .int (nI v11), .int (nI 1)]) hN m_X1_opening dX1_opening_89 c_RX1_69 (by decide) rfl rfl (gC_r G.1) rfl (Nat.le_of_ble_eq_true rfl) (Nat.le_of_ble_eq_true rfl) (by omega) (w_X3_put G (by omega)) (fun v12 s12 hN => ?_)
        refine e_iconst (v := nI 1) m_X1_opening dX1_opening_92 (by decide) ?_
        exact e_reti m_X1_opening dX1_opening_93 (Or.inl rfl)
    · refine e_iconst (v := nI 0) m_X1_opening dX1_opening_33 (by decide) ?_
      refine e_istore m_X1_opening dX1_opening_34 (by decide) rfl ?_
      refine e_iload m_X1_opening dX1_opening_36 rfl ?_
      refine e_ifT (t := 65) m_X1_opening dX1_opening_38 (by decide) (by decide) ?_
      refine e_iload m_X1_opening dX1_opening_65 rfl ?_
      refine e_iconst (v := nI 1) m_X1_opening dX1_opening_67 (by decide) ?_
      refine e_ieq (t := 74) (a := v3) (b := 1) hN m_X1_opening dX1_opening_68 (by decide) (fun q13 hN => ?_) (fun q13 hN => ?_)
      · refine e_iincN (n := 1) m_X1_opening dX1_opening_74 (by decide) rfl rfl ?_
        refine e_aload_n m_X1_opening dX1_opening_77 rfl rfl rfl ?_
        refine e_getf m_X1_opening dX1_opening_78 f_RX1_17 (gC_p G.1) rfl ?_
        refine e_iload_n m_X1_opening dX1_opening_81 rfl rfl ?_
        refine e_aload_n m_X1_opening dX1_opening_82 rfl rfl rfl ?_
        refine e_bipush (v := nI 85) m_X1_opening dX1_opening_83 (by decide) ?_
        refine e_cvN (as := [.int (nI 85)]) hN m_X1_opening dX1_opening_85 c_RX1_63 (by decide) rfl rfl (gC_p G.1) rfl (Nat.le_of_ble_eq_true rfl) (Nat.le_of_ble_eq_true rfl) (by omega) (w_X1_expect G (by omega)) (fun v14 s14 hN => ?_)
        refine e_iload_n m_X1_opening dX1_opening_88 rfl rfl ?_
        refine e_cvU (as := [.int (nI x2), .int (nI v14), .int (nI 1)]) hN m_X1_opening dX1_opening_89 c_RX1_69 (by decide) rfl rfl (gC_r G.1) rfl (Nat.le_of_ble_eq_true rfl) (Nat.le_of_ble_eq_true rfl) (by omega) (w_X3_put G (by omega)) (fun v15 s15 hN => ?_)
        refine e_iconst (v := nI 1) m_X1_opening dX1_opening_92 (by decide) ?_
        exact e_reti m_X1_opening dX1_opening_93 (Or.inl rfl)
      · refine e_iload m_X1_opening dX1_opening_71 rfl ?_
        exact e_reti m_X1_opening dX1_opening_73 (Or.inl rfl)
  · refine e_aload_n m_X1_opening dX1_opening_77 rfl rfl rfl ?_
    refine e_getf m_X1_opening dX1_opening_78 f_RX1_17 (gC_p G.1) rfl ?_
    refine e_iload_n m_X1_opening dX1_opening_81 rfl rfl ?_
    refine e_aload_n m_X1_opening dX1_opening_82 rfl rfl rfl ?_
    refine e_bipush (v := nI 85) m_X1_opening dX1_opening_83 (by decide) ?_
    refine e_cvN (as := [.int (nI 85)]) hN m_X1_opening dX1_opening_85 c_RX1_63 (by decide) rfl rfl (gC_p G.1) rfl (Nat.le_of_ble_eq_true rfl) (Nat.le_of_ble_eq_true rfl) (by omega) (w_X1_expect G (by omega)) (fun v16 s16 hN => ?_)
    refine e_iload_n m_X1_opening dX1_opening_88 rfl rfl ?_
    refine e_cvU (as := [.int (nI x2), .int (nI v16), .int (nI 0)]) hN m_X1_opening dX1_opening_89 c_RX1_69 (by decide) rfl rfl (gC_r G.1) rfl (Nat.le_of_ble_eq_true rfl) (Nat.le_of_ble_eq_true rfl) (by omega) (w_X3_put G (by omega)) (fun v17 s17 hN => ?_)
    refine e_iconst (v := nI 1) m_X1_opening dX1_opening_92 (by decide) ?_
    exact e_reti m_X1_opening dX1_opening_93 (Or.inl rfl)

def lp_X1_simple_43 (K : Nat → Nat) (N : Nat) (rc : Nat → Nat → Nat → Ss → Rs Ss) : Nat → Nat → Nat → Nat → Nat → Ss → Rs Ss
  | 0, _, _, _, _, _ => none
  | f + 1, y1, y2, y3, y4, s => ifl y4 16385 (bn (b_X1_accept K N 84 s) (fun v50 s50 => ifz v50 (bn (q_sees K 70 s50) (fun v52 s52 => ifz v52 (bn (q_sees K 76 s52) (fun v54 s54 => ifz v54 (ifl 1 y4 (erR s54) (bn (rc 67 y1 0 s54) (fun v57 s57 => okR v57 s57))) (ifz y3 (ifl 1 y4 (erR s54) (bn (rc 67 y1 0 s54) (fun v60 s60 => okR v60 s60))) (ife y1 3 (ifl 1 y4 (erR s54) (bn (rc 67 y1 0 s54) (fun v63 s63 => okR v63 s63))) (bn (b_X3_put K N 12 y2 y4 s54) (fun v64 s64 => bn (rc 66 y1 y4 s64) (fun v65 s65 => okR v65 s65))))))) (bn (b_X3_put K N 13 y2 y4 s52) (fun v66 s66 => bn (rc 65 y1 0 s66) (fun v67 s67 => okR v67 s67))))) (bn (rc 29 0 0 s50) (fun v68 s68 => ifz y3 (lp_X1_simple_43 K N rc f y1 y2 0 (y4 + 1) s68) (bn (b_X1_isNameFrom K N (s_at s50) s68) (fun v70 s70 => ifz v70 (lp_X1_simple_43 K N rc f y1 y2 0 (y4 + 1) s70) (lp_X1_simple_43 K N rc f y1 y2 1 (y4 + 1) s70))))))) (bn (q_sees K 70 s) (fun v72 s72 => ifz v72 (bn (q_sees K 76 s72) (fun v74 s74 => ifz v74 (ifl 1 y4 (erR s74) (bn (rc 67 y1 0 s74) (fun v77 s77 => okR v77 s77))) (ifz y3 (ifl 1 y4 (erR s74) (bn (rc 67 y1 0 s74) (fun v80 s80 => okR v80 s80))) (ife y1 3 (ifl 1 y4 (erR s74) (bn (rc 67 y1 0 s74) (fun v83 s83 => okR v83 s83))) (bn (b_X3_put K N 12 y2 y4 s74) (fun v84 s84 => bn (rc 66 y1 y4 s84) (fun v85 s85 => okR v85 s85))))))) (bn (b_X3_put K N 13 y2 y4 s72) (fun v86 s86 => bn (rc 65 y1 0 s86) (fun v87 s87 => okR v87 s87)))))
theorem l_X1_simple_43 {xs : Nat → Int32} {L : Nat} {h0 : mm_H} {a p N cnt : Nat} {ks : Nat → Nat} (G : Cg h0 a p N cnt ks) {n : Nat} {rc : Nat → Nat → Nat → Ss → Rs Ss} (IH : Hr xs L h0 a p N cnt ks n rc) : ∀ (f : Nat) (y1 y2 y3 y4 : Nat) (s : Ss) (d : Nat) (ls : mm_L) (hd : n + 17 ≤ d) (hl0 : mm_lk ls 0 = some (.ref p)) (hl1 : mm_lk ls 1 = some (.int (nI y1))) (hl2 : mm_lk ls 2 = some (.int (nI y2))) (hl3 : mm_lk ls 3 = some (.int (nI y3))) (hl4 : mm_lk ls 4 = some (.int (nI y4))), lp_X1_simple_43 (kA cnt ks) N rc f y1 y2 y3 y4 s ≠ none → Ev xs L d 62 43 ls [] (TC h0 a p N cnt ks s) 0 0 (ou eN (TC h0 a p N cnt ks) (lp_X1_simple_43 (kA cnt ks) N rc f y1 y2 y3 y4 s)) := by
  intro f
  induction f with
  | zero => intros; rename_i hN; exact absurd rfl hN
  | succ f ih =>
    intro y1 y2 y3 y4 s d ls hd hl0 hl1 hl2 hl3 hl4 hN
    rw [lp_X1_simple_43] at hN ⊢
    refine e_iload m_X1_simple dX1_simple_43 hl4 ?_
    refine e_sipush (v := nI 16385) m_X1_simple dX1_simple_45 (by decide) ?_
    refine e_ige (t := 96) (a := y4) (b := 16385) hN m_X1_simple dX1_simple_48 (by decide) (fun q49 hN => ?_) (fun q49 hN => ?_)
    · refine e_aload_n m_X1_simple dX1_simple_51 rfl hl0 rfl ?_
      refine e_bipush (v := nI 84) m_X1_simple dX1_simple_52 (by decide) ?_
      refine e_cvN (as := [.int (nI 84)]) hN m_X1_simple dX1_simple_54 c_RX1_123 (by decide) rfl rfl (gC_p G.1) rfl (Nat.le_of_ble_eq_true rfl) (Nat.le_of_ble_eq_true rfl) (by omega) (w_X1_accept G (by omega)) (fun v50 s50 hN => ?_)
      refine e_ifeq (t := 96) hN m_X1_simple dX1_simple_57 (by decide) (fun q51 hN => ?_) (fun q51 hN => ?_)
      · refine e_aload_n m_X1_simple dX1_simple_96 rfl hl0 rfl ?_
        refine e_bipush (v := nI 70) m_X1_simple dX1_simple_97 (by decide) ?_
        refine e_cvN (as := [.int (nI 70)]) hN m_X1_simple dX1_simple_99 c_RX1_46 (by decide) rfl rfl (gC_p G.1) rfl (Nat.le_of_ble_eq_true rfl) (Nat.le_of_ble_eq_true rfl) (by omega) (t_sees G (by omega)) (fun v52 s52 hN => ?_)
        refine e_ifeq (t := 123) hN m_X1_simple dX1_simple_102 (by decide) (fun q53 hN => ?_) (fun q53 hN => ?_)
        · refine e_aload_n m_X1_simple dX1_simple_123 rfl hl0 rfl ?_
          refine e_bipush (v := nI 76) m_X1_simple dX1_simple_124 (by decide) ?_
          refine e_cvN (as := [.int (nI 76)]) hN m_X1_simple dX1_simple_126 c_RX1_46 (by decide) rfl rfl (gC_p G.1) rfl (Nat.le_of_ble_eq_true rfl) (Nat.le_of_ble_eq_true rfl) (by omega) (t_sees G (by omega)) (fun v54 s54 hN => ?_)
          refine e_ifeq (t := 161) hN m_X1_simple dX1_simple_129 (by decide) (fun q55 hN => ?_) (fun q55 hN => ?_)
          · refine e_iload m_X1_simple dX1_simple_161 hl4 ?_
            refine e_iconst (v := nI 1) m_X1_simple dX1_simple_163 (by decide) ?_
            refine e_ile (t := 171) (a := y4) (b := 1) hN m_X1_simple dX1_simple_164 (by decide) (fun q56 hN => ?_) (fun q56 hN => ?_)
            · refine e_aload_n m_X1_simple dX1_simple_167 rfl hl0 rfl ?_
              exact e_cvX (as := []) m_X1_simple dX1_simple_168 c_RX1_54 (by decide) rfl rfl (gC_p G.1) rfl (Nat.le_of_ble_eq_true rfl) (Nat.le_of_ble_eq_true rfl) (by omega) (r_refuse (by omega))
            · refine e_aload_n m_X1_simple dX1_simple_171 rfl hl0 rfl ?_
              refine e_iload_n m_X1_simple dX1_simple_172 rfl hl1 ?_
              refine e_cvN (as := [.int (nI y1)]) hN m_X1_simple dX1_simple_173 c_RX1_243 (by decide) rfl rfl (gC_p G.1) rfl (Nat.le_of_ble_eq_true rfl) (Nat.le_of_ble_eq_true rfl) (by omega) (i_X1_behindExpr IH (by omega)) (fun v57 s57 hN => ?_)
              exact e_reti m_X1_simple dX1_simple_176 (Or.inl rfl)
          · refine e_iload_n m_X1_simple dX1_simple_132 rfl hl3 ?_
            refine e_ifeq (t := 161) hN m_X1_simple dX1_simple_133 (by decide) (fun q58 hN => ?_) (fun q58 hN => ?_)
            · refine e_iload m_X1_simple dX1_simple_161 hl4 ?_
              refine e_iconst (v := nI 1) m_X1_simple dX1_simple_163 (by decide) ?_
              refine e_ile (t := 171) (a := y4) (b := 1) hN m_X1_simple dX1_simple_164 (by decide) (fun q59 hN => ?_) (fun q59 hN => ?_)
              · refine e_aload_n m_X1_simple dX1_simple_167 rfl hl0 rfl ?_
                exact e_cvX (as := []) m_X1_simple dX1_simple_168 c_RX1_54 (by decide) rfl rfl (gC_p G.1) rfl (Nat.le_of_ble_eq_true rfl) (Nat.le_of_ble_eq_true rfl) (by omega) (r_refuse (by omega))
              · refine e_aload_n m_X1_simple dX1_simple_171 rfl hl0 rfl ?_
                refine e_iload_n m_X1_simple dX1_simple_172 rfl hl1 ?_
                refine e_cvN (as := [.int (nI y1)]) hN m_X1_simple dX1_simple_173 c_RX1_243 (by decide) rfl rfl (gC_p G.1) rfl (Nat.le_of_ble_eq_true rfl) (Nat.le_of_ble_eq_true rfl) (by omega) (i_X1_behindExpr IH (by omega)) (fun v60 s60 hN => ?_)
                exact e_reti m_X1_simple dX1_simple_176 (Or.inl rfl)
            · refine e_iload_n m_X1_simple dX1_simple_136 rfl hl1 ?_
              refine e_iconst (v := nI 3) m_X1_simple dX1_simple_137 (by decide) ?_
              refine e_ieq (t := 161) (a := y1) (b := 3) hN m_X1_simple dX1_simple_138 (by decide) (fun q61 hN => ?_) (fun q61 hN => ?_)
              · refine e_iload m_X1_simple dX1_simple_161 hl4 ?_
                refine e_iconst (v := nI 1) m_X1_simple dX1_simple_163 (by decide) ?_
                refine e_ile (t := 171) (a := y4) (b := 1) hN m_X1_simple dX1_simple_164 (by decide) (fun q62 hN => ?_) (fun q62 hN => ?_)
                · refine e_aload_n m_X1_simple dX1_simple_167 rfl hl0 rfl ?_
                  exact e_cvX (as := []) m_X1_simple dX1_simple_168 c_RX1_54 (by decide) rfl rfl (gC_p G.1) rfl (Nat.le_of_ble_eq_true rfl) (Nat.le_of_ble_eq_true rfl) (by omega) (r_refuse (by omega))
                · refine e_aload_n m_X1_simple dX1_simple_171 rfl hl0 rfl ?_
                  refine e_iload_n m_X1_simple dX1_simple_172 rfl hl1 ?_
                  refine e_cvN (as := [.int (nI y1)]) hN m_X1_simple dX1_simple_173 c_RX1_243 (by decide) rfl rfl (gC_p G.1) rfl (Nat.le_of_ble_eq_true rfl) (Nat.le_of_ble_eq_true rfl) (by omega) (i_X1_behindExpr IH (by omega)) (fun v63 s63 hN => ?_)
                  exact e_reti m_X1_simple dX1_simple_176 (Or.inl rfl)
              · refine e_aload_n m_X1_simple dX1_simple_141 rfl hl0 rfl ?_
                refine e_getf m_X1_simple dX1_simple_142 f_RX1_17 (gC_p G.1) rfl ?_
                refine e_bipush (v := nI 12) m_X1_simple dX1_simple_145 (by decide) ?_
                refine e_iload_n m_X1_simple dX1_simple_147 rfl hl2 ?_
                refine e_iload m_X1_simple dX1_simple_148 hl4 ?_
                refine e_cvU (as := [.int (nI 12), .int (nI y2), .int (nI y4)]) hN m_X1_simple dX1_simple_150 c_RX1_69 (by decide) rfl rfl (gC_r G.1) rfl (Nat.le_of_ble_eq_true rfl) (Nat.le_of_ble_eq_true rfl) (by omega) (w_X3_put G (by omega)) (fun v64 s64 hN => ?_)
                refine e_aload_n m_X1_simple dX1_simple_153 rfl hl0 rfl ?_
                refine e_iload_n m_X1_simple dX1_simple_154 rfl hl1 ?_
                refine e_iload m_X1_simple dX1_simple_155 hl4 ?_
                refine e_cvN (as := [.int (nI y1), .int (nI y4)]) hN m_X1_simple dX1_simple_157 c_RX1_240 (by decide) rfl rfl (gC_p G.1) rfl (Nat.le_of_ble_eq_true rfl) (Nat.le_of_ble_eq_true rfl) (by omega) (i_X1_define IH (by omega)) (fun v65 s65 hN => ?_)
                exact e_reti m_X1_simple dX1_simple_160 (Or.inl rfl)
        · refine e_aload_n m_X1_simple dX1_simple_105 rfl hl0 rfl ?_
          refine e_getf m_X1_simple dX1_simple_106 f_RX1_17 (gC_p G.1) rfl ?_
          refine e_bipush (v := nI 13) m_X1_simple dX1_simple_109 (by decide) ?_
          refine e_iload_n m_X1_simple dX1_simple_111 rfl hl2 ?_
          refine e_iload m_X1_simple dX1_simple_112 hl4 ?_
          refine e_cvU (as := [.int (nI 13), .int (nI y2), .int (nI y4)]) hN m_X1_simple dX1_simple_114 c_RX1_69 (by decide) rfl rfl (gC_r G.1) rfl (Nat.le_of_ble_eq_true rfl) (Nat.le_of_ble_eq_true rfl) (by omega) (w_X3_put G (by omega)) (fun v66 s66 hN => ?_)
          refine e_aload_n m_X1_simple dX1_simple_117 rfl hl0 rfl ?_
          refine e_iload_n m_X1_simple dX1_simple_118 rfl hl1 ?_
          refine e_cvN (as := [.int (nI y1)]) hN m_X1_simple dX1_simple_119 c_RX1_237 (by decide) rfl rfl (gC_p G.1) rfl (Nat.le_of_ble_eq_true rfl) (Nat.le_of_ble_eq_true rfl) (by omega) (i_X1_assign IH (by omega)) (fun v67 s67 hN => ?_)
          exact e_reti m_X1_simple dX1_simple_122 (Or.inl rfl)
      · refine e_aload_n m_X1_simple dX1_simple_60 rfl hl0 rfl ?_
        refine e_getf m_X1_simple dX1_simple_61 f_RX1_43 (gC_p G.1) rfl ?_
        refine e_istore m_X1_simple dX1_simple_64 (by decide) rfl ?_
        refine e_aload_n m_X1_simple dX1_simple_66 rfl (lk_mis (by decide) rfl hl0) rfl ?_
        refine e_iconst (v := nI 0) m_X1_simple dX1_simple_67 (by decide) ?_
        refine e_cvU (as := [.int (nI 0)]) hN m_X1_simple dX1_simple_68 c_RX1_181 (by decide) rfl rfl (gC_p G.1) rfl (Nat.le_of_ble_eq_true rfl) (Nat.le_of_ble_eq_true rfl) (by omega) (i_X1_expr IH (by omega)) (fun v68 s68 hN => ?_)
        refine e_iload_n m_X1_simple dX1_simple_71 rfl (lk_mis (by decide) rfl hl3) ?_
        refine e_ifeq (t := 88) hN m_X1_simple dX1_simple_72 (by decide) (fun q69 hN => ?_) (fun q69 hN => ?_)
        · refine e_iconst (v := nI 0) m_X1_simple dX1_simple_88 (by decide) ?_
          refine e_istore_n m_X1_simple dX1_simple_89 rfl (by decide) rfl ?_
          refine e_iincN (n := 1) m_X1_simple dX1_simple_90 (by decide) (lk_mis (by decide) rfl (lk_mis (by decide) rfl hl4)) rfl ?_
          refine e_goto (t := 43) m_X1_simple dX1_simple_93 (by decide) ?_
          exact ih y1 y2 0 (y4 + 1) _ _ _ (by omega) (lk_mis (by decide) rfl (lk_mis (by decide) rfl (lk_mis (by decide) rfl hl0))) (lk_mis (by decide) rfl (lk_mis (by decide) rfl (lk_mis (by decide) rfl hl1))) (lk_mis (by decide) rfl (lk_mis (by decide) rfl (lk_mis (by decide) rfl hl2))) (lk_mis (by decide) rfl lk_hit) lk_hit hN
        · refine e_aload_n m_X1_simple dX1_simple_75 rfl (lk_mis (by decide) rfl hl0) rfl ?_
          refine e_iload m_X1_simple dX1_simple_76 lk_hit ?_
          refine e_cvN (as := [.int (nI (s_at s50))]) hN m_X1_simple dX1_simple_78 c_RX1_234 (by decide) rfl rfl (gC_p G.1) rfl (Nat.le_of_ble_eq_true rfl) (Nat.le_of_ble_eq_true rfl) (by omega) (w_X1_isNameFrom G (by omega)) (fun v70 s70 hN => ?_)
          refine e_ifeq (t := 88) hN m_X1_simple dX1_simple_81 (by decide) (fun q71 hN => ?_) (fun q71 hN => ?_)
          · refine e_iconst (v := nI 0) m_X1_simple dX1_simple_88 (by decide) ?_
            refine e_istore_n m_X1_simple dX1_simple_89 rfl (by decide) rfl ?_
            refine e_iincN (n := 1) m_X1_simple dX1_simple_90 (by decide) (lk_mis (by decide) rfl (lk_mis (by decide) rfl hl4)) rfl ?_
            refine e_goto (t := 43) m_X1_simple dX1_simple_93 (by decide) ?_
            exact ih y1 y2 0 (y4 + 1) _ _ _ (by omega) (lk_mis (by decide) rfl (lk_mis (by decide) rfl (lk_mis (by decide) rfl hl0))) (lk_mis (by decide) rfl (lk_mis (by decide) rfl (lk_mis (by decide) rfl hl1))) (lk_mis (by decide) rfl (lk_mis (by decide) rfl (lk_mis (by decide) rfl hl2))) (lk_mis (by decide) rfl lk_hit) lk_hit hN
          · refine e_iconst (v := nI 1) m_X1_simple dX1_simple_84 (by decide) ?_
            refine e_goto (t := 89) m_X1_simple dX1_simple_85 (by decide) ?_
            refine e_istore_n m_X1_simple dX1_simple_89 rfl (by decide) rfl ?_
            refine e_iincN (n := 1) m_X1_simple dX1_simple_90 (by decide) (lk_mis (by decide) rfl (lk_mis (by decide) rfl hl4)) rfl ?_
            refine e_goto (t := 43) m_X1_simple dX1_simple_93 (by decide) ?_
            exact ih y1 y2 1 (y4 + 1) _ _ _ (by omega) (lk_mis (by decide) rfl (lk_mis (by decide) rfl (lk_mis (by decide) rfl hl0))) (lk_mis (by decide) rfl (lk_mis (by decide) rfl (lk_mis (by decide) rfl hl1))) (lk_mis (by decide) rfl (lk_mis (by decide) rfl (lk_mis (by decide) rfl hl2))) (lk_mis (by decide) rfl lk_hit) lk_hit hN
    · refine e_aload_n m_X1_simple dX1_simple_96 rfl hl0 rfl ?_
      refine e_bipush (v := nI 70) m_X1_simple dX1_simple_97 (by decide) ?_
      refine e_cvN (as := [.int (nI 70)]) hN m_X1_simple dX1_simple_99 c_RX1_46 (by decide) rfl rfl (gC_p G.1) rfl (Nat.le_of_ble_eq_true rfl) (Nat.le_of_ble_eq_true rfl) (by omega) (t_sees G (by omega)) (fun v72 s72 hN => ?_)
      refine e_ifeq (t := 123) hN m_X1_simple dX1_simple_102 (by decide) (fun q73 hN => ?_) (fun q73 hN => ?_)
      · refine e_aload_n m_X1_simple dX1_simple_123 rfl hl0 rfl ?_
        refine e_bipush (v := nI 76) m_X1_simple dX1_simple_124 (by decide) ?_
        refine e_cvN (as := [.int (nI 76)]) hN m_X1_simple dX1_simple_126 c_RX1_46 (by decide) rfl rfl (gC_p G.1) rfl (Nat.le_of_ble_eq_true rfl) (Nat.le_of_ble_eq_true rfl) (by omega) (t_sees G (by omega)) (fun v74 s74 hN => ?_)
        refine e_ifeq (t := 161) hN m_X1_simple dX1_simple_129 (by decide) (fun q75 hN => ?_) (fun q75 hN => ?_)
        · refine e_iload m_X1_simple dX1_simple_161 hl4 ?_
          refine e_iconst (v := nI 1) m_X1_simple dX1_simple_163 (by decide) ?_
          refine e_ile (t := 171) (a := y4) (b := 1) hN m_X1_simple dX1_simple_164 (by decide) (fun q76 hN => ?_) (fun q76 hN => ?_)
          · refine e_aload_n m_X1_simple dX1_simple_167 rfl hl0 rfl ?_
            exact e_cvX (as := []) m_X1_simple dX1_simple_168 c_RX1_54 (by decide) rfl rfl (gC_p G.1) rfl (Nat.le_of_ble_eq_true rfl) (Nat.le_of_ble_eq_true rfl) (by omega) (r_refuse (by omega))
          · refine e_aload_n m_X1_simple dX1_simple_171 rfl hl0 rfl ?_
            refine e_iload_n m_X1_simple dX1_simple_172 rfl hl1 ?_
            refine e_cvN (as := [.int (nI y1)]) hN m_X1_simple dX1_simple_173 c_RX1_243 (by decide) rfl rfl (gC_p G.1) rfl (Nat.le_of_ble_eq_true rfl) (Nat.le_of_ble_eq_true rfl) (by omega) (i_X1_behindExpr IH (by omega)) (fun v77 s77 hN => ?_)
            exact e_reti m_X1_simple dX1_simple_176 (Or.inl rfl)
        · refine e_iload_n m_X1_simple dX1_simple_132 rfl hl3 ?_
          refine e_ifeq (t := 161) hN m_X1_simple dX1_simple_133 (by decide) (fun q78 hN => ?_) (fun q78 hN => ?_)
          · refine e_iload m_X1_simple dX1_simple_161 hl4 ?_
            refine e_iconst (v := nI 1) m_X1_simple dX1_simple_163 (by decide) ?_
            refine e_ile (t := 171) (a := y4) (b := 1) hN m_X1_simple dX1_simple_164 (by decide) (fun q79 hN => ?_) (fun q79 hN => ?_)
            · refine e_aload_n m_X1_simple dX1_simple_167 rfl hl0 rfl ?_
              exact e_cvX (as := []) m_X1_simple dX1_simple_168 c_RX1_54 (by decide) rfl rfl (gC_p G.1) rfl (Nat.le_of_ble_eq_true rfl) (Nat.le_of_ble_eq_true rfl) (by omega) (r_refuse (by omega))
            · refine e_aload_n m_X1_simple dX1_simple_171 rfl hl0 rfl ?_
              refine e_iload_n m_X1_simple dX1_simple_172 rfl hl1 ?_
              refine e_cvN (as := [.int (nI y1)]) hN m_X1_simple dX1_simple_173 c_RX1_243 (by decide) rfl rfl (gC_p G.1) rfl (Nat.le_of_ble_eq_true rfl) (Nat.le_of_ble_eq_true rfl) (by omega) (i_X1_behindExpr IH (by omega)) (fun v80 s80 hN => ?_)
              exact e_reti m_X1_simple dX1_simple_176 (Or.inl rfl)
          · refine e_iload_n m_X1_simple dX1_simple_136 rfl hl1 ?_
            refine e_iconst (v := nI 3) m_X1_simple dX1_simple_137 (by decide) ?_
            refine e_ieq (t := 161) (a := y1) (b := 3) hN m_X1_simple dX1_simple_138 (by decide) (fun q81 hN => ?_) (fun q81 hN => ?_)
            · refine e_iload m_X1_simple dX1_simple_161 hl4 ?_
              refine e_iconst (v := nI 1) m_X1_simple dX1_simple_163 (by decide) ?_
              refine e_ile (t := 171) (a := y4) (b := 1) hN m_X1_simple dX1_simple_164 (by decide) (fun q82 hN => ?_) (fun q82 hN => ?_)
              · refine e_aload_n m_X1_simple dX1_simple_167 rfl hl0 rfl ?_
                exact e_cvX (as := []) m_X1_simple dX1_simple_168 c_RX1_54 (by decide) rfl rfl (gC_p G.1) rfl (Nat.le_of_ble_eq_true rfl) (Nat.le_of_ble_eq_true rfl) (by omega) (r_refuse (by omega))
              · refine e_aload_n m_X1_simple dX1_simple_171 rfl hl0 rfl ?_
                refine e_iload_n m_X1_simple dX1_simple_172 rfl hl1 ?_
                refine e_cvN (as := [.int (nI y1)]) hN m_X1_simple dX1_simple_173 c_RX1_243 (by decide) rfl rfl (gC_p G.1) rfl (Nat.le_of_ble_eq_true rfl) (Nat.le_of_ble_eq_true rfl) (by omega) (i_X1_behindExpr IH (by omega)) (fun v83 s83 hN => ?_)
                exact e_reti m_X1_simple dX1_simple_176 (Or.inl rfl)
            · refine e_aload_n m_X1_simple dX1_simple_141 rfl hl0 rfl ?_
              refine e_getf m_X1_simple dX1_simple_142 f_RX1_17 (gC_p G.1) rfl ?_
              refine e_bipush (v := nI 12) m_X1_simple dX1_simple_145 (by decide) ?_
              refine e_iload_n m_X1_simple dX1_simple_147 rfl hl2 ?_
              refine e_iload m_X1_simple dX1_simple_148 hl4 ?_
              refine e_cvU (as := [.int (nI 12), .int (nI y2), .int (nI y4)]) hN m_X1_simple dX1_simple_150 c_RX1_69 (by decide) rfl rfl (gC_r G.1) rfl (Nat.le_of_ble_eq_true rfl) (Nat.le_of_ble_eq_true rfl) (by omega) (w_X3_put G (by omega)) (fun v84 s84 hN => ?_)
              refine e_aload_n m_X1_simple dX1_simple_153 rfl hl0 rfl ?_
              refine e_iload_n m_X1_simple dX1_simple_154 rfl hl1 ?_
              refine e_iload m_X1_simple dX1_simple_155 hl4 ?_
              refine e_cvN (as := [.int (nI y1), .int (nI y4)]) hN m_X1_simple dX1_simple_157 c_RX1_240 (by decide) rfl rfl (gC_p G.1) rfl (Nat.le_of_ble_eq_true rfl) (Nat.le_of_ble_eq_true rfl) (by omega) (i_X1_define IH (by omega)) (fun v85 s85 hN => ?_)
              exact e_reti m_X1_simple dX1_simple_160 (Or.inl rfl)
      · refine e_aload_n m_X1_simple dX1_simple_105 rfl hl0 rfl ?_
        refine e_getf m_X1_simple dX1_simple_106 f_RX1_17 (gC_p G.1) rfl ?_
        refine e_bipush (v := nI 13) m_X1_simple dX1_simple_109 (by decide) ?_
        refine e_iload_n m_X1_simple dX1_simple_111 rfl hl2 ?_
        refine e_iload m_X1_simple dX1_simple_112 hl4 ?_
        refine e_cvU (as := [.int (nI 13), .int (nI y2), .int (nI y4)]) hN m_X1_simple dX1_simple_114 c_RX1_69 (by decide) rfl rfl (gC_r G.1) rfl (Nat.le_of_ble_eq_true rfl) (Nat.le_of_ble_eq_true rfl) (by omega) (w_X3_put G (by omega)) (fun v86 s86 hN => ?_)
        refine e_aload_n m_X1_simple dX1_simple_117 rfl hl0 rfl ?_
        refine e_iload_n m_X1_simple dX1_simple_118 rfl hl1 ?_
        refine e_cvN (as := [.int (nI y1)]) hN m_X1_simple dX1_simple_119 c_RX1_237 (by decide) rfl rfl (gC_p G.1) rfl (Nat.le_of_ble_eq_true rfl) (Nat.le_of_ble_eq_true rfl) (by omega) (i_X1_assign IH (by omega)) (fun v87 s87 hN => ?_)
        exact e_reti m_X1_simple dX1_simple_122 (Or.inl rfl)
def b_X1_simple (K : Nat → Nat) (N : Nat) (rc : Nat → Nat → Nat → Ss → Rs Ss) (x1 : Nat) (s : Ss) : Rs Ss := ife x1 4 (bn (rc 29 1 0 s) (fun v2 s2 => ife (s_gw s2) 0 (bn (b_X1_isNameFrom K N (s_at s) s2) (fun v4 s4 => lp_X1_simple_43 K N rc LF x1 (s_at s) v4 1 s4)) (bn (b_X1_putGuard K N 1 s2) (fun v5 s5 => okR 3 s5)))) (bn (rc 29 0 0 s) (fun v6 s6 => ife (s_gw s6) 0 (bn (b_X1_isNameFrom K N (s_at s) s6) (fun v8 s8 => lp_X1_simple_43 K N rc LF x1 (s_at s) v8 1 s8)) (bn (b_X1_putGuard K N 1 s6) (fun v9 s9 => okR 3 s9))))
theorem w_X1_simple {xs : Nat → Int32} {L : Nat} {h0 : mm_H} {a p N cnt : Nat} {ks : Nat → Nat} (G : Cg h0 a p N cnt ks) {n : Nat} {rc : Nat → Nat → Nat → Ss → Rs Ss} (IH : Hr xs L h0 a p N cnt ks n rc) {x1 : Nat} {s : Ss} {d : Nat} (hd : n + 17 ≤ d) (hN : b_X1_simple (kA cnt ks) N rc x1 s ≠ none) : Rn xs L d 62 [.ref p, .int (nI x1)] (TC h0 a p N cnt ks s) (ou eN (TC h0 a p N cnt ks) (b_X1_simple (kA cnt ks) N rc x1 s)) := by
  unfold Rn
  unfold b_X1_simple at hN ⊢
  refine e_aload_n m_X1_simple dX1_simple_0 rfl rfl rfl ?_
  refine e_getf m_X1_simple dX1_simple_1 f_RX1_43 (gC_p G.1) rfl ?_
  refine e_istore_n m_X1_simple dX1_simple_4 rfl (by decide) rfl ?_
  refine e_aload_n m_X1_simple dX1_simple_5 rfl rfl rfl ?_
  refine e_iload_n m_X1_simple dX1_simple_6 rfl rfl ?_
  refine e_iconst (v := nI 4) m_X1_simple dX1_simple_7 (by decide) ?_
  refine e_ine (t := 15) (a := x1) (b := 4) hN m_X1_simple dX1_simple_8 (by decide) (fun q1 hN => ?_) (fun q1 hN => ?_)
  · refine e_iconst (v := nI 1) m_X1_simple dX1_simple_11 (by decide) ?_
    refine e_goto (t := 16) m_X1_simple dX1_simple_12 (by decide) ?_
    refine e_cvU (as := [.int (nI 1)]) hN m_X1_simple dX1_simple_16 c_RX1_181 (by decide) rfl rfl (gC_p G.1) rfl (Nat.le_of_ble_eq_true rfl) (Nat.le_of_ble_eq_true rfl) (by omega) (i_X1_expr IH (by omega)) (fun v2 s2 hN => ?_)
    refine e_aload_n m_X1_simple dX1_simple_19 rfl rfl rfl ?_
    refine e_getf m_X1_simple dX1_simple_20 f_RX1_25 (gC_p G.1) rfl ?_
    refine e_iconst (v := oI 0) m_X1_simple dX1_simple_23 (by decide) ?_
    refine e_oieq (t := 34) (a := (s_gw s2)) (b := 0) hN m_X1_simple dX1_simple_24 (by decide) (fun q3 hN => ?_) (fun q3 hN => ?_)
    · refine e_aload_n m_X1_simple dX1_simple_34 rfl rfl rfl ?_
      refine e_iload_n m_X1_simple dX1_simple_35 rfl rfl ?_
      refine e_cvN (as := [.int (nI (s_at s))]) hN m_X1_simple dX1_simple_36 c_RX1_234 (by decide) rfl rfl (gC_p G.1) rfl (Nat.le_of_ble_eq_true rfl) (Nat.le_of_ble_eq_true rfl) (by omega) (w_X1_isNameFrom G (by omega)) (fun v4 s4 hN => ?_)
      refine e_istore_n m_X1_simple dX1_simple_39 rfl (by decide) rfl ?_
      refine e_iconst (v := nI 1) m_X1_simple dX1_simple_40 (by decide) ?_
      refine e_istore m_X1_simple dX1_simple_41 (by decide) rfl ?_
      exact l_X1_simple_43 G IH LF x1 (s_at s) v4 1 _ _ _ (by omega) rfl rfl rfl rfl rfl hN
    · refine e_aload_n m_X1_simple dX1_simple_27 rfl rfl rfl ?_
      refine e_iconst (v := nI 1) m_X1_simple dX1_simple_28 (by decide) ?_
      refine e_cvU (as := [.int (nI 1)]) hN m_X1_simple dX1_simple_29 c_RX1_231 (by decide) rfl rfl (gC_p G.1) rfl (Nat.le_of_ble_eq_true rfl) (Nat.le_of_ble_eq_true rfl) (by omega) (w_X1_putGuard G (by omega)) (fun v5 s5 hN => ?_)
      refine e_iconst (v := nI 3) m_X1_simple dX1_simple_32 (by decide) ?_
      exact e_reti m_X1_simple dX1_simple_33 (Or.inl rfl)
  · refine e_iconst (v := nI 0) m_X1_simple dX1_simple_15 (by decide) ?_
    refine e_cvU (as := [.int (nI 0)]) hN m_X1_simple dX1_simple_16 c_RX1_181 (by decide) rfl rfl (gC_p G.1) rfl (Nat.le_of_ble_eq_true rfl) (Nat.le_of_ble_eq_true rfl) (by omega) (i_X1_expr IH (by omega)) (fun v6 s6 hN => ?_)
    refine e_aload_n m_X1_simple dX1_simple_19 rfl rfl rfl ?_
    refine e_getf m_X1_simple dX1_simple_20 f_RX1_25 (gC_p G.1) rfl ?_
    refine e_iconst (v := oI 0) m_X1_simple dX1_simple_23 (by decide) ?_
    refine e_oieq (t := 34) (a := (s_gw s6)) (b := 0) hN m_X1_simple dX1_simple_24 (by decide) (fun q7 hN => ?_) (fun q7 hN => ?_)
    · refine e_aload_n m_X1_simple dX1_simple_34 rfl rfl rfl ?_
      refine e_iload_n m_X1_simple dX1_simple_35 rfl rfl ?_
      refine e_cvN (as := [.int (nI (s_at s))]) hN m_X1_simple dX1_simple_36 c_RX1_234 (by decide) rfl rfl (gC_p G.1) rfl (Nat.le_of_ble_eq_true rfl) (Nat.le_of_ble_eq_true rfl) (by omega) (w_X1_isNameFrom G (by omega)) (fun v8 s8 hN => ?_)
      refine e_istore_n m_X1_simple dX1_simple_39 rfl (by decide) rfl ?_
      refine e_iconst (v := nI 1) m_X1_simple dX1_simple_40 (by decide) ?_
      refine e_istore m_X1_simple dX1_simple_41 (by decide) rfl ?_
      exact l_X1_simple_43 G IH LF x1 (s_at s) v8 1 _ _ _ (by omega) rfl rfl rfl rfl rfl hN
    · refine e_aload_n m_X1_simple dX1_simple_27 rfl rfl rfl ?_
      refine e_iconst (v := nI 1) m_X1_simple dX1_simple_28 (by decide) ?_
      refine e_cvU (as := [.int (nI 1)]) hN m_X1_simple dX1_simple_29 c_RX1_231 (by decide) rfl rfl (gC_p G.1) rfl (Nat.le_of_ble_eq_true rfl) (Nat.le_of_ble_eq_true rfl) (by omega) (w_X1_putGuard G (by omega)) (fun v9 s9 hN => ?_)
      refine e_iconst (v := nI 3) m_X1_simple dX1_simple_32 (by decide) ?_
      exact e_reti m_X1_simple dX1_simple_33 (Or.inl rfl)

def b_X1_assign (K : Nat → Nat) (N : Nat) (rc : Nat → Nat → Nat → Ss → Rs Ss) (x1 : Nat) (s : Ss) : Rs Ss := bn (q_take s) (fun v1 s1 => ife x1 2 (bn (q_sees K 28 s1) (fun v3 s3 => ifz v3 (bn (rc 29 0 0 s3) (fun v5 s5 => bn (rc 56 x1 (s_at s3) s5) (fun v6 s6 => bn (b_X3_put K N 54 v1 2 s6) (fun v7 s7 => okR 1 s7)))) (okR 2 s3))) (bn (rc 29 0 0 s1) (fun v8 s8 => bn (rc 56 x1 (s_at s1) s8) (fun v9 s9 => bn (b_X3_put K N 54 v1 2 s9) (fun v10 s10 => okR 1 s10)))))
theorem w_X1_assign {xs : Nat → Int32} {L : Nat} {h0 : mm_H} {a p N cnt : Nat} {ks : Nat → Nat} (G : Cg h0 a p N cnt ks) {n : Nat} {rc : Nat → Nat → Nat → Ss → Rs Ss} (IH : Hr xs L h0 a p N cnt ks n rc) {x1 : Nat} {s : Ss} {d : Nat} (hd : n + 17 ≤ d) (hN : b_X1_assign (kA cnt ks) N rc x1 s ≠ none) : Rn xs L d 65 [.ref p, .int (nI x1)] (TC h0 a p N cnt ks s) (ou eN (TC h0 a p N cnt ks) (b_X1_assign (kA cnt ks) N rc x1 s)) := by
  unfold Rn
  unfold b_X1_assign at hN ⊢
  refine e_aload_n m_X1_assign dX1_assign_0 rfl rfl rfl ?_
  refine e_cvN (as := []) hN m_X1_assign dX1_assign_1 c_RX1_50 (by decide) rfl rfl (gC_p G.1) rfl (Nat.le_of_ble_eq_true rfl) (Nat.le_of_ble_eq_true rfl) (by omega) (t_take G (by omega)) (fun v1 s1 hN => ?_)
  refine e_istore_n m_X1_assign dX1_assign_4 rfl (by decide) rfl ?_
  refine e_iload_n m_X1_assign dX1_assign_5 rfl rfl ?_
  refine e_iconst (v := nI 2) m_X1_assign dX1_assign_6 (by decide) ?_
  refine e_ine (t := 21) (a := x1) (b := 2) hN m_X1_assign dX1_assign_7 (by decide) (fun q2 hN => ?_) (fun q2 hN => ?_)
  · refine e_aload_n m_X1_assign dX1_assign_10 rfl rfl rfl ?_
    refine e_bipush (v := nI 28) m_X1_assign dX1_assign_11 (by decide) ?_
    refine e_cvN (as := [.int (nI 28)]) hN m_X1_assign dX1_assign_13 c_RX1_46 (by decide) rfl rfl (gC_p G.1) rfl (Nat.le_of_ble_eq_true rfl) (Nat.le_of_ble_eq_true rfl) (by omega) (t_sees G (by omega)) (fun v3 s3 hN => ?_)
    refine e_ifeq (t := 21) hN m_X1_assign dX1_assign_16 (by decide) (fun q4 hN => ?_) (fun q4 hN => ?_)
    · refine e_aload_n m_X1_assign dX1_assign_21 rfl rfl rfl ?_
      refine e_getf m_X1_assign dX1_assign_22 f_RX1_43 (gC_p G.1) rfl ?_
      refine e_istore_n m_X1_assign dX1_assign_25 rfl (by decide) rfl ?_
      refine e_aload_n m_X1_assign dX1_assign_26 rfl rfl rfl ?_
      refine e_iconst (v := nI 0) m_X1_assign dX1_assign_27 (by decide) ?_
      refine e_cvU (as := [.int (nI 0)]) hN m_X1_assign dX1_assign_28 c_RX1_181 (by decide) rfl rfl (gC_p G.1) rfl (Nat.le_of_ble_eq_true rfl) (Nat.le_of_ble_eq_true rfl) (by omega) (i_X1_expr IH (by omega)) (fun v5 s5 hN => ?_)
      refine e_aload_n m_X1_assign dX1_assign_31 rfl rfl rfl ?_
      refine e_iload_n m_X1_assign dX1_assign_32 rfl rfl ?_
      refine e_iload_n m_X1_assign dX1_assign_33 rfl rfl ?_
      refine e_cvU (as := [.int (nI x1), .int (nI (s_at s3))]) hN m_X1_assign dX1_assign_34 c_RX1_246 (by decide) rfl rfl (gC_p G.1) rfl (Nat.le_of_ble_eq_true rfl) (Nat.le_of_ble_eq_true rfl) (by omega) (i_X1_restOfExprs IH (by omega)) (fun v6 s6 hN => ?_)
      refine e_aload_n m_X1_assign dX1_assign_37 rfl rfl rfl ?_
      refine e_getf m_X1_assign dX1_assign_38 f_RX1_17 (gC_p G.1) rfl ?_
      refine e_bipush (v := nI 54) m_X1_assign dX1_assign_41 (by decide) ?_
      refine e_iload_n m_X1_assign dX1_assign_43 rfl rfl ?_
      refine e_iconst (v := nI 2) m_X1_assign dX1_assign_44 (by decide) ?_
      refine e_cvU (as := [.int (nI 54), .int (nI v1), .int (nI 2)]) hN m_X1_assign dX1_assign_45 c_RX1_69 (by decide) rfl rfl (gC_r G.1) rfl (Nat.le_of_ble_eq_true rfl) (Nat.le_of_ble_eq_true rfl) (by omega) (w_X3_put G (by omega)) (fun v7 s7 hN => ?_)
      refine e_iconst (v := nI 1) m_X1_assign dX1_assign_48 (by decide) ?_
      exact e_reti m_X1_assign dX1_assign_49 (Or.inl rfl)
    · refine e_iconst (v := nI 2) m_X1_assign dX1_assign_19 (by decide) ?_
      exact e_reti m_X1_assign dX1_assign_20 (Or.inl rfl)
  · refine e_aload_n m_X1_assign dX1_assign_21 rfl rfl rfl ?_
    refine e_getf m_X1_assign dX1_assign_22 f_RX1_43 (gC_p G.1) rfl ?_
    refine e_istore_n m_X1_assign dX1_assign_25 rfl (by decide) rfl ?_
    refine e_aload_n m_X1_assign dX1_assign_26 rfl rfl rfl ?_
    refine e_iconst (v := nI 0) m_X1_assign dX1_assign_27 (by decide) ?_
    refine e_cvU (as := [.int (nI 0)]) hN m_X1_assign dX1_assign_28 c_RX1_181 (by decide) rfl rfl (gC_p G.1) rfl (Nat.le_of_ble_eq_true rfl) (Nat.le_of_ble_eq_true rfl) (by omega) (i_X1_expr IH (by omega)) (fun v8 s8 hN => ?_)
    refine e_aload_n m_X1_assign dX1_assign_31 rfl rfl rfl ?_
    refine e_iload_n m_X1_assign dX1_assign_32 rfl rfl ?_
    refine e_iload_n m_X1_assign dX1_assign_33 rfl rfl ?_
    refine e_cvU (as := [.int (nI x1), .int (nI (s_at s1))]) hN m_X1_assign dX1_assign_34 c_RX1_246 (by decide) rfl rfl (gC_p G.1) rfl (Nat.le_of_ble_eq_true rfl) (Nat.le_of_ble_eq_true rfl) (by omega) (i_X1_restOfExprs IH (by omega)) (fun v9 s9 hN => ?_)
    refine e_aload_n m_X1_assign dX1_assign_37 rfl rfl rfl ?_
    refine e_getf m_X1_assign dX1_assign_38 f_RX1_17 (gC_p G.1) rfl ?_
    refine e_bipush (v := nI 54) m_X1_assign dX1_assign_41 (by decide) ?_
    refine e_iload_n m_X1_assign dX1_assign_43 rfl rfl ?_
    refine e_iconst (v := nI 2) m_X1_assign dX1_assign_44 (by decide) ?_
    refine e_cvU (as := [.int (nI 54), .int (nI v1), .int (nI 2)]) hN m_X1_assign dX1_assign_45 c_RX1_69 (by decide) rfl rfl (gC_r G.1) rfl (Nat.le_of_ble_eq_true rfl) (Nat.le_of_ble_eq_true rfl) (by omega) (w_X3_put G (by omega)) (fun v10 s10 hN => ?_)
    refine e_iconst (v := nI 1) m_X1_assign dX1_assign_48 (by decide) ?_
    exact e_reti m_X1_assign dX1_assign_49 (Or.inl rfl)

def b_X1_define (K : Nat → Nat) (N : Nat) (rc : Nat → Nat → Nat → Ss → Rs Ss) (x1 : Nat) (x2 : Nat) (s : Ss) : Rs Ss := bn (q_take s) (fun v1 s1 => ife x1 2 (bn (q_sees K 28 s1) (fun v3 s3 => ifz v3 (ife x1 4 (ife x2 1 (bn (rc 29 1 0 s3) (fun v7 s7 => ife (s_gw s7) 0 (bn (rc 56 x1 (s_at s3) s7) (fun v9 s9 => bn (b_X3_put K N 56 v1 2 s9) (fun v10 s10 => okR 1 s10))) (bn (b_X1_putGuard K N 2 s7) (fun v11 s11 => okR 3 s11)))) (bn (rc 29 0 0 s3) (fun v12 s12 => ife (s_gw s12) 0 (bn (rc 56 x1 (s_at s3) s12) (fun v14 s14 => bn (b_X3_put K N 56 v1 2 s14) (fun v15 s15 => okR 1 s15))) (bn (b_X1_putGuard K N 2 s12) (fun v16 s16 => okR 3 s16))))) (bn (rc 29 0 0 s3) (fun v17 s17 => ife (s_gw s17) 0 (bn (rc 56 x1 (s_at s3) s17) (fun v19 s19 => bn (b_X3_put K N 56 v1 2 s19) (fun v20 s20 => okR 1 s20))) (bn (b_X1_putGuard K N 2 s17) (fun v21 s21 => okR 3 s21))))) (bn (b_X3_put K N 67 v1 1 s3) (fun v22 s22 => okR 2 s22)))) (ife x1 4 (ife x2 1 (bn (rc 29 1 0 s1) (fun v25 s25 => ife (s_gw s25) 0 (bn (rc 56 x1 (s_at s1) s25) (fun v27 s27 => bn (b_X3_put K N 56 v1 2 s27) (fun v28 s28 => okR 1 s28))) (bn (b_X1_putGuard K N 2 s25) (fun v29 s29 => okR 3 s29)))) (bn (rc 29 0 0 s1) (fun v30 s30 => ife (s_gw s30) 0 (bn (rc 56 x1 (s_at s1) s30) (fun v32 s32 => bn (b_X3_put K N 56 v1 2 s32) (fun v33 s33 => okR 1 s33))) (bn (b_X1_putGuard K N 2 s30) (fun v34 s34 => okR 3 s34))))) (bn (rc 29 0 0 s1) (fun v35 s35 => ife (s_gw s35) 0 (bn (rc 56 x1 (s_at s1) s35) (fun v37 s37 => bn (b_X3_put K N 56 v1 2 s37) (fun v38 s38 => okR 1 s38))) (bn (b_X1_putGuard K N 2 s35) (fun v39 s39 => okR 3 s39))))))
theorem w_X1_define {xs : Nat → Int32} {L : Nat} {h0 : mm_H} {a p N cnt : Nat} {ks : Nat → Nat} (G : Cg h0 a p N cnt ks) {n : Nat} {rc : Nat → Nat → Nat → Ss → Rs Ss} (IH : Hr xs L h0 a p N cnt ks n rc) {x1 : Nat} {x2 : Nat} {s : Ss} {d : Nat} (hd : n + 17 ≤ d) (hN : b_X1_define (kA cnt ks) N rc x1 x2 s ≠ none) : Rn xs L d 66 [.ref p, .int (nI x1), .int (nI x2)] (TC h0 a p N cnt ks s) (ou eN (TC h0 a p N cnt ks) (b_X1_define (kA cnt ks) N rc x1 x2 s)) := by
  unfold Rn
  unfold b_X1_define at hN ⊢
  refine e_aload_n m_X1_define dX1_define_0 rfl rfl rfl ?_
  refine e_cvN (as := []) hN m_X1_define dX1_define_1 c_RX1_50 (by decide) rfl rfl (gC_p G.1) rfl (Nat.le_of_ble_eq_true rfl) (Nat.le_of_ble_eq_true rfl) (by omega) (t_take G (by omega)) (fun v1 s1 hN => ?_)
  refine e_istore_n m_X1_define dX1_define_4 rfl (by decide) rfl ?_
  refine e_iload_n m_X1_define dX1_define_5 rfl rfl ?_
  refine e_iconst (v := nI 2) m_X1_define dX1_define_6 (by decide) ?_
  refine e_ine (t := 32) (a := x1) (b := 2) hN m_X1_define dX1_define_7 (by decide) (fun q2 hN => ?_) (fun q2 hN => ?_)
  · refine e_aload_n m_X1_define dX1_define_10 rfl rfl rfl ?_
    refine e_bipush (v := nI 28) m_X1_define dX1_define_11 (by decide) ?_
    refine e_cvN (as := [.int (nI 28)]) hN m_X1_define dX1_define_13 c_RX1_46 (by decide) rfl rfl (gC_p G.1) rfl (Nat.le_of_ble_eq_true rfl) (Nat.le_of_ble_eq_true rfl) (by omega) (t_sees G (by omega)) (fun v3 s3 hN => ?_)
    refine e_ifeq (t := 32) hN m_X1_define dX1_define_16 (by decide) (fun q4 hN => ?_) (fun q4 hN => ?_)
    · refine e_aload_n m_X1_define dX1_define_32 rfl rfl rfl ?_
      refine e_getf m_X1_define dX1_define_33 f_RX1_43 (gC_p G.1) rfl ?_
      refine e_istore m_X1_define dX1_define_36 (by decide) rfl ?_
      refine e_aload_n m_X1_define dX1_define_38 rfl rfl rfl ?_
      refine e_iload_n m_X1_define dX1_define_39 rfl rfl ?_
      refine e_iconst (v := nI 4) m_X1_define dX1_define_40 (by decide) ?_
      refine e_ine (t := 53) (a := x1) (b := 4) hN m_X1_define dX1_define_41 (by decide) (fun q5 hN => ?_) (fun q5 hN => ?_)
      · refine e_iload_n m_X1_define dX1_define_44 rfl rfl ?_
        refine e_iconst (v := nI 1) m_X1_define dX1_define_45 (by decide) ?_
        refine e_ine (t := 53) (a := x2) (b := 1) hN m_X1_define dX1_define_46 (by decide) (fun q6 hN => ?_) (fun q6 hN => ?_)
        · refine e_iconst (v := nI 1) m_X1_define dX1_define_49 (by decide) ?_
          refine e_goto (t := 54) m_X1_define dX1_define_50 (by decide) ?_
          refine e_cvU (as := [.int (nI 1)]) hN m_X1_define dX1_define_54 c_RX1_181 (by decide) rfl rfl (gC_p G.1) rfl (Nat.le_of_ble_eq_true rfl) (Nat.le_of_ble_eq_true rfl) (by omega) (i_X1_expr IH (by omega)) (fun v7 s7 hN => ?_)
          refine e_aload_n m_X1_define dX1_define_57 rfl rfl rfl ?_
          refine e_getf m_X1_define dX1_define_58 f_RX1_25 (gC_p G.1) rfl ?_
          refine e_iconst (v := oI 0) m_X1_define dX1_define_61 (by decide) ?_
          refine e_oieq (t := 72) (a := (s_gw s7)) (b := 0) hN m_X1_define dX1_define_62 (by decide) (fun q8 hN => ?_) (fun q8 hN => ?_)
          · refine e_aload_n m_X1_define dX1_define_72 rfl rfl rfl ?_
            refine e_iload_n m_X1_define dX1_define_73 rfl rfl ?_
            refine e_iload m_X1_define dX1_define_74 rfl ?_
            refine e_cvU (as := [.int (nI x1), .int (nI (s_at s3))]) hN m_X1_define dX1_define_76 c_RX1_246 (by decide) rfl rfl (gC_p G.1) rfl (Nat.le_of_ble_eq_true rfl) (Nat.le_of_ble_eq_true rfl) (by omega) (i_X1_restOfExprs IH (by omega)) (fun v9 s9 hN => ?_)
            refine e_aload_n m_X1_define dX1_define_79 rfl rfl rfl ?_
            refine e_getf m_X1_define dX1_define_80 f_RX1_17 (gC_p G.1) rfl ?_
            refine e_bipush (v := nI 56) m_X1_define dX1_define_83 (by decide) ?_
            refine e_iload_n m_X1_define dX1_define_85 rfl rfl ?_
            refine e_iconst (v := nI 2) m_X1_define dX1_define_86 (by decide) ?_
            refine e_cvU (as := [.int (nI 56), .int (nI v1), .int (nI 2)]) hN m_X1_define dX1_define_87 c_RX1_69 (by decide) rfl rfl (gC_r G.1) rfl (Nat.le_of_ble_eq_true rfl) (Nat.le_of_ble_eq_true rfl) (by omega) (w_X3_put G (by omega)) (fun v10 s10 hN => ?_)
            refine e_iconst (v := nI 1) m_X1_define dX1_define_90 (by decide) ?_
            exact e_reti m_X1_define dX1_define_91 (Or.inl rfl)
          · refine e_aload_n m_X1_define dX1_define_65 rfl rfl rfl ?_
            refine e_iconst (v := nI 2) m_X1_define dX1_define_66 (by decide) ?_
            refine e_cvU (as := [.int (nI 2)]) hN m_X1_define dX1_define_67 c_RX1_231 (by decide) rfl rfl (gC_p G.1) rfl (Nat.le_of_ble_eq_true rfl) (Nat.le_of_ble_eq_true rfl) (by omega) (w_X1_putGuard G (by omega)) (fun v11 s11 hN => ?_)
            refine e_iconst (v := nI 3) m_X1_define dX1_define_70 (by decide) ?_
            exact e_reti m_X1_define dX1_define_71 (Or.inl rfl)
        · refine e_iconst (v := nI 0) m_X1_define dX1_define_53 (by decide) ?_
          refine e_cvU (as := [.int (nI 0)]) hN m_X1_define dX1_define_54 c_RX1_181 (by decide) rfl rfl (gC_p G.1) rfl (Nat.le_of_ble_eq_true rfl) (Nat.le_of_ble_eq_true rfl) (by omega) (i_X1_expr IH (by omega)) (fun v12 s12 hN => ?_)
          refine e_aload_n m_X1_define dX1_define_57 rfl rfl rfl ?_
          refine e_getf m_X1_define dX1_define_58 f_RX1_25 (gC_p G.1) rfl ?_
          refine e_iconst (v := oI 0) m_X1_define dX1_define_61 (by decide) ?_
          refine e_oieq (t := 72) (a := (s_gw s12)) (b := 0) hN m_X1_define dX1_define_62 (by decide) (fun q13 hN => ?_) (fun q13 hN => ?_)
          · refine e_aload_n m_X1_define dX1_define_72 rfl rfl rfl ?_
            refine e_iload_n m_X1_define dX1_define_73 rfl rfl ?_
            refine e_iload m_X1_define dX1_define_74 rfl ?_
            refine e_cvU (as := [.int (nI x1), .int (nI (s_at s3))]) hN m_X1_define dX1_define_76 c_RX1_246 (by decide) rfl rfl (gC_p G.1) rfl (Nat.le_of_ble_eq_true rfl) (Nat.le_of_ble_eq_true rfl) (by omega) (i_X1_restOfExprs IH (by omega)) (fun v14 s14 hN => ?_)
            refine e_aload_n m_X1_define dX1_define_79 rfl rfl rfl ?_
            refine e_getf m_X1_define dX1_define_80 f_RX1_17 (gC_p G.1) rfl ?_
            refine e_bipush (v := nI 56) m_X1_define dX1_define_83 (by decide) ?_
            refine e_iload_n m_X1_define dX1_define_85 rfl rfl ?_
            refine e_iconst (v := nI 2) m_X1_define dX1_define_86 (by decide) ?_
            refine e_cvU (as := [.int (nI 56), .int (nI v1), .int (nI 2)]) hN m_X1_define dX1_define_87 c_RX1_69 (by decide) rfl rfl (gC_r G.1) rfl (Nat.le_of_ble_eq_true rfl) (Nat.le_of_ble_eq_true rfl) (by omega) (w_X3_put G (by omega)) (fun v15 s15 hN => ?_)
            refine e_iconst (v := nI 1) m_X1_define dX1_define_90 (by decide) ?_
            exact e_reti m_X1_define dX1_define_91 (Or.inl rfl)
          · refine e_aload_n m_X1_define dX1_define_65 rfl rfl rfl ?_
            refine e_iconst (v := nI 2) m_X1_define dX1_define_66 (by decide) ?_
            refine e_cvU (as := [.int (nI 2)]) hN m_X1_define dX1_define_67 c_RX1_231 (by decide) rfl rfl (gC_p G.1) rfl (Nat.le_of_ble_eq_true rfl) (Nat.le_of_ble_eq_true rfl) (by omega) (w_X1_putGuard G (by omega)) (fun v16 s16 hN => ?_)
            refine e_iconst (v := nI 3) m_X1_define dX1_define_70 (by decide) ?_
            exact e_reti m_X1_define dX1_define_71 (Or.inl rfl)
      · refine e_iconst (v := nI 0) m_X1_define dX1_define_53 (by decide) ?_
        refine e_cvU (as := [.int (nI 0)]) hN m_X1_define dX1_define_54 c_RX1_181 (by decide) rfl rfl (gC_p G.1) rfl (Nat.le_of_ble_eq_true rfl) (Nat.le_of_ble_eq_true rfl) (by omega) (i_X1_expr IH (by omega)) (fun v17 s17 hN => ?_)
        refine e_aload_n m_X1_define dX1_define_57 rfl rfl rfl ?_
        refine e_getf m_X1_define dX1_define_58 f_RX1_25 (gC_p G.1) rfl ?_
        refine e_iconst (v := oI 0) m_X1_define dX1_define_61 (by decide) ?_
        refine e_oieq (t := 72) (a := (s_gw s17)) (b := 0) hN m_X1_define dX1_define_62 (by decide) (fun q18 hN => ?_) (fun q18 hN => ?_)
        · refine e_aload_n m_X1_define dX1_define_72 rfl rfl rfl ?_
          refine e_iload_n m_X1_define dX1_define_73 rfl rfl ?_
          refine e_iload m_X1_define dX1_define_74 rfl ?_
          refine e_cvU (as := [.int (nI x1), .int (nI (s_at s3))]) hN m_X1_define dX1_define_76 c_RX1_246 (by decide) rfl rfl (gC_p G.1) rfl (Nat.le_of_ble_eq_true rfl) (Nat.le_of_ble_eq_true rfl) (by omega) (i_X1_restOfExprs IH (by omega)) (fun v19 s19 hN => ?_)
          refine e_aload_n m_X1_define dX1_define_79 rfl rfl rfl ?_
          refine e_getf m_X1_define dX1_define_80 f_RX1_17 (gC_p G.1) rfl ?_
          refine e_bipush (v := nI 56) m_X1_define dX1_define_83 (by decide) ?_
          refine e_iload_n m_X1_define dX1_define_85 rfl rfl ?_
          refine e_iconst (v := nI 2) m_X1_define dX1_define_86 (by decide) ?_
          refine e_cvU (as := [.int (nI 56), .int (nI v1), .int (nI 2)]) hN m_X1_define dX1_define_87 c_RX1_69 (by decide) rfl rfl (gC_r G.1) rfl (Nat.le_of_ble_eq_true rfl) (Nat.le_of_ble_eq_true rfl) (by omega) (w_X3_put G (by omega)) (fun v20 s20 hN => ?_)
          refine e_iconst (v := nI 1) m_X1_define dX1_define_90 (by decide) ?_
          exact e_reti m_X1_define dX1_define_91 (Or.inl rfl)
        · refine e_aload_n m_X1_define dX1_define_65 rfl rfl rfl ?_
          refine e_iconst (v := nI 2) m_X1_define dX1_define_66 (by decide) ?_
          refine e_cvU (as := [.int (nI 2)]) hN m_X1_define dX1_define_67 c_RX1_231 (by decide) rfl rfl (gC_p G.1) rfl (Nat.le_of_ble_eq_true rfl) (Nat.le_of_ble_eq_true rfl) (by omega) (w_X1_putGuard G (by omega)) (fun v21 s21 hN => ?_)
          refine e_iconst (v := nI 3) m_X1_define dX1_define_70 (by decide) ?_
          exact e_reti m_X1_define dX1_define_71 (Or.inl rfl)
    · refine e_aload_n m_X1_define dX1_define_19 rfl rfl rfl ?_
      refine e_getf m_X1_define dX1_define_20 f_RX1_17 (gC_p G.1) rfl ?_
      refine e_bipush (v := nI 67) m_X1_define dX1_define_23 (by decide) ?_
      refine e_iload_n m_X1_define dX1_define_25 rfl rfl ?_
      refine e_iconst (v := nI 1) m_X1_define dX1_define_26 (by decide) ?_
      refine e_cvU (as := [.int (nI 67), .int (nI v1), .int (nI 1)]) hN m_X1_define dX1_define_27 c_RX1_69 (by decide) rfl rfl (gC_r G.1) rfl (Nat.le_of_ble_eq_true rfl) (Nat.le_of_ble_eq_true rfl) (by omega) (w_X3_put G (by omega)) (fun v22 s22 hN => ?_)
      refine e_iconst (v := nI 2) m_X1_define dX1_define_30 (by decide) ?_
      exact e_reti m_X1_define dX1_define_31 (Or.inl rfl)
  · refine e_aload_n m_X1_define dX1_define_32 rfl rfl rfl ?_
    refine e_getf m_X1_define dX1_define_33 f_RX1_43 (gC_p G.1) rfl ?_
    refine e_istore m_X1_define dX1_define_36 (by decide) rfl ?_
    refine e_aload_n m_X1_define dX1_define_38 rfl rfl rfl ?_
    refine e_iload_n m_X1_define dX1_define_39 rfl rfl ?_
    refine e_iconst (v := nI 4) m_X1_define dX1_define_40 (by decide) ?_
    refine e_ine (t := 53) (a := x1) (b := 4) hN m_X1_define dX1_define_41 (by decide) (fun q23 hN => ?_) (fun q23 hN => ?_)
    · refine e_iload_n m_X1_define dX1_define_44 rfl rfl ?_
      refine e_iconst (v := nI 1) m_X1_define dX1_define_45 (by decide) ?_
      refine e_ine (t := 53) (a := x2) (b := 1) hN m_X1_define dX1_define_46 (by decide) (fun q24 hN => ?_) (fun q24 hN => ?_)
      · refine e_iconst (v := nI 1) m_X1_define dX1_define_49 (by decide) ?_
        refine e_goto (t := 54) m_X1_define dX1_define_50 (by decide) ?_
        refine e_cvU (as := [.int (nI 1)]) hN m_X1_define dX1_define_54 c_RX1_181 (by decide) rfl rfl (gC_p G.1) rfl (Nat.le_of_ble_eq_true rfl) (Nat.le_of_ble_eq_true rfl) (by omega) (i_X1_expr IH (by omega)) (fun v25 s25 hN => ?_)
        refine e_aload_n m_X1_define dX1_define_57 rfl rfl rfl ?_
        refine e_getf m_X1_define dX1_define_58 f_RX1_25 (gC_p G.1) rfl ?_
        refine e_iconst (v := oI 0) m_X1_define dX1_define_61 (by decide) ?_
        refine e_oieq (t := 72) (a := (s_gw s25)) (b := 0) hN m_X1_define dX1_define_62 (by decide) (fun q26 hN => ?_) (fun q26 hN => ?_)
        · refine e_aload_n m_X1_define dX1_define_72 rfl rfl rfl ?_
          refine e_iload_n m_X1_define dX1_define_73 rfl rfl ?_
          refine e_iload m_X1_define dX1_define_74 rfl ?_
          refine e_cvU (as := [.int (nI x1), .int (nI (s_at s1))]) hN m_X1_define dX1_define_76 c_RX1_246 (by decide) rfl rfl (gC_p G.1) rfl (Nat.le_of_ble_eq_true rfl) (Nat.le_of_ble_eq_true rfl) (by omega) (i_X1_restOfExprs IH (by omega)) (fun v27 s27 hN => ?_)
          refine e_aload_n m_X1_define dX1_define_79 rfl rfl rfl ?_
          refine e_getf m_X1_define dX1_define_80 f_RX1_17 (gC_p G.1) rfl ?_
          refine e_bipush (v := nI 56) m_X1_define dX1_define_83 (by decide) ?_
          refine e_iload_n m_X1_define dX1_define_85 rfl rfl ?_
          refine e_iconst (v := nI 2) m_X1_define dX1_define_86 (by decide) ?_
          refine e_cvU (as := [.int (nI 56), .int (nI v1), .int (nI 2)]) hN m_X1_define dX1_define_87 c_RX1_69 (by decide) rfl rfl (gC_r G.1) rfl (Nat.le_of_ble_eq_true rfl) (Nat.le_of_ble_eq_true rfl) (by omega) (w_X3_put G (by omega)) (fun v28 s28 hN => ?_)
          refine e_iconst (v := nI 1) m_X1_define dX1_define_90 (by decide) ?_
          exact e_reti m_X1_define dX1_define_91 (Or.inl rfl)
        · refine e_aload_n m_X1_define dX1_define_65 rfl rfl rfl ?_
          refine e_iconst (v := nI 2) m_X1_define dX1_define_66 (by decide) ?_
          refine e_cvU (as := [.int (nI 2)]) hN m_X1_define dX1_define_67 c_RX1_231 (by decide) rfl rfl (gC_p G.1) rfl (Nat.le_of_ble_eq_true rfl) (Nat.le_of_ble_eq_true rfl) (by omega) (w_X1_putGuard G (by omega)) (fun v29 s29 hN => ?_)
          refine e_iconst (v := nI 3) m_X1_define dX1_define_70 (by decide) ?_
          exact e_reti m_X1_define dX1_define_71 (Or.inl rfl)
      · refine e_iconst (v := nI 0) m_X1_define dX1_define_53 (by decide) ?_
        refine e_cvU (as := [.int (nI 0)]) hN m_X1_define dX1_define_54 c_RX1_181 (by decide) rfl rfl (gC_p G.1) rfl (Nat.le_of_ble_eq_true rfl) (Nat.le_of_ble_eq_true rfl) (by omega) (i_X1_expr IH (by omega)) (fun v30 s30 hN => ?_)
        refine e_aload_n m_X1_define dX1_define_57 rfl rfl rfl ?_
        refine e_getf m_X1_define dX1_define_58 f_RX1_25 (gC_p G.1) rfl ?_
        refine e_iconst (v := oI 0) m_X1_define dX1_define_61 (by decide) ?_
        refine e_oieq (t := 72) (a := (s_gw s30)) (b := 0) hN m_X1_define dX1_define_62 (by decide) (fun q31 hN => ?_) (fun q31 hN => ?_)
        · refine e_aload_n m_X1_define dX1_define_72 rfl rfl rfl ?_
          refine e_iload_n m_X1_define dX1_define_73 rfl rfl ?_
          refine e_iload m_X1_define dX1_define_74 rfl ?_
          refine e_cvU (as := [.int (nI x1), .int (nI (s_at s1))]) hN m_X1_define dX1_define_76 c_RX1_246 (by decide) rfl rfl (gC_p G.1) rfl (Nat.le_of_ble_eq_true rfl) (Nat.le_of_ble_eq_true rfl) (by omega) (i_X1_restOfExprs IH (by omega)) (fun v32 s32 hN => ?_)
          refine e_aload_n m_X1_define dX1_define_79 rfl rfl rfl ?_
          refine e_getf m_X1_define dX1_define_80 f_RX1_17 (gC_p G.1) rfl ?_
          refine e_bipush (v := nI 56) m_X1_define dX1_define_83 (by decide) ?_
          refine e_iload_n m_X1_define dX1_define_85 rfl rfl ?_
          refine e_iconst (v := nI 2) m_X1_define dX1_define_86 (by decide) ?_
          refine e_cvU (as := [.int (nI 56), .int (nI v1), .int (nI 2)]) hN m_X1_define dX1_define_87 c_RX1_69 (by decide) rfl rfl (gC_r G.1) rfl (Nat.le_of_ble_eq_true rfl) (Nat.le_of_ble_eq_true rfl) (by omega) (w_X3_put G (by omega)) (fun v33 s33 hN => ?_)
          refine e_iconst (v := nI 1) m_X1_define dX1_define_90 (by decide) ?_
          exact e_reti m_X1_define dX1_define_91 (Or.inl rfl)
        · refine e_aload_n m_X1_define dX1_define_65 rfl rfl rfl ?_
          refine e_iconst (v := nI 2) m_X1_define dX1_define_66 (by decide) ?_
          refine e_cvU (as := [.int (nI 2)]) hN m_X1_define dX1_define_67 c_RX1_231 (by decide) rfl rfl (gC_p G.1) rfl (Nat.le_of_ble_eq_true rfl) (Nat.le_of_ble_eq_true rfl) (by omega) (w_X1_putGuard G (by omega)) (fun v34 s34 hN => ?_)
          refine e_iconst (v := nI 3) m_X1_define dX1_define_70 (by decide) ?_
          exact e_reti m_X1_define dX1_define_71 (Or.inl rfl)
    · refine e_iconst (v := nI 0) m_X1_define dX1_define_53 (by decide) ?_
      refine e_cvU (as := [.int (nI 0)]) hN m_X1_define dX1_define_54 c_RX1_181 (by decide) rfl rfl (gC_p G.1) rfl (Nat.le_of_ble_eq_true rfl) (Nat.le_of_ble_eq_true rfl) (by omega) (i_X1_expr IH (by omega)) (fun v35 s35 hN => ?_)
      refine e_aload_n m_X1_define dX1_define_57 rfl rfl rfl ?_
      refine e_getf m_X1_define dX1_define_58 f_RX1_25 (gC_p G.1) rfl ?_
      refine e_iconst (v := oI 0) m_X1_define dX1_define_61 (by decide) ?_
      refine e_oieq (t := 72) (a := (s_gw s35)) (b := 0) hN m_X1_define dX1_define_62 (by decide) (fun q36 hN => ?_) (fun q36 hN => ?_)
      · refine e_aload_n m_X1_define dX1_define_72 rfl rfl rfl ?_
        refine e_iload_n m_X1_define dX1_define_73 rfl rfl ?_
        refine e_iload m_X1_define dX1_define_74 rfl ?_
        refine e_cvU (as := [.int (nI x1), .int (nI (s_at s1))]) hN m_X1_define dX1_define_76 c_RX1_246 (by decide) rfl rfl (gC_p G.1) rfl (Nat.le_of_ble_eq_true rfl) (Nat.le_of_ble_eq_true rfl) (by omega) (i_X1_restOfExprs IH (by omega)) (fun v37 s37 hN => ?_)
        refine e_aload_n m_X1_define dX1_define_79 rfl rfl rfl ?_
        refine e_getf m_X1_define dX1_define_80 f_RX1_17 (gC_p G.1) rfl ?_
        refine e_bipush (v := nI 56) m_X1_define dX1_define_83 (by decide) ?_
        refine e_iload_n m_X1_define dX1_define_85 rfl rfl ?_
        refine e_iconst (v := nI 2) m_X1_define dX1_define_86 (by decide) ?_
        refine e_cvU (as := [.int (nI 56), .int (nI v1), .int (nI 2)]) hN m_X1_define dX1_define_87 c_RX1_69 (by decide) rfl rfl (gC_r G.1) rfl (Nat.le_of_ble_eq_true rfl) (Nat.le_of_ble_eq_true rfl) (by omega) (w_X3_put G (by omega)) (fun v38 s38 hN => ?_)
        refine e_iconst (v := nI 1) m_X1_define dX1_define_90 (by decide) ?_
        exact e_reti m_X1_define dX1_define_91 (Or.inl rfl)
      · refine e_aload_n m_X1_define dX1_define_65 rfl rfl rfl ?_
        refine e_iconst (v := nI 2) m_X1_define dX1_define_66 (by decide) ?_
        refine e_cvU (as := [.int (nI 2)]) hN m_X1_define dX1_define_67 c_RX1_231 (by decide) rfl rfl (gC_p G.1) rfl (Nat.le_of_ble_eq_true rfl) (Nat.le_of_ble_eq_true rfl) (by omega) (w_X1_putGuard G (by omega)) (fun v39 s39 hN => ?_)
        refine e_iconst (v := nI 3) m_X1_define dX1_define_70 (by decide) ?_
        exact e_reti m_X1_define dX1_define_71 (Or.inl rfl)

def b_X1_behindExpr (K : Nat → Nat) (N : Nat) (rc : Nat → Nat → Nat → Ss → Rs Ss) (x1 : Nat) (s : Ss) : Rs Ss := bn (q_sees K 64 s) (fun v1 s1 => ifz v1 (ife x1 5 (okR 0 s1) (bn (q_sees K 65 s1) (fun v4 s4 => ifz v4 (bn (q_sees K 66 s4) (fun v6 s6 => ifz v6 (ck ((K (s_at s6)) < 2147483648) (ifz (f_X0_isOpAssign (K (s_at s6))) (okR 0 s6) (bn (q_take s6) (fun v10 s10 => bn (rc 29 0 0 s10) (fun v11 s11 => bn (b_X3_put K N 55 v10 2 s11) (fun v12 s12 => okR 1 s12)))))) (bn (q_take s6) (fun v13 s13 => bn (b_X3_put K N 53 v13 1 s13) (fun v14 s14 => okR 1 s14))))) (bn (q_take s4) (fun v15 s15 => bn (b_X3_put K N 52 v15 1 s15) (fun v16 s16 => okR 1 s16)))))) (bn (q_take s1) (fun v17 s17 => bn (rc 29 0 0 s17) (fun v18 s18 => bn (b_X3_put K N 51 v17 2 s18) (fun v19 s19 => okR 1 s19)))))
theorem w_X1_behindExpr {xs : Nat → Int32} {L : Nat} {h0 : mm_H} {a p N cnt : Nat} {ks : Nat → Nat} (G : Cg h0 a p N cnt ks) {n : Nat} {rc : Nat → Nat → Nat → Ss → Rs Ss} (IH : Hr xs L h0 a p N cnt ks n rc) {x1 : Nat} {s : Ss} {d : Nat} (hd : n + 17 ≤ d) (hN : b_X1_behindExpr (kA cnt ks) N rc x1 s ≠ none) : Rn xs L d 67 [.ref p, .int (nI x1)] (TC h0 a p N cnt ks s) (ou eN (TC h0 a p N cnt ks) (b_X1_behindExpr (kA cnt ks) N rc x1 s)) := by
  unfold Rn
  unfold b_X1_behindExpr at hN ⊢
  refine e_aload_n m_X1_behindExpr dX1_behindExpr_0 rfl rfl rfl ?_
  refine e_bipush (v := nI 64) m_X1_behindExpr dX1_behindExpr_1 (by decide) ?_
  refine e_cvN (as := [.int (nI 64)]) hN m_X1_behindExpr dX1_behindExpr_3 c_RX1_46 (by decide) rfl rfl (gC_p G.1) rfl (Nat.le_of_ble_eq_true rfl) (Nat.le_of_ble_eq_true rfl) (by omega) (t_sees G (by omega)) (fun v1 s1 hN => ?_)
  refine e_ifeq (t := 32) hN m_X1_behindExpr dX1_behindExpr_6 (by decide) (fun q2 hN => ?_) (fun q2 hN => ?_)
  · refine e_iload_n m_X1_behindExpr dX1_behindExpr_32 rfl rfl ?_
    refine e_iconst (v := nI 5) m_X1_behindExpr dX1_behindExpr_33 (by decide) ?_
    refine e_ine (t := 39) (a := x1) (b := 5) hN m_X1_behindExpr dX1_behindExpr_34 (by decide) (fun q3 hN => ?_) (fun q3 hN => ?_)
    · refine e_iconst (v := nI 0) m_X1_behindExpr dX1_behindExpr_37 (by decide) ?_
      exact e_reti m_X1_behindExpr dX1_behindExpr_38 (Or.inl rfl)
    · refine e_aload_n m_X1_behindExpr dX1_behindExpr_39 rfl rfl rfl ?_
      refine e_bipush (v := nI 65) m_X1_behindExpr dX1_behindExpr_40 (by decide) ?_
      refine e_cvN (as := [.int (nI 65)]) hN m_X1_behindExpr dX1_behindExpr_42 c_RX1_46 (by decide) rfl rfl (gC_p G.1) rfl (Nat.le_of_ble_eq_true rfl) (Nat.le_of_ble_eq_true rfl) (by omega) (t_sees G (by omega)) (fun v4 s4 hN => ?_)
      refine e_ifeq (t := 64) hN m_X1_behindExpr dX1_behindExpr_45 (by decide) (fun q5 hN => ?_) (fun q5 hN => ?_)
      · refine e_aload_n m_X1_behindExpr dX1_behindExpr_64 rfl rfl rfl ?_
        refine e_bipush (v := nI 66) m_X1_behindExpr dX1_behindExpr_65 (by decide) ?_
        refine e_cvN (as := [.int (nI 66)]) hN m_X1_behindExpr dX1_behindExpr_67 c_RX1_46 (by decide) rfl rfl (gC_p G.1) rfl (Nat.le_of_ble_eq_true rfl) (Nat.le_of_ble_eq_true rfl) (by omega) (t_sees G (by omega)) (fun v6 s6 hN => ?_)
        refine e_ifeq (t := 89) hN m_X1_behindExpr dX1_behindExpr_70 (by decide) (fun q7 hN => ?_) (fun q7 hN => ?_)
        · refine e_aload_n m_X1_behindExpr dX1_behindExpr_89 rfl rfl rfl ?_
          refine e_getf m_X1_behindExpr dX1_behindExpr_90 f_RX1_33 (gC_p G.1) rfl ?_
          refine e_ck hN (fun q8 hN => ?_)
          refine e_cs (as := [_]) m_X1_behindExpr dX1_behindExpr_93 c_RX1_250 (by decide) rfl rfl (Nat.le_of_ble_eq_true rfl) (Nat.le_of_ble_eq_true rfl) (by omega) (z_X0_isOpAssign q8 (by omega)) ?_
          refine e_ifeq (t := 122) hN m_X1_behindExpr dX1_behindExpr_96 (by decide) (fun q9 hN => ?_) (fun q9 hN => ?_)
          · refine e_iconst (v := nI 0) m_X1_behindExpr dX1_behindExpr_122 (by decide) ?_
            exact e_reti m_X1_behindExpr dX1_behindExpr_123 (Or.inl rfl)
          · refine e_aload_n m_X1_behindExpr dX1_behindExpr_99 rfl rfl rfl ?_
            refine e_cvN (as := []) hN m_X1_behindExpr dX1_behindExpr_100 c_RX1_50 (by decide) rfl rfl (gC_p G.1) rfl (Nat.le_of_ble_eq_true rfl) (Nat.le_of_ble_eq_true rfl) (by omega) (t_take G (by omega)) (fun v10 s10 hN => ?_)
            refine e_istore_n m_X1_behindExpr dX1_behindExpr_103 rfl (by decide) rfl ?_
            refine e_aload_n m_X1_behindExpr dX1_behindExpr_104 rfl rfl rfl ?_
            refine e_iconst (v := nI 0) m_X1_behindExpr dX1_behindExpr_105 (by decide) ?_
            refine e_cvU (as := [.int (nI 0)]) hN m_X1_behindExpr dX1_behindExpr_106 c_RX1_181 (by decide) rfl rfl (gC_p G.1) rfl (Nat.le_of_ble_eq_true rfl) (Nat.le_of_ble_eq_true rfl) (by omega) (i_X1_expr IH (by omega)) (fun v11 s11 hN => ?_)
            refine e_aload_n m_X1_behindExpr dX1_behindExpr_109 rfl rfl rfl ?_
            refine e_getf m_X1_behindExpr dX1_behindExpr_110 f_RX1_17 (gC_p G.1) rfl ?_
            refine e_bipush (v := nI 55) m_X1_behindExpr dX1_behindExpr_113 (by decide) ?_
            refine e_iload_n m_X1_behindExpr dX1_behindExpr_115 rfl rfl ?_
            refine e_iconst (v := nI 2) m_X1_behindExpr dX1_behindExpr_116 (by decide) ?_
            refine e_cvU (as := [.int (nI 55), .int (nI v10), .int (nI 2)]) hN m_X1_behindExpr dX1_behindExpr_117 c_RX1_69 (by decide) rfl rfl (gC_r G.1) rfl (Nat.le_of_ble_eq_true rfl) (Nat.le_of_ble_eq_true rfl) (by omega) (w_X3_put G (by omega)) (fun v12 s12 hN => ?_)
            refine e_iconst (v := nI 1) m_X1_behindExpr dX1_behindExpr_120 (by decide) ?_
            exact e_reti m_X1_behindExpr dX1_behindExpr_121 (Or.inl rfl)
        · refine e_aload_n m_X1_behindExpr dX1_behindExpr_73 rfl rfl rfl ?_
          refine e_getf m_X1_behindExpr dX1_behindExpr_74 f_RX1_17 (gC_p G.1) rfl ?_
          refine e_bipush (v := nI 53) m_X1_behindExpr dX1_behindExpr_77 (by decide) ?_
          refine e_aload_n m_X1_behindExpr dX1_behindExpr_79 rfl rfl rfl ?_
          refine e_cvN (as := []) hN m_X1_behindExpr dX1_behindExpr_80 c_RX1_50 (by decide) rfl rfl (gC_p G.1) rfl (Nat.le_of_ble_eq_true rfl) (Nat.le_of_ble_eq_true rfl) (by omega) (t_take G (by omega)) (fun v13 s13 hN => ?_)
          refine e_iconst (v := nI 1) m_X1_behindExpr dX1_behindExpr_83 (by decide) ?_
          refine e_cvU (as := [.int (nI 53), .int (nI v13), .int (nI 1)]) hN m_X1_behindExpr dX1_behindExpr_84 c_RX1_69 (by decide) rfl rfl (gC_r G.1) rfl (Nat.le_of_ble_eq_true rfl) (Nat.le_of_ble_eq_true rfl) (by omega) (w_X3_put G (by omega)) (fun v14 s14 hN => ?_)
          refine e_iconst (v := nI 1) m_X1_behindExpr dX1_behindExpr_87 (by decide) ?_
          exact e_reti m_X1_behindExpr dX1_behindExpr_88 (Or.inl rfl)
      · refine e_aload_n m_X1_behindExpr dX1_behindExpr_48 rfl rfl rfl ?_
        refine e_getf m_X1_behindExpr dX1_behindExpr_49 f_RX1_17 (gC_p G.1) rfl ?_
        refine e_bipush (v := nI 52) m_X1_behindExpr dX1_behindExpr_52 (by decide) ?_
        refine e_aload_n m_X1_behindExpr dX1_behindExpr_54 rfl rfl rfl ?_
        refine e_cvN (as := []) hN m_X1_behindExpr dX1_behindExpr_55 c_RX1_50 (by decide) rfl rfl (gC_p G.1) rfl (Nat.le_of_ble_eq_true rfl) (Nat.le_of_ble_eq_true rfl) (by omega) (t_take G (by omega)) (fun v15 s15 hN => ?_)
        refine e_iconst (v := nI 1) m_X1_behindExpr dX1_behindExpr_58 (by decide) ?_
        refine e_cvU (as := [.int (nI 52), .int (nI v15), .int (nI 1)]) hN m_X1_behindExpr dX1_behindExpr_59 c_RX1_69 (by decide) rfl rfl (gC_r G.1) rfl (Nat.le_of_ble_eq_true rfl) (Nat.le_of_ble_eq_true rfl) (by omega) (w_X3_put G (by omega)) (fun v16 s16 hN => ?_)
        refine e_iconst (v := nI 1) m_X1_behindExpr dX1_behindExpr_62 (by decide) ?_
        exact e_reti m_X1_behindExpr dX1_behindExpr_63 (Or.inl rfl)
  · refine e_aload_n m_X1_behindExpr dX1_behindExpr_9 rfl rfl rfl ?_
    refine e_cvN (as := []) hN m_X1_behindExpr dX1_behindExpr_10 c_RX1_50 (by decide) rfl rfl (gC_p G.1) rfl (Nat.le_of_ble_eq_true rfl) (Nat.le_of_ble_eq_true rfl) (by omega) (t_take G (by omega)) (fun v17 s17 hN => ?_)
    refine e_istore_n m_X1_behindExpr dX1_behindExpr_13 rfl (by decide) rfl ?_
    refine e_aload_n m_X1_behindExpr dX1_behindExpr_14 rfl rfl rfl ?_
    refine e_iconst (v := nI 0) m_X1_behindExpr dX1_behindExpr_15 (by decide) ?_
    refine e_cvU (as := [.int (nI 0)]) hN m_X1_behindExpr dX1_behindExpr_16 c_RX1_181 (by decide) rfl rfl (gC_p G.1) rfl (Nat.le_of_ble_eq_true rfl) (Nat.le_of_ble_eq_true rfl) (by omega) (i_X1_expr IH (by omega)) (fun v18 s18 hN => ?_)
    refine e_aload_n m_X1_behindExpr dX1_behindExpr_19 rfl rfl rfl ?_
    refine e_getf m_X1_behindExpr dX1_behindExpr_20 f_RX1_17 (gC_p G.1) rfl ?_
    refine e_bipush (v := nI 51) m_X1_behindExpr dX1_behindExpr_23 (by decide) ?_
    refine e_iload_n m_X1_behindExpr dX1_behindExpr_25 rfl rfl ?_
    refine e_iconst (v := nI 2) m_X1_behindExpr dX1_behindExpr_26 (by decide) ?_
    refine e_cvU (as := [.int (nI 51), .int (nI v17), .int (nI 2)]) hN m_X1_behindExpr dX1_behindExpr_27 c_RX1_69 (by decide) rfl rfl (gC_r G.1) rfl (Nat.le_of_ble_eq_true rfl) (Nat.le_of_ble_eq_true rfl) (by omega) (w_X3_put G (by omega)) (fun v19 s19 hN => ?_)
    refine e_iconst (v := nI 1) m_X1_behindExpr dX1_behindExpr_30 (by decide) ?_
    exact e_reti m_X1_behindExpr dX1_behindExpr_31 (Or.inl rfl)

def b_X1_elseBranch (K : Nat → Nat) (N : Nat) (rc : Nat → Nat → Nat → Ss → Rs Ss) (s : Ss) : Rs Ss := bn (b_X1_enter K N 17 s) (fun v1 s1 => bn (q_sees K 23 s1) (fun v2 s2 => ifz v2 (bn (rc 47 0 0 s2) (fun v4 s4 => bn (b_X1_closePart K N  s4) (fun v5 s5 => okR 0 s5))) (bn (rc 60 0 0 s2) (fun v6 s6 => bn (b_X1_closePart K N  s6) (fun v7 s7 => okR 0 s7)))))
theorem w_X1_elseBranch {xs : Nat → Int32} {L : Nat} {h0 : mm_H} {a p N cnt : Nat} {ks : Nat → Nat} (G : Cg h0 a p N cnt ks) {n : Nat} {rc : Nat → Nat → Nat → Ss → Rs Ss} (IH : Hr xs L h0 a p N cnt ks n rc) {s : Ss} {d : Nat} (hd : n + 17 ≤ d) (hN : b_X1_elseBranch (kA cnt ks) N rc s ≠ none) : Rn xs L d 69 [.ref p] (TC h0 a p N cnt ks s) (ou eU (TC h0 a p N cnt ks) (b_X1_elseBranch (kA cnt ks) N rc s)) := by
  unfold Rn
  unfold b_X1_elseBranch at hN ⊢
  refine e_aload_n m_X1_elseBranch dX1_elseBranch_0 rfl rfl rfl ?_
  refine e_bipush (v := nI 17) m_X1_elseBranch dX1_elseBranch_1 (by decide) ?_
  refine e_cvN (as := [.int (nI 17)]) hN m_X1_elseBranch dX1_elseBranch_3 c_RX1_100 (by decide) rfl rfl (gC_p G.1) rfl (Nat.le_of_ble_eq_true rfl) (Nat.le_of_ble_eq_true rfl) (by omega) (w_X1_enter G (by omega)) (fun v1 s1 hN => ?_)
  refine e_pop m_X1_elseBranch dX1_elseBranch_6 rfl ?_
  refine e_aload_n m_X1_elseBranch dX1_elseBranch_7 rfl rfl rfl ?_
  refine e_bipush (v := nI 23) m_X1_elseBranch dX1_elseBranch_8 (by decide) ?_
  refine e_cvN (as := [.int (nI 23)]) hN m_X1_elseBranch dX1_elseBranch_10 c_RX1_46 (by decide) rfl rfl (gC_p G.1) rfl (Nat.le_of_ble_eq_true rfl) (Nat.le_of_ble_eq_true rfl) (by omega) (t_sees G (by omega)) (fun v2 s2 hN => ?_)
  refine e_ifeq (t := 23) hN m_X1_elseBranch dX1_elseBranch_13 (by decide) (fun q3 hN => ?_) (fun q3 hN => ?_)
  · refine e_aload_n m_X1_elseBranch dX1_elseBranch_23 rfl rfl rfl ?_
    refine e_cvU (as := []) hN m_X1_elseBranch dX1_elseBranch_24 c_RX1_97 (by decide) rfl rfl (gC_p G.1) rfl (Nat.le_of_ble_eq_true rfl) (Nat.le_of_ble_eq_true rfl) (by omega) (i_X1_block IH (by omega)) (fun v4 s4 hN => ?_)
    refine e_aload_n m_X1_elseBranch dX1_elseBranch_27 rfl rfl rfl ?_
    refine e_cvU (as := []) hN m_X1_elseBranch dX1_elseBranch_28 c_RX1_66 (by decide) rfl rfl (gC_p G.1) rfl (Nat.le_of_ble_eq_true rfl) (Nat.le_of_ble_eq_true rfl) (by omega) (w_X1_closePart G (by omega)) (fun v5 s5 hN => ?_)
    exact e_ret0 m_X1_elseBranch dX1_elseBranch_31
  · refine e_aload_n m_X1_elseBranch dX1_elseBranch_16 rfl rfl rfl ?_
    refine e_cvU (as := []) hN m_X1_elseBranch dX1_elseBranch_17 c_RX1_192 (by decide) rfl rfl (gC_p G.1) rfl (Nat.le_of_ble_eq_true rfl) (Nat.le_of_ble_eq_true rfl) (by omega) (i_X1_ifStmt IH (by omega)) (fun v6 s6 hN => ?_)
    refine e_goto (t := 27) m_X1_elseBranch dX1_elseBranch_20 (by decide) ?_
    refine e_aload_n m_X1_elseBranch dX1_elseBranch_27 rfl rfl rfl ?_
    refine e_cvU (as := []) hN m_X1_elseBranch dX1_elseBranch_28 c_RX1_66 (by decide) rfl rfl (gC_p G.1) rfl (Nat.le_of_ble_eq_true rfl) (Nat.le_of_ble_eq_true rfl) (by omega) (w_X1_closePart G (by omega)) (fun v7 s7 hN => ?_)
    exact e_ret0 m_X1_elseBranch dX1_elseBranch_31

def b_X1_switchStmt (K : Nat → Nat) (N : Nat) (rc : Nat → Nat → Nat → Ss → Rs Ss) (s : Ss) : Rs Ss := bn (q_take s) (fun v1 s1 => bn (q_sees K 82 (u_ih s1 1)) (fun v2 s2 => ifz v2 (bn (rc 61 4 61 s2) (fun v4 s4 => ife v4 3 (ife v4 1 (bn (q_sees K 82 s4) (fun v7 s7 => ifz v7 (bn (rc 71 0 0 s7) (fun v9 s9 => ck ((s_ih s1) < 2) (ifz v9 (bn (rc 72 0 0 (u_ih s9 (s_ih s1))) (fun v12 s12 => bn (b_X3_put K N 68 v1 (2 + v12) s12) (fun v13 s13 => okR 0 s13))) (bn (rc 72 1 0 (u_ih s9 (s_ih s1))) (fun v14 s14 => bn (b_X3_put K N 68 v1 (2 + v14) s14) (fun v15 s15 => okR 0 s15)))))) (ck ((s_ih s1) < 2) (bn (rc 72 1 0 (u_ih s7 (s_ih s1))) (fun v17 s17 => bn (b_X3_put K N 68 v1 (1 + v17) s17) (fun v18 s18 => okR 0 s18)))))) (ck ((s_ih s1) < 2) (bn (rc 72 1 0 (u_ih s4 (s_ih s1))) (fun v20 s20 => bn (b_X3_put K N 68 v1 (1 + v20) s20) (fun v21 s21 => okR 0 s21))))) (ife v4 1 (bn (q_sees K 82 s4) (fun v23 s23 => ifz v23 (bn (rc 71 0 0 s23) (fun v25 s25 => ck ((s_ih s1) < 2) (ifz v25 (bn (rc 72 0 0 (u_ih s25 (s_ih s1))) (fun v28 s28 => bn (b_X3_put K N 68 v1 (2 + v28) s28) (fun v29 s29 => okR 0 s29))) (bn (rc 72 1 0 (u_ih s25 (s_ih s1))) (fun v30 s30 => bn (b_X3_put K N 68 v1 (2 + v30) s30) (fun v31 s31 => okR 0 s31)))))) (ck ((s_ih s1) < 2) (bn (rc 72 0 0 (u_ih s23 (s_ih s1))) (fun v33 s33 => bn (b_X3_put K N 68 v1 (1 + v33) s33) (fun v34 s34 => okR 0 s34)))))) (ck ((s_ih s1) < 2) (bn (rc 72 0 0 (u_ih s4 (s_ih s1))) (fun v36 s36 => bn (b_X3_put K N 68 v1 (1 + v36) s36) (fun v37 s37 => okR 0 s37))))))) (ck ((s_ih s1) < 2) (bn (rc 72 0 0 (u_ih s2 (s_ih s1))) (fun v39 s39 => bn (b_X3_put K N 68 v1 (0 + v39) s39) (fun v40 s40 => okR 0 s40))))))
theorem w_X1_switchStmt {xs : Nat → Int32} {L : Nat} {h0 : mm_H} {a p N cnt : Nat} {ks : Nat → Nat} (G : Cg h0 a p N cnt ks) {n : Nat} {rc : Nat → Nat → Nat → Ss → Rs Ss} (IH : Hr xs L h0 a p N cnt ks n rc) {s : Ss} {d : Nat} (hd : n + 17 ≤ d) (hN : b_X1_switchStmt (kA cnt ks) N rc s ≠ none) : Rn xs L d 70 [.ref p] (TC h0 a p N cnt ks s) (ou eU (TC h0 a p N cnt ks) (b_X1_switchStmt (kA cnt ks) N rc s)) := by
  unfold Rn
  unfold b_X1_switchStmt at hN ⊢
  refine e_aload_n m_X1_switchStmt dX1_switchStmt_0 rfl rfl rfl ?_
  refine e_cvN (as := []) hN m_X1_switchStmt dX1_switchStmt_1 c_RX1_50 (by decide) rfl rfl (gC_p G.1) rfl (Nat.le_of_ble_eq_true rfl) (Nat.le_of_ble_eq_true rfl) (by omega) (t_take G (by omega)) (fun v1 s1 hN => ?_)
  refine e_istore_n m_X1_switchStmt dX1_switchStmt_4 rfl (by decide) rfl ?_
  refine e_aload_n m_X1_switchStmt dX1_switchStmt_5 rfl rfl rfl ?_
  refine e_getf m_X1_switchStmt dX1_switchStmt_6 f_RX1_119 (gC_p G.1) rfl ?_
  refine e_istore_n m_X1_switchStmt dX1_switchStmt_9 rfl (by decide) rfl ?_
  refine e_aload_n m_X1_switchStmt dX1_switchStmt_10 rfl rfl rfl ?_
  refine e_iconst (v := nI 1) m_X1_switchStmt dX1_switchStmt_11 (by decide) ?_
  refine e_putf (v := .int (nI 1)) (h' := TC h0 a p N cnt ks (u_ih s1 1)) m_X1_switchStmt dX1_switchStmt_12 f_RX1_119 (gC_p G.1) (Nat.le_of_ble_eq_true rfl) (fit_z rfl (by decide)) rfl (sC_p G.1) ?_
  refine e_iconst (v := nI 0) m_X1_switchStmt dX1_switchStmt_15 (by decide) ?_
  refine e_istore_n m_X1_switchStmt dX1_switchStmt_16 rfl (by decide) rfl ?_
  refine e_iconst (v := nI 0) m_X1_switchStmt dX1_switchStmt_17 (by decide) ?_
  refine e_istore m_X1_switchStmt dX1_switchStmt_18 (by decide) rfl ?_
  refine e_aload_n m_X1_switchStmt dX1_switchStmt_20 rfl rfl rfl ?_
  refine e_bipush (v := nI 82) m_X1_switchStmt dX1_switchStmt_21 (by decide) ?_
  refine e_cvN (as := [.int (nI 82)]) hN m_X1_switchStmt dX1_switchStmt_23 c_RX1_46 (by decide) rfl rfl (gC_p G.1) rfl (Nat.le_of_ble_eq_true rfl) (Nat.le_of_ble_eq_true rfl) (by omega) (t_sees G (by omega)) (fun v2 s2 hN => ?_)
  refine e_ifne (t := 78) hN m_X1_switchStmt dX1_switchStmt_26 (by decide) (fun q3 hN => ?_) (fun q3 hN => ?_)
  · refine e_aload_n m_X1_switchStmt dX1_switchStmt_29 rfl rfl rfl ?_
    refine e_iconst (v := nI 4) m_X1_switchStmt dX1_switchStmt_30 (by decide) ?_
    refine e_bipush (v := nI 61) m_X1_switchStmt dX1_switchStmt_31 (by decide) ?_
    refine e_cvN (as := [.int (nI 4), .int (nI 61)]) hN m_X1_switchStmt dX1_switchStmt_33 c_RX1_253 (by decide) rfl rfl (gC_p G.1) rfl (Nat.le_of_ble_eq_true rfl) (Nat.le_of_ble_eq_true rfl) (by omega) (i_X1_opening IH (by omega)) (fun v4 s4 hN => ?_)
    refine e_istore m_X1_switchStmt dX1_switchStmt_36 (by decide) rfl ?_
    refine e_iload m_X1_switchStmt dX1_switchStmt_38 rfl ?_
    refine e_iconst (v := nI 3) m_X1_switchStmt dX1_switchStmt_40 (by decide) ?_
    refine e_ine (t := 48) (a := v4) (b := 3) hN m_X1_switchStmt dX1_switchStmt_41 (by decide) (fun q5 hN => ?_) (fun q5 hN => ?_)
    · refine e_iconst (v := nI 1) m_X1_switchStmt dX1_switchStmt_44 (by decide) ?_
      refine e_goto (t := 49) m_X1_switchStmt dX1_switchStmt_45 (by decide) ?_
      refine e_istore m_X1_switchStmt dX1_switchStmt_49 (by decide) rfl ?_
      refine e_iincN (n := 1) m_X1_switchStmt dX1_switchStmt_51 (by decide) rfl rfl ?_
      refine e_iload m_X1_switchStmt dX1_switchStmt_54 rfl ?_
      refine e_iconst (v := nI 1) m_X1_switchStmt dX1_switchStmt_56 (by decide) ?_
      refine e_ine (t := 78) (a := v4) (b := 1) hN m_X1_switchStmt dX1_switchStmt_57 (by decide) (fun q6 hN => ?_) (fun q6 hN => ?_)
      · refine e_aload_n m_X1_switchStmt dX1_switchStmt_60 rfl rfl rfl ?_
        refine e_bipush (v := nI 82) m_X1_switchStmt dX1_switchStmt_61 (by decide) ?_
        refine e_cvN (as := [.int (nI 82)]) hN m_X1_switchStmt dX1_switchStmt_63 c_RX1_46 (by decide) rfl rfl (gC_p G.1) rfl (Nat.le_of_ble_eq_true rfl) (Nat.le_of_ble_eq_true rfl) (by omega) (t_sees G (by omega)) (fun v7 s7 hN => ?_)
        refine e_ifne (t := 78) hN m_X1_switchStmt dX1_switchStmt_66 (by decide) (fun q8 hN => ?_) (fun q8 hN => ?_)
        · refine e_aload_n m_X1_switchStmt dX1_switchStmt_69 rfl rfl rfl ?_
          refine e_cvN (as := []) hN m_X1_switchStmt dX1_switchStmt_70 c_RX1_268 (by decide) rfl rfl (gC_p G.1) rfl (Nat.le_of_ble_eq_true rfl) (Nat.le_of_ble_eq_true rfl) (by omega) (i_X1_tag IH (by omega)) (fun v9 s9 hN => ?_)
          refine e_istore m_X1_switchStmt dX1_switchStmt_73 (by decide) rfl ?_
          refine e_iincN (n := 1) m_X1_switchStmt dX1_switchStmt_75 (by decide) rfl rfl ?_
          refine e_aload_n m_X1_switchStmt dX1_switchStmt_78 rfl rfl rfl ?_
          refine e_iload_n m_X1_switchStmt dX1_switchStmt_79 rfl rfl ?_
          refine e_ck hN (fun q10 hN => ?_)
          refine e_putf (v := .int (nI (s_ih s1))) (h' := TC h0 a p N cnt ks (u_ih s9 (s_ih s1))) m_X1_switchStmt dX1_switchStmt_80 f_RX1_119 (gC_p G.1) (Nat.le_of_ble_eq_true rfl) (fit_z rfl (b01 q10)) rfl (sC_p G.1) ?_
          refine e_iload_n m_X1_switchStmt dX1_switchStmt_83 rfl rfl ?_
          refine e_aload_n m_X1_switchStmt dX1_switchStmt_84 rfl rfl rfl ?_
          refine e_iload m_X1_switchStmt dX1_switchStmt_85 rfl ?_
          refine e_ifeq (t := 94) hN m_X1_switchStmt dX1_switchStmt_87 (by decide) (fun q11 hN => ?_) (fun q11 hN => ?_)
          · refine e_iconst (v := nI 0) m_X1_switchStmt dX1_switchStmt_94 (by decide) ?_
            refine e_cvN (as := [.int (nI 0)]) hN m_X1_switchStmt dX1_switchStmt_95 c_RX1_271 (by decide) rfl rfl (gC_p G.1) rfl (Nat.le_of_ble_eq_true rfl) (Nat.le_of_ble_eq_true rfl) (by omega) (i_X1_clauses IH (by omega)) (fun v12 s12 hN => ?_)
            refine e_iaddN m_X1_switchStmt dX1_switchStmt_98 ?_
            refine e_istore_n m_X1_switchStmt dX1_switchStmt_99 rfl (by decide) rfl ?_
            refine e_aload_n m_X1_switchStmt dX1_switchStmt_100 rfl rfl rfl ?_
            refine e_getf m_X1_switchStmt dX1_switchStmt_101 f_RX1_17 (gC_p G.1) rfl ?_
            refine e_bipush (v := nI 68) m_X1_switchStmt dX1_switchStmt_104 (by decide) ?_
            refine e_iload_n m_X1_switchStmt dX1_switchStmt_106 rfl rfl ?_
            refine e_iload_n m_X1_switchStmt dX1_switchStmt_107 rfl rfl ?_
            refine e_cvU (as := [.int (nI 68), .int (nI v1), .int (nI (2 + v12))]) hN m_X1_switchStmt dX1_switchStmt_108 c_RX1_69 (by decide) rfl rfl (gC_r G.1) rfl (Nat.le_of_ble_eq_true rfl) (Nat.le_of_ble_eq_true rfl) (by omega) (w_X3_put G (by omega)) (fun v13 s13 hN => ?_)
            exact e_ret0 m_X1_switchStmt dX1_switchStmt_111
          · refine e_iconst (v := nI 1) m_X1_switchStmt dX1_switchStmt_90 (by decide) ?_
            refine e_goto (t := 95) m_X1_switchStmt dX1_switchStmt_91 (by decide) ?_
            refine e_cvN (as := [.int (nI 1)]) hN m_X1_switchStmt dX1_switchStmt_95 c_RX1_271 (by decide) rfl rfl (gC_p G.1) rfl (Nat.le_of_ble_eq_true rfl) (Nat.le_of_ble_eq_true rfl) (by omega) (i_X1_clauses IH (by omega)) (fun v14 s14 hN => ?_)
            refine e_iaddN m_X1_switchStmt dX1_switchStmt_98 ?_
            refine e_istore_n m_X1_switchStmt dX1_switchStmt_99 rfl (by decide) rfl ?_
            refine e_aload_n m_X1_switchStmt dX1_switchStmt_100 rfl rfl rfl ?_
            refine e_getf m_X1_switchStmt dX1_switchStmt_101 f_RX1_17 (gC_p G.1) rfl ?_
            refine e_bipush (v := nI 68) m_X1_switchStmt dX1_switchStmt_104 (by decide) ?_
            refine e_iload_n m_X1_switchStmt dX1_switchStmt_106 rfl rfl ?_
            refine e_iload_n m_X1_switchStmt dX1_switchStmt_107 rfl rfl ?_
            refine e_cvU (as := [.int (nI 68), .int (nI v1), .int (nI (2 + v14))]) hN m_X1_switchStmt dX1_switchStmt_108 c_RX1_69 (by decide) rfl rfl (gC_r G.1) rfl (Nat.le_of_ble_eq_true rfl) (Nat.le_of_ble_eq_true rfl) (by omega) (w_X3_put G (by omega)) (fun v15 s15 hN => ?_)
            exact e_ret0 m_X1_switchStmt dX1_switchStmt_111
        · refine e_aload_n m_X1_switchStmt dX1_switchStmt_78 rfl rfl rfl ?_
          refine e_iload_n m_X1_switchStmt dX1_switchStmt_79 rfl rfl ?_
          refine e_ck hN (fun q16 hN => ?_)
          refine e_putf (v := .int (nI (s_ih s1))) (h' := TC h0 a p N cnt ks (u_ih s7 (s_ih s1))) m_X1_switchStmt dX1_switchStmt_80 f_RX1_119 (gC_p G.1) (Nat.le_of_ble_eq_true rfl) (fit_z rfl (b01 q16)) rfl (sC_p G.1) ?_
          refine e_iload_n m_X1_switchStmt dX1_switchStmt_83 rfl rfl ?_
          refine e_aload_n m_X1_switchStmt dX1_switchStmt_84 rfl rfl rfl ?_
          refine e_iload m_X1_switchStmt dX1_switchStmt_85 rfl ?_
          refine e_ifF (t := 94) m_X1_switchStmt dX1_switchStmt_87 (by decide) (by decide) ?_
          refine e_iconst (v := nI 1) m_X1_switchStmt dX1_switchStmt_90 (by decide) ?_
          refine e_goto (t := 95) m_X1_switchStmt dX1_switchStmt_91 (by decide) ?_
          refine e_cvN (as := [.int (nI 1)]) hN m_X1_switchStmt dX1_switchStmt_95 c_RX1_271 (by decide) rfl rfl (gC_p G.1) rfl (Nat.le_of_ble_eq_true rfl) (Nat.le_of_ble_eq_true rfl) (by omega) (i_X1_clauses IH (by omega)) (fun v17 s17 hN => ?_)
          refine e_iaddN m_X1_switchStmt dX1_switchStmt_98 ?_
          refine e_istore_n m_X1_switchStmt dX1_switchStmt_99 rfl (by decide) rfl ?_
          refine e_aload_n m_X1_switchStmt dX1_switchStmt_100 rfl rfl rfl ?_
          refine e_getf m_X1_switchStmt dX1_switchStmt_101 f_RX1_17 (gC_p G.1) rfl ?_
          refine e_bipush (v := nI 68) m_X1_switchStmt dX1_switchStmt_104 (by decide) ?_
          refine e_iload_n m_X1_switchStmt dX1_switchStmt_106 rfl rfl ?_
          refine e_iload_n m_X1_switchStmt dX1_switchStmt_107 rfl rfl ?_
          refine e_cvU (as := [.int (nI 68), .int (nI v1), .int (nI (1 + v17))]) hN m_X1_switchStmt dX1_switchStmt_108 c_RX1_69 (by decide) rfl rfl (gC_r G.1) rfl (Nat.le_of_ble_eq_true rfl) (Nat.le_of_ble_eq_true rfl) (by omega) (w_X3_put G (by omega)) (fun v18 s18 hN => ?_)
          exact e_ret0 m_X1_switchStmt dX1_switchStmt_111
      · refine e_aload_n m_X1_switchStmt dX1_switchStmt_78 rfl rfl rfl ?_
        refine e_iload_n m_X1_switchStmt dX1_switchStmt_79 rfl rfl ?_
        refine e_ck hN (fun q19 hN => ?_)
        refine e_putf (v := .int (nI (s_ih s1))) (h' := TC h0 a p N cnt ks (u_ih s4 (s_ih s1))) m_X1_switchStmt dX1_switchStmt_80 f_RX1_119 (gC_p G.1) (Nat.le_of_ble_eq_true rfl) (fit_z rfl (b01 q19)) rfl (sC_p G.1) ?_
        refine e_iload_n m_X1_switchStmt dX1_switchStmt_83 rfl rfl ?_
        refine e_aload_n m_X1_switchStmt dX1_switchStmt_84 rfl rfl rfl ?_
        refine e_iload m_X1_switchStmt dX1_switchStmt_85 rfl ?_
        refine e_ifF (t := 94) m_X1_switchStmt dX1_switchStmt_87 (by decide) (by decide) ?_
        refine e_iconst (v := nI 1) m_X1_switchStmt dX1_switchStmt_90 (by decide) ?_
        refine e_goto (t := 95) m_X1_switchStmt dX1_switchStmt_91 (by decide) ?_
        refine e_cvN (as := [.int (nI 1)]) hN m_X1_switchStmt dX1_switchStmt_95 c_RX1_271 (by decide) rfl rfl (gC_p G.1) rfl (Nat.le_of_ble_eq_true rfl) (Nat.le_of_ble_eq_true rfl) (by omega) (i_X1_clauses IH (by omega)) (fun v20 s20 hN => ?_)
        refine e_iaddN m_X1_switchStmt dX1_switchStmt_98 ?_
        refine e_istore_n m_X1_switchStmt dX1_switchStmt_99 rfl (by decide) rfl ?_
        refine e_aload_n m_X1_switchStmt dX1_switchStmt_100 rfl rfl rfl ?_
        refine e_getf m_X1_switchStmt dX1_switchStmt_101 f_RX1_17 (gC_p G.1) rfl ?_
        refine e_bipush (v := nI 68) m_X1_switchStmt dX1_switchStmt_104 (by decide) ?_
        refine e_iload_n m_X1_switchStmt dX1_switchStmt_106 rfl rfl ?_
        refine e_iload_n m_X1_switchStmt dX1_switchStmt_107 rfl rfl ?_
        refine e_cvU (as := [.int (nI 68), .int (nI v1), .int (nI (1 + v20))]) hN m_X1_switchStmt dX1_switchStmt_108 c_RX1_69 (by decide) rfl rfl (gC_r G.1) rfl (Nat.le_of_ble_eq_true rfl) (Nat.le_of_ble_eq_true rfl) (by omega) (w_X3_put G (by omega)) (fun v21 s21 hN => ?_)
        exact e_ret0 m_X1_switchStmt dX1_switchStmt_111
    · refine e_iconst (v := nI 0) m_X1_switchStmt dX1_switchStmt_48 (by decide) ?_
      refine e_istore m_X1_switchStmt dX1_switchStmt_49 (by decide) rfl ?_
      refine e_iincN (n := 1) m_X1_switchStmt dX1_switchStmt_51 (by decide) rfl rfl ?_
      refine e_iload m_X1_switchStmt dX1_switchStmt_54 rfl ?_
      refine e_iconst (v := nI 1) m_X1_switchStmt dX1_switchStmt_56 (by decide) ?_
      refine e_ine (t := 78) (a := v4) (b := 1) hN m_X1_switchStmt dX1_switchStmt_57 (by decide) (fun q22 hN => ?_) (fun q22 hN => ?_)
      · refine e_aload_n m_X1_switchStmt dX1_switchStmt_60 rfl rfl rfl ?_
        refine e_bipush (v := nI 82) m_X1_switchStmt dX1_switchStmt_61 (by decide) ?_
        refine e_cvN (as := [.int (nI 82)]) hN m_X1_switchStmt dX1_switchStmt_63 c_RX1_46 (by decide) rfl rfl (gC_p G.1) rfl (Nat.le_of_ble_eq_true rfl) (Nat.le_of_ble_eq_true rfl) (by omega) (t_sees G (by omega)) (fun v23 s23 hN => ?_)
        refine e_ifne (t := 78) hN m_X1_switchStmt dX1_switchStmt_66 (by decide) (fun q24 hN => ?_) (fun q24 hN => ?_)
        · refine e_aload_n m_X1_switchStmt dX1_switchStmt_69 rfl rfl rfl ?_
          refine e_cvN (as := []) hN m_X1_switchStmt dX1_switchStmt_70 c_RX1_268 (by decide) rfl rfl (gC_p G.1) rfl (Nat.le_of_ble_eq_true rfl) (Nat.le_of_ble_eq_true rfl) (by omega) (i_X1_tag IH (by omega)) (fun v25 s25 hN => ?_)
          refine e_istore m_X1_switchStmt dX1_switchStmt_73 (by decide) rfl ?_
          refine e_iincN (n := 1) m_X1_switchStmt dX1_switchStmt_75 (by decide) rfl rfl ?_
          refine e_aload_n m_X1_switchStmt dX1_switchStmt_78 rfl rfl rfl ?_
          refine e_iload_n m_X1_switchStmt dX1_switchStmt_79 rfl rfl ?_
          refine e_ck hN (fun q26 hN => ?_)
          refine e_putf (v := .int (nI (s_ih s1))) (h' := TC h0 a p N cnt ks (u_ih s25 (s_ih s1))) m_X1_switchStmt dX1_switchStmt_80 f_RX1_119 (gC_p G.1) (Nat.le_of_ble_eq_true rfl) (fit_z rfl (b01 q26)) rfl (sC_p G.1) ?_
          refine e_iload_n m_X1_switchStmt dX1_switchStmt_83 rfl rfl ?_
          refine e_aload_n m_X1_switchStmt dX1_switchStmt_84 rfl rfl rfl ?_
          refine e_iload m_X1_switchStmt dX1_switchStmt_85 rfl ?_
          refine e_ifeq (t := 94) hN m_X1_switchStmt dX1_switchStmt_87 (by decide) (fun q27 hN => ?_) (fun q27 hN => ?_)
          · refine e_iconst (v := nI 0) m_X1_switchStmt dX1_switchStmt_94 (by decide) ?_
            refine e_cvN (as := [.int (nI 0)]) hN m_X1_switchStmt dX1_switchStmt_95 c_RX1_271 (by decide) rfl rfl (gC_p G.1) rfl (Nat.le_of_ble_eq_true rfl) (Nat.le_of_ble_eq_true rfl) (by omega) (i_X1_clauses IH (by omega)) (fun v28 s28 hN => ?_)
            refine e_iaddN m_X1_switchStmt dX1_switchStmt_98 ?_
            refine e_istore_n m_X1_switchStmt dX1_switchStmt_99 rfl (by decide) rfl ?_
            refine e_aload_n m_X1_switchStmt dX1_switchStmt_100 rfl rfl rfl ?_
            refine e_getf m_X1_switchStmt dX1_switchStmt_101 f_RX1_17 (gC_p G.1) rfl ?_
            refine e_bipush (v := nI 68) m_X1_switchStmt dX1_switchStmt_104 (by decide) ?_
            refine e_iload_n m_X1_switchStmt dX1_switchStmt_106 rfl rfl ?_
            refine e_iload_n m_X1_switchStmt dX1_switchStmt_107 rfl rfl ?_
            refine e_cvU (as := [.int (nI 68), .int (nI v1), .int (nI (2 + v28))]) hN m_X1_switchStmt dX1_switchStmt_108 c_RX1_69 (by decide) rfl rfl (gC_r G.1) rfl (Nat.le_of_ble_eq_true rfl) (Nat.le_of_ble_eq_true rfl) (by omega) (w_X3_put G (by omega)) (fun v29 s29 hN => ?_)
            exact e_ret0 m_X1_switchStmt dX1_switchStmt_111
          · refine e_iconst (v := nI 1) m_X1_switchStmt dX1_switchStmt_90 (by decide) ?_
            refine e_goto (t := 95) m_X1_switchStmt dX1_switchStmt_91 (by decide) ?_
            refine e_cvN (as := [.int (nI 1)]) hN m_X1_switchStmt dX1_switchStmt_95 c_RX1_271 (by decide) rfl rfl (gC_p G.1) rfl (Nat.le_of_ble_eq_true rfl) (Nat.le_of_ble_eq_true rfl) (by omega) (i_X1_clauses IH (by omega)) (fun v30 s30 hN => ?_)
            refine e_iaddN m_X1_switchStmt dX1_switchStmt_98 ?_
            refine e_istore_n m_X1_switchStmt dX1_switchStmt_99 rfl (by decide) rfl ?_
            refine e_aload_n m_X1_switchStmt dX1_switchStmt_100 rfl rfl rfl ?_
            refine e_getf m_X1_switchStmt dX1_switchStmt_101 f_RX1_17 (gC_p G.1) rfl ?_
            refine e_bipush (v := nI 68) m_X1_switchStmt dX1_switchStmt_104 (by decide) ?_
            refine e_iload_n m_X1_switchStmt dX1_switchStmt_106 rfl rfl ?_
            refine e_iload_n m_X1_switchStmt dX1_switchStmt_107 rfl rfl ?_
            refine e_cvU (as := [.int (nI 68), .int (nI v1), .int (nI (2 + v30))]) hN m_X1_switchStmt dX1_switchStmt_108 c_RX1_69 (by decide) rfl rfl (gC_r G.1) rfl (Nat.le_of_ble_eq_true rfl) (Nat.le_of_ble_eq_true rfl) (by omega) (w_X3_put G (by omega)) (fun v31 s31 hN => ?_)
            exact e_ret0 m_X1_switchStmt dX1_switchStmt_111
        · refine e_aload_n m_X1_switchStmt dX1_switchStmt_78 rfl rfl rfl ?_
          refine e_iload_n m_X1_switchStmt dX1_switchStmt_79 rfl rfl ?_
          refine e_ck hN (fun q32 hN => ?_)
          refine e_putf (v := .int (nI (s_ih s1))) (h' := TC h0 a p N cnt ks (u_ih s23 (s_ih s1))) m_X1_switchStmt dX1_switchStmt_80 f_RX1_119 (gC_p G.1) (Nat.le_of_ble_eq_true rfl) (fit_z rfl (b01 q32)) rfl (sC_p G.1) ?_
          refine e_iload_n m_X1_switchStmt dX1_switchStmt_83 rfl rfl ?_
          refine e_aload_n m_X1_switchStmt dX1_switchStmt_84 rfl rfl rfl ?_
          refine e_iload m_X1_switchStmt dX1_switchStmt_85 rfl ?_
          refine e_ifT (t := 94) m_X1_switchStmt dX1_switchStmt_87 (by decide) (by decide) ?_
          refine e_iconst (v := nI 0) m_X1_switchStmt dX1_switchStmt_94 (by decide) ?_
          refine e_cvN (as := [.int (nI 0)]) hN m_X1_switchStmt dX1_switchStmt_95 c_RX1_271 (by decide) rfl rfl (gC_p G.1) rfl (Nat.le_of_ble_eq_true rfl) (Nat.le_of_ble_eq_true rfl) (by omega) (i_X1_clauses IH (by omega)) (fun v33 s33 hN => ?_)
          refine e_iaddN m_X1_switchStmt dX1_switchStmt_98 ?_
          refine e_istore_n m_X1_switchStmt dX1_switchStmt_99 rfl (by decide) rfl ?_
          refine e_aload_n m_X1_switchStmt dX1_switchStmt_100 rfl rfl rfl ?_
          refine e_getf m_X1_switchStmt dX1_switchStmt_101 f_RX1_17 (gC_p G.1) rfl ?_
          refine e_bipush (v := nI 68) m_X1_switchStmt dX1_switchStmt_104 (by decide) ?_
          refine e_iload_n m_X1_switchStmt dX1_switchStmt_106 rfl rfl ?_
          refine e_iload_n m_X1_switchStmt dX1_switchStmt_107 rfl rfl ?_
          refine e_cvU (as := [.int (nI 68), .int (nI v1), .int (nI (1 + v33))]) hN m_X1_switchStmt dX1_switchStmt_108 c_RX1_69 (by decide) rfl rfl (gC_r G.1) rfl (Nat.le_of_ble_eq_true rfl) (Nat.le_of_ble_eq_true rfl) (by omega) (w_X3_put G (by omega)) (fun v34 s34 hN => ?_)
          exact e_ret0 m_X1_switchStmt dX1_switchStmt_111
      · refine e_aload_n m_X1_switchStmt dX1_switchStmt_78 rfl rfl rfl ?_
        refine e_iload_n m_X1_switchStmt dX1_switchStmt_79 rfl rfl ?_
        refine e_ck hN (fun q35 hN => ?_)
        refine e_putf (v := .int (nI (s_ih s1))) (h' := TC h0 a p N cnt ks (u_ih s4 (s_ih s1))) m_X1_switchStmt dX1_switchStmt_80 f_RX1_119 (gC_p G.1) (Nat.le_of_ble_eq_true rfl) (fit_z rfl (b01 q35)) rfl (sC_p G.1) ?_
        refine e_iload_n m_X1_switchStmt dX1_switchStmt_83 rfl rfl ?_
        refine e_aload_n m_X1_switchStmt dX1_switchStmt_84 rfl rfl rfl ?_
        refine e_iload m_X1_switchStmt dX1_switchStmt_85 rfl ?_
        refine e_ifT (t := 94) m_X1_switchStmt dX1_switchStmt_87 (by decide) (by decide) ?_
        refine e_iconst (v := nI 0) m_X1_switchStmt dX1_switchStmt_94 (by decide) ?_
        refine e_cvN (as := [.int (nI 0)]) hN m_X1_switchStmt dX1_switchStmt_95 c_RX1_271 (by decide) rfl rfl (gC_p G.1) rfl (Nat.le_of_ble_eq_true rfl) (Nat.le_of_ble_eq_true rfl) (by omega) (i_X1_clauses IH (by omega)) (fun v36 s36 hN => ?_)
        refine e_iaddN m_X1_switchStmt dX1_switchStmt_98 ?_
        refine e_istore_n m_X1_switchStmt dX1_switchStmt_99 rfl (by decide) rfl ?_
        refine e_aload_n m_X1_switchStmt dX1_switchStmt_100 rfl rfl rfl ?_
        refine e_getf m_X1_switchStmt dX1_switchStmt_101 f_RX1_17 (gC_p G.1) rfl ?_
        refine e_bipush (v := nI 68) m_X1_switchStmt dX1_switchStmt_104 (by decide) ?_
        refine e_iload_n m_X1_switchStmt dX1_switchStmt_106 rfl rfl ?_
        refine e_iload_n m_X1_switchStmt dX1_switchStmt_107 rfl rfl ?_
        refine e_cvU (as := [.int (nI 68), .int (nI v1), .int (nI (1 + v36))]) hN m_X1_switchStmt dX1_switchStmt_108 c_RX1_69 (by decide) rfl rfl (gC_r G.1) rfl (Nat.le_of_ble_eq_true rfl) (Nat.le_of_ble_eq_true rfl) (by omega) (w_X3_put G (by omega)) (fun v37 s37 hN => ?_)
        exact e_ret0 m_X1_switchStmt dX1_switchStmt_111
  · refine e_aload_n m_X1_switchStmt dX1_switchStmt_78 rfl rfl rfl ?_
    refine e_iload_n m_X1_switchStmt dX1_switchStmt_79 rfl rfl ?_
    refine e_ck hN (fun q38 hN => ?_)
    refine e_putf (v := .int (nI (s_ih s1))) (h' := TC h0 a p N cnt ks (u_ih s2 (s_ih s1))) m_X1_switchStmt dX1_switchStmt_80 f_RX1_119 (gC_p G.1) (Nat.le_of_ble_eq_true rfl) (fit_z rfl (b01 q38)) rfl (sC_p G.1) ?_
    refine e_iload_n m_X1_switchStmt dX1_switchStmt_83 rfl rfl ?_
    refine e_aload_n m_X1_switchStmt dX1_switchStmt_84 rfl rfl rfl ?_
    refine e_iload m_X1_switchStmt dX1_switchStmt_85 rfl ?_
    refine e_ifT (t := 94) m_X1_switchStmt dX1_switchStmt_87 (by decide) (by decide) ?_
    refine e_iconst (v := nI 0) m_X1_switchStmt dX1_switchStmt_94 (by decide) ?_
    refine e_cvN (as := [.int (nI 0)]) hN m_X1_switchStmt dX1_switchStmt_95 c_RX1_271 (by decide) rfl rfl (gC_p G.1) rfl (Nat.le_of_ble_eq_true rfl) (Nat.le_of_ble_eq_true rfl) (by omega) (i_X1_clauses IH (by omega)) (fun v39 s39 hN => ?_)
    refine e_iaddN m_X1_switchStmt dX1_switchStmt_98 ?_
    refine e_istore_n m_X1_switchStmt dX1_switchStmt_99 rfl (by decide) rfl ?_
    refine e_aload_n m_X1_switchStmt dX1_switchStmt_100 rfl rfl rfl ?_
    refine e_getf m_X1_switchStmt dX1_switchStmt_101 f_RX1_17 (gC_p G.1) rfl ?_
    refine e_bipush (v := nI 68) m_X1_switchStmt dX1_switchStmt_104 (by decide) ?_
    refine e_iload_n m_X1_switchStmt dX1_switchStmt_106 rfl rfl ?_
    refine e_iload_n m_X1_switchStmt dX1_switchStmt_107 rfl rfl ?_
    refine e_cvU (as := [.int (nI 68), .int (nI v1), .int (nI (0 + v39))]) hN m_X1_switchStmt dX1_switchStmt_108 c_RX1_69 (by decide) rfl rfl (gC_r G.1) rfl (Nat.le_of_ble_eq_true rfl) (Nat.le_of_ble_eq_true rfl) (by omega) (w_X3_put G (by omega)) (fun v40 s40 hN => ?_)
    exact e_ret0 m_X1_switchStmt dX1_switchStmt_111

def b_X1_tag (K : Nat → Nat) (N : Nat) (rc : Nat → Nat → Nat → Ss → Rs Ss) (s : Ss) : Rs Ss := bn (rc 29 1 0 s) (fun v1 s1 => ife (s_gw s1) 0 (bn (q_sees K 76 s1) (fun v3 s3 => ifz v3 (okR 0 s3) (bn (b_X1_isNameFrom K N (s_at s) s3) (fun v5 s5 => ifz v5 (okR 0 s5) (bn (b_X3_put K N 12 (s_at s) 1 s5) (fun v7 s7 => bn (q_take s7) (fun v8 s8 => bn (rc 34 1 0 s8) (fun v9 s9 => ife (s_gw s9) 0 (erR s9) (bn (b_X1_putGuard K N 2 s9) (fun v11 s11 => okR 1 s11)))))))))) (bn (b_X1_putGuard K N 1 s1) (fun v12 s12 => okR 1 s12)))
theorem w_X1_tag {xs : Nat → Int32} {L : Nat} {h0 : mm_H} {a p N cnt : Nat} {ks : Nat → Nat} (G : Cg h0 a p N cnt ks) {n : Nat} {rc : Nat → Nat → Nat → Ss → Rs Ss} (IH : Hr xs L h0 a p N cnt ks n rc) {s : Ss} {d : Nat} (hd : n + 17 ≤ d) (hN : b_X1_tag (kA cnt ks) N rc s ≠ none) : Rn xs L d 71 [.ref p] (TC h0 a p N cnt ks s) (ou eN (TC h0 a p N cnt ks) (b_X1_tag (kA cnt ks) N rc s)) := by
  unfold Rn
  unfold b_X1_tag at hN ⊢
  refine e_aload_n m_X1_tag dX1_tag_0 rfl rfl rfl ?_
  refine e_getf m_X1_tag dX1_tag_1 f_RX1_43 (gC_p G.1) rfl ?_
  refine e_istore_n m_X1_tag dX1_tag_4 rfl (by decide) rfl ?_
  refine e_aload_n m_X1_tag dX1_tag_5 rfl rfl rfl ?_
  refine e_iconst (v := nI 1) m_X1_tag dX1_tag_6 (by decide) ?_
  refine e_cvU (as := [.int (nI 1)]) hN m_X1_tag dX1_tag_7 c_RX1_181 (by decide) rfl rfl (gC_p G.1) rfl (Nat.le_of_ble_eq_true rfl) (Nat.le_of_ble_eq_true rfl) (by omega) (i_X1_expr IH (by omega)) (fun v1 s1 hN => ?_)
  refine e_aload_n m_X1_tag dX1_tag_10 rfl rfl rfl ?_
  refine e_getf m_X1_tag dX1_tag_11 f_RX1_25 (gC_p G.1) rfl ?_
  refine e_iconst (v := oI 0) m_X1_tag dX1_tag_14 (by decide) ?_
  refine e_oieq (t := 25) (a := (s_gw s1)) (b := 0) hN m_X1_tag dX1_tag_15 (by decide) (fun q2 hN => ?_) (fun q2 hN => ?_)
  · refine e_aload_n m_X1_tag dX1_tag_25 rfl rfl rfl ?_
    refine e_bipush (v := nI 76) m_X1_tag dX1_tag_26 (by decide) ?_
    refine e_cvN (as := [.int (nI 76)]) hN m_X1_tag dX1_tag_28 c_RX1_46 (by decide) rfl rfl (gC_p G.1) rfl (Nat.le_of_ble_eq_true rfl) (Nat.le_of_ble_eq_true rfl) (by omega) (t_sees G (by omega)) (fun v3 s3 hN => ?_)
    refine e_ifeq (t := 42) hN m_X1_tag dX1_tag_31 (by decide) (fun q4 hN => ?_) (fun q4 hN => ?_)
    · refine e_iconst (v := nI 0) m_X1_tag dX1_tag_42 (by decide) ?_
      exact e_reti m_X1_tag dX1_tag_43 (Or.inr ⟨rfl, by decide⟩)
    · refine e_aload_n m_X1_tag dX1_tag_34 rfl rfl rfl ?_
      refine e_iload_n m_X1_tag dX1_tag_35 rfl rfl ?_
      refine e_cvN (as := [.int (nI (s_at s))]) hN m_X1_tag dX1_tag_36 c_RX1_234 (by decide) rfl rfl (gC_p G.1) rfl (Nat.le_of_ble_eq_true rfl) (Nat.le_of_ble_eq_true rfl) (by omega) (w_X1_isNameFrom G (by omega)) (fun v5 s5 hN => ?_)
      refine e_ifne (t := 44) hN m_X1_tag dX1_tag_39 (by decide) (fun q6 hN => ?_) (fun q6 hN => ?_)
      · refine e_iconst (v := nI 0) m_X1_tag dX1_tag_42 (by decide) ?_
        exact e_reti m_X1_tag dX1_tag_43 (Or.inr ⟨rfl, by decide⟩)
      · refine e_aload_n m_X1_tag dX1_tag_44 rfl rfl rfl ?_
        refine e_getf m_X1_tag dX1_tag_45 f_RX1_17 (gC_p G.1) rfl ?_
        refine e_bipush (v := nI 12) m_X1_tag dX1_tag_48 (by decide) ?_
        refine e_iload_n m_X1_tag dX1_tag_50 rfl rfl ?_
        refine e_iconst (v := nI 1) m_X1_tag dX1_tag_51 (by decide) ?_
        refine e_cvU (as := [.int (nI 12), .int (nI (s_at s)), .int (nI 1)]) hN m_X1_tag dX1_tag_52 c_RX1_69 (by decide) rfl rfl (gC_r G.1) rfl (Nat.le_of_ble_eq_true rfl) (Nat.le_of_ble_eq_true rfl) (by omega) (w_X3_put G (by omega)) (fun v7 s7 hN => ?_)
        refine e_aload_n m_X1_tag dX1_tag_55 rfl rfl rfl ?_
        refine e_cvN (as := []) hN m_X1_tag dX1_tag_56 c_RX1_50 (by decide) rfl rfl (gC_p G.1) rfl (Nat.le_of_ble_eq_true rfl) (Nat.le_of_ble_eq_true rfl) (by omega) (t_take G (by omega)) (fun v8 s8 hN => ?_)
        refine e_pop m_X1_tag dX1_tag_59 rfl ?_
        refine e_aload_n m_X1_tag dX1_tag_60 rfl rfl rfl ?_
        refine e_iconst (v := nI 1) m_X1_tag dX1_tag_61 (by decide) ?_
        refine e_cvU (as := [.int (nI 1)]) hN m_X1_tag dX1_tag_62 c_RX1_274 (by decide) rfl rfl (gC_p G.1) rfl (Nat.le_of_ble_eq_true rfl) (Nat.le_of_ble_eq_true rfl) (by omega) (i_X1_primary IH (by omega)) (fun v9 s9 hN => ?_)
        refine e_aload_n m_X1_tag dX1_tag_65 rfl rfl rfl ?_
        refine e_getf m_X1_tag dX1_tag_66 f_RX1_25 (gC_p G.1) rfl ?_
        refine e_iconst (v := oI 0) m_X1_tag dX1_tag_69 (by decide) ?_
        refine e_oine (t := 77) (a := (s_gw s9)) (b := 0) hN m_X1_tag dX1_tag_70 (by decide) (fun q10 hN => ?_) (fun q10 hN => ?_)
        · refine e_aload_n m_X1_tag dX1_tag_73 rfl rfl rfl ?_
          exact e_cvX (as := []) m_X1_tag dX1_tag_74 c_RX1_54 (by decide) rfl rfl (gC_p G.1) rfl (Nat.le_of_ble_eq_true rfl) (Nat.le_of_ble_eq_true rfl) (by omega) (r_refuse (by omega))
        · refine e_aload_n m_X1_tag dX1_tag_77 rfl rfl rfl ?_
          refine e_iconst (v := nI 2) m_X1_tag dX1_tag_78 (by decide) ?_
          refine e_cvU (as := [.int (nI 2)]) hN m_X1_tag dX1_tag_79 c_RX1_231 (by decide) rfl rfl (gC_p G.1) rfl (Nat.le_of_ble_eq_true rfl) (Nat.le_of_ble_eq_true rfl) (by omega) (w_X1_putGuard G (by omega)) (fun v11 s11 hN => ?_)
          refine e_iconst (v := nI 1) m_X1_tag dX1_tag_82 (by decide) ?_
          exact e_reti m_X1_tag dX1_tag_83 (Or.inr ⟨rfl, by decide⟩)
  · refine e_aload_n m_X1_tag dX1_tag_18 rfl rfl rfl ?_
    refine e_iconst (v := nI 1) m_X1_tag dX1_tag_19 (by decide) ?_
    refine e_cvU (as := [.int (nI 1)]) hN m_X1_tag dX1_tag_20 c_RX1_231 (by decide) rfl rfl (gC_p G.1) rfl (Nat.le_of_ble_eq_true rfl) (Nat.le_of_ble_eq_true rfl) (by omega) (w_X1_putGuard G (by omega)) (fun v12 s12 hN => ?_)
    refine e_iconst (v := nI 1) m_X1_tag dX1_tag_23 (by decide) ?_
    exact e_reti m_X1_tag dX1_tag_24 (Or.inr ⟨rfl, by decide⟩)

def lp_X1_clauses_9 (K : Nat → Nat) (N : Nat) (rc : Nat → Nat → Nat → Ss → Rs Ss) : Nat → Nat → Nat → Ss → Rs Ss
  | 0, _, _, _ => none
  | f + 1, y1, y2, s => ifl y2 16385 (bn (q_sees K 11 s) (fun v18 s18 => ifz v18 (bn (q_sees K 15 s18) (fun v20 s20 => ifz v20 (bn (b_X1_leave K N 83 s20) (fun v22 s22 => okR y2 s22)) (bn (q_sees K 11 s20) (fun v23 s23 => ifz v23 (bn (rc 77 y1 0 s23) (fun v25 s25 => lp_X1_clauses_9 K N rc f y1 (y2 + 1) s25)) (bn (rc 73 y1 0 s23) (fun v26 s26 => lp_X1_clauses_9 K N rc f y1 (y2 + 1) s26)))))) (bn (q_sees K 11 s18) (fun v27 s27 => ifz v27 (bn (rc 77 y1 0 s27) (fun v29 s29 => lp_X1_clauses_9 K N rc f y1 (y2 + 1) s29)) (bn (rc 73 y1 0 s27) (fun v30 s30 => lp_X1_clauses_9 K N rc f y1 (y2 + 1) s30)))))) (bn (b_X1_leave K N 83 s) (fun v31 s31 => okR y2 s31))
theorem l_X1_clauses_9 {xs : Nat → Int32} {L : Nat} {h0 : mm_H} {a p N cnt : Nat} {ks : Nat → Nat} (G : Cg h0 a p N cnt ks) {n : Nat} {rc : Nat → Nat → Nat → Ss → Rs Ss} (IH : Hr xs L h0 a p N cnt ks n rc) : ∀ (f : Nat) (y1 y2 : Nat) (s : Ss) (d : Nat) (ls : mm_L) (hd : n + 17 ≤ d) (hl0 : mm_lk ls 0 = some (.ref p)) (hl1 : mm_lk ls 1 = some (.int (nI y1))) (hl2 : mm_lk ls 2 = some (.int (nI y2))), lp_X1_clauses_9 (kA cnt ks) N rc f y1 y2 s ≠ none → Ev xs L d 72 9 ls [] (TC h0 a p N cnt ks s) 0 0 (ou eN (TC h0 a p N cnt ks) (lp_X1_clauses_9 (kA cnt ks) N rc f y1 y2 s)) := by
  intro f
  induction f with
  | zero => intros; rename_i hN; exact absurd rfl hN
  | succ f ih =>
    intro y1 y2 s d ls hd hl0 hl1 hl2 hN
    rw [lp_X1_clauses_9] at hN ⊢
    refine e_iload_n m_X1_clauses dX1_clauses_9 rfl hl2 ?_
    refine e_sipush (v := nI 16385) m_X1_clauses dX1_clauses_10 (by decide) ?_
    refine e_ige (t := 62) (a := y2) (b := 16385) hN m_X1_clauses dX1_clauses_13 (by decide) (fun q17 hN => ?_) (fun q17 hN => ?_)
    · refine e_aload_n m_X1_clauses dX1_clauses_16 rfl hl0 rfl ?_
      refine e_bipush (v := nI 11) m_X1_clauses dX1_clauses_17 (by decide) ?_
      refine e_cvN (as := [.int (nI 11)]) hN m_X1_clauses dX1_clauses_19 c_RX1_46 (by decide) rfl rfl (gC_p G.1) rfl (Nat.le_of_ble_eq_true rfl) (Nat.le_of_ble_eq_true rfl) (by omega) (t_sees G (by omega)) (fun v18 s18 hN => ?_)
      refine e_ifne (t := 34) hN m_X1_clauses dX1_clauses_22 (by decide) (fun q19 hN => ?_) (fun q19 hN => ?_)
      · refine e_aload_n m_X1_clauses dX1_clauses_25 rfl hl0 rfl ?_
        refine e_bipush (v := nI 15) m_X1_clauses dX1_clauses_26 (by decide) ?_
        refine e_cvN (as := [.int (nI 15)]) hN m_X1_clauses dX1_clauses_28 c_RX1_46 (by decide) rfl rfl (gC_p G.1) rfl (Nat.le_of_ble_eq_true rfl) (Nat.le_of_ble_eq_true rfl) (by omega) (t_sees G (by omega)) (fun v20 s20 hN => ?_)
        refine e_ifeq (t := 62) hN m_X1_clauses dX1_clauses_31 (by decide) (fun q21 hN => ?_) (fun q21 hN => ?_)
        · refine e_aload_n m_X1_clauses dX1_clauses_62 rfl hl0 rfl ?_
          refine e_bipush (v := nI 83) m_X1_clauses dX1_clauses_63 (by decide) ?_
          refine e_cvU (as := [.int (nI 83)]) hN m_X1_clauses dX1_clauses_65 c_RX1_106 (by decide) rfl rfl (gC_p G.1) rfl (Nat.le_of_ble_eq_true rfl) (Nat.le_of_ble_eq_true rfl) (by omega) (w_X1_leave G (by omega)) (fun v22 s22 hN => ?_)
          refine e_iload_n m_X1_clauses dX1_clauses_68 rfl hl2 ?_
          exact e_reti m_X1_clauses dX1_clauses_69 (Or.inl rfl)
        · refine e_aload_n m_X1_clauses dX1_clauses_34 rfl hl0 rfl ?_
          refine e_bipush (v := nI 11) m_X1_clauses dX1_clauses_35 (by decide) ?_
          refine e_cvN (as := [.int (nI 11)]) hN m_X1_clauses dX1_clauses_37 c_RX1_46 (by decide) rfl rfl (gC_p G.1) rfl (Nat.le_of_ble_eq_true rfl) (Nat.le_of_ble_eq_true rfl) (by omega) (t_sees G (by omega)) (fun v23 s23 hN => ?_)
          refine e_ifeq (t := 51) hN m_X1_clauses dX1_clauses_40 (by decide) (fun q24 hN => ?_) (fun q24 hN => ?_)
          · refine e_aload_n m_X1_clauses dX1_clauses_51 rfl hl0 rfl ?_
            refine e_iload_n m_X1_clauses dX1_clauses_52 rfl hl1 ?_
            refine e_cvU (as := [.int (nI y1)]) hN m_X1_clauses dX1_clauses_53 c_RX1_280 (by decide) rfl rfl (gC_p G.1) rfl (Nat.le_of_ble_eq_true rfl) (Nat.le_of_ble_eq_true rfl) (by omega) (i_X1_defaultClause IH (by omega)) (fun v25 s25 hN => ?_)
            refine e_iincN (n := 1) m_X1_clauses dX1_clauses_56 (by decide) hl2 rfl ?_
            refine e_goto (t := 9) m_X1_clauses dX1_clauses_59 (by decide) ?_
            exact ih y1 (y2 + 1) _ _ _ (by omega) (lk_mis (by decide) rfl hl0) (lk_mis (by decide) rfl hl1) lk_hit hN
          · refine e_aload_n m_X1_clauses dX1_clauses_43 rfl hl0 rfl ?_
            refine e_iload_n m_X1_clauses dX1_clauses_44 rfl hl1 ?_
            refine e_cvU (as := [.int (nI y1)]) hN m_X1_clauses dX1_clauses_45 c_RX1_277 (by decide) rfl rfl (gC_p G.1) rfl (Nat.le_of_ble_eq_true rfl) (Nat.le_of_ble_eq_true rfl) (by omega) (i_X1_caseClause IH (by omega)) (fun v26 s26 hN => ?_)
            refine e_goto (t := 56) m_X1_clauses dX1_clauses_48 (by decide) ?_
            refine e_iincN (n := 1) m_X1_clauses dX1_clauses_56 (by decide) hl2 rfl ?_
            refine e_goto (t := 9) m_X1_clauses dX1_clauses_59 (by decide) ?_
            exact ih y1 (y2 + 1) _ _ _ (by omega) (lk_mis (by decide) rfl hl0) (lk_mis (by decide) rfl hl1) lk_hit hN
      · refine e_aload_n m_X1_clauses dX1_clauses_34 rfl hl0 rfl ?_
        refine e_bipush (v := nI 11) m_X1_clauses dX1_clauses_35 (by decide) ?_
        refine e_cvN (as := [.int (nI 11)]) hN m_X1_clauses dX1_clauses_37 c_RX1_46 (by decide) rfl rfl (gC_p G.1) rfl (Nat.le_of_ble_eq_true rfl) (Nat.le_of_ble_eq_true rfl) (by omega) (t_sees G (by omega)) (fun v27 s27 hN => ?_)
        refine e_ifeq (t := 51) hN m_X1_clauses dX1_clauses_40 (by decide) (fun q28 hN => ?_) (fun q28 hN => ?_)
        · refine e_aload_n m_X1_clauses dX1_clauses_51 rfl hl0 rfl ?_
          refine e_iload_n m_X1_clauses dX1_clauses_52 rfl hl1 ?_
          refine e_cvU (as := [.int (nI y1)]) hN m_X1_clauses dX1_clauses_53 c_RX1_280 (by decide) rfl rfl (gC_p G.1) rfl (Nat.le_of_ble_eq_true rfl) (Nat.le_of_ble_eq_true rfl) (by omega) (i_X1_defaultClause IH (by omega)) (fun v29 s29 hN => ?_)
          refine e_iincN (n := 1) m_X1_clauses dX1_clauses_56 (by decide) hl2 rfl ?_
          refine e_goto (t := 9) m_X1_clauses dX1_clauses_59 (by decide) ?_
          exact ih y1 (y2 + 1) _ _ _ (by omega) (lk_mis (by decide) rfl hl0) (lk_mis (by decide) rfl hl1) lk_hit hN
        · refine e_aload_n m_X1_clauses dX1_clauses_43 rfl hl0 rfl ?_
          refine e_iload_n m_X1_clauses dX1_clauses_44 rfl hl1 ?_
          refine e_cvU (as := [.int (nI y1)]) hN m_X1_clauses dX1_clauses_45 c_RX1_277 (by decide) rfl rfl (gC_p G.1) rfl (Nat.le_of_ble_eq_true rfl) (Nat.le_of_ble_eq_true rfl) (by omega) (i_X1_caseClause IH (by omega)) (fun v30 s30 hN => ?_)
          refine e_goto (t := 56) m_X1_clauses dX1_clauses_48 (by decide) ?_
          refine e_iincN (n := 1) m_X1_clauses dX1_clauses_56 (by decide) hl2 rfl ?_
          refine e_goto (t := 9) m_X1_clauses dX1_clauses_59 (by decide) ?_
          exact ih y1 (y2 + 1) _ _ _ (by omega) (lk_mis (by decide) rfl hl0) (lk_mis (by decide) rfl hl1) lk_hit hN
    · refine e_aload_n m_X1_clauses dX1_clauses_62 rfl hl0 rfl ?_
      refine e_bipush (v := nI 83) m_X1_clauses dX1_clauses_63 (by decide) ?_
      refine e_cvU (as := [.int (nI 83)]) hN m_X1_clauses dX1_clauses_65 c_RX1_106 (by decide) rfl rfl (gC_p G.1) rfl (Nat.le_of_ble_eq_true rfl) (Nat.le_of_ble_eq_true rfl) (by omega) (w_X1_leave G (by omega)) (fun v31 s31 hN => ?_)
      refine e_iload_n m_X1_clauses dX1_clauses_68 rfl hl2 ?_
      exact e_reti m_X1_clauses dX1_clauses_69 (Or.inl rfl)
def b_X1_clauses (K : Nat → Nat) (N : Nat) (rc : Nat → Nat → Nat → Ss → Rs Ss) (x1 : Nat) (s : Ss) : Rs Ss := bn (b_X1_enter K N 82 s) (fun v1 s1 => lp_X1_clauses_9 K N rc LF x1 0 s1)
theorem w_X1_clauses {xs : Nat → Int32} {L : Nat} {h0 : mm_H} {a p N cnt : Nat} {ks : Nat → Nat} (G : Cg h0 a p N cnt ks) {n : Nat} {rc : Nat → Nat → Nat → Ss → Rs Ss} (IH : Hr xs L h0 a p N cnt ks n rc) {x1 : Nat} {s : Ss} {d : Nat} (hd : n + 17 ≤ d) (hN : b_X1_clauses (kA cnt ks) N rc x1 s ≠ none) : Rn xs L d 72 [.ref p, .int (nI x1)] (TC h0 a p N cnt ks s) (ou eN (TC h0 a p N cnt ks) (b_X1_clauses (kA cnt ks) N rc x1 s)) := by
  unfold Rn
  unfold b_X1_clauses at hN ⊢
  refine e_aload_n m_X1_clauses dX1_clauses_0 rfl rfl rfl ?_
  refine e_bipush (v := nI 82) m_X1_clauses dX1_clauses_1 (by decide) ?_
  refine e_cvN (as := [.int (nI 82)]) hN m_X1_clauses dX1_clauses_3 c_RX1_100 (by decide) rfl rfl (gC_p G.1) rfl (Nat.le_of_ble_eq_true rfl) (Nat.le_of_ble_eq_true rfl) (by omega) (w_X1_enter G (by omega)) (fun v1 s1 hN => ?_)
  refine e_pop m_X1_clauses dX1_clauses_6 rfl ?_
  refine e_iconst (v := nI 0) m_X1_clauses dX1_clauses_7 (by decide) ?_
  refine e_istore_n m_X1_clauses dX1_clauses_8 rfl (by decide) rfl ?_
  exact l_X1_clauses_9 G IH LF x1 0 _ _ _ (by omega) rfl rfl rfl hN

def b_X1_caseClause (K : Nat → Nat) (N : Nat) (rc : Nat → Nat → Nat → Ss → Rs Ss) (x1 : Nat) (s : Ss) : Rs Ss := bn (q_take s) (fun v1 s1 => ck (x1 < 2147483648) (ife x1 1 (bn (rc 74 0 0 s1) (fun v4 s4 => bn (rc 76 0 0 s4) (fun v5 s5 => ife x1 2 (bn (b_X3_put K N 74 v1 2 s5) (fun v7 s7 => okR 0 s7)) (bn (b_X3_put K N 71 v1 2 s5) (fun v8 s8 => okR 0 s8))))) (ife x1 2 (bn (rc 75 5 0 s1) (fun v10 s10 => bn (rc 76 0 0 s10) (fun v11 s11 => ife x1 2 (bn (b_X3_put K N 74 v1 2 s11) (fun v13 s13 => okR 0 s13)) (bn (b_X3_put K N 71 v1 2 s11) (fun v14 s14 => okR 0 s14))))) (bn (rc 55 0 0 s1) (fun v15 s15 => bn (rc 76 0 0 s15) (fun v16 s16 => ife x1 2 (bn (b_X3_put K N 74 v1 2 s16) (fun v18 s18 => okR 0 s18)) (bn (b_X3_put K N 71 v1 2 s16) (fun v19 s19 => okR 0 s19))))))))
theorem w_X1_caseClause {xs : Nat → Int32} {L : Nat} {h0 : mm_H} {a p N cnt : Nat} {ks : Nat → Nat} (G : Cg h0 a p N cnt ks) {n : Nat} {rc : Nat → Nat → Nat → Ss → Rs Ss} (IH : Hr xs L h0 a p N cnt ks n rc) {x1 : Nat} {s : Ss} {d : Nat} (hd : n + 17 ≤ d) (hN : b_X1_caseClause (kA cnt ks) N rc x1 s ≠ none) : Rn xs L d 73 [.ref p, .int (nI x1)] (TC h0 a p N cnt ks s) (ou eU (TC h0 a p N cnt ks) (b_X1_caseClause (kA cnt ks) N rc x1 s)) := by
  unfold Rn
  unfold b_X1_caseClause at hN ⊢
  refine e_aload_n m_X1_caseClause dX1_caseClause_0 rfl rfl rfl ?_
  refine e_cvN (as := []) hN m_X1_caseClause dX1_caseClause_1 c_RX1_50 (by decide) rfl rfl (gC_p G.1) rfl (Nat.le_of_ble_eq_true rfl) (Nat.le_of_ble_eq_true rfl) (by omega) (t_take G (by omega)) (fun v1 s1 hN => ?_)
  refine e_istore_n m_X1_caseClause dX1_caseClause_4 rfl (by decide) rfl ?_
  refine e_iload_n m_X1_caseClause dX1_caseClause_5 rfl rfl ?_
  refine e_ck hN (fun q2 hN => ?_)
  refine sw_c (a := x1) (b := 1) hN (fun q3 hN => ?_) (fun q3 hN => ?_)
  · refine e_lookup (t := 32) m_X1_caseClause dX1_caseClause_6 (by decide) (by rw [q3]; decide) ?_
    refine e_aload_n m_X1_caseClause dX1_caseClause_32 rfl rfl rfl ?_
    refine e_cvU (as := []) hN m_X1_caseClause dX1_caseClause_33 c_RX1_283 (by decide) rfl rfl (gC_p G.1) rfl (Nat.le_of_ble_eq_true rfl) (Nat.le_of_ble_eq_true rfl) (by omega) (i_X1_types IH (by omega)) (fun v4 s4 hN => ?_)
    refine e_goto (t := 51) m_X1_caseClause dX1_caseClause_36 (by decide) ?_
    refine e_aload_n m_X1_caseClause dX1_caseClause_51 rfl rfl rfl ?_
    refine e_cvU (as := []) hN m_X1_caseClause dX1_caseClause_52 c_RX1_286 (by decide) rfl rfl (gC_p G.1) rfl (Nat.le_of_ble_eq_true rfl) (Nat.le_of_ble_eq_true rfl) (by omega) (i_X1_clauseBody IH (by omega)) (fun v5 s5 hN => ?_)
    refine e_aload_n m_X1_caseClause dX1_caseClause_55 rfl rfl rfl ?_
    refine e_getf m_X1_caseClause dX1_caseClause_56 f_RX1_17 (gC_p G.1) rfl ?_
    refine e_iload_n m_X1_caseClause dX1_caseClause_59 rfl rfl ?_
    refine e_iconst (v := nI 2) m_X1_caseClause dX1_caseClause_60 (by decide) ?_
    refine e_ine (t := 69) (a := x1) (b := 2) hN m_X1_caseClause dX1_caseClause_61 (by decide) (fun q6 hN => ?_) (fun q6 hN => ?_)
    · refine e_bipush (v := nI 74) m_X1_caseClause dX1_caseClause_64 (by decide) ?_
      refine e_goto (t := 71) m_X1_caseClause dX1_caseClause_66 (by decide) ?_
      refine e_iload_n m_X1_caseClause dX1_caseClause_71 rfl rfl ?_
      refine e_iconst (v := nI 2) m_X1_caseClause dX1_caseClause_72 (by decide) ?_
      refine e_cvU (as := [.int (nI 74), .int (nI v1), .int (nI 2)]) hN m_X1_caseClause dX1_caseClause_73 c_RX1_69 (by decide) rfl rfl (gC_r G.1) rfl (Nat.le_of_ble_eq_true rfl) (Nat.le_of_ble_eq_true rfl) (by omega) (w_X3_put G (by omega)) (fun v7 s7 hN => ?_)
      exact e_ret0 m_X1_caseClause dX1_caseClause_76
    · refine e_bipush (v := nI 71) m_X1_caseClause dX1_caseClause_69 (by decide) ?_
      refine e_iload_n m_X1_caseClause dX1_caseClause_71 rfl rfl ?_
      refine e_iconst (v := nI 2) m_X1_caseClause dX1_caseClause_72 (by decide) ?_
      refine e_cvU (as := [.int (nI 71), .int (nI v1), .int (nI 2)]) hN m_X1_caseClause dX1_caseClause_73 c_RX1_69 (by decide) rfl rfl (gC_r G.1) rfl (Nat.le_of_ble_eq_true rfl) (Nat.le_of_ble_eq_true rfl) (by omega) (w_X3_put G (by omega)) (fun v8 s8 hN => ?_)
      exact e_ret0 m_X1_caseClause dX1_caseClause_76
  · refine sw_c (a := x1) (b := 2) hN (fun q9 hN => ?_) (fun q9 hN => ?_)
    · refine e_lookup (t := 39) m_X1_caseClause dX1_caseClause_6 (by decide) (by rw [q9]; decide) ?_
      refine e_aload_n m_X1_caseClause dX1_caseClause_39 rfl rfl rfl ?_
      refine e_iconst (v := nI 5) m_X1_caseClause dX1_caseClause_40 (by decide) ?_
      refine e_cvU (as := [.int (nI 5)]) hN m_X1_caseClause dX1_caseClause_41 c_RX1_225 (by decide) rfl rfl (gC_p G.1) rfl (Nat.le_of_ble_eq_true rfl) (Nat.le_of_ble_eq_true rfl) (by omega) (i_X1_wholeSimple IH (by omega)) (fun v10 s10 hN => ?_)
      refine e_goto (t := 51) m_X1_caseClause dX1_caseClause_44 (by decide) ?_
      refine e_aload_n m_X1_caseClause dX1_caseClause_51 rfl rfl rfl ?_
      refine e_cvU (as := []) hN m_X1_caseClause dX1_caseClause_52 c_RX1_286 (by decide) rfl rfl (gC_p G.1) rfl (Nat.le_of_ble_eq_true rfl) (Nat.le_of_ble_eq_true rfl) (by omega) (i_X1_clauseBody IH (by omega)) (fun v11 s11 hN => ?_)
      refine e_aload_n m_X1_caseClause dX1_caseClause_55 rfl rfl rfl ?_
      refine e_getf m_X1_caseClause dX1_caseClause_56 f_RX1_17 (gC_p G.1) rfl ?_
      refine e_iload_n m_X1_caseClause dX1_caseClause_59 rfl rfl ?_
      refine e_iconst (v := nI 2) m_X1_caseClause dX1_caseClause_60 (by decide) ?_
      refine e_ine (t := 69) (a := x1) (b := 2) hN m_X1_caseClause dX1_caseClause_61 (by decide) (fun q12 hN => ?_) (fun q12 hN => ?_)
      · refine e_bipush (v := nI 74) m_X1_caseClause dX1_caseClause_64 (by decide) ?_
        refine e_goto (t := 71) m_X1_caseClause dX1_caseClause_66 (by decide) ?_
        refine e_iload_n m_X1_caseClause dX1_caseClause_71 rfl rfl ?_
        refine e_iconst (v := nI 2) m_X1_caseClause dX1_caseClause_72 (by decide) ?_
        refine e_cvU (as := [.int (nI 74), .int (nI v1), .int (nI 2)]) hN m_X1_caseClause dX1_caseClause_73 c_RX1_69 (by decide) rfl rfl (gC_r G.1) rfl (Nat.le_of_ble_eq_true rfl) (Nat.le_of_ble_eq_true rfl) (by omega) (w_X3_put G (by omega)) (fun v13 s13 hN => ?_)
        exact e_ret0 m_X1_caseClause dX1_caseClause_76
      · refine e_bipush (v := nI 71) m_X1_caseClause dX1_caseClause_69 (by decide) ?_
        refine e_iload_n m_X1_caseClause dX1_caseClause_71 rfl rfl ?_
        refine e_iconst (v := nI 2) m_X1_caseClause dX1_caseClause_72 (by decide) ?_
        refine e_cvU (as := [.int (nI 71), .int (nI v1), .int (nI 2)]) hN m_X1_caseClause dX1_caseClause_73 c_RX1_69 (by decide) rfl rfl (gC_r G.1) rfl (Nat.le_of_ble_eq_true rfl) (Nat.le_of_ble_eq_true rfl) (by omega) (w_X3_put G (by omega)) (fun v14 s14 hN => ?_)
        exact e_ret0 m_X1_caseClause dX1_caseClause_76
    · refine e_lookup (t := 47) m_X1_caseClause dX1_caseClause_6 (by decide) (by rw [nI_toInt q2, lk_dflt _ (by intro q hq; simp only [List.mem_cons, List.not_mem_nil, or_false] at hq; rcases hq with rfl | rfl <;> (simp only []; omega))]; decide) ?_
      refine e_aload_n m_X1_caseClause dX1_caseClause_47 rfl rfl rfl ?_
      refine e_cvU (as := []) hN m_X1_caseClause dX1_caseClause_48 c_RX1_141 (by decide) rfl rfl (gC_p G.1) rfl (Nat.le_of_ble_eq_true rfl) (Nat.le_of_ble_eq_true rfl) (by omega) (i_X1_exprs IH (by omega)) (fun v15 s15 hN => ?_)
      refine e_aload_n m_X1_caseClause dX1_caseClause_51 rfl rfl rfl ?_
      refine e_cvU (as := []) hN m_X1_caseClause dX1_caseClause_52 c_RX1_286 (by decide) rfl rfl (gC_p G.1) rfl (Nat.le_of_ble_eq_true rfl) (Nat.le_of_ble_eq_true rfl) (by omega) (i_X1_clauseBody IH (by omega)) (fun v16 s16 hN => ?_)
      refine e_aload_n m_X1_caseClause dX1_caseClause_55 rfl rfl rfl ?_
      refine e_getf m_X1_caseClause dX1_caseClause_56 f_RX1_17 (gC_p G.1) rfl ?_
      refine e_iload_n m_X1_caseClause dX1_caseClause_59 rfl rfl ?_
      refine e_iconst (v := nI 2) m_X1_caseClause dX1_caseClause_60 (by decide) ?_
      refine e_ine (t := 69) (a := x1) (b := 2) hN m_X1_caseClause dX1_caseClause_61 (by decide) (fun q17 hN => ?_) (fun q17 hN => ?_)
      · refine e_bipush (v := nI 74) m_X1_caseClause dX1_caseClause_64 (by decide) ?_
        refine e_goto (t := 71) m_X1_caseClause dX1_caseClause_66 (by decide) ?_
        refine e_iload_n m_X1_caseClause dX1_caseClause_71 rfl rfl ?_
        refine e_iconst (v := nI 2) m_X1_caseClause dX1_caseClause_72 (by decide) ?_
        refine e_cvU (as := [.int (nI 74), .int (nI v1), .int (nI 2)]) hN m_X1_caseClause dX1_caseClause_73 c_RX1_69 (by decide) rfl rfl (gC_r G.1) rfl (Nat.le_of_ble_eq_true rfl) (Nat.le_of_ble_eq_true rfl) (by omega) (w_X3_put G (by omega)) (fun v18 s18 hN => ?_)
        exact e_ret0 m_X1_caseClause dX1_caseClause_76
      · refine e_bipush (v := nI 71) m_X1_caseClause dX1_caseClause_69 (by decide) ?_
        refine e_iload_n m_X1_caseClause dX1_caseClause_71 rfl rfl ?_
        refine e_iconst (v := nI 2) m_X1_caseClause dX1_caseClause_72 (by decide) ?_
        refine e_cvU (as := [.int (nI 71), .int (nI v1), .int (nI 2)]) hN m_X1_caseClause dX1_caseClause_73 c_RX1_69 (by decide) rfl rfl (gC_r G.1) rfl (Nat.le_of_ble_eq_true rfl) (Nat.le_of_ble_eq_true rfl) (by omega) (w_X3_put G (by omega)) (fun v19 s19 hN => ?_)
        exact e_ret0 m_X1_caseClause dX1_caseClause_76

def lp_X1_types_11 (K : Nat → Nat) (N : Nat) (rc : Nat → Nat → Nat → Ss → Rs Ss) : Nat → Nat → Nat → Ss → Rs Ss
  | 0, _, _, _ => none
  | f + 1, y1, y2, s => ifl y2 16385 (bn (b_X1_accept K N 84 s) (fun v9 s9 => ifz v9 (bn (b_X3_put K N 70 y1 y2 s9) (fun v11 s11 => okR 0 s11)) (bn (rc 26 0 0 s9) (fun v12 s12 => lp_X1_types_11 K N rc f y1 (y2 + 1) s12)))) (bn (b_X3_put K N 70 y1 y2 s) (fun v13 s13 => okR 0 s13))
theorem l_X1_types_11 {xs : Nat → Int32} {L : Nat} {h0 : mm_H} {a p N cnt : Nat} {ks : Nat → Nat} (G : Cg h0 a p N cnt ks) {n : Nat} {rc : Nat → Nat → Nat → Ss → Rs Ss} (IH : Hr xs L h0 a p N cnt ks n rc) : ∀ (f : Nat) (y1 y2 : Nat) (s : Ss) (d : Nat) (ls : mm_L) (hd : n + 17 ≤ d) (hl0 : mm_lk ls 0 = some (.ref p)) (hl1 : mm_lk ls 1 = some (.int (nI y1))) (hl2 : mm_lk ls 2 = some (.int (nI y2))), lp_X1_types_11 (kA cnt ks) N rc f y1 y2 s ≠ none → Ev xs L d 74 11 ls [] (TC h0 a p N cnt ks s) 0 0 (ou eU (TC h0 a p N cnt ks) (lp_X1_types_11 (kA cnt ks) N rc f y1 y2 s)) := by
  intro f
  induction f with
  | zero => intros; rename_i hN; exact absurd rfl hN
  | succ f ih =>
    intro y1 y2 s d ls hd hl0 hl1 hl2 hN
    rw [lp_X1_types_11] at hN ⊢
    refine e_iload_n m_X1_types dX1_types_11 rfl hl2 ?_
    refine e_sipush (v := nI 16385) m_X1_types dX1_types_12 (by decide) ?_
    refine e_ige (t := 37) (a := y2) (b := 16385) hN m_X1_types dX1_types_15 (by decide) (fun q8 hN => ?_) (fun q8 hN => ?_)
    · refine e_aload_n m_X1_types dX1_types_18 rfl hl0 rfl ?_
      refine e_bipush (v := nI 84) m_X1_types dX1_types_19 (by decide) ?_
      refine e_cvN (as := [.int (nI 84)]) hN m_X1_types dX1_types_21 c_RX1_123 (by decide) rfl rfl (gC_p G.1) rfl (Nat.le_of_ble_eq_true rfl) (Nat.le_of_ble_eq_true rfl) (by omega) (w_X1_accept G (by omega)) (fun v9 s9 hN => ?_)
      refine e_ifeq (t := 37) hN m_X1_types dX1_types_24 (by decide) (fun q10 hN => ?_) (fun q10 hN => ?_)
      · refine e_aload_n m_X1_types dX1_types_37 rfl hl0 rfl ?_
        refine e_getf m_X1_types dX1_types_38 f_RX1_17 (gC_p G.1) rfl ?_
        refine e_bipush (v := nI 70) m_X1_types dX1_types_41 (by decide) ?_
        refine e_iload_n m_X1_types dX1_types_43 rfl hl1 ?_
        refine e_iload_n m_X1_types dX1_types_44 rfl hl2 ?_
        refine e_cvU (as := [.int (nI 70), .int (nI y1), .int (nI y2)]) hN m_X1_types dX1_types_45 c_RX1_69 (by decide) rfl rfl (gC_r G.1) rfl (Nat.le_of_ble_eq_true rfl) (Nat.le_of_ble_eq_true rfl) (by omega) (w_X3_put G (by omega)) (fun v11 s11 hN => ?_)
        exact e_ret0 m_X1_types dX1_types_48
      · refine e_aload_n m_X1_types dX1_types_27 rfl hl0 rfl ?_
        refine e_cvU (as := []) hN m_X1_types dX1_types_28 c_RX1_103 (by decide) rfl rfl (gC_p G.1) rfl (Nat.le_of_ble_eq_true rfl) (Nat.le_of_ble_eq_true rfl) (by omega) (i_X1_type IH (by omega)) (fun v12 s12 hN => ?_)
        refine e_iincN (n := 1) m_X1_types dX1_types_31 (by decide) hl2 rfl ?_
        refine e_goto (t := 11) m_X1_types dX1_types_34 (by decide) ?_
        exact ih y1 (y2 + 1) _ _ _ (by omega) (lk_mis (by decide) rfl hl0) (lk_mis (by decide) rfl hl1) lk_hit hN
    · refine e_aload_n m_X1_types dX1_types_37 rfl hl0 rfl ?_
      refine e_getf m_X1_types dX1_types_38 f_RX1_17 (gC_p G.1) rfl ?_
      refine e_bipush (v := nI 70) m_X1_types dX1_types_41 (by decide) ?_
      refine e_iload_n m_X1_types dX1_types_43 rfl hl1 ?_
      refine e_iload_n m_X1_types dX1_types_44 rfl hl2 ?_
      refine e_cvU (as := [.int (nI 70), .int (nI y1), .int (nI y2)]) hN m_X1_types dX1_types_45 c_RX1_69 (by decide) rfl rfl (gC_r G.1) rfl (Nat.le_of_ble_eq_true rfl) (Nat.le_of_ble_eq_true rfl) (by omega) (w_X3_put G (by omega)) (fun v13 s13 hN => ?_)
      exact e_ret0 m_X1_types dX1_types_48
def b_X1_types (K : Nat → Nat) (N : Nat) (rc : Nat → Nat → Nat → Ss → Rs Ss) (s : Ss) : Rs Ss := bn (rc 26 0 0 s) (fun v1 s1 => lp_X1_types_11 K N rc LF (s_at s) 1 s1)
theorem w_X1_types {xs : Nat → Int32} {L : Nat} {h0 : mm_H} {a p N cnt : Nat} {ks : Nat → Nat} (G : Cg h0 a p N cnt ks) {n : Nat} {rc : Nat → Nat → Nat → Ss → Rs Ss} (IH : Hr xs L h0 a p N cnt ks n rc) {s : Ss} {d : Nat} (hd : n + 17 ≤ d) (hN : b_X1_types (kA cnt ks) N rc s ≠ none) : Rn xs L d 74 [.ref p] (TC h0 a p N cnt ks s) (ou eU (TC h0 a p N cnt ks) (b_X1_types (kA cnt ks) N rc s)) := by
  unfold Rn
  unfold b_X1_types at hN ⊢
  refine e_aload_n m_X1_types dX1_types_0 rfl rfl rfl ?_
  refine e_getf m_X1_types dX1_types_1 f_RX1_43 (gC_p G.1) rfl ?_
  refine e_istore_n m_X1_types dX1_types_4 rfl (by decide) rfl ?_
  refine e_aload_n m_X1_types dX1_types_5 rfl rfl rfl ?_
  refine e_cvU (as := []) hN m_X1_types dX1_types_6 c_RX1_103 (by decide) rfl rfl (gC_p G.1) rfl (Nat.le_of_ble_eq_true rfl) (Nat.le_of_ble_eq_true rfl) (by omega) (i_X1_type IH (by omega)) (fun v1 s1 hN => ?_)
  refine e_iconst (v := nI 1) m_X1_types dX1_types_9 (by decide) ?_
  refine e_istore_n m_X1_types dX1_types_10 rfl (by decide) rfl ?_
  exact l_X1_types_11 G IH LF (s_at s) 1 _ _ _ (by omega) rfl rfl rfl hN

def b_X1_wholeSimple (K : Nat → Nat) (N : Nat) (rc : Nat → Nat → Nat → Ss → Rs Ss) (x1 : Nat) (s : Ss) : Rs Ss := bn (rc 62 x1 0 s) (fun v1 s1 => ifz v1 (bn (b_X3_put K N 50 (s_at s) 1 s1) (fun v3 s3 => okR 0 s3)) (okR 0 s1))
theorem w_X1_wholeSimple {xs : Nat → Int32} {L : Nat} {h0 : mm_H} {a p N cnt : Nat} {ks : Nat → Nat} (G : Cg h0 a p N cnt ks) {n : Nat} {rc : Nat → Nat → Nat → Ss → Rs Ss} (IH : Hr xs L h0 a p N cnt ks n rc) {x1 : Nat} {s : Ss} {d : Nat} (hd : n + 17 ≤ d) (hN : b_X1_wholeSimple (kA cnt ks) N rc x1 s ≠ none) : Rn xs L d 75 [.ref p, .int (nI x1)] (TC h0 a p N cnt ks s) (ou eU (TC h0 a p N cnt ks) (b_X1_wholeSimple (kA cnt ks) N rc x1 s)) := by
  unfold Rn
  unfold b_X1_wholeSimple at hN ⊢
  refine e_aload_n m_X1_wholeSimple dX1_wholeSimple_0 rfl rfl rfl ?_
  refine e_getf m_X1_wholeSimple dX1_wholeSimple_1 f_RX1_43 (gC_p G.1) rfl ?_
  refine e_istore_n m_X1_wholeSimple dX1_wholeSimple_4 rfl (by decide) rfl ?_
  refine e_aload_n m_X1_wholeSimple dX1_wholeSimple_5 rfl rfl rfl ?_
  refine e_iload_n m_X1_wholeSimple dX1_wholeSimple_6 rfl rfl ?_
  refine e_cvN (as := [.int (nI x1)]) hN m_X1_wholeSimple dX1_wholeSimple_7 c_RX1_228 (by decide) rfl rfl (gC_p G.1) rfl (Nat.le_of_ble_eq_true rfl) (Nat.le_of_ble_eq_true rfl) (by omega) (i_X1_simple IH (by omega)) (fun v1 s1 hN => ?_)
  refine e_ifne (t := 24) hN m_X1_wholeSimple dX1_wholeSimple_10 (by decide) (fun q2 hN => ?_) (fun q2 hN => ?_)
  · refine e_aload_n m_X1_wholeSimple dX1_wholeSimple_13 rfl rfl rfl ?_
    refine e_getf m_X1_wholeSimple dX1_wholeSimple_14 f_RX1_17 (gC_p G.1) rfl ?_
    refine e_bipush (v := nI 50) m_X1_wholeSimple dX1_wholeSimple_17 (by decide) ?_
    refine e_iload_n m_X1_wholeSimple dX1_wholeSimple_19 rfl rfl ?_
    refine e_iconst (v := nI 1) m_X1_wholeSimple dX1_wholeSimple_20 (by decide) ?_
    refine e_cvU (as := [.int (nI 50), .int (nI (s_at s)), .int (nI 1)]) hN m_X1_wholeSimple dX1_wholeSimple_21 c_RX1_69 (by decide) rfl rfl (gC_r G.1) rfl (Nat.le_of_ble_eq_true rfl) (Nat.le_of_ble_eq_true rfl) (by omega) (w_X3_put G (by omega)) (fun v3 s3 hN => ?_)
    exact e_ret0 m_X1_wholeSimple dX1_wholeSimple_24
  · exact e_ret0 m_X1_wholeSimple dX1_wholeSimple_24

def b_X1_clauseBody (K : Nat → Nat) (N : Nat) (rc : Nat → Nat → Nat → Ss → Rs Ss) (s : Ss) : Rs Ss := bn (b_X1_expect K N 87 s) (fun v1 s1 => bn (rc 48 0 0 s1) (fun v2 s2 => bn (b_X3_put K N 40 v1 v2 s2) (fun v3 s3 => okR 0 s3)))
theorem w_X1_clauseBody {xs : Nat → Int32} {L : Nat} {h0 : mm_H} {a p N cnt : Nat} {ks : Nat → Nat} (G : Cg h0 a p N cnt ks) {n : Nat} {rc : Nat → Nat → Nat → Ss → Rs Ss} (IH : Hr xs L h0 a p N cnt ks n rc) {s : Ss} {d : Nat} (hd : n + 17 ≤ d) (hN : b_X1_clauseBody (kA cnt ks) N rc s ≠ none) : Rn xs L d 76 [.ref p] (TC h0 a p N cnt ks s) (ou eU (TC h0 a p N cnt ks) (b_X1_clauseBody (kA cnt ks) N rc s)) := by
  unfold Rn
  unfold b_X1_clauseBody at hN ⊢
  refine e_aload_n m_X1_clauseBody dX1_clauseBody_0 rfl rfl rfl ?_
  refine e_bipush (v := nI 87) m_X1_clauseBody dX1_clauseBody_1 (by decide) ?_
  refine e_cvN (as := [.int (nI 87)]) hN m_X1_clauseBody dX1_clauseBody_3 c_RX1_63 (by decide) rfl rfl (gC_p G.1) rfl (Nat.le_of_ble_eq_true rfl) (Nat.le_of_ble_eq_true rfl) (by omega) (w_X1_expect G (by omega)) (fun v1 s1 hN => ?_)
  refine e_istore_n m_X1_clauseBody dX1_clauseBody_6 rfl (by decide) rfl ?_
  refine e_aload_n m_X1_clauseBody dX1_clauseBody_7 rfl rfl rfl ?_
  refine e_getf m_X1_clauseBody dX1_clauseBody_8 f_RX1_17 (gC_p G.1) rfl ?_
  refine e_bipush (v := nI 40) m_X1_clauseBody dX1_clauseBody_11 (by decide) ?_
  refine e_iload_n m_X1_clauseBody dX1_clauseBody_13 rfl rfl ?_
  refine e_aload_n m_X1_clauseBody dX1_clauseBody_14 rfl rfl rfl ?_
  refine e_cvN (as := []) hN m_X1_clauseBody dX1_clauseBody_15 c_RX1_185 (by decide) rfl rfl (gC_p G.1) rfl (Nat.le_of_ble_eq_true rfl) (Nat.le_of_ble_eq_true rfl) (by omega) (i_X1_stmts IH (by omega)) (fun v2 s2 hN => ?_)
  refine e_cvU (as := [.int (nI 40), .int (nI v1), .int (nI v2)]) hN m_X1_clauseBody dX1_clauseBody_18 c_RX1_69 (by decide) rfl rfl (gC_r G.1) rfl (Nat.le_of_ble_eq_true rfl) (Nat.le_of_ble_eq_true rfl) (by omega) (w_X3_put G (by omega)) (fun v3 s3 hN => ?_)
  exact e_ret0 m_X1_clauseBody dX1_clauseBody_21

