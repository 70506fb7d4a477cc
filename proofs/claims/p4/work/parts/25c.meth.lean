/-! The methods of the parser. -/
def b_X1_param (K : Nat → Nat) (N : Nat) (rc : Nat → Nat → Nat → Ss → Rs Ss) (x1 : Nat) (x2 : Nat) (s : Ss) : Rs Ss := bn (q_sees K 1 s) (fun v1 s1 => ifz v1 (ife x1 1 (erR s1) (bn (q_sees K 77 s1) (fun v4 s4 => ifz v4 (bn (rc 26 0 0 s4) (fun v6 s6 => bn (b_X3_put K N 16 (s_at s) 1 s6) (fun v7 s7 => okR 2 s7))) (bn (b_X1_putLeaf K N 17 s4) (fun v8 s8 => bn (rc 26 0 0 s8) (fun v9 s9 => bn (b_X3_put K N 16 (s_at s) 2 s9) (fun v10 s10 => okR 2 s10))))))) (ife x1 2 (ife x1 1 (erR s1) (bn (q_sees K 77 s1) (fun v13 s13 => ifz v13 (bn (rc 26 0 0 s13) (fun v15 s15 => bn (b_X3_put K N 16 (s_at s) 1 s15) (fun v16 s16 => okR 2 s16))) (bn (b_X1_putLeaf K N 17 s13) (fun v17 s17 => bn (rc 26 0 0 s17) (fun v18 s18 => bn (b_X3_put K N 16 (s_at s) 2 s18) (fun v19 s19 => okR 2 s19))))))) (bn (b_X1_name K N  s1) (fun v20 s20 => bn (q_sees K 77 s20) (fun v21 s21 => ifz v21 (ck ((K (s_at s21)) < 2147483648) (ifz (f_X0_beginsType (K (s_at s21))) (bn (b_X3_put K N 16 (s_at s) 1 s21) (fun v25 s25 => okR 0 s25)) (ifz x2 (bn (q_sees K 77 s21) (fun v27 s27 => ifz v27 (bn (rc 26 0 0 s27) (fun v29 s29 => bn (b_X3_put K N 16 (s_at s) 2 s29) (fun v30 s30 => okR 1 s30))) (bn (b_X1_putLeaf K N 17 s27) (fun v31 s31 => bn (rc 26 0 0 s31) (fun v32 s32 => bn (b_X3_put K N 16 (s_at s) 3 s32) (fun v33 s33 => okR 1 s33)))))) (bn (q_sees K 77 s21) (fun v34 s34 => ifz v34 (bn (q_sees K 77 s34) (fun v36 s36 => ifz v36 (bn (rc 26 0 0 s36) (fun v38 s38 => bn (b_X3_put K N 16 (s_at s) 2 s38) (fun v39 s39 => okR 1 s39))) (bn (b_X1_putLeaf K N 17 s36) (fun v40 s40 => bn (rc 26 0 0 s40) (fun v41 s41 => bn (b_X3_put K N 16 (s_at s) 3 s41) (fun v42 s42 => okR 1 s42)))))) (erR s34)))))) (ifz x2 (bn (q_sees K 77 s21) (fun v44 s44 => ifz v44 (bn (rc 26 0 0 s44) (fun v46 s46 => bn (b_X3_put K N 16 (s_at s) 2 s46) (fun v47 s47 => okR 1 s47))) (bn (b_X1_putLeaf K N 17 s44) (fun v48 s48 => bn (rc 26 0 0 s48) (fun v49 s49 => bn (b_X3_put K N 16 (s_at s) 3 s49) (fun v50 s50 => okR 1 s50)))))) (bn (q_sees K 77 s21) (fun v51 s51 => ifz v51 (bn (q_sees K 77 s51) (fun v53 s53 => ifz v53 (bn (rc 26 0 0 s53) (fun v55 s55 => bn (b_X3_put K N 16 (s_at s) 2 s55) (fun v56 s56 => okR 1 s56))) (bn (b_X1_putLeaf K N 17 s53) (fun v57 s57 => bn (rc 26 0 0 s57) (fun v58 s58 => bn (b_X3_put K N 16 (s_at s) 3 s58) (fun v59 s59 => okR 1 s59)))))) (erR s51)))))))))
theorem w_X1_param {xs : Nat → Int32} {L : Nat} {h0 : mm_H} {a p N cnt : Nat} {ks : Nat → Nat} (G : Cg h0 a p N cnt ks) {n : Nat} {rc : Nat → Nat → Nat → Ss → Rs Ss} (IH : Hr xs L h0 a p N cnt ks n rc) {x1 : Nat} {x2 : Nat} {s : Ss} {d : Nat} (hd : n + 17 ≤ d) (hN : b_X1_param (kA cnt ks) N rc x1 x2 s ≠ none) : Rn xs L d 46 [.ref p, .int (nI x1), .int (nI x2)] (TC h0 a p N cnt ks s) (ou eN (TC h0 a p N cnt ks) (b_X1_param (kA cnt ks) N rc x1 x2 s)) := by
  unfold Rn
  unfold b_X1_param at hN ⊢
  refine e_aload_n m_X1_param dX1_param_0 rfl rfl rfl ?_
  refine e_getf m_X1_param dX1_param_1 f_RX1_43 (gC_p G.1) rfl ?_
  refine e_istore_n m_X1_param dX1_param_4 rfl (by decide) rfl ?_
  refine e_iconst (v := nI 1) m_X1_param dX1_param_5 (by decide) ?_
  refine e_istore m_X1_param dX1_param_6 (by decide) rfl ?_
  refine e_iconst (v := nI 2) m_X1_param dX1_param_8 (by decide) ?_
  refine e_istore m_X1_param dX1_param_9 (by decide) rfl ?_
  refine e_aload_n m_X1_param dX1_param_11 rfl rfl rfl ?_
  refine e_iconst (v := nI 1) m_X1_param dX1_param_12 (by decide) ?_
  refine e_cvN (as := [.int (nI 1)]) hN m_X1_param dX1_param_13 c_RX1_46 (by decide) rfl rfl (gC_p G.1) rfl (Nat.le_of_ble_eq_true rfl) (Nat.le_of_ble_eq_true rfl) (by omega) (t_sees G (by omega)) (fun v1 s1 hN => ?_)
  refine e_ifeq (t := 66) hN m_X1_param dX1_param_16 (by decide) (fun q2 hN => ?_) (fun q2 hN => ?_)
  · refine e_iload m_X1_param dX1_param_66 rfl ?_
    refine e_iconst (v := nI 2) m_X1_param dX1_param_68 (by decide) ?_
    refine e_icF (t := 81) m_X1_param dX1_param_69 (by decide) (by decide) ?_
    refine e_iload_n m_X1_param dX1_param_72 rfl rfl ?_
    refine e_iconst (v := nI 1) m_X1_param dX1_param_73 (by decide) ?_
    refine e_ine (t := 81) (a := x1) (b := 1) hN m_X1_param dX1_param_74 (by decide) (fun q3 hN => ?_) (fun q3 hN => ?_)
    · refine e_iconst (v := nI 1) m_X1_param dX1_param_77 (by decide) ?_
      refine e_goto (t := 82) m_X1_param dX1_param_78 (by decide) ?_
      refine e_istore m_X1_param dX1_param_82 (by decide) rfl ?_
      refine e_iload m_X1_param dX1_param_84 rfl ?_
      refine e_iconst (v := nI 1) m_X1_param dX1_param_86 (by decide) ?_
      refine e_icT (t := 107) m_X1_param dX1_param_87 (by decide) (by decide) ?_
      refine e_iconst (v := nI 0) m_X1_param dX1_param_107 (by decide) ?_
      refine e_istore m_X1_param dX1_param_108 (by decide) rfl ?_
      refine e_iload m_X1_param dX1_param_110 rfl ?_
      refine e_ifT (t := 120) m_X1_param dX1_param_112 (by decide) (by decide) ?_
      refine e_aload_n m_X1_param dX1_param_120 rfl rfl rfl ?_
      exact e_cvX (as := []) m_X1_param dX1_param_121 c_RX1_54 (by decide) rfl rfl (gC_p G.1) rfl (Nat.le_of_ble_eq_true rfl) (Nat.le_of_ble_eq_true rfl) (by omega) (r_refuse (by omega))
    · refine e_iconst (v := nI 0) m_X1_param dX1_param_81 (by decide) ?_
      refine e_istore m_X1_param dX1_param_82 (by decide) rfl ?_
      refine e_iload m_X1_param dX1_param_84 rfl ?_
      refine e_iconst (v := nI 1) m_X1_param dX1_param_86 (by decide) ?_
      refine e_icT (t := 107) m_X1_param dX1_param_87 (by decide) (by decide) ?_
      refine e_iconst (v := nI 0) m_X1_param dX1_param_107 (by decide) ?_
      refine e_istore m_X1_param dX1_param_108 (by decide) rfl ?_
      refine e_iload m_X1_param dX1_param_110 rfl ?_
      refine e_ifF (t := 120) m_X1_param dX1_param_112 (by decide) (by decide) ?_
      refine e_iload m_X1_param dX1_param_115 rfl ?_
      refine e_ifT (t := 124) m_X1_param dX1_param_117 (by decide) (by decide) ?_
      refine e_aload_n m_X1_param dX1_param_124 rfl rfl rfl ?_
      refine e_bipush (v := nI 77) m_X1_param dX1_param_125 (by decide) ?_
      refine e_cvN (as := [.int (nI 77)]) hN m_X1_param dX1_param_127 c_RX1_46 (by decide) rfl rfl (gC_p G.1) rfl (Nat.le_of_ble_eq_true rfl) (Nat.le_of_ble_eq_true rfl) (by omega) (t_sees G (by omega)) (fun v4 s4 hN => ?_)
      refine e_ifeq (t := 142) hN m_X1_param dX1_param_130 (by decide) (fun q5 hN => ?_) (fun q5 hN => ?_)
      · refine e_aload_n m_X1_param dX1_param_142 rfl rfl rfl ?_
        refine e_cvU (as := []) hN m_X1_param dX1_param_143 c_RX1_103 (by decide) rfl rfl (gC_p G.1) rfl (Nat.le_of_ble_eq_true rfl) (Nat.le_of_ble_eq_true rfl) (by omega) (i_X1_type IH (by omega)) (fun v6 s6 hN => ?_)
        refine e_aload_n m_X1_param dX1_param_146 rfl rfl rfl ?_
        refine e_getf m_X1_param dX1_param_147 f_RX1_17 (gC_p G.1) rfl ?_
        refine e_bipush (v := nI 16) m_X1_param dX1_param_150 (by decide) ?_
        refine e_iload_n m_X1_param dX1_param_152 rfl rfl ?_
        refine e_iload m_X1_param dX1_param_153 rfl ?_
        refine e_cvU (as := [.int (nI 16), .int (nI (s_at s)), .int (nI 1)]) hN m_X1_param dX1_param_155 c_RX1_69 (by decide) rfl rfl (gC_r G.1) rfl (Nat.le_of_ble_eq_true rfl) (Nat.le_of_ble_eq_true rfl) (by omega) (w_X3_put G (by omega)) (fun v7 s7 hN => ?_)
        refine e_iload m_X1_param dX1_param_158 rfl ?_
        exact e_reti m_X1_param dX1_param_160 (Or.inl rfl)
      · refine e_aload_n m_X1_param dX1_param_133 rfl rfl rfl ?_
        refine e_bipush (v := nI 17) m_X1_param dX1_param_134 (by decide) ?_
        refine e_cvU (as := [.int (nI 17)]) hN m_X1_param dX1_param_136 c_RX1_154 (by decide) rfl rfl (gC_p G.1) rfl (Nat.le_of_ble_eq_true rfl) (Nat.le_of_ble_eq_true rfl) (by omega) (w_X1_putLeaf G (by omega)) (fun v8 s8 hN => ?_)
        refine e_iincN (n := 1) m_X1_param dX1_param_139 (by decide) rfl rfl ?_
        refine e_aload_n m_X1_param dX1_param_142 rfl rfl rfl ?_
        refine e_cvU (as := []) hN m_X1_param dX1_param_143 c_RX1_103 (by decide) rfl rfl (gC_p G.1) rfl (Nat.le_of_ble_eq_true rfl) (Nat.le_of_ble_eq_true rfl) (by omega) (i_X1_type IH (by omega)) (fun v9 s9 hN => ?_)
        refine e_aload_n m_X1_param dX1_param_146 rfl rfl rfl ?_
        refine e_getf m_X1_param dX1_param_147 f_RX1_17 (gC_p G.1) rfl ?_
        refine e_bipush (v := nI 16) m_X1_param dX1_param_150 (by decide) ?_
        refine e_iload_n m_X1_param dX1_param_152 rfl rfl ?_
        refine e_iload m_X1_param dX1_param_153 rfl ?_
        refine e_cvU (as := [.int (nI 16), .int (nI (s_at s)), .int (nI 2)]) hN m_X1_param dX1_param_155 c_RX1_69 (by decide) rfl rfl (gC_r G.1) rfl (Nat.le_of_ble_eq_true rfl) (Nat.le_of_ble_eq_true rfl) (by omega) (w_X3_put G (by omega)) (fun v10 s10 hN => ?_)
        refine e_iload m_X1_param dX1_param_158 rfl ?_
        exact e_reti m_X1_param dX1_param_160 (Or.inl rfl)
  · refine e_iload_n m_X1_param dX1_param_19 rfl rfl ?_
    refine e_iconst (v := nI 2) m_X1_param dX1_param_20 (by decide) ?_
    refine e_ieq (t := 66) (a := x1) (b := 2) hN m_X1_param dX1_param_21 (by decide) (fun q11 hN => ?_) (fun q11 hN => ?_)
    · refine e_iload m_X1_param dX1_param_66 rfl ?_
      refine e_iconst (v := nI 2) m_X1_param dX1_param_68 (by decide) ?_
      refine e_icF (t := 81) m_X1_param dX1_param_69 (by decide) (by decide) ?_
      refine e_iload_n m_X1_param dX1_param_72 rfl rfl ?_
      refine e_iconst (v := nI 1) m_X1_param dX1_param_73 (by decide) ?_
      refine e_ine (t := 81) (a := x1) (b := 1) hN m_X1_param dX1_param_74 (by decide) (fun q12 hN => ?_) (fun q12 hN => ?_)
      · refine e_iconst (v := nI 1) m_X1_param dX1_param_77 (by decide) ?_
        refine e_goto (t := 82) m_X1_param dX1_param_78 (by decide) ?_
        refine e_istore m_X1_param dX1_param_82 (by decide) rfl ?_
        refine e_iload m_X1_param dX1_param_84 rfl ?_
        refine e_iconst (v := nI 1) m_X1_param dX1_param_86 (by decide) ?_
        refine e_icT (t := 107) m_X1_param dX1_param_87 (by decide) (by decide) ?_
        refine e_iconst (v := nI 0) m_X1_param dX1_param_107 (by decide) ?_
        refine e_istore m_X1_param dX1_param_108 (by decide) rfl ?_
        refine e_iload m_X1_param dX1_param_110 rfl ?_
        refine e_ifT (t := 120) m_X1_param dX1_param_112 (by decide) (by decide) ?_
        refine e_aload_n m_X1_param dX1_param_120 rfl rfl rfl ?_
        exact e_cvX (as := []) m_X1_param dX1_param_121 c_RX1_54 (by decide) rfl rfl (gC_p G.1) rfl (Nat.le_of_ble_eq_true rfl) (Nat.le_of_ble_eq_true rfl) (by omega) (r_refuse (by omega))
      · refine e_iconst (v := nI 0) m_X1_param dX1_param_81 (by decide) ?_
        refine e_istore m_X1_param dX1_param_82 (by decide) rfl ?_
        refine e_iload m_X1_param dX1_param_84 rfl ?_
        refine e_iconst (v := nI 1) m_X1_param dX1_param_86 (by decide) ?_
        refine e_icT (t := 107) m_X1_param dX1_param_87 (by decide) (by decide) ?_
        refine e_iconst (v := nI 0) m_X1_param dX1_param_107 (by decide) ?_
        refine e_istore m_X1_param dX1_param_108 (by decide) rfl ?_
        refine e_iload m_X1_param dX1_param_110 rfl ?_
        refine e_ifF (t := 120) m_X1_param dX1_param_112 (by decide) (by decide) ?_
        refine e_iload m_X1_param dX1_param_115 rfl ?_
        refine e_ifT (t := 124) m_X1_param dX1_param_117 (by decide) (by decide) ?_
        refine e_aload_n m_X1_param dX1_param_124 rfl rfl rfl ?_
        refine e_bipush (v := nI 77) m_X1_param dX1_param_125 (by decide) ?_
        refine e_cvN (as := [.int (nI 77)]) hN m_X1_param dX1_param_127 c_RX1_46 (by decide) rfl rfl (gC_p G.1) rfl (Nat.le_of_ble_eq_true rfl) (Nat.le_of_ble_eq_true rfl) (by omega) (t_sees G (by omega)) (fun v13 s13 hN => ?_)
        refine e_ifeq (t := 142) hN m_X1_param dX1_param_130 (by decide) (fun q14 hN => ?_) (fun q14 hN => ?_)
        · refine e_aload_n m_X1_param dX1_param_142 rfl rfl rfl ?_
          refine e_cvU (as := []) hN m_X1_param dX1_param_143 c_RX1_103 (by decide) rfl rfl (gC_p G.1) rfl (Nat.le_of_ble_eq_true rfl) (Nat.le_of_ble_eq_true rfl) (by omega) (i_X1_type IH (by omega)) (fun v15 s15 hN => ?_)
          refine e_aload_n m_X1_param dX1_param_146 rfl rfl rfl ?_
          refine e_getf m_X1_param dX1_param_147 f_RX1_17 (gC_p G.1) rfl ?_
          refine e_bipush (v := nI 16) m_X1_param dX1_param_150 (by decide) ?_
          refine e_iload_n m_X1_param dX1_param_152 rfl rfl ?_
          refine e_iload m_X1_param dX1_param_153 rfl ?_
          refine e_cvU (as := [.int (nI 16), .int (nI (s_at s)), .int (nI 1)]) hN m_X1_param dX1_param_155 c_RX1_69 (by decide) rfl rfl (gC_r G.1) rfl (Nat.le_of_ble_eq_true rfl) (Nat.le_of_ble_eq_true rfl) (by omega) (w_X3_put G (by omega)) (fun v16 s16 hN => ?_)
          refine e_iload m_X1_param dX1_param_158 rfl ?_
          exact e_reti m_X1_param dX1_param_160 (Or.inl rfl)
        · refine e_aload_n m_X1_param dX1_param_133 rfl rfl rfl ?_
          refine e_bipush (v := nI 17) m_X1_param dX1_param_134 (by decide) ?_
          refine e_cvU (as := [.int (nI 17)]) hN m_X1_param dX1_param_136 c_RX1_154 (by decide) rfl rfl (gC_p G.1) rfl (Nat.le_of_ble_eq_true rfl) (Nat.le_of_ble_eq_true rfl) (by omega) (w_X1_putLeaf G (by omega)) (fun v17 s17 hN => ?_)
          refine e_iincN (n := 1) m_X1_param dX1_param_139 (by decide) rfl rfl ?_
          refine e_aload_n m_X1_param dX1_param_142 rfl rfl rfl ?_
          refine e_cvU (as := []) hN m_X1_param dX1_param_143 c_RX1_103 (by decide) rfl rfl (gC_p G.1) rfl (Nat.le_of_ble_eq_true rfl) (Nat.le_of_ble_eq_true rfl) (by omega) (i_X1_type IH (by omega)) (fun v18 s18 hN => ?_)
          refine e_aload_n m_X1_param dX1_param_146 rfl rfl rfl ?_
          refine e_getf m_X1_param dX1_param_147 f_RX1_17 (gC_p G.1) rfl ?_
          refine e_bipush (v := nI 16) m_X1_param dX1_param_150 (by decide) ?_
          refine e_iload_n m_X1_param dX1_param_152 rfl rfl ?_
          refine e_iload m_X1_param dX1_param_153 rfl ?_
          refine e_cvU (as := [.int (nI 16), .int (nI (s_at s)), .int (nI 2)]) hN m_X1_param dX1_param_155 c_RX1_69 (by decide) rfl rfl (gC_r G.1) rfl (Nat.le_of_ble_eq_true rfl) (Nat.le_of_ble_eq_true rfl) (by omega) (w_X3_put G (by omega)) (fun v19 s19 hN => ?_)
          refine e_iload m_X1_param dX1_param_158 rfl ?_
          exact e_reti m_X1_param dX1_param_160 (Or.inl rfl)
    · refine e_aload_n m_X1_param dX1_param_24 rfl rfl rfl ?_
      refine e_cvU (as := []) hN m_X1_param dX1_param_25 c_RX1_79 (by decide) rfl rfl (gC_p G.1) rfl (Nat.le_of_ble_eq_true rfl) (Nat.le_of_ble_eq_true rfl) (by omega) (w_X1_name G (by omega)) (fun v20 s20 hN => ?_)
      refine e_aload_n m_X1_param dX1_param_28 rfl rfl rfl ?_
      refine e_bipush (v := nI 77) m_X1_param dX1_param_29 (by decide) ?_
      refine e_cvN (as := [.int (nI 77)]) hN m_X1_param dX1_param_31 c_RX1_46 (by decide) rfl rfl (gC_p G.1) rfl (Nat.le_of_ble_eq_true rfl) (Nat.le_of_ble_eq_true rfl) (by omega) (t_sees G (by omega)) (fun v21 s21 hN => ?_)
      refine e_ifne (t := 60) hN m_X1_param dX1_param_34 (by decide) (fun q22 hN => ?_) (fun q22 hN => ?_)
      · refine e_aload_n m_X1_param dX1_param_37 rfl rfl rfl ?_
        refine e_getf m_X1_param dX1_param_38 f_RX1_33 (gC_p G.1) rfl ?_
        refine e_ck hN (fun q23 hN => ?_)
        refine e_cs (as := [_]) m_X1_param dX1_param_41 c_RX1_138 (by decide) rfl rfl (Nat.le_of_ble_eq_true rfl) (Nat.le_of_ble_eq_true rfl) (by omega) (z_X0_beginsType q23 (by omega)) ?_
        refine e_ifne (t := 60) hN m_X1_param dX1_param_44 (by decide) (fun q24 hN => ?_) (fun q24 hN => ?_)
        · refine e_aload_n m_X1_param dX1_param_47 rfl rfl rfl ?_
          refine e_getf m_X1_param dX1_param_48 f_RX1_17 (gC_p G.1) rfl ?_
          refine e_bipush (v := nI 16) m_X1_param dX1_param_51 (by decide) ?_
          refine e_iload_n m_X1_param dX1_param_53 rfl rfl ?_
          refine e_iconst (v := nI 1) m_X1_param dX1_param_54 (by decide) ?_
          refine e_cvU (as := [.int (nI 16), .int (nI (s_at s)), .int (nI 1)]) hN m_X1_param dX1_param_55 c_RX1_69 (by decide) rfl rfl (gC_r G.1) rfl (Nat.le_of_ble_eq_true rfl) (Nat.le_of_ble_eq_true rfl) (by omega) (w_X3_put G (by omega)) (fun v25 s25 hN => ?_)
          refine e_iconst (v := nI 0) m_X1_param dX1_param_58 (by decide) ?_
          exact e_reti m_X1_param dX1_param_59 (Or.inl rfl)
        · refine e_iincN (n := 1) m_X1_param dX1_param_60 (by decide) rfl rfl ?_
          refine e_iconst (v := nI 1) m_X1_param dX1_param_63 (by decide) ?_
          refine e_istore m_X1_param dX1_param_64 (by decide) rfl ?_
          refine e_iload m_X1_param dX1_param_66 rfl ?_
          refine e_iconst (v := nI 2) m_X1_param dX1_param_68 (by decide) ?_
          refine e_icT (t := 81) m_X1_param dX1_param_69 (by decide) (by decide) ?_
          refine e_iconst (v := nI 0) m_X1_param dX1_param_81 (by decide) ?_
          refine e_istore m_X1_param dX1_param_82 (by decide) rfl ?_
          refine e_iload m_X1_param dX1_param_84 rfl ?_
          refine e_iconst (v := nI 1) m_X1_param dX1_param_86 (by decide) ?_
          refine e_icF (t := 107) m_X1_param dX1_param_87 (by decide) (by decide) ?_
          refine e_iload_n m_X1_param dX1_param_90 rfl rfl ?_
          refine e_ifle (t := 107) hN m_X1_param dX1_param_91 (by decide) (fun q26 hN => ?_) (fun q26 hN => ?_)
          · refine e_iconst (v := nI 0) m_X1_param dX1_param_107 (by decide) ?_
            refine e_istore m_X1_param dX1_param_108 (by decide) rfl ?_
            refine e_iload m_X1_param dX1_param_110 rfl ?_
            refine e_ifF (t := 120) m_X1_param dX1_param_112 (by decide) (by decide) ?_
            refine e_iload m_X1_param dX1_param_115 rfl ?_
            refine e_ifT (t := 124) m_X1_param dX1_param_117 (by decide) (by decide) ?_
            refine e_aload_n m_X1_param dX1_param_124 rfl rfl rfl ?_
            refine e_bipush (v := nI 77) m_X1_param dX1_param_125 (by decide) ?_
            refine e_cvN (as := [.int (nI 77)]) hN m_X1_param dX1_param_127 c_RX1_46 (by decide) rfl rfl (gC_p G.1) rfl (Nat.le_of_ble_eq_true rfl) (Nat.le_of_ble_eq_true rfl) (by omega) (t_sees G (by omega)) (fun v27 s27 hN => ?_)
            refine e_ifeq (t := 142) hN m_X1_param dX1_param_130 (by decide) (fun q28 hN => ?_) (fun q28 hN => ?_)
            · refine e_aload_n m_X1_param dX1_param_142 rfl rfl rfl ?_
              refine e_cvU (as := []) hN m_X1_param dX1_param_143 c_RX1_103 (by decide) rfl rfl (gC_p G.1) rfl (Nat.le_of_ble_eq_true rfl) (Nat.le_of_ble_eq_true rfl) (by omega) (i_X1_type IH (by omega)) (fun v29 s29 hN => ?_)
              refine e_aload_n m_X1_param dX1_param_146 rfl rfl rfl ?_
              refine e_getf m_X1_param dX1_param_147 f_RX1_17 (gC_p G.1) rfl ?_
              refine e_bipush (v := nI 16) m_X1_param dX1_param_150 (by decide) ?_
              refine e_iload_n m_X1_param dX1_param_152 rfl rfl ?_
              refine e_iload m_X1_param dX1_param_153 rfl ?_
              refine e_cvU (as := [.int (nI 16), .int (nI (s_at s)), .int (nI 2)]) hN m_X1_param dX1_param_155 c_RX1_69 (by decide) rfl rfl (gC_r G.1) rfl (Nat.le_of_ble_eq_true rfl) (Nat.le_of_ble_eq_true rfl) (by omega) (w_X3_put G (by omega)) (fun v30 s30 hN => ?_)
              refine e_iload m_X1_param dX1_param_158 rfl ?_
              exact e_reti m_X1_param dX1_param_160 (Or.inl rfl)
            · refine e_aload_n m_X1_param dX1_param_133 rfl rfl rfl ?_
              refine e_bipush (v := nI 17) m_X1_param dX1_param_134 (by decide) ?_
              refine e_cvU (as := [.int (nI 17)]) hN m_X1_param dX1_param_136 c_RX1_154 (by decide) rfl rfl (gC_p G.1) rfl (Nat.le_of_ble_eq_true rfl) (Nat.le_of_ble_eq_true rfl) (by omega) (w_X1_putLeaf G (by omega)) (fun v31 s31 hN => ?_)
              refine e_iincN (n := 1) m_X1_param dX1_param_139 (by decide) rfl rfl ?_
              refine e_aload_n m_X1_param dX1_param_142 rfl rfl rfl ?_
              refine e_cvU (as := []) hN m_X1_param dX1_param_143 c_RX1_103 (by decide) rfl rfl (gC_p G.1) rfl (Nat.le_of_ble_eq_true rfl) (Nat.le_of_ble_eq_true rfl) (by omega) (i_X1_type IH (by omega)) (fun v32 s32 hN => ?_)
              refine e_aload_n m_X1_param dX1_param_146 rfl rfl rfl ?_
              refine e_getf m_X1_param dX1_param_147 f_RX1_17 (gC_p G.1) rfl ?_
              refine e_bipush (v := nI 16) m_X1_param dX1_param_150 (by decide) ?_
              refine e_iload_n m_X1_param dX1_param_152 rfl rfl ?_
              refine e_iload m_X1_param dX1_param_153 rfl ?_
              refine e_cvU (as := [.int (nI 16), .int (nI (s_at s)), .int (nI 3)]) hN m_X1_param dX1_param_155 c_RX1_69 (by decide) rfl rfl (gC_r G.1) rfl (Nat.le_of_ble_eq_true rfl) (Nat.le_of_ble_eq_true rfl) (by omega) (w_X3_put G (by omega)) (fun v33 s33 hN => ?_)
              refine e_iload m_X1_param dX1_param_158 rfl ?_
              exact e_reti m_X1_param dX1_param_160 (Or.inl rfl)
          · refine e_aload_n m_X1_param dX1_param_94 rfl rfl rfl ?_
            refine e_bipush (v := nI 77) m_X1_param dX1_param_95 (by decide) ?_
            refine e_cvN (as := [.int (nI 77)]) hN m_X1_param dX1_param_97 c_RX1_46 (by decide) rfl rfl (gC_p G.1) rfl (Nat.le_of_ble_eq_true rfl) (Nat.le_of_ble_eq_true rfl) (by omega) (t_sees G (by omega)) (fun v34 s34 hN => ?_)
            refine e_ifeq (t := 107) hN m_X1_param dX1_param_100 (by decide) (fun q35 hN => ?_) (fun q35 hN => ?_)
            · refine e_iconst (v := nI 0) m_X1_param dX1_param_107 (by decide) ?_
              refine e_istore m_X1_param dX1_param_108 (by decide) rfl ?_
              refine e_iload m_X1_param dX1_param_110 rfl ?_
              refine e_ifF (t := 120) m_X1_param dX1_param_112 (by decide) (by decide) ?_
              refine e_iload m_X1_param dX1_param_115 rfl ?_
              refine e_ifT (t := 124) m_X1_param dX1_param_117 (by decide) (by decide) ?_
              refine e_aload_n m_X1_param dX1_param_124 rfl rfl rfl ?_
              refine e_bipush (v := nI 77) m_X1_param dX1_param_125 (by decide) ?_
              refine e_cvN (as := [.int (nI 77)]) hN m_X1_param dX1_param_127 c_RX1_46 (by decide) rfl rfl (gC_p G.1) rfl (Nat.le_of_ble_eq_true rfl) (Nat.le_of_ble_eq_true rfl) (by omega) (t_sees G (by omega)) (fun v36 s36 hN => ?_)
              refine e_ifeq (t := 142) hN m_X1_param dX1_param_130 (by decide) (fun q37 hN => ?_) (fun q37 hN => ?_)
              · refine e_aload_n m_X1_param dX1_param_142 rfl rfl rfl ?_
                refine e_cvU (as := []) hN m_X1_param dX1_param_143 c_RX1_103 (by decide) rfl rfl (gC_p G.1) rfl (Nat.le_of_ble_eq_true rfl) (Nat.le_of_ble_eq_true rfl) (by omega) (i_X1_type IH (by omega)) (fun v38 s38 hN => ?_)
                refine e_aload_n m_X1_param dX1_param_146 rfl rfl rfl ?_
                refine e_getf m_X1_param dX1_param_147 f_RX1_17 (gC_p G.1) rfl ?_
                refine e_bipush (v := nI 16) m_X1_param dX1_param_150 (by decide) ?_
                refine e_iload_n m_X1_param dX1_param_152 rfl rfl ?_
                refine e_iload m_X1_param dX1_param_153 rfl ?_
                refine e_cvU (as := [.int (nI 16), .int (nI (s_at s)), .int (nI 2)]) hN m_X1_param dX1_param_155 c_RX1_69 (by decide) rfl rfl (gC_r G.1) rfl (Nat.le_of_ble_eq_true rfl) (Nat.le_of_ble_eq_true rfl) (by omega) (w_X3_put G (by omega)) (fun v39 s39 hN => ?_)
                refine e_iload m_X1_param dX1_param_158 rfl ?_
                exact e_reti m_X1_param dX1_param_160 (Or.inl rfl)
              · refine e_aload_n m_X1_param dX1_param_133 rfl rfl rfl ?_
                refine e_bipush (v := nI 17) m_X1_param dX1_param_134 (by decide) ?_
                refine e_cvU (as := [.int (nI 17)]) hN m_X1_param dX1_param_136 c_RX1_154 (by decide) rfl rfl (gC_p G.1) rfl (Nat.le_of_ble_eq_true rfl) (Nat.le_of_ble_eq_true rfl) (by omega) (w_X1_putLeaf G (by omega)) (fun v40 s40 hN => ?_)
                refine e_iincN (n := 1) m_X1_param dX1_param_139 (by decide) rfl rfl ?_
                refine e_aload_n m_X1_param dX1_param_142 rfl rfl rfl ?_
                refine e_cvU (as := []) hN m_X1_param dX1_param_143 c_RX1_103 (by decide) rfl rfl (gC_p G.1) rfl (Nat.le_of_ble_eq_true rfl) (Nat.le_of_ble_eq_true rfl) (by omega) (i_X1_type IH (by omega)) (fun v41 s41 hN => ?_)
                refine e_aload_n m_X1_param dX1_param_146 rfl rfl rfl ?_
                refine e_getf m_X1_param dX1_param_147 f_RX1_17 (gC_p G.1) rfl ?_
                refine e_bipush (v := nI 16) m_X1_param dX1_param_150 (by decide) ?_
                refine e_iload_n m_X1_param dX1_param_152 rfl rfl ?_
                refine e_iload m_X1_param dX1_param_153 rfl ?_
                refine e_cvU (as := [.int (nI 16), .int (nI (s_at s)), .int (nI 3)]) hN m_X1_param dX1_param_155 c_RX1_69 (by decide) rfl rfl (gC_r G.1) rfl (Nat.le_of_ble_eq_true rfl) (Nat.le_of_ble_eq_true rfl) (by omega) (w_X3_put G (by omega)) (fun v42 s42 hN => ?_)
                refine e_iload m_X1_param dX1_param_158 rfl ?_
                exact e_reti m_X1_param dX1_param_160 (Or.inl rfl)
            · refine e_iconst (v := nI 1) m_X1_param dX1_param_103 (by decide) ?_
              refine e_goto (t := 108) m_X1_param dX1_param_104 (by decide) ?_
              refine e_istore m_X1_param dX1_param_108 (by decide) rfl ?_
              refine e_iload m_X1_param dX1_param_110 rfl ?_
              refine e_ifF (t := 120) m_X1_param dX1_param_112 (by decide) (by decide) ?_
              refine e_iload m_X1_param dX1_param_115 rfl ?_
              refine e_ifF (t := 124) m_X1_param dX1_param_117 (by decide) (by decide) ?_
              refine e_aload_n m_X1_param dX1_param_120 rfl rfl rfl ?_
              exact e_cvX (as := []) m_X1_param dX1_param_121 c_RX1_54 (by decide) rfl rfl (gC_p G.1) rfl (Nat.le_of_ble_eq_true rfl) (Nat.le_of_ble_eq_true rfl) (by omega) (r_refuse (by omega))
      · refine e_iincN (n := 1) m_X1_param dX1_param_60 (by decide) rfl rfl ?_
        refine e_iconst (v := nI 1) m_X1_param dX1_param_63 (by decide) ?_
        refine e_istore m_X1_param dX1_param_64 (by decide) rfl ?_
        refine e_iload m_X1_param dX1_param_66 rfl ?_
        refine e_iconst (v := nI 2) m_X1_param dX1_param_68 (by decide) ?_
        refine e_icT (t := 81) m_X1_param dX1_param_69 (by decide) (by decide) ?_
        refine e_iconst (v := nI 0) m_X1_param dX1_param_81 (by decide) ?_
        refine e_istore m_X1_param dX1_param_82 (by decide) rfl ?_
        refine e_iload m_X1_param dX1_param_84 rfl ?_
        refine e_iconst (v := nI 1) m_X1_param dX1_param_86 (by decide) ?_
        refine e_icF (t := 107) m_X1_param dX1_param_87 (by decide) (by decide) ?_
        refine e_iload_n m_X1_param dX1_param_90 rfl rfl ?_
        refine e_ifle (t := 107) hN m_X1_param dX1_param_91 (by decide) (fun q43 hN => ?_) (fun q43 hN => ?_)
        · refine e_iconst (v := nI 0) m_X1_param dX1_param_107 (by decide) ?_
          refine e_istore m_X1_param dX1_param_108 (by decide) rfl ?_
          refine e_iload m_X1_param dX1_param_110 rfl ?_
          refine e_ifF (t := 120) m_X1_param dX1_param_112 (by decide) (by decide) ?_
          refine e_iload m_X1_param dX1_param_115 rfl ?_
          refine e_ifT (t := 124) m_X1_param dX1_param_117 (by decide) (by decide) ?_
          refine e_aload_n m_X1_param dX1_param_124 rfl rfl rfl ?_
          refine e_bipush (v := nI 77) m_X1_param dX1_param_125 (by decide) ?_
          refine e_cvN (as := [.int (nI 77)]) hN m_X1_param dX1_param_127 c_RX1_46 (by decide) rfl rfl (gC_p G.1) rfl (Nat.le_of_ble_eq_true rfl) (Nat.le_of_ble_eq_true rfl) (by omega) (t_sees G (by omega)) (fun v44 s44 hN => ?_)
          refine e_ifeq (t := 142) hN m_X1_param dX1_param_130 (by decide) (fun q45 hN => ?_) (fun q45 hN => ?_)
          · refine e_aload_n m_X1_param dX1_param_142 rfl rfl rfl ?_
            refine e_cvU (as := []) hN m_X1_param dX1_param_143 c_RX1_103 (by decide) rfl rfl (gC_p G.1) rfl (Nat.le_of_ble_eq_true rfl) (Nat.le_of_ble_eq_true rfl) (by omega) (i_X1_type IH (by omega)) (fun v46 s46 hN => ?_)
            refine e_aload_n m_X1_param dX1_param_146 rfl rfl rfl ?_
            refine e_getf m_X1_param dX1_param_147 f_RX1_17 (gC_p G.1) rfl ?_
            refine e_bipush (v := nI 16) m_X1_param dX1_param_150 (by decide) ?_
            refine e_iload_n m_X1_param dX1_param_152 rfl rfl ?_
            refine e_iload m_X1_param dX1_param_153 rfl ?_
            refine e_cvU (as := [.int (nI 16), .int (nI (s_at s)), .int (nI 2)]) hN m_X1_param dX1_param_155 c_RX1_69 (by decide) rfl rfl (gC_r G.1) rfl (Nat.le_of_ble_eq_true rfl) (Nat.le_of_ble_eq_true rfl) (by omega) (w_X3_put G (by omega)) (fun v47 s47 hN => ?_)
            refine e_iload m_X1_param dX1_param_158 rfl ?_
            exact e_reti m_X1_param dX1_param_160 (Or.inl rfl)
          · refine e_aload_n m_X1_param dX1_param_133 rfl rfl rfl ?_
            refine e_bipush (v := nI 17) m_X1_param dX1_param_134 (by decide) ?_
            refine e_cvU (as := [.int (nI 17)]) hN m_X1_param dX1_param_136 c_RX1_154 (by decide) rfl rfl (gC_p G.1) rfl (Nat.le_of_ble_eq_true rfl) (Nat.le_of_ble_eq_true rfl) (by omega) (w_X1_putLeaf G (by omega)) (fun v48 s48 hN => ?_)
            refine e_iincN (n := 1) m_X1_param dX1_param_139 (by decide) rfl rfl ?_
            refine e_aload_n m_X1_param dX1_param_142 rfl rfl rfl ?_
            refine e_cvU (as := []) hN m_X1_param dX1_param_143 c_RX1_103 (by decide) rfl rfl (gC_p G.1) rfl (Nat.le_of_ble_eq_true rfl) (Nat.le_of_ble_eq_true rfl) (by omega) (i_X1_type IH (by omega)) (fun v49 s49 hN => ?_)
            refine e_aload_n m_X1_param dX1_param_146 rfl rfl rfl ?_
            refine e_getf m_X1_param dX1_param_147 f_RX1_17 (gC_p G.1) rfl ?_
            refine e_bipush (v := nI 16) m_X1_param dX1_param_150 (by decide) ?_
            refine e_iload_n m_X1_param dX1_param_152 rfl rfl ?_
            refine e_iload m_X1_param dX1_param_153 rfl ?_
            refine e_cvU (as := [.int (nI 16), .int (nI (s_at s)), .int (nI 3)]) hN m_X1_param dX1_param_155 c_RX1_69 (by decide) rfl rfl (gC_r G.1) rfl (Nat.le_of_ble_eq_true rfl) (Nat.le_of_ble_eq_true rfl) (by omega) (w_X3_put G (by omega)) (fun v50 s50 hN => ?_)
            refine e_iload m_X1_param dX1_param_158 rfl ?_
            exact e_reti m_X1_param dX1_param_160 (Or.inl rfl)
        · refine e_aload_n m_X1_param dX1_param_94 rfl rfl rfl ?_
          refine e_bipush (v := nI 77) m_X1_param dX1_param_95 (by decide) ?_
          refine e_cvN (as := [.int (nI 77)]) hN m_X1_param dX1_param_97 c_RX1_46 (by decide) rfl rfl (gC_p G.1) rfl (Nat.le_of_ble_eq_true rfl) (Nat.le_of_ble_eq_true rfl) (by omega) (t_sees G (by omega)) (fun v51 s51 hN => ?_)
          refine e_ifeq (t := 107) hN m_X1_param dX1_param_100 (by decide) (fun q52 hN => ?_) (fun q52 hN => ?_)
          · refine e_iconst (v := nI 0) m_X1_param dX1_param_107 (by decide) ?_
            refine e_istore m_X1_param dX1_param_108 (by decide) rfl ?_
            refine e_iload m_X1_param dX1_param_110 rfl ?_
            refine e_ifF (t := 120) m_X1_param dX1_param_112 (by decide) (by decide) ?_
            refine e_iload m_X1_param dX1_param_115 rfl ?_
            refine e_ifT (t := 124) m_X1_param dX1_param_117 (by decide) (by decide) ?_
            refine e_aload_n m_X1_param dX1_param_124 rfl rfl rfl ?_
            refine e_bipush (v := nI 77) m_X1_param dX1_param_125 (by decide) ?_
            refine e_cvN (as := [.int (nI 77)]) hN m_X1_param dX1_param_127 c_RX1_46 (by decide) rfl rfl (gC_p G.1) rfl (Nat.le_of_ble_eq_true rfl) (Nat.le_of_ble_eq_true rfl) (by omega) (t_sees G (by omega)) (fun v53 s53 hN => ?_)
            refine e_ifeq (t := 142) hN m_X1_param dX1_param_130 (by decide) (fun q54 hN => ?_) (fun q54 hN => ?_)
            · refine e_aload_n m_X1_param dX1_param_142 rfl rfl rfl ?_
              refine e_cvU (as := []) hN m_X1_param dX1_param_143 c_RX1_103 (by decide) rfl rfl (gC_p G.1) rfl (Nat.le_of_ble_eq_true rfl) (Nat.le_of_ble_eq_true rfl) (by omega) (i_X1_type IH (by omega)) (fun v55 s55 hN => ?_)
              refine e_aload_n m_X1_param dX1_param_146 rfl rfl rfl ?_
              refine e_getf m_X1_param dX1_param_147 f_RX1_17 (gC_p G.1) rfl ?_
              refine e_bipush (v := nI 16) m_X1_param dX1_param_150 (by decide) ?_
              refine e_iload_n m_X1_param dX1_param_152 rfl rfl ?_
              refine e_iload m_X1_param dX1_param_153 rfl ?_
              refine e_cvU (as := [.int (nI 16), .int (nI (s_at s)), .int (nI 2)]) hN m_X1_param dX1_param_155 c_RX1_69 (by decide) rfl rfl (gC_r G.1) rfl (Nat.le_of_ble_eq_true rfl) (Nat.le_of_ble_eq_true rfl) (by omega) (w_X3_put G (by omega)) (fun v56 s56 hN => ?_)
              refine e_iload m_X1_param dX1_param_158 rfl ?_
              exact e_reti m_X1_param dX1_param_160 (Or.inl rfl)
            · refine e_aload_n m_X1_param dX1_param_133 rfl rfl rfl ?_
              refine e_bipush (v := nI 17) m_X1_param dX1_param_134 (by decide) ?_
              refine e_cvU (as := [.int (nI 17)]) hN m_X1_param dX1_param_136 c_RX1_154 (by decide) rfl rfl (gC_p G.1) rfl (Nat.le_of_ble_eq_true rfl) (Nat.le_of_ble_eq_true rfl) (by omega) (w_X1_putLeaf G (by omega)) (fun v57 s57 hN => ?_)
              refine e_iincN (n := 1) m_X1_param dX1_param_139 (by decide) rfl rfl ?_
              refine e_aload_n m_X1_param dX1_param_142 rfl rfl rfl ?_
              refine e_cvU (as := []) hN m_X1_param dX1_param_143 c_RX1_103 (by decide) rfl rfl (gC_p G.1) rfl (Nat.le_of_ble_eq_true rfl) (Nat.le_of_ble_eq_true rfl) (by omega) (i_X1_type IH (by omega)) (fun v58 s58 hN => ?_)
              refine e_aload_n m_X1_param dX1_param_146 rfl rfl rfl ?_
              refine e_getf m_X1_param dX1_param_147 f_RX1_17 (gC_p G.1) rfl ?_
              refine e_bipush (v := nI 16) m_X1_param dX1_param_150 (by decide) ?_
              refine e_iload_n m_X1_param dX1_param_152 rfl rfl ?_
              refine e_iload m_X1_param dX1_param_153 rfl ?_
              refine e_cvU (as := [.int (nI 16), .int (nI (s_at s)), .int (nI 3)]) hN m_X1_param dX1_param_155 c_RX1_69 (by decide) rfl rfl (gC_r G.1) rfl (Nat.le_of_ble_eq_true rfl) (Nat.le_of_ble_eq_true rfl) (by omega) (w_X3_put G (by omega)) (fun v59 s59 hN => ?_)
              refine e_iload m_X1_param dX1_param_158 rfl ?_
              exact e_reti m_X1_param dX1_param_160 (Or.inl rfl)
          · refine e_iconst (v := nI 1) m_X1_param dX1_param_103 (by decide) ?_
            refine e_goto (t := 108) m_X1_param dX1_param_104 (by decide) ?_
            refine e_istore m_X1_param dX1_param_108 (by decide) rfl ?_
            refine e_iload m_X1_param dX1_param_110 rfl ?_
            refine e_ifF (t := 120) m_X1_param dX1_param_112 (by decide) (by decide) ?_
            refine e_iload m_X1_param dX1_param_115 rfl ?_
            refine e_ifF (t := 124) m_X1_param dX1_param_117 (by decide) (by decide) ?_
            refine e_aload_n m_X1_param dX1_param_120 rfl rfl rfl ?_
            exact e_cvX (as := []) m_X1_param dX1_param_121 c_RX1_54 (by decide) rfl rfl (gC_p G.1) rfl (Nat.le_of_ble_eq_true rfl) (Nat.le_of_ble_eq_true rfl) (by omega) (r_refuse (by omega))

def b_X1_block (K : Nat → Nat) (N : Nat) (rc : Nat → Nat → Nat → Ss → Rs Ss) (s : Ss) : Rs Ss := bn (b_X1_enter K N 82 s) (fun v1 s1 => bn (rc 48 0 0 s1) (fun v2 s2 => bn (b_X1_leave K N 83 s2) (fun v3 s3 => bn (b_X3_put K N 40 v1 v2 s3) (fun v4 s4 => okR 0 s4))))
theorem w_X1_block {xs : Nat → Int32} {L : Nat} {h0 : mm_H} {a p N cnt : Nat} {ks : Nat → Nat} (G : Cg h0 a p N cnt ks) {n : Nat} {rc : Nat → Nat → Nat → Ss → Rs Ss} (IH : Hr xs L h0 a p N cnt ks n rc) {s : Ss} {d : Nat} (hd : n + 17 ≤ d) (hN : b_X1_block (kA cnt ks) N rc s ≠ none) : Rn xs L d 47 [.ref p] (TC h0 a p N cnt ks s) (ou eU (TC h0 a p N cnt ks) (b_X1_block (kA cnt ks) N rc s)) := by
  unfold Rn
  unfold b_X1_block at hN ⊢
  refine e_aload_n m_X1_block dX1_block_0 rfl rfl rfl ?_
  refine e_bipush (v := nI 82) m_X1_block dX1_block_1 (by decide) ?_
  refine e_cvN (as := [.int (nI 82)]) hN m_X1_block dX1_block_3 c_RX1_100 (by decide) rfl rfl (gC_p G.1) rfl (Nat.le_of_ble_eq_true rfl) (Nat.le_of_ble_eq_true rfl) (by omega) (w_X1_enter G (by omega)) (fun v1 s1 hN => ?_)
  refine e_istore_n m_X1_block dX1_block_6 rfl (by decide) rfl ?_
  refine e_aload_n m_X1_block dX1_block_7 rfl rfl rfl ?_
  refine e_cvN (as := []) hN m_X1_block dX1_block_8 c_RX1_185 (by decide) rfl rfl (gC_p G.1) rfl (Nat.le_of_ble_eq_true rfl) (Nat.le_of_ble_eq_true rfl) (by omega) (i_X1_stmts IH (by omega)) (fun v2 s2 hN => ?_)
  refine e_istore_n m_X1_block dX1_block_11 rfl (by decide) rfl ?_
  refine e_aload_n m_X1_block dX1_block_12 rfl rfl rfl ?_
  refine e_bipush (v := nI 83) m_X1_block dX1_block_13 (by decide) ?_
  refine e_cvU (as := [.int (nI 83)]) hN m_X1_block dX1_block_15 c_RX1_106 (by decide) rfl rfl (gC_p G.1) rfl (Nat.le_of_ble_eq_true rfl) (Nat.le_of_ble_eq_true rfl) (by omega) (w_X1_leave G (by omega)) (fun v3 s3 hN => ?_)
  refine e_aload_n m_X1_block dX1_block_18 rfl rfl rfl ?_
  refine e_getf m_X1_block dX1_block_19 f_RX1_17 (gC_p G.1) rfl ?_
  refine e_bipush (v := nI 40) m_X1_block dX1_block_22 (by decide) ?_
  refine e_iload_n m_X1_block dX1_block_24 rfl rfl ?_
  refine e_iload_n m_X1_block dX1_block_25 rfl rfl ?_
  refine e_cvU (as := [.int (nI 40), .int (nI v1), .int (nI v2)]) hN m_X1_block dX1_block_26 c_RX1_69 (by decide) rfl rfl (gC_r G.1) rfl (Nat.le_of_ble_eq_true rfl) (Nat.le_of_ble_eq_true rfl) (by omega) (w_X3_put G (by omega)) (fun v4 s4 hN => ?_)
  exact e_ret0 m_X1_block dX1_block_29

def lp_X1_stmts_6 (K : Nat → Nat) (N : Nat) (rc : Nat → Nat → Nat → Ss → Rs Ss) : Nat → Nat → Nat → Nat → Ss → Rs Ss
  | 0, _, _, _, _ => none
  | f + 1, y1, y2, y3, s => ifl y3 16385 (ifz y2 (okR y1 s) (bn (rc 49 0 0 s) (fun v9 s9 => ifz v9 (bn (b_X1_accept K N 85 s9) (fun v11 s11 => lp_X1_stmts_6 K N rc f y1 v11 (y3 + 1) s11)) (bn (b_X1_accept K N 85 s9) (fun v12 s12 => lp_X1_stmts_6 K N rc f (y1 + 1) v12 (y3 + 1) s12))))) (okR y1 s)
theorem l_X1_stmts_6 {xs : Nat → Int32} {L : Nat} {h0 : mm_H} {a p N cnt : Nat} {ks : Nat → Nat} (G : Cg h0 a p N cnt ks) {n : Nat} {rc : Nat → Nat → Nat → Ss → Rs Ss} (IH : Hr xs L h0 a p N cnt ks n rc) : ∀ (f : Nat) (y1 y2 y3 : Nat) (s : Ss) (d : Nat) (ls : mm_L) (hd : n + 17 ≤ d) (hl0 : mm_lk ls 0 = some (.ref p)) (hl1 : mm_lk ls 1 = some (.int (nI y1))) (hl2 : mm_lk ls 2 = some (.int (nI y2))) (hl3 : mm_lk ls 3 = some (.int (nI y3))), lp_X1_stmts_6 (kA cnt ks) N rc f y1 y2 y3 s ≠ none → Ev xs L d 48 6 ls [] (TC h0 a p N cnt ks s) 0 0 (ou eN (TC h0 a p N cnt ks) (lp_X1_stmts_6 (kA cnt ks) N rc f y1 y2 y3 s)) := by
  intro f
  induction f with
  | zero => intros; rename_i hN; exact absurd rfl hN
  | succ f ih =>
    intro y1 y2 y3 s d ls hd hl0 hl1 hl2 hl3 hN
    rw [lp_X1_stmts_6] at hN ⊢
    refine e_iload_n m_X1_stmts dX1_stmts_6 rfl hl3 ?_
    refine e_sipush (v := nI 16385) m_X1_stmts dX1_stmts_7 (by decide) ?_
    refine e_ige (t := 40) (a := y3) (b := 16385) hN m_X1_stmts dX1_stmts_10 (by decide) (fun q7 hN => ?_) (fun q7 hN => ?_)
    · refine e_iload_n m_X1_stmts dX1_stmts_13 rfl hl2 ?_
      refine e_ifeq (t := 40) hN m_X1_stmts dX1_stmts_14 (by decide) (fun q8 hN => ?_) (fun q8 hN => ?_)
      · refine e_iload_n m_X1_stmts dX1_stmts_40 rfl hl1 ?_
        exact e_reti m_X1_stmts dX1_stmts_41 (Or.inl rfl)
      · refine e_aload_n m_X1_stmts dX1_stmts_17 rfl hl0 rfl ?_
        refine e_cvN (as := []) hN m_X1_stmts dX1_stmts_18 c_RX1_188 (by decide) rfl rfl (gC_p G.1) rfl (Nat.le_of_ble_eq_true rfl) (Nat.le_of_ble_eq_true rfl) (by omega) (i_X1_stmt IH (by omega)) (fun v9 s9 hN => ?_)
        refine e_ifeq (t := 27) hN m_X1_stmts dX1_stmts_21 (by decide) (fun q10 hN => ?_) (fun q10 hN => ?_)
        · refine e_aload_n m_X1_stmts dX1_stmts_27 rfl hl0 rfl ?_
          refine e_bipush (v := nI 85) m_X1_stmts dX1_stmts_28 (by decide) ?_
          refine e_cvN (as := [.int (nI 85)]) hN m_X1_stmts dX1_stmts_30 c_RX1_123 (by decide) rfl rfl (gC_p G.1) rfl (Nat.le_of_ble_eq_true rfl) (Nat.le_of_ble_eq_true rfl) (by omega) (w_X1_accept G (by omega)) (fun v11 s11 hN => ?_)
          refine e_istore_n m_X1_stmts dX1_stmts_33 rfl (by decide) rfl ?_
          refine e_iincN (n := 1) m_X1_stmts dX1_stmts_34 (by decide) (lk_mis (by decide) rfl hl3) rfl ?_
          refine e_goto (t := 6) m_X1_stmts dX1_stmts_37 (by decide) ?_
          exact ih y1 v11 (y3 + 1) _ _ _ (by omega) (lk_mis (by decide) rfl (lk_mis (by decide) rfl hl0)) (lk_mis (by decide) rfl (lk_mis (by decide) rfl hl1)) (lk_mis (by decide) rfl lk_hit) lk_hit hN
        · refine e_iincN (n := 1) m_X1_stmts dX1_stmts_24 (by decide) hl1 rfl ?_
          refine e_aload_n m_X1_stmts dX1_stmts_27 rfl (lk_mis (by decide) rfl hl0) rfl ?_
          refine e_bipush (v := nI 85) m_X1_stmts dX1_stmts_28 (by decide) ?_
          refine e_cvN (as := [.int (nI 85)]) hN m_X1_stmts dX1_stmts_30 c_RX1_123 (by decide) rfl rfl (gC_p G.1) rfl (Nat.le_of_ble_eq_true rfl) (Nat.le_of_ble_eq_true rfl) (by omega) (w_X1_accept G (by omega)) (fun v12 s12 hN => ?_)
          refine e_istore_n m_X1_stmts dX1_stmts_33 rfl (by decide) rfl ?_
          refine e_iincN (n := 1) m_X1_stmts dX1_stmts_34 (by decide) (lk_mis (by decide) rfl (lk_mis (by decide) rfl hl3)) rfl ?_
          refine e_goto (t := 6) m_X1_stmts dX1_stmts_37 (by decide) ?_
          exact ih (y1 + 1) v12 (y3 + 1) _ _ _ (by omega) (lk_mis (by decide) rfl (lk_mis (by decide) rfl (lk_mis (by decide) rfl hl0))) (lk_mis (by decide) rfl (lk_mis (by decide) rfl lk_hit)) (lk_mis (by decide) rfl lk_hit) lk_hit hN
    · refine e_iload_n m_X1_stmts dX1_stmts_40 rfl hl1 ?_
      exact e_reti m_X1_stmts dX1_stmts_41 (Or.inl rfl)
def b_X1_stmts (K : Nat → Nat) (N : Nat) (rc : Nat → Nat → Nat → Ss → Rs Ss) (s : Ss) : Rs Ss := lp_X1_stmts_6 K N rc LF 0 1 0 s
theorem w_X1_stmts {xs : Nat → Int32} {L : Nat} {h0 : mm_H} {a p N cnt : Nat} {ks : Nat → Nat} (G : Cg h0 a p N cnt ks) {n : Nat} {rc : Nat → Nat → Nat → Ss → Rs Ss} (IH : Hr xs L h0 a p N cnt ks n rc) {s : Ss} {d : Nat} (hd : n + 17 ≤ d) (hN : b_X1_stmts (kA cnt ks) N rc s ≠ none) : Rn xs L d 48 [.ref p] (TC h0 a p N cnt ks s) (ou eN (TC h0 a p N cnt ks) (b_X1_stmts (kA cnt ks) N rc s)) := by
  unfold Rn
  unfold b_X1_stmts at hN ⊢
  refine e_iconst (v := nI 0) m_X1_stmts dX1_stmts_0 (by decide) ?_
  refine e_istore_n m_X1_stmts dX1_stmts_1 rfl (by decide) rfl ?_
  refine e_iconst (v := nI 1) m_X1_stmts dX1_stmts_2 (by decide) ?_
  refine e_istore_n m_X1_stmts dX1_stmts_3 rfl (by decide) rfl ?_
  refine e_iconst (v := nI 0) m_X1_stmts dX1_stmts_4 (by decide) ?_
  refine e_istore_n m_X1_stmts dX1_stmts_5 rfl (by decide) rfl ?_
  exact l_X1_stmts_6 G IH LF 0 1 0 _ _ _ (by omega) rfl rfl rfl rfl hN

def b_X1_stmt (K : Nat → Nat) (N : Nat) (rc : Nat → Nat → Nat → Ss → Rs Ss) (s : Ss) : Rs Ss := ck ((K (s_at s)) < 2147483648) (ife (K (s_at s)) 13 (bn (rc 50 0 0 s) (fun v3 s3 => okR 1 s3)) (ife (K (s_at s)) 19 (bn (rc 79 0 0 s) (fun v5 s5 => okR 1 s5)) (ife (K (s_at s)) 23 (bn (rc 60 0 0 s) (fun v7 s7 => okR 1 s7)) (ife (K (s_at s)) 30 (bn (rc 78 0 0 s) (fun v9 s9 => okR 1 s9)) (ife (K (s_at s)) 32 (bn (rc 70 0 0 s) (fun v11 s11 => okR 1 s11)) (ife (K (s_at s)) 33 (bn (rc 50 0 0 s) (fun v13 s13 => okR 1 s13)) (ife (K (s_at s)) 34 (bn (rc 50 0 0 s) (fun v15 s15 => okR 1 s15)) (ife (K (s_at s)) 82 (bn (rc 47 0 0 s) (fun v17 s17 => okR 1 s17)) (bn (rc 83 0 0 s) (fun v18 s18 => ifz v18 (bn (rc 88 0 0 s18) (fun v20 s20 => ifz v20 (okR 0 s20) (okR 1 s20))) (okR 1 s18)))))))))))
theorem w_X1_stmt {xs : Nat → Int32} {L : Nat} {h0 : mm_H} {a p N cnt : Nat} {ks : Nat → Nat} (G : Cg h0 a p N cnt ks) {n : Nat} {rc : Nat → Nat → Nat → Ss → Rs Ss} (IH : Hr xs L h0 a p N cnt ks n rc) {s : Ss} {d : Nat} (hd : n + 17 ≤ d) (hN : b_X1_stmt (kA cnt ks) N rc s ≠ none) : Rn xs L d 49 [.ref p] (TC h0 a p N cnt ks s) (ou eN (TC h0 a p N cnt ks) (b_X1_stmt (kA cnt ks) N rc s)) := by
  unfold Rn
  unfold b_X1_stmt at hN ⊢
  refine e_aload_n m_X1_stmt dX1_stmt_0 rfl rfl rfl ?_
  refine e_getf m_X1_stmt dX1_stmt_1 f_RX1_33 (gC_p G.1) rfl ?_
  refine e_ck hN (fun q1 hN => ?_)
  refine sw_c (a := ((kA cnt ks) (s_at s))) (b := 13) hN (fun q2 hN => ?_) (fun q2 hN => ?_)
  · refine e_lookup (t := 80) m_X1_stmt dX1_stmt_4 (by decide) (by rw [q2]; decide) ?_
    refine e_aload_n m_X1_stmt dX1_stmt_80 rfl rfl rfl ?_
    refine e_cvU (as := []) hN m_X1_stmt dX1_stmt_81 c_RX1_88 (by decide) rfl rfl (gC_p G.1) rfl (Nat.le_of_ble_eq_true rfl) (Nat.le_of_ble_eq_true rfl) (by omega) (i_X1_decl IH (by omega)) (fun v3 s3 hN => ?_)
    refine e_iconst (v := nI 1) m_X1_stmt dX1_stmt_84 (by decide) ?_
    exact e_reti m_X1_stmt dX1_stmt_85 (Or.inr ⟨rfl, by decide⟩)
  · refine sw_c (a := ((kA cnt ks) (s_at s))) (b := 19) hN (fun q4 hN => ?_) (fun q4 hN => ?_)
    · refine e_lookup (t := 110) m_X1_stmt dX1_stmt_4 (by decide) (by rw [q4]; decide) ?_
      refine e_aload_n m_X1_stmt dX1_stmt_110 rfl rfl rfl ?_
      refine e_cvU (as := []) hN m_X1_stmt dX1_stmt_111 c_RX1_201 (by decide) rfl rfl (gC_p G.1) rfl (Nat.le_of_ble_eq_true rfl) (Nat.le_of_ble_eq_true rfl) (by omega) (i_X1_forStmt IH (by omega)) (fun v5 s5 hN => ?_)
      refine e_iconst (v := nI 1) m_X1_stmt dX1_stmt_114 (by decide) ?_
      exact e_reti m_X1_stmt dX1_stmt_115 (Or.inr ⟨rfl, by decide⟩)
    · refine sw_c (a := ((kA cnt ks) (s_at s))) (b := 23) hN (fun q6 hN => ?_) (fun q6 hN => ?_)
      · refine e_lookup (t := 92) m_X1_stmt dX1_stmt_4 (by decide) (by rw [q6]; decide) ?_
        refine e_aload_n m_X1_stmt dX1_stmt_92 rfl rfl rfl ?_
        refine e_cvU (as := []) hN m_X1_stmt dX1_stmt_93 c_RX1_192 (by decide) rfl rfl (gC_p G.1) rfl (Nat.le_of_ble_eq_true rfl) (Nat.le_of_ble_eq_true rfl) (by omega) (i_X1_ifStmt IH (by omega)) (fun v7 s7 hN => ?_)
        refine e_iconst (v := nI 1) m_X1_stmt dX1_stmt_96 (by decide) ?_
        exact e_reti m_X1_stmt dX1_stmt_97 (Or.inr ⟨rfl, by decide⟩)
      · refine sw_c (a := ((kA cnt ks) (s_at s))) (b := 30) hN (fun q8 hN => ?_) (fun q8 hN => ?_)
        · refine e_lookup (t := 104) m_X1_stmt dX1_stmt_4 (by decide) (by rw [q8]; decide) ?_
          refine e_aload_n m_X1_stmt dX1_stmt_104 rfl rfl rfl ?_
          refine e_cvU (as := []) hN m_X1_stmt dX1_stmt_105 c_RX1_198 (by decide) rfl rfl (gC_p G.1) rfl (Nat.le_of_ble_eq_true rfl) (Nat.le_of_ble_eq_true rfl) (by omega) (i_X1_selectStmt IH (by omega)) (fun v9 s9 hN => ?_)
          refine e_iconst (v := nI 1) m_X1_stmt dX1_stmt_108 (by decide) ?_
          exact e_reti m_X1_stmt dX1_stmt_109 (Or.inr ⟨rfl, by decide⟩)
        · refine sw_c (a := ((kA cnt ks) (s_at s))) (b := 32) hN (fun q10 hN => ?_) (fun q10 hN => ?_)
          · refine e_lookup (t := 98) m_X1_stmt dX1_stmt_4 (by decide) (by rw [q10]; decide) ?_
            refine e_aload_n m_X1_stmt dX1_stmt_98 rfl rfl rfl ?_
            refine e_cvU (as := []) hN m_X1_stmt dX1_stmt_99 c_RX1_195 (by decide) rfl rfl (gC_p G.1) rfl (Nat.le_of_ble_eq_true rfl) (Nat.le_of_ble_eq_true rfl) (by omega) (i_X1_switchStmt IH (by omega)) (fun v11 s11 hN => ?_)
            refine e_iconst (v := nI 1) m_X1_stmt dX1_stmt_102 (by decide) ?_
            exact e_reti m_X1_stmt dX1_stmt_103 (Or.inr ⟨rfl, by decide⟩)
          · refine sw_c (a := ((kA cnt ks) (s_at s))) (b := 33) hN (fun q12 hN => ?_) (fun q12 hN => ?_)
            · refine e_lookup (t := 80) m_X1_stmt dX1_stmt_4 (by decide) (by rw [q12]; decide) ?_
              refine e_aload_n m_X1_stmt dX1_stmt_80 rfl rfl rfl ?_
              refine e_cvU (as := []) hN m_X1_stmt dX1_stmt_81 c_RX1_88 (by decide) rfl rfl (gC_p G.1) rfl (Nat.le_of_ble_eq_true rfl) (Nat.le_of_ble_eq_true rfl) (by omega) (i_X1_decl IH (by omega)) (fun v13 s13 hN => ?_)
              refine e_iconst (v := nI 1) m_X1_stmt dX1_stmt_84 (by decide) ?_
              exact e_reti m_X1_stmt dX1_stmt_85 (Or.inr ⟨rfl, by decide⟩)
            · refine sw_c (a := ((kA cnt ks) (s_at s))) (b := 34) hN (fun q14 hN => ?_) (fun q14 hN => ?_)
              · refine e_lookup (t := 80) m_X1_stmt dX1_stmt_4 (by decide) (by rw [q14]; decide) ?_
                refine e_aload_n m_X1_stmt dX1_stmt_80 rfl rfl rfl ?_
                refine e_cvU (as := []) hN m_X1_stmt dX1_stmt_81 c_RX1_88 (by decide) rfl rfl (gC_p G.1) rfl (Nat.le_of_ble_eq_true rfl) (Nat.le_of_ble_eq_true rfl) (by omega) (i_X1_decl IH (by omega)) (fun v15 s15 hN => ?_)
                refine e_iconst (v := nI 1) m_X1_stmt dX1_stmt_84 (by decide) ?_
                exact e_reti m_X1_stmt dX1_stmt_85 (Or.inr ⟨rfl, by decide⟩)
              · refine sw_c (a := ((kA cnt ks) (s_at s))) (b := 82) hN (fun q16 hN => ?_) (fun q16 hN => ?_)
                · refine e_lookup (t := 86) m_X1_stmt dX1_stmt_4 (by decide) (by rw [q16]; decide) ?_
                  refine e_aload_n m_X1_stmt dX1_stmt_86 rfl rfl rfl ?_
                  refine e_cvU (as := []) hN m_X1_stmt dX1_stmt_87 c_RX1_97 (by decide) rfl rfl (gC_p G.1) rfl (Nat.le_of_ble_eq_true rfl) (Nat.le_of_ble_eq_true rfl) (by omega) (i_X1_block IH (by omega)) (fun v17 s17 hN => ?_)
                  refine e_iconst (v := nI 1) m_X1_stmt dX1_stmt_90 (by decide) ?_
                  exact e_reti m_X1_stmt dX1_stmt_91 (Or.inr ⟨rfl, by decide⟩)
                · refine e_lookup (t := 116) m_X1_stmt dX1_stmt_4 (by decide) (by rw [nI_toInt q1, lk_dflt _ (by intro q hq; simp only [List.mem_cons, List.not_mem_nil, or_false] at hq; rcases hq with rfl | rfl | rfl | rfl | rfl | rfl | rfl | rfl <;> (simp only []; omega))]; decide) ?_
                  refine e_aload_n m_X1_stmt dX1_stmt_116 rfl rfl rfl ?_
                  refine e_cvN (as := []) hN m_X1_stmt dX1_stmt_117 c_RX1_204 (by decide) rfl rfl (gC_p G.1) rfl (Nat.le_of_ble_eq_true rfl) (Nat.le_of_ble_eq_true rfl) (by omega) (i_X1_wordStmt IH (by omega)) (fun v18 s18 hN => ?_)
                  refine e_ifne (t := 130) hN m_X1_stmt dX1_stmt_120 (by decide) (fun q19 hN => ?_) (fun q19 hN => ?_)
                  · refine e_aload_n m_X1_stmt dX1_stmt_123 rfl rfl rfl ?_
                    refine e_cvN (as := []) hN m_X1_stmt dX1_stmt_124 c_RX1_207 (by decide) rfl rfl (gC_p G.1) rfl (Nat.le_of_ble_eq_true rfl) (Nat.le_of_ble_eq_true rfl) (by omega) (i_X1_simpleStmt IH (by omega)) (fun v20 s20 hN => ?_)
                    refine e_ifeq (t := 134) hN m_X1_stmt dX1_stmt_127 (by decide) (fun q21 hN => ?_) (fun q21 hN => ?_)
                    · refine e_iconst (v := nI 0) m_X1_stmt dX1_stmt_134 (by decide) ?_
                      exact e_reti m_X1_stmt dX1_stmt_135 (Or.inr ⟨rfl, by decide⟩)
                    · refine e_iconst (v := nI 1) m_X1_stmt dX1_stmt_130 (by decide) ?_
                      refine e_goto (t := 135) m_X1_stmt dX1_stmt_131 (by decide) ?_
                      exact e_reti m_X1_stmt dX1_stmt_135 (Or.inr ⟨rfl, by decide⟩)
                  · refine e_iconst (v := nI 1) m_X1_stmt dX1_stmt_130 (by decide) ?_
                    refine e_goto (t := 135) m_X1_stmt dX1_stmt_131 (by decide) ?_
                    exact e_reti m_X1_stmt dX1_stmt_135 (Or.inr ⟨rfl, by decide⟩)

def b_X1_decl (K : Nat → Nat) (N : Nat) (rc : Nat → Nat → Nat → Ss → Rs Ss) (s : Ss) : Rs Ss := bn (q_take s) (fun v1 s1 => bn (q_sees K 78 s1) (fun v2 s2 => ifz v2 (bn (rc 52 (K (s_at s)) 0 s2) (fun v4 s4 => ck ((K (s_at s)) < 2147483648) (bn (b_X3_put K N (f_X1_groupWhat (K (s_at s))) v1 1 s4) (fun v6 s6 => okR 0 s6)))) (bn (rc 51 (K (s_at s)) 0 s2) (fun v7 s7 => ck ((K (s_at s)) < 2147483648) (bn (b_X3_put K N (f_X1_groupWhat (K (s_at s))) v1 v7 s7) (fun v9 s9 => okR 0 s9))))))
theorem w_X1_decl {xs : Nat → Int32} {L : Nat} {h0 : mm_H} {a p N cnt : Nat} {ks : Nat → Nat} (G : Cg h0 a p N cnt ks) {n : Nat} {rc : Nat → Nat → Nat → Ss → Rs Ss} (IH : Hr xs L h0 a p N cnt ks n rc) {s : Ss} {d : Nat} (hd : n + 17 ≤ d) (hN : b_X1_decl (kA cnt ks) N rc s ≠ none) : Rn xs L d 50 [.ref p] (TC h0 a p N cnt ks s) (ou eU (TC h0 a p N cnt ks) (b_X1_decl (kA cnt ks) N rc s)) := by
  unfold Rn
  unfold b_X1_decl at hN ⊢
  refine e_aload_n m_X1_decl dX1_decl_0 rfl rfl rfl ?_
  refine e_getf m_X1_decl dX1_decl_1 f_RX1_33 (gC_p G.1) rfl ?_
  refine e_istore_n m_X1_decl dX1_decl_4 rfl (by decide) rfl ?_
  refine e_aload_n m_X1_decl dX1_decl_5 rfl rfl rfl ?_
  refine e_cvN (as := []) hN m_X1_decl dX1_decl_6 c_RX1_50 (by decide) rfl rfl (gC_p G.1) rfl (Nat.le_of_ble_eq_true rfl) (Nat.le_of_ble_eq_true rfl) (by omega) (t_take G (by omega)) (fun v1 s1 hN => ?_)
  refine e_istore_n m_X1_decl dX1_decl_9 rfl (by decide) rfl ?_
  refine e_iconst (v := nI 1) m_X1_decl dX1_decl_10 (by decide) ?_
  refine e_istore_n m_X1_decl dX1_decl_11 rfl (by decide) rfl ?_
  refine e_aload_n m_X1_decl dX1_decl_12 rfl rfl rfl ?_
  refine e_bipush (v := nI 78) m_X1_decl dX1_decl_13 (by decide) ?_
  refine e_cvN (as := [.int (nI 78)]) hN m_X1_decl dX1_decl_15 c_RX1_46 (by decide) rfl rfl (gC_p G.1) rfl (Nat.le_of_ble_eq_true rfl) (Nat.le_of_ble_eq_true rfl) (by omega) (t_sees G (by omega)) (fun v2 s2 hN => ?_)
  refine e_ifeq (t := 30) hN m_X1_decl dX1_decl_18 (by decide) (fun q3 hN => ?_) (fun q3 hN => ?_)
  · refine e_aload_n m_X1_decl dX1_decl_30 rfl rfl rfl ?_
    refine e_iload_n m_X1_decl dX1_decl_31 rfl rfl ?_
    refine e_cvU (as := [.int (nI ((kA cnt ks) (s_at s)))]) hN m_X1_decl dX1_decl_32 c_RX1_113 (by decide) rfl rfl (gC_p G.1) rfl (Nat.le_of_ble_eq_true rfl) (Nat.le_of_ble_eq_true rfl) (by omega) (i_X1_spec IH (by omega)) (fun v4 s4 hN => ?_)
    refine e_aload_n m_X1_decl dX1_decl_35 rfl rfl rfl ?_
    refine e_getf m_X1_decl dX1_decl_36 f_RX1_17 (gC_p G.1) rfl ?_
    refine e_iload_n m_X1_decl dX1_decl_39 rfl rfl ?_
    refine e_ck hN (fun q5 hN => ?_)
    refine e_cs (as := [_]) m_X1_decl dX1_decl_40 c_RX1_116 (by decide) rfl rfl (Nat.le_of_ble_eq_true rfl) (Nat.le_of_ble_eq_true rfl) (by omega) (z_X1_groupWhat q5 (by omega)) ?_
    refine e_iload_n m_X1_decl dX1_decl_43 rfl rfl ?_
    refine e_iload_n m_X1_decl dX1_decl_44 rfl rfl ?_
    refine e_cvU (as := [.int (nI (f_X1_groupWhat ((kA cnt ks) (s_at s)))), .int (nI v1), .int (nI 1)]) hN m_X1_decl dX1_decl_45 c_RX1_69 (by decide) rfl rfl (gC_r G.1) rfl (Nat.le_of_ble_eq_true rfl) (Nat.le_of_ble_eq_true rfl) (by omega) (w_X3_put G (by omega)) (fun v6 s6 hN => ?_)
    exact e_ret0 m_X1_decl dX1_decl_48
  · refine e_aload_n m_X1_decl dX1_decl_21 rfl rfl rfl ?_
    refine e_iload_n m_X1_decl dX1_decl_22 rfl rfl ?_
    refine e_cvN (as := [.int (nI ((kA cnt ks) (s_at s)))]) hN m_X1_decl dX1_decl_23 c_RX1_110 (by decide) rfl rfl (gC_p G.1) rfl (Nat.le_of_ble_eq_true rfl) (Nat.le_of_ble_eq_true rfl) (by omega) (i_X1_group IH (by omega)) (fun v7 s7 hN => ?_)
    refine e_istore_n m_X1_decl dX1_decl_26 rfl (by decide) rfl ?_
    refine e_goto (t := 35) m_X1_decl dX1_decl_27 (by decide) ?_
    refine e_aload_n m_X1_decl dX1_decl_35 rfl rfl rfl ?_
    refine e_getf m_X1_decl dX1_decl_36 f_RX1_17 (gC_p G.1) rfl ?_
    refine e_iload_n m_X1_decl dX1_decl_39 rfl rfl ?_
    refine e_ck hN (fun q8 hN => ?_)
    refine e_cs (as := [_]) m_X1_decl dX1_decl_40 c_RX1_116 (by decide) rfl rfl (Nat.le_of_ble_eq_true rfl) (Nat.le_of_ble_eq_true rfl) (by omega) (z_X1_groupWhat q8 (by omega)) ?_
    refine e_iload_n m_X1_decl dX1_decl_43 rfl rfl ?_
    refine e_iload_n m_X1_decl dX1_decl_44 rfl rfl ?_
    refine e_cvU (as := [.int (nI (f_X1_groupWhat ((kA cnt ks) (s_at s)))), .int (nI v1), .int (nI v7)]) hN m_X1_decl dX1_decl_45 c_RX1_69 (by decide) rfl rfl (gC_r G.1) rfl (Nat.le_of_ble_eq_true rfl) (Nat.le_of_ble_eq_true rfl) (by omega) (w_X3_put G (by omega)) (fun v9 s9 hN => ?_)
    exact e_ret0 m_X1_decl dX1_decl_48

def lp_X1_group_22 (K : Nat → Nat) (N : Nat) (rc : Nat → Nat → Nat → Ss → Rs Ss) : Nat → Nat → Nat → Nat → Nat → Ss → Rs Ss
  | 0, _, _, _, _, _ => none
  | f + 1, y1, y2, y3, y4, s => ifl y3 16385 (ifz y4 (bn (b_X1_leave K N 79 s) (fun v16 s16 => ck (y2 < 2) (okR y3 (u_ih s16 y2)))) (bn (q_sees K 1 s) (fun v18 s18 => ifz v18 (bn (b_X1_leave K N 79 s18) (fun v20 s20 => ck (y2 < 2) (okR y3 (u_ih s20 y2)))) (bn (rc 52 y1 0 s18) (fun v22 s22 => bn (b_X1_accept K N 85 s22) (fun v23 s23 => lp_X1_group_22 K N rc f y1 y2 (y3 + 1) v23 s23)))))) (bn (b_X1_leave K N 79 s) (fun v24 s24 => ck (y2 < 2) (okR y3 (u_ih s24 y2))))
theorem l_X1_group_22 {xs : Nat → Int32} {L : Nat} {h0 : mm_H} {a p N cnt : Nat} {ks : Nat → Nat} (G : Cg h0 a p N cnt ks) {n : Nat} {rc : Nat → Nat → Nat → Ss → Rs Ss} (IH : Hr xs L h0 a p N cnt ks n rc) : ∀ (f : Nat) (y1 y2 y3 y4 : Nat) (s : Ss) (d : Nat) (ls : mm_L) (hd : n + 17 ≤ d) (hl0 : mm_lk ls 0 = some (.ref p)) (hl1 : mm_lk ls 1 = some (.int (nI y1))) (hl2 : mm_lk ls 2 = some (.int (nI y2))) (hl3 : mm_lk ls 3 = some (.int (nI y3))) (hl4 : mm_lk ls 4 = some (.int (nI y4))), lp_X1_group_22 (kA cnt ks) N rc f y1 y2 y3 y4 s ≠ none → Ev xs L d 51 22 ls [] (TC h0 a p N cnt ks s) 0 0 (ou eN (TC h0 a p N cnt ks) (lp_X1_group_22 (kA cnt ks) N rc f y1 y2 y3 y4 s)) := by
  intro f
  induction f with
  | zero => intros; rename_i hN; exact absurd rfl hN
  | succ f ih =>
    intro y1 y2 y3 y4 s d ls hd hl0 hl1 hl2 hl3 hl4 hN
    rw [lp_X1_group_22] at hN ⊢
    refine e_iload_n m_X1_group dX1_group_22 rfl hl3 ?_
    refine e_sipush (v := nI 16385) m_X1_group dX1_group_23 (by decide) ?_
    refine e_ige (t := 61) (a := y3) (b := 16385) hN m_X1_group dX1_group_26 (by decide) (fun q14 hN => ?_) (fun q14 hN => ?_)
    · refine e_iload m_X1_group dX1_group_29 hl4 ?_
      refine e_ifeq (t := 61) hN m_X1_group dX1_group_31 (by decide) (fun q15 hN => ?_) (fun q15 hN => ?_)
      · refine e_aload_n m_X1_group dX1_group_61 rfl hl0 rfl ?_
        refine e_bipush (v := nI 79) m_X1_group dX1_group_62 (by decide) ?_
        refine e_cvU (as := [.int (nI 79)]) hN m_X1_group dX1_group_64 c_RX1_106 (by decide) rfl rfl (gC_p G.1) rfl (Nat.le_of_ble_eq_true rfl) (Nat.le_of_ble_eq_true rfl) (by omega) (w_X1_leave G (by omega)) (fun v16 s16 hN => ?_)
        refine e_aload_n m_X1_group dX1_group_67 rfl hl0 rfl ?_
        refine e_iload_n m_X1_group dX1_group_68 rfl hl2 ?_
        refine e_ck hN (fun q17 hN => ?_)
        refine e_putf (v := .int (nI y2)) (h' := TC h0 a p N cnt ks (u_ih s16 y2)) m_X1_group dX1_group_69 f_RX1_119 (gC_p G.1) (Nat.le_of_ble_eq_true rfl) (fit_z rfl (b01 q17)) rfl (sC_p G.1) ?_
        refine e_iload_n m_X1_group dX1_group_72 rfl hl3 ?_
        exact e_reti m_X1_group dX1_group_73 (Or.inl rfl)
      · refine e_aload_n m_X1_group dX1_group_34 rfl hl0 rfl ?_
        refine e_iconst (v := nI 1) m_X1_group dX1_group_35 (by decide) ?_
        refine e_cvN (as := [.int (nI 1)]) hN m_X1_group dX1_group_36 c_RX1_46 (by decide) rfl rfl (gC_p G.1) rfl (Nat.le_of_ble_eq_true rfl) (Nat.le_of_ble_eq_true rfl) (by omega) (t_sees G (by omega)) (fun v18 s18 hN => ?_)
        refine e_ifeq (t := 61) hN m_X1_group dX1_group_39 (by decide) (fun q19 hN => ?_) (fun q19 hN => ?_)
        · refine e_aload_n m_X1_group dX1_group_61 rfl hl0 rfl ?_
          refine e_bipush (v := nI 79) m_X1_group dX1_group_62 (by decide) ?_
          refine e_cvU (as := [.int (nI 79)]) hN m_X1_group dX1_group_64 c_RX1_106 (by decide) rfl rfl (gC_p G.1) rfl (Nat.le_of_ble_eq_true rfl) (Nat.le_of_ble_eq_true rfl) (by omega) (w_X1_leave G (by omega)) (fun v20 s20 hN => ?_)
          refine e_aload_n m_X1_group dX1_group_67 rfl hl0 rfl ?_
          refine e_iload_n m_X1_group dX1_group_68 rfl hl2 ?_
          refine e_ck hN (fun q21 hN => ?_)
          refine e_putf (v := .int (nI y2)) (h' := TC h0 a p N cnt ks (u_ih s20 y2)) m_X1_group dX1_group_69 f_RX1_119 (gC_p G.1) (Nat.le_of_ble_eq_true rfl) (fit_z rfl (b01 q21)) rfl (sC_p G.1) ?_
          refine e_iload_n m_X1_group dX1_group_72 rfl hl3 ?_
          exact e_reti m_X1_group dX1_group_73 (Or.inl rfl)
        · refine e_aload_n m_X1_group dX1_group_42 rfl hl0 rfl ?_
          refine e_iload_n m_X1_group dX1_group_43 rfl hl1 ?_
          refine e_cvU (as := [.int (nI y1)]) hN m_X1_group dX1_group_44 c_RX1_113 (by decide) rfl rfl (gC_p G.1) rfl (Nat.le_of_ble_eq_true rfl) (Nat.le_of_ble_eq_true rfl) (by omega) (i_X1_spec IH (by omega)) (fun v22 s22 hN => ?_)
          refine e_iincN (n := 1) m_X1_group dX1_group_47 (by decide) hl3 rfl ?_
          refine e_aload_n m_X1_group dX1_group_50 rfl (lk_mis (by decide) rfl hl0) rfl ?_
          refine e_bipush (v := nI 85) m_X1_group dX1_group_51 (by decide) ?_
          refine e_cvN (as := [.int (nI 85)]) hN m_X1_group dX1_group_53 c_RX1_123 (by decide) rfl rfl (gC_p G.1) rfl (Nat.le_of_ble_eq_true rfl) (Nat.le_of_ble_eq_true rfl) (by omega) (w_X1_accept G (by omega)) (fun v23 s23 hN => ?_)
          refine e_istore m_X1_group dX1_group_56 (by decide) rfl ?_
          refine e_goto (t := 22) m_X1_group dX1_group_58 (by decide) ?_
          exact ih y1 y2 (y3 + 1) v23 _ _ _ (by omega) (lk_mis (by decide) rfl (lk_mis (by decide) rfl hl0)) (lk_mis (by decide) rfl (lk_mis (by decide) rfl hl1)) (lk_mis (by decide) rfl (lk_mis (by decide) rfl hl2)) (lk_mis (by decide) rfl lk_hit) lk_hit hN
    · refine e_aload_n m_X1_group dX1_group_61 rfl hl0 rfl ?_
      refine e_bipush (v := nI 79) m_X1_group dX1_group_62 (by decide) ?_
      refine e_cvU (as := [.int (nI 79)]) hN m_X1_group dX1_group_64 c_RX1_106 (by decide) rfl rfl (gC_p G.1) rfl (Nat.le_of_ble_eq_true rfl) (Nat.le_of_ble_eq_true rfl) (by omega) (w_X1_leave G (by omega)) (fun v24 s24 hN => ?_)
      refine e_aload_n m_X1_group dX1_group_67 rfl hl0 rfl ?_
      refine e_iload_n m_X1_group dX1_group_68 rfl hl2 ?_
      refine e_ck hN (fun q25 hN => ?_)
      refine e_putf (v := .int (nI y2)) (h' := TC h0 a p N cnt ks (u_ih s24 y2)) m_X1_group dX1_group_69 f_RX1_119 (gC_p G.1) (Nat.le_of_ble_eq_true rfl) (fit_z rfl (b01 q25)) rfl (sC_p G.1) ?_
      refine e_iload_n m_X1_group dX1_group_72 rfl hl3 ?_
      exact e_reti m_X1_group dX1_group_73 (Or.inl rfl)
def b_X1_group (K : Nat → Nat) (N : Nat) (rc : Nat → Nat → Nat → Ss → Rs Ss) (x1 : Nat) (s : Ss) : Rs Ss := bn (b_X1_enter K N 78 s) (fun v1 s1 => lp_X1_group_22 K N rc LF x1 (s_ih s) 0 1 (u_ih s1 0))
theorem w_X1_group {xs : Nat → Int32} {L : Nat} {h0 : mm_H} {a p N cnt : Nat} {ks : Nat → Nat} (G : Cg h0 a p N cnt ks) {n : Nat} {rc : Nat → Nat → Nat → Ss → Rs Ss} (IH : Hr xs L h0 a p N cnt ks n rc) {x1 : Nat} {s : Ss} {d : Nat} (hd : n + 17 ≤ d) (hN : b_X1_group (kA cnt ks) N rc x1 s ≠ none) : Rn xs L d 51 [.ref p, .int (nI x1)] (TC h0 a p N cnt ks s) (ou eN (TC h0 a p N cnt ks) (b_X1_group (kA cnt ks) N rc x1 s)) := by
  unfold Rn
  unfold b_X1_group at hN ⊢
  refine e_aload_n m_X1_group dX1_group_0 rfl rfl rfl ?_
  refine e_getf m_X1_group dX1_group_1 f_RX1_119 (gC_p G.1) rfl ?_
  refine e_istore_n m_X1_group dX1_group_4 rfl (by decide) rfl ?_
  refine e_aload_n m_X1_group dX1_group_5 rfl rfl rfl ?_
  refine e_bipush (v := nI 78) m_X1_group dX1_group_6 (by decide) ?_
  refine e_cvN (as := [.int (nI 78)]) hN m_X1_group dX1_group_8 c_RX1_100 (by decide) rfl rfl (gC_p G.1) rfl (Nat.le_of_ble_eq_true rfl) (Nat.le_of_ble_eq_true rfl) (by omega) (w_X1_enter G (by omega)) (fun v1 s1 hN => ?_)
  refine e_pop m_X1_group dX1_group_11 rfl ?_
  refine e_aload_n m_X1_group dX1_group_12 rfl rfl rfl ?_
  refine e_iconst (v := nI 0) m_X1_group dX1_group_13 (by decide) ?_
  refine e_putf (v := .int (nI 0)) (h' := TC h0 a p N cnt ks (u_ih s1 0)) m_X1_group dX1_group_14 f_RX1_119 (gC_p G.1) (Nat.le_of_ble_eq_true rfl) (fit_z rfl (by decide)) rfl (sC_p G.1) ?_
  refine e_iconst (v := nI 0) m_X1_group dX1_group_17 (by decide) ?_
  refine e_istore_n m_X1_group dX1_group_18 rfl (by decide) rfl ?_
  refine e_iconst (v := nI 1) m_X1_group dX1_group_19 (by decide) ?_
  refine e_istore m_X1_group dX1_group_20 (by decide) rfl ?_
  exact l_X1_group_22 G IH LF x1 (s_ih s) 0 1 _ _ _ (by omega) rfl rfl rfl rfl rfl hN

def b_X1_spec (K : Nat → Nat) (N : Nat) (rc : Nat → Nat → Nat → Ss → Rs Ss) (x1 : Nat) (s : Ss) : Rs Ss := ck (x1 < 2147483648) (ife x1 13 (bn (rc 53 0 0 s) (fun v3 s3 => okR 0 s3)) (ife x1 33 (bn (rc 57 0 0 s) (fun v5 s5 => okR 0 s5)) (bn (rc 58 0 0 s) (fun v6 s6 => okR 0 s6))))
theorem w_X1_spec {xs : Nat → Int32} {L : Nat} {h0 : mm_H} {a p N cnt : Nat} {ks : Nat → Nat} (G : Cg h0 a p N cnt ks) {n : Nat} {rc : Nat → Nat → Nat → Ss → Rs Ss} (IH : Hr xs L h0 a p N cnt ks n rc) {x1 : Nat} {s : Ss} {d : Nat} (hd : n + 17 ≤ d) (hN : b_X1_spec (kA cnt ks) N rc x1 s ≠ none) : Rn xs L d 52 [.ref p, .int (nI x1)] (TC h0 a p N cnt ks s) (ou eU (TC h0 a p N cnt ks) (b_X1_spec (kA cnt ks) N rc x1 s)) := by
  unfold Rn
  unfold b_X1_spec at hN ⊢
  refine e_iload_n m_X1_spec dX1_spec_0 rfl rfl ?_
  refine e_ck hN (fun q1 hN => ?_)
  refine sw_c (a := x1) (b := 13) hN (fun q2 hN => ?_) (fun q2 hN => ?_)
  · refine e_lookup (t := 28) m_X1_spec dX1_spec_1 (by decide) (by rw [q2]; decide) ?_
    refine e_aload_n m_X1_spec dX1_spec_28 rfl rfl rfl ?_
    refine e_cvU (as := []) hN m_X1_spec dX1_spec_29 c_RX1_126 (by decide) rfl rfl (gC_p G.1) rfl (Nat.le_of_ble_eq_true rfl) (Nat.le_of_ble_eq_true rfl) (by omega) (i_X1_constSpec IH (by omega)) (fun v3 s3 hN => ?_)
    refine e_goto (t := 46) m_X1_spec dX1_spec_32 (by decide) ?_
    exact e_ret0 m_X1_spec dX1_spec_46
  · refine sw_c (a := x1) (b := 33) hN (fun q4 hN => ?_) (fun q4 hN => ?_)
    · refine e_lookup (t := 35) m_X1_spec dX1_spec_1 (by decide) (by rw [q4]; decide) ?_
      refine e_aload_n m_X1_spec dX1_spec_35 rfl rfl rfl ?_
      refine e_cvU (as := []) hN m_X1_spec dX1_spec_36 c_RX1_129 (by decide) rfl rfl (gC_p G.1) rfl (Nat.le_of_ble_eq_true rfl) (Nat.le_of_ble_eq_true rfl) (by omega) (i_X1_typeSpec IH (by omega)) (fun v5 s5 hN => ?_)
      refine e_goto (t := 46) m_X1_spec dX1_spec_39 (by decide) ?_
      exact e_ret0 m_X1_spec dX1_spec_46
    · refine e_lookup (t := 42) m_X1_spec dX1_spec_1 (by decide) (by rw [nI_toInt q1, lk_dflt _ (by intro q hq; simp only [List.mem_cons, List.not_mem_nil, or_false] at hq; rcases hq with rfl | rfl <;> (simp only []; omega))]; decide) ?_
      refine e_aload_n m_X1_spec dX1_spec_42 rfl rfl rfl ?_
      refine e_cvU (as := []) hN m_X1_spec dX1_spec_43 c_RX1_132 (by decide) rfl rfl (gC_p G.1) rfl (Nat.le_of_ble_eq_true rfl) (Nat.le_of_ble_eq_true rfl) (by omega) (i_X1_varSpec IH (by omega)) (fun v6 s6 hN => ?_)
      exact e_ret0 m_X1_spec dX1_spec_46

def b_X1_constSpec (K : Nat → Nat) (N : Nat) (rc : Nat → Nat → Nat → Ss → Rs Ss) (s : Ss) : Rs Ss := bn (rc 54 0 0 s) (fun v1 s1 => ck ((K (s_at s1)) < 2147483648) (ifz (f_X0_beginsType (K (s_at s1))) (bn (b_X1_accept K N 70 s1) (fun v4 s4 => ifz v4 (bn (b_X3_put K N 9 (s_at s) 1 s4) (fun v6 s6 => okR 0 s6)) (bn (rc 55 0 0 s4) (fun v7 s7 => bn (b_X3_put K N 9 (s_at s) 2 s7) (fun v8 s8 => okR 0 s8))))) (bn (rc 26 0 0 s1) (fun v9 s9 => bn (q_sees K 70 s9) (fun v10 s10 => ifz v10 (erR s10) (bn (b_X1_accept K N 70 s10) (fun v12 s12 => ifz v12 (bn (b_X3_put K N 9 (s_at s) 2 s12) (fun v14 s14 => okR 0 s14)) (bn (rc 55 0 0 s12) (fun v15 s15 => bn (b_X3_put K N 9 (s_at s) 3 s15) (fun v16 s16 => okR 0 s16))))))))))
theorem w_X1_constSpec {xs : Nat → Int32} {L : Nat} {h0 : mm_H} {a p N cnt : Nat} {ks : Nat → Nat} (G : Cg h0 a p N cnt ks) {n : Nat} {rc : Nat → Nat → Nat → Ss → Rs Ss} (IH : Hr xs L h0 a p N cnt ks n rc) {s : Ss} {d : Nat} (hd : n + 17 ≤ d) (hN : b_X1_constSpec (kA cnt ks) N rc s ≠ none) : Rn xs L d 53 [.ref p] (TC h0 a p N cnt ks s) (ou eU (TC h0 a p N cnt ks) (b_X1_constSpec (kA cnt ks) N rc s)) := by
  unfold Rn
  unfold b_X1_constSpec at hN ⊢
  refine e_aload_n m_X1_constSpec dX1_constSpec_0 rfl rfl rfl ?_
  refine e_getf m_X1_constSpec dX1_constSpec_1 f_RX1_43 (gC_p G.1) rfl ?_
  refine e_istore_n m_X1_constSpec dX1_constSpec_4 rfl (by decide) rfl ?_
  refine e_aload_n m_X1_constSpec dX1_constSpec_5 rfl rfl rfl ?_
  refine e_cvU (as := []) hN m_X1_constSpec dX1_constSpec_6 c_RX1_135 (by decide) rfl rfl (gC_p G.1) rfl (Nat.le_of_ble_eq_true rfl) (Nat.le_of_ble_eq_true rfl) (by omega) (i_X1_names IH (by omega)) (fun v1 s1 hN => ?_)
  refine e_iconst (v := nI 1) m_X1_constSpec dX1_constSpec_9 (by decide) ?_
  refine e_istore_n m_X1_constSpec dX1_constSpec_10 rfl (by decide) rfl ?_
  refine e_aload_n m_X1_constSpec dX1_constSpec_11 rfl rfl rfl ?_
  refine e_getf m_X1_constSpec dX1_constSpec_12 f_RX1_33 (gC_p G.1) rfl ?_
  refine e_ck hN (fun q2 hN => ?_)
  refine e_cs (as := [_]) m_X1_constSpec dX1_constSpec_15 c_RX1_138 (by decide) rfl rfl (Nat.le_of_ble_eq_true rfl) (Nat.le_of_ble_eq_true rfl) (by omega) (z_X0_beginsType q2 (by omega)) ?_
  refine e_ifeq (t := 41) hN m_X1_constSpec dX1_constSpec_18 (by decide) (fun q3 hN => ?_) (fun q3 hN => ?_)
  · refine e_aload_n m_X1_constSpec dX1_constSpec_41 rfl rfl rfl ?_
    refine e_bipush (v := nI 70) m_X1_constSpec dX1_constSpec_42 (by decide) ?_
    refine e_cvN (as := [.int (nI 70)]) hN m_X1_constSpec dX1_constSpec_44 c_RX1_123 (by decide) rfl rfl (gC_p G.1) rfl (Nat.le_of_ble_eq_true rfl) (Nat.le_of_ble_eq_true rfl) (by omega) (w_X1_accept G (by omega)) (fun v4 s4 hN => ?_)
    refine e_ifeq (t := 57) hN m_X1_constSpec dX1_constSpec_47 (by decide) (fun q5 hN => ?_) (fun q5 hN => ?_)
    · refine e_aload_n m_X1_constSpec dX1_constSpec_57 rfl rfl rfl ?_
      refine e_getf m_X1_constSpec dX1_constSpec_58 f_RX1_17 (gC_p G.1) rfl ?_
      refine e_bipush (v := nI 9) m_X1_constSpec dX1_constSpec_61 (by decide) ?_
      refine e_iload_n m_X1_constSpec dX1_constSpec_63 rfl rfl ?_
      refine e_iload_n m_X1_constSpec dX1_constSpec_64 rfl rfl ?_
      refine e_cvU (as := [.int (nI 9), .int (nI (s_at s)), .int (nI 1)]) hN m_X1_constSpec dX1_constSpec_65 c_RX1_69 (by decide) rfl rfl (gC_r G.1) rfl (Nat.le_of_ble_eq_true rfl) (Nat.le_of_ble_eq_true rfl) (by omega) (w_X3_put G (by omega)) (fun v6 s6 hN => ?_)
      exact e_ret0 m_X1_constSpec dX1_constSpec_68
    · refine e_aload_n m_X1_constSpec dX1_constSpec_50 rfl rfl rfl ?_
      refine e_cvU (as := []) hN m_X1_constSpec dX1_constSpec_51 c_RX1_141 (by decide) rfl rfl (gC_p G.1) rfl (Nat.le_of_ble_eq_true rfl) (Nat.le_of_ble_eq_true rfl) (by omega) (i_X1_exprs IH (by omega)) (fun v7 s7 hN => ?_)
      refine e_iincN (n := 1) m_X1_constSpec dX1_constSpec_54 (by decide) rfl rfl ?_
      refine e_aload_n m_X1_constSpec dX1_constSpec_57 rfl rfl rfl ?_
      refine e_getf m_X1_constSpec dX1_constSpec_58 f_RX1_17 (gC_p G.1) rfl ?_
      refine e_bipush (v := nI 9) m_X1_constSpec dX1_constSpec_61 (by decide) ?_
      refine e_iload_n m_X1_constSpec dX1_constSpec_63 rfl rfl ?_
      refine e_iload_n m_X1_constSpec dX1_constSpec_64 rfl rfl ?_
      refine e_cvU (as := [.int (nI 9), .int (nI (s_at s)), .int (nI 2)]) hN m_X1_constSpec dX1_constSpec_65 c_RX1_69 (by decide) rfl rfl (gC_r G.1) rfl (Nat.le_of_ble_eq_true rfl) (Nat.le_of_ble_eq_true rfl) (by omega) (w_X3_put G (by omega)) (fun v8 s8 hN => ?_)
      exact e_ret0 m_X1_constSpec dX1_constSpec_68
  · refine e_aload_n m_X1_constSpec dX1_constSpec_21 rfl rfl rfl ?_
    refine e_cvU (as := []) hN m_X1_constSpec dX1_constSpec_22 c_RX1_103 (by decide) rfl rfl (gC_p G.1) rfl (Nat.le_of_ble_eq_true rfl) (Nat.le_of_ble_eq_true rfl) (by omega) (i_X1_type IH (by omega)) (fun v9 s9 hN => ?_)
    refine e_iincN (n := 1) m_X1_constSpec dX1_constSpec_25 (by decide) rfl rfl ?_
    refine e_aload_n m_X1_constSpec dX1_constSpec_28 rfl rfl rfl ?_
    refine e_bipush (v := nI 70) m_X1_constSpec dX1_constSpec_29 (by decide) ?_
    refine e_cvN (as := [.int (nI 70)]) hN m_X1_constSpec dX1_constSpec_31 c_RX1_46 (by decide) rfl rfl (gC_p G.1) rfl (Nat.le_of_ble_eq_true rfl) (Nat.le_of_ble_eq_true rfl) (by omega) (t_sees G (by omega)) (fun v10 s10 hN => ?_)
    refine e_ifne (t := 41) hN m_X1_constSpec dX1_constSpec_34 (by decide) (fun q11 hN => ?_) (fun q11 hN => ?_)
    · refine e_aload_n m_X1_constSpec dX1_constSpec_37 rfl rfl rfl ?_
      exact e_cvX (as := []) m_X1_constSpec dX1_constSpec_38 c_RX1_54 (by decide) rfl rfl (gC_p G.1) rfl (Nat.le_of_ble_eq_true rfl) (Nat.le_of_ble_eq_true rfl) (by omega) (r_refuse (by omega))
    · refine e_aload_n m_X1_constSpec dX1_constSpec_41 rfl rfl rfl ?_
      refine e_bipush (v := nI 70) m_X1_constSpec dX1_constSpec_42 (by decide) ?_
      refine e_cvN (as := [.int (nI 70)]) hN m_X1_constSpec dX1_constSpec_44 c_RX1_123 (by decide) rfl rfl (gC_p G.1) rfl (Nat.le_of_ble_eq_true rfl) (Nat.le_of_ble_eq_true rfl) (by omega) (w_X1_accept G (by omega)) (fun v12 s12 hN => ?_)
      refine e_ifeq (t := 57) hN m_X1_constSpec dX1_constSpec_47 (by decide) (fun q13 hN => ?_) (fun q13 hN => ?_)
      · refine e_aload_n m_X1_constSpec dX1_constSpec_57 rfl rfl rfl ?_
        refine e_getf m_X1_constSpec dX1_constSpec_58 f_RX1_17 (gC_p G.1) rfl ?_
        refine e_bipush (v := nI 9) m_X1_constSpec dX1_constSpec_61 (by decide) ?_
        refine e_iload_n m_X1_constSpec dX1_constSpec_63 rfl rfl ?_
        refine e_iload_n m_X1_constSpec dX1_constSpec_64 rfl rfl ?_
        refine e_cvU (as := [.int (nI 9), .int (nI (s_at s)), .int (nI 2)]) hN m_X1_constSpec dX1_constSpec_65 c_RX1_69 (by decide) rfl rfl (gC_r G.1) rfl (Nat.le_of_ble_eq_true rfl) (Nat.le_of_ble_eq_true rfl) (by omega) (w_X3_put G (by omega)) (fun v14 s14 hN => ?_)
        exact e_ret0 m_X1_constSpec dX1_constSpec_68
      · refine e_aload_n m_X1_constSpec dX1_constSpec_50 rfl rfl rfl ?_
        refine e_cvU (as := []) hN m_X1_constSpec dX1_constSpec_51 c_RX1_141 (by decide) rfl rfl (gC_p G.1) rfl (Nat.le_of_ble_eq_true rfl) (Nat.le_of_ble_eq_true rfl) (by omega) (i_X1_exprs IH (by omega)) (fun v15 s15 hN => ?_)
        refine e_iincN (n := 1) m_X1_constSpec dX1_constSpec_54 (by decide) rfl rfl ?_
        refine e_aload_n m_X1_constSpec dX1_constSpec_57 rfl rfl rfl ?_
        refine e_getf m_X1_constSpec dX1_constSpec_58 f_RX1_17 (gC_p G.1) rfl ?_
        refine e_bipush (v := nI 9) m_X1_constSpec dX1_constSpec_61 (by decide) ?_
        refine e_iload_n m_X1_constSpec dX1_constSpec_63 rfl rfl ?_
        refine e_iload_n m_X1_constSpec dX1_constSpec_64 rfl rfl ?_
        refine e_cvU (as := [.int (nI 9), .int (nI (s_at s)), .int (nI 3)]) hN m_X1_constSpec dX1_constSpec_65 c_RX1_69 (by decide) rfl rfl (gC_r G.1) rfl (Nat.le_of_ble_eq_true rfl) (Nat.le_of_ble_eq_true rfl) (by omega) (w_X3_put G (by omega)) (fun v16 s16 hN => ?_)
        exact e_ret0 m_X1_constSpec dX1_constSpec_68

def lp_X1_names_11 (K : Nat → Nat) (N : Nat) (rc : Nat → Nat → Nat → Ss → Rs Ss) : Nat → Nat → Nat → Ss → Rs Ss
  | 0, _, _, _ => none
  | f + 1, y1, y2, s => ifl y2 16385 (bn (b_X1_accept K N 84 s) (fun v9 s9 => ifz v9 (bn (b_X3_put K N 12 y1 y2 s9) (fun v11 s11 => okR 0 s11)) (bn (b_X1_name K N  s9) (fun v12 s12 => lp_X1_names_11 K N rc f y1 (y2 + 1) s12)))) (bn (b_X3_put K N 12 y1 y2 s) (fun v13 s13 => okR 0 s13))
theorem l_X1_names_11 {xs : Nat → Int32} {L : Nat} {h0 : mm_H} {a p N cnt : Nat} {ks : Nat → Nat} (G : Cg h0 a p N cnt ks) {n : Nat} {rc : Nat → Nat → Nat → Ss → Rs Ss} (IH : Hr xs L h0 a p N cnt ks n rc) : ∀ (f : Nat) (y1 y2 : Nat) (s : Ss) (d : Nat) (ls : mm_L) (hd : n + 17 ≤ d) (hl0 : mm_lk ls 0 = some (.ref p)) (hl1 : mm_lk ls 1 = some (.int (nI y1))) (hl2 : mm_lk ls 2 = some (.int (nI y2))), lp_X1_names_11 (kA cnt ks) N rc f y1 y2 s ≠ none → Ev xs L d 54 11 ls [] (TC h0 a p N cnt ks s) 0 0 (ou eU (TC h0 a p N cnt ks) (lp_X1_names_11 (kA cnt ks) N rc f y1 y2 s)) := by
  intro f
  induction f with
  | zero => intros; rename_i hN; exact absurd rfl hN
  | succ f ih =>
    intro y1 y2 s d ls hd hl0 hl1 hl2 hN
    rw [lp_X1_names_11] at hN ⊢
    refine e_iload_n m_X1_names dX1_names_11 rfl hl2 ?_
    refine e_sipush (v := nI 16385) m_X1_names dX1_names_12 (by decide) ?_
    refine e_ige (t := 37) (a := y2) (b := 16385) hN m_X1_names dX1_names_15 (by decide) (fun q8 hN => ?_) (fun q8 hN => ?_)
    · refine e_aload_n m_X1_names dX1_names_18 rfl hl0 rfl ?_
      refine e_bipush (v := nI 84) m_X1_names dX1_names_19 (by decide) ?_
      refine e_cvN (as := [.int (nI 84)]) hN m_X1_names dX1_names_21 c_RX1_123 (by decide) rfl rfl (gC_p G.1) rfl (Nat.le_of_ble_eq_true rfl) (Nat.le_of_ble_eq_true rfl) (by omega) (w_X1_accept G (by omega)) (fun v9 s9 hN => ?_)
      refine e_ifeq (t := 37) hN m_X1_names dX1_names_24 (by decide) (fun q10 hN => ?_) (fun q10 hN => ?_)
      · refine e_aload_n m_X1_names dX1_names_37 rfl hl0 rfl ?_
        refine e_getf m_X1_names dX1_names_38 f_RX1_17 (gC_p G.1) rfl ?_
        refine e_bipush (v := nI 12) m_X1_names dX1_names_41 (by decide) ?_
        refine e_iload_n m_X1_names dX1_names_43 rfl hl1 ?_
        refine e_iload_n m_X1_names dX1_names_44 rfl hl2 ?_
        refine e_cvU (as := [.int (nI 12), .int (nI y1), .int (nI y2)]) hN m_X1_names dX1_names_45 c_RX1_69 (by decide) rfl rfl (gC_r G.1) rfl (Nat.le_of_ble_eq_true rfl) (Nat.le_of_ble_eq_true rfl) (by omega) (w_X3_put G (by omega)) (fun v11 s11 hN => ?_)
        exact e_ret0 m_X1_names dX1_names_48
      · refine e_aload_n m_X1_names dX1_names_27 rfl hl0 rfl ?_
        refine e_cvU (as := []) hN m_X1_names dX1_names_28 c_RX1_79 (by decide) rfl rfl (gC_p G.1) rfl (Nat.le_of_ble_eq_true rfl) (Nat.le_of_ble_eq_true rfl) (by omega) (w_X1_name G (by omega)) (fun v12 s12 hN => ?_)
        refine e_iincN (n := 1) m_X1_names dX1_names_31 (by decide) hl2 rfl ?_
        refine e_goto (t := 11) m_X1_names dX1_names_34 (by decide) ?_
        exact ih y1 (y2 + 1) _ _ _ (by omega) (lk_mis (by decide) rfl hl0) (lk_mis (by decide) rfl hl1) lk_hit hN
    · refine e_aload_n m_X1_names dX1_names_37 rfl hl0 rfl ?_
      refine e_getf m_X1_names dX1_names_38 f_RX1_17 (gC_p G.1) rfl ?_
      refine e_bipush (v := nI 12) m_X1_names dX1_names_41 (by decide) ?_
      refine e_iload_n m_X1_names dX1_names_43 rfl hl1 ?_
      refine e_iload_n m_X1_names dX1_names_44 rfl hl2 ?_
      refine e_cvU (as := [.int (nI 12), .int (nI y1), .int (nI y2)]) hN m_X1_names dX1_names_45 c_RX1_69 (by decide) rfl rfl (gC_r G.1) rfl (Nat.le_of_ble_eq_true rfl) (Nat.le_of_ble_eq_true rfl) (by omega) (w_X3_put G (by omega)) (fun v13 s13 hN => ?_)
      exact e_ret0 m_X1_names dX1_names_48
def b_X1_names (K : Nat → Nat) (N : Nat) (rc : Nat → Nat → Nat → Ss → Rs Ss) (s : Ss) : Rs Ss := bn (b_X1_name K N  s) (fun v1 s1 => lp_X1_names_11 K N rc LF (s_at s) 1 s1)
theorem w_X1_names {xs : Nat → Int32} {L : Nat} {h0 : mm_H} {a p N cnt : Nat} {ks : Nat → Nat} (G : Cg h0 a p N cnt ks) {n : Nat} {rc : Nat → Nat → Nat → Ss → Rs Ss} (IH : Hr xs L h0 a p N cnt ks n rc) {s : Ss} {d : Nat} (hd : n + 17 ≤ d) (hN : b_X1_names (kA cnt ks) N rc s ≠ none) : Rn xs L d 54 [.ref p] (TC h0 a p N cnt ks s) (ou eU (TC h0 a p N cnt ks) (b_X1_names (kA cnt ks) N rc s)) := by
  unfold Rn
  unfold b_X1_names at hN ⊢
  refine e_aload_n m_X1_names dX1_names_0 rfl rfl rfl ?_
  refine e_getf m_X1_names dX1_names_1 f_RX1_43 (gC_p G.1) rfl ?_
  refine e_istore_n m_X1_names dX1_names_4 rfl (by decide) rfl ?_
  refine e_aload_n m_X1_names dX1_names_5 rfl rfl rfl ?_
  refine e_cvU (as := []) hN m_X1_names dX1_names_6 c_RX1_79 (by decide) rfl rfl (gC_p G.1) rfl (Nat.le_of_ble_eq_true rfl) (Nat.le_of_ble_eq_true rfl) (by omega) (w_X1_name G (by omega)) (fun v1 s1 hN => ?_)
  refine e_iconst (v := nI 1) m_X1_names dX1_names_9 (by decide) ?_
  refine e_istore_n m_X1_names dX1_names_10 rfl (by decide) rfl ?_
  exact l_X1_names_11 G IH LF (s_at s) 1 _ _ _ (by omega) rfl rfl rfl hN

def b_X1_exprs (K : Nat → Nat) (N : Nat) (rc : Nat → Nat → Nat → Ss → Rs Ss) (s : Ss) : Rs Ss := bn (rc 29 0 0 s) (fun v1 s1 => bn (rc 56 0 (s_at s) s1) (fun v2 s2 => okR 0 s2))
theorem w_X1_exprs {xs : Nat → Int32} {L : Nat} {h0 : mm_H} {a p N cnt : Nat} {ks : Nat → Nat} (G : Cg h0 a p N cnt ks) {n : Nat} {rc : Nat → Nat → Nat → Ss → Rs Ss} (IH : Hr xs L h0 a p N cnt ks n rc) {s : Ss} {d : Nat} (hd : n + 17 ≤ d) (hN : b_X1_exprs (kA cnt ks) N rc s ≠ none) : Rn xs L d 55 [.ref p] (TC h0 a p N cnt ks s) (ou eU (TC h0 a p N cnt ks) (b_X1_exprs (kA cnt ks) N rc s)) := by
  unfold Rn
  unfold b_X1_exprs at hN ⊢
  refine e_aload_n m_X1_exprs dX1_exprs_0 rfl rfl rfl ?_
  refine e_getf m_X1_exprs dX1_exprs_1 f_RX1_43 (gC_p G.1) rfl ?_
  refine e_istore_n m_X1_exprs dX1_exprs_4 rfl (by decide) rfl ?_
  refine e_aload_n m_X1_exprs dX1_exprs_5 rfl rfl rfl ?_
  refine e_iconst (v := nI 0) m_X1_exprs dX1_exprs_6 (by decide) ?_
  refine e_cvU (as := [.int (nI 0)]) hN m_X1_exprs dX1_exprs_7 c_RX1_181 (by decide) rfl rfl (gC_p G.1) rfl (Nat.le_of_ble_eq_true rfl) (Nat.le_of_ble_eq_true rfl) (by omega) (i_X1_expr IH (by omega)) (fun v1 s1 hN => ?_)
  refine e_aload_n m_X1_exprs dX1_exprs_10 rfl rfl rfl ?_
  refine e_iconst (v := nI 0) m_X1_exprs dX1_exprs_11 (by decide) ?_
  refine e_iload_n m_X1_exprs dX1_exprs_12 rfl rfl ?_
  refine e_cvU (as := [.int (nI 0), .int (nI (s_at s))]) hN m_X1_exprs dX1_exprs_13 c_RX1_246 (by decide) rfl rfl (gC_p G.1) rfl (Nat.le_of_ble_eq_true rfl) (Nat.le_of_ble_eq_true rfl) (by omega) (i_X1_restOfExprs IH (by omega)) (fun v2 s2 hN => ?_)
  exact e_ret0 m_X1_exprs dX1_exprs_16

def lp_X1_restOfExprs_2 (K : Nat → Nat) (N : Nat) (rc : Nat → Nat → Nat → Ss → Rs Ss) : Nat → Nat → Nat → Nat → Ss → Rs Ss
  | 0, _, _, _, _ => none
  | f + 1, y1, y2, y3, s => ifl y3 16385 (ife y1 5 (bn (b_X3_put K N 13 y2 y3 s) (fun v11 s11 => okR 0 s11)) (bn (b_X1_accept K N 84 s) (fun v12 s12 => ifz v12 (bn (b_X3_put K N 13 y2 y3 s12) (fun v14 s14 => okR 0 s14)) (bn (rc 29 0 0 s12) (fun v15 s15 => lp_X1_restOfExprs_2 K N rc f y1 y2 (y3 + 1) s15))))) (bn (b_X3_put K N 13 y2 y3 s) (fun v16 s16 => okR 0 s16))
theorem l_X1_restOfExprs_2 {xs : Nat → Int32} {L : Nat} {h0 : mm_H} {a p N cnt : Nat} {ks : Nat → Nat} (G : Cg h0 a p N cnt ks) {n : Nat} {rc : Nat → Nat → Nat → Ss → Rs Ss} (IH : Hr xs L h0 a p N cnt ks n rc) : ∀ (f : Nat) (y1 y2 y3 : Nat) (s : Ss) (d : Nat) (ls : mm_L) (hd : n + 17 ≤ d) (hl0 : mm_lk ls 0 = some (.ref p)) (hl1 : mm_lk ls 1 = some (.int (nI y1))) (hl2 : mm_lk ls 2 = some (.int (nI y2))) (hl3 : mm_lk ls 3 = some (.int (nI y3))), lp_X1_restOfExprs_2 (kA cnt ks) N rc f y1 y2 y3 s ≠ none → Ev xs L d 56 2 ls [] (TC h0 a p N cnt ks s) 0 0 (ou eU (TC h0 a p N cnt ks) (lp_X1_restOfExprs_2 (kA cnt ks) N rc f y1 y2 y3 s)) := by
  intro f
  induction f with
  | zero => intros; rename_i hN; exact absurd rfl hN
  | succ f ih =>
    intro y1 y2 y3 s d ls hd hl0 hl1 hl2 hl3 hN
    rw [lp_X1_restOfExprs_2] at hN ⊢
    refine e_iload_n m_X1_restOfExprs dX1_restOfExprs_2 rfl hl3 ?_
    refine e_sipush (v := nI 16385) m_X1_restOfExprs dX1_restOfExprs_3 (by decide) ?_
    refine e_ige (t := 34) (a := y3) (b := 16385) hN m_X1_restOfExprs dX1_restOfExprs_6 (by decide) (fun q9 hN => ?_) (fun q9 hN => ?_)
    · refine e_iload_n m_X1_restOfExprs dX1_restOfExprs_9 rfl hl1 ?_
      refine e_iconst (v := nI 5) m_X1_restOfExprs dX1_restOfExprs_10 (by decide) ?_
      refine e_ieq (t := 34) (a := y1) (b := 5) hN m_X1_restOfExprs dX1_restOfExprs_11 (by decide) (fun q10 hN => ?_) (fun q10 hN => ?_)
      · refine e_aload_n m_X1_restOfExprs dX1_restOfExprs_34 rfl hl0 rfl ?_
        refine e_getf m_X1_restOfExprs dX1_restOfExprs_35 f_RX1_17 (gC_p G.1) rfl ?_
        refine e_bipush (v := nI 13) m_X1_restOfExprs dX1_restOfExprs_38 (by decide) ?_
        refine e_iload_n m_X1_restOfExprs dX1_restOfExprs_40 rfl hl2 ?_
        refine e_iload_n m_X1_restOfExprs dX1_restOfExprs_41 rfl hl3 ?_
        refine e_cvU (as := [.int (nI 13), .int (nI y2), .int (nI y3)]) hN m_X1_restOfExprs dX1_restOfExprs_42 c_RX1_69 (by decide) rfl rfl (gC_r G.1) rfl (Nat.le_of_ble_eq_true rfl) (Nat.le_of_ble_eq_true rfl) (by omega) (w_X3_put G (by omega)) (fun v11 s11 hN => ?_)
        exact e_ret0 m_X1_restOfExprs dX1_restOfExprs_45
      · refine e_aload_n m_X1_restOfExprs dX1_restOfExprs_14 rfl hl0 rfl ?_
        refine e_bipush (v := nI 84) m_X1_restOfExprs dX1_restOfExprs_15 (by decide) ?_
        refine e_cvN (as := [.int (nI 84)]) hN m_X1_restOfExprs dX1_restOfExprs_17 c_RX1_123 (by decide) rfl rfl (gC_p G.1) rfl (Nat.le_of_ble_eq_true rfl) (Nat.le_of_ble_eq_true rfl) (by omega) (w_X1_accept G (by omega)) (fun v12 s12 hN => ?_)
        refine e_ifeq (t := 34) hN m_X1_restOfExprs dX1_restOfExprs_20 (by decide) (fun q13 hN => ?_) (fun q13 hN => ?_)
        · refine e_aload_n m_X1_restOfExprs dX1_restOfExprs_34 rfl hl0 rfl ?_
          refine e_getf m_X1_restOfExprs dX1_restOfExprs_35 f_RX1_17 (gC_p G.1) rfl ?_
          refine e_bipush (v := nI 13) m_X1_restOfExprs dX1_restOfExprs_38 (by decide) ?_
          refine e_iload_n m_X1_restOfExprs dX1_restOfExprs_40 rfl hl2 ?_
          refine e_iload_n m_X1_restOfExprs dX1_restOfExprs_41 rfl hl3 ?_
          refine e_cvU (as := [.int (nI 13), .int (nI y2), .int (nI y3)]) hN m_X1_restOfExprs dX1_restOfExprs_42 c_RX1_69 (by decide) rfl rfl (gC_r G.1) rfl (Nat.le_of_ble_eq_true rfl) (Nat.le_of_ble_eq_true rfl) (by omega) (w_X3_put G (by omega)) (fun v14 s14 hN => ?_)
          exact e_ret0 m_X1_restOfExprs dX1_restOfExprs_45
        · refine e_aload_n m_X1_restOfExprs dX1_restOfExprs_23 rfl hl0 rfl ?_
          refine e_iconst (v := nI 0) m_X1_restOfExprs dX1_restOfExprs_24 (by decide) ?_
          refine e_cvU (as := [.int (nI 0)]) hN m_X1_restOfExprs dX1_restOfExprs_25 c_RX1_181 (by decide) rfl rfl (gC_p G.1) rfl (Nat.le_of_ble_eq_true rfl) (Nat.le_of_ble_eq_true rfl) (by omega) (i_X1_expr IH (by omega)) (fun v15 s15 hN => ?_)
          refine e_iincN (n := 1) m_X1_restOfExprs dX1_restOfExprs_28 (by decide) hl3 rfl ?_
          refine e_goto (t := 2) m_X1_restOfExprs dX1_restOfExprs_31 (by decide) ?_
          exact ih y1 y2 (y3 + 1) _ _ _ (by omega) (lk_mis (by decide) rfl hl0) (lk_mis (by decide) rfl hl1) (lk_mis (by decide) rfl hl2) lk_hit hN
    · refine e_aload_n m_X1_restOfExprs dX1_restOfExprs_34 rfl hl0 rfl ?_
      refine e_getf m_X1_restOfExprs dX1_restOfExprs_35 f_RX1_17 (gC_p G.1) rfl ?_
      refine e_bipush (v := nI 13) m_X1_restOfExprs dX1_restOfExprs_38 (by decide) ?_
      refine e_iload_n m_X1_restOfExprs dX1_restOfExprs_40 rfl hl2 ?_
      refine e_iload_n m_X1_restOfExprs dX1_restOfExprs_41 rfl hl3 ?_
      refine e_cvU (as := [.int (nI 13), .int (nI y2), .int (nI y3)]) hN m_X1_restOfExprs dX1_restOfExprs_42 c_RX1_69 (by decide) rfl rfl (gC_r G.1) rfl (Nat.le_of_ble_eq_true rfl) (Nat.le_of_ble_eq_true rfl) (by omega) (w_X3_put G (by omega)) (fun v16 s16 hN => ?_)
      exact e_ret0 m_X1_restOfExprs dX1_restOfExprs_45
def b_X1_restOfExprs (K : Nat → Nat) (N : Nat) (rc : Nat → Nat → Nat → Ss → Rs Ss) (x1 : Nat) (x2 : Nat) (s : Ss) : Rs Ss := lp_X1_restOfExprs_2 K N rc LF x1 x2 1 s
theorem w_X1_restOfExprs {xs : Nat → Int32} {L : Nat} {h0 : mm_H} {a p N cnt : Nat} {ks : Nat → Nat} (G : Cg h0 a p N cnt ks) {n : Nat} {rc : Nat → Nat → Nat → Ss → Rs Ss} (IH : Hr xs L h0 a p N cnt ks n rc) {x1 : Nat} {x2 : Nat} {s : Ss} {d : Nat} (hd : n + 17 ≤ d) (hN : b_X1_restOfExprs (kA cnt ks) N rc x1 x2 s ≠ none) : Rn xs L d 56 [.ref p, .int (nI x1), .int (nI x2)] (TC h0 a p N cnt ks s) (ou eU (TC h0 a p N cnt ks) (b_X1_restOfExprs (kA cnt ks) N rc x1 x2 s)) := by
  unfold Rn
  unfold b_X1_restOfExprs at hN ⊢
  refine e_iconst (v := nI 1) m_X1_restOfExprs dX1_restOfExprs_0 (by decide) ?_
  refine e_istore_n m_X1_restOfExprs dX1_restOfExprs_1 rfl (by decide) rfl ?_
  exact l_X1_restOfExprs_2 G IH LF x1 x2 1 _ _ _ (by omega) rfl rfl rfl rfl hN

def b_X1_typeSpec (K : Nat → Nat) (N : Nat) (rc : Nat → Nat → Nat → Ss → Rs Ss) (s : Ss) : Rs Ss := bn (b_X1_name K N  s) (fun v1 s1 => bn (rc 26 0 0 s1) (fun v2 s2 => bn (b_X3_put K N 10 (s_at s) 2 s2) (fun v3 s3 => okR 0 s3)))
theorem w_X1_typeSpec {xs : Nat → Int32} {L : Nat} {h0 : mm_H} {a p N cnt : Nat} {ks : Nat → Nat} (G : Cg h0 a p N cnt ks) {n : Nat} {rc : Nat → Nat → Nat → Ss → Rs Ss} (IH : Hr xs L h0 a p N cnt ks n rc) {s : Ss} {d : Nat} (hd : n + 17 ≤ d) (hN : b_X1_typeSpec (kA cnt ks) N rc s ≠ none) : Rn xs L d 57 [.ref p] (TC h0 a p N cnt ks s) (ou eU (TC h0 a p N cnt ks) (b_X1_typeSpec (kA cnt ks) N rc s)) := by
  unfold Rn
  unfold b_X1_typeSpec at hN ⊢
  refine e_aload_n m_X1_typeSpec dX1_typeSpec_0 rfl rfl rfl ?_
  refine e_getf m_X1_typeSpec dX1_typeSpec_1 f_RX1_43 (gC_p G.1) rfl ?_
  refine e_istore_n m_X1_typeSpec dX1_typeSpec_4 rfl (by decide) rfl ?_
  refine e_aload_n m_X1_typeSpec dX1_typeSpec_5 rfl rfl rfl ?_
  refine e_cvU (as := []) hN m_X1_typeSpec dX1_typeSpec_6 c_RX1_79 (by decide) rfl rfl (gC_p G.1) rfl (Nat.le_of_ble_eq_true rfl) (Nat.le_of_ble_eq_true rfl) (by omega) (w_X1_name G (by omega)) (fun v1 s1 hN => ?_)
  refine e_aload_n m_X1_typeSpec dX1_typeSpec_9 rfl rfl rfl ?_
  refine e_cvU (as := []) hN m_X1_typeSpec dX1_typeSpec_10 c_RX1_103 (by decide) rfl rfl (gC_p G.1) rfl (Nat.le_of_ble_eq_true rfl) (Nat.le_of_ble_eq_true rfl) (by omega) (i_X1_type IH (by omega)) (fun v2 s2 hN => ?_)
  refine e_aload_n m_X1_typeSpec dX1_typeSpec_13 rfl rfl rfl ?_
  refine e_getf m_X1_typeSpec dX1_typeSpec_14 f_RX1_17 (gC_p G.1) rfl ?_
  refine e_bipush (v := nI 10) m_X1_typeSpec dX1_typeSpec_17 (by decide) ?_
  refine e_iload_n m_X1_typeSpec dX1_typeSpec_19 rfl rfl ?_
  refine e_iconst (v := nI 2) m_X1_typeSpec dX1_typeSpec_20 (by decide) ?_
  refine e_cvU (as := [.int (nI 10), .int (nI (s_at s)), .int (nI 2)]) hN m_X1_typeSpec dX1_typeSpec_21 c_RX1_69 (by decide) rfl rfl (gC_r G.1) rfl (Nat.le_of_ble_eq_true rfl) (Nat.le_of_ble_eq_true rfl) (by omega) (w_X3_put G (by omega)) (fun v3 s3 hN => ?_)
  exact e_ret0 m_X1_typeSpec dX1_typeSpec_24

def b_X1_varSpec (K : Nat → Nat) (N : Nat) (rc : Nat → Nat → Nat → Ss → Rs Ss) (s : Ss) : Rs Ss := bn (rc 54 0 0 s) (fun v1 s1 => bn (q_sees K 70 s1) (fun v2 s2 => ifz v2 (bn (rc 26 0 0 s2) (fun v4 s4 => bn (b_X1_accept K N 70 s4) (fun v5 s5 => ifz v5 (bn (b_X3_put K N 11 (s_at s) 2 s5) (fun v7 s7 => okR 0 s7)) (bn (rc 55 0 0 s5) (fun v8 s8 => bn (b_X3_put K N 11 (s_at s) 3 s8) (fun v9 s9 => okR 0 s9)))))) (bn (b_X1_accept K N 70 s2) (fun v10 s10 => ifz v10 (bn (b_X3_put K N 11 (s_at s) 1 s10) (fun v12 s12 => okR 0 s12)) (bn (rc 55 0 0 s10) (fun v13 s13 => bn (b_X3_put K N 11 (s_at s) 2 s13) (fun v14 s14 => okR 0 s14)))))))
theorem w_X1_varSpec {xs : Nat → Int32} {L : Nat} {h0 : mm_H} {a p N cnt : Nat} {ks : Nat → Nat} (G : Cg h0 a p N cnt ks) {n : Nat} {rc : Nat → Nat → Nat → Ss → Rs Ss} (IH : Hr xs L h0 a p N cnt ks n rc) {s : Ss} {d : Nat} (hd : n + 17 ≤ d) (hN : b_X1_varSpec (kA cnt ks) N rc s ≠ none) : Rn xs L d 58 [.ref p] (TC h0 a p N cnt ks s) (ou eU (TC h0 a p N cnt ks) (b_X1_varSpec (kA cnt ks) N rc s)) := by
  unfold Rn
  unfold b_X1_varSpec at hN ⊢
  refine e_aload_n m_X1_varSpec dX1_varSpec_0 rfl rfl rfl ?_
  refine e_getf m_X1_varSpec dX1_varSpec_1 f_RX1_43 (gC_p G.1) rfl ?_
  refine e_istore_n m_X1_varSpec dX1_varSpec_4 rfl (by decide) rfl ?_
  refine e_aload_n m_X1_varSpec dX1_varSpec_5 rfl rfl rfl ?_
  refine e_cvU (as := []) hN m_X1_varSpec dX1_varSpec_6 c_RX1_135 (by decide) rfl rfl (gC_p G.1) rfl (Nat.le_of_ble_eq_true rfl) (Nat.le_of_ble_eq_true rfl) (by omega) (i_X1_names IH (by omega)) (fun v1 s1 hN => ?_)
  refine e_iconst (v := nI 1) m_X1_varSpec dX1_varSpec_9 (by decide) ?_
  refine e_istore_n m_X1_varSpec dX1_varSpec_10 rfl (by decide) rfl ?_
  refine e_aload_n m_X1_varSpec dX1_varSpec_11 rfl rfl rfl ?_
  refine e_bipush (v := nI 70) m_X1_varSpec dX1_varSpec_12 (by decide) ?_
  refine e_cvN (as := [.int (nI 70)]) hN m_X1_varSpec dX1_varSpec_14 c_RX1_46 (by decide) rfl rfl (gC_p G.1) rfl (Nat.le_of_ble_eq_true rfl) (Nat.le_of_ble_eq_true rfl) (by omega) (t_sees G (by omega)) (fun v2 s2 hN => ?_)
  refine e_ifne (t := 27) hN m_X1_varSpec dX1_varSpec_17 (by decide) (fun q3 hN => ?_) (fun q3 hN => ?_)
  · refine e_aload_n m_X1_varSpec dX1_varSpec_20 rfl rfl rfl ?_
    refine e_cvU (as := []) hN m_X1_varSpec dX1_varSpec_21 c_RX1_103 (by decide) rfl rfl (gC_p G.1) rfl (Nat.le_of_ble_eq_true rfl) (Nat.le_of_ble_eq_true rfl) (by omega) (i_X1_type IH (by omega)) (fun v4 s4 hN => ?_)
    refine e_iincN (n := 1) m_X1_varSpec dX1_varSpec_24 (by decide) rfl rfl ?_
    refine e_aload_n m_X1_varSpec dX1_varSpec_27 rfl rfl rfl ?_
    refine e_bipush (v := nI 70) m_X1_varSpec dX1_varSpec_28 (by decide) ?_
    refine e_cvN (as := [.int (nI 70)]) hN m_X1_varSpec dX1_varSpec_30 c_RX1_123 (by decide) rfl rfl (gC_p G.1) rfl (Nat.le_of_ble_eq_true rfl) (Nat.le_of_ble_eq_true rfl) (by omega) (w_X1_accept G (by omega)) (fun v5 s5 hN => ?_)
    refine e_ifeq (t := 43) hN m_X1_varSpec dX1_varSpec_33 (by decide) (fun q6 hN => ?_) (fun q6 hN => ?_)
    · refine e_aload_n m_X1_varSpec dX1_varSpec_43 rfl rfl rfl ?_
      refine e_getf m_X1_varSpec dX1_varSpec_44 f_RX1_17 (gC_p G.1) rfl ?_
      refine e_bipush (v := nI 11) m_X1_varSpec dX1_varSpec_47 (by decide) ?_
      refine e_iload_n m_X1_varSpec dX1_varSpec_49 rfl rfl ?_
      refine e_iload_n m_X1_varSpec dX1_varSpec_50 rfl rfl ?_
      refine e_cvU (as := [.int (nI 11), .int (nI (s_at s)), .int (nI 2)]) hN m_X1_varSpec dX1_varSpec_51 c_RX1_69 (by decide) rfl rfl (gC_r G.1) rfl (Nat.le_of_ble_eq_true rfl) (Nat.le_of_ble_eq_true rfl) (by omega) (w_X3_put G (by omega)) (fun v7 s7 hN => ?_)
      exact e_ret0 m_X1_varSpec dX1_varSpec_54
    · refine e_aload_n m_X1_varSpec dX1_varSpec_36 rfl rfl rfl ?_
      refine e_cvU (as := []) hN m_X1_varSpec dX1_varSpec_37 c_RX1_141 (by decide) rfl rfl (gC_p G.1) rfl (Nat.le_of_ble_eq_true rfl) (Nat.le_of_ble_eq_true rfl) (by omega) (i_X1_exprs IH (by omega)) (fun v8 s8 hN => ?_)
      refine e_iincN (n := 1) m_X1_varSpec dX1_varSpec_40 (by decide) rfl rfl ?_
      refine e_aload_n m_X1_varSpec dX1_varSpec_43 rfl rfl rfl ?_
      refine e_getf m_X1_varSpec dX1_varSpec_44 f_RX1_17 (gC_p G.1) rfl ?_
      refine e_bipush (v := nI 11) m_X1_varSpec dX1_varSpec_47 (by decide) ?_
      refine e_iload_n m_X1_varSpec dX1_varSpec_49 rfl rfl ?_
      refine e_iload_n m_X1_varSpec dX1_varSpec_50 rfl rfl ?_
      refine e_cvU (as := [.int (nI 11), .int (nI (s_at s)), .int (nI 3)]) hN m_X1_varSpec dX1_varSpec_51 c_RX1_69 (by decide) rfl rfl (gC_r G.1) rfl (Nat.le_of_ble_eq_true rfl) (Nat.le_of_ble_eq_true rfl) (by omega) (w_X3_put G (by omega)) (fun v9 s9 hN => ?_)
      exact e_ret0 m_X1_varSpec dX1_varSpec_54
  · refine e_aload_n m_X1_varSpec dX1_varSpec_27 rfl rfl rfl ?_
    refine e_bipush (v := nI 70) m_X1_varSpec dX1_varSpec_28 (by decide) ?_
    refine e_cvN (as := [.int (nI 70)]) hN m_X1_varSpec dX1_varSpec_30 c_RX1_123 (by decide) rfl rfl (gC_p G.1) rfl (Nat.le_of_ble_eq_true rfl) (Nat.le_of_ble_eq_true rfl) (by omega) (w_X1_accept G (by omega)) (fun v10 s10 hN => ?_)
    refine e_ifeq (t := 43) hN m_X1_varSpec dX1_varSpec_33 (by decide) (fun q11 hN => ?_) (fun q11 hN => ?_)
    · refine e_aload_n m_X1_varSpec dX1_varSpec_43 rfl rfl rfl ?_
      refine e_getf m_X1_varSpec dX1_varSpec_44 f_RX1_17 (gC_p G.1) rfl ?_
      refine e_bipush (v := nI 11) m_X1_varSpec dX1_varSpec_47 (by decide) ?_
      refine e_iload_n m_X1_varSpec dX1_varSpec_49 rfl rfl ?_
      refine e_iload_n m_X1_varSpec dX1_varSpec_50 rfl rfl ?_
      refine e_cvU (as := [.int (nI 11), .int (nI (s_at s)), .int (nI 1)]) hN m_X1_varSpec dX1_varSpec_51 c_RX1_69 (by decide) rfl rfl (gC_r G.1) rfl (Nat.le_of_ble_eq_true rfl) (Nat.le_of_ble_eq_true rfl) (by omega) (w_X3_put G (by omega)) (fun v12 s12 hN => ?_)
      exact e_ret0 m_X1_varSpec dX1_varSpec_54
    · refine e_aload_n m_X1_varSpec dX1_varSpec_36 rfl rfl rfl ?_
      refine e_cvU (as := []) hN m_X1_varSpec dX1_varSpec_37 c_RX1_141 (by decide) rfl rfl (gC_p G.1) rfl (Nat.le_of_ble_eq_true rfl) (Nat.le_of_ble_eq_true rfl) (by omega) (i_X1_exprs IH (by omega)) (fun v13 s13 hN => ?_)
      refine e_iincN (n := 1) m_X1_varSpec dX1_varSpec_40 (by decide) rfl rfl ?_
      refine e_aload_n m_X1_varSpec dX1_varSpec_43 rfl rfl rfl ?_
      refine e_getf m_X1_varSpec dX1_varSpec_44 f_RX1_17 (gC_p G.1) rfl ?_
      refine e_bipush (v := nI 11) m_X1_varSpec dX1_varSpec_47 (by decide) ?_
      refine e_iload_n m_X1_varSpec dX1_varSpec_49 rfl rfl ?_
      refine e_iload_n m_X1_varSpec dX1_varSpec_50 rfl rfl ?_
      refine e_cvU (as := [.int (nI 11), .int (nI (s_at s)), .int (nI 2)]) hN m_X1_varSpec dX1_varSpec_51 c_RX1_69 (by decide) rfl rfl (gC_r G.1) rfl (Nat.le_of_ble_eq_true rfl) (Nat.le_of_ble_eq_true rfl) (by omega) (w_X3_put G (by omega)) (fun v14 s14 hN => ?_)
      exact e_ret0 m_X1_varSpec dX1_varSpec_54

