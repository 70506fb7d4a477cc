/-! The methods of the reference. -/
def b_X6_functionTail  (x1 : Nat) (s : Mm) : Rs Mm := bn (b_X6_look  s) (fun v1 s1 => ife v1 82 (ck (x1 < 65536) (st1 (w_wh s1 (upN (m_wh s1) x1 90)) (fun s4 => bn (b_X6_push 6 x1 0 s4) (fun v5 s5 => bn (b_X6_block x1 s5) (fun v6 s6 => okR 0 s6))))) (ck ((m_dp s1) ≠ 0) (st1 (w_dp s1 ((m_dp s1) - 1)) (fun s8 => okR 0 s8))))
theorem w_X6_functionTail {xs : Nat → Int32} {L : Nat} {h0 : mm_H} (G : Mg h0) {x1 : Nat} {s : Mm} {d : Nat} (hd : 13 ≤ d) (hN : b_X6_functionTail  x1 s ≠ none) : Rn xs L d 164 [.ref 10, .int (nI x1)] (TM h0 s) (ou eU (TM h0) (b_X6_functionTail  x1 s)) := by
  unfold Rn
  unfold b_X6_functionTail at hN ⊢
  refine e_aload_n m_X6_functionTail dX6_functionTail_0 rfl rfl rfl ?_
  refine e_cvN (as := []) hN m_X6_functionTail dX6_functionTail_1 c_RX6_83 (by decide) rfl rfl (gM_m G) rfl (Nat.le_of_ble_eq_true rfl) (Nat.le_of_ble_eq_true rfl) (by omega) (w_X6_look G (by omega)) (fun v1 s1 hN => ?_)
  refine e_bipush (v := nI 82) m_X6_functionTail dX6_functionTail_4 (by decide) ?_
  refine e_ieq (t := 20) (a := v1) (b := 82) hN m_X6_functionTail dX6_functionTail_6 (by decide) (fun q2 hN => ?_) (fun q2 hN => ?_)
  · refine e_aload_n m_X6_functionTail dX6_functionTail_20 rfl rfl rfl ?_
    refine e_getf m_X6_functionTail dX6_functionTail_21 f_RX6_14 (gM_m G) rfl ?_
    refine e_iload_n m_X6_functionTail dX6_functionTail_24 rfl rfl ?_
    refine e_bipush (v := nI 90) m_X6_functionTail dX6_functionTail_25 (by decide) ?_
    refine e_ck hN (fun q3 hN => ?_)
    refine e_astN (v := 90) (h' := TM h0 (w_wh s1 (upN (m_wh s1) x1 90))) q3 (by decide) m_X6_functionTail dX6_functionTail_27 (gM_wh G) (hpL_set (k := 12) (by decide) (Nat.le_of_ble_eq_true rfl)) ?_
    refine e_st hN (fun s4 hN => ?_)
    refine e_aload_n m_X6_functionTail dX6_functionTail_28 rfl rfl rfl ?_
    refine e_bipush (v := nI 6) m_X6_functionTail dX6_functionTail_29 (by decide) ?_
    refine e_iload_n m_X6_functionTail dX6_functionTail_31 rfl rfl ?_
    refine e_iconst (v := nI 0) m_X6_functionTail dX6_functionTail_32 (by decide) ?_
    refine e_cvU (as := [.int (nI 6), .int (nI x1), .int (nI 0)]) hN m_X6_functionTail dX6_functionTail_33 c_RX6_106 (by decide) rfl rfl (gM_m G) rfl (Nat.le_of_ble_eq_true rfl) (Nat.le_of_ble_eq_true rfl) (by omega) (w_X6_push G (by omega)) (fun v5 s5 hN => ?_)
    refine e_aload_n m_X6_functionTail dX6_functionTail_36 rfl rfl rfl ?_
    refine e_iload_n m_X6_functionTail dX6_functionTail_37 rfl rfl ?_
    refine e_cvU (as := [.int (nI x1)]) hN m_X6_functionTail dX6_functionTail_38 c_RX6_180 (by decide) rfl rfl (gM_m G) rfl (Nat.le_of_ble_eq_true rfl) (Nat.le_of_ble_eq_true rfl) (by omega) (w_X6_block G (by omega)) (fun v6 s6 hN => ?_)
    exact e_ret0 m_X6_functionTail dX6_functionTail_41
  · refine e_aload_n m_X6_functionTail dX6_functionTail_9 rfl rfl rfl ?_
    refine e_dup m_X6_functionTail dX6_functionTail_10 rfl ?_
    refine e_getf m_X6_functionTail dX6_functionTail_11 f_RX6_90 (gM_m G) rfl ?_
    refine e_iconst (v := nI 1) m_X6_functionTail dX6_functionTail_14 (by decide) ?_
    refine e_isubO m_X6_functionTail dX6_functionTail_15 ?_
    refine e_ck hN (fun q7 hN => ?_)
    rw [oI_p q7]
    refine e_putf (v := .int (nI ((m_dp s1) - 1))) (h' := TM h0 (w_dp s1 ((m_dp s1) - 1))) m_X6_functionTail dX6_functionTail_16 f_RX6_90 (gM_m G) (Nat.le_of_ble_eq_true rfl) (fit_i rfl) rfl (hpL_set (k := 10) (by decide) (Nat.le_of_ble_eq_true rfl)) ?_
    refine e_st hN (fun s8 hN => ?_)
    exact e_ret0 m_X6_functionTail dX6_functionTail_19

def b_X6_valued  (x1 : Nat) (x2 : Nat) (s : Mm) : Rs Mm := bn (b_X6_look  s) (fun v1 s1 => ife v1 70 (bn (b_X6_pass 70 s1) (fun v3 s3 => bn (b_X6_exprs x1 0 s3) (fun v4 s4 => okR 0 s4))) (ife x2 1 (bn (b_X6_pass 70 s1) (fun v6 s6 => bn (b_X6_exprs x1 0 s6) (fun v7 s7 => okR 0 s7))) (okR 0 s1)))
theorem w_X6_valued {xs : Nat → Int32} {L : Nat} {h0 : mm_H} (G : Mg h0) {x1 : Nat} {x2 : Nat} {s : Mm} {d : Nat} (hd : 13 ≤ d) (hN : b_X6_valued  x1 x2 s ≠ none) : Rn xs L d 182 [.ref 10, .int (nI x1), .int (nI x2)] (TM h0 s) (ou eU (TM h0) (b_X6_valued  x1 x2 s)) := by
  unfold Rn
  unfold b_X6_valued at hN ⊢
  refine e_aload_n m_X6_valued dX6_valued_0 rfl rfl rfl ?_
  refine e_cvN (as := []) hN m_X6_valued dX6_valued_1 c_RX6_83 (by decide) rfl rfl (gM_m G) rfl (Nat.le_of_ble_eq_true rfl) (Nat.le_of_ble_eq_true rfl) (by omega) (w_X6_look G (by omega)) (fun v1 s1 hN => ?_)
  refine e_bipush (v := nI 70) m_X6_valued dX6_valued_4 (by decide) ?_
  refine e_ieq (t := 14) (a := v1) (b := 70) hN m_X6_valued dX6_valued_6 (by decide) (fun q2 hN => ?_) (fun q2 hN => ?_)
  · refine e_aload_n m_X6_valued dX6_valued_14 rfl rfl rfl ?_
    refine e_bipush (v := nI 70) m_X6_valued dX6_valued_15 (by decide) ?_
    refine e_cvU (as := [.int (nI 70)]) hN m_X6_valued dX6_valued_17 c_RX6_141 (by decide) rfl rfl (gM_m G) rfl (Nat.le_of_ble_eq_true rfl) (Nat.le_of_ble_eq_true rfl) (by omega) (w_X6_pass G (by omega)) (fun v3 s3 hN => ?_)
    refine e_aload_n m_X6_valued dX6_valued_20 rfl rfl rfl ?_
    refine e_iload_n m_X6_valued dX6_valued_21 rfl rfl ?_
    refine e_iconst (v := nI 0) m_X6_valued dX6_valued_22 (by decide) ?_
    refine e_cvU (as := [.int (nI x1), .int (nI 0)]) hN m_X6_valued dX6_valued_23 c_RX6_159 (by decide) rfl rfl (gM_m G) rfl (Nat.le_of_ble_eq_true rfl) (Nat.le_of_ble_eq_true rfl) (by omega) (w_X6_exprs G (by omega)) (fun v4 s4 hN => ?_)
    exact e_ret0 m_X6_valued dX6_valued_26
  · refine e_iload_n m_X6_valued dX6_valued_9 rfl rfl ?_
    refine e_iconst (v := nI 1) m_X6_valued dX6_valued_10 (by decide) ?_
    refine e_ine (t := 26) (a := x2) (b := 1) hN m_X6_valued dX6_valued_11 (by decide) (fun q5 hN => ?_) (fun q5 hN => ?_)
    · refine e_aload_n m_X6_valued dX6_valued_14 rfl rfl rfl ?_
      refine e_bipush (v := nI 70) m_X6_valued dX6_valued_15 (by decide) ?_
      refine e_cvU (as := [.int (nI 70)]) hN m_X6_valued dX6_valued_17 c_RX6_141 (by decide) rfl rfl (gM_m G) rfl (Nat.le_of_ble_eq_true rfl) (Nat.le_of_ble_eq_true rfl) (by omega) (w_X6_pass G (by omega)) (fun v6 s6 hN => ?_)
      refine e_aload_n m_X6_valued dX6_valued_20 rfl rfl rfl ?_
      refine e_iload_n m_X6_valued dX6_valued_21 rfl rfl ?_
      refine e_iconst (v := nI 0) m_X6_valued dX6_valued_22 (by decide) ?_
      refine e_cvU (as := [.int (nI x1), .int (nI 0)]) hN m_X6_valued dX6_valued_23 c_RX6_159 (by decide) rfl rfl (gM_m G) rfl (Nat.le_of_ble_eq_true rfl) (Nat.le_of_ble_eq_true rfl) (by omega) (w_X6_exprs G (by omega)) (fun v7 s7 hN => ?_)
      exact e_ret0 m_X6_valued dX6_valued_26
    · exact e_ret0 m_X6_valued dX6_valued_26

def b_X6_loop  (x1 : Nat) (s : Mm) : Rs Mm := bn (b_X6_child x1 62 (m_at s) s) (fun v1 s1 => st1 (w_at s1 ((m_at s1) + 1)) (fun s2 => bn (b_X6_look  s2) (fun v3 s3 => ife v3 82 (bn (b_X6_block v1 s3) (fun v5 s5 => okR 0 s5)) (ife v3 28 (bn (b_X6_child v1 66 (m_at s3) s3) (fun v7 s7 => st1 (w_at s7 ((m_at s7) + 1)) (fun s8 => bn (b_X6_push 38 v1 0 s8) (fun v9 s9 => bn (b_X6_expression v7 1 1 s9) (fun v10 s10 => okR 0 s10))))) (ife v3 85 (bn (b_X6_child v1 63 (m_at s3) s3) (fun v12 s12 => st1 (w_at s12 ((m_at s12) + 1)) (fun s13 => bn (b_X6_condition v1 s13) (fun v14 s14 => okR 0 s14)))) (bn (b_X6_push 46 v1 0 s3) (fun v15 s15 => bn (b_X6_push 41 v1 5 s15) (fun v16 s16 => okR 0 s16))))))))
theorem w_X6_loop {xs : Nat → Int32} {L : Nat} {h0 : mm_H} (G : Mg h0) {x1 : Nat} {s : Mm} {d : Nat} (hd : 13 ≤ d) (hN : b_X6_loop  x1 s ≠ none) : Rn xs L d 191 [.ref 10, .int (nI x1)] (TM h0 s) (ou eU (TM h0) (b_X6_loop  x1 s)) := by
  unfold Rn
  unfold b_X6_loop at hN ⊢
  refine e_aload_n m_X6_loop dX6_loop_0 rfl rfl rfl ?_
  refine e_iload_n m_X6_loop dX6_loop_1 rfl rfl ?_
  refine e_bipush (v := nI 62) m_X6_loop dX6_loop_2 (by decide) ?_
  refine e_aload_n m_X6_loop dX6_loop_4 rfl rfl rfl ?_
  refine e_getf m_X6_loop dX6_loop_5 f_RX6_77 (gM_m G) rfl ?_
  refine e_cvN (as := [.int (nI x1), .int (nI 62), .int (nI (m_at s))]) hN m_X6_loop dX6_loop_8 c_RX6_99 (by decide) rfl rfl (gM_m G) rfl (Nat.le_of_ble_eq_true rfl) (Nat.le_of_ble_eq_true rfl) (by omega) (w_X6_child G (by omega)) (fun v1 s1 hN => ?_)
  refine e_istore_n m_X6_loop dX6_loop_11 rfl (by decide) rfl ?_
  refine e_aload_n m_X6_loop dX6_loop_12 rfl rfl rfl ?_
  refine e_dup m_X6_loop dX6_loop_13 rfl ?_
  refine e_getf m_X6_loop dX6_loop_14 f_RX6_77 (gM_m G) rfl ?_
  refine e_iconst (v := nI 1) m_X6_loop dX6_loop_17 (by decide) ?_
  refine e_iaddN m_X6_loop dX6_loop_18 ?_
  refine e_putf (v := .int (nI ((m_at s1) + 1))) (h' := TM h0 (w_at s1 ((m_at s1) + 1))) m_X6_loop dX6_loop_19 f_RX6_77 (gM_m G) (Nat.le_of_ble_eq_true rfl) (fit_i rfl) rfl (hpL_set (k := 10) (by decide) (Nat.le_of_ble_eq_true rfl)) ?_
  refine e_st hN (fun s2 hN => ?_)
  refine e_aload_n m_X6_loop dX6_loop_22 rfl rfl rfl ?_
  refine e_cvN (as := []) hN m_X6_loop dX6_loop_23 c_RX6_83 (by decide) rfl rfl (gM_m G) rfl (Nat.le_of_ble_eq_true rfl) (Nat.le_of_ble_eq_true rfl) (by omega) (w_X6_look G (by omega)) (fun v3 s3 hN => ?_)
  refine e_istore_n m_X6_loop dX6_loop_26 rfl (by decide) rfl ?_
  refine e_iload_n m_X6_loop dX6_loop_27 rfl rfl ?_
  refine e_bipush (v := nI 82) m_X6_loop dX6_loop_28 (by decide) ?_
  refine e_ine (t := 41) (a := v3) (b := 82) hN m_X6_loop dX6_loop_30 (by decide) (fun q4 hN => ?_) (fun q4 hN => ?_)
  · refine e_aload_n m_X6_loop dX6_loop_33 rfl rfl rfl ?_
    refine e_iload_n m_X6_loop dX6_loop_34 rfl rfl ?_
    refine e_cvU (as := [.int (nI v1)]) hN m_X6_loop dX6_loop_35 c_RX6_180 (by decide) rfl rfl (gM_m G) rfl (Nat.le_of_ble_eq_true rfl) (Nat.le_of_ble_eq_true rfl) (by omega) (w_X6_block G (by omega)) (fun v5 s5 hN => ?_)
    refine e_goto (t := 141) m_X6_loop dX6_loop_38 (by decide) ?_
    exact e_ret0 m_X6_loop dX6_loop_141
  · refine e_iload_n m_X6_loop dX6_loop_41 rfl rfl ?_
    refine e_bipush (v := nI 28) m_X6_loop dX6_loop_42 (by decide) ?_
    refine e_ine (t := 89) (a := v3) (b := 28) hN m_X6_loop dX6_loop_44 (by decide) (fun q6 hN => ?_) (fun q6 hN => ?_)
    · refine e_aload_n m_X6_loop dX6_loop_47 rfl rfl rfl ?_
      refine e_iload_n m_X6_loop dX6_loop_48 rfl rfl ?_
      refine e_bipush (v := nI 66) m_X6_loop dX6_loop_49 (by decide) ?_
      refine e_aload_n m_X6_loop dX6_loop_51 rfl rfl rfl ?_
      refine e_getf m_X6_loop dX6_loop_52 f_RX6_77 (gM_m G) rfl ?_
      refine e_cvN (as := [.int (nI v1), .int (nI 66), .int (nI (m_at s3))]) hN m_X6_loop dX6_loop_55 c_RX6_99 (by decide) rfl rfl (gM_m G) rfl (Nat.le_of_ble_eq_true rfl) (Nat.le_of_ble_eq_true rfl) (by omega) (w_X6_child G (by omega)) (fun v7 s7 hN => ?_)
      refine e_istore m_X6_loop dX6_loop_58 (by decide) rfl ?_
      refine e_aload_n m_X6_loop dX6_loop_60 rfl rfl rfl ?_
      refine e_dup m_X6_loop dX6_loop_61 rfl ?_
      refine e_getf m_X6_loop dX6_loop_62 f_RX6_77 (gM_m G) rfl ?_
      refine e_iconst (v := nI 1) m_X6_loop dX6_loop_65 (by decide) ?_
      refine e_iaddN m_X6_loop dX6_loop_66 ?_
      refine e_putf (v := .int (nI ((m_at s7) + 1))) (h' := TM h0 (w_at s7 ((m_at s7) + 1))) m_X6_loop dX6_loop_67 f_RX6_77 (gM_m G) (Nat.le_of_ble_eq_true rfl) (fit_i rfl) rfl (hpL_set (k := 10) (by decide) (Nat.le_of_ble_eq_true rfl)) ?_
      refine e_st hN (fun s8 hN => ?_)
      refine e_aload_n m_X6_loop dX6_loop_70 rfl rfl rfl ?_
      refine e_bipush (v := nI 38) m_X6_loop dX6_loop_71 (by decide) ?_
      refine e_iload_n m_X6_loop dX6_loop_73 rfl rfl ?_
      refine e_iconst (v := nI 0) m_X6_loop dX6_loop_74 (by decide) ?_
      refine e_cvU (as := [.int (nI 38), .int (nI v1), .int (nI 0)]) hN m_X6_loop dX6_loop_75 c_RX6_106 (by decide) rfl rfl (gM_m G) rfl (Nat.le_of_ble_eq_true rfl) (Nat.le_of_ble_eq_true rfl) (by omega) (w_X6_push G (by omega)) (fun v9 s9 hN => ?_)
      refine e_aload_n m_X6_loop dX6_loop_78 rfl rfl rfl ?_
      refine e_iload m_X6_loop dX6_loop_79 rfl ?_
      refine e_iconst (v := nI 1) m_X6_loop dX6_loop_81 (by decide) ?_
      refine e_iconst (v := nI 1) m_X6_loop dX6_loop_82 (by decide) ?_
      refine e_cvU (as := [.int (nI v7), .int (nI 1), .int (nI 1)]) hN m_X6_loop dX6_loop_83 c_RX6_117 (by decide) rfl rfl (gM_m G) rfl (Nat.le_of_ble_eq_true rfl) (Nat.le_of_ble_eq_true rfl) (by omega) (w_X6_expression G (by omega)) (fun v10 s10 hN => ?_)
      refine e_goto (t := 141) m_X6_loop dX6_loop_86 (by decide) ?_
      exact e_ret0 m_X6_loop dX6_loop_141
    · refine e_iload_n m_X6_loop dX6_loop_89 rfl rfl ?_
      refine e_bipush (v := nI 85) m_X6_loop dX6_loop_90 (by decide) ?_
      refine e_ine (t := 125) (a := v3) (b := 85) hN m_X6_loop dX6_loop_92 (by decide) (fun q11 hN => ?_) (fun q11 hN => ?_)
      · refine e_aload_n m_X6_loop dX6_loop_95 rfl rfl rfl ?_
        refine e_iload_n m_X6_loop dX6_loop_96 rfl rfl ?_
        refine e_bipush (v := nI 63) m_X6_loop dX6_loop_97 (by decide) ?_
        refine e_aload_n m_X6_loop dX6_loop_99 rfl rfl rfl ?_
        refine e_getf m_X6_loop dX6_loop_100 f_RX6_77 (gM_m G) rfl ?_
        refine e_cvN (as := [.int (nI v1), .int (nI 63), .int (nI (m_at s3))]) hN m_X6_loop dX6_loop_103 c_RX6_99 (by decide) rfl rfl (gM_m G) rfl (Nat.le_of_ble_eq_true rfl) (Nat.le_of_ble_eq_true rfl) (by omega) (w_X6_child G (by omega)) (fun v12 s12 hN => ?_)
        refine e_pop m_X6_loop dX6_loop_106 rfl ?_
        refine e_aload_n m_X6_loop dX6_loop_107 rfl rfl rfl ?_
        refine e_dup m_X6_loop dX6_loop_108 rfl ?_
        refine e_getf m_X6_loop dX6_loop_109 f_RX6_77 (gM_m G) rfl ?_
        refine e_iconst (v := nI 1) m_X6_loop dX6_loop_112 (by decide) ?_
        refine e_iaddN m_X6_loop dX6_loop_113 ?_
        refine e_putf (v := .int (nI ((m_at s12) + 1))) (h' := TM h0 (w_at s12 ((m_at s12) + 1))) m_X6_loop dX6_loop_114 f_RX6_77 (gM_m G) (Nat.le_of_ble_eq_true rfl) (fit_i rfl) rfl (hpL_set (k := 10) (by decide) (Nat.le_of_ble_eq_true rfl)) ?_
        refine e_st hN (fun s13 hN => ?_)
        refine e_aload_n m_X6_loop dX6_loop_117 rfl rfl rfl ?_
        refine e_iload_n m_X6_loop dX6_loop_118 rfl rfl ?_
        refine e_cvU (as := [.int (nI v1)]) hN m_X6_loop dX6_loop_119 c_RX6_214 (by decide) rfl rfl (gM_m G) rfl (Nat.le_of_ble_eq_true rfl) (Nat.le_of_ble_eq_true rfl) (by omega) (w_X6_condition G (by omega)) (fun v14 s14 hN => ?_)
        refine e_goto (t := 141) m_X6_loop dX6_loop_122 (by decide) ?_
        exact e_ret0 m_X6_loop dX6_loop_141
      · refine e_aload_n m_X6_loop dX6_loop_125 rfl rfl rfl ?_
        refine e_bipush (v := nI 46) m_X6_loop dX6_loop_126 (by decide) ?_
        refine e_iload_n m_X6_loop dX6_loop_128 rfl rfl ?_
        refine e_iconst (v := nI 0) m_X6_loop dX6_loop_129 (by decide) ?_
        refine e_cvU (as := [.int (nI 46), .int (nI v1), .int (nI 0)]) hN m_X6_loop dX6_loop_130 c_RX6_106 (by decide) rfl rfl (gM_m G) rfl (Nat.le_of_ble_eq_true rfl) (Nat.le_of_ble_eq_true rfl) (by omega) (w_X6_push G (by omega)) (fun v15 s15 hN => ?_)
        refine e_aload_n m_X6_loop dX6_loop_133 rfl rfl rfl ?_
        refine e_bipush (v := nI 41) m_X6_loop dX6_loop_134 (by decide) ?_
        refine e_iload_n m_X6_loop dX6_loop_136 rfl rfl ?_
        refine e_iconst (v := nI 5) m_X6_loop dX6_loop_137 (by decide) ?_
        refine e_cvU (as := [.int (nI 41), .int (nI v1), .int (nI 5)]) hN m_X6_loop dX6_loop_138 c_RX6_106 (by decide) rfl rfl (gM_m G) rfl (Nat.le_of_ble_eq_true rfl) (Nat.le_of_ble_eq_true rfl) (by omega) (w_X6_push G (by omega)) (fun v16 s16 hN => ?_)
        exact e_ret0 m_X6_loop dX6_loop_141

def b_X6_second  (x1 : Nat) (s : Mm) : Rs Mm := bn (b_X6_look  s) (fun v1 s1 => ife v1 82 (bn (b_X6_body x1 0 s1) (fun v3 s3 => okR 0 s3)) (bn (b_X6_push 50 x1 0 s1) (fun v4 s4 => bn (b_X6_push 41 x1 25 s4) (fun v5 s5 => okR 0 s5))))
theorem w_X6_second {xs : Nat → Int32} {L : Nat} {h0 : mm_H} (G : Mg h0) {x1 : Nat} {s : Mm} {d : Nat} (hd : 13 ≤ d) (hN : b_X6_second  x1 s ≠ none) : Rn xs L d 195 [.ref 10, .int (nI x1)] (TM h0 s) (ou eU (TM h0) (b_X6_second  x1 s)) := by
  unfold Rn
  unfold b_X6_second at hN ⊢
  refine e_aload_n m_X6_second dX6_second_0 rfl rfl rfl ?_
  refine e_cvN (as := []) hN m_X6_second dX6_second_1 c_RX6_83 (by decide) rfl rfl (gM_m G) rfl (Nat.le_of_ble_eq_true rfl) (Nat.le_of_ble_eq_true rfl) (by omega) (w_X6_look G (by omega)) (fun v1 s1 hN => ?_)
  refine e_bipush (v := nI 82) m_X6_second dX6_second_4 (by decide) ?_
  refine e_ine (t := 16) (a := v1) (b := 82) hN m_X6_second dX6_second_6 (by decide) (fun q2 hN => ?_) (fun q2 hN => ?_)
  · refine e_aload_n m_X6_second dX6_second_9 rfl rfl rfl ?_
    refine e_iload_n m_X6_second dX6_second_10 rfl rfl ?_
    refine e_iconst (v := nI 0) m_X6_second dX6_second_11 (by decide) ?_
    refine e_cvU (as := [.int (nI x1), .int (nI 0)]) hN m_X6_second dX6_second_12 c_RX6_192 (by decide) rfl rfl (gM_m G) rfl (Nat.le_of_ble_eq_true rfl) (Nat.le_of_ble_eq_true rfl) (by omega) (w_X6_body G (by omega)) (fun v3 s3 hN => ?_)
    exact e_ret0 m_X6_second dX6_second_15
  · refine e_aload_n m_X6_second dX6_second_16 rfl rfl rfl ?_
    refine e_bipush (v := nI 50) m_X6_second dX6_second_17 (by decide) ?_
    refine e_iload_n m_X6_second dX6_second_19 rfl rfl ?_
    refine e_iconst (v := nI 0) m_X6_second dX6_second_20 (by decide) ?_
    refine e_cvU (as := [.int (nI 50), .int (nI x1), .int (nI 0)]) hN m_X6_second dX6_second_21 c_RX6_106 (by decide) rfl rfl (gM_m G) rfl (Nat.le_of_ble_eq_true rfl) (Nat.le_of_ble_eq_true rfl) (by omega) (w_X6_push G (by omega)) (fun v4 s4 hN => ?_)
    refine e_aload_n m_X6_second dX6_second_24 rfl rfl rfl ?_
    refine e_bipush (v := nI 41) m_X6_second dX6_second_25 (by decide) ?_
    refine e_iload_n m_X6_second dX6_second_27 rfl rfl ?_
    refine e_bipush (v := nI 25) m_X6_second dX6_second_28 (by decide) ?_
    refine e_cvU (as := [.int (nI 41), .int (nI x1), .int (nI 25)]) hN m_X6_second dX6_second_30 c_RX6_106 (by decide) rfl rfl (gM_m G) rfl (Nat.le_of_ble_eq_true rfl) (Nat.le_of_ble_eq_true rfl) (by omega) (w_X6_push G (by omega)) (fun v5 s5 hN => ?_)
    exact e_ret0 m_X6_second dX6_second_33

def b_X6_leaving  (x1 : Nat) (x2 : Nat) (s : Mm) : Rs Mm := ife x2 21 (bn (b_X6_child x1 42 (m_at s) s) (fun v2 s2 => st1 (w_at s2 ((m_at s2) + 1)) (fun s3 => ife x2 21 (bn (b_X6_expression v2 0 1 s3) (fun v5 s5 => okR 0 s5)) (ife x2 16 (bn (b_X6_expression v2 0 1 s3) (fun v7 s7 => okR 0 s7)) (ife x2 29 (bn (b_X6_look  s3) (fun v9 s9 => ck (v9 < 2147483648) (ifz (f_X6_beginsExpr v9) (ife x2 10 (bn (b_X6_look  s9) (fun v13 s13 => ife v13 1 (bn (b_X6_name v2 s13) (fun v15 s15 => okR 0 s15)) (okR 0 s13))) (ife x2 14 (bn (b_X6_look  s9) (fun v17 s17 => ife v17 1 (bn (b_X6_name v2 s17) (fun v19 s19 => okR 0 s19)) (okR 0 s17))) (okR 0 s9))) (bn (b_X6_exprs v2 0 s9) (fun v20 s20 => okR 0 s20))))) (ife x2 10 (bn (b_X6_look  s3) (fun v22 s22 => ife v22 1 (bn (b_X6_name v2 s22) (fun v24 s24 => okR 0 s24)) (okR 0 s22))) (ife x2 14 (bn (b_X6_look  s3) (fun v26 s26 => ife v26 1 (bn (b_X6_name v2 s26) (fun v28 s28 => okR 0 s28)) (okR 0 s26))) (okR 0 s3)))))))) (ife x2 16 (bn (b_X6_child x1 43 (m_at s) s) (fun v30 s30 => st1 (w_at s30 ((m_at s30) + 1)) (fun s31 => ife x2 21 (bn (b_X6_expression v30 0 1 s31) (fun v33 s33 => okR 0 s33)) (ife x2 16 (bn (b_X6_expression v30 0 1 s31) (fun v35 s35 => okR 0 s35)) (ife x2 29 (bn (b_X6_look  s31) (fun v37 s37 => ck (v37 < 2147483648) (ifz (f_X6_beginsExpr v37) (ife x2 10 (bn (b_X6_look  s37) (fun v41 s41 => ife v41 1 (bn (b_X6_name v30 s41) (fun v43 s43 => okR 0 s43)) (okR 0 s41))) (ife x2 14 (bn (b_X6_look  s37) (fun v45 s45 => ife v45 1 (bn (b_X6_name v30 s45) (fun v47 s47 => okR 0 s47)) (okR 0 s45))) (okR 0 s37))) (bn (b_X6_exprs v30 0 s37) (fun v48 s48 => okR 0 s48))))) (ife x2 10 (bn (b_X6_look  s31) (fun v50 s50 => ife v50 1 (bn (b_X6_name v30 s50) (fun v52 s52 => okR 0 s52)) (okR 0 s50))) (ife x2 14 (bn (b_X6_look  s31) (fun v54 s54 => ife v54 1 (bn (b_X6_name v30 s54) (fun v56 s56 => okR 0 s56)) (okR 0 s54))) (okR 0 s31)))))))) (ife x2 29 (bn (b_X6_child x1 44 (m_at s) s) (fun v58 s58 => st1 (w_at s58 ((m_at s58) + 1)) (fun s59 => ife x2 21 (bn (b_X6_expression v58 0 1 s59) (fun v61 s61 => okR 0 s61)) (ife x2 16 (bn (b_X6_expression v58 0 1 s59) (fun v63 s63 => okR 0 s63)) (ife x2 29 (bn (b_X6_look  s59) (fun v65 s65 => ck (v65 < 2147483648) (ifz (f_X6_beginsExpr v65) (ife x2 10 (bn (b_X6_look  s65) (fun v69 s69 => ife v69 1 (bn (b_X6_name v58 s69) (fun v71 s71 => okR 0 s71)) (okR 0 s69))) (ife x2 14 (bn (b_X6_look  s65) (fun v73 s73 => ife v73 1 (bn (b_X6_name v58 s73) (fun v75 s75 => okR 0 s75)) (okR 0 s73))) (okR 0 s65))) (bn (b_X6_exprs v58 0 s65) (fun v76 s76 => okR 0 s76))))) (ife x2 10 (bn (b_X6_look  s59) (fun v78 s78 => ife v78 1 (bn (b_X6_name v58 s78) (fun v80 s80 => okR 0 s80)) (okR 0 s78))) (ife x2 14 (bn (b_X6_look  s59) (fun v82 s82 => ife v82 1 (bn (b_X6_name v58 s82) (fun v84 s84 => okR 0 s84)) (okR 0 s82))) (okR 0 s59)))))))) (ife x2 10 (bn (b_X6_child x1 45 (m_at s) s) (fun v86 s86 => st1 (w_at s86 ((m_at s86) + 1)) (fun s87 => ife x2 21 (bn (b_X6_expression v86 0 1 s87) (fun v89 s89 => okR 0 s89)) (ife x2 16 (bn (b_X6_expression v86 0 1 s87) (fun v91 s91 => okR 0 s91)) (ife x2 29 (bn (b_X6_look  s87) (fun v93 s93 => ck (v93 < 2147483648) (ifz (f_X6_beginsExpr v93) (ife x2 10 (bn (b_X6_look  s93) (fun v97 s97 => ife v97 1 (bn (b_X6_name v86 s97) (fun v99 s99 => okR 0 s99)) (okR 0 s97))) (ife x2 14 (bn (b_X6_look  s93) (fun v101 s101 => ife v101 1 (bn (b_X6_name v86 s101) (fun v103 s103 => okR 0 s103)) (okR 0 s101))) (okR 0 s93))) (bn (b_X6_exprs v86 0 s93) (fun v104 s104 => okR 0 s104))))) (ife x2 10 (bn (b_X6_look  s87) (fun v106 s106 => ife v106 1 (bn (b_X6_name v86 s106) (fun v108 s108 => okR 0 s108)) (okR 0 s106))) (ife x2 14 (bn (b_X6_look  s87) (fun v110 s110 => ife v110 1 (bn (b_X6_name v86 s110) (fun v112 s112 => okR 0 s112)) (okR 0 s110))) (okR 0 s87)))))))) (ife x2 14 (bn (b_X6_child x1 46 (m_at s) s) (fun v114 s114 => st1 (w_at s114 ((m_at s114) + 1)) (fun s115 => ife x2 21 (bn (b_X6_expression v114 0 1 s115) (fun v117 s117 => okR 0 s117)) (ife x2 16 (bn (b_X6_expression v114 0 1 s115) (fun v119 s119 => okR 0 s119)) (ife x2 29 (bn (b_X6_look  s115) (fun v121 s121 => ck (v121 < 2147483648) (ifz (f_X6_beginsExpr v121) (ife x2 10 (bn (b_X6_look  s121) (fun v125 s125 => ife v125 1 (bn (b_X6_name v114 s125) (fun v127 s127 => okR 0 s127)) (okR 0 s125))) (ife x2 14 (bn (b_X6_look  s121) (fun v129 s129 => ife v129 1 (bn (b_X6_name v114 s129) (fun v131 s131 => okR 0 s131)) (okR 0 s129))) (okR 0 s121))) (bn (b_X6_exprs v114 0 s121) (fun v132 s132 => okR 0 s132))))) (ife x2 10 (bn (b_X6_look  s115) (fun v134 s134 => ife v134 1 (bn (b_X6_name v114 s134) (fun v136 s136 => okR 0 s136)) (okR 0 s134))) (ife x2 14 (bn (b_X6_look  s115) (fun v138 s138 => ife v138 1 (bn (b_X6_name v114 s138) (fun v140 s140 => okR 0 s140)) (okR 0 s138))) (okR 0 s115)))))))) (bn (b_X6_child x1 47 (m_at s) s) (fun v141 s141 => st1 (w_at s141 ((m_at s141) + 1)) (fun s142 => ife x2 21 (bn (b_X6_expression v141 0 1 s142) (fun v144 s144 => okR 0 s144)) (ife x2 16 (bn (b_X6_expression v141 0 1 s142) (fun v146 s146 => okR 0 s146)) (ife x2 29 (bn (b_X6_look  s142) (fun v148 s148 => ck (v148 < 2147483648) (ifz (f_X6_beginsExpr v148) (ife x2 10 (bn (b_X6_look  s148) (fun v152 s152 => ife v152 1 (bn (b_X6_name v141 s152) (fun v154 s154 => okR 0 s154)) (okR 0 s152))) (ife x2 14 (bn (b_X6_look  s148) (fun v156 s156 => ife v156 1 (bn (b_X6_name v141 s156) (fun v158 s158 => okR 0 s158)) (okR 0 s156))) (okR 0 s148))) (bn (b_X6_exprs v141 0 s148) (fun v159 s159 => okR 0 s159))))) (ife x2 10 (bn (b_X6_look  s142) (fun v161 s161 => ife v161 1 (bn (b_X6_name v141 s161) (fun v163 s163 => okR 0 s163)) (okR 0 s161))) (ife x2 14 (bn (b_X6_look  s142) (fun v165 s165 => ife v165 1 (bn (b_X6_name v141 s165) (fun v167 s167 => okR 0 s167)) (okR 0 s165))) (okR 0 s142))))))))))))
theorem w_X6_leaving {xs : Nat → Int32} {L : Nat} {h0 : mm_H} (G : Mg h0) {x1 : Nat} {x2 : Nat} {s : Mm} {d : Nat} (hd : 13 ≤ d) (hN : b_X6_leaving  x1 x2 s ≠ none) : Rn xs L d 196 [.ref 10, .int (nI x1), .int (nI x2)] (TM h0 s) (ou eU (TM h0) (b_X6_leaving  x1 x2 s)) := by
  unfold Rn
  unfold b_X6_leaving at hN ⊢
  refine e_aload_n m_X6_leaving dX6_leaving_0 rfl rfl rfl ?_
  refine e_iload_n m_X6_leaving dX6_leaving_1 rfl rfl ?_
  refine e_iload_n m_X6_leaving dX6_leaving_2 rfl rfl ?_
  refine e_bipush (v := nI 21) m_X6_leaving dX6_leaving_3 (by decide) ?_
  refine e_ine (t := 13) (a := x2) (b := 21) hN m_X6_leaving dX6_leaving_5 (by decide) (fun q1 hN => ?_) (fun q1 hN => ?_)
  · refine e_bipush (v := nI 42) m_X6_leaving dX6_leaving_8 (by decide) ?_
    refine e_goto (t := 59) m_X6_leaving dX6_leaving_10 (by decide) ?_
    refine e_aload_n m_X6_leaving dX6_leaving_59 rfl rfl rfl ?_
    refine e_getf m_X6_leaving dX6_leaving_60 f_RX6_77 (gM_m G) rfl ?_
    refine e_cvN (as := [.int (nI x1), .int (nI 42), .int (nI (m_at s))]) hN m_X6_leaving dX6_leaving_63 c_RX6_99 (by decide) rfl rfl (gM_m G) rfl (Nat.le_of_ble_eq_true rfl) (Nat.le_of_ble_eq_true rfl) (by omega) (w_X6_child G (by omega)) (fun v2 s2 hN => ?_)
    refine e_istore_n m_X6_leaving dX6_leaving_66 rfl (by decide) rfl ?_
    refine e_aload_n m_X6_leaving dX6_leaving_67 rfl rfl rfl ?_
    refine e_dup m_X6_leaving dX6_leaving_68 rfl ?_
    refine e_getf m_X6_leaving dX6_leaving_69 f_RX6_77 (gM_m G) rfl ?_
    refine e_iconst (v := nI 1) m_X6_leaving dX6_leaving_72 (by decide) ?_
    refine e_iaddN m_X6_leaving dX6_leaving_73 ?_
    refine e_putf (v := .int (nI ((m_at s2) + 1))) (h' := TM h0 (w_at s2 ((m_at s2) + 1))) m_X6_leaving dX6_leaving_74 f_RX6_77 (gM_m G) (Nat.le_of_ble_eq_true rfl) (fit_i rfl) rfl (hpL_set (k := 10) (by decide) (Nat.le_of_ble_eq_true rfl)) ?_
    refine e_st hN (fun s3 hN => ?_)
    refine e_iload_n m_X6_leaving dX6_leaving_77 rfl rfl ?_
    refine e_bipush (v := nI 21) m_X6_leaving dX6_leaving_78 (by decide) ?_
    refine e_ieq (t := 89) (a := x2) (b := 21) hN m_X6_leaving dX6_leaving_80 (by decide) (fun q4 hN => ?_) (fun q4 hN => ?_)
    · refine e_aload_n m_X6_leaving dX6_leaving_89 rfl rfl rfl ?_
      refine e_iload_n m_X6_leaving dX6_leaving_90 rfl rfl ?_
      refine e_iconst (v := nI 0) m_X6_leaving dX6_leaving_91 (by decide) ?_
      refine e_iconst (v := nI 1) m_X6_leaving dX6_leaving_92 (by decide) ?_
      refine e_cvU (as := [.int (nI v2), .int (nI 0), .int (nI 1)]) hN m_X6_leaving dX6_leaving_93 c_RX6_117 (by decide) rfl rfl (gM_m G) rfl (Nat.le_of_ble_eq_true rfl) (Nat.le_of_ble_eq_true rfl) (by omega) (w_X6_expression G (by omega)) (fun v5 s5 hN => ?_)
      refine e_goto (t := 150) m_X6_leaving dX6_leaving_96 (by decide) ?_
      exact e_ret0 m_X6_leaving dX6_leaving_150
    · refine e_iload_n m_X6_leaving dX6_leaving_83 rfl rfl ?_
      refine e_bipush (v := nI 16) m_X6_leaving dX6_leaving_84 (by decide) ?_
      refine e_ine (t := 99) (a := x2) (b := 16) hN m_X6_leaving dX6_leaving_86 (by decide) (fun q6 hN => ?_) (fun q6 hN => ?_)
      · refine e_aload_n m_X6_leaving dX6_leaving_89 rfl rfl rfl ?_
        refine e_iload_n m_X6_leaving dX6_leaving_90 rfl rfl ?_
        refine e_iconst (v := nI 0) m_X6_leaving dX6_leaving_91 (by decide) ?_
        refine e_iconst (v := nI 1) m_X6_leaving dX6_leaving_92 (by decide) ?_
        refine e_cvU (as := [.int (nI v2), .int (nI 0), .int (nI 1)]) hN m_X6_leaving dX6_leaving_93 c_RX6_117 (by decide) rfl rfl (gM_m G) rfl (Nat.le_of_ble_eq_true rfl) (Nat.le_of_ble_eq_true rfl) (by omega) (w_X6_expression G (by omega)) (fun v7 s7 hN => ?_)
        refine e_goto (t := 150) m_X6_leaving dX6_leaving_96 (by decide) ?_
        exact e_ret0 m_X6_leaving dX6_leaving_150
      · refine e_iload_n m_X6_leaving dX6_leaving_99 rfl rfl ?_
        refine e_bipush (v := nI 29) m_X6_leaving dX6_leaving_100 (by decide) ?_
        refine e_ine (t := 124) (a := x2) (b := 29) hN m_X6_leaving dX6_leaving_102 (by decide) (fun q8 hN => ?_) (fun q8 hN => ?_)
        · refine e_aload_n m_X6_leaving dX6_leaving_105 rfl rfl rfl ?_
          refine e_cvN (as := []) hN m_X6_leaving dX6_leaving_106 c_RX6_83 (by decide) rfl rfl (gM_m G) rfl (Nat.le_of_ble_eq_true rfl) (Nat.le_of_ble_eq_true rfl) (by omega) (w_X6_look G (by omega)) (fun v9 s9 hN => ?_)
          refine e_ck hN (fun q10 hN => ?_)
          refine e_cs (as := [_]) m_X6_leaving dX6_leaving_109 c_RX6_171 (by decide) rfl rfl (Nat.le_of_ble_eq_true rfl) (Nat.le_of_ble_eq_true rfl) (by omega) (z_X6_beginsExpr q10 (by omega)) ?_
          refine e_ifeq (t := 124) hN m_X6_leaving dX6_leaving_112 (by decide) (fun q11 hN => ?_) (fun q11 hN => ?_)
          · refine e_iload_n m_X6_leaving dX6_leaving_124 rfl rfl ?_
            refine e_bipush (v := nI 10) m_X6_leaving dX6_leaving_125 (by decide) ?_
            refine e_ieq (t := 136) (a := x2) (b := 10) hN m_X6_leaving dX6_leaving_127 (by decide) (fun q12 hN => ?_) (fun q12 hN => ?_)
            · refine e_aload_n m_X6_leaving dX6_leaving_136 rfl rfl rfl ?_
              refine e_cvN (as := []) hN m_X6_leaving dX6_leaving_137 c_RX6_83 (by decide) rfl rfl (gM_m G) rfl (Nat.le_of_ble_eq_true rfl) (Nat.le_of_ble_eq_true rfl) (by omega) (w_X6_look G (by omega)) (fun v13 s13 hN => ?_)
              refine e_iconst (v := nI 1) m_X6_leaving dX6_leaving_140 (by decide) ?_
              refine e_ine (t := 150) (a := v13) (b := 1) hN m_X6_leaving dX6_leaving_141 (by decide) (fun q14 hN => ?_) (fun q14 hN => ?_)
              · refine e_aload_n m_X6_leaving dX6_leaving_144 rfl rfl rfl ?_
                refine e_iload_n m_X6_leaving dX6_leaving_145 rfl rfl ?_
                refine e_cvN (as := [.int (nI v2)]) hN m_X6_leaving dX6_leaving_146 c_RX6_130 (by decide) rfl rfl (gM_m G) rfl (Nat.le_of_ble_eq_true rfl) (Nat.le_of_ble_eq_true rfl) (by omega) (w_X6_name G (by omega)) (fun v15 s15 hN => ?_)
                refine e_pop m_X6_leaving dX6_leaving_149 rfl ?_
                exact e_ret0 m_X6_leaving dX6_leaving_150
              · exact e_ret0 m_X6_leaving dX6_leaving_150
            · refine e_iload_n m_X6_leaving dX6_leaving_130 rfl rfl ?_
              refine e_bipush (v := nI 14) m_X6_leaving dX6_leaving_131 (by decide) ?_
              refine e_ine (t := 150) (a := x2) (b := 14) hN m_X6_leaving dX6_leaving_133 (by decide) (fun q16 hN => ?_) (fun q16 hN => ?_)
              · refine e_aload_n m_X6_leaving dX6_leaving_136 rfl rfl rfl ?_
                refine e_cvN (as := []) hN m_X6_leaving dX6_leaving_137 c_RX6_83 (by decide) rfl rfl (gM_m G) rfl (Nat.le_of_ble_eq_true rfl) (Nat.le_of_ble_eq_true rfl) (by omega) (w_X6_look G (by omega)) (fun v17 s17 hN => ?_)
                refine e_iconst (v := nI 1) m_X6_leaving dX6_leaving_140 (by decide) ?_
                refine e_ine (t := 150) (a := v17) (b := 1) hN m_X6_leaving dX6_leaving_141 (by decide) (fun q18 hN => ?_) (fun q18 hN => ?_)
                · refine e_aload_n m_X6_leaving dX6_leaving_144 rfl rfl rfl ?_
                  refine e_iload_n m_X6_leaving dX6_leaving_145 rfl rfl ?_
                  refine e_cvN (as := [.int (nI v2)]) hN m_X6_leaving dX6_leaving_146 c_RX6_130 (by decide) rfl rfl (gM_m G) rfl (Nat.le_of_ble_eq_true rfl) (Nat.le_of_ble_eq_true rfl) (by omega) (w_X6_name G (by omega)) (fun v19 s19 hN => ?_)
                  refine e_pop m_X6_leaving dX6_leaving_149 rfl ?_
                  exact e_ret0 m_X6_leaving dX6_leaving_150
                · exact e_ret0 m_X6_leaving dX6_leaving_150
              · exact e_ret0 m_X6_leaving dX6_leaving_150
          · refine e_aload_n m_X6_leaving dX6_leaving_115 rfl rfl rfl ?_
            refine e_iload_n m_X6_leaving dX6_leaving_116 rfl rfl ?_
            refine e_iconst (v := nI 0) m_X6_leaving dX6_leaving_117 (by decide) ?_
            refine e_cvU (as := [.int (nI v2), .int (nI 0)]) hN m_X6_leaving dX6_leaving_118 c_RX6_159 (by decide) rfl rfl (gM_m G) rfl (Nat.le_of_ble_eq_true rfl) (Nat.le_of_ble_eq_true rfl) (by omega) (w_X6_exprs G (by omega)) (fun v20 s20 hN => ?_)
            refine e_goto (t := 150) m_X6_leaving dX6_leaving_121 (by decide) ?_
            exact e_ret0 m_X6_leaving dX6_leaving_150
        · refine e_iload_n m_X6_leaving dX6_leaving_124 rfl rfl ?_
          refine e_bipush (v := nI 10) m_X6_leaving dX6_leaving_125 (by decide) ?_
          refine e_ieq (t := 136) (a := x2) (b := 10) hN m_X6_leaving dX6_leaving_127 (by decide) (fun q21 hN => ?_) (fun q21 hN => ?_)
          · refine e_aload_n m_X6_leaving dX6_leaving_136 rfl rfl rfl ?_
            refine e_cvN (as := []) hN m_X6_leaving dX6_leaving_137 c_RX6_83 (by decide) rfl rfl (gM_m G) rfl (Nat.le_of_ble_eq_true rfl) (Nat.le_of_ble_eq_true rfl) (by omega) (w_X6_look G (by omega)) (fun v22 s22 hN => ?_)
            refine e_iconst (v := nI 1) m_X6_leaving dX6_leaving_140 (by decide) ?_
            refine e_ine (t := 150) (a := v22) (b := 1) hN m_X6_leaving dX6_leaving_141 (by decide) (fun q23 hN => ?_) (fun q23 hN => ?_)
            · refine e_aload_n m_X6_leaving dX6_leaving_144 rfl rfl rfl ?_
              refine e_iload_n m_X6_leaving dX6_leaving_145 rfl rfl ?_
              refine e_cvN (as := [.int (nI v2)]) hN m_X6_leaving dX6_leaving_146 c_RX6_130 (by decide) rfl rfl (gM_m G) rfl (Nat.le_of_ble_eq_true rfl) (Nat.le_of_ble_eq_true rfl) (by omega) (w_X6_name G (by omega)) (fun v24 s24 hN => ?_)
              refine e_pop m_X6_leaving dX6_leaving_149 rfl ?_
              exact e_ret0 m_X6_leaving dX6_leaving_150
            · exact e_ret0 m_X6_leaving dX6_leaving_150
          · refine e_iload_n m_X6_leaving dX6_leaving_130 rfl rfl ?_
            refine e_bipush (v := nI 14) m_X6_leaving dX6_leaving_131 (by decide) ?_
            refine e_ine (t := 150) (a := x2) (b := 14) hN m_X6_leaving dX6_leaving_133 (by decide) (fun q25 hN => ?_) (fun q25 hN => ?_)
            · refine e_aload_n m_X6_leaving dX6_leaving_136 rfl rfl rfl ?_
              refine e_cvN (as := []) hN m_X6_leaving dX6_leaving_137 c_RX6_83 (by decide) rfl rfl (gM_m G) rfl (Nat.le_of_ble_eq_true rfl) (Nat.le_of_ble_eq_true rfl) (by omega) (w_X6_look G (by omega)) (fun v26 s26 hN => ?_)
              refine e_iconst (v := nI 1) m_X6_leaving dX6_leaving_140 (by decide) ?_
              refine e_ine (t := 150) (a := v26) (b := 1) hN m_X6_leaving dX6_leaving_141 (by decide) (fun q27 hN => ?_) (fun q27 hN => ?_)
              · refine e_aload_n m_X6_leaving dX6_leaving_144 rfl rfl rfl ?_
                refine e_iload_n m_X6_leaving dX6_leaving_145 rfl rfl ?_
                refine e_cvN (as := [.int (nI v2)]) hN m_X6_leaving dX6_leaving_146 c_RX6_130 (by decide) rfl rfl (gM_m G) rfl (Nat.le_of_ble_eq_true rfl) (Nat.le_of_ble_eq_true rfl) (by omega) (w_X6_name G (by omega)) (fun v28 s28 hN => ?_)
                refine e_pop m_X6_leaving dX6_leaving_149 rfl ?_
                exact e_ret0 m_X6_leaving dX6_leaving_150
              · exact e_ret0 m_X6_leaving dX6_leaving_150
            · exact e_ret0 m_X6_leaving dX6_leaving_150
  · refine e_iload_n m_X6_leaving dX6_leaving_13 rfl rfl ?_
    refine e_bipush (v := nI 16) m_X6_leaving dX6_leaving_14 (by decide) ?_
    refine e_ine (t := 24) (a := x2) (b := 16) hN m_X6_leaving dX6_leaving_16 (by decide) (fun q29 hN => ?_) (fun q29 hN => ?_)
    · refine e_bipush (v := nI 43) m_X6_leaving dX6_leaving_19 (by decide) ?_
      refine e_goto (t := 59) m_X6_leaving dX6_leaving_21 (by decide) ?_
      refine e_aload_n m_X6_leaving dX6_leaving_59 rfl rfl rfl ?_
      refine e_getf m_X6_leaving dX6_leaving_60 f_RX6_77 (gM_m G) rfl ?_
      refine e_cvN (as := [.int (nI x1), .int (nI 43), .int (nI (m_at s))]) hN m_X6_leaving dX6_leaving_63 c_RX6_99 (by decide) rfl rfl (gM_m G) rfl (Nat.le_of_ble_eq_true rfl) (Nat.le_of_ble_eq_true rfl) (by omega) (w_X6_child G (by omega)) (fun v30 s30 hN => ?_)
      refine e_istore_n m_X6_leaving dX6_leaving_66 rfl (by decide) rfl ?_
      refine e_aload_n m_X6_leaving dX6_leaving_67 rfl rfl rfl ?_
      refine e_dup m_X6_leaving dX6_leaving_68 rfl ?_
      refine e_getf m_X6_leaving dX6_leaving_69 f_RX6_77 (gM_m G) rfl ?_
      refine e_iconst (v := nI 1) m_X6_leaving dX6_leaving_72 (by decide) ?_
      refine e_iaddN m_X6_leaving dX6_leaving_73 ?_
      refine e_putf (v := .int (nI ((m_at s30) + 1))) (h' := TM h0 (w_at s30 ((m_at s30) + 1))) m_X6_leaving dX6_leaving_74 f_RX6_77 (gM_m G) (Nat.le_of_ble_eq_true rfl) (fit_i rfl) rfl (hpL_set (k := 10) (by decide) (Nat.le_of_ble_eq_true rfl)) ?_
      refine e_st hN (fun s31 hN => ?_)
      refine e_iload_n m_X6_leaving dX6_leaving_77 rfl rfl ?_
      refine e_bipush (v := nI 21) m_X6_leaving dX6_leaving_78 (by decide) ?_
      refine e_ieq (t := 89) (a := x2) (b := 21) hN m_X6_leaving dX6_leaving_80 (by decide) (fun q32 hN => ?_) (fun q32 hN => ?_)
      · refine e_aload_n m_X6_leaving dX6_leaving_89 rfl rfl rfl ?_
        refine e_iload_n m_X6_leaving dX6_leaving_90 rfl rfl ?_
        refine e_iconst (v := nI 0) m_X6_leaving dX6_leaving_91 (by decide) ?_
        refine e_iconst (v := nI 1) m_X6_leaving dX6_leaving_92 (by decide) ?_
        refine e_cvU (as := [.int (nI v30), .int (nI 0), .int (nI 1)]) hN m_X6_leaving dX6_leaving_93 c_RX6_117 (by decide) rfl rfl (gM_m G) rfl (Nat.le_of_ble_eq_true rfl) (Nat.le_of_ble_eq_true rfl) (by omega) (w_X6_expression G (by omega)) (fun v33 s33 hN => ?_)
        refine e_goto (t := 150) m_X6_leaving dX6_leaving_96 (by decide) ?_
        exact e_ret0 m_X6_leaving dX6_leaving_150
      · refine e_iload_n m_X6_leaving dX6_leaving_83 rfl rfl ?_
        refine e_bipush (v := nI 16) m_X6_leaving dX6_leaving_84 (by decide) ?_
        refine e_ine (t := 99) (a := x2) (b := 16) hN m_X6_leaving dX6_leaving_86 (by decide) (fun q34 hN => ?_) (fun q34 hN => ?_)
        · refine e_aload_n m_X6_leaving dX6_leaving_89 rfl rfl rfl ?_
          refine e_iload_n m_X6_leaving dX6_leaving_90 rfl rfl ?_
          refine e_iconst (v := nI 0) m_X6_leaving dX6_leaving_91 (by decide) ?_
          refine e_iconst (v := nI 1) m_X6_leaving dX6_leaving_92 (by decide) ?_
          refine e_cvU (as := [.int (nI v30), .int (nI 0), .int (nI 1)]) hN m_X6_leaving dX6_leaving_93 c_RX6_117 (by decide) rfl rfl (gM_m G) rfl (Nat.le_of_ble_eq_true rfl) (Nat.le_of_ble_eq_true rfl) (by omega) (w_X6_expression G (by omega)) (fun v35 s35 hN => ?_)
          refine e_goto (t := 150) m_X6_leaving dX6_leaving_96 (by decide) ?_
          exact e_ret0 m_X6_leaving dX6_leaving_150
        · refine e_iload_n m_X6_leaving dX6_leaving_99 rfl rfl ?_
          refine e_bipush (v := nI 29) m_X6_leaving dX6_leaving_100 (by decide) ?_
          refine e_ine (t := 124) (a := x2) (b := 29) hN m_X6_leaving dX6_leaving_102 (by decide) (fun q36 hN => ?_) (fun q36 hN => ?_)
          · refine e_aload_n m_X6_leaving dX6_leaving_105 rfl rfl rfl ?_
            refine e_cvN (as := []) hN m_X6_leaving dX6_leaving_106 c_RX6_83 (by decide) rfl rfl (gM_m G) rfl (Nat.le_of_ble_eq_true rfl) (Nat.le_of_ble_eq_true rfl) (by omega) (w_X6_look G (by omega)) (fun v37 s37 hN => ?_)
            refine e_ck hN (fun q38 hN => ?_)
            refine e_cs (as := [_]) m_X6_leaving dX6_leaving_109 c_RX6_171 (by decide) rfl rfl (Nat.le_of_ble_eq_true rfl) (Nat.le_of_ble_eq_true rfl) (by omega) (z_X6_beginsExpr q38 (by omega)) ?_
            refine e_ifeq (t := 124) hN m_X6_leaving dX6_leaving_112 (by decide) (fun q39 hN => ?_) (fun q39 hN => ?_)
            · refine e_iload_n m_X6_leaving dX6_leaving_124 rfl rfl ?_
              refine e_bipush (v := nI 10) m_X6_leaving dX6_leaving_125 (by decide) ?_
              refine e_ieq (t := 136) (a := x2) (b := 10) hN m_X6_leaving dX6_leaving_127 (by decide) (fun q40 hN => ?_) (fun q40 hN => ?_)
              · refine e_aload_n m_X6_leaving dX6_leaving_136 rfl rfl rfl ?_
                refine e_cvN (as := []) hN m_X6_leaving dX6_leaving_137 c_RX6_83 (by decide) rfl rfl (gM_m G) rfl (Nat.le_of_ble_eq_true rfl) (Nat.le_of_ble_eq_true rfl) (by omega) (w_X6_look G (by omega)) (fun v41 s41 hN => ?_)
                refine e_iconst (v := nI 1) m_X6_leaving dX6_leaving_140 (by decide) ?_
                refine e_ine (t := 150) (a := v41) (b := 1) hN m_X6_leaving dX6_leaving_141 (by decide) (fun q42 hN => ?_) (fun q42 hN => ?_)
                · refine e_aload_n m_X6_leaving dX6_leaving_144 rfl rfl rfl ?_
                  refine e_iload_n m_X6_leaving dX6_leaving_145 rfl rfl ?_
                  refine e_cvN (as := [.int (nI v30)]) hN m_X6_leaving dX6_leaving_146 c_RX6_130 (by decide) rfl rfl (gM_m G) rfl (Nat.le_of_ble_eq_true rfl) (Nat.le_of_ble_eq_true rfl) (by omega) (w_X6_name G (by omega)) (fun v43 s43 hN => ?_)
                  refine e_pop m_X6_leaving dX6_leaving_149 rfl ?_
                  exact e_ret0 m_X6_leaving dX6_leaving_150
                · exact e_ret0 m_X6_leaving dX6_leaving_150
              · refine e_iload_n m_X6_leaving dX6_leaving_130 rfl rfl ?_
                refine e_bipush (v := nI 14) m_X6_leaving dX6_leaving_131 (by decide) ?_
                refine e_ine (t := 150) (a := x2) (b := 14) hN m_X6_leaving dX6_leaving_133 (by decide) (fun q44 hN => ?_) (fun q44 hN => ?_)
                · refine e_aload_n m_X6_leaving dX6_leaving_136 rfl rfl rfl ?_
                  refine e_cvN (as := []) hN m_X6_leaving dX6_leaving_137 c_RX6_83 (by decide) rfl rfl (gM_m G) rfl (Nat.le_of_ble_eq_true rfl) (Nat.le_of_ble_eq_true rfl) (by omega) (w_X6_look G (by omega)) (fun v45 s45 hN => ?_)
                  refine e_iconst (v := nI 1) m_X6_leaving dX6_leaving_140 (by decide) ?_
                  refine e_ine (t := 150) (a := v45) (b := 1) hN m_X6_leaving dX6_leaving_141 (by decide) (fun q46 hN => ?_) (fun q46 hN => ?_)
                  · refine e_aload_n m_X6_leaving dX6_leaving_144 rfl rfl rfl ?_
                    refine e_iload_n m_X6_leaving dX6_leaving_145 rfl rfl ?_
                    refine e_cvN (as := [.int (nI v30)]) hN m_X6_leaving dX6_leaving_146 c_RX6_130 (by decide) rfl rfl (gM_m G) rfl (Nat.le_of_ble_eq_true rfl) (Nat.le_of_ble_eq_true rfl) (by omega) (w_X6_name G (by omega)) (fun v47 s47 hN => ?_)
                    refine e_pop m_X6_leaving dX6_leaving_149 rfl ?_
                    exact e_ret0 m_X6_leaving dX6_leaving_150
                  · exact e_ret0 m_X6_leaving dX6_leaving_150
                · exact e_ret0 m_X6_leaving dX6_leaving_150
            · refine e_aload_n m_X6_leaving dX6_leaving_115 rfl rfl rfl ?_
              refine e_iload_n m_X6_leaving dX6_leaving_116 rfl rfl ?_
              refine e_iconst (v := nI 0) m_X6_leaving dX6_leaving_117 (by decide) ?_
              refine e_cvU (as := [.int (nI v30), .int (nI 0)]) hN m_X6_leaving dX6_leaving_118 c_RX6_159 (by decide) rfl rfl (gM_m G) rfl (Nat.le_of_ble_eq_true rfl) (Nat.le_of_ble_eq_true rfl) (by omega) (w_X6_exprs G (by omega)) (fun v48 s48 hN => ?_)
              refine e_goto (t := 150) m_X6_leaving dX6_leaving_121 (by decide) ?_
              exact e_ret0 m_X6_leaving dX6_leaving_150
          · refine e_iload_n m_X6_leaving dX6_leaving_124 rfl rfl ?_
            refine e_bipush (v := nI 10) m_X6_leaving dX6_leaving_125 (by decide) ?_
            refine e_ieq (t := 136) (a := x2) (b := 10) hN m_X6_leaving dX6_leaving_127 (by decide) (fun q49 hN => ?_) (fun q49 hN => ?_)
            · refine e_aload_n m_X6_leaving dX6_leaving_136 rfl rfl rfl ?_
              refine e_cvN (as := []) hN m_X6_leaving dX6_leaving_137 c_RX6_83 (by decide) rfl rfl (gM_m G) rfl (Nat.le_of_ble_eq_true rfl) (Nat.le_of_ble_eq_true rfl) (by omega) (w_X6_look G (by omega)) (fun v50 s50 hN => ?_)
              refine e_iconst (v := nI 1) m_X6_leaving dX6_leaving_140 (by decide) ?_
              refine e_ine (t := 150) (a := v50) (b := 1) hN m_X6_leaving dX6_leaving_141 (by decide) (fun q51 hN => ?_) (fun q51 hN => ?_)
              · refine e_aload_n m_X6_leaving dX6_leaving_144 rfl rfl rfl ?_
                refine e_iload_n m_X6_leaving dX6_leaving_145 rfl rfl ?_
                refine e_cvN (as := [.int (nI v30)]) hN m_X6_leaving dX6_leaving_146 c_RX6_130 (by decide) rfl rfl (gM_m G) rfl (Nat.le_of_ble_eq_true rfl) (Nat.le_of_ble_eq_true rfl) (by omega) (w_X6_name G (by omega)) (fun v52 s52 hN => ?_)
                refine e_pop m_X6_leaving dX6_leaving_149 rfl ?_
                exact e_ret0 m_X6_leaving dX6_leaving_150
              · exact e_ret0 m_X6_leaving dX6_leaving_150
            · refine e_iload_n m_X6_leaving dX6_leaving_130 rfl rfl ?_
              refine e_bipush (v := nI 14) m_X6_leaving dX6_leaving_131 (by decide) ?_
              refine e_ine (t := 150) (a := x2) (b := 14) hN m_X6_leaving dX6_leaving_133 (by decide) (fun q53 hN => ?_) (fun q53 hN => ?_)
              · refine e_aload_n m_X6_leaving dX6_leaving_136 rfl rfl rfl ?_
                refine e_cvN (as := []) hN m_X6_leaving dX6_leaving_137 c_RX6_83 (by decide) rfl rfl (gM_m G) rfl (Nat.le_of_ble_eq_true rfl) (Nat.le_of_ble_eq_true rfl) (by omega) (w_X6_look G (by omega)) (fun v54 s54 hN => ?_)
                refine e_iconst (v := nI 1) m_X6_leaving dX6_leaving_140 (by decide) ?_
                refine e_ine (t := 150) (a := v54) (b := 1) hN m_X6_leaving dX6_leaving_141 (by decide) (fun q55 hN => ?_) (fun q55 hN => ?_)
                · refine e_aload_n m_X6_leaving dX6_leaving_144 rfl rfl rfl ?_
                  refine e_iload_n m_X6_leaving dX6_leaving_145 rfl rfl ?_
                  refine e_cvN (as := [.int (nI v30)]) hN m_X6_leaving dX6_leaving_146 c_RX6_130 (by decide) rfl rfl (gM_m G) rfl (Nat.le_of_ble_eq_true rfl) (Nat.le_of_ble_eq_true rfl) (by omega) (w_X6_name G (by omega)) (fun v56 s56 hN => ?_)
                  refine e_pop m_X6_leaving dX6_leaving_149 rfl ?_
                  exact e_ret0 m_X6_leaving dX6_leaving_150
                · exact e_ret0 m_X6_leaving dX6_leaving_150
              · exact e_ret0 m_X6_leaving dX6_leaving_150
    · refine e_iload_n m_X6_leaving dX6_leaving_24 rfl rfl ?_
      refine e_bipush (v := nI 29) m_X6_leaving dX6_leaving_25 (by decide) ?_
      refine e_ine (t := 35) (a := x2) (b := 29) hN m_X6_leaving dX6_leaving_27 (by decide) (fun q57 hN => ?_) (fun q57 hN => ?_)
      · refine e_bipush (v := nI 44) m_X6_leaving dX6_leaving_30 (by decide) ?_
        refine e_goto (t := 59) m_X6_leaving dX6_leaving_32 (by decide) ?_
        refine e_aload_n m_X6_leaving dX6_leaving_59 rfl rfl rfl ?_
        refine e_getf m_X6_leaving dX6_leaving_60 f_RX6_77 (gM_m G) rfl ?_
        refine e_cvN (as := [.int (nI x1), .int (nI 44), .int (nI (m_at s))]) hN m_X6_leaving dX6_leaving_63 c_RX6_99 (by decide) rfl rfl (gM_m G) rfl (Nat.le_of_ble_eq_true rfl) (Nat.le_of_ble_eq_true rfl) (by omega) (w_X6_child G (by omega)) (fun v58 s58 hN => ?_)
        refine e_istore_n m_X6_leaving dX6_leaving_66 rfl (by decide) rfl ?_
        refine e_aload_n m_X6_leaving dX6_leaving_67 rfl rfl rfl ?_
        refine e_dup m_X6_leaving dX6_leaving_68 rfl ?_
        refine e_getf m_X6_leaving dX6_leaving_69 f_RX6_77 (gM_m G) rfl ?_
        refine e_iconst (v := nI 1) m_X6_leaving dX6_leaving_72 (by decide) ?_
        refine e_iaddN m_X6_leaving dX6_leaving_73 ?_
        refine e_putf (v := .int (nI ((m_at s58) + 1))) (h' := TM h0 (w_at s58 ((m_at s58) + 1))) m_X6_leaving dX6_leaving_74 f_RX6_77 (gM_m G) (Nat.le_of_ble_eq_true rfl) (fit_i rfl) rfl (hpL_set (k := 10) (by decide) (Nat.le_of_ble_eq_true rfl)) ?_
        refine e_st hN (fun s59 hN => ?_)
        refine e_iload_n m_X6_leaving dX6_leaving_77 rfl rfl ?_
        refine e_bipush (v := nI 21) m_X6_leaving dX6_leaving_78 (by decide) ?_
        refine e_ieq (t := 89) (a := x2) (b := 21) hN m_X6_leaving dX6_leaving_80 (by decide) (fun q60 hN => ?_) (fun q60 hN => ?_)
        · refine e_aload_n m_X6_leaving dX6_leaving_89 rfl rfl rfl ?_
          refine e_iload_n m_X6_leaving dX6_leaving_90 rfl rfl ?_
          refine e_iconst (v := nI 0) m_X6_leaving dX6_leaving_91 (by decide) ?_
          refine e_iconst (v := nI 1) m_X6_leaving dX6_leaving_92 (by decide) ?_
          refine e_cvU (as := [.int (nI v58), .int (nI 0), .int (nI 1)]) hN m_X6_leaving dX6_leaving_93 c_RX6_117 (by decide) rfl rfl (gM_m G) rfl (Nat.le_of_ble_eq_true rfl) (Nat.le_of_ble_eq_true rfl) (by omega) (w_X6_expression G (by omega)) (fun v61 s61 hN => ?_)
          refine e_goto (t := 150) m_X6_leaving dX6_leaving_96 (by decide) ?_
          exact e_ret0 m_X6_leaving dX6_leaving_150
        · refine e_iload_n m_X6_leaving dX6_leaving_83 rfl rfl ?_
          refine e_bipush (v := nI 16) m_X6_leaving dX6_leaving_84 (by decide) ?_
          refine e_ine (t := 99) (a := x2) (b := 16) hN m_X6_leaving dX6_leaving_86 (by decide) (fun q62 hN => ?_) (fun q62 hN => ?_)
          · refine e_aload_n m_X6_leaving dX6_leaving_89 rfl rfl rfl ?_
            refine e_iload_n m_X6_leaving dX6_leaving_90 rfl rfl ?_
            refine e_iconst (v := nI 0) m_X6_leaving dX6_leaving_91 (by decide) ?_
            refine e_iconst (v := nI 1) m_X6_leaving dX6_leaving_92 (by decide) ?_
            refine e_cvU (as := [.int (nI v58), .int (nI 0), .int (nI 1)]) hN m_X6_leaving dX6_leaving_93 c_RX6_117 (by decide) rfl rfl (gM_m G) rfl (Nat.le_of_ble_eq_true rfl) (Nat.le_of_ble_eq_true rfl) (by omega) (w_X6_expression G (by omega)) (fun v63 s63 hN => ?_)
            refine e_goto (t := 150) m_X6_leaving dX6_leaving_96 (by decide) ?_
            exact e_ret0 m_X6_leaving dX6_leaving_150
          · refine e_iload_n m_X6_leaving dX6_leaving_99 rfl rfl ?_
            refine e_bipush (v := nI 29) m_X6_leaving dX6_leaving_100 (by decide) ?_
            refine e_ine (t := 124) (a := x2) (b := 29) hN m_X6_leaving dX6_leaving_102 (by decide) (fun q64 hN => ?_) (fun q64 hN => ?_)
            · refine e_aload_n m_X6_leaving dX6_leaving_105 rfl rfl rfl ?_
              refine e_cvN (as := []) hN m_X6_leaving dX6_leaving_106 c_RX6_83 (by decide) rfl rfl (gM_m G) rfl (Nat.le_of_ble_eq_true rfl) (Nat.le_of_ble_eq_true rfl) (by omega) (w_X6_look G (by omega)) (fun v65 s65 hN => ?_)
              refine e_ck hN (fun q66 hN => ?_)
              refine e_cs (as := [_]) m_X6_leaving dX6_leaving_109 c_RX6_171 (by decide) rfl rfl (Nat.le_of_ble_eq_true rfl) (Nat.le_of_ble_eq_true rfl) (by omega) (z_X6_beginsExpr q66 (by omega)) ?_
              refine e_ifeq (t := 124) hN m_X6_leaving dX6_leaving_112 (by decide) (fun q67 hN => ?_) (fun q67 hN => ?_)
              · refine e_iload_n m_X6_leaving dX6_leaving_124 rfl rfl ?_
                refine e_bipush (v := nI 10) m_X6_leaving dX6_leaving_125 (by decide) ?_
                refine e_ieq (t := 136) (a := x2) (b := 10) hN m_X6_leaving dX6_leaving_127 (by decide) (fun q68 hN => ?_) (fun q68 hN => ?_)
                · refine e_aload_n m_X6_leaving dX6_leaving_136 rfl rfl rfl ?_
                  refine e_cvN (as := []) hN m_X6_leaving dX6_leaving_137 c_RX6_83 (by decide) rfl rfl (gM_m G) rfl (Nat.le_of_ble_eq_true rfl) (Nat.le_of_ble_eq_true rfl) (by omega) (w_X6_look G (by omega)) (fun v69 s69 hN => ?_)
                  refine e_iconst (v := nI 1) m_X6_leaving dX6_leaving_140 (by decide) ?_
                  refine e_ine (t := 150) (a := v69) (b := 1) hN m_X6_leaving dX6_leaving_141 (by decide) (fun q70 hN => ?_) (fun q70 hN => ?_)
                  · refine e_aload_n m_X6_leaving dX6_leaving_144 rfl rfl rfl ?_
                    refine e_iload_n m_X6_leaving dX6_leaving_145 rfl rfl ?_
                    refine e_cvN (as := [.int (nI v58)]) hN m_X6_leaving dX6_leaving_146 c_RX6_130 (by decide) rfl rfl (gM_m G) rfl (Nat.le_of_ble_eq_true rfl) (Nat.le_of_ble_eq_true rfl) (by omega) (w_X6_name G (by omega)) (fun v71 s71 hN => ?_)
                    refine e_pop m_X6_leaving dX6_leaving_149 rfl ?_
                    exact e_ret0 m_X6_leaving dX6_leaving_150
                  · exact e_ret0 m_X6_leaving dX6_leaving_150
                · refine e_iload_n m_X6_leaving dX6_leaving_130 rfl rfl ?_
                  refine e_bipush (v := nI 14) m_X6_leaving dX6_leaving_131 (by decide) ?_
                  refine e_ine (t := 150) (a := x2) (b := 14) hN m_X6_leaving dX6_leaving_133 (by decide) (fun q72 hN => ?_) (fun q72 hN => ?_)
                  · refine e_aload_n m_X6_leaving dX6_leaving_136 rfl rfl rfl ?_
                    refine e_cvN (as := []) hN m_X6_leaving dX6_leaving_137 c_RX6_83 (by decide) rfl rfl (gM_m G) rfl (Nat.le_of_ble_eq_true rfl) (Nat.le_of_ble_eq_true rfl) (by omega) (w_X6_look G (by omega)) (fun v73 s73 hN => ?_)
                    refine e_iconst (v := nI 1) m_X6_leaving dX6_leaving_140 (by decide) ?_
                    refine e_ine (t := 150) (a := v73) (b := 1) hN m_X6_leaving dX6_leaving_141 (by decide) (fun q74 hN => ?_) (fun q74 hN => ?_)
                    · refine e_aload_n m_X6_leaving dX6_leaving_144 rfl rfl rfl ?_
                      refine e_iload_n m_X6_leaving dX6_leaving_145 rfl rfl ?_
                      refine e_cvN (as := [.int (nI v58)]) hN m_X6_leaving dX6_leaving_146 c_RX6_130 (by decide) rfl rfl (gM_m G) rfl (Nat.le_of_ble_eq_true rfl) (Nat.le_of_ble_eq_true rfl) (by omega) (w_X6_name G (by omega)) (fun v75 s75 hN => ?_)
                      refine e_pop m_X6_leaving dX6_leaving_149 rfl ?_
                      exact e_ret0 m_X6_leaving dX6_leaving_150
                    · exact e_ret0 m_X6_leaving dX6_leaving_150
                  · exact e_ret0 m_X6_leaving dX6_leaving_150
              · refine e_aload_n m_X6_leaving dX6_leaving_115 rfl rfl rfl ?_
                refine e_iload_n m_X6_leaving dX6_leaving_116 rfl rfl ?_
                refine e_iconst (v := nI 0) m_X6_leaving dX6_leaving_117 (by decide) ?_
                refine e_cvU (as := [.int (nI v58), .int (nI 0)]) hN m_X6_leaving dX6_leaving_118 c_RX6_159 (by decide) rfl rfl (gM_m G) rfl (Nat.le_of_ble_eq_true rfl) (Nat.le_of_ble_eq_true rfl) (by omega) (w_X6_exprs G (by omega)) (fun v76 s76 hN => ?_)
                refine e_goto (t := 150) m_X6_leaving dX6_leaving_121 (by decide) ?_
                exact e_ret0 m_X6_leaving dX6_leaving_150
            · refine e_iload_n m_X6_leaving dX6_leaving_124 rfl rfl ?_
              refine e_bipush (v := nI 10) m_X6_leaving dX6_leaving_125 (by decide) ?_
              refine e_ieq (t := 136) (a := x2) (b := 10) hN m_X6_leaving dX6_leaving_127 (by decide) (fun q77 hN => ?_) (fun q77 hN => ?_)
              · refine e_aload_n m_X6_leaving dX6_leaving_136 rfl rfl rfl ?_
                refine e_cvN (as := []) hN m_X6_leaving dX6_leaving_137 c_RX6_83 (by decide) rfl rfl (gM_m G) rfl (Nat.le_of_ble_eq_true rfl) (Nat.le_of_ble_eq_true rfl) (by omega) (w_X6_look G (by omega)) (fun v78 s78 hN => ?_)
                refine e_iconst (v := nI 1) m_X6_leaving dX6_leaving_140 (by decide) ?_
                refine e_ine (t := 150) (a := v78) (b := 1) hN m_X6_leaving dX6_leaving_141 (by decide) (fun q79 hN => ?_) (fun q79 hN => ?_)
                · refine e_aload_n m_X6_leaving dX6_leaving_144 rfl rfl rfl ?_
                  refine e_iload_n m_X6_leaving dX6_leaving_145 rfl rfl ?_
                  refine e_cvN (as := [.int (nI v58)]) hN m_X6_leaving dX6_leaving_146 c_RX6_130 (by decide) rfl rfl (gM_m G) rfl (Nat.le_of_ble_eq_true rfl) (Nat.le_of_ble_eq_true rfl) (by omega) (w_X6_name G (by omega)) (fun v80 s80 hN => ?_)
                  refine e_pop m_X6_leaving dX6_leaving_149 rfl ?_
                  exact e_ret0 m_X6_leaving dX6_leaving_150
                · exact e_ret0 m_X6_leaving dX6_leaving_150
              · refine e_iload_n m_X6_leaving dX6_leaving_130 rfl rfl ?_
                refine e_bipush (v := nI 14) m_X6_leaving dX6_leaving_131 (by decide) ?_
                refine e_ine (t := 150) (a := x2) (b := 14) hN m_X6_leaving dX6_leaving_133 (by decide) (fun q81 hN => ?_) (fun q81 hN => ?_)
                · refine e_aload_n m_X6_leaving dX6_leaving_136 rfl rfl rfl ?_
                  refine e_cvN (as := []) hN m_X6_leaving dX6_leaving_137 c_RX6_83 (by decide) rfl rfl (gM_m G) rfl (Nat.le_of_ble_eq_true rfl) (Nat.le_of_ble_eq_true rfl) (by omega) (w_X6_look G (by omega)) (fun v82 s82 hN => ?_)
                  refine e_iconst (v := nI 1) m_X6_leaving dX6_leaving_140 (by decide) ?_
                  refine e_ine (t := 150) (a := v82) (b := 1) hN m_X6_leaving dX6_leaving_141 (by decide) (fun q83 hN => ?_) (fun q83 hN => ?_)
                  · refine e_aload_n m_X6_leaving dX6_leaving_144 rfl rfl rfl ?_
                    refine e_iload_n m_X6_leaving dX6_leaving_145 rfl rfl ?_
                    refine e_cvN (as := [.int (nI v58)]) hN m_X6_leaving dX6_leaving_146 c_RX6_130 (by decide) rfl rfl (gM_m G) rfl (Nat.le_of_ble_eq_true rfl) (Nat.le_of_ble_eq_true rfl) (by omega) (w_X6_name G (by omega)) (fun v84 s84 hN => ?_)
                    refine e_pop m_X6_leaving dX6_leaving_149 rfl ?_
                    exact e_ret0 m_X6_leaving dX6_leaving_150
                  · exact e_ret0 m_X6_leaving dX6_leaving_150
                · exact e_ret0 m_X6_leaving dX6_leaving_150
      · refine e_iload_n m_X6_leaving dX6_leaving_35 rfl rfl ?_
        refine e_bipush (v := nI 10) m_X6_leaving dX6_leaving_36 (by decide) ?_
        refine e_ine (t := 46) (a := x2) (b := 10) hN m_X6_leaving dX6_leaving_38 (by decide) (fun q85 hN => ?_) (fun q85 hN => ?_)
        · refine e_bipush (v := nI 45) m_X6_leaving dX6_leaving_41 (by decide) ?_
          refine e_goto (t := 59) m_X6_leaving dX6_leaving_43 (by decide) ?_
          refine e_aload_n m_X6_leaving dX6_leaving_59 rfl rfl rfl ?_
          refine e_getf m_X6_leaving dX6_leaving_60 f_RX6_77 (gM_m G) rfl ?_
          refine e_cvN (as := [.int (nI x1), .int (nI 45), .int (nI (m_at s))]) hN m_X6_leaving dX6_leaving_63 c_RX6_99 (by decide) rfl rfl (gM_m G) rfl (Nat.le_of_ble_eq_true rfl) (Nat.le_of_ble_eq_true rfl) (by omega) (w_X6_child G (by omega)) (fun v86 s86 hN => ?_)
          refine e_istore_n m_X6_leaving dX6_leaving_66 rfl (by decide) rfl ?_
          refine e_aload_n m_X6_leaving dX6_leaving_67 rfl rfl rfl ?_
          refine e_dup m_X6_leaving dX6_leaving_68 rfl ?_
          refine e_getf m_X6_leaving dX6_leaving_69 f_RX6_77 (gM_m G) rfl ?_
          refine e_iconst (v := nI 1) m_X6_leaving dX6_leaving_72 (by decide) ?_
          refine e_iaddN m_X6_leaving dX6_leaving_73 ?_
          refine e_putf (v := .int (nI ((m_at s86) + 1))) (h' := TM h0 (w_at s86 ((m_at s86) + 1))) m_X6_leaving dX6_leaving_74 f_RX6_77 (gM_m G) (Nat.le_of_ble_eq_true rfl) (fit_i rfl) rfl (hpL_set (k := 10) (by decide) (Nat.le_of_ble_eq_true rfl)) ?_
          refine e_st hN (fun s87 hN => ?_)
          refine e_iload_n m_X6_leaving dX6_leaving_77 rfl rfl ?_
          refine e_bipush (v := nI 21) m_X6_leaving dX6_leaving_78 (by decide) ?_
          refine e_ieq (t := 89) (a := x2) (b := 21) hN m_X6_leaving dX6_leaving_80 (by decide) (fun q88 hN => ?_) (fun q88 hN => ?_)
          · refine e_aload_n m_X6_leaving dX6_leaving_89 rfl rfl rfl ?_
            refine e_iload_n m_X6_leaving dX6_leaving_90 rfl rfl ?_
            refine e_iconst (v := nI 0) m_X6_leaving dX6_leaving_91 (by decide) ?_
            refine e_iconst (v := nI 1) m_X6_leaving dX6_leaving_92 (by decide) ?_
            refine e_cvU (as := [.int (nI v86), .int (nI 0), .int (nI 1)]) hN m_X6_leaving dX6_leaving_93 c_RX6_117 (by decide) rfl rfl (gM_m G) rfl (Nat.le_of_ble_eq_true rfl) (Nat.le_of_ble_eq_true rfl) (by omega) (w_X6_expression G (by omega)) (fun v89 s89 hN => ?_)
            refine e_goto (t := 150) m_X6_leaving dX6_leaving_96 (by decide) ?_
            exact e_ret0 m_X6_leaving dX6_leaving_150
          · refine e_iload_n m_X6_leaving dX6_leaving_83 rfl rfl ?_
            refine e_bipush (v := nI 16) m_X6_leaving dX6_leaving_84 (by decide) ?_
            refine e_ine (t := 99) (a := x2) (b := 16) hN m_X6_leaving dX6_leaving_86 (by decide) (fun q90 hN => ?_) (fun q90 hN => ?_)
            · refine e_aload_n m_X6_leaving dX6_leaving_89 rfl rfl rfl ?_
              refine e_iload_n m_X6_leaving dX6_leaving_90 rfl rfl ?_
              refine e_iconst (v := nI 0) m_X6_leaving dX6_leaving_91 (by decide) ?_
              refine e_iconst (v := nI 1) m_X6_leaving dX6_leaving_92 (by decide) ?_
              refine e_cvU (as := [.int (nI v86), .int (nI 0), .int (nI 1)]) hN m_X6_leaving dX6_leaving_93 c_RX6_117 (by decide) rfl rfl (gM_m G) rfl (Nat.le_of_ble_eq_true rfl) (Nat.le_of_ble_eq_true rfl) (by omega) (w_X6_expression G (by omega)) (fun v91 s91 hN => ?_)
              refine e_goto (t := 150) m_X6_leaving dX6_leaving_96 (by decide) ?_
              exact e_ret0 m_X6_leaving dX6_leaving_150
            · refine e_iload_n m_X6_leaving dX6_leaving_99 rfl rfl ?_
              refine e_bipush (v := nI 29) m_X6_leaving dX6_leaving_100 (by decide) ?_
              refine e_ine (t := 124) (a := x2) (b := 29) hN m_X6_leaving dX6_leaving_102 (by decide) (fun q92 hN => ?_) (fun q92 hN => ?_)
              · refine e_aload_n m_X6_leaving dX6_leaving_105 rfl rfl rfl ?_
                refine e_cvN (as := []) hN m_X6_leaving dX6_leaving_106 c_RX6_83 (by decide) rfl rfl (gM_m G) rfl (Nat.le_of_ble_eq_true rfl) (Nat.le_of_ble_eq_true rfl) (by omega) (w_X6_look G (by omega)) (fun v93 s93 hN => ?_)
                refine e_ck hN (fun q94 hN => ?_)
                refine e_cs (as := [_]) m_X6_leaving dX6_leaving_109 c_RX6_171 (by decide) rfl rfl (Nat.le_of_ble_eq_true rfl) (Nat.le_of_ble_eq_true rfl) (by omega) (z_X6_beginsExpr q94 (by omega)) ?_
                refine e_ifeq (t := 124) hN m_X6_leaving dX6_leaving_112 (by decide) (fun q95 hN => ?_) (fun q95 hN => ?_)
                · refine e_iload_n m_X6_leaving dX6_leaving_124 rfl rfl ?_
                  refine e_bipush (v := nI 10) m_X6_leaving dX6_leaving_125 (by decide) ?_
                  refine e_ieq (t := 136) (a := x2) (b := 10) hN m_X6_leaving dX6_leaving_127 (by decide) (fun q96 hN => ?_) (fun q96 hN => ?_)
                  · refine e_aload_n m_X6_leaving dX6_leaving_136 rfl rfl rfl ?_
                    refine e_cvN (as := []) hN m_X6_leaving dX6_leaving_137 c_RX6_83 (by decide) rfl rfl (gM_m G) rfl (Nat.le_of_ble_eq_true rfl) (Nat.le_of_ble_eq_true rfl) (by omega) (w_X6_look G (by omega)) (fun v97 s97 hN => ?_)
                    refine e_iconst (v := nI 1) m_X6_leaving dX6_leaving_140 (by decide) ?_
                    refine e_ine (t := 150) (a := v97) (b := 1) hN m_X6_leaving dX6_leaving_141 (by decide) (fun q98 hN => ?_) (fun q98 hN => ?_)
                    · refine e_aload_n m_X6_leaving dX6_leaving_144 rfl rfl rfl ?_
                      refine e_iload_n m_X6_leaving dX6_leaving_145 rfl rfl ?_
                      refine e_cvN (as := [.int (nI v86)]) hN m_X6_leaving dX6_leaving_146 c_RX6_130 (by decide) rfl rfl (gM_m G) rfl (Nat.le_of_ble_eq_true rfl) (Nat.le_of_ble_eq_true rfl) (by omega) (w_X6_name G (by omega)) (fun v99 s99 hN => ?_)
                      refine e_pop m_X6_leaving dX6_leaving_149 rfl ?_
                      exact e_ret0 m_X6_leaving dX6_leaving_150
                    · exact e_ret0 m_X6_leaving dX6_leaving_150
                  · refine e_iload_n m_X6_leaving dX6_leaving_130 rfl rfl ?_
                    refine e_bipush (v := nI 14) m_X6_leaving dX6_leaving_131 (by decide) ?_
                    refine e_ine (t := 150) (a := x2) (b := 14) hN m_X6_leaving dX6_leaving_133 (by decide) (fun q100 hN => ?_) (fun q100 hN => ?_)
                    · refine e_aload_n m_X6_leaving dX6_leaving_136 rfl rfl rfl ?_
                      refine e_cvN (as := []) hN m_X6_leaving dX6_leaving_137 c_RX6_83 (by decide) rfl rfl (gM_m G) rfl (Nat.le_of_ble_eq_true rfl) (Nat.le_of_ble_eq_true rfl) (by omega) (w_X6_look G (by omega)) (fun v101 s101 hN => ?_)
                      refine e_iconst (v := nI 1) m_X6_leaving dX6_leaving_140 (by decide) ?_
                      refine e_ine (t := 150) (a := v101) (b := 1) hN m_X6_leaving dX6_leaving_141 (by decide) (fun q102 hN => ?_) (fun q102 hN => ?_)
                      · refine e_aload_n m_X6_leaving dX6_leaving_144 rfl rfl rfl ?_
                        refine e_iload_n m_X6_leaving dX6_leaving_145 rfl rfl ?_
                        refine e_cvN (as := [.int (nI v86)]) hN m_X6_leaving dX6_leaving_146 c_RX6_130 (by decide) rfl rfl (gM_m G) rfl (Nat.le_of_ble_eq_true rfl) (Nat.le_of_ble_eq_true rfl) (by omega) (w_X6_name G (by omega)) (fun v103 s103 hN => ?_)
                        refine e_pop m_X6_leaving dX6_leaving_149 rfl ?_
                        exact e_ret0 m_X6_leaving dX6_leaving_150
                      · exact e_ret0 m_X6_leaving dX6_leaving_150
                    · exact e_ret0 m_X6_leaving dX6_leaving_150
                · refine e_aload_n m_X6_leaving dX6_leaving_115 rfl rfl rfl ?_
                  refine e_iload_n m_X6_leaving dX6_leaving_116 rfl rfl ?_
                  refine e_iconst (v := nI 0) m_X6_leaving dX6_leaving_117 (by decide) ?_
                  refine e_cvU (as := [.int (nI v86), .int (nI 0)]) hN m_X6_leaving dX6_leaving_118 c_RX6_159 (by decide) rfl rfl (gM_m G) rfl (Nat.le_of_ble_eq_true rfl) (Nat.le_of_ble_eq_true rfl) (by omega) (w_X6_exprs G (by omega)) (fun v104 s104 hN => ?_)
                  refine e_goto (t := 150) m_X6_leaving dX6_leaving_121 (by decide) ?_
                  exact e_ret0 m_X6_leaving dX6_leaving_150
              · refine e_iload_n m_X6_leaving dX6_leaving_124 rfl rfl ?_
                refine e_bipush (v := nI 10) m_X6_leaving dX6_leaving_125 (by decide) ?_
                refine e_ieq (t := 136) (a := x2) (b := 10) hN m_X6_leaving dX6_leaving_127 (by decide) (fun q105 hN => ?_) (fun q105 hN => ?_)
                · refine e_aload_n m_X6_leaving dX6_leaving_136 rfl rfl rfl ?_
                  refine e_cvN (as := []) hN m_X6_leaving dX6_leaving_137 c_RX6_83 (by decide) rfl rfl (gM_m G) rfl (Nat.le_of_ble_eq_true rfl) (Nat.le_of_ble_eq_true rfl) (by omega) (w_X6_look G (by omega)) (fun v106 s106 hN => ?_)
                  refine e_iconst (v := nI 1) m_X6_leaving dX6_leaving_140 (by decide) ?_
                  refine e_ine (t := 150) (a := v106) (b := 1) hN m_X6_leaving dX6_leaving_141 (by decide) (fun q107 hN => ?_) (fun q107 hN => ?_)
                  · refine e_aload_n m_X6_leaving dX6_leaving_144 rfl rfl rfl ?_
                    refine e_iload_n m_X6_leaving dX6_leaving_145 rfl rfl ?_
                    refine e_cvN (as := [.int (nI v86)]) hN m_X6_leaving dX6_leaving_146 c_RX6_130 (by decide) rfl rfl (gM_m G) rfl (Nat.le_of_ble_eq_true rfl) (Nat.le_of_ble_eq_true rfl) (by omega) (w_X6_name G (by omega)) (fun v108 s108 hN => ?_)
                    refine e_pop m_X6_leaving dX6_leaving_149 rfl ?_
                    exact e_ret0 m_X6_leaving dX6_leaving_150
                  · exact e_ret0 m_X6_leaving dX6_leaving_150
                · refine e_iload_n m_X6_leaving dX6_leaving_130 rfl rfl ?_
                  refine e_bipush (v := nI 14) m_X6_leaving dX6_leaving_131 (by decide) ?_
                  refine e_ine (t := 150) (a := x2) (b := 14) hN m_X6_leaving dX6_leaving_133 (by decide) (fun q109 hN => ?_) (fun q109 hN => ?_)
                  · refine e_aload_n m_X6_leaving dX6_leaving_136 rfl rfl rfl ?_
                    refine e_cvN (as := []) hN m_X6_leaving dX6_leaving_137 c_RX6_83 (by decide) rfl rfl (gM_m G) rfl (Nat.le_of_ble_eq_true rfl) (Nat.le_of_ble_eq_true rfl) (by omega) (w_X6_look G (by omega)) (fun v110 s110 hN => ?_)
                    refine e_iconst (v := nI 1) m_X6_leaving dX6_leaving_140 (by decide) ?_
                    refine e_ine (t := 150) (a := v110) (b := 1) hN m_X6_leaving dX6_leaving_141 (by decide) (fun q111 hN => ?_) (fun q111 hN => ?_)
                    · refine e_aload_n m_X6_leaving dX6_leaving_144 rfl rfl rfl ?_
                      refine e_iload_n m_X6_leaving dX6_leaving_145 rfl rfl ?_
                      refine e_cvN (as := [.int (nI v86)]) hN m_X6_leaving dX6_leaving_146 c_RX6_130 (by decide) rfl rfl (gM_m G) rfl (Nat.le_of_ble_eq_true rfl) (Nat.le_of_ble_eq_true rfl) (by omega) (w_X6_name G (by omega)) (fun v112 s112 hN => ?_)
                      refine e_pop m_X6_leaving dX6_leaving_149 rfl ?_
                      exact e_ret0 m_X6_leaving dX6_leaving_150
                    · exact e_ret0 m_X6_leaving dX6_leaving_150
                  · exact e_ret0 m_X6_leaving dX6_leaving_150
        · refine e_iload_n m_X6_leaving dX6_leaving_46 rfl rfl ?_
          refine e_bipush (v := nI 14) m_X6_leaving dX6_leaving_47 (by decide) ?_
          refine e_ine (t := 57) (a := x2) (b := 14) hN m_X6_leaving dX6_leaving_49 (by decide) (fun q113 hN => ?_) (fun q113 hN => ?_)
          · refine e_bipush (v := nI 46) m_X6_leaving dX6_leaving_52 (by decide) ?_
            refine e_goto (t := 59) m_X6_leaving dX6_leaving_54 (by decide) ?_
            refine e_aload_n m_X6_leaving dX6_leaving_59 rfl rfl rfl ?_
            refine e_getf m_X6_leaving dX6_leaving_60 f_RX6_77 (gM_m G) rfl ?_
            refine e_cvN (as := [.int (nI x1), .int (nI 46), .int (nI (m_at s))]) hN m_X6_leaving dX6_leaving_63 c_RX6_99 (by decide) rfl rfl (gM_m G) rfl (Nat.le_of_ble_eq_true rfl) (Nat.le_of_ble_eq_true rfl) (by omega) (w_X6_child G (by omega)) (fun v114 s114 hN => ?_)
            refine e_istore_n m_X6_leaving dX6_leaving_66 rfl (by decide) rfl ?_
            refine e_aload_n m_X6_leaving dX6_leaving_67 rfl rfl rfl ?_
            refine e_dup m_X6_leaving dX6_leaving_68 rfl ?_
            refine e_getf m_X6_leaving dX6_leaving_69 f_RX6_77 (gM_m G) rfl ?_
            refine e_iconst (v := nI 1) m_X6_leaving dX6_leaving_72 (by decide) ?_
            refine e_iaddN m_X6_leaving dX6_leaving_73 ?_
            refine e_putf (v := .int (nI ((m_at s114) + 1))) (h' := TM h0 (w_at s114 ((m_at s114) + 1))) m_X6_leaving dX6_leaving_74 f_RX6_77 (gM_m G) (Nat.le_of_ble_eq_true rfl) (fit_i rfl) rfl (hpL_set (k := 10) (by decide) (Nat.le_of_ble_eq_true rfl)) ?_
            refine e_st hN (fun s115 hN => ?_)
            refine e_iload_n m_X6_leaving dX6_leaving_77 rfl rfl ?_
            refine e_bipush (v := nI 21) m_X6_leaving dX6_leaving_78 (by decide) ?_
            refine e_ieq (t := 89) (a := x2) (b := 21) hN m_X6_leaving dX6_leaving_80 (by decide) (fun q116 hN => ?_) (fun q116 hN => ?_)
            · refine e_aload_n m_X6_leaving dX6_leaving_89 rfl rfl rfl ?_
              refine e_iload_n m_X6_leaving dX6_leaving_90 rfl rfl ?_
              refine e_iconst (v := nI 0) m_X6_leaving dX6_leaving_91 (by decide) ?_
              refine e_iconst (v := nI 1) m_X6_leaving dX6_leaving_92 (by decide) ?_
              refine e_cvU (as := [.int (nI v114), .int (nI 0), .int (nI 1)]) hN m_X6_leaving dX6_leaving_93 c_RX6_117 (by decide) rfl rfl (gM_m G) rfl (Nat.le_of_ble_eq_true rfl) (Nat.le_of_ble_eq_true rfl) (by omega) (w_X6_expression G (by omega)) (fun v117 s117 hN => ?_)
              refine e_goto (t := 150) m_X6_leaving dX6_leaving_96 (by decide) ?_
              exact e_ret0 m_X6_leaving dX6_leaving_150
            · refine e_iload_n m_X6_leaving dX6_leaving_83 rfl rfl ?_
              refine e_bipush (v := nI 16) m_X6_leaving dX6_leaving_84 (by decide) ?_
              refine e_ine (t := 99) (a := x2) (b := 16) hN m_X6_leaving dX6_leaving_86 (by decide) (fun q118 hN => ?_) (fun q118 hN => ?_)
              · refine e_aload_n m_X6_leaving dX6_leaving_89 rfl rfl rfl ?_
                refine e_iload_n m_X6_leaving dX6_leaving_90 rfl rfl ?_
                refine e_iconst (v := nI 0) m_X6_leaving dX6_leaving_91 (by decide) ?_
                refine e_iconst (v := nI 1) m_X6_leaving dX6_leaving_92 (by decide) ?_
                refine e_cvU (as := [.int (nI v114), .int (nI 0), .int (nI 1)]) hN m_X6_leaving dX6_leaving_93 c_RX6_117 (by decide) rfl rfl (gM_m G) rfl (Nat.le_of_ble_eq_true rfl) (Nat.le_of_ble_eq_true rfl) (by omega) (w_X6_expression G (by omega)) (fun v119 s119 hN => ?_)
                refine e_goto (t := 150) m_X6_leaving dX6_leaving_96 (by decide) ?_
                exact e_ret0 m_X6_leaving dX6_leaving_150
              · refine e_iload_n m_X6_leaving dX6_leaving_99 rfl rfl ?_
                refine e_bipush (v := nI 29) m_X6_leaving dX6_leaving_100 (by decide) ?_
                refine e_ine (t := 124) (a := x2) (b := 29) hN m_X6_leaving dX6_leaving_102 (by decide) (fun q120 hN => ?_) (fun q120 hN => ?_)
                · refine e_aload_n m_X6_leaving dX6_leaving_105 rfl rfl rfl ?_
                  refine e_cvN (as := []) hN m_X6_leaving dX6_leaving_106 c_RX6_83 (by decide) rfl rfl (gM_m G) rfl (Nat.le_of_ble_eq_true rfl) (Nat.le_of_ble_eq_true rfl) (by omega) (w_X6_look G (by omega)) (fun v121 s121 hN => ?_)
                  refine e_ck hN (fun q122 hN => ?_)
                  refine e_cs (as := [_]) m_X6_leaving dX6_leaving_109 c_RX6_171 (by decide) rfl rfl (Nat.le_of_ble_eq_true rfl) (Nat.le_of_ble_eq_true rfl) (by omega) (z_X6_beginsExpr q122 (by omega)) ?_
                  refine e_ifeq (t := 124) hN m_X6_leaving dX6_leaving_112 (by decide) (fun q123 hN => ?_) (fun q123 hN => ?_)
                  · refine e_iload_n m_X6_leaving dX6_leaving_124 rfl rfl ?_
                    refine e_bipush (v := nI 10) m_X6_leaving dX6_leaving_125 (by decide) ?_
                    refine e_ieq (t := 136) (a := x2) (b := 10) hN m_X6_leaving dX6_leaving_127 (by decide) (fun q124 hN => ?_) (fun q124 hN => ?_)
                    · refine e_aload_n m_X6_leaving dX6_leaving_136 rfl rfl rfl ?_
                      refine e_cvN (as := []) hN m_X6_leaving dX6_leaving_137 c_RX6_83 (by decide) rfl rfl (gM_m G) rfl (Nat.le_of_ble_eq_true rfl) (Nat.le_of_ble_eq_true rfl) (by omega) (w_X6_look G (by omega)) (fun v125 s125 hN => ?_)
                      refine e_iconst (v := nI 1) m_X6_leaving dX6_leaving_140 (by decide) ?_
                      refine e_ine (t := 150) (a := v125) (b := 1) hN m_X6_leaving dX6_leaving_141 (by decide) (fun q126 hN => ?_) (fun q126 hN => ?_)
                      · refine e_aload_n m_X6_leaving dX6_leaving_144 rfl rfl rfl ?_
                        refine e_iload_n m_X6_leaving dX6_leaving_145 rfl rfl ?_
                        refine e_cvN (as := [.int (nI v114)]) hN m_X6_leaving dX6_leaving_146 c_RX6_130 (by decide) rfl rfl (gM_m G) rfl (Nat.le_of_ble_eq_true rfl) (Nat.le_of_ble_eq_true rfl) (by omega) (w_X6_name G (by omega)) (fun v127 s127 hN => ?_)
                        refine e_pop m_X6_leaving dX6_leaving_149 rfl ?_
                        exact e_ret0 m_X6_leaving dX6_leaving_150
                      · exact e_ret0 m_X6_leaving dX6_leaving_150
                    · refine e_iload_n m_X6_leaving dX6_leaving_130 rfl rfl ?_
                      refine e_bipush (v := nI 14) m_X6_leaving dX6_leaving_131 (by decide) ?_
                      refine e_ine (t := 150) (a := x2) (b := 14) hN m_X6_leaving dX6_leaving_133 (by decide) (fun q128 hN => ?_) (fun q128 hN => ?_)
                      · refine e_aload_n m_X6_leaving dX6_leaving_136 rfl rfl rfl ?_
                        refine e_cvN (as := []) hN m_X6_leaving dX6_leaving_137 c_RX6_83 (by decide) rfl rfl (gM_m G) rfl (Nat.le_of_ble_eq_true rfl) (Nat.le_of_ble_eq_true rfl) (by omega) (w_X6_look G (by omega)) (fun v129 s129 hN => ?_)
                        refine e_iconst (v := nI 1) m_X6_leaving dX6_leaving_140 (by decide) ?_
                        refine e_ine (t := 150) (a := v129) (b := 1) hN m_X6_leaving dX6_leaving_141 (by decide) (fun q130 hN => ?_) (fun q130 hN => ?_)
                        · refine e_aload_n m_X6_leaving dX6_leaving_144 rfl rfl rfl ?_
                          refine e_iload_n m_X6_leaving dX6_leaving_145 rfl rfl ?_
                          refine e_cvN (as := [.int (nI v114)]) hN m_X6_leaving dX6_leaving_146 c_RX6_130 (by decide) rfl rfl (gM_m G) rfl (Nat.le_of_ble_eq_true rfl) (Nat.le_of_ble_eq_true rfl) (by omega) (w_X6_name G (by omega)) (fun v131 s131 hN => ?_)
                          refine e_pop m_X6_leaving dX6_leaving_149 rfl ?_
                          exact e_ret0 m_X6_leaving dX6_leaving_150
                        · exact e_ret0 m_X6_leaving dX6_leaving_150
                      · exact e_ret0 m_X6_leaving dX6_leaving_150
                  · refine e_aload_n m_X6_leaving dX6_leaving_115 rfl rfl rfl ?_
                    refine e_iload_n m_X6_leaving dX6_leaving_116 rfl rfl ?_
                    refine e_iconst (v := nI 0) m_X6_leaving dX6_leaving_117 (by decide) ?_
                    refine e_cvU (as := [.int (nI v114), .int (nI 0)]) hN m_X6_leaving dX6_leaving_118 c_RX6_159 (by decide) rfl rfl (gM_m G) rfl (Nat.le_of_ble_eq_true rfl) (Nat.le_of_ble_eq_true rfl) (by omega) (w_X6_exprs G (by omega)) (fun v132 s132 hN => ?_)
                    refine e_goto (t := 150) m_X6_leaving dX6_leaving_121 (by decide) ?_
                    exact e_ret0 m_X6_leaving dX6_leaving_150
                · refine e_iload_n m_X6_leaving dX6_leaving_124 rfl rfl ?_
                  refine e_bipush (v := nI 10) m_X6_leaving dX6_leaving_125 (by decide) ?_
                  refine e_ieq (t := 136) (a := x2) (b := 10) hN m_X6_leaving dX6_leaving_127 (by decide) (fun q133 hN => ?_) (fun q133 hN => ?_)
                  · refine e_aload_n m_X6_leaving dX6_leaving_136 rfl rfl rfl ?_
                    refine e_cvN (as := []) hN m_X6_leaving dX6_leaving_137 c_RX6_83 (by decide) rfl rfl (gM_m G) rfl (Nat.le_of_ble_eq_true rfl) (Nat.le_of_ble_eq_true rfl) (by omega) (w_X6_look G (by omega)) (fun v134 s134 hN => ?_)
                    refine e_iconst (v := nI 1) m_X6_leaving dX6_leaving_140 (by decide) ?_
                    refine e_ine (t := 150) (a := v134) (b := 1) hN m_X6_leaving dX6_leaving_141 (by decide) (fun q135 hN => ?_) (fun q135 hN => ?_)
                    · refine e_aload_n m_X6_leaving dX6_leaving_144 rfl rfl rfl ?_
                      refine e_iload_n m_X6_leaving dX6_leaving_145 rfl rfl ?_
                      refine e_cvN (as := [.int (nI v114)]) hN m_X6_leaving dX6_leaving_146 c_RX6_130 (by decide) rfl rfl (gM_m G) rfl (Nat.le_of_ble_eq_true rfl) (Nat.le_of_ble_eq_true rfl) (by omega) (w_X6_name G (by omega)) (fun v136 s136 hN => ?_)
                      refine e_pop m_X6_leaving dX6_leaving_149 rfl ?_
                      exact e_ret0 m_X6_leaving dX6_leaving_150
                    · exact e_ret0 m_X6_leaving dX6_leaving_150
                  · refine e_iload_n m_X6_leaving dX6_leaving_130 rfl rfl ?_
                    refine e_bipush (v := nI 14) m_X6_leaving dX6_leaving_131 (by decide) ?_
                    refine e_ine (t := 150) (a := x2) (b := 14) hN m_X6_leaving dX6_leaving_133 (by decide) (fun q137 hN => ?_) (fun q137 hN => ?_)
                    · refine e_aload_n m_X6_leaving dX6_leaving_136 rfl rfl rfl ?_
                      refine e_cvN (as := []) hN m_X6_leaving dX6_leaving_137 c_RX6_83 (by decide) rfl rfl (gM_m G) rfl (Nat.le_of_ble_eq_true rfl) (Nat.le_of_ble_eq_true rfl) (by omega) (w_X6_look G (by omega)) (fun v138 s138 hN => ?_)
                      refine e_iconst (v := nI 1) m_X6_leaving dX6_leaving_140 (by decide) ?_
                      refine e_ine (t := 150) (a := v138) (b := 1) hN m_X6_leaving dX6_leaving_141 (by decide) (fun q139 hN => ?_) (fun q139 hN => ?_)
                      · refine e_aload_n m_X6_leaving dX6_leaving_144 rfl rfl rfl ?_
                        refine e_iload_n m_X6_leaving dX6_leaving_145 rfl rfl ?_
                        refine e_cvN (as := [.int (nI v114)]) hN m_X6_leaving dX6_leaving_146 c_RX6_130 (by decide) rfl rfl (gM_m G) rfl (Nat.le_of_ble_eq_true rfl) (Nat.le_of_ble_eq_true rfl) (by omega) (w_X6_name G (by omega)) (fun v140 s140 hN => ?_)
                        refine e_pop m_X6_leaving dX6_leaving_149 rfl ?_
                        exact e_ret0 m_X6_leaving dX6_leaving_150
                      · exact e_ret0 m_X6_leaving dX6_leaving_150
                    · exact e_ret0 m_X6_leaving dX6_leaving_150
          · refine e_bipush (v := nI 47) m_X6_leaving dX6_leaving_57 (by decide) ?_
            refine e_aload_n m_X6_leaving dX6_leaving_59 rfl rfl rfl ?_
            refine e_getf m_X6_leaving dX6_leaving_60 f_RX6_77 (gM_m G) rfl ?_
            refine e_cvN (as := [.int (nI x1), .int (nI 47), .int (nI (m_at s))]) hN m_X6_leaving dX6_leaving_63 c_RX6_99 (by decide) rfl rfl (gM_m G) rfl (Nat.le_of_ble_eq_true rfl) (Nat.le_of_ble_eq_true rfl) (by omega) (w_X6_child G (by omega)) (fun v141 s141 hN => ?_)
            refine e_istore_n m_X6_leaving dX6_leaving_66 rfl (by decide) rfl ?_
            refine e_aload_n m_X6_leaving dX6_leaving_67 rfl rfl rfl ?_
            refine e_dup m_X6_leaving dX6_leaving_68 rfl ?_
            refine e_getf m_X6_leaving dX6_leaving_69 f_RX6_77 (gM_m G) rfl ?_
            refine e_iconst (v := nI 1) m_X6_leaving dX6_leaving_72 (by decide) ?_
            refine e_iaddN m_X6_leaving dX6_leaving_73 ?_
            refine e_putf (v := .int (nI ((m_at s141) + 1))) (h' := TM h0 (w_at s141 ((m_at s141) + 1))) m_X6_leaving dX6_leaving_74 f_RX6_77 (gM_m G) (Nat.le_of_ble_eq_true rfl) (fit_i rfl) rfl (hpL_set (k := 10) (by decide) (Nat.le_of_ble_eq_true rfl)) ?_
            refine e_st hN (fun s142 hN => ?_)
            refine e_iload_n m_X6_leaving dX6_leaving_77 rfl rfl ?_
            refine e_bipush (v := nI 21) m_X6_leaving dX6_leaving_78 (by decide) ?_
            refine e_ieq (t := 89) (a := x2) (b := 21) hN m_X6_leaving dX6_leaving_80 (by decide) (fun q143 hN => ?_) (fun q143 hN => ?_)
            · refine e_aload_n m_X6_leaving dX6_leaving_89 rfl rfl rfl ?_
              refine e_iload_n m_X6_leaving dX6_leaving_90 rfl rfl ?_
              refine e_iconst (v := nI 0) m_X6_leaving dX6_leaving_91 (by decide) ?_
              refine e_iconst (v := nI 1) m_X6_leaving dX6_leaving_92 (by decide) ?_
              refine e_cvU (as := [.int (nI v141), .int (nI 0), .int (nI 1)]) hN m_X6_leaving dX6_leaving_93 c_RX6_117 (by decide) rfl rfl (gM_m G) rfl (Nat.le_of_ble_eq_true rfl) (Nat.le_of_ble_eq_true rfl) (by omega) (w_X6_expression G (by omega)) (fun v144 s144 hN => ?_)
              refine e_goto (t := 150) m_X6_leaving dX6_leaving_96 (by decide) ?_
              exact e_ret0 m_X6_leaving dX6_leaving_150
            · refine e_iload_n m_X6_leaving dX6_leaving_83 rfl rfl ?_
              refine e_bipush (v := nI 16) m_X6_leaving dX6_leaving_84 (by decide) ?_
              refine e_ine (t := 99) (a := x2) (b := 16) hN m_X6_leaving dX6_leaving_86 (by decide) (fun q145 hN => ?_) (fun q145 hN => ?_)
              · refine e_aload_n m_X6_leaving dX6_leaving_89 rfl rfl rfl ?_
                refine e_iload_n m_X6_leaving dX6_leaving_90 rfl rfl ?_
                refine e_iconst (v := nI 0) m_X6_leaving dX6_leaving_91 (by decide) ?_
                refine e_iconst (v := nI 1) m_X6_leaving dX6_leaving_92 (by decide) ?_
                refine e_cvU (as := [.int (nI v141), .int (nI 0), .int (nI 1)]) hN m_X6_leaving dX6_leaving_93 c_RX6_117 (by decide) rfl rfl (gM_m G) rfl (Nat.le_of_ble_eq_true rfl) (Nat.le_of_ble_eq_true rfl) (by omega) (w_X6_expression G (by omega)) (fun v146 s146 hN => ?_)
                refine e_goto (t := 150) m_X6_leaving dX6_leaving_96 (by decide) ?_
                exact e_ret0 m_X6_leaving dX6_leaving_150
              · refine e_iload_n m_X6_leaving dX6_leaving_99 rfl rfl ?_
                refine e_bipush (v := nI 29) m_X6_leaving dX6_leaving_100 (by decide) ?_
                refine e_ine (t := 124) (a := x2) (b := 29) hN m_X6_leaving dX6_leaving_102 (by decide) (fun q147 hN => ?_) (fun q147 hN => ?_)
                · refine e_aload_n m_X6_leaving dX6_leaving_105 rfl rfl rfl ?_
                  refine e_cvN (as := []) hN m_X6_leaving dX6_leaving_106 c_RX6_83 (by decide) rfl rfl (gM_m G) rfl (Nat.le_of_ble_eq_true rfl) (Nat.le_of_ble_eq_true rfl) (by omega) (w_X6_look G (by omega)) (fun v148 s148 hN => ?_)
                  refine e_ck hN (fun q149 hN => ?_)
                  refine e_cs (as := [_]) m_X6_leaving dX6_leaving_109 c_RX6_171 (by decide) rfl rfl (Nat.le_of_ble_eq_true rfl) (Nat.le_of_ble_eq_true rfl) (by omega) (z_X6_beginsExpr q149 (by omega)) ?_
                  refine e_ifeq (t := 124) hN m_X6_leaving dX6_leaving_112 (by decide) (fun q150 hN => ?_) (fun q150 hN => ?_)
                  · refine e_iload_n m_X6_leaving dX6_leaving_124 rfl rfl ?_
                    refine e_bipush (v := nI 10) m_X6_leaving dX6_leaving_125 (by decide) ?_
                    refine e_ieq (t := 136) (a := x2) (b := 10) hN m_X6_leaving dX6_leaving_127 (by decide) (fun q151 hN => ?_) (fun q151 hN => ?_)
                    · refine e_aload_n m_X6_leaving dX6_leaving_136 rfl rfl rfl ?_
                      refine e_cvN (as := []) hN m_X6_leaving dX6_leaving_137 c_RX6_83 (by decide) rfl rfl (gM_m G) rfl (Nat.le_of_ble_eq_true rfl) (Nat.le_of_ble_eq_true rfl) (by omega) (w_X6_look G (by omega)) (fun v152 s152 hN => ?_)
                      refine e_iconst (v := nI 1) m_X6_leaving dX6_leaving_140 (by decide) ?_
                      refine e_ine (t := 150) (a := v152) (b := 1) hN m_X6_leaving dX6_leaving_141 (by decide) (fun q153 hN => ?_) (fun q153 hN => ?_)
                      · refine e_aload_n m_X6_leaving dX6_leaving_144 rfl rfl rfl ?_
                        refine e_iload_n m_X6_leaving dX6_leaving_145 rfl rfl ?_
                        refine e_cvN (as := [.int (nI v141)]) hN m_X6_leaving dX6_leaving_146 c_RX6_130 (by decide) rfl rfl (gM_m G) rfl (Nat.le_of_ble_eq_true rfl) (Nat.le_of_ble_eq_true rfl) (by omega) (w_X6_name G (by omega)) (fun v154 s154 hN => ?_)
                        refine e_pop m_X6_leaving dX6_leaving_149 rfl ?_
                        exact e_ret0 m_X6_leaving dX6_leaving_150
                      · exact e_ret0 m_X6_leaving dX6_leaving_150
                    · refine e_iload_n m_X6_leaving dX6_leaving_130 rfl rfl ?_
                      refine e_bipush (v := nI 14) m_X6_leaving dX6_leaving_131 (by decide) ?_
                      refine e_ine (t := 150) (a := x2) (b := 14) hN m_X6_leaving dX6_leaving_133 (by decide) (fun q155 hN => ?_) (fun q155 hN => ?_)
                      · refine e_aload_n m_X6_leaving dX6_leaving_136 rfl rfl rfl ?_
                        refine e_cvN (as := []) hN m_X6_leaving dX6_leaving_137 c_RX6_83 (by decide) rfl rfl (gM_m G) rfl (Nat.le_of_ble_eq_true rfl) (Nat.le_of_ble_eq_true rfl) (by omega) (w_X6_look G (by omega)) (fun v156 s156 hN => ?_)
                        refine e_iconst (v := nI 1) m_X6_leaving dX6_leaving_140 (by decide) ?_
                        refine e_ine (t := 150) (a := v156) (b := 1) hN m_X6_leaving dX6_leaving_141 (by decide) (fun q157 hN => ?_) (fun q157 hN => ?_)
                        · refine e_aload_n m_X6_leaving dX6_leaving_144 rfl rfl rfl ?_
                          refine e_iload_n m_X6_leaving dX6_leaving_145 rfl rfl ?_
                          refine e_cvN (as := [.int (nI v141)]) hN m_X6_leaving dX6_leaving_146 c_RX6_130 (by decide) rfl rfl (gM_m G) rfl (Nat.le_of_ble_eq_true rfl) (Nat.le_of_ble_eq_true rfl) (by omega) (w_X6_name G (by omega)) (fun v158 s158 hN => ?_)
                          refine e_pop m_X6_leaving dX6_leaving_149 rfl ?_
                          exact e_ret0 m_X6_leaving dX6_leaving_150
                        · exact e_ret0 m_X6_leaving dX6_leaving_150
                      · exact e_ret0 m_X6_leaving dX6_leaving_150
                  · refine e_aload_n m_X6_leaving dX6_leaving_115 rfl rfl rfl ?_
                    refine e_iload_n m_X6_leaving dX6_leaving_116 rfl rfl ?_
                    refine e_iconst (v := nI 0) m_X6_leaving dX6_leaving_117 (by decide) ?_
                    refine e_cvU (as := [.int (nI v141), .int (nI 0)]) hN m_X6_leaving dX6_leaving_118 c_RX6_159 (by decide) rfl rfl (gM_m G) rfl (Nat.le_of_ble_eq_true rfl) (Nat.le_of_ble_eq_true rfl) (by omega) (w_X6_exprs G (by omega)) (fun v159 s159 hN => ?_)
                    refine e_goto (t := 150) m_X6_leaving dX6_leaving_121 (by decide) ?_
                    exact e_ret0 m_X6_leaving dX6_leaving_150
                · refine e_iload_n m_X6_leaving dX6_leaving_124 rfl rfl ?_
                  refine e_bipush (v := nI 10) m_X6_leaving dX6_leaving_125 (by decide) ?_
                  refine e_ieq (t := 136) (a := x2) (b := 10) hN m_X6_leaving dX6_leaving_127 (by decide) (fun q160 hN => ?_) (fun q160 hN => ?_)
                  · refine e_aload_n m_X6_leaving dX6_leaving_136 rfl rfl rfl ?_
                    refine e_cvN (as := []) hN m_X6_leaving dX6_leaving_137 c_RX6_83 (by decide) rfl rfl (gM_m G) rfl (Nat.le_of_ble_eq_true rfl) (Nat.le_of_ble_eq_true rfl) (by omega) (w_X6_look G (by omega)) (fun v161 s161 hN => ?_)
                    refine e_iconst (v := nI 1) m_X6_leaving dX6_leaving_140 (by decide) ?_
                    refine e_ine (t := 150) (a := v161) (b := 1) hN m_X6_leaving dX6_leaving_141 (by decide) (fun q162 hN => ?_) (fun q162 hN => ?_)
                    · refine e_aload_n m_X6_leaving dX6_leaving_144 rfl rfl rfl ?_
                      refine e_iload_n m_X6_leaving dX6_leaving_145 rfl rfl ?_
                      refine e_cvN (as := [.int (nI v141)]) hN m_X6_leaving dX6_leaving_146 c_RX6_130 (by decide) rfl rfl (gM_m G) rfl (Nat.le_of_ble_eq_true rfl) (Nat.le_of_ble_eq_true rfl) (by omega) (w_X6_name G (by omega)) (fun v163 s163 hN => ?_)
                      refine e_pop m_X6_leaving dX6_leaving_149 rfl ?_
                      exact e_ret0 m_X6_leaving dX6_leaving_150
                    · exact e_ret0 m_X6_leaving dX6_leaving_150
                  · refine e_iload_n m_X6_leaving dX6_leaving_130 rfl rfl ?_
                    refine e_bipush (v := nI 14) m_X6_leaving dX6_leaving_131 (by decide) ?_
                    refine e_ine (t := 150) (a := x2) (b := 14) hN m_X6_leaving dX6_leaving_133 (by decide) (fun q164 hN => ?_) (fun q164 hN => ?_)
                    · refine e_aload_n m_X6_leaving dX6_leaving_136 rfl rfl rfl ?_
                      refine e_cvN (as := []) hN m_X6_leaving dX6_leaving_137 c_RX6_83 (by decide) rfl rfl (gM_m G) rfl (Nat.le_of_ble_eq_true rfl) (Nat.le_of_ble_eq_true rfl) (by omega) (w_X6_look G (by omega)) (fun v165 s165 hN => ?_)
                      refine e_iconst (v := nI 1) m_X6_leaving dX6_leaving_140 (by decide) ?_
                      refine e_ine (t := 150) (a := v165) (b := 1) hN m_X6_leaving dX6_leaving_141 (by decide) (fun q166 hN => ?_) (fun q166 hN => ?_)
                      · refine e_aload_n m_X6_leaving dX6_leaving_144 rfl rfl rfl ?_
                        refine e_iload_n m_X6_leaving dX6_leaving_145 rfl rfl ?_
                        refine e_cvN (as := [.int (nI v141)]) hN m_X6_leaving dX6_leaving_146 c_RX6_130 (by decide) rfl rfl (gM_m G) rfl (Nat.le_of_ble_eq_true rfl) (Nat.le_of_ble_eq_true rfl) (by omega) (w_X6_name G (by omega)) (fun v167 s167 hN => ?_)
                        refine e_pop m_X6_leaving dX6_leaving_149 rfl ?_
                        exact e_ret0 m_X6_leaving dX6_leaving_150
                      · exact e_ret0 m_X6_leaving dX6_leaving_150
                    · exact e_ret0 m_X6_leaving dX6_leaving_150

def b_X6_assign  (x1 : Nat) (x2 : Nat) (s : Mm) : Rs Mm := bn (b_X6_ranges x1 x2 s) (fun v1 s1 => ifz v1 (bn (b_X6_wrap x1 54 (m_at s1) s1) (fun v3 s3 => st1 (w_at s3 ((m_at s3) + 1)) (fun s4 => bn (b_X6_right v3 x2 0 s4) (fun v5 s5 => okR 0 s5)))) (okR 0 s1))
theorem w_X6_assign {xs : Nat → Int32} {L : Nat} {h0 : mm_H} (G : Mg h0) {x1 : Nat} {x2 : Nat} {s : Mm} {d : Nat} (hd : 13 ≤ d) (hN : b_X6_assign  x1 x2 s ≠ none) : Rn xs L d 201 [.ref 10, .int (nI x1), .int (nI x2)] (TM h0 s) (ou eU (TM h0) (b_X6_assign  x1 x2 s)) := by
  unfold Rn
  unfold b_X6_assign at hN ⊢
  refine e_aload_n m_X6_assign dX6_assign_0 rfl rfl rfl ?_
  refine e_iload_n m_X6_assign dX6_assign_1 rfl rfl ?_
  refine e_iload_n m_X6_assign dX6_assign_2 rfl rfl ?_
  refine e_cvN (as := [.int (nI x1), .int (nI x2)]) hN m_X6_assign dX6_assign_3 c_RX6_205 (by decide) rfl rfl (gM_m G) rfl (Nat.le_of_ble_eq_true rfl) (Nat.le_of_ble_eq_true rfl) (by omega) (w_X6_ranges G (by omega)) (fun v1 s1 hN => ?_)
  refine e_ifeq (t := 10) hN m_X6_assign dX6_assign_6 (by decide) (fun q2 hN => ?_) (fun q2 hN => ?_)
  · refine e_aload_n m_X6_assign dX6_assign_10 rfl rfl rfl ?_
    refine e_iload_n m_X6_assign dX6_assign_11 rfl rfl ?_
    refine e_bipush (v := nI 54) m_X6_assign dX6_assign_12 (by decide) ?_
    refine e_aload_n m_X6_assign dX6_assign_14 rfl rfl rfl ?_
    refine e_getf m_X6_assign dX6_assign_15 f_RX6_77 (gM_m G) rfl ?_
    refine e_cvN (as := [.int (nI x1), .int (nI 54), .int (nI (m_at s1))]) hN m_X6_assign dX6_assign_18 c_RX6_114 (by decide) rfl rfl (gM_m G) rfl (Nat.le_of_ble_eq_true rfl) (Nat.le_of_ble_eq_true rfl) (by omega) (w_X6_wrap G (by omega)) (fun v3 s3 hN => ?_)
    refine e_istore_n m_X6_assign dX6_assign_21 rfl (by decide) rfl ?_
    refine e_aload_n m_X6_assign dX6_assign_22 rfl rfl rfl ?_
    refine e_dup m_X6_assign dX6_assign_23 rfl ?_
    refine e_getf m_X6_assign dX6_assign_24 f_RX6_77 (gM_m G) rfl ?_
    refine e_iconst (v := nI 1) m_X6_assign dX6_assign_27 (by decide) ?_
    refine e_iaddN m_X6_assign dX6_assign_28 ?_
    refine e_putf (v := .int (nI ((m_at s3) + 1))) (h' := TM h0 (w_at s3 ((m_at s3) + 1))) m_X6_assign dX6_assign_29 f_RX6_77 (gM_m G) (Nat.le_of_ble_eq_true rfl) (fit_i rfl) rfl (hpL_set (k := 10) (by decide) (Nat.le_of_ble_eq_true rfl)) ?_
    refine e_st hN (fun s4 hN => ?_)
    refine e_aload_n m_X6_assign dX6_assign_32 rfl rfl rfl ?_
    refine e_iload_n m_X6_assign dX6_assign_33 rfl rfl ?_
    refine e_iload_n m_X6_assign dX6_assign_34 rfl rfl ?_
    refine e_iconst (v := nI 0) m_X6_assign dX6_assign_35 (by decide) ?_
    refine e_cvU (as := [.int (nI v3), .int (nI x2), .int (nI 0)]) hN m_X6_assign dX6_assign_36 c_RX6_208 (by decide) rfl rfl (gM_m G) rfl (Nat.le_of_ble_eq_true rfl) (Nat.le_of_ble_eq_true rfl) (by omega) (w_X6_right G (by omega)) (fun v5 s5 hN => ?_)
    exact e_ret0 m_X6_assign dX6_assign_39
  · exact e_ret0 m_X6_assign dX6_assign_9

def b_X6_define  (x1 : Nat) (x2 : Nat) (x3 : Nat) (s : Mm) : Rs Mm := bn (b_X6_ranges x1 x2 s) (fun v1 s1 => ifz v1 (bn (b_X6_wrap x1 56 (m_at s1) s1) (fun v3 s3 => st1 (w_at s3 ((m_at s3) + 1)) (fun s4 => ck (x2 < 2147483648) (ifz (f_X6_has x2 8) (ck (x2 < 2147483648) (ifz (f_X6_has x2 16) (ck (x2 < 2147483648) (ifz (f_X6_has x2 8) (bn (b_X6_right v3 x2 0 s4) (fun v11 s11 => okR 0 s11)) (ifz x3 (bn (b_X6_right v3 x2 0 s4) (fun v13 s13 => okR 0 s13)) (bn (b_X6_right v3 x2 2 s4) (fun v14 s14 => okR 0 s14))))) (bn (b_X6_child v3 13 (m_at s4) s4) (fun v15 s15 => bn (b_X6_push 4 v15 3 s15) (fun v16 s16 => bn (b_X6_operand v15 3 s16) (fun v17 s17 => okR 0 s17)))))) (ifz x3 (ck (x2 < 2147483648) (ifz (f_X6_has x2 16) (ck (x2 < 2147483648) (ifz (f_X6_has x2 8) (bn (b_X6_right v3 x2 0 s4) (fun v23 s23 => okR 0 s23)) (ifz x3 (bn (b_X6_right v3 x2 0 s4) (fun v25 s25 => okR 0 s25)) (bn (b_X6_right v3 x2 2 s4) (fun v26 s26 => okR 0 s26))))) (bn (b_X6_child v3 13 (m_at s4) s4) (fun v27 s27 => bn (b_X6_push 4 v27 3 s27) (fun v28 s28 => bn (b_X6_operand v27 3 s28) (fun v29 s29 => okR 0 s29)))))) (ck (x2 < 2147483648) (ifz (f_X6_has x2 16) (bn (b_X6_push 56 v3 1 s4) (fun v32 s32 => ck (x2 < 2147483648) (ifz (f_X6_has x2 16) (ck (x2 < 2147483648) (ifz (f_X6_has x2 8) (bn (b_X6_right v3 x2 0 s32) (fun v37 s37 => okR 0 s37)) (ifz x3 (bn (b_X6_right v3 x2 0 s32) (fun v39 s39 => okR 0 s39)) (bn (b_X6_right v3 x2 2 s32) (fun v40 s40 => okR 0 s40))))) (bn (b_X6_child v3 13 (m_at s32) s32) (fun v41 s41 => bn (b_X6_push 4 v41 3 s41) (fun v42 s42 => bn (b_X6_operand v41 3 s42) (fun v43 s43 => okR 0 s43))))))) (bn (b_X6_push 56 v3 2 s4) (fun v44 s44 => ck (x2 < 2147483648) (ifz (f_X6_has x2 16) (ck (x2 < 2147483648) (ifz (f_X6_has x2 8) (bn (b_X6_right v3 x2 0 s44) (fun v49 s49 => okR 0 s49)) (ifz x3 (bn (b_X6_right v3 x2 0 s44) (fun v51 s51 => okR 0 s51)) (bn (b_X6_right v3 x2 2 s44) (fun v52 s52 => okR 0 s52))))) (bn (b_X6_child v3 13 (m_at s44) s44) (fun v53 s53 => bn (b_X6_push 4 v53 3 s53) (fun v54 s54 => bn (b_X6_operand v53 3 s54) (fun v55 s55 => okR 0 s55)))))))))))))) (okR 0 s1))
theorem w_X6_define {xs : Nat → Int32} {L : Nat} {h0 : mm_H} (G : Mg h0) {x1 : Nat} {x2 : Nat} {x3 : Nat} {s : Mm} {d : Nat} (hd : 13 ≤ d) (hN : b_X6_define  x1 x2 x3 s ≠ none) : Rn xs L d 204 [.ref 10, .int (nI x1), .int (nI x2), .int (nI x3)] (TM h0 s) (ou eU (TM h0) (b_X6_define  x1 x2 x3 s)) := by
  unfold Rn
  unfold b_X6_define at hN ⊢
  refine e_aload_n m_X6_define dX6_define_0 rfl rfl rfl ?_
  refine e_iload_n m_X6_define dX6_define_1 rfl rfl ?_
  refine e_iload_n m_X6_define dX6_define_2 rfl rfl ?_
  refine e_cvN (as := [.int (nI x1), .int (nI x2)]) hN m_X6_define dX6_define_3 c_RX6_205 (by decide) rfl rfl (gM_m G) rfl (Nat.le_of_ble_eq_true rfl) (Nat.le_of_ble_eq_true rfl) (by omega) (w_X6_ranges G (by omega)) (fun v1 s1 hN => ?_)
  refine e_ifeq (t := 10) hN m_X6_define dX6_define_6 (by decide) (fun q2 hN => ?_) (fun q2 hN => ?_)
  · refine e_aload_n m_X6_define dX6_define_10 rfl rfl rfl ?_
    refine e_iload_n m_X6_define dX6_define_11 rfl rfl ?_
    refine e_bipush (v := nI 56) m_X6_define dX6_define_12 (by decide) ?_
    refine e_aload_n m_X6_define dX6_define_14 rfl rfl rfl ?_
    refine e_getf m_X6_define dX6_define_15 f_RX6_77 (gM_m G) rfl ?_
    refine e_cvN (as := [.int (nI x1), .int (nI 56), .int (nI (m_at s1))]) hN m_X6_define dX6_define_18 c_RX6_114 (by decide) rfl rfl (gM_m G) rfl (Nat.le_of_ble_eq_true rfl) (Nat.le_of_ble_eq_true rfl) (by omega) (w_X6_wrap G (by omega)) (fun v3 s3 hN => ?_)
    refine e_istore m_X6_define dX6_define_21 (by decide) rfl ?_
    refine e_aload_n m_X6_define dX6_define_23 rfl rfl rfl ?_
    refine e_dup m_X6_define dX6_define_24 rfl ?_
    refine e_getf m_X6_define dX6_define_25 f_RX6_77 (gM_m G) rfl ?_
    refine e_iconst (v := nI 1) m_X6_define dX6_define_28 (by decide) ?_
    refine e_iaddN m_X6_define dX6_define_29 ?_
    refine e_putf (v := .int (nI ((m_at s3) + 1))) (h' := TM h0 (w_at s3 ((m_at s3) + 1))) m_X6_define dX6_define_30 f_RX6_77 (gM_m G) (Nat.le_of_ble_eq_true rfl) (fit_i rfl) rfl (hpL_set (k := 10) (by decide) (Nat.le_of_ble_eq_true rfl)) ?_
    refine e_st hN (fun s4 hN => ?_)
    refine e_iload_n m_X6_define dX6_define_33 rfl rfl ?_
    refine e_bipush (v := nI 8) m_X6_define dX6_define_34 (by decide) ?_
    refine e_ck hN (fun q5 hN => ?_)
    refine e_cs (as := [_, _]) m_X6_define dX6_define_36 c_RX6_133 (by decide) rfl rfl (Nat.le_of_ble_eq_true rfl) (Nat.le_of_ble_eq_true rfl) (by omega) (z_X6_has q5 (by decide) (by omega)) ?_
    refine e_ifeq (t := 68) hN m_X6_define dX6_define_39 (by decide) (fun q6 hN => ?_) (fun q6 hN => ?_)
    · refine e_iload_n m_X6_define dX6_define_68 rfl rfl ?_
      refine e_bipush (v := nI 16) m_X6_define dX6_define_69 (by decide) ?_
      refine e_ck hN (fun q7 hN => ?_)
      refine e_cs (as := [_, _]) m_X6_define dX6_define_71 c_RX6_133 (by decide) rfl rfl (Nat.le_of_ble_eq_true rfl) (Nat.le_of_ble_eq_true rfl) (by omega) (z_X6_has q7 (by decide) (by omega)) ?_
      refine e_ifne (t := 103) hN m_X6_define dX6_define_74 (by decide) (fun q8 hN => ?_) (fun q8 hN => ?_)
      · refine e_aload_n m_X6_define dX6_define_77 rfl rfl rfl ?_
        refine e_iload m_X6_define dX6_define_78 rfl ?_
        refine e_iload_n m_X6_define dX6_define_80 rfl rfl ?_
        refine e_iload_n m_X6_define dX6_define_81 rfl rfl ?_
        refine e_bipush (v := nI 8) m_X6_define dX6_define_82 (by decide) ?_
        refine e_ck hN (fun q9 hN => ?_)
        refine e_cs (as := [_, _]) m_X6_define dX6_define_84 c_RX6_133 (by decide) rfl rfl (Nat.le_of_ble_eq_true rfl) (Nat.le_of_ble_eq_true rfl) (by omega) (z_X6_has q9 (by decide) (by omega)) ?_
        refine e_ifeq (t := 98) hN m_X6_define dX6_define_87 (by decide) (fun q10 hN => ?_) (fun q10 hN => ?_)
        · refine e_iconst (v := nI 0) m_X6_define dX6_define_98 (by decide) ?_
          refine e_cvU (as := [.int (nI v3), .int (nI x2), .int (nI 0)]) hN m_X6_define dX6_define_99 c_RX6_208 (by decide) rfl rfl (gM_m G) rfl (Nat.le_of_ble_eq_true rfl) (Nat.le_of_ble_eq_true rfl) (by omega) (w_X6_right G (by omega)) (fun v11 s11 hN => ?_)
          exact e_ret0 m_X6_define dX6_define_102
        · refine e_iload_n m_X6_define dX6_define_90 rfl rfl ?_
          refine e_ifeq (t := 98) hN m_X6_define dX6_define_91 (by decide) (fun q12 hN => ?_) (fun q12 hN => ?_)
          · refine e_iconst (v := nI 0) m_X6_define dX6_define_98 (by decide) ?_
            refine e_cvU (as := [.int (nI v3), .int (nI x2), .int (nI 0)]) hN m_X6_define dX6_define_99 c_RX6_208 (by decide) rfl rfl (gM_m G) rfl (Nat.le_of_ble_eq_true rfl) (Nat.le_of_ble_eq_true rfl) (by omega) (w_X6_right G (by omega)) (fun v13 s13 hN => ?_)
            exact e_ret0 m_X6_define dX6_define_102
          · refine e_iconst (v := nI 2) m_X6_define dX6_define_94 (by decide) ?_
            refine e_goto (t := 99) m_X6_define dX6_define_95 (by decide) ?_
            refine e_cvU (as := [.int (nI v3), .int (nI x2), .int (nI 2)]) hN m_X6_define dX6_define_99 c_RX6_208 (by decide) rfl rfl (gM_m G) rfl (Nat.le_of_ble_eq_true rfl) (Nat.le_of_ble_eq_true rfl) (by omega) (w_X6_right G (by omega)) (fun v14 s14 hN => ?_)
            exact e_ret0 m_X6_define dX6_define_102
      · refine e_aload_n m_X6_define dX6_define_103 rfl rfl rfl ?_
        refine e_iload m_X6_define dX6_define_104 rfl ?_
        refine e_bipush (v := nI 13) m_X6_define dX6_define_106 (by decide) ?_
        refine e_aload_n m_X6_define dX6_define_108 rfl rfl rfl ?_
        refine e_getf m_X6_define dX6_define_109 f_RX6_77 (gM_m G) rfl ?_
        refine e_cvN (as := [.int (nI v3), .int (nI 13), .int (nI (m_at s4))]) hN m_X6_define dX6_define_112 c_RX6_99 (by decide) rfl rfl (gM_m G) rfl (Nat.le_of_ble_eq_true rfl) (Nat.le_of_ble_eq_true rfl) (by omega) (w_X6_child G (by omega)) (fun v15 s15 hN => ?_)
        refine e_istore m_X6_define dX6_define_115 (by decide) rfl ?_
        refine e_aload_n m_X6_define dX6_define_117 rfl rfl rfl ?_
        refine e_iconst (v := nI 4) m_X6_define dX6_define_118 (by decide) ?_
        refine e_iload m_X6_define dX6_define_119 rfl ?_
        refine e_iconst (v := nI 3) m_X6_define dX6_define_121 (by decide) ?_
        refine e_cvU (as := [.int (nI 4), .int (nI v15), .int (nI 3)]) hN m_X6_define dX6_define_122 c_RX6_106 (by decide) rfl rfl (gM_m G) rfl (Nat.le_of_ble_eq_true rfl) (Nat.le_of_ble_eq_true rfl) (by omega) (w_X6_push G (by omega)) (fun v16 s16 hN => ?_)
        refine e_aload_n m_X6_define dX6_define_125 rfl rfl rfl ?_
        refine e_iload m_X6_define dX6_define_126 rfl ?_
        refine e_iconst (v := nI 3) m_X6_define dX6_define_128 (by decide) ?_
        refine e_cvU (as := [.int (nI v15), .int (nI 3)]) hN m_X6_define dX6_define_129 c_RX6_126 (by decide) rfl rfl (gM_m G) rfl (Nat.le_of_ble_eq_true rfl) (Nat.le_of_ble_eq_true rfl) (by omega) (w_X6_operand G (by omega)) (fun v17 s17 hN => ?_)
        exact e_ret0 m_X6_define dX6_define_132
    · refine e_iload_n m_X6_define dX6_define_42 rfl rfl ?_
      refine e_ifeq (t := 68) hN m_X6_define dX6_define_43 (by decide) (fun q18 hN => ?_) (fun q18 hN => ?_)
      · refine e_iload_n m_X6_define dX6_define_68 rfl rfl ?_
        refine e_bipush (v := nI 16) m_X6_define dX6_define_69 (by decide) ?_
        refine e_ck hN (fun q19 hN => ?_)
        refine e_cs (as := [_, _]) m_X6_define dX6_define_71 c_RX6_133 (by decide) rfl rfl (Nat.le_of_ble_eq_true rfl) (Nat.le_of_ble_eq_true rfl) (by omega) (z_X6_has q19 (by decide) (by omega)) ?_
        refine e_ifne (t := 103) hN m_X6_define dX6_define_74 (by decide) (fun q20 hN => ?_) (fun q20 hN => ?_)
        · refine e_aload_n m_X6_define dX6_define_77 rfl rfl rfl ?_
          refine e_iload m_X6_define dX6_define_78 rfl ?_
          refine e_iload_n m_X6_define dX6_define_80 rfl rfl ?_
          refine e_iload_n m_X6_define dX6_define_81 rfl rfl ?_
          refine e_bipush (v := nI 8) m_X6_define dX6_define_82 (by decide) ?_
          refine e_ck hN (fun q21 hN => ?_)
          refine e_cs (as := [_, _]) m_X6_define dX6_define_84 c_RX6_133 (by decide) rfl rfl (Nat.le_of_ble_eq_true rfl) (Nat.le_of_ble_eq_true rfl) (by omega) (z_X6_has q21 (by decide) (by omega)) ?_
          refine e_ifeq (t := 98) hN m_X6_define dX6_define_87 (by decide) (fun q22 hN => ?_) (fun q22 hN => ?_)
          · refine e_iconst (v := nI 0) m_X6_define dX6_define_98 (by decide) ?_
            refine e_cvU (as := [.int (nI v3), .int (nI x2), .int (nI 0)]) hN m_X6_define dX6_define_99 c_RX6_208 (by decide) rfl rfl (gM_m G) rfl (Nat.le_of_ble_eq_true rfl) (Nat.le_of_ble_eq_true rfl) (by omega) (w_X6_right G (by omega)) (fun v23 s23 hN => ?_)
            exact e_ret0 m_X6_define dX6_define_102
          · refine e_iload_n m_X6_define dX6_define_90 rfl rfl ?_
            refine e_ifeq (t := 98) hN m_X6_define dX6_define_91 (by decide) (fun q24 hN => ?_) (fun q24 hN => ?_)
            · refine e_iconst (v := nI 0) m_X6_define dX6_define_98 (by decide) ?_
              refine e_cvU (as := [.int (nI v3), .int (nI x2), .int (nI 0)]) hN m_X6_define dX6_define_99 c_RX6_208 (by decide) rfl rfl (gM_m G) rfl (Nat.le_of_ble_eq_true rfl) (Nat.le_of_ble_eq_true rfl) (by omega) (w_X6_right G (by omega)) (fun v25 s25 hN => ?_)
              exact e_ret0 m_X6_define dX6_define_102
            · refine e_iconst (v := nI 2) m_X6_define dX6_define_94 (by decide) ?_
              refine e_goto (t := 99) m_X6_define dX6_define_95 (by decide) ?_
              refine e_cvU (as := [.int (nI v3), .int (nI x2), .int (nI 2)]) hN m_X6_define dX6_define_99 c_RX6_208 (by decide) rfl rfl (gM_m G) rfl (Nat.le_of_ble_eq_true rfl) (Nat.le_of_ble_eq_true rfl) (by omega) (w_X6_right G (by omega)) (fun v26 s26 hN => ?_)
              exact e_ret0 m_X6_define dX6_define_102
        · refine e_aload_n m_X6_define dX6_define_103 rfl rfl rfl ?_
          refine e_iload m_X6_define dX6_define_104 rfl ?_
          refine e_bipush (v := nI 13) m_X6_define dX6_define_106 (by decide) ?_
          refine e_aload_n m_X6_define dX6_define_108 rfl rfl rfl ?_
          refine e_getf m_X6_define dX6_define_109 f_RX6_77 (gM_m G) rfl ?_
          refine e_cvN (as := [.int (nI v3), .int (nI 13), .int (nI (m_at s4))]) hN m_X6_define dX6_define_112 c_RX6_99 (by decide) rfl rfl (gM_m G) rfl (Nat.le_of_ble_eq_true rfl) (Nat.le_of_ble_eq_true rfl) (by omega) (w_X6_child G (by omega)) (fun v27 s27 hN => ?_)
          refine e_istore m_X6_define dX6_define_115 (by decide) rfl ?_
          refine e_aload_n m_X6_define dX6_define_117 rfl rfl rfl ?_
          refine e_iconst (v := nI 4) m_X6_define dX6_define_118 (by decide) ?_
          refine e_iload m_X6_define dX6_define_119 rfl ?_
          refine e_iconst (v := nI 3) m_X6_define dX6_define_121 (by decide) ?_
          refine e_cvU (as := [.int (nI 4), .int (nI v27), .int (nI 3)]) hN m_X6_define dX6_define_122 c_RX6_106 (by decide) rfl rfl (gM_m G) rfl (Nat.le_of_ble_eq_true rfl) (Nat.le_of_ble_eq_true rfl) (by omega) (w_X6_push G (by omega)) (fun v28 s28 hN => ?_)
          refine e_aload_n m_X6_define dX6_define_125 rfl rfl rfl ?_
          refine e_iload m_X6_define dX6_define_126 rfl ?_
          refine e_iconst (v := nI 3) m_X6_define dX6_define_128 (by decide) ?_
          refine e_cvU (as := [.int (nI v27), .int (nI 3)]) hN m_X6_define dX6_define_129 c_RX6_126 (by decide) rfl rfl (gM_m G) rfl (Nat.le_of_ble_eq_true rfl) (Nat.le_of_ble_eq_true rfl) (by omega) (w_X6_operand G (by omega)) (fun v29 s29 hN => ?_)
          exact e_ret0 m_X6_define dX6_define_132
      · refine e_aload_n m_X6_define dX6_define_46 rfl rfl rfl ?_
        refine e_bipush (v := nI 56) m_X6_define dX6_define_47 (by decide) ?_
        refine e_iload m_X6_define dX6_define_49 rfl ?_
        refine e_iload_n m_X6_define dX6_define_51 rfl rfl ?_
        refine e_bipush (v := nI 16) m_X6_define dX6_define_52 (by decide) ?_
        refine e_ck hN (fun q30 hN => ?_)
        refine e_cs (as := [_, _]) m_X6_define dX6_define_54 c_RX6_133 (by decide) rfl rfl (Nat.le_of_ble_eq_true rfl) (Nat.le_of_ble_eq_true rfl) (by omega) (z_X6_has q30 (by decide) (by omega)) ?_
        refine e_ifeq (t := 64) hN m_X6_define dX6_define_57 (by decide) (fun q31 hN => ?_) (fun q31 hN => ?_)
        · refine e_iconst (v := nI 1) m_X6_define dX6_define_64 (by decide) ?_
          refine e_cvU (as := [.int (nI 56), .int (nI v3), .int (nI 1)]) hN m_X6_define dX6_define_65 c_RX6_106 (by decide) rfl rfl (gM_m G) rfl (Nat.le_of_ble_eq_true rfl) (Nat.le_of_ble_eq_true rfl) (by omega) (w_X6_push G (by omega)) (fun v32 s32 hN => ?_)
          refine e_iload_n m_X6_define dX6_define_68 rfl rfl ?_
          refine e_bipush (v := nI 16) m_X6_define dX6_define_69 (by decide) ?_
          refine e_ck hN (fun q33 hN => ?_)
          refine e_cs (as := [_, _]) m_X6_define dX6_define_71 c_RX6_133 (by decide) rfl rfl (Nat.le_of_ble_eq_true rfl) (Nat.le_of_ble_eq_true rfl) (by omega) (z_X6_has q33 (by decide) (by omega)) ?_
          refine e_ifne (t := 103) hN m_X6_define dX6_define_74 (by decide) (fun q34 hN => ?_) (fun q34 hN => ?_)
          · refine e_aload_n m_X6_define dX6_define_77 rfl rfl rfl ?_
            refine e_iload m_X6_define dX6_define_78 rfl ?_
            refine e_iload_n m_X6_define dX6_define_80 rfl rfl ?_
            refine e_iload_n m_X6_define dX6_define_81 rfl rfl ?_
            refine e_bipush (v := nI 8) m_X6_define dX6_define_82 (by decide) ?_
            refine e_ck hN (fun q35 hN => ?_)
            refine e_cs (as := [_, _]) m_X6_define dX6_define_84 c_RX6_133 (by decide) rfl rfl (Nat.le_of_ble_eq_true rfl) (Nat.le_of_ble_eq_true rfl) (by omega) (z_X6_has q35 (by decide) (by omega)) ?_
            refine e_ifeq (t := 98) hN m_X6_define dX6_define_87 (by decide) (fun q36 hN => ?_) (fun q36 hN => ?_)
            · refine e_iconst (v := nI 0) m_X6_define dX6_define_98 (by decide) ?_
              refine e_cvU (as := [.int (nI v3), .int (nI x2), .int (nI 0)]) hN m_X6_define dX6_define_99 c_RX6_208 (by decide) rfl rfl (gM_m G) rfl (Nat.le_of_ble_eq_true rfl) (Nat.le_of_ble_eq_true rfl) (by omega) (w_X6_right G (by omega)) (fun v37 s37 hN => ?_)
              exact e_ret0 m_X6_define dX6_define_102
            · refine e_iload_n m_X6_define dX6_define_90 rfl rfl ?_
              refine e_ifeq (t := 98) hN m_X6_define dX6_define_91 (by decide) (fun q38 hN => ?_) (fun q38 hN => ?_)
              · refine e_iconst (v := nI 0) m_X6_define dX6_define_98 (by decide) ?_
                refine e_cvU (as := [.int (nI v3), .int (nI x2), .int (nI 0)]) hN m_X6_define dX6_define_99 c_RX6_208 (by decide) rfl rfl (gM_m G) rfl (Nat.le_of_ble_eq_true rfl) (Nat.le_of_ble_eq_true rfl) (by omega) (w_X6_right G (by omega)) (fun v39 s39 hN => ?_)
                exact e_ret0 m_X6_define dX6_define_102
              · refine e_iconst (v := nI 2) m_X6_define dX6_define_94 (by decide) ?_
                refine e_goto (t := 99) m_X6_define dX6_define_95 (by decide) ?_
                refine e_cvU (as := [.int (nI v3), .int (nI x2), .int (nI 2)]) hN m_X6_define dX6_define_99 c_RX6_208 (by decide) rfl rfl (gM_m G) rfl (Nat.le_of_ble_eq_true rfl) (Nat.le_of_ble_eq_true rfl) (by omega) (w_X6_right G (by omega)) (fun v40 s40 hN => ?_)
                exact e_ret0 m_X6_define dX6_define_102
          · refine e_aload_n m_X6_define dX6_define_103 rfl rfl rfl ?_
            refine e_iload m_X6_define dX6_define_104 rfl ?_
            refine e_bipush (v := nI 13) m_X6_define dX6_define_106 (by decide) ?_
            refine e_aload_n m_X6_define dX6_define_108 rfl rfl rfl ?_
            refine e_getf m_X6_define dX6_define_109 f_RX6_77 (gM_m G) rfl ?_
            refine e_cvN (as := [.int (nI v3), .int (nI 13), .int (nI (m_at s32))]) hN m_X6_define dX6_define_112 c_RX6_99 (by decide) rfl rfl (gM_m G) rfl (Nat.le_of_ble_eq_true rfl) (Nat.le_of_ble_eq_true rfl) (by omega) (w_X6_child G (by omega)) (fun v41 s41 hN => ?_)
            refine e_istore m_X6_define dX6_define_115 (by decide) rfl ?_
            refine e_aload_n m_X6_define dX6_define_117 rfl rfl rfl ?_
            refine e_iconst (v := nI 4) m_X6_define dX6_define_118 (by decide) ?_
            refine e_iload m_X6_define dX6_define_119 rfl ?_
            refine e_iconst (v := nI 3) m_X6_define dX6_define_121 (by decide) ?_
            refine e_cvU (as := [.int (nI 4), .int (nI v41), .int (nI 3)]) hN m_X6_define dX6_define_122 c_RX6_106 (by decide) rfl rfl (gM_m G) rfl (Nat.le_of_ble_eq_true rfl) (Nat.le_of_ble_eq_true rfl) (by omega) (w_X6_push G (by omega)) (fun v42 s42 hN => ?_)
            refine e_aload_n m_X6_define dX6_define_125 rfl rfl rfl ?_
            refine e_iload m_X6_define dX6_define_126 rfl ?_
            refine e_iconst (v := nI 3) m_X6_define dX6_define_128 (by decide) ?_
            refine e_cvU (as := [.int (nI v41), .int (nI 3)]) hN m_X6_define dX6_define_129 c_RX6_126 (by decide) rfl rfl (gM_m G) rfl (Nat.le_of_ble_eq_true rfl) (Nat.le_of_ble_eq_true rfl) (by omega) (w_X6_operand G (by omega)) (fun v43 s43 hN => ?_)
            exact e_ret0 m_X6_define dX6_define_132
        · refine e_iconst (v := nI 2) m_X6_define dX6_define_60 (by decide) ?_
          refine e_goto (t := 65) m_X6_define dX6_define_61 (by decide) ?_
          refine e_cvU (as := [.int (nI 56), .int (nI v3), .int (nI 2)]) hN m_X6_define dX6_define_65 c_RX6_106 (by decide) rfl rfl (gM_m G) rfl (Nat.le_of_ble_eq_true rfl) (Nat.le_of_ble_eq_true rfl) (by omega) (w_X6_push G (by omega)) (fun v44 s44 hN => ?_)
          refine e_iload_n m_X6_define dX6_define_68 rfl rfl ?_
          refine e_bipush (v := nI 16) m_X6_define dX6_define_69 (by decide) ?_
          refine e_ck hN (fun q45 hN => ?_)
          refine e_cs (as := [_, _]) m_X6_define dX6_define_71 c_RX6_133 (by decide) rfl rfl (Nat.le_of_ble_eq_true rfl) (Nat.le_of_ble_eq_true rfl) (by omega) (z_X6_has q45 (by decide) (by omega)) ?_
          refine e_ifne (t := 103) hN m_X6_define dX6_define_74 (by decide) (fun q46 hN => ?_) (fun q46 hN => ?_)
          · refine e_aload_n m_X6_define dX6_define_77 rfl rfl rfl ?_
            refine e_iload m_X6_define dX6_define_78 rfl ?_
            refine e_iload_n m_X6_define dX6_define_80 rfl rfl ?_
            refine e_iload_n m_X6_define dX6_define_81 rfl rfl ?_
            refine e_bipush (v := nI 8) m_X6_define dX6_define_82 (by decide) ?_
            refine e_ck hN (fun q47 hN => ?_)
            refine e_cs (as := [_, _]) m_X6_define dX6_define_84 c_RX6_133 (by decide) rfl rfl (Nat.le_of_ble_eq_true rfl) (Nat.le_of_ble_eq_true rfl) (by omega) (z_X6_has q47 (by decide) (by omega)) ?_
            refine e_ifeq (t := 98) hN m_X6_define dX6_define_87 (by decide) (fun q48 hN => ?_) (fun q48 hN => ?_)
            · refine e_iconst (v := nI 0) m_X6_define dX6_define_98 (by decide) ?_
              refine e_cvU (as := [.int (nI v3), .int (nI x2), .int (nI 0)]) hN m_X6_define dX6_define_99 c_RX6_208 (by decide) rfl rfl (gM_m G) rfl (Nat.le_of_ble_eq_true rfl) (Nat.le_of_ble_eq_true rfl) (by omega) (w_X6_right G (by omega)) (fun v49 s49 hN => ?_)
              exact e_ret0 m_X6_define dX6_define_102
            · refine e_iload_n m_X6_define dX6_define_90 rfl rfl ?_
              refine e_ifeq (t := 98) hN m_X6_define dX6_define_91 (by decide) (fun q50 hN => ?_) (fun q50 hN => ?_)
              · refine e_iconst (v := nI 0) m_X6_define dX6_define_98 (by decide) ?_
                refine e_cvU (as := [.int (nI v3), .int (nI x2), .int (nI 0)]) hN m_X6_define dX6_define_99 c_RX6_208 (by decide) rfl rfl (gM_m G) rfl (Nat.le_of_ble_eq_true rfl) (Nat.le_of_ble_eq_true rfl) (by omega) (w_X6_right G (by omega)) (fun v51 s51 hN => ?_)
                exact e_ret0 m_X6_define dX6_define_102
              · refine e_iconst (v := nI 2) m_X6_define dX6_define_94 (by decide) ?_
                refine e_goto (t := 99) m_X6_define dX6_define_95 (by decide) ?_
                refine e_cvU (as := [.int (nI v3), .int (nI x2), .int (nI 2)]) hN m_X6_define dX6_define_99 c_RX6_208 (by decide) rfl rfl (gM_m G) rfl (Nat.le_of_ble_eq_true rfl) (Nat.le_of_ble_eq_true rfl) (by omega) (w_X6_right G (by omega)) (fun v52 s52 hN => ?_)
                exact e_ret0 m_X6_define dX6_define_102
          · refine e_aload_n m_X6_define dX6_define_103 rfl rfl rfl ?_
            refine e_iload m_X6_define dX6_define_104 rfl ?_
            refine e_bipush (v := nI 13) m_X6_define dX6_define_106 (by decide) ?_
            refine e_aload_n m_X6_define dX6_define_108 rfl rfl rfl ?_
            refine e_getf m_X6_define dX6_define_109 f_RX6_77 (gM_m G) rfl ?_
            refine e_cvN (as := [.int (nI v3), .int (nI 13), .int (nI (m_at s44))]) hN m_X6_define dX6_define_112 c_RX6_99 (by decide) rfl rfl (gM_m G) rfl (Nat.le_of_ble_eq_true rfl) (Nat.le_of_ble_eq_true rfl) (by omega) (w_X6_child G (by omega)) (fun v53 s53 hN => ?_)
            refine e_istore m_X6_define dX6_define_115 (by decide) rfl ?_
            refine e_aload_n m_X6_define dX6_define_117 rfl rfl rfl ?_
            refine e_iconst (v := nI 4) m_X6_define dX6_define_118 (by decide) ?_
            refine e_iload m_X6_define dX6_define_119 rfl ?_
            refine e_iconst (v := nI 3) m_X6_define dX6_define_121 (by decide) ?_
            refine e_cvU (as := [.int (nI 4), .int (nI v53), .int (nI 3)]) hN m_X6_define dX6_define_122 c_RX6_106 (by decide) rfl rfl (gM_m G) rfl (Nat.le_of_ble_eq_true rfl) (Nat.le_of_ble_eq_true rfl) (by omega) (w_X6_push G (by omega)) (fun v54 s54 hN => ?_)
            refine e_aload_n m_X6_define dX6_define_125 rfl rfl rfl ?_
            refine e_iload m_X6_define dX6_define_126 rfl ?_
            refine e_iconst (v := nI 3) m_X6_define dX6_define_128 (by decide) ?_
            refine e_cvU (as := [.int (nI v53), .int (nI 3)]) hN m_X6_define dX6_define_129 c_RX6_126 (by decide) rfl rfl (gM_m G) rfl (Nat.le_of_ble_eq_true rfl) (Nat.le_of_ble_eq_true rfl) (by omega) (w_X6_operand G (by omega)) (fun v55 s55 hN => ?_)
            exact e_ret0 m_X6_define dX6_define_132
  · exact e_ret0 m_X6_define dX6_define_9

def b_X6_ifElse  (x1 : Nat) (s : Mm) : Rs Mm := bn (b_X6_look  s) (fun v1 s1 => ife v1 17 (bn (b_X6_more  s1) (fun v3 s3 => st1 (w_at s3 ((m_at s3) + 1)) (fun s4 => bn (b_X6_push 6 x1 0 s4) (fun v5 s5 => bn (b_X6_look  s5) (fun v6 s6 => ife v6 23 (bn (b_X6_ifs x1 s6) (fun v8 s8 => okR 0 s8)) (bn (b_X6_block x1 s6) (fun v9 s9 => okR 0 s9))))))) (okR 0 s1))
theorem w_X6_ifElse {xs : Nat → Int32} {L : Nat} {h0 : mm_H} (G : Mg h0) {x1 : Nat} {s : Mm} {d : Nat} (hd : 13 ≤ d) (hN : b_X6_ifElse  x1 s ≠ none) : Rn xs L d 208 [.ref 10, .int (nI x1)] (TM h0 s) (ou eU (TM h0) (b_X6_ifElse  x1 s)) := by
  unfold Rn
  unfold b_X6_ifElse at hN ⊢
  refine e_aload_n m_X6_ifElse dX6_ifElse_0 rfl rfl rfl ?_
  refine e_cvN (as := []) hN m_X6_ifElse dX6_ifElse_1 c_RX6_83 (by decide) rfl rfl (gM_m G) rfl (Nat.le_of_ble_eq_true rfl) (Nat.le_of_ble_eq_true rfl) (by omega) (w_X6_look G (by omega)) (fun v1 s1 hN => ?_)
  refine e_bipush (v := nI 17) m_X6_ifElse dX6_ifElse_4 (by decide) ?_
  refine e_ieq (t := 10) (a := v1) (b := 17) hN m_X6_ifElse dX6_ifElse_6 (by decide) (fun q2 hN => ?_) (fun q2 hN => ?_)
  · refine e_aload_n m_X6_ifElse dX6_ifElse_10 rfl rfl rfl ?_
    refine e_cvU (as := []) hN m_X6_ifElse dX6_ifElse_11 c_RX6_123 (by decide) rfl rfl (gM_m G) rfl (Nat.le_of_ble_eq_true rfl) (Nat.le_of_ble_eq_true rfl) (by omega) (w_X6_more G (by omega)) (fun v3 s3 hN => ?_)
    refine e_aload_n m_X6_ifElse dX6_ifElse_14 rfl rfl rfl ?_
    refine e_dup m_X6_ifElse dX6_ifElse_15 rfl ?_
    refine e_getf m_X6_ifElse dX6_ifElse_16 f_RX6_77 (gM_m G) rfl ?_
    refine e_iconst (v := nI 1) m_X6_ifElse dX6_ifElse_19 (by decide) ?_
    refine e_iaddN m_X6_ifElse dX6_ifElse_20 ?_
    refine e_putf (v := .int (nI ((m_at s3) + 1))) (h' := TM h0 (w_at s3 ((m_at s3) + 1))) m_X6_ifElse dX6_ifElse_21 f_RX6_77 (gM_m G) (Nat.le_of_ble_eq_true rfl) (fit_i rfl) rfl (hpL_set (k := 10) (by decide) (Nat.le_of_ble_eq_true rfl)) ?_
    refine e_st hN (fun s4 hN => ?_)
    refine e_aload_n m_X6_ifElse dX6_ifElse_24 rfl rfl rfl ?_
    refine e_bipush (v := nI 6) m_X6_ifElse dX6_ifElse_25 (by decide) ?_
    refine e_iload_n m_X6_ifElse dX6_ifElse_27 rfl rfl ?_
    refine e_iconst (v := nI 0) m_X6_ifElse dX6_ifElse_28 (by decide) ?_
    refine e_cvU (as := [.int (nI 6), .int (nI x1), .int (nI 0)]) hN m_X6_ifElse dX6_ifElse_29 c_RX6_106 (by decide) rfl rfl (gM_m G) rfl (Nat.le_of_ble_eq_true rfl) (Nat.le_of_ble_eq_true rfl) (by omega) (w_X6_push G (by omega)) (fun v5 s5 hN => ?_)
    refine e_aload_n m_X6_ifElse dX6_ifElse_32 rfl rfl rfl ?_
    refine e_cvN (as := []) hN m_X6_ifElse dX6_ifElse_33 c_RX6_83 (by decide) rfl rfl (gM_m G) rfl (Nat.le_of_ble_eq_true rfl) (Nat.le_of_ble_eq_true rfl) (by omega) (w_X6_look G (by omega)) (fun v6 s6 hN => ?_)
    refine e_bipush (v := nI 23) m_X6_ifElse dX6_ifElse_36 (by decide) ?_
    refine e_ine (t := 49) (a := v6) (b := 23) hN m_X6_ifElse dX6_ifElse_38 (by decide) (fun q7 hN => ?_) (fun q7 hN => ?_)
    · refine e_aload_n m_X6_ifElse dX6_ifElse_41 rfl rfl rfl ?_
      refine e_iload_n m_X6_ifElse dX6_ifElse_42 rfl rfl ?_
      refine e_cvU (as := [.int (nI x1)]) hN m_X6_ifElse dX6_ifElse_43 c_RX6_183 (by decide) rfl rfl (gM_m G) rfl (Nat.le_of_ble_eq_true rfl) (Nat.le_of_ble_eq_true rfl) (by omega) (w_X6_ifs G (by omega)) (fun v8 s8 hN => ?_)
      refine e_goto (t := 54) m_X6_ifElse dX6_ifElse_46 (by decide) ?_
      exact e_ret0 m_X6_ifElse dX6_ifElse_54
    · refine e_aload_n m_X6_ifElse dX6_ifElse_49 rfl rfl rfl ?_
      refine e_iload_n m_X6_ifElse dX6_ifElse_50 rfl rfl ?_
      refine e_cvU (as := [.int (nI x1)]) hN m_X6_ifElse dX6_ifElse_51 c_RX6_180 (by decide) rfl rfl (gM_m G) rfl (Nat.le_of_ble_eq_true rfl) (Nat.le_of_ble_eq_true rfl) (by omega) (w_X6_block G (by omega)) (fun v9 s9 hN => ?_)
      exact e_ret0 m_X6_ifElse dX6_ifElse_54
  · exact e_ret0 m_X6_ifElse dX6_ifElse_9

def b_X6_forRest  (x1 : Nat) (s : Mm) : Rs Mm := ck (x1 < 65536) (ck ((m_la s x1) ≠ 0) (ck (((m_la s x1) - 1) < 65536) (ife (m_wh s ((m_la s x1) - 1)) 66 (bn (b_X6_block x1 s) (fun v5 s5 => okR 0 s5)) (bn (b_X6_look  s) (fun v6 s6 => ife v6 85 (bn (b_X6_wrap x1 63 (m_at s6) s6) (fun v8 s8 => st1 (w_at s8 ((m_at s8) + 1)) (fun s9 => bn (b_X6_condition x1 s9) (fun v10 s10 => okR 0 s10)))) (ck (x1 < 65536) (ck ((m_la s6 x1) ≠ 0) (ck (((m_la s6 x1) - 1) < 65536) (ife (m_wh s6 ((m_la s6 x1) - 1)) 50 (bn (b_X6_unwrap x1 s6) (fun v15 s15 => bn (b_X6_block x1 s15) (fun v16 s16 => okR 0 s16))) (bn (b_X6_error  s6) (fun v17 s17 => okR 0 s17)))))))))))
theorem w_X6_forRest {xs : Nat → Int32} {L : Nat} {h0 : mm_H} (G : Mg h0) {x1 : Nat} {s : Mm} {d : Nat} (hd : 13 ≤ d) (hN : b_X6_forRest  x1 s ≠ none) : Rn xs L d 209 [.ref 10, .int (nI x1)] (TM h0 s) (ou eU (TM h0) (b_X6_forRest  x1 s)) := by
  unfold Rn
  unfold b_X6_forRest at hN ⊢
  refine e_aload_n m_X6_forRest dX6_forRest_0 rfl rfl rfl ?_
  refine e_getf m_X6_forRest dX6_forRest_1 f_RX6_14 (gM_m G) rfl ?_
  refine e_aload_n m_X6_forRest dX6_forRest_4 rfl rfl rfl ?_
  refine e_getf m_X6_forRest dX6_forRest_5 f_RX6_27 (gM_m G) rfl ?_
  refine e_iload_n m_X6_forRest dX6_forRest_8 rfl rfl ?_
  refine e_ck hN (fun q1 hN => ?_)
  refine e_aldO q1 (by decide) (Or.inl ⟨rfl, rfl⟩) m_X6_forRest dX6_forRest_9 (gM_la G) ?_
  refine e_ck hN (fun q2 hN => ?_)
  rw [oI_p q2]
  refine e_ck hN (fun q3 hN => ?_)
  refine e_aldN q3 (by decide) (Or.inl ⟨rfl, rfl⟩) m_X6_forRest dX6_forRest_10 (gM_wh G) ?_
  refine e_bipush (v := nI 66) m_X6_forRest dX6_forRest_11 (by decide) ?_
  refine e_ine (t := 24) (a := (m_wh s ((m_la s x1) - 1))) (b := 66) hN m_X6_forRest dX6_forRest_13 (by decide) (fun q4 hN => ?_) (fun q4 hN => ?_)
  · refine e_aload_n m_X6_forRest dX6_forRest_16 rfl rfl rfl ?_
    refine e_iload_n m_X6_forRest dX6_forRest_17 rfl rfl ?_
    refine e_cvU (as := [.int (nI x1)]) hN m_X6_forRest dX6_forRest_18 c_RX6_180 (by decide) rfl rfl (gM_m G) rfl (Nat.le_of_ble_eq_true rfl) (Nat.le_of_ble_eq_true rfl) (by omega) (w_X6_block G (by omega)) (fun v5 s5 hN => ?_)
    refine e_goto (t := 96) m_X6_forRest dX6_forRest_21 (by decide) ?_
    exact e_ret0 m_X6_forRest dX6_forRest_96
  · refine e_aload_n m_X6_forRest dX6_forRest_24 rfl rfl rfl ?_
    refine e_cvN (as := []) hN m_X6_forRest dX6_forRest_25 c_RX6_83 (by decide) rfl rfl (gM_m G) rfl (Nat.le_of_ble_eq_true rfl) (Nat.le_of_ble_eq_true rfl) (by omega) (w_X6_look G (by omega)) (fun v6 s6 hN => ?_)
    refine e_bipush (v := nI 85) m_X6_forRest dX6_forRest_28 (by decide) ?_
    refine e_ine (t := 63) (a := v6) (b := 85) hN m_X6_forRest dX6_forRest_30 (by decide) (fun q7 hN => ?_) (fun q7 hN => ?_)
    · refine e_aload_n m_X6_forRest dX6_forRest_33 rfl rfl rfl ?_
      refine e_iload_n m_X6_forRest dX6_forRest_34 rfl rfl ?_
      refine e_bipush (v := nI 63) m_X6_forRest dX6_forRest_35 (by decide) ?_
      refine e_aload_n m_X6_forRest dX6_forRest_37 rfl rfl rfl ?_
      refine e_getf m_X6_forRest dX6_forRest_38 f_RX6_77 (gM_m G) rfl ?_
      refine e_cvN (as := [.int (nI x1), .int (nI 63), .int (nI (m_at s6))]) hN m_X6_forRest dX6_forRest_41 c_RX6_114 (by decide) rfl rfl (gM_m G) rfl (Nat.le_of_ble_eq_true rfl) (Nat.le_of_ble_eq_true rfl) (by omega) (w_X6_wrap G (by omega)) (fun v8 s8 hN => ?_)
      refine e_pop m_X6_forRest dX6_forRest_44 rfl ?_
      refine e_aload_n m_X6_forRest dX6_forRest_45 rfl rfl rfl ?_
      refine e_dup m_X6_forRest dX6_forRest_46 rfl ?_
      refine e_getf m_X6_forRest dX6_forRest_47 f_RX6_77 (gM_m G) rfl ?_
      refine e_iconst (v := nI 1) m_X6_forRest dX6_forRest_50 (by decide) ?_
      refine e_iaddN m_X6_forRest dX6_forRest_51 ?_
      refine e_putf (v := .int (nI ((m_at s8) + 1))) (h' := TM h0 (w_at s8 ((m_at s8) + 1))) m_X6_forRest dX6_forRest_52 f_RX6_77 (gM_m G) (Nat.le_of_ble_eq_true rfl) (fit_i rfl) rfl (hpL_set (k := 10) (by decide) (Nat.le_of_ble_eq_true rfl)) ?_
      refine e_st hN (fun s9 hN => ?_)
      refine e_aload_n m_X6_forRest dX6_forRest_55 rfl rfl rfl ?_
      refine e_iload_n m_X6_forRest dX6_forRest_56 rfl rfl ?_
      refine e_cvU (as := [.int (nI x1)]) hN m_X6_forRest dX6_forRest_57 c_RX6_214 (by decide) rfl rfl (gM_m G) rfl (Nat.le_of_ble_eq_true rfl) (Nat.le_of_ble_eq_true rfl) (by omega) (w_X6_condition G (by omega)) (fun v10 s10 hN => ?_)
      refine e_goto (t := 96) m_X6_forRest dX6_forRest_60 (by decide) ?_
      exact e_ret0 m_X6_forRest dX6_forRest_96
    · refine e_aload_n m_X6_forRest dX6_forRest_63 rfl rfl rfl ?_
      refine e_getf m_X6_forRest dX6_forRest_64 f_RX6_14 (gM_m G) rfl ?_
      refine e_aload_n m_X6_forRest dX6_forRest_67 rfl rfl rfl ?_
      refine e_getf m_X6_forRest dX6_forRest_68 f_RX6_27 (gM_m G) rfl ?_
      refine e_iload_n m_X6_forRest dX6_forRest_71 rfl rfl ?_
      refine e_ck hN (fun q11 hN => ?_)
      refine e_aldO q11 (by decide) (Or.inl ⟨rfl, rfl⟩) m_X6_forRest dX6_forRest_72 (gM_la G) ?_
      refine e_ck hN (fun q12 hN => ?_)
      rw [oI_p q12]
      refine e_ck hN (fun q13 hN => ?_)
      refine e_aldN q13 (by decide) (Or.inl ⟨rfl, rfl⟩) m_X6_forRest dX6_forRest_73 (gM_wh G) ?_
      refine e_bipush (v := nI 50) m_X6_forRest dX6_forRest_74 (by decide) ?_
      refine e_ine (t := 92) (a := (m_wh s6 ((m_la s6 x1) - 1))) (b := 50) hN m_X6_forRest dX6_forRest_76 (by decide) (fun q14 hN => ?_) (fun q14 hN => ?_)
      · refine e_aload_n m_X6_forRest dX6_forRest_79 rfl rfl rfl ?_
        refine e_iload_n m_X6_forRest dX6_forRest_80 rfl rfl ?_
        refine e_cvU (as := [.int (nI x1)]) hN m_X6_forRest dX6_forRest_81 c_RX6_211 (by decide) rfl rfl (gM_m G) rfl (Nat.le_of_ble_eq_true rfl) (Nat.le_of_ble_eq_true rfl) (by omega) (w_X6_unwrap G (by omega)) (fun v15 s15 hN => ?_)
        refine e_aload_n m_X6_forRest dX6_forRest_84 rfl rfl rfl ?_
        refine e_iload_n m_X6_forRest dX6_forRest_85 rfl rfl ?_
        refine e_cvU (as := [.int (nI x1)]) hN m_X6_forRest dX6_forRest_86 c_RX6_180 (by decide) rfl rfl (gM_m G) rfl (Nat.le_of_ble_eq_true rfl) (Nat.le_of_ble_eq_true rfl) (by omega) (w_X6_block G (by omega)) (fun v16 s16 hN => ?_)
        refine e_goto (t := 96) m_X6_forRest dX6_forRest_89 (by decide) ?_
        exact e_ret0 m_X6_forRest dX6_forRest_96
      · refine e_aload_n m_X6_forRest dX6_forRest_92 rfl rfl rfl ?_
        refine e_cvU (as := []) hN m_X6_forRest dX6_forRest_93 c_RX6_87 (by decide) rfl rfl (gM_m G) rfl (Nat.le_of_ble_eq_true rfl) (Nat.le_of_ble_eq_true rfl) (by omega) (w_X6_error G (by omega)) (fun v17 s17 hN => ?_)
        exact e_ret0 m_X6_forRest dX6_forRest_96

def b_X6_clauses  (x1 : Nat) (x2 : Nat) (s : Mm) : Rs Mm := bn (b_X6_look  s) (fun v1 s1 => ife v1 83 (st1 (w_at s1 ((m_at s1) + 1)) (fun s3 => ck ((m_dp s3) ≠ 0) (st1 (w_dp s3 ((m_dp s3) - 1)) (fun s5 => okR 0 s5)))) (ife v1 11 (ife x2 2 (ife v1 11 (bn (b_X6_child x1 74 (m_at s1) s1) (fun v9 s9 => st1 (w_at s9 ((m_at s9) + 1)) (fun s10 => bn (b_X6_push 51 x1 x2 s10) (fun v11 s11 => bn (b_X6_push 52 v9 0 s11) (fun v12 s12 => ife v1 15 (okR 0 s12) (ifz x2 (bn (b_X6_exprs v9 0 s12) (fun v15 s15 => okR 0 s15)) (ife x2 2 (bn (b_X6_push 41 v9 32 s12) (fun v17 s17 => okR 0 s17)) (bn (b_X6_child v9 70 (m_at s12) s12) (fun v18 s18 => bn (b_X6_push 53 v18 0 s18) (fun v19 s19 => bn (b_X6_push 18 v18 0 s19) (fun v20 s20 => okR 0 s20))))))))))) (bn (b_X6_child x1 75 (m_at s1) s1) (fun v21 s21 => st1 (w_at s21 ((m_at s21) + 1)) (fun s22 => bn (b_X6_push 51 x1 x2 s22) (fun v23 s23 => bn (b_X6_push 52 v21 0 s23) (fun v24 s24 => ife v1 15 (okR 0 s24) (ifz x2 (bn (b_X6_exprs v21 0 s24) (fun v27 s27 => okR 0 s27)) (ife x2 2 (bn (b_X6_push 41 v21 32 s24) (fun v29 s29 => okR 0 s29)) (bn (b_X6_child v21 70 (m_at s24) s24) (fun v30 s30 => bn (b_X6_push 53 v30 0 s30) (fun v31 s31 => bn (b_X6_push 18 v30 0 s31) (fun v32 s32 => okR 0 s32)))))))))))) (ife v1 11 (bn (b_X6_child x1 71 (m_at s1) s1) (fun v34 s34 => st1 (w_at s34 ((m_at s34) + 1)) (fun s35 => bn (b_X6_push 51 x1 x2 s35) (fun v36 s36 => bn (b_X6_push 52 v34 0 s36) (fun v37 s37 => ife v1 15 (okR 0 s37) (ifz x2 (bn (b_X6_exprs v34 0 s37) (fun v40 s40 => okR 0 s40)) (ife x2 2 (bn (b_X6_push 41 v34 32 s37) (fun v42 s42 => okR 0 s42)) (bn (b_X6_child v34 70 (m_at s37) s37) (fun v43 s43 => bn (b_X6_push 53 v43 0 s43) (fun v44 s44 => bn (b_X6_push 18 v43 0 s44) (fun v45 s45 => okR 0 s45))))))))))) (bn (b_X6_child x1 72 (m_at s1) s1) (fun v46 s46 => st1 (w_at s46 ((m_at s46) + 1)) (fun s47 => bn (b_X6_push 51 x1 x2 s47) (fun v48 s48 => bn (b_X6_push 52 v46 0 s48) (fun v49 s49 => ife v1 15 (okR 0 s49) (ifz x2 (bn (b_X6_exprs v46 0 s49) (fun v52 s52 => okR 0 s52)) (ife x2 2 (bn (b_X6_push 41 v46 32 s49) (fun v54 s54 => okR 0 s54)) (bn (b_X6_child v46 70 (m_at s49) s49) (fun v55 s55 => bn (b_X6_push 53 v55 0 s55) (fun v56 s56 => bn (b_X6_push 18 v55 0 s56) (fun v57 s57 => okR 0 s57))))))))))))) (ife v1 15 (ife x2 2 (ife v1 11 (bn (b_X6_child x1 74 (m_at s1) s1) (fun v61 s61 => st1 (w_at s61 ((m_at s61) + 1)) (fun s62 => bn (b_X6_push 51 x1 x2 s62) (fun v63 s63 => bn (b_X6_push 52 v61 0 s63) (fun v64 s64 => ife v1 15 (okR 0 s64) (ifz x2 (bn (b_X6_exprs v61 0 s64) (fun v67 s67 => okR 0 s67)) (ife x2 2 (bn (b_X6_push 41 v61 32 s64) (fun v69 s69 => okR 0 s69)) (bn (b_X6_child v61 70 (m_at s64) s64) (fun v70 s70 => bn (b_X6_push 53 v70 0 s70) (fun v71 s71 => bn (b_X6_push 18 v70 0 s71) (fun v72 s72 => okR 0 s72))))))))))) (bn (b_X6_child x1 75 (m_at s1) s1) (fun v73 s73 => st1 (w_at s73 ((m_at s73) + 1)) (fun s74 => bn (b_X6_push 51 x1 x2 s74) (fun v75 s75 => bn (b_X6_push 52 v73 0 s75) (fun v76 s76 => ife v1 15 (okR 0 s76) (ifz x2 (bn (b_X6_exprs v73 0 s76) (fun v79 s79 => okR 0 s79)) (ife x2 2 (bn (b_X6_push 41 v73 32 s76) (fun v81 s81 => okR 0 s81)) (bn (b_X6_child v73 70 (m_at s76) s76) (fun v82 s82 => bn (b_X6_push 53 v82 0 s82) (fun v83 s83 => bn (b_X6_push 18 v82 0 s83) (fun v84 s84 => okR 0 s84)))))))))))) (ife v1 11 (bn (b_X6_child x1 71 (m_at s1) s1) (fun v86 s86 => st1 (w_at s86 ((m_at s86) + 1)) (fun s87 => bn (b_X6_push 51 x1 x2 s87) (fun v88 s88 => bn (b_X6_push 52 v86 0 s88) (fun v89 s89 => ife v1 15 (okR 0 s89) (ifz x2 (bn (b_X6_exprs v86 0 s89) (fun v92 s92 => okR 0 s92)) (ife x2 2 (bn (b_X6_push 41 v86 32 s89) (fun v94 s94 => okR 0 s94)) (bn (b_X6_child v86 70 (m_at s89) s89) (fun v95 s95 => bn (b_X6_push 53 v95 0 s95) (fun v96 s96 => bn (b_X6_push 18 v95 0 s96) (fun v97 s97 => okR 0 s97))))))))))) (bn (b_X6_child x1 72 (m_at s1) s1) (fun v98 s98 => st1 (w_at s98 ((m_at s98) + 1)) (fun s99 => bn (b_X6_push 51 x1 x2 s99) (fun v100 s100 => bn (b_X6_push 52 v98 0 s100) (fun v101 s101 => ife v1 15 (okR 0 s101) (ifz x2 (bn (b_X6_exprs v98 0 s101) (fun v104 s104 => okR 0 s104)) (ife x2 2 (bn (b_X6_push 41 v98 32 s101) (fun v106 s106 => okR 0 s106)) (bn (b_X6_child v98 70 (m_at s101) s101) (fun v107 s107 => bn (b_X6_push 53 v107 0 s107) (fun v108 s108 => bn (b_X6_push 18 v107 0 s108) (fun v109 s109 => okR 0 s109))))))))))))) (bn (b_X6_error  s1) (fun v110 s110 => okR 0 s110)))))
theorem w_X6_clauses {xs : Nat → Int32} {L : Nat} {h0 : mm_H} (G : Mg h0) {x1 : Nat} {x2 : Nat} {s : Mm} {d : Nat} (hd : 13 ≤ d) (hN : b_X6_clauses  x1 x2 s ≠ none) : Rn xs L d 212 [.ref 10, .int (nI x1), .int (nI x2)] (TM h0 s) (ou eU (TM h0) (b_X6_clauses  x1 x2 s)) := by
  unfold Rn
  unfold b_X6_clauses at hN ⊢
  refine e_aload_n m_X6_clauses dX6_clauses_0 rfl rfl rfl ?_
  refine e_cvN (as := []) hN m_X6_clauses dX6_clauses_1 c_RX6_83 (by decide) rfl rfl (gM_m G) rfl (Nat.le_of_ble_eq_true rfl) (Nat.le_of_ble_eq_true rfl) (by omega) (w_X6_look G (by omega)) (fun v1 s1 hN => ?_)
  refine e_istore_n m_X6_clauses dX6_clauses_4 rfl (by decide) rfl ?_
  refine e_iload_n m_X6_clauses dX6_clauses_5 rfl rfl ?_
  refine e_bipush (v := nI 83) m_X6_clauses dX6_clauses_6 (by decide) ?_
  refine e_ine (t := 32) (a := v1) (b := 83) hN m_X6_clauses dX6_clauses_8 (by decide) (fun q2 hN => ?_) (fun q2 hN => ?_)
  · refine e_aload_n m_X6_clauses dX6_clauses_11 rfl rfl rfl ?_
    refine e_dup m_X6_clauses dX6_clauses_12 rfl ?_
    refine e_getf m_X6_clauses dX6_clauses_13 f_RX6_77 (gM_m G) rfl ?_
    refine e_iconst (v := nI 1) m_X6_clauses dX6_clauses_16 (by decide) ?_
    refine e_iaddN m_X6_clauses dX6_clauses_17 ?_
    refine e_putf (v := .int (nI ((m_at s1) + 1))) (h' := TM h0 (w_at s1 ((m_at s1) + 1))) m_X6_clauses dX6_clauses_18 f_RX6_77 (gM_m G) (Nat.le_of_ble_eq_true rfl) (fit_i rfl) rfl (hpL_set (k := 10) (by decide) (Nat.le_of_ble_eq_true rfl)) ?_
    refine e_st hN (fun s3 hN => ?_)
    refine e_aload_n m_X6_clauses dX6_clauses_21 rfl rfl rfl ?_
    refine e_dup m_X6_clauses dX6_clauses_22 rfl ?_
    refine e_getf m_X6_clauses dX6_clauses_23 f_RX6_90 (gM_m G) rfl ?_
    refine e_iconst (v := nI 1) m_X6_clauses dX6_clauses_26 (by decide) ?_
    refine e_isubO m_X6_clauses dX6_clauses_27 ?_
    refine e_ck hN (fun q4 hN => ?_)
    rw [oI_p q4]
    refine e_putf (v := .int (nI ((m_dp s3) - 1))) (h' := TM h0 (w_dp s3 ((m_dp s3) - 1))) m_X6_clauses dX6_clauses_28 f_RX6_90 (gM_m G) (Nat.le_of_ble_eq_true rfl) (fit_i rfl) rfl (hpL_set (k := 10) (by decide) (Nat.le_of_ble_eq_true rfl)) ?_
    refine e_st hN (fun s5 hN => ?_)
    exact e_ret0 m_X6_clauses dX6_clauses_31
  · refine e_iload_n m_X6_clauses dX6_clauses_32 rfl rfl ?_
    refine e_bipush (v := nI 11) m_X6_clauses dX6_clauses_33 (by decide) ?_
    refine e_ieq (t := 49) (a := v1) (b := 11) hN m_X6_clauses dX6_clauses_35 (by decide) (fun q6 hN => ?_) (fun q6 hN => ?_)
    · refine e_aload_n m_X6_clauses dX6_clauses_49 rfl rfl rfl ?_
      refine e_iload_n m_X6_clauses dX6_clauses_50 rfl rfl ?_
      refine e_iload_n m_X6_clauses dX6_clauses_51 rfl rfl ?_
      refine e_iconst (v := nI 2) m_X6_clauses dX6_clauses_52 (by decide) ?_
      refine e_ine (t := 61) (a := x2) (b := 2) hN m_X6_clauses dX6_clauses_53 (by decide) (fun q7 hN => ?_) (fun q7 hN => ?_)
      · refine e_bipush (v := nI 74) m_X6_clauses dX6_clauses_56 (by decide) ?_
        refine e_goto (t := 63) m_X6_clauses dX6_clauses_58 (by decide) ?_
        refine e_iload_n m_X6_clauses dX6_clauses_63 rfl rfl ?_
        refine e_bipush (v := nI 11) m_X6_clauses dX6_clauses_64 (by decide) ?_
        refine e_ine (t := 73) (a := v1) (b := 11) hN m_X6_clauses dX6_clauses_66 (by decide) (fun q8 hN => ?_) (fun q8 hN => ?_)
        · refine e_iconst (v := nI 0) m_X6_clauses dX6_clauses_69 (by decide) ?_
          refine e_goto (t := 74) m_X6_clauses dX6_clauses_70 (by decide) ?_
          refine e_iaddN m_X6_clauses dX6_clauses_74 ?_
          refine e_aload_n m_X6_clauses dX6_clauses_75 rfl rfl rfl ?_
          refine e_getf m_X6_clauses dX6_clauses_76 f_RX6_77 (gM_m G) rfl ?_
          refine e_cvN (as := [.int (nI x1), .int (nI 74), .int (nI (m_at s1))]) hN m_X6_clauses dX6_clauses_79 c_RX6_99 (by decide) rfl rfl (gM_m G) rfl (Nat.le_of_ble_eq_true rfl) (Nat.le_of_ble_eq_true rfl) (by omega) (w_X6_child G (by omega)) (fun v9 s9 hN => ?_)
          refine e_istore m_X6_clauses dX6_clauses_82 (by decide) rfl ?_
          refine e_aload_n m_X6_clauses dX6_clauses_84 rfl rfl rfl ?_
          refine e_dup m_X6_clauses dX6_clauses_85 rfl ?_
          refine e_getf m_X6_clauses dX6_clauses_86 f_RX6_77 (gM_m G) rfl ?_
          refine e_iconst (v := nI 1) m_X6_clauses dX6_clauses_89 (by decide) ?_
          refine e_iaddN m_X6_clauses dX6_clauses_90 ?_
          refine e_putf (v := .int (nI ((m_at s9) + 1))) (h' := TM h0 (w_at s9 ((m_at s9) + 1))) m_X6_clauses dX6_clauses_91 f_RX6_77 (gM_m G) (Nat.le_of_ble_eq_true rfl) (fit_i rfl) rfl (hpL_set (k := 10) (by decide) (Nat.le_of_ble_eq_true rfl)) ?_
          refine e_st hN (fun s10 hN => ?_)
          refine e_aload_n m_X6_clauses dX6_clauses_94 rfl rfl rfl ?_
          refine e_bipush (v := nI 51) m_X6_clauses dX6_clauses_95 (by decide) ?_
          refine e_iload_n m_X6_clauses dX6_clauses_97 rfl rfl ?_
          refine e_iload_n m_X6_clauses dX6_clauses_98 rfl rfl ?_
          refine e_cvU (as := [.int (nI 51), .int (nI x1), .int (nI x2)]) hN m_X6_clauses dX6_clauses_99 c_RX6_106 (by decide) rfl rfl (gM_m G) rfl (Nat.le_of_ble_eq_true rfl) (Nat.le_of_ble_eq_true rfl) (by omega) (w_X6_push G (by omega)) (fun v11 s11 hN => ?_)
          refine e_aload_n m_X6_clauses dX6_clauses_102 rfl rfl rfl ?_
          refine e_bipush (v := nI 52) m_X6_clauses dX6_clauses_103 (by decide) ?_
          refine e_iload m_X6_clauses dX6_clauses_105 rfl ?_
          refine e_iconst (v := nI 0) m_X6_clauses dX6_clauses_107 (by decide) ?_
          refine e_cvU (as := [.int (nI 52), .int (nI v9), .int (nI 0)]) hN m_X6_clauses dX6_clauses_108 c_RX6_106 (by decide) rfl rfl (gM_m G) rfl (Nat.le_of_ble_eq_true rfl) (Nat.le_of_ble_eq_true rfl) (by omega) (w_X6_push G (by omega)) (fun v12 s12 hN => ?_)
          refine e_iload_n m_X6_clauses dX6_clauses_111 rfl rfl ?_
          refine e_bipush (v := nI 15) m_X6_clauses dX6_clauses_112 (by decide) ?_
          refine e_ine (t := 118) (a := v1) (b := 15) hN m_X6_clauses dX6_clauses_114 (by decide) (fun q13 hN => ?_) (fun q13 hN => ?_)
          · exact e_ret0 m_X6_clauses dX6_clauses_117
          · refine e_iload_n m_X6_clauses dX6_clauses_118 rfl rfl ?_
            refine e_ifne (t := 132) hN m_X6_clauses dX6_clauses_119 (by decide) (fun q14 hN => ?_) (fun q14 hN => ?_)
            · refine e_aload_n m_X6_clauses dX6_clauses_122 rfl rfl rfl ?_
              refine e_iload m_X6_clauses dX6_clauses_123 rfl ?_
              refine e_iconst (v := nI 0) m_X6_clauses dX6_clauses_125 (by decide) ?_
              refine e_cvU (as := [.int (nI v9), .int (nI 0)]) hN m_X6_clauses dX6_clauses_126 c_RX6_159 (by decide) rfl rfl (gM_m G) rfl (Nat.le_of_ble_eq_true rfl) (Nat.le_of_ble_eq_true rfl) (by omega) (w_X6_exprs G (by omega)) (fun v15 s15 hN => ?_)
              refine e_goto (t := 182) m_X6_clauses dX6_clauses_129 (by decide) ?_
              exact e_ret0 m_X6_clauses dX6_clauses_182
            · refine e_iload_n m_X6_clauses dX6_clauses_132 rfl rfl ?_
              refine e_iconst (v := nI 2) m_X6_clauses dX6_clauses_133 (by decide) ?_
              refine e_ine (t := 150) (a := x2) (b := 2) hN m_X6_clauses dX6_clauses_134 (by decide) (fun q16 hN => ?_) (fun q16 hN => ?_)
              · refine e_aload_n m_X6_clauses dX6_clauses_137 rfl rfl rfl ?_
                refine e_bipush (v := nI 41) m_X6_clauses dX6_clauses_138 (by decide) ?_
                refine e_iload m_X6_clauses dX6_clauses_140 rfl ?_
                refine e_bipush (v := nI 32) m_X6_clauses dX6_clauses_142 (by decide) ?_
                refine e_cvU (as := [.int (nI 41), .int (nI v9), .int (nI 32)]) hN m_X6_clauses dX6_clauses_144 c_RX6_106 (by decide) rfl rfl (gM_m G) rfl (Nat.le_of_ble_eq_true rfl) (Nat.le_of_ble_eq_true rfl) (by omega) (w_X6_push G (by omega)) (fun v17 s17 hN => ?_)
                refine e_goto (t := 182) m_X6_clauses dX6_clauses_147 (by decide) ?_
                exact e_ret0 m_X6_clauses dX6_clauses_182
              · refine e_aload_n m_X6_clauses dX6_clauses_150 rfl rfl rfl ?_
                refine e_iload m_X6_clauses dX6_clauses_151 rfl ?_
                refine e_bipush (v := nI 70) m_X6_clauses dX6_clauses_153 (by decide) ?_
                refine e_aload_n m_X6_clauses dX6_clauses_155 rfl rfl rfl ?_
                refine e_getf m_X6_clauses dX6_clauses_156 f_RX6_77 (gM_m G) rfl ?_
                refine e_cvN (as := [.int (nI v9), .int (nI 70), .int (nI (m_at s12))]) hN m_X6_clauses dX6_clauses_159 c_RX6_99 (by decide) rfl rfl (gM_m G) rfl (Nat.le_of_ble_eq_true rfl) (Nat.le_of_ble_eq_true rfl) (by omega) (w_X6_child G (by omega)) (fun v18 s18 hN => ?_)
                refine e_istore m_X6_clauses dX6_clauses_162 (by decide) rfl ?_
                refine e_aload_n m_X6_clauses dX6_clauses_164 rfl rfl rfl ?_
                refine e_bipush (v := nI 53) m_X6_clauses dX6_clauses_165 (by decide) ?_
                refine e_iload m_X6_clauses dX6_clauses_167 rfl ?_
                refine e_iconst (v := nI 0) m_X6_clauses dX6_clauses_169 (by decide) ?_
                refine e_cvU (as := [.int (nI 53), .int (nI v18), .int (nI 0)]) hN m_X6_clauses dX6_clauses_170 c_RX6_106 (by decide) rfl rfl (gM_m G) rfl (Nat.le_of_ble_eq_true rfl) (Nat.le_of_ble_eq_true rfl) (by omega) (w_X6_push G (by omega)) (fun v19 s19 hN => ?_)
                refine e_aload_n m_X6_clauses dX6_clauses_173 rfl rfl rfl ?_
                refine e_bipush (v := nI 18) m_X6_clauses dX6_clauses_174 (by decide) ?_
                refine e_iload m_X6_clauses dX6_clauses_176 rfl ?_
                refine e_iconst (v := nI 0) m_X6_clauses dX6_clauses_178 (by decide) ?_
                refine e_cvU (as := [.int (nI 18), .int (nI v18), .int (nI 0)]) hN m_X6_clauses dX6_clauses_179 c_RX6_106 (by decide) rfl rfl (gM_m G) rfl (Nat.le_of_ble_eq_true rfl) (Nat.le_of_ble_eq_true rfl) (by omega) (w_X6_push G (by omega)) (fun v20 s20 hN => ?_)
                exact e_ret0 m_X6_clauses dX6_clauses_182
        · refine e_iconst (v := nI 1) m_X6_clauses dX6_clauses_73 (by decide) ?_
          refine e_iaddN m_X6_clauses dX6_clauses_74 ?_
          refine e_aload_n m_X6_clauses dX6_clauses_75 rfl rfl rfl ?_
          refine e_getf m_X6_clauses dX6_clauses_76 f_RX6_77 (gM_m G) rfl ?_
          refine e_cvN (as := [.int (nI x1), .int (nI 75), .int (nI (m_at s1))]) hN m_X6_clauses dX6_clauses_79 c_RX6_99 (by decide) rfl rfl (gM_m G) rfl (Nat.le_of_ble_eq_true rfl) (Nat.le_of_ble_eq_true rfl) (by omega) (w_X6_child G (by omega)) (fun v21 s21 hN => ?_)
          refine e_istore m_X6_clauses dX6_clauses_82 (by decide) rfl ?_
          refine e_aload_n m_X6_clauses dX6_clauses_84 rfl rfl rfl ?_
          refine e_dup m_X6_clauses dX6_clauses_85 rfl ?_
          refine e_getf m_X6_clauses dX6_clauses_86 f_RX6_77 (gM_m G) rfl ?_
          refine e_iconst (v := nI 1) m_X6_clauses dX6_clauses_89 (by decide) ?_
          refine e_iaddN m_X6_clauses dX6_clauses_90 ?_
          refine e_putf (v := .int (nI ((m_at s21) + 1))) (h' := TM h0 (w_at s21 ((m_at s21) + 1))) m_X6_clauses dX6_clauses_91 f_RX6_77 (gM_m G) (Nat.le_of_ble_eq_true rfl) (fit_i rfl) rfl (hpL_set (k := 10) (by decide) (Nat.le_of_ble_eq_true rfl)) ?_
          refine e_st hN (fun s22 hN => ?_)
          refine e_aload_n m_X6_clauses dX6_clauses_94 rfl rfl rfl ?_
          refine e_bipush (v := nI 51) m_X6_clauses dX6_clauses_95 (by decide) ?_
          refine e_iload_n m_X6_clauses dX6_clauses_97 rfl rfl ?_
          refine e_iload_n m_X6_clauses dX6_clauses_98 rfl rfl ?_
          refine e_cvU (as := [.int (nI 51), .int (nI x1), .int (nI x2)]) hN m_X6_clauses dX6_clauses_99 c_RX6_106 (by decide) rfl rfl (gM_m G) rfl (Nat.le_of_ble_eq_true rfl) (Nat.le_of_ble_eq_true rfl) (by omega) (w_X6_push G (by omega)) (fun v23 s23 hN => ?_)
          refine e_aload_n m_X6_clauses dX6_clauses_102 rfl rfl rfl ?_
          refine e_bipush (v := nI 52) m_X6_clauses dX6_clauses_103 (by decide) ?_
          refine e_iload m_X6_clauses dX6_clauses_105 rfl ?_
          refine e_iconst (v := nI 0) m_X6_clauses dX6_clauses_107 (by decide) ?_
          refine e_cvU (as := [.int (nI 52), .int (nI v21), .int (nI 0)]) hN m_X6_clauses dX6_clauses_108 c_RX6_106 (by decide) rfl rfl (gM_m G) rfl (Nat.le_of_ble_eq_true rfl) (Nat.le_of_ble_eq_true rfl) (by omega) (w_X6_push G (by omega)) (fun v24 s24 hN => ?_)
          refine e_iload_n m_X6_clauses dX6_clauses_111 rfl rfl ?_
          refine e_bipush (v := nI 15) m_X6_clauses dX6_clauses_112 (by decide) ?_
          refine e_ine (t := 118) (a := v1) (b := 15) hN m_X6_clauses dX6_clauses_114 (by decide) (fun q25 hN => ?_) (fun q25 hN => ?_)
          · exact e_ret0 m_X6_clauses dX6_clauses_117
          · refine e_iload_n m_X6_clauses dX6_clauses_118 rfl rfl ?_
            refine e_ifne (t := 132) hN m_X6_clauses dX6_clauses_119 (by decide) (fun q26 hN => ?_) (fun q26 hN => ?_)
            · refine e_aload_n m_X6_clauses dX6_clauses_122 rfl rfl rfl ?_
              refine e_iload m_X6_clauses dX6_clauses_123 rfl ?_
              refine e_iconst (v := nI 0) m_X6_clauses dX6_clauses_125 (by decide) ?_
              refine e_cvU (as := [.int (nI v21), .int (nI 0)]) hN m_X6_clauses dX6_clauses_126 c_RX6_159 (by decide) rfl rfl (gM_m G) rfl (Nat.le_of_ble_eq_true rfl) (Nat.le_of_ble_eq_true rfl) (by omega) (w_X6_exprs G (by omega)) (fun v27 s27 hN => ?_)
              refine e_goto (t := 182) m_X6_clauses dX6_clauses_129 (by decide) ?_
              exact e_ret0 m_X6_clauses dX6_clauses_182
            · refine e_iload_n m_X6_clauses dX6_clauses_132 rfl rfl ?_
              refine e_iconst (v := nI 2) m_X6_clauses dX6_clauses_133 (by decide) ?_
              refine e_ine (t := 150) (a := x2) (b := 2) hN m_X6_clauses dX6_clauses_134 (by decide) (fun q28 hN => ?_) (fun q28 hN => ?_)
              · refine e_aload_n m_X6_clauses dX6_clauses_137 rfl rfl rfl ?_
                refine e_bipush (v := nI 41) m_X6_clauses dX6_clauses_138 (by decide) ?_
                refine e_iload m_X6_clauses dX6_clauses_140 rfl ?_
                refine e_bipush (v := nI 32) m_X6_clauses dX6_clauses_142 (by decide) ?_
                refine e_cvU (as := [.int (nI 41), .int (nI v21), .int (nI 32)]) hN m_X6_clauses dX6_clauses_144 c_RX6_106 (by decide) rfl rfl (gM_m G) rfl (Nat.le_of_ble_eq_true rfl) (Nat.le_of_ble_eq_true rfl) (by omega) (w_X6_push G (by omega)) (fun v29 s29 hN => ?_)
                refine e_goto (t := 182) m_X6_clauses dX6_clauses_147 (by decide) ?_
                exact e_ret0 m_X6_clauses dX6_clauses_182
              · refine e_aload_n m_X6_clauses dX6_clauses_150 rfl rfl rfl ?_
                refine e_iload m_X6_clauses dX6_clauses_151 rfl ?_
                refine e_bipush (v := nI 70) m_X6_clauses dX6_clauses_153 (by decide) ?_
                refine e_aload_n m_X6_clauses dX6_clauses_155 rfl rfl rfl ?_
                refine e_getf m_X6_clauses dX6_clauses_156 f_RX6_77 (gM_m G) rfl ?_
                refine e_cvN (as := [.int (nI v21), .int (nI 70), .int (nI (m_at s24))]) hN m_X6_clauses dX6_clauses_159 c_RX6_99 (by decide) rfl rfl (gM_m G) rfl (Nat.le_of_ble_eq_true rfl) (Nat.le_of_ble_eq_true rfl) (by omega) (w_X6_child G (by omega)) (fun v30 s30 hN => ?_)
                refine e_istore m_X6_clauses dX6_clauses_162 (by decide) rfl ?_
                refine e_aload_n m_X6_clauses dX6_clauses_164 rfl rfl rfl ?_
                refine e_bipush (v := nI 53) m_X6_clauses dX6_clauses_165 (by decide) ?_
                refine e_iload m_X6_clauses dX6_clauses_167 rfl ?_
                refine e_iconst (v := nI 0) m_X6_clauses dX6_clauses_169 (by decide) ?_
                refine e_cvU (as := [.int (nI 53), .int (nI v30), .int (nI 0)]) hN m_X6_clauses dX6_clauses_170 c_RX6_106 (by decide) rfl rfl (gM_m G) rfl (Nat.le_of_ble_eq_true rfl) (Nat.le_of_ble_eq_true rfl) (by omega) (w_X6_push G (by omega)) (fun v31 s31 hN => ?_)
                refine e_aload_n m_X6_clauses dX6_clauses_173 rfl rfl rfl ?_
                refine e_bipush (v := nI 18) m_X6_clauses dX6_clauses_174 (by decide) ?_
                refine e_iload m_X6_clauses dX6_clauses_176 rfl ?_
                refine e_iconst (v := nI 0) m_X6_clauses dX6_clauses_178 (by decide) ?_
                refine e_cvU (as := [.int (nI 18), .int (nI v30), .int (nI 0)]) hN m_X6_clauses dX6_clauses_179 c_RX6_106 (by decide) rfl rfl (gM_m G) rfl (Nat.le_of_ble_eq_true rfl) (Nat.le_of_ble_eq_true rfl) (by omega) (w_X6_push G (by omega)) (fun v32 s32 hN => ?_)
                exact e_ret0 m_X6_clauses dX6_clauses_182
      · refine e_bipush (v := nI 71) m_X6_clauses dX6_clauses_61 (by decide) ?_
        refine e_iload_n m_X6_clauses dX6_clauses_63 rfl rfl ?_
        refine e_bipush (v := nI 11) m_X6_clauses dX6_clauses_64 (by decide) ?_
        refine e_ine (t := 73) (a := v1) (b := 11) hN m_X6_clauses dX6_clauses_66 (by decide) (fun q33 hN => ?_) (fun q33 hN => ?_)
        · refine e_iconst (v := nI 0) m_X6_clauses dX6_clauses_69 (by decide) ?_
          refine e_goto (t := 74) m_X6_clauses dX6_clauses_70 (by decide) ?_
          refine e_iaddN m_X6_clauses dX6_clauses_74 ?_
          refine e_aload_n m_X6_clauses dX6_clauses_75 rfl rfl rfl ?_
          refine e_getf m_X6_clauses dX6_clauses_76 f_RX6_77 (gM_m G) rfl ?_
          refine e_cvN (as := [.int (nI x1), .int (nI 71), .int (nI (m_at s1))]) hN m_X6_clauses dX6_clauses_79 c_RX6_99 (by decide) rfl rfl (gM_m G) rfl (Nat.le_of_ble_eq_true rfl) (Nat.le_of_ble_eq_true rfl) (by omega) (w_X6_child G (by omega)) (fun v34 s34 hN => ?_)
          refine e_istore m_X6_clauses dX6_clauses_82 (by decide) rfl ?_
          refine e_aload_n m_X6_clauses dX6_clauses_84 rfl rfl rfl ?_
          refine e_dup m_X6_clauses dX6_clauses_85 rfl ?_
          refine e_getf m_X6_clauses dX6_clauses_86 f_RX6_77 (gM_m G) rfl ?_
          refine e_iconst (v := nI 1) m_X6_clauses dX6_clauses_89 (by decide) ?_
          refine e_iaddN m_X6_clauses dX6_clauses_90 ?_
          refine e_putf (v := .int (nI ((m_at s34) + 1))) (h' := TM h0 (w_at s34 ((m_at s34) + 1))) m_X6_clauses dX6_clauses_91 f_RX6_77 (gM_m G) (Nat.le_of_ble_eq_true rfl) (fit_i rfl) rfl (hpL_set (k := 10) (by decide) (Nat.le_of_ble_eq_true rfl)) ?_
          refine e_st hN (fun s35 hN => ?_)
          refine e_aload_n m_X6_clauses dX6_clauses_94 rfl rfl rfl ?_
          refine e_bipush (v := nI 51) m_X6_clauses dX6_clauses_95 (by decide) ?_
          refine e_iload_n m_X6_clauses dX6_clauses_97 rfl rfl ?_
          refine e_iload_n m_X6_clauses dX6_clauses_98 rfl rfl ?_
          refine e_cvU (as := [.int (nI 51), .int (nI x1), .int (nI x2)]) hN m_X6_clauses dX6_clauses_99 c_RX6_106 (by decide) rfl rfl (gM_m G) rfl (Nat.le_of_ble_eq_true rfl) (Nat.le_of_ble_eq_true rfl) (by omega) (w_X6_push G (by omega)) (fun v36 s36 hN => ?_)
          refine e_aload_n m_X6_clauses dX6_clauses_102 rfl rfl rfl ?_
          refine e_bipush (v := nI 52) m_X6_clauses dX6_clauses_103 (by decide) ?_
          refine e_iload m_X6_clauses dX6_clauses_105 rfl ?_
          refine e_iconst (v := nI 0) m_X6_clauses dX6_clauses_107 (by decide) ?_
          refine e_cvU (as := [.int (nI 52), .int (nI v34), .int (nI 0)]) hN m_X6_clauses dX6_clauses_108 c_RX6_106 (by decide) rfl rfl (gM_m G) rfl (Nat.le_of_ble_eq_true rfl) (Nat.le_of_ble_eq_true rfl) (by omega) (w_X6_push G (by omega)) (fun v37 s37 hN => ?_)
          refine e_iload_n m_X6_clauses dX6_clauses_111 rfl rfl ?_
          refine e_bipush (v := nI 15) m_X6_clauses dX6_clauses_112 (by decide) ?_
          refine e_ine (t := 118) (a := v1) (b := 15) hN m_X6_clauses dX6_clauses_114 (by decide) (fun q38 hN => ?_) (fun q38 hN => ?_)
          · exact e_ret0 m_X6_clauses dX6_clauses_117
          · refine e_iload_n m_X6_clauses dX6_clauses_118 rfl rfl ?_
            refine e_ifne (t := 132) hN m_X6_clauses dX6_clauses_119 (by decide) (fun q39 hN => ?_) (fun q39 hN => ?_)
            · refine e_aload_n m_X6_clauses dX6_clauses_122 rfl rfl rfl ?_
              refine e_iload m_X6_clauses dX6_clauses_123 rfl ?_
              refine e_iconst (v := nI 0) m_X6_clauses dX6_clauses_125 (by decide) ?_
              refine e_cvU (as := [.int (nI v34), .int (nI 0)]) hN m_X6_clauses dX6_clauses_126 c_RX6_159 (by decide) rfl rfl (gM_m G) rfl (Nat.le_of_ble_eq_true rfl) (Nat.le_of_ble_eq_true rfl) (by omega) (w_X6_exprs G (by omega)) (fun v40 s40 hN => ?_)
              refine e_goto (t := 182) m_X6_clauses dX6_clauses_129 (by decide) ?_
              exact e_ret0 m_X6_clauses dX6_clauses_182
            · refine e_iload_n m_X6_clauses dX6_clauses_132 rfl rfl ?_
              refine e_iconst (v := nI 2) m_X6_clauses dX6_clauses_133 (by decide) ?_
              refine e_ine (t := 150) (a := x2) (b := 2) hN m_X6_clauses dX6_clauses_134 (by decide) (fun q41 hN => ?_) (fun q41 hN => ?_)
              · refine e_aload_n m_X6_clauses dX6_clauses_137 rfl rfl rfl ?_
                refine e_bipush (v := nI 41) m_X6_clauses dX6_clauses_138 (by decide) ?_
                refine e_iload m_X6_clauses dX6_clauses_140 rfl ?_
                refine e_bipush (v := nI 32) m_X6_clauses dX6_clauses_142 (by decide) ?_
                refine e_cvU (as := [.int (nI 41), .int (nI v34), .int (nI 32)]) hN m_X6_clauses dX6_clauses_144 c_RX6_106 (by decide) rfl rfl (gM_m G) rfl (Nat.le_of_ble_eq_true rfl) (Nat.le_of_ble_eq_true rfl) (by omega) (w_X6_push G (by omega)) (fun v42 s42 hN => ?_)
                refine e_goto (t := 182) m_X6_clauses dX6_clauses_147 (by decide) ?_
                exact e_ret0 m_X6_clauses dX6_clauses_182
              · refine e_aload_n m_X6_clauses dX6_clauses_150 rfl rfl rfl ?_
                refine e_iload m_X6_clauses dX6_clauses_151 rfl ?_
                refine e_bipush (v := nI 70) m_X6_clauses dX6_clauses_153 (by decide) ?_
                refine e_aload_n m_X6_clauses dX6_clauses_155 rfl rfl rfl ?_
                refine e_getf m_X6_clauses dX6_clauses_156 f_RX6_77 (gM_m G) rfl ?_
                refine e_cvN (as := [.int (nI v34), .int (nI 70), .int (nI (m_at s37))]) hN m_X6_clauses dX6_clauses_159 c_RX6_99 (by decide) rfl rfl (gM_m G) rfl (Nat.le_of_ble_eq_true rfl) (Nat.le_of_ble_eq_true rfl) (by omega) (w_X6_child G (by omega)) (fun v43 s43 hN => ?_)
                refine e_istore m_X6_clauses dX6_clauses_162 (by decide) rfl ?_
                refine e_aload_n m_X6_clauses dX6_clauses_164 rfl rfl rfl ?_
                refine e_bipush (v := nI 53) m_X6_clauses dX6_clauses_165 (by decide) ?_
                refine e_iload m_X6_clauses dX6_clauses_167 rfl ?_
                refine e_iconst (v := nI 0) m_X6_clauses dX6_clauses_169 (by decide) ?_
                refine e_cvU (as := [.int (nI 53), .int (nI v43), .int (nI 0)]) hN m_X6_clauses dX6_clauses_170 c_RX6_106 (by decide) rfl rfl (gM_m G) rfl (Nat.le_of_ble_eq_true rfl) (Nat.le_of_ble_eq_true rfl) (by omega) (w_X6_push G (by omega)) (fun v44 s44 hN => ?_)
                refine e_aload_n m_X6_clauses dX6_clauses_173 rfl rfl rfl ?_
                refine e_bipush (v := nI 18) m_X6_clauses dX6_clauses_174 (by decide) ?_
                refine e_iload m_X6_clauses dX6_clauses_176 rfl ?_
                refine e_iconst (v := nI 0) m_X6_clauses dX6_clauses_178 (by decide) ?_
                refine e_cvU (as := [.int (nI 18), .int (nI v43), .int (nI 0)]) hN m_X6_clauses dX6_clauses_179 c_RX6_106 (by decide) rfl rfl (gM_m G) rfl (Nat.le_of_ble_eq_true rfl) (Nat.le_of_ble_eq_true rfl) (by omega) (w_X6_push G (by omega)) (fun v45 s45 hN => ?_)
                exact e_ret0 m_X6_clauses dX6_clauses_182
        · refine e_iconst (v := nI 1) m_X6_clauses dX6_clauses_73 (by decide) ?_
          refine e_iaddN m_X6_clauses dX6_clauses_74 ?_
          refine e_aload_n m_X6_clauses dX6_clauses_75 rfl rfl rfl ?_
          refine e_getf m_X6_clauses dX6_clauses_76 f_RX6_77 (gM_m G) rfl ?_
          refine e_cvN (as := [.int (nI x1), .int (nI 72), .int (nI (m_at s1))]) hN m_X6_clauses dX6_clauses_79 c_RX6_99 (by decide) rfl rfl (gM_m G) rfl (Nat.le_of_ble_eq_true rfl) (Nat.le_of_ble_eq_true rfl) (by omega) (w_X6_child G (by omega)) (fun v46 s46 hN => ?_)
          refine e_istore m_X6_clauses dX6_clauses_82 (by decide) rfl ?_
          refine e_aload_n m_X6_clauses dX6_clauses_84 rfl rfl rfl ?_
          refine e_dup m_X6_clauses dX6_clauses_85 rfl ?_
          refine e_getf m_X6_clauses dX6_clauses_86 f_RX6_77 (gM_m G) rfl ?_
          refine e_iconst (v := nI 1) m_X6_clauses dX6_clauses_89 (by decide) ?_
          refine e_iaddN m_X6_clauses dX6_clauses_90 ?_
          refine e_putf (v := .int (nI ((m_at s46) + 1))) (h' := TM h0 (w_at s46 ((m_at s46) + 1))) m_X6_clauses dX6_clauses_91 f_RX6_77 (gM_m G) (Nat.le_of_ble_eq_true rfl) (fit_i rfl) rfl (hpL_set (k := 10) (by decide) (Nat.le_of_ble_eq_true rfl)) ?_
          refine e_st hN (fun s47 hN => ?_)
          refine e_aload_n m_X6_clauses dX6_clauses_94 rfl rfl rfl ?_
          refine e_bipush (v := nI 51) m_X6_clauses dX6_clauses_95 (by decide) ?_
          refine e_iload_n m_X6_clauses dX6_clauses_97 rfl rfl ?_
          refine e_iload_n m_X6_clauses dX6_clauses_98 rfl rfl ?_
          refine e_cvU (as := [.int (nI 51), .int (nI x1), .int (nI x2)]) hN m_X6_clauses dX6_clauses_99 c_RX6_106 (by decide) rfl rfl (gM_m G) rfl (Nat.le_of_ble_eq_true rfl) (Nat.le_of_ble_eq_true rfl) (by omega) (w_X6_push G (by omega)) (fun v48 s48 hN => ?_)
          refine e_aload_n m_X6_clauses dX6_clauses_102 rfl rfl rfl ?_
          refine e_bipush (v := nI 52) m_X6_clauses dX6_clauses_103 (by decide) ?_
          refine e_iload m_X6_clauses dX6_clauses_105 rfl ?_
          refine e_iconst (v := nI 0) m_X6_clauses dX6_clauses_107 (by decide) ?_
          refine e_cvU (as := [.int (nI 52), .int (nI v46), .int (nI 0)]) hN m_X6_clauses dX6_clauses_108 c_RX6_106 (by decide) rfl rfl (gM_m G) rfl (Nat.le_of_ble_eq_true rfl) (Nat.le_of_ble_eq_true rfl) (by omega) (w_X6_push G (by omega)) (fun v49 s49 hN => ?_)
          refine e_iload_n m_X6_clauses dX6_clauses_111 rfl rfl ?_
          refine e_bipush (v := nI 15) m_X6_clauses dX6_clauses_112 (by decide) ?_
          refine e_ine (t := 118) (a := v1) (b := 15) hN m_X6_clauses dX6_clauses_114 (by decide) (fun q50 hN => ?_) (fun q50 hN => ?_)
          · exact e_ret0 m_X6_clauses dX6_clauses_117
          · refine e_iload_n m_X6_clauses dX6_clauses_118 rfl rfl ?_
            refine e_ifne (t := 132) hN m_X6_clauses dX6_clauses_119 (by decide) (fun q51 hN => ?_) (fun q51 hN => ?_)
            · refine e_aload_n m_X6_clauses dX6_clauses_122 rfl rfl rfl ?_
              refine e_iload m_X6_clauses dX6_clauses_123 rfl ?_
              refine e_iconst (v := nI 0) m_X6_clauses dX6_clauses_125 (by decide) ?_
              refine e_cvU (as := [.int (nI v46), .int (nI 0)]) hN m_X6_clauses dX6_clauses_126 c_RX6_159 (by decide) rfl rfl (gM_m G) rfl (Nat.le_of_ble_eq_true rfl) (Nat.le_of_ble_eq_true rfl) (by omega) (w_X6_exprs G (by omega)) (fun v52 s52 hN => ?_)
              refine e_goto (t := 182) m_X6_clauses dX6_clauses_129 (by decide) ?_
              exact e_ret0 m_X6_clauses dX6_clauses_182
            · refine e_iload_n m_X6_clauses dX6_clauses_132 rfl rfl ?_
              refine e_iconst (v := nI 2) m_X6_clauses dX6_clauses_133 (by decide) ?_
              refine e_ine (t := 150) (a := x2) (b := 2) hN m_X6_clauses dX6_clauses_134 (by decide) (fun q53 hN => ?_) (fun q53 hN => ?_)
              · refine e_aload_n m_X6_clauses dX6_clauses_137 rfl rfl rfl ?_
                refine e_bipush (v := nI 41) m_X6_clauses dX6_clauses_138 (by decide) ?_
                refine e_iload m_X6_clauses dX6_clauses_140 rfl ?_
                refine e_bipush (v := nI 32) m_X6_clauses dX6_clauses_142 (by decide) ?_
                refine e_cvU (as := [.int (nI 41), .int (nI v46), .int (nI 32)]) hN m_X6_clauses dX6_clauses_144 c_RX6_106 (by decide) rfl rfl (gM_m G) rfl (Nat.le_of_ble_eq_true rfl) (Nat.le_of_ble_eq_true rfl) (by omega) (w_X6_push G (by omega)) (fun v54 s54 hN => ?_)
                refine e_goto (t := 182) m_X6_clauses dX6_clauses_147 (by decide) ?_
                exact e_ret0 m_X6_clauses dX6_clauses_182
              · refine e_aload_n m_X6_clauses dX6_clauses_150 rfl rfl rfl ?_
                refine e_iload m_X6_clauses dX6_clauses_151 rfl ?_
                refine e_bipush (v := nI 70) m_X6_clauses dX6_clauses_153 (by decide) ?_
                refine e_aload_n m_X6_clauses dX6_clauses_155 rfl rfl rfl ?_
                refine e_getf m_X6_clauses dX6_clauses_156 f_RX6_77 (gM_m G) rfl ?_
                refine e_cvN (as := [.int (nI v46), .int (nI 70), .int (nI (m_at s49))]) hN m_X6_clauses dX6_clauses_159 c_RX6_99 (by decide) rfl rfl (gM_m G) rfl (Nat.le_of_ble_eq_true rfl) (Nat.le_of_ble_eq_true rfl) (by omega) (w_X6_child G (by omega)) (fun v55 s55 hN => ?_)
                refine e_istore m_X6_clauses dX6_clauses_162 (by decide) rfl ?_
                refine e_aload_n m_X6_clauses dX6_clauses_164 rfl rfl rfl ?_
                refine e_bipush (v := nI 53) m_X6_clauses dX6_clauses_165 (by decide) ?_
                refine e_iload m_X6_clauses dX6_clauses_167 rfl ?_
                refine e_iconst (v := nI 0) m_X6_clauses dX6_clauses_169 (by decide) ?_
                refine e_cvU (as := [.int (nI 53), .int (nI v55), .int (nI 0)]) hN m_X6_clauses dX6_clauses_170 c_RX6_106 (by decide) rfl rfl (gM_m G) rfl (Nat.le_of_ble_eq_true rfl) (Nat.le_of_ble_eq_true rfl) (by omega) (w_X6_push G (by omega)) (fun v56 s56 hN => ?_)
                refine e_aload_n m_X6_clauses dX6_clauses_173 rfl rfl rfl ?_
                refine e_bipush (v := nI 18) m_X6_clauses dX6_clauses_174 (by decide) ?_
                refine e_iload m_X6_clauses dX6_clauses_176 rfl ?_
                refine e_iconst (v := nI 0) m_X6_clauses dX6_clauses_178 (by decide) ?_
                refine e_cvU (as := [.int (nI 18), .int (nI v55), .int (nI 0)]) hN m_X6_clauses dX6_clauses_179 c_RX6_106 (by decide) rfl rfl (gM_m G) rfl (Nat.le_of_ble_eq_true rfl) (Nat.le_of_ble_eq_true rfl) (by omega) (w_X6_push G (by omega)) (fun v57 s57 hN => ?_)
                exact e_ret0 m_X6_clauses dX6_clauses_182
    · refine e_iload_n m_X6_clauses dX6_clauses_38 rfl rfl ?_
      refine e_bipush (v := nI 15) m_X6_clauses dX6_clauses_39 (by decide) ?_
      refine e_ieq (t := 49) (a := v1) (b := 15) hN m_X6_clauses dX6_clauses_41 (by decide) (fun q58 hN => ?_) (fun q58 hN => ?_)
      · refine e_aload_n m_X6_clauses dX6_clauses_49 rfl rfl rfl ?_
        refine e_iload_n m_X6_clauses dX6_clauses_50 rfl rfl ?_
        refine e_iload_n m_X6_clauses dX6_clauses_51 rfl rfl ?_
        refine e_iconst (v := nI 2) m_X6_clauses dX6_clauses_52 (by decide) ?_
        refine e_ine (t := 61) (a := x2) (b := 2) hN m_X6_clauses dX6_clauses_53 (by decide) (fun q59 hN => ?_) (fun q59 hN => ?_)
        · refine e_bipush (v := nI 74) m_X6_clauses dX6_clauses_56 (by decide) ?_
          refine e_goto (t := 63) m_X6_clauses dX6_clauses_58 (by decide) ?_
          refine e_iload_n m_X6_clauses dX6_clauses_63 rfl rfl ?_
          refine e_bipush (v := nI 11) m_X6_clauses dX6_clauses_64 (by decide) ?_
          refine e_ine (t := 73) (a := v1) (b := 11) hN m_X6_clauses dX6_clauses_66 (by decide) (fun q60 hN => ?_) (fun q60 hN => ?_)
          · refine e_iconst (v := nI 0) m_X6_clauses dX6_clauses_69 (by decide) ?_
            refine e_goto (t := 74) m_X6_clauses dX6_clauses_70 (by decide) ?_
            refine e_iaddN m_X6_clauses dX6_clauses_74 ?_
            refine e_aload_n m_X6_clauses dX6_clauses_75 rfl rfl rfl ?_
            refine e_getf m_X6_clauses dX6_clauses_76 f_RX6_77 (gM_m G) rfl ?_
            refine e_cvN (as := [.int (nI x1), .int (nI 74), .int (nI (m_at s1))]) hN m_X6_clauses dX6_clauses_79 c_RX6_99 (by decide) rfl rfl (gM_m G) rfl (Nat.le_of_ble_eq_true rfl) (Nat.le_of_ble_eq_true rfl) (by omega) (w_X6_child G (by omega)) (fun v61 s61 hN => ?_)
            refine e_istore m_X6_clauses dX6_clauses_82 (by decide) rfl ?_
            refine e_aload_n m_X6_clauses dX6_clauses_84 rfl rfl rfl ?_
            refine e_dup m_X6_clauses dX6_clauses_85 rfl ?_
            refine e_getf m_X6_clauses dX6_clauses_86 f_RX6_77 (gM_m G) rfl ?_
            refine e_iconst (v := nI 1) m_X6_clauses dX6_clauses_89 (by decide) ?_
            refine e_iaddN m_X6_clauses dX6_clauses_90 ?_
            refine e_putf (v := .int (nI ((m_at s61) + 1))) (h' := TM h0 (w_at s61 ((m_at s61) + 1))) m_X6_clauses dX6_clauses_91 f_RX6_77 (gM_m G) (Nat.le_of_ble_eq_true rfl) (fit_i rfl) rfl (hpL_set (k := 10) (by decide) (Nat.le_of_ble_eq_true rfl)) ?_
            refine e_st hN (fun s62 hN => ?_)
            refine e_aload_n m_X6_clauses dX6_clauses_94 rfl rfl rfl ?_
            refine e_bipush (v := nI 51) m_X6_clauses dX6_clauses_95 (by decide) ?_
            refine e_iload_n m_X6_clauses dX6_clauses_97 rfl rfl ?_
            refine e_iload_n m_X6_clauses dX6_clauses_98 rfl rfl ?_
            refine e_cvU (as := [.int (nI 51), .int (nI x1), .int (nI x2)]) hN m_X6_clauses dX6_clauses_99 c_RX6_106 (by decide) rfl rfl (gM_m G) rfl (Nat.le_of_ble_eq_true rfl) (Nat.le_of_ble_eq_true rfl) (by omega) (w_X6_push G (by omega)) (fun v63 s63 hN => ?_)
            refine e_aload_n m_X6_clauses dX6_clauses_102 rfl rfl rfl ?_
            refine e_bipush (v := nI 52) m_X6_clauses dX6_clauses_103 (by decide) ?_
            refine e_iload m_X6_clauses dX6_clauses_105 rfl ?_
            refine e_iconst (v := nI 0) m_X6_clauses dX6_clauses_107 (by decide) ?_
            refine e_cvU (as := [.int (nI 52), .int (nI v61), .int (nI 0)]) hN m_X6_clauses dX6_clauses_108 c_RX6_106 (by decide) rfl rfl (gM_m G) rfl (Nat.le_of_ble_eq_true rfl) (Nat.le_of_ble_eq_true rfl) (by omega) (w_X6_push G (by omega)) (fun v64 s64 hN => ?_)
            refine e_iload_n m_X6_clauses dX6_clauses_111 rfl rfl ?_
            refine e_bipush (v := nI 15) m_X6_clauses dX6_clauses_112 (by decide) ?_
            refine e_ine (t := 118) (a := v1) (b := 15) hN m_X6_clauses dX6_clauses_114 (by decide) (fun q65 hN => ?_) (fun q65 hN => ?_)
            · exact e_ret0 m_X6_clauses dX6_clauses_117
            · refine e_iload_n m_X6_clauses dX6_clauses_118 rfl rfl ?_
              refine e_ifne (t := 132) hN m_X6_clauses dX6_clauses_119 (by decide) (fun q66 hN => ?_) (fun q66 hN => ?_)
              · refine e_aload_n m_X6_clauses dX6_clauses_122 rfl rfl rfl ?_
                refine e_iload m_X6_clauses dX6_clauses_123 rfl ?_
                refine e_iconst (v := nI 0) m_X6_clauses dX6_clauses_125 (by decide) ?_
                refine e_cvU (as := [.int (nI v61), .int (nI 0)]) hN m_X6_clauses dX6_clauses_126 c_RX6_159 (by decide) rfl rfl (gM_m G) rfl (Nat.le_of_ble_eq_true rfl) (Nat.le_of_ble_eq_true rfl) (by omega) (w_X6_exprs G (by omega)) (fun v67 s67 hN => ?_)
                refine e_goto (t := 182) m_X6_clauses dX6_clauses_129 (by decide) ?_
                exact e_ret0 m_X6_clauses dX6_clauses_182
              · refine e_iload_n m_X6_clauses dX6_clauses_132 rfl rfl ?_
                refine e_iconst (v := nI 2) m_X6_clauses dX6_clauses_133 (by decide) ?_
                refine e_ine (t := 150) (a := x2) (b := 2) hN m_X6_clauses dX6_clauses_134 (by decide) (fun q68 hN => ?_) (fun q68 hN => ?_)
                · refine e_aload_n m_X6_clauses dX6_clauses_137 rfl rfl rfl ?_
                  refine e_bipush (v := nI 41) m_X6_clauses dX6_clauses_138 (by decide) ?_
                  refine e_iload m_X6_clauses dX6_clauses_140 rfl ?_
                  refine e_bipush (v := nI 32) m_X6_clauses dX6_clauses_142 (by decide) ?_
                  refine e_cvU (as := [.int (nI 41), .int (nI v61), .int (nI 32)]) hN m_X6_clauses dX6_clauses_144 c_RX6_106 (by decide) rfl rfl (gM_m G) rfl (Nat.le_of_ble_eq_true rfl) (Nat.le_of_ble_eq_true rfl) (by omega) (w_X6_push G (by omega)) (fun v69 s69 hN => ?_)
                  refine e_goto (t := 182) m_X6_clauses dX6_clauses_147 (by decide) ?_
                  exact e_ret0 m_X6_clauses dX6_clauses_182
                · refine e_aload_n m_X6_clauses dX6_clauses_150 rfl rfl rfl ?_
                  refine e_iload m_X6_clauses dX6_clauses_151 rfl ?_
                  refine e_bipush (v := nI 70) m_X6_clauses dX6_clauses_153 (by decide) ?_
                  refine e_aload_n m_X6_clauses dX6_clauses_155 rfl rfl rfl ?_
                  refine e_getf m_X6_clauses dX6_clauses_156 f_RX6_77 (gM_m G) rfl ?_
                  refine e_cvN (as := [.int (nI v61), .int (nI 70), .int (nI (m_at s64))]) hN m_X6_clauses dX6_clauses_159 c_RX6_99 (by decide) rfl rfl (gM_m G) rfl (Nat.le_of_ble_eq_true rfl) (Nat.le_of_ble_eq_true rfl) (by omega) (w_X6_child G (by omega)) (fun v70 s70 hN => ?_)
                  refine e_istore m_X6_clauses dX6_clauses_162 (by decide) rfl ?_
                  refine e_aload_n m_X6_clauses dX6_clauses_164 rfl rfl rfl ?_
                  refine e_bipush (v := nI 53) m_X6_clauses dX6_clauses_165 (by decide) ?_
                  refine e_iload m_X6_clauses dX6_clauses_167 rfl ?_
                  refine e_iconst (v := nI 0) m_X6_clauses dX6_clauses_169 (by decide) ?_
                  refine e_cvU (as := [.int (nI 53), .int (nI v70), .int (nI 0)]) hN m_X6_clauses dX6_clauses_170 c_RX6_106 (by decide) rfl rfl (gM_m G) rfl (Nat.le_of_ble_eq_true rfl) (Nat.le_of_ble_eq_true rfl) (by omega) (w_X6_push G (by omega)) (fun v71 s71 hN => ?_)
                  refine e_aload_n m_X6_clauses dX6_clauses_173 rfl rfl rfl ?_
                  refine e_bipush (v := nI 18) m_X6_clauses dX6_clauses_174 (by decide) ?_
                  refine e_iload m_X6_clauses dX6_clauses_176 rfl ?_
                  refine e_iconst (v := nI 0) m_X6_clauses dX6_clauses_178 (by decide) ?_
                  refine e_cvU (as := [.int (nI 18), .int (nI v70), .int (nI 0)]) hN m_X6_clauses dX6_clauses_179 c_RX6_106 (by decide) rfl rfl (gM_m G) rfl (Nat.le_of_ble_eq_true rfl) (Nat.le_of_ble_eq_true rfl) (by omega) (w_X6_push G (by omega)) (fun v72 s72 hN => ?_)
                  exact e_ret0 m_X6_clauses dX6_clauses_182
          · refine e_iconst (v := nI 1) m_X6_clauses dX6_clauses_73 (by decide) ?_
            refine e_iaddN m_X6_clauses dX6_clauses_74 ?_
            refine e_aload_n m_X6_clauses dX6_clauses_75 rfl rfl rfl ?_
            refine e_getf m_X6_clauses dX6_clauses_76 f_RX6_77 (gM_m G) rfl ?_
            refine e_cvN (as := [.int (nI x1), .int (nI 75), .int (nI (m_at s1))]) hN m_X6_clauses dX6_clauses_79 c_RX6_99 (by decide) rfl rfl (gM_m G) rfl (Nat.le_of_ble_eq_true rfl) (Nat.le_of_ble_eq_true rfl) (by omega) (w_X6_child G (by omega)) (fun v73 s73 hN => ?_)
            refine e_istore m_X6_clauses dX6_clauses_82 (by decide) rfl ?_
            refine e_aload_n m_X6_clauses dX6_clauses_84 rfl rfl rfl ?_
            refine e_dup m_X6_clauses dX6_clauses_85 rfl ?_
            refine e_getf m_X6_clauses dX6_clauses_86 f_RX6_77 (gM_m G) rfl ?_
            refine e_iconst (v := nI 1) m_X6_clauses dX6_clauses_89 (by decide) ?_
            refine e_iaddN m_X6_clauses dX6_clauses_90 ?_
            refine e_putf (v := .int (nI ((m_at s73) + 1))) (h' := TM h0 (w_at s73 ((m_at s73) + 1))) m_X6_clauses dX6_clauses_91 f_RX6_77 (gM_m G) (Nat.le_of_ble_eq_true rfl) (fit_i rfl) rfl (hpL_set (k := 10) (by decide) (Nat.le_of_ble_eq_true rfl)) ?_
            refine e_st hN (fun s74 hN => ?_)
            refine e_aload_n m_X6_clauses dX6_clauses_94 rfl rfl rfl ?_
            refine e_bipush (v := nI 51) m_X6_clauses dX6_clauses_95 (by decide) ?_
            refine e_iload_n m_X6_clauses dX6_clauses_97 rfl rfl ?_
            refine e_iload_n m_X6_clauses dX6_clauses_98 rfl rfl ?_
            refine e_cvU (as := [.int (nI 51), .int (nI x1), .int (nI x2)]) hN m_X6_clauses dX6_clauses_99 c_RX6_106 (by decide) rfl rfl (gM_m G) rfl (Nat.le_of_ble_eq_true rfl) (Nat.le_of_ble_eq_true rfl) (by omega) (w_X6_push G (by omega)) (fun v75 s75 hN => ?_)
            refine e_aload_n m_X6_clauses dX6_clauses_102 rfl rfl rfl ?_
            refine e_bipush (v := nI 52) m_X6_clauses dX6_clauses_103 (by decide) ?_
            refine e_iload m_X6_clauses dX6_clauses_105 rfl ?_
            refine e_iconst (v := nI 0) m_X6_clauses dX6_clauses_107 (by decide) ?_
            refine e_cvU (as := [.int (nI 52), .int (nI v73), .int (nI 0)]) hN m_X6_clauses dX6_clauses_108 c_RX6_106 (by decide) rfl rfl (gM_m G) rfl (Nat.le_of_ble_eq_true rfl) (Nat.le_of_ble_eq_true rfl) (by omega) (w_X6_push G (by omega)) (fun v76 s76 hN => ?_)
            refine e_iload_n m_X6_clauses dX6_clauses_111 rfl rfl ?_
            refine e_bipush (v := nI 15) m_X6_clauses dX6_clauses_112 (by decide) ?_
            refine e_ine (t := 118) (a := v1) (b := 15) hN m_X6_clauses dX6_clauses_114 (by decide) (fun q77 hN => ?_) (fun q77 hN => ?_)
            · exact e_ret0 m_X6_clauses dX6_clauses_117
            · refine e_iload_n m_X6_clauses dX6_clauses_118 rfl rfl ?_
              refine e_ifne (t := 132) hN m_X6_clauses dX6_clauses_119 (by decide) (fun q78 hN => ?_) (fun q78 hN => ?_)
              · refine e_aload_n m_X6_clauses dX6_clauses_122 rfl rfl rfl ?_
                refine e_iload m_X6_clauses dX6_clauses_123 rfl ?_
                refine e_iconst (v := nI 0) m_X6_clauses dX6_clauses_125 (by decide) ?_
                refine e_cvU (as := [.int (nI v73), .int (nI 0)]) hN m_X6_clauses dX6_clauses_126 c_RX6_159 (by decide) rfl rfl (gM_m G) rfl (Nat.le_of_ble_eq_true rfl) (Nat.le_of_ble_eq_true rfl) (by omega) (w_X6_exprs G (by omega)) (fun v79 s79 hN => ?_)
                refine e_goto (t := 182) m_X6_clauses dX6_clauses_129 (by decide) ?_
                exact e_ret0 m_X6_clauses dX6_clauses_182
              · refine e_iload_n m_X6_clauses dX6_clauses_132 rfl rfl ?_
                refine e_iconst (v := nI 2) m_X6_clauses dX6_clauses_133 (by decide) ?_
                refine e_ine (t := 150) (a := x2) (b := 2) hN m_X6_clauses dX6_clauses_134 (by decide) (fun q80 hN => ?_) (fun q80 hN => ?_)
                · refine e_aload_n m_X6_clauses dX6_clauses_137 rfl rfl rfl ?_
                  refine e_bipush (v := nI 41) m_X6_clauses dX6_clauses_138 (by decide) ?_
                  refine e_iload m_X6_clauses dX6_clauses_140 rfl ?_
                  refine e_bipush (v := nI 32) m_X6_clauses dX6_clauses_142 (by decide) ?_
                  refine e_cvU (as := [.int (nI 41), .int (nI v73), .int (nI 32)]) hN m_X6_clauses dX6_clauses_144 c_RX6_106 (by decide) rfl rfl (gM_m G) rfl (Nat.le_of_ble_eq_true rfl) (Nat.le_of_ble_eq_true rfl) (by omega) (w_X6_push G (by omega)) (fun v81 s81 hN => ?_)
                  refine e_goto (t := 182) m_X6_clauses dX6_clauses_147 (by decide) ?_
                  exact e_ret0 m_X6_clauses dX6_clauses_182
                · refine e_aload_n m_X6_clauses dX6_clauses_150 rfl rfl rfl ?_
                  refine e_iload m_X6_clauses dX6_clauses_151 rfl ?_
                  refine e_bipush (v := nI 70) m_X6_clauses dX6_clauses_153 (by decide) ?_
                  refine e_aload_n m_X6_clauses dX6_clauses_155 rfl rfl rfl ?_
                  refine e_getf m_X6_clauses dX6_clauses_156 f_RX6_77 (gM_m G) rfl ?_
                  refine e_cvN (as := [.int (nI v73), .int (nI 70), .int (nI (m_at s76))]) hN m_X6_clauses dX6_clauses_159 c_RX6_99 (by decide) rfl rfl (gM_m G) rfl (Nat.le_of_ble_eq_true rfl) (Nat.le_of_ble_eq_true rfl) (by omega) (w_X6_child G (by omega)) (fun v82 s82 hN => ?_)
                  refine e_istore m_X6_clauses dX6_clauses_162 (by decide) rfl ?_
                  refine e_aload_n m_X6_clauses dX6_clauses_164 rfl rfl rfl ?_
                  refine e_bipush (v := nI 53) m_X6_clauses dX6_clauses_165 (by decide) ?_
                  refine e_iload m_X6_clauses dX6_clauses_167 rfl ?_
                  refine e_iconst (v := nI 0) m_X6_clauses dX6_clauses_169 (by decide) ?_
                  refine e_cvU (as := [.int (nI 53), .int (nI v82), .int (nI 0)]) hN m_X6_clauses dX6_clauses_170 c_RX6_106 (by decide) rfl rfl (gM_m G) rfl (Nat.le_of_ble_eq_true rfl) (Nat.le_of_ble_eq_true rfl) (by omega) (w_X6_push G (by omega)) (fun v83 s83 hN => ?_)
                  refine e_aload_n m_X6_clauses dX6_clauses_173 rfl rfl rfl ?_
                  refine e_bipush (v := nI 18) m_X6_clauses dX6_clauses_174 (by decide) ?_
                  refine e_iload m_X6_clauses dX6_clauses_176 rfl ?_
                  refine e_iconst (v := nI 0) m_X6_clauses dX6_clauses_178 (by decide) ?_
                  refine e_cvU (as := [.int (nI 18), .int (nI v82), .int (nI 0)]) hN m_X6_clauses dX6_clauses_179 c_RX6_106 (by decide) rfl rfl (gM_m G) rfl (Nat.le_of_ble_eq_true rfl) (Nat.le_of_ble_eq_true rfl) (by omega) (w_X6_push G (by omega)) (fun v84 s84 hN => ?_)
                  exact e_ret0 m_X6_clauses dX6_clauses_182
        · refine e_bipush (v := nI 71) m_X6_clauses dX6_clauses_61 (by decide) ?_
          refine e_iload_n m_X6_clauses dX6_clauses_63 rfl rfl ?_
          refine e_bipush (v := nI 11) m_X6_clauses dX6_clauses_64 (by decide) ?_
          refine e_ine (t := 73) (a := v1) (b := 11) hN m_X6_clauses dX6_clauses_66 (by decide) (fun q85 hN => ?_) (fun q85 hN => ?_)
          · refine e_iconst (v := nI 0) m_X6_clauses dX6_clauses_69 (by decide) ?_
            refine e_goto (t := 74) m_X6_clauses dX6_clauses_70 (by decide) ?_
            refine e_iaddN m_X6_clauses dX6_clauses_74 ?_
            refine e_aload_n m_X6_clauses dX6_clauses_75 rfl rfl rfl ?_
            refine e_getf m_X6_clauses dX6_clauses_76 f_RX6_77 (gM_m G) rfl ?_
            refine e_cvN (as := [.int (nI x1), .int (nI 71), .int (nI (m_at s1))]) hN m_X6_clauses dX6_clauses_79 c_RX6_99 (by decide) rfl rfl (gM_m G) rfl (Nat.le_of_ble_eq_true rfl) (Nat.le_of_ble_eq_true rfl) (by omega) (w_X6_child G (by omega)) (fun v86 s86 hN => ?_)
            refine e_istore m_X6_clauses dX6_clauses_82 (by decide) rfl ?_
            refine e_aload_n m_X6_clauses dX6_clauses_84 rfl rfl rfl ?_
            refine e_dup m_X6_clauses dX6_clauses_85 rfl ?_
            refine e_getf m_X6_clauses dX6_clauses_86 f_RX6_77 (gM_m G) rfl ?_
            refine e_iconst (v := nI 1) m_X6_clauses dX6_clauses_89 (by decide) ?_
            refine e_iaddN m_X6_clauses dX6_clauses_90 ?_
            refine e_putf (v := .int (nI ((m_at s86) + 1))) (h' := TM h0 (w_at s86 ((m_at s86) + 1))) m_X6_clauses dX6_clauses_91 f_RX6_77 (gM_m G) (Nat.le_of_ble_eq_true rfl) (fit_i rfl) rfl (hpL_set (k := 10) (by decide) (Nat.le_of_ble_eq_true rfl)) ?_
            refine e_st hN (fun s87 hN => ?_)
            refine e_aload_n m_X6_clauses dX6_clauses_94 rfl rfl rfl ?_
            refine e_bipush (v := nI 51) m_X6_clauses dX6_clauses_95 (by decide) ?_
            refine e_iload_n m_X6_clauses dX6_clauses_97 rfl rfl ?_
            refine e_iload_n m_X6_clauses dX6_clauses_98 rfl rfl ?_
            refine e_cvU (as := [.int (nI 51), .int (nI x1), .int (nI x2)]) hN m_X6_clauses dX6_clauses_99 c_RX6_106 (by decide) rfl rfl (gM_m G) rfl (Nat.le_of_ble_eq_true rfl) (Nat.le_of_ble_eq_true rfl) (by omega) (w_X6_push G (by omega)) (fun v88 s88 hN => ?_)
            refine e_aload_n m_X6_clauses dX6_clauses_102 rfl rfl rfl ?_
            refine e_bipush (v := nI 52) m_X6_clauses dX6_clauses_103 (by decide) ?_
            refine e_iload m_X6_clauses dX6_clauses_105 rfl ?_
            refine e_iconst (v := nI 0) m_X6_clauses dX6_clauses_107 (by decide) ?_
            refine e_cvU (as := [.int (nI 52), .int (nI v86), .int (nI 0)]) hN m_X6_clauses dX6_clauses_108 c_RX6_106 (by decide) rfl rfl (gM_m G) rfl (Nat.le_of_ble_eq_true rfl) (Nat.le_of_ble_eq_true rfl) (by omega) (w_X6_push G (by omega)) (fun v89 s89 hN => ?_)
            refine e_iload_n m_X6_clauses dX6_clauses_111 rfl rfl ?_
            refine e_bipush (v := nI 15) m_X6_clauses dX6_clauses_112 (by decide) ?_
            refine e_ine (t := 118) (a := v1) (b := 15) hN m_X6_clauses dX6_clauses_114 (by decide) (fun q90 hN => ?_) (fun q90 hN => ?_)
            · exact e_ret0 m_X6_clauses dX6_clauses_117
            · refine e_iload_n m_X6_clauses dX6_clauses_118 rfl rfl ?_
              refine e_ifne (t := 132) hN m_X6_clauses dX6_clauses_119 (by decide) (fun q91 hN => ?_) (fun q91 hN => ?_)
              · refine e_aload_n m_X6_clauses dX6_clauses_122 rfl rfl rfl ?_
                refine e_iload m_X6_clauses dX6_clauses_123 rfl ?_
                refine e_iconst (v := nI 0) m_X6_clauses dX6_clauses_125 (by decide) ?_
                refine e_cvU (as := [.int (nI v86), .int (nI 0)]) hN m_X6_clauses dX6_clauses_126 c_RX6_159 (by decide) rfl rfl (gM_m G) rfl (Nat.le_of_ble_eq_true rfl) (Nat.le_of_ble_eq_true rfl) (by omega) (w_X6_exprs G (by omega)) (fun v92 s92 hN => ?_)
                refine e_goto (t := 182) m_X6_clauses dX6_clauses_129 (by decide) ?_
                exact e_ret0 m_X6_clauses dX6_clauses_182
              · refine e_iload_n m_X6_clauses dX6_clauses_132 rfl rfl ?_
                refine e_iconst (v := nI 2) m_X6_clauses dX6_clauses_133 (by decide) ?_
                refine e_ine (t := 150) (a := x2) (b := 2) hN m_X6_clauses dX6_clauses_134 (by decide) (fun q93 hN => ?_) (fun q93 hN => ?_)
                · refine e_aload_n m_X6_clauses dX6_clauses_137 rfl rfl rfl ?_
                  refine e_bipush (v := nI 41) m_X6_clauses dX6_clauses_138 (by decide) ?_
                  refine e_iload m_X6_clauses dX6_clauses_140 rfl ?_
                  refine e_bipush (v := nI 32) m_X6_clauses dX6_clauses_142 (by decide) ?_
                  refine e_cvU (as := [.int (nI 41), .int (nI v86), .int (nI 32)]) hN m_X6_clauses dX6_clauses_144 c_RX6_106 (by decide) rfl rfl (gM_m G) rfl (Nat.le_of_ble_eq_true rfl) (Nat.le_of_ble_eq_true rfl) (by omega) (w_X6_push G (by omega)) (fun v94 s94 hN => ?_)
                  refine e_goto (t := 182) m_X6_clauses dX6_clauses_147 (by decide) ?_
                  exact e_ret0 m_X6_clauses dX6_clauses_182
                · refine e_aload_n m_X6_clauses dX6_clauses_150 rfl rfl rfl ?_
                  refine e_iload m_X6_clauses dX6_clauses_151 rfl ?_
                  refine e_bipush (v := nI 70) m_X6_clauses dX6_clauses_153 (by decide) ?_
                  refine e_aload_n m_X6_clauses dX6_clauses_155 rfl rfl rfl ?_
                  refine e_getf m_X6_clauses dX6_clauses_156 f_RX6_77 (gM_m G) rfl ?_
                  refine e_cvN (as := [.int (nI v86), .int (nI 70), .int (nI (m_at s89))]) hN m_X6_clauses dX6_clauses_159 c_RX6_99 (by decide) rfl rfl (gM_m G) rfl (Nat.le_of_ble_eq_true rfl) (Nat.le_of_ble_eq_true rfl) (by omega) (w_X6_child G (by omega)) (fun v95 s95 hN => ?_)
                  refine e_istore m_X6_clauses dX6_clauses_162 (by decide) rfl ?_
                  refine e_aload_n m_X6_clauses dX6_clauses_164 rfl rfl rfl ?_
                  refine e_bipush (v := nI 53) m_X6_clauses dX6_clauses_165 (by decide) ?_
                  refine e_iload m_X6_clauses dX6_clauses_167 rfl ?_
                  refine e_iconst (v := nI 0) m_X6_clauses dX6_clauses_169 (by decide) ?_
                  refine e_cvU (as := [.int (nI 53), .int (nI v95), .int (nI 0)]) hN m_X6_clauses dX6_clauses_170 c_RX6_106 (by decide) rfl rfl (gM_m G) rfl (Nat.le_of_ble_eq_true rfl) (Nat.le_of_ble_eq_true rfl) (by omega) (w_X6_push G (by omega)) (fun v96 s96 hN => ?_)
                  refine e_aload_n m_X6_clauses dX6_clauses_173 rfl rfl rfl ?_
                  refine e_bipush (v := nI 18) m_X6_clauses dX6_clauses_174 (by decide) ?_
                  refine e_iload m_X6_clauses dX6_clauses_176 rfl ?_
                  refine e_iconst (v := nI 0) m_X6_clauses dX6_clauses_178 (by decide) ?_
                  refine e_cvU (as := [.int (nI 18), .int (nI v95), .int (nI 0)]) hN m_X6_clauses dX6_clauses_179 c_RX6_106 (by decide) rfl rfl (gM_m G) rfl (Nat.le_of_ble_eq_true rfl) (Nat.le_of_ble_eq_true rfl) (by omega) (w_X6_push G (by omega)) (fun v97 s97 hN => ?_)
                  exact e_ret0 m_X6_clauses dX6_clauses_182
          · refine e_iconst (v := nI 1) m_X6_clauses dX6_clauses_73 (by decide) ?_
            refine e_iaddN m_X6_clauses dX6_clauses_74 ?_
            refine e_aload_n m_X6_clauses dX6_clauses_75 rfl rfl rfl ?_
            refine e_getf m_X6_clauses dX6_clauses_76 f_RX6_77 (gM_m G) rfl ?_
            refine e_cvN (as := [.int (nI x1), .int (nI 72), .int (nI (m_at s1))]) hN m_X6_clauses dX6_clauses_79 c_RX6_99 (by decide) rfl rfl (gM_m G) rfl (Nat.le_of_ble_eq_true rfl) (Nat.le_of_ble_eq_true rfl) (by omega) (w_X6_child G (by omega)) (fun v98 s98 hN => ?_)
            refine e_istore m_X6_clauses dX6_clauses_82 (by decide) rfl ?_
            refine e_aload_n m_X6_clauses dX6_clauses_84 rfl rfl rfl ?_
            refine e_dup m_X6_clauses dX6_clauses_85 rfl ?_
            refine e_getf m_X6_clauses dX6_clauses_86 f_RX6_77 (gM_m G) rfl ?_
            refine e_iconst (v := nI 1) m_X6_clauses dX6_clauses_89 (by decide) ?_
            refine e_iaddN m_X6_clauses dX6_clauses_90 ?_
            refine e_putf (v := .int (nI ((m_at s98) + 1))) (h' := TM h0 (w_at s98 ((m_at s98) + 1))) m_X6_clauses dX6_clauses_91 f_RX6_77 (gM_m G) (Nat.le_of_ble_eq_true rfl) (fit_i rfl) rfl (hpL_set (k := 10) (by decide) (Nat.le_of_ble_eq_true rfl)) ?_
            refine e_st hN (fun s99 hN => ?_)
            refine e_aload_n m_X6_clauses dX6_clauses_94 rfl rfl rfl ?_
            refine e_bipush (v := nI 51) m_X6_clauses dX6_clauses_95 (by decide) ?_
            refine e_iload_n m_X6_clauses dX6_clauses_97 rfl rfl ?_
            refine e_iload_n m_X6_clauses dX6_clauses_98 rfl rfl ?_
            refine e_cvU (as := [.int (nI 51), .int (nI x1), .int (nI x2)]) hN m_X6_clauses dX6_clauses_99 c_RX6_106 (by decide) rfl rfl (gM_m G) rfl (Nat.le_of_ble_eq_true rfl) (Nat.le_of_ble_eq_true rfl) (by omega) (w_X6_push G (by omega)) (fun v100 s100 hN => ?_)
            refine e_aload_n m_X6_clauses dX6_clauses_102 rfl rfl rfl ?_
            refine e_bipush (v := nI 52) m_X6_clauses dX6_clauses_103 (by decide) ?_
            refine e_iload m_X6_clauses dX6_clauses_105 rfl ?_
            refine e_iconst (v := nI 0) m_X6_clauses dX6_clauses_107 (by decide) ?_
            refine e_cvU (as := [.int (nI 52), .int (nI v98), .int (nI 0)]) hN m_X6_clauses dX6_clauses_108 c_RX6_106 (by decide) rfl rfl (gM_m G) rfl (Nat.le_of_ble_eq_true rfl) (Nat.le_of_ble_eq_true rfl) (by omega) (w_X6_push G (by omega)) (fun v101 s101 hN => ?_)
            refine e_iload_n m_X6_clauses dX6_clauses_111 rfl rfl ?_
            refine e_bipush (v := nI 15) m_X6_clauses dX6_clauses_112 (by decide) ?_
            refine e_ine (t := 118) (a := v1) (b := 15) hN m_X6_clauses dX6_clauses_114 (by decide) (fun q102 hN => ?_) (fun q102 hN => ?_)
            · exact e_ret0 m_X6_clauses dX6_clauses_117
            · refine e_iload_n m_X6_clauses dX6_clauses_118 rfl rfl ?_
              refine e_ifne (t := 132) hN m_X6_clauses dX6_clauses_119 (by decide) (fun q103 hN => ?_) (fun q103 hN => ?_)
              · refine e_aload_n m_X6_clauses dX6_clauses_122 rfl rfl rfl ?_
                refine e_iload m_X6_clauses dX6_clauses_123 rfl ?_
                refine e_iconst (v := nI 0) m_X6_clauses dX6_clauses_125 (by decide) ?_
                refine e_cvU (as := [.int (nI v98), .int (nI 0)]) hN m_X6_clauses dX6_clauses_126 c_RX6_159 (by decide) rfl rfl (gM_m G) rfl (Nat.le_of_ble_eq_true rfl) (Nat.le_of_ble_eq_true rfl) (by omega) (w_X6_exprs G (by omega)) (fun v104 s104 hN => ?_)
                refine e_goto (t := 182) m_X6_clauses dX6_clauses_129 (by decide) ?_
                exact e_ret0 m_X6_clauses dX6_clauses_182
              · refine e_iload_n m_X6_clauses dX6_clauses_132 rfl rfl ?_
                refine e_iconst (v := nI 2) m_X6_clauses dX6_clauses_133 (by decide) ?_
                refine e_ine (t := 150) (a := x2) (b := 2) hN m_X6_clauses dX6_clauses_134 (by decide) (fun q105 hN => ?_) (fun q105 hN => ?_)
                · refine e_aload_n m_X6_clauses dX6_clauses_137 rfl rfl rfl ?_
                  refine e_bipush (v := nI 41) m_X6_clauses dX6_clauses_138 (by decide) ?_
                  refine e_iload m_X6_clauses dX6_clauses_140 rfl ?_
                  refine e_bipush (v := nI 32) m_X6_clauses dX6_clauses_142 (by decide) ?_
                  refine e_cvU (as := [.int (nI 41), .int (nI v98), .int (nI 32)]) hN m_X6_clauses dX6_clauses_144 c_RX6_106 (by decide) rfl rfl (gM_m G) rfl (Nat.le_of_ble_eq_true rfl) (Nat.le_of_ble_eq_true rfl) (by omega) (w_X6_push G (by omega)) (fun v106 s106 hN => ?_)
                  refine e_goto (t := 182) m_X6_clauses dX6_clauses_147 (by decide) ?_
                  exact e_ret0 m_X6_clauses dX6_clauses_182
                · refine e_aload_n m_X6_clauses dX6_clauses_150 rfl rfl rfl ?_
                  refine e_iload m_X6_clauses dX6_clauses_151 rfl ?_
                  refine e_bipush (v := nI 70) m_X6_clauses dX6_clauses_153 (by decide) ?_
                  refine e_aload_n m_X6_clauses dX6_clauses_155 rfl rfl rfl ?_
                  refine e_getf m_X6_clauses dX6_clauses_156 f_RX6_77 (gM_m G) rfl ?_
                  refine e_cvN (as := [.int (nI v98), .int (nI 70), .int (nI (m_at s101))]) hN m_X6_clauses dX6_clauses_159 c_RX6_99 (by decide) rfl rfl (gM_m G) rfl (Nat.le_of_ble_eq_true rfl) (Nat.le_of_ble_eq_true rfl) (by omega) (w_X6_child G (by omega)) (fun v107 s107 hN => ?_)
                  refine e_istore m_X6_clauses dX6_clauses_162 (by decide) rfl ?_
                  refine e_aload_n m_X6_clauses dX6_clauses_164 rfl rfl rfl ?_
                  refine e_bipush (v := nI 53) m_X6_clauses dX6_clauses_165 (by decide) ?_
                  refine e_iload m_X6_clauses dX6_clauses_167 rfl ?_
                  refine e_iconst (v := nI 0) m_X6_clauses dX6_clauses_169 (by decide) ?_
                  refine e_cvU (as := [.int (nI 53), .int (nI v107), .int (nI 0)]) hN m_X6_clauses dX6_clauses_170 c_RX6_106 (by decide) rfl rfl (gM_m G) rfl (Nat.le_of_ble_eq_true rfl) (Nat.le_of_ble_eq_true rfl) (by omega) (w_X6_push G (by omega)) (fun v108 s108 hN => ?_)
                  refine e_aload_n m_X6_clauses dX6_clauses_173 rfl rfl rfl ?_
                  refine e_bipush (v := nI 18) m_X6_clauses dX6_clauses_174 (by decide) ?_
                  refine e_iload m_X6_clauses dX6_clauses_176 rfl ?_
                  refine e_iconst (v := nI 0) m_X6_clauses dX6_clauses_178 (by decide) ?_
                  refine e_cvU (as := [.int (nI 18), .int (nI v107), .int (nI 0)]) hN m_X6_clauses dX6_clauses_179 c_RX6_106 (by decide) rfl rfl (gM_m G) rfl (Nat.le_of_ble_eq_true rfl) (Nat.le_of_ble_eq_true rfl) (by omega) (w_X6_push G (by omega)) (fun v109 s109 hN => ?_)
                  exact e_ret0 m_X6_clauses dX6_clauses_182
      · refine e_aload_n m_X6_clauses dX6_clauses_44 rfl rfl rfl ?_
        refine e_cvU (as := []) hN m_X6_clauses dX6_clauses_45 c_RX6_87 (by decide) rfl rfl (gM_m G) rfl (Nat.le_of_ble_eq_true rfl) (Nat.le_of_ble_eq_true rfl) (by omega) (w_X6_error G (by omega)) (fun v110 s110 hN => ?_)
        exact e_ret0 m_X6_clauses dX6_clauses_48

