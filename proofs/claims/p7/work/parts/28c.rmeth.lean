/-! The methods of the reference. -/
def b_X6_sliceMore  (x1 : Nat) (s : Mm) : Rs Mm := bn (b_X6_look  s) (fun v1 s1 => ife v1 87 (st1 (w_at s1 ((m_at s1) + 1)) (fun s3 => bn (b_X6_push 8 81 0 s3) (fun v4 s4 => bn (b_X6_expression x1 0 1 s4) (fun v5 s5 => okR 0 s5)))) (bn (b_X6_pass 81 s1) (fun v6 s6 => ck ((m_dp s6) ≠ 0) (st1 (w_dp s6 ((m_dp s6) - 1)) (fun s8 => okR 0 s8)))))
theorem w_X6_sliceMore {xs : Nat → Int32} {L : Nat} {h0 : mm_H} (G : Mg h0) {x1 : Nat} {s : Mm} {d : Nat} (hd : 12 ≤ d) (hN : b_X6_sliceMore  x1 s ≠ none) : Rn xs L d 156 [.ref 10, .int (nI x1)] (TM h0 s) (ou eU (TM h0) (b_X6_sliceMore  x1 s)) := by
  unfold Rn
  unfold b_X6_sliceMore at hN ⊢
  refine e_aload_n m_X6_sliceMore dX6_sliceMore_0 rfl rfl rfl ?_
  refine e_cvN (as := []) hN m_X6_sliceMore dX6_sliceMore_1 c_RX6_83 (by decide) rfl rfl (gM_m G) rfl (Nat.le_of_ble_eq_true rfl) (Nat.le_of_ble_eq_true rfl) (by omega) (w_X6_look G (by omega)) (fun v1 s1 hN => ?_)
  refine e_bipush (v := nI 87) m_X6_sliceMore dX6_sliceMore_4 (by decide) ?_
  refine e_ieq (t := 26) (a := v1) (b := 87) hN m_X6_sliceMore dX6_sliceMore_6 (by decide) (fun q2 hN => ?_) (fun q2 hN => ?_)
  · refine e_aload_n m_X6_sliceMore dX6_sliceMore_26 rfl rfl rfl ?_
    refine e_dup m_X6_sliceMore dX6_sliceMore_27 rfl ?_
    refine e_getf m_X6_sliceMore dX6_sliceMore_28 f_RX6_77 (gM_m G) rfl ?_
    refine e_iconst (v := nI 1) m_X6_sliceMore dX6_sliceMore_31 (by decide) ?_
    refine e_iaddN m_X6_sliceMore dX6_sliceMore_32 ?_
    refine e_putf (v := .int (nI ((m_at s1) + 1))) (h' := TM h0 (w_at s1 ((m_at s1) + 1))) m_X6_sliceMore dX6_sliceMore_33 f_RX6_77 (gM_m G) (Nat.le_of_ble_eq_true rfl) (fit_i rfl) rfl (hpL_set (k := 10) (by decide) (Nat.le_of_ble_eq_true rfl)) ?_
    refine e_st hN (fun s3 hN => ?_)
    refine e_aload_n m_X6_sliceMore dX6_sliceMore_36 rfl rfl rfl ?_
    refine e_bipush (v := nI 8) m_X6_sliceMore dX6_sliceMore_37 (by decide) ?_
    refine e_bipush (v := nI 81) m_X6_sliceMore dX6_sliceMore_39 (by decide) ?_
    refine e_iconst (v := nI 0) m_X6_sliceMore dX6_sliceMore_41 (by decide) ?_
    refine e_cvU (as := [.int (nI 8), .int (nI 81), .int (nI 0)]) hN m_X6_sliceMore dX6_sliceMore_42 c_RX6_106 (by decide) rfl rfl (gM_m G) rfl (Nat.le_of_ble_eq_true rfl) (Nat.le_of_ble_eq_true rfl) (by omega) (w_X6_push G (by omega)) (fun v4 s4 hN => ?_)
    refine e_aload_n m_X6_sliceMore dX6_sliceMore_45 rfl rfl rfl ?_
    refine e_iload_n m_X6_sliceMore dX6_sliceMore_46 rfl rfl ?_
    refine e_iconst (v := nI 0) m_X6_sliceMore dX6_sliceMore_47 (by decide) ?_
    refine e_iconst (v := nI 1) m_X6_sliceMore dX6_sliceMore_48 (by decide) ?_
    refine e_cvU (as := [.int (nI x1), .int (nI 0), .int (nI 1)]) hN m_X6_sliceMore dX6_sliceMore_49 c_RX6_117 (by decide) rfl rfl (gM_m G) rfl (Nat.le_of_ble_eq_true rfl) (Nat.le_of_ble_eq_true rfl) (by omega) (w_X6_expression G (by omega)) (fun v5 s5 hN => ?_)
    exact e_ret0 m_X6_sliceMore dX6_sliceMore_52
  · refine e_aload_n m_X6_sliceMore dX6_sliceMore_9 rfl rfl rfl ?_
    refine e_bipush (v := nI 81) m_X6_sliceMore dX6_sliceMore_10 (by decide) ?_
    refine e_cvU (as := [.int (nI 81)]) hN m_X6_sliceMore dX6_sliceMore_12 c_RX6_141 (by decide) rfl rfl (gM_m G) rfl (Nat.le_of_ble_eq_true rfl) (Nat.le_of_ble_eq_true rfl) (by omega) (w_X6_pass G (by omega)) (fun v6 s6 hN => ?_)
    refine e_aload_n m_X6_sliceMore dX6_sliceMore_15 rfl rfl rfl ?_
    refine e_dup m_X6_sliceMore dX6_sliceMore_16 rfl ?_
    refine e_getf m_X6_sliceMore dX6_sliceMore_17 f_RX6_90 (gM_m G) rfl ?_
    refine e_iconst (v := nI 1) m_X6_sliceMore dX6_sliceMore_20 (by decide) ?_
    refine e_isubO m_X6_sliceMore dX6_sliceMore_21 ?_
    refine e_ck hN (fun q7 hN => ?_)
    rw [oI_p q7]
    refine e_putf (v := .int (nI ((m_dp s6) - 1))) (h' := TM h0 (w_dp s6 ((m_dp s6) - 1))) m_X6_sliceMore dX6_sliceMore_22 f_RX6_90 (gM_m G) (Nat.le_of_ble_eq_true rfl) (fit_i rfl) rfl (hpL_set (k := 10) (by decide) (Nat.le_of_ble_eq_true rfl)) ?_
    refine e_st hN (fun s8 hN => ?_)
    exact e_ret0 m_X6_sliceMore dX6_sliceMore_25

def b_X6_elementsMore  (x1 : Nat) (s : Mm) : Rs Mm := bn (b_X6_look  s) (fun v1 s1 => ife v1 83 (bn (b_X6_elements x1 s1) (fun v3 s3 => okR 0 s3)) (bn (b_X6_pass 84 s1) (fun v4 s4 => bn (b_X6_push 14 x1 0 s4) (fun v5 s5 => okR 0 s5))))
theorem w_X6_elementsMore {xs : Nat → Int32} {L : Nat} {h0 : mm_H} (G : Mg h0) {x1 : Nat} {s : Mm} {d : Nat} (hd : 12 ≤ d) (hN : b_X6_elementsMore  x1 s ≠ none) : Rn xs L d 158 [.ref 10, .int (nI x1)] (TM h0 s) (ou eU (TM h0) (b_X6_elementsMore  x1 s)) := by
  unfold Rn
  unfold b_X6_elementsMore at hN ⊢
  refine e_aload_n m_X6_elementsMore dX6_elementsMore_0 rfl rfl rfl ?_
  refine e_cvN (as := []) hN m_X6_elementsMore dX6_elementsMore_1 c_RX6_83 (by decide) rfl rfl (gM_m G) rfl (Nat.le_of_ble_eq_true rfl) (Nat.le_of_ble_eq_true rfl) (by omega) (w_X6_look G (by omega)) (fun v1 s1 hN => ?_)
  refine e_bipush (v := nI 83) m_X6_elementsMore dX6_elementsMore_4 (by decide) ?_
  refine e_ine (t := 15) (a := v1) (b := 83) hN m_X6_elementsMore dX6_elementsMore_6 (by decide) (fun q2 hN => ?_) (fun q2 hN => ?_)
  · refine e_aload_n m_X6_elementsMore dX6_elementsMore_9 rfl rfl rfl ?_
    refine e_iload_n m_X6_elementsMore dX6_elementsMore_10 rfl rfl ?_
    refine e_cvU (as := [.int (nI x1)]) hN m_X6_elementsMore dX6_elementsMore_11 c_RX6_137 (by decide) rfl rfl (gM_m G) rfl (Nat.le_of_ble_eq_true rfl) (Nat.le_of_ble_eq_true rfl) (by omega) (w_X6_elements G (by omega)) (fun v3 s3 hN => ?_)
    exact e_ret0 m_X6_elementsMore dX6_elementsMore_14
  · refine e_aload_n m_X6_elementsMore dX6_elementsMore_15 rfl rfl rfl ?_
    refine e_bipush (v := nI 84) m_X6_elementsMore dX6_elementsMore_16 (by decide) ?_
    refine e_cvU (as := [.int (nI 84)]) hN m_X6_elementsMore dX6_elementsMore_18 c_RX6_141 (by decide) rfl rfl (gM_m G) rfl (Nat.le_of_ble_eq_true rfl) (Nat.le_of_ble_eq_true rfl) (by omega) (w_X6_pass G (by omega)) (fun v4 s4 hN => ?_)
    refine e_aload_n m_X6_elementsMore dX6_elementsMore_21 rfl rfl rfl ?_
    refine e_bipush (v := nI 14) m_X6_elementsMore dX6_elementsMore_22 (by decide) ?_
    refine e_iload_n m_X6_elementsMore dX6_elementsMore_24 rfl rfl ?_
    refine e_iconst (v := nI 0) m_X6_elementsMore dX6_elementsMore_25 (by decide) ?_
    refine e_cvU (as := [.int (nI 14), .int (nI x1), .int (nI 0)]) hN m_X6_elementsMore dX6_elementsMore_26 c_RX6_106 (by decide) rfl rfl (gM_m G) rfl (Nat.le_of_ble_eq_true rfl) (Nat.le_of_ble_eq_true rfl) (by omega) (w_X6_push G (by omega)) (fun v5 s5 hN => ?_)
    exact e_ret0 m_X6_elementsMore dX6_elementsMore_29

def b_X6_value  (x1 : Nat) (s : Mm) : Rs Mm := bn (b_X6_look  s) (fun v1 s1 => ife v1 82 (bn (b_X6_child x1 93 (m_at s1) s1) (fun v3 s3 => bn (b_X6_more  s3) (fun v4 s4 => st1 (w_at s4 ((m_at s4) + 1)) (fun s5 => bn (b_X6_push 14 v3 0 s5) (fun v6 s6 => okR 0 s6))))) (bn (b_X6_expression x1 0 1 s1) (fun v7 s7 => okR 0 s7)))
theorem w_X6_value {xs : Nat → Int32} {L : Nat} {h0 : mm_H} (G : Mg h0) {x1 : Nat} {s : Mm} {d : Nat} (hd : 12 ≤ d) (hN : b_X6_value  x1 s ≠ none) : Rn xs L d 160 [.ref 10, .int (nI x1)] (TM h0 s) (ou eU (TM h0) (b_X6_value  x1 s)) := by
  unfold Rn
  unfold b_X6_value at hN ⊢
  refine e_aload_n m_X6_value dX6_value_0 rfl rfl rfl ?_
  refine e_cvN (as := []) hN m_X6_value dX6_value_1 c_RX6_83 (by decide) rfl rfl (gM_m G) rfl (Nat.le_of_ble_eq_true rfl) (Nat.le_of_ble_eq_true rfl) (by omega) (w_X6_look G (by omega)) (fun v1 s1 hN => ?_)
  refine e_bipush (v := nI 82) m_X6_value dX6_value_4 (by decide) ?_
  refine e_ieq (t := 17) (a := v1) (b := 82) hN m_X6_value dX6_value_6 (by decide) (fun q2 hN => ?_) (fun q2 hN => ?_)
  · refine e_aload_n m_X6_value dX6_value_17 rfl rfl rfl ?_
    refine e_iload_n m_X6_value dX6_value_18 rfl rfl ?_
    refine e_bipush (v := nI 93) m_X6_value dX6_value_19 (by decide) ?_
    refine e_aload_n m_X6_value dX6_value_21 rfl rfl rfl ?_
    refine e_getf m_X6_value dX6_value_22 f_RX6_77 (gM_m G) rfl ?_
    refine e_cvN (as := [.int (nI x1), .int (nI 93), .int (nI (m_at s1))]) hN m_X6_value dX6_value_25 c_RX6_99 (by decide) rfl rfl (gM_m G) rfl (Nat.le_of_ble_eq_true rfl) (Nat.le_of_ble_eq_true rfl) (by omega) (w_X6_child G (by omega)) (fun v3 s3 hN => ?_)
    refine e_istore_n m_X6_value dX6_value_28 rfl (by decide) rfl ?_
    refine e_aload_n m_X6_value dX6_value_29 rfl rfl rfl ?_
    refine e_cvU (as := []) hN m_X6_value dX6_value_30 c_RX6_123 (by decide) rfl rfl (gM_m G) rfl (Nat.le_of_ble_eq_true rfl) (Nat.le_of_ble_eq_true rfl) (by omega) (w_X6_more G (by omega)) (fun v4 s4 hN => ?_)
    refine e_aload_n m_X6_value dX6_value_33 rfl rfl rfl ?_
    refine e_dup m_X6_value dX6_value_34 rfl ?_
    refine e_getf m_X6_value dX6_value_35 f_RX6_77 (gM_m G) rfl ?_
    refine e_iconst (v := nI 1) m_X6_value dX6_value_38 (by decide) ?_
    refine e_iaddN m_X6_value dX6_value_39 ?_
    refine e_putf (v := .int (nI ((m_at s4) + 1))) (h' := TM h0 (w_at s4 ((m_at s4) + 1))) m_X6_value dX6_value_40 f_RX6_77 (gM_m G) (Nat.le_of_ble_eq_true rfl) (fit_i rfl) rfl (hpL_set (k := 10) (by decide) (Nat.le_of_ble_eq_true rfl)) ?_
    refine e_st hN (fun s5 hN => ?_)
    refine e_aload_n m_X6_value dX6_value_43 rfl rfl rfl ?_
    refine e_bipush (v := nI 14) m_X6_value dX6_value_44 (by decide) ?_
    refine e_iload_n m_X6_value dX6_value_46 rfl rfl ?_
    refine e_iconst (v := nI 0) m_X6_value dX6_value_47 (by decide) ?_
    refine e_cvU (as := [.int (nI 14), .int (nI v3), .int (nI 0)]) hN m_X6_value dX6_value_48 c_RX6_106 (by decide) rfl rfl (gM_m G) rfl (Nat.le_of_ble_eq_true rfl) (Nat.le_of_ble_eq_true rfl) (by omega) (w_X6_push G (by omega)) (fun v6 s6 hN => ?_)
    exact e_ret0 m_X6_value dX6_value_51
  · refine e_aload_n m_X6_value dX6_value_9 rfl rfl rfl ?_
    refine e_iload_n m_X6_value dX6_value_10 rfl rfl ?_
    refine e_iconst (v := nI 0) m_X6_value dX6_value_11 (by decide) ?_
    refine e_iconst (v := nI 1) m_X6_value dX6_value_12 (by decide) ?_
    refine e_cvU (as := [.int (nI x1), .int (nI 0), .int (nI 1)]) hN m_X6_value dX6_value_13 c_RX6_117 (by decide) rfl rfl (gM_m G) rfl (Nat.le_of_ble_eq_true rfl) (Nat.le_of_ble_eq_true rfl) (by omega) (w_X6_expression G (by omega)) (fun v7 s7 hN => ?_)
    exact e_ret0 m_X6_value dX6_value_16

def b_X6_array  (x1 : Nat) (x2 : Nat) (s : Mm) : Rs Mm := bn (b_X6_child x1 21 (m_at s) s) (fun v1 s1 => st1 (w_at s1 ((m_at s1) + 1)) (fun s2 => bn (b_X6_look  s2) (fun v3 s3 => ife v3 81 (ck (v1 < 65536) (st1 (w_wh s3 (upN (m_wh s3) v1 20)) (fun s6 => st1 (w_at s6 ((m_at s6) + 1)) (fun s7 => bn (b_X6_push 18 v1 0 s7) (fun v8 s8 => okR 0 s8))))) (bn (b_X6_look  s3) (fun v9 s9 => ife v9 77 (ife x2 1 (bn (b_X6_child v1 17 (m_at s9) s9) (fun v12 s12 => st1 (w_at s12 ((m_at s12) + 1)) (fun s13 => bn (b_X6_pass 81 s13) (fun v14 s14 => bn (b_X6_push 18 v1 0 s14) (fun v15 s15 => okR 0 s15))))) (bn (b_X6_push 18 v1 0 s9) (fun v16 s16 => bn (b_X6_push 7 81 0 s16) (fun v17 s17 => bn (b_X6_expression v1 0 1 s17) (fun v18 s18 => okR 0 s18))))) (bn (b_X6_push 18 v1 0 s9) (fun v19 s19 => bn (b_X6_push 7 81 0 s19) (fun v20 s20 => bn (b_X6_expression v1 0 1 s20) (fun v21 s21 => okR 0 s21)))))))))
theorem w_X6_array {xs : Nat → Int32} {L : Nat} {h0 : mm_H} (G : Mg h0) {x1 : Nat} {x2 : Nat} {s : Mm} {d : Nat} (hd : 12 ≤ d) (hN : b_X6_array  x1 x2 s ≠ none) : Rn xs L d 164 [.ref 10, .int (nI x1), .int (nI x2)] (TM h0 s) (ou eU (TM h0) (b_X6_array  x1 x2 s)) := by
  unfold Rn
  unfold b_X6_array at hN ⊢
  refine e_aload_n m_X6_array dX6_array_0 rfl rfl rfl ?_
  refine e_iload_n m_X6_array dX6_array_1 rfl rfl ?_
  refine e_bipush (v := nI 21) m_X6_array dX6_array_2 (by decide) ?_
  refine e_aload_n m_X6_array dX6_array_4 rfl rfl rfl ?_
  refine e_getf m_X6_array dX6_array_5 f_RX6_77 (gM_m G) rfl ?_
  refine e_cvN (as := [.int (nI x1), .int (nI 21), .int (nI (m_at s))]) hN m_X6_array dX6_array_8 c_RX6_99 (by decide) rfl rfl (gM_m G) rfl (Nat.le_of_ble_eq_true rfl) (Nat.le_of_ble_eq_true rfl) (by omega) (w_X6_child G (by omega)) (fun v1 s1 hN => ?_)
  refine e_istore_n m_X6_array dX6_array_11 rfl (by decide) rfl ?_
  refine e_aload_n m_X6_array dX6_array_12 rfl rfl rfl ?_
  refine e_dup m_X6_array dX6_array_13 rfl ?_
  refine e_getf m_X6_array dX6_array_14 f_RX6_77 (gM_m G) rfl ?_
  refine e_iconst (v := nI 1) m_X6_array dX6_array_17 (by decide) ?_
  refine e_iaddN m_X6_array dX6_array_18 ?_
  refine e_putf (v := .int (nI ((m_at s1) + 1))) (h' := TM h0 (w_at s1 ((m_at s1) + 1))) m_X6_array dX6_array_19 f_RX6_77 (gM_m G) (Nat.le_of_ble_eq_true rfl) (fit_i rfl) rfl (hpL_set (k := 10) (by decide) (Nat.le_of_ble_eq_true rfl)) ?_
  refine e_st hN (fun s2 hN => ?_)
  refine e_aload_n m_X6_array dX6_array_22 rfl rfl rfl ?_
  refine e_cvN (as := []) hN m_X6_array dX6_array_23 c_RX6_83 (by decide) rfl rfl (gM_m G) rfl (Nat.le_of_ble_eq_true rfl) (Nat.le_of_ble_eq_true rfl) (by omega) (w_X6_look G (by omega)) (fun v3 s3 hN => ?_)
  refine e_bipush (v := nI 81) m_X6_array dX6_array_26 (by decide) ?_
  refine e_ine (t := 60) (a := v3) (b := 81) hN m_X6_array dX6_array_28 (by decide) (fun q4 hN => ?_) (fun q4 hN => ?_)
  · refine e_aload_n m_X6_array dX6_array_31 rfl rfl rfl ?_
    refine e_getf m_X6_array dX6_array_32 f_RX6_14 (gM_m G) rfl ?_
    refine e_iload_n m_X6_array dX6_array_35 rfl rfl ?_
    refine e_bipush (v := nI 20) m_X6_array dX6_array_36 (by decide) ?_
    refine e_ck hN (fun q5 hN => ?_)
    refine e_astN (v := 20) (h' := TM h0 (w_wh s3 (upN (m_wh s3) v1 20))) q5 (by decide) m_X6_array dX6_array_38 (gM_wh G) (hpL_set (k := 12) (by decide) (Nat.le_of_ble_eq_true rfl)) ?_
    refine e_st hN (fun s6 hN => ?_)
    refine e_aload_n m_X6_array dX6_array_39 rfl rfl rfl ?_
    refine e_dup m_X6_array dX6_array_40 rfl ?_
    refine e_getf m_X6_array dX6_array_41 f_RX6_77 (gM_m G) rfl ?_
    refine e_iconst (v := nI 1) m_X6_array dX6_array_44 (by decide) ?_
    refine e_iaddN m_X6_array dX6_array_45 ?_
    refine e_putf (v := .int (nI ((m_at s6) + 1))) (h' := TM h0 (w_at s6 ((m_at s6) + 1))) m_X6_array dX6_array_46 f_RX6_77 (gM_m G) (Nat.le_of_ble_eq_true rfl) (fit_i rfl) rfl (hpL_set (k := 10) (by decide) (Nat.le_of_ble_eq_true rfl)) ?_
    refine e_st hN (fun s7 hN => ?_)
    refine e_aload_n m_X6_array dX6_array_49 rfl rfl rfl ?_
    refine e_bipush (v := nI 18) m_X6_array dX6_array_50 (by decide) ?_
    refine e_iload_n m_X6_array dX6_array_52 rfl rfl ?_
    refine e_iconst (v := nI 0) m_X6_array dX6_array_53 (by decide) ?_
    refine e_cvU (as := [.int (nI 18), .int (nI v1), .int (nI 0)]) hN m_X6_array dX6_array_54 c_RX6_106 (by decide) rfl rfl (gM_m G) rfl (Nat.le_of_ble_eq_true rfl) (Nat.le_of_ble_eq_true rfl) (by omega) (w_X6_push G (by omega)) (fun v8 s8 hN => ?_)
    refine e_goto (t := 137) m_X6_array dX6_array_57 (by decide) ?_
    exact e_ret0 m_X6_array dX6_array_137
  · refine e_aload_n m_X6_array dX6_array_60 rfl rfl rfl ?_
    refine e_cvN (as := []) hN m_X6_array dX6_array_61 c_RX6_83 (by decide) rfl rfl (gM_m G) rfl (Nat.le_of_ble_eq_true rfl) (Nat.le_of_ble_eq_true rfl) (by omega) (w_X6_look G (by omega)) (fun v9 s9 hN => ?_)
    refine e_bipush (v := nI 77) m_X6_array dX6_array_64 (by decide) ?_
    refine e_ine (t := 113) (a := v9) (b := 77) hN m_X6_array dX6_array_66 (by decide) (fun q10 hN => ?_) (fun q10 hN => ?_)
    · refine e_iload_n m_X6_array dX6_array_69 rfl rfl ?_
      refine e_iconst (v := nI 1) m_X6_array dX6_array_70 (by decide) ?_
      refine e_ine (t := 113) (a := x2) (b := 1) hN m_X6_array dX6_array_71 (by decide) (fun q11 hN => ?_) (fun q11 hN => ?_)
      · refine e_aload_n m_X6_array dX6_array_74 rfl rfl rfl ?_
        refine e_iload_n m_X6_array dX6_array_75 rfl rfl ?_
        refine e_bipush (v := nI 17) m_X6_array dX6_array_76 (by decide) ?_
        refine e_aload_n m_X6_array dX6_array_78 rfl rfl rfl ?_
        refine e_getf m_X6_array dX6_array_79 f_RX6_77 (gM_m G) rfl ?_
        refine e_cvN (as := [.int (nI v1), .int (nI 17), .int (nI (m_at s9))]) hN m_X6_array dX6_array_82 c_RX6_99 (by decide) rfl rfl (gM_m G) rfl (Nat.le_of_ble_eq_true rfl) (Nat.le_of_ble_eq_true rfl) (by omega) (w_X6_child G (by omega)) (fun v12 s12 hN => ?_)
        refine e_pop m_X6_array dX6_array_85 rfl ?_
        refine e_aload_n m_X6_array dX6_array_86 rfl rfl rfl ?_
        refine e_dup m_X6_array dX6_array_87 rfl ?_
        refine e_getf m_X6_array dX6_array_88 f_RX6_77 (gM_m G) rfl ?_
        refine e_iconst (v := nI 1) m_X6_array dX6_array_91 (by decide) ?_
        refine e_iaddN m_X6_array dX6_array_92 ?_
        refine e_putf (v := .int (nI ((m_at s12) + 1))) (h' := TM h0 (w_at s12 ((m_at s12) + 1))) m_X6_array dX6_array_93 f_RX6_77 (gM_m G) (Nat.le_of_ble_eq_true rfl) (fit_i rfl) rfl (hpL_set (k := 10) (by decide) (Nat.le_of_ble_eq_true rfl)) ?_
        refine e_st hN (fun s13 hN => ?_)
        refine e_aload_n m_X6_array dX6_array_96 rfl rfl rfl ?_
        refine e_bipush (v := nI 81) m_X6_array dX6_array_97 (by decide) ?_
        refine e_cvU (as := [.int (nI 81)]) hN m_X6_array dX6_array_99 c_RX6_141 (by decide) rfl rfl (gM_m G) rfl (Nat.le_of_ble_eq_true rfl) (Nat.le_of_ble_eq_true rfl) (by omega) (w_X6_pass G (by omega)) (fun v14 s14 hN => ?_)
        refine e_aload_n m_X6_array dX6_array_102 rfl rfl rfl ?_
        refine e_bipush (v := nI 18) m_X6_array dX6_array_103 (by decide) ?_
        refine e_iload_n m_X6_array dX6_array_105 rfl rfl ?_
        refine e_iconst (v := nI 0) m_X6_array dX6_array_106 (by decide) ?_
        refine e_cvU (as := [.int (nI 18), .int (nI v1), .int (nI 0)]) hN m_X6_array dX6_array_107 c_RX6_106 (by decide) rfl rfl (gM_m G) rfl (Nat.le_of_ble_eq_true rfl) (Nat.le_of_ble_eq_true rfl) (by omega) (w_X6_push G (by omega)) (fun v15 s15 hN => ?_)
        refine e_goto (t := 137) m_X6_array dX6_array_110 (by decide) ?_
        exact e_ret0 m_X6_array dX6_array_137
      · refine e_aload_n m_X6_array dX6_array_113 rfl rfl rfl ?_
        refine e_bipush (v := nI 18) m_X6_array dX6_array_114 (by decide) ?_
        refine e_iload_n m_X6_array dX6_array_116 rfl rfl ?_
        refine e_iconst (v := nI 0) m_X6_array dX6_array_117 (by decide) ?_
        refine e_cvU (as := [.int (nI 18), .int (nI v1), .int (nI 0)]) hN m_X6_array dX6_array_118 c_RX6_106 (by decide) rfl rfl (gM_m G) rfl (Nat.le_of_ble_eq_true rfl) (Nat.le_of_ble_eq_true rfl) (by omega) (w_X6_push G (by omega)) (fun v16 s16 hN => ?_)
        refine e_aload_n m_X6_array dX6_array_121 rfl rfl rfl ?_
        refine e_bipush (v := nI 7) m_X6_array dX6_array_122 (by decide) ?_
        refine e_bipush (v := nI 81) m_X6_array dX6_array_124 (by decide) ?_
        refine e_iconst (v := nI 0) m_X6_array dX6_array_126 (by decide) ?_
        refine e_cvU (as := [.int (nI 7), .int (nI 81), .int (nI 0)]) hN m_X6_array dX6_array_127 c_RX6_106 (by decide) rfl rfl (gM_m G) rfl (Nat.le_of_ble_eq_true rfl) (Nat.le_of_ble_eq_true rfl) (by omega) (w_X6_push G (by omega)) (fun v17 s17 hN => ?_)
        refine e_aload_n m_X6_array dX6_array_130 rfl rfl rfl ?_
        refine e_iload_n m_X6_array dX6_array_131 rfl rfl ?_
        refine e_iconst (v := nI 0) m_X6_array dX6_array_132 (by decide) ?_
        refine e_iconst (v := nI 1) m_X6_array dX6_array_133 (by decide) ?_
        refine e_cvU (as := [.int (nI v1), .int (nI 0), .int (nI 1)]) hN m_X6_array dX6_array_134 c_RX6_117 (by decide) rfl rfl (gM_m G) rfl (Nat.le_of_ble_eq_true rfl) (Nat.le_of_ble_eq_true rfl) (by omega) (w_X6_expression G (by omega)) (fun v18 s18 hN => ?_)
        exact e_ret0 m_X6_array dX6_array_137
    · refine e_aload_n m_X6_array dX6_array_113 rfl rfl rfl ?_
      refine e_bipush (v := nI 18) m_X6_array dX6_array_114 (by decide) ?_
      refine e_iload_n m_X6_array dX6_array_116 rfl rfl ?_
      refine e_iconst (v := nI 0) m_X6_array dX6_array_117 (by decide) ?_
      refine e_cvU (as := [.int (nI 18), .int (nI v1), .int (nI 0)]) hN m_X6_array dX6_array_118 c_RX6_106 (by decide) rfl rfl (gM_m G) rfl (Nat.le_of_ble_eq_true rfl) (Nat.le_of_ble_eq_true rfl) (by omega) (w_X6_push G (by omega)) (fun v19 s19 hN => ?_)
      refine e_aload_n m_X6_array dX6_array_121 rfl rfl rfl ?_
      refine e_bipush (v := nI 7) m_X6_array dX6_array_122 (by decide) ?_
      refine e_bipush (v := nI 81) m_X6_array dX6_array_124 (by decide) ?_
      refine e_iconst (v := nI 0) m_X6_array dX6_array_126 (by decide) ?_
      refine e_cvU (as := [.int (nI 7), .int (nI 81), .int (nI 0)]) hN m_X6_array dX6_array_127 c_RX6_106 (by decide) rfl rfl (gM_m G) rfl (Nat.le_of_ble_eq_true rfl) (Nat.le_of_ble_eq_true rfl) (by omega) (w_X6_push G (by omega)) (fun v20 s20 hN => ?_)
      refine e_aload_n m_X6_array dX6_array_130 rfl rfl rfl ?_
      refine e_iload_n m_X6_array dX6_array_131 rfl rfl ?_
      refine e_iconst (v := nI 0) m_X6_array dX6_array_132 (by decide) ?_
      refine e_iconst (v := nI 1) m_X6_array dX6_array_133 (by decide) ?_
      refine e_cvU (as := [.int (nI v1), .int (nI 0), .int (nI 1)]) hN m_X6_array dX6_array_134 c_RX6_117 (by decide) rfl rfl (gM_m G) rfl (Nat.le_of_ble_eq_true rfl) (Nat.le_of_ble_eq_true rfl) (by omega) (w_X6_expression G (by omega)) (fun v21 s21 hN => ?_)
      exact e_ret0 m_X6_array dX6_array_137

def b_X6_block  (x1 : Nat) (s : Mm) : Rs Mm := bn (b_X6_look  s) (fun v1 s1 => ife v1 82 (bn (b_X6_child x1 40 (m_at s1) s1) (fun v3 s3 => bn (b_X6_more  s3) (fun v4 s4 => st1 (w_at s4 ((m_at s4) + 1)) (fun s5 => bn (b_X6_push 8 83 0 s5) (fun v6 s6 => bn (b_X6_push 39 v3 0 s6) (fun v7 s7 => okR 0 s7)))))) (bn (b_X6_error  s1) (fun v8 s8 => okR 0 s8)))
theorem w_X6_block {xs : Nat → Int32} {L : Nat} {h0 : mm_H} (G : Mg h0) {x1 : Nat} {s : Mm} {d : Nat} (hd : 12 ≤ d) (hN : b_X6_block  x1 s ≠ none) : Rn xs L d 166 [.ref 10, .int (nI x1)] (TM h0 s) (ou eU (TM h0) (b_X6_block  x1 s)) := by
  unfold Rn
  unfold b_X6_block at hN ⊢
  refine e_aload_n m_X6_block dX6_block_0 rfl rfl rfl ?_
  refine e_cvN (as := []) hN m_X6_block dX6_block_1 c_RX6_83 (by decide) rfl rfl (gM_m G) rfl (Nat.le_of_ble_eq_true rfl) (Nat.le_of_ble_eq_true rfl) (by omega) (w_X6_look G (by omega)) (fun v1 s1 hN => ?_)
  refine e_bipush (v := nI 82) m_X6_block dX6_block_4 (by decide) ?_
  refine e_ieq (t := 14) (a := v1) (b := 82) hN m_X6_block dX6_block_6 (by decide) (fun q2 hN => ?_) (fun q2 hN => ?_)
  · refine e_aload_n m_X6_block dX6_block_14 rfl rfl rfl ?_
    refine e_iload_n m_X6_block dX6_block_15 rfl rfl ?_
    refine e_bipush (v := nI 40) m_X6_block dX6_block_16 (by decide) ?_
    refine e_aload_n m_X6_block dX6_block_18 rfl rfl rfl ?_
    refine e_getf m_X6_block dX6_block_19 f_RX6_77 (gM_m G) rfl ?_
    refine e_cvN (as := [.int (nI x1), .int (nI 40), .int (nI (m_at s1))]) hN m_X6_block dX6_block_22 c_RX6_99 (by decide) rfl rfl (gM_m G) rfl (Nat.le_of_ble_eq_true rfl) (Nat.le_of_ble_eq_true rfl) (by omega) (w_X6_child G (by omega)) (fun v3 s3 hN => ?_)
    refine e_istore_n m_X6_block dX6_block_25 rfl (by decide) rfl ?_
    refine e_aload_n m_X6_block dX6_block_26 rfl rfl rfl ?_
    refine e_cvU (as := []) hN m_X6_block dX6_block_27 c_RX6_123 (by decide) rfl rfl (gM_m G) rfl (Nat.le_of_ble_eq_true rfl) (Nat.le_of_ble_eq_true rfl) (by omega) (w_X6_more G (by omega)) (fun v4 s4 hN => ?_)
    refine e_aload_n m_X6_block dX6_block_30 rfl rfl rfl ?_
    refine e_dup m_X6_block dX6_block_31 rfl ?_
    refine e_getf m_X6_block dX6_block_32 f_RX6_77 (gM_m G) rfl ?_
    refine e_iconst (v := nI 1) m_X6_block dX6_block_35 (by decide) ?_
    refine e_iaddN m_X6_block dX6_block_36 ?_
    refine e_putf (v := .int (nI ((m_at s4) + 1))) (h' := TM h0 (w_at s4 ((m_at s4) + 1))) m_X6_block dX6_block_37 f_RX6_77 (gM_m G) (Nat.le_of_ble_eq_true rfl) (fit_i rfl) rfl (hpL_set (k := 10) (by decide) (Nat.le_of_ble_eq_true rfl)) ?_
    refine e_st hN (fun s5 hN => ?_)
    refine e_aload_n m_X6_block dX6_block_40 rfl rfl rfl ?_
    refine e_bipush (v := nI 8) m_X6_block dX6_block_41 (by decide) ?_
    refine e_bipush (v := nI 83) m_X6_block dX6_block_43 (by decide) ?_
    refine e_iconst (v := nI 0) m_X6_block dX6_block_45 (by decide) ?_
    refine e_cvU (as := [.int (nI 8), .int (nI 83), .int (nI 0)]) hN m_X6_block dX6_block_46 c_RX6_106 (by decide) rfl rfl (gM_m G) rfl (Nat.le_of_ble_eq_true rfl) (Nat.le_of_ble_eq_true rfl) (by omega) (w_X6_push G (by omega)) (fun v6 s6 hN => ?_)
    refine e_aload_n m_X6_block dX6_block_49 rfl rfl rfl ?_
    refine e_bipush (v := nI 39) m_X6_block dX6_block_50 (by decide) ?_
    refine e_iload_n m_X6_block dX6_block_52 rfl rfl ?_
    refine e_iconst (v := nI 0) m_X6_block dX6_block_53 (by decide) ?_
    refine e_cvU (as := [.int (nI 39), .int (nI v3), .int (nI 0)]) hN m_X6_block dX6_block_54 c_RX6_106 (by decide) rfl rfl (gM_m G) rfl (Nat.le_of_ble_eq_true rfl) (Nat.le_of_ble_eq_true rfl) (by omega) (w_X6_push G (by omega)) (fun v7 s7 hN => ?_)
    exact e_ret0 m_X6_block dX6_block_57
  · refine e_aload_n m_X6_block dX6_block_9 rfl rfl rfl ?_
    refine e_cvU (as := []) hN m_X6_block dX6_block_10 c_RX6_87 (by decide) rfl rfl (gM_m G) rfl (Nat.le_of_ble_eq_true rfl) (Nat.le_of_ble_eq_true rfl) (by omega) (w_X6_error G (by omega)) (fun v8 s8 hN => ?_)
    exact e_ret0 m_X6_block dX6_block_13

def b_X6_params  (x1 : Nat) (s : Mm) : Rs Mm := bn (b_X6_child x1 15 (m_at s) s) (fun v1 s1 => bn (b_X6_more  s1) (fun v2 s2 => st1 (w_at s2 ((m_at s2) + 1)) (fun s3 => ck ((m_rw s3) < 64) (st1 (w_nm s3 (upN (m_nm s3) (m_rw s3) 1)) (fun s5 => ck ((m_rw s5) < 64) (st1 (w_pl s5 (upN (m_pl s5) (m_rw s5) 1)) (fun s7 => ck ((m_rw s7) < 64) (st1 (w_pe s7 (upN (m_pe s7) (m_rw s7) 0)) (fun s9 => ck ((m_rw s9) < 64) (st1 (w_en s9 (upN (m_en s9) (m_rw s9) 0)) (fun s11 => st1 (w_rw s11 ((m_rw s11) + 1)) (fun s12 => bn (b_X6_push 24 v1 0 s12) (fun v13 s13 => okR 0 s13)))))))))))))
theorem w_X6_params {xs : Nat → Int32} {L : Nat} {h0 : mm_H} (G : Mg h0) {x1 : Nat} {s : Mm} {d : Nat} (hd : 12 ≤ d) (hN : b_X6_params  x1 s ≠ none) : Rn xs L d 169 [.ref 10, .int (nI x1)] (TM h0 s) (ou eU (TM h0) (b_X6_params  x1 s)) := by
  unfold Rn
  unfold b_X6_params at hN ⊢
  refine e_aload_n m_X6_params dX6_params_0 rfl rfl rfl ?_
  refine e_iload_n m_X6_params dX6_params_1 rfl rfl ?_
  refine e_bipush (v := nI 15) m_X6_params dX6_params_2 (by decide) ?_
  refine e_aload_n m_X6_params dX6_params_4 rfl rfl rfl ?_
  refine e_getf m_X6_params dX6_params_5 f_RX6_77 (gM_m G) rfl ?_
  refine e_cvN (as := [.int (nI x1), .int (nI 15), .int (nI (m_at s))]) hN m_X6_params dX6_params_8 c_RX6_99 (by decide) rfl rfl (gM_m G) rfl (Nat.le_of_ble_eq_true rfl) (Nat.le_of_ble_eq_true rfl) (by omega) (w_X6_child G (by omega)) (fun v1 s1 hN => ?_)
  refine e_istore_n m_X6_params dX6_params_11 rfl (by decide) rfl ?_
  refine e_aload_n m_X6_params dX6_params_12 rfl rfl rfl ?_
  refine e_cvU (as := []) hN m_X6_params dX6_params_13 c_RX6_123 (by decide) rfl rfl (gM_m G) rfl (Nat.le_of_ble_eq_true rfl) (Nat.le_of_ble_eq_true rfl) (by omega) (w_X6_more G (by omega)) (fun v2 s2 hN => ?_)
  refine e_aload_n m_X6_params dX6_params_16 rfl rfl rfl ?_
  refine e_dup m_X6_params dX6_params_17 rfl ?_
  refine e_getf m_X6_params dX6_params_18 f_RX6_77 (gM_m G) rfl ?_
  refine e_iconst (v := nI 1) m_X6_params dX6_params_21 (by decide) ?_
  refine e_iaddN m_X6_params dX6_params_22 ?_
  refine e_putf (v := .int (nI ((m_at s2) + 1))) (h' := TM h0 (w_at s2 ((m_at s2) + 1))) m_X6_params dX6_params_23 f_RX6_77 (gM_m G) (Nat.le_of_ble_eq_true rfl) (fit_i rfl) rfl (hpL_set (k := 10) (by decide) (Nat.le_of_ble_eq_true rfl)) ?_
  refine e_st hN (fun s3 hN => ?_)
  refine e_aload_n m_X6_params dX6_params_26 rfl rfl rfl ?_
  refine e_getf m_X6_params dX6_params_27 f_RX6_51 (gM_m G) rfl ?_
  refine e_aload_n m_X6_params dX6_params_30 rfl rfl rfl ?_
  refine e_getf m_X6_params dX6_params_31 f_RX6_156 (gM_m G) rfl ?_
  refine e_iconst (v := nI 1) m_X6_params dX6_params_34 (by decide) ?_
  refine e_ck hN (fun q4 hN => ?_)
  refine e_astZ (hb := by decide) (v := 1) (h' := TM h0 (w_nm s3 (upN (m_nm s3) (m_rw s3) 1))) q4 (by decide) m_X6_params dX6_params_35 (gM_nm G) (hpL_set (k := 24) (by decide) (Nat.le_of_ble_eq_true rfl)) ?_
  refine e_st hN (fun s5 hN => ?_)
  refine e_aload_n m_X6_params dX6_params_36 rfl rfl rfl ?_
  refine e_getf m_X6_params dX6_params_37 f_RX6_55 (gM_m G) rfl ?_
  refine e_aload_n m_X6_params dX6_params_40 rfl rfl rfl ?_
  refine e_getf m_X6_params dX6_params_41 f_RX6_156 (gM_m G) rfl ?_
  refine e_iconst (v := nI 1) m_X6_params dX6_params_44 (by decide) ?_
  refine e_ck hN (fun q6 hN => ?_)
  refine e_astZ (hb := by decide) (v := 1) (h' := TM h0 (w_pl s5 (upN (m_pl s5) (m_rw s5) 1))) q6 (by decide) m_X6_params dX6_params_45 (gM_pl G) (hpL_set (k := 25) (by decide) (Nat.le_of_ble_eq_true rfl)) ?_
  refine e_st hN (fun s7 hN => ?_)
  refine e_aload_n m_X6_params dX6_params_46 rfl rfl rfl ?_
  refine e_getf m_X6_params dX6_params_47 f_RX6_58 (gM_m G) rfl ?_
  refine e_aload_n m_X6_params dX6_params_50 rfl rfl rfl ?_
  refine e_getf m_X6_params dX6_params_51 f_RX6_156 (gM_m G) rfl ?_
  refine e_iconst (v := nI 0) m_X6_params dX6_params_54 (by decide) ?_
  refine e_ck hN (fun q8 hN => ?_)
  refine e_astN (v := 0) (h' := TM h0 (w_pe s7 (upN (m_pe s7) (m_rw s7) 0))) q8 (by decide) m_X6_params dX6_params_55 (gM_pe G) (hpL_set (k := 26) (by decide) (Nat.le_of_ble_eq_true rfl)) ?_
  refine e_st hN (fun s9 hN => ?_)
  refine e_aload_n m_X6_params dX6_params_56 rfl rfl rfl ?_
  refine e_getf m_X6_params dX6_params_57 f_RX6_61 (gM_m G) rfl ?_
  refine e_aload_n m_X6_params dX6_params_60 rfl rfl rfl ?_
  refine e_getf m_X6_params dX6_params_61 f_RX6_156 (gM_m G) rfl ?_
  refine e_iconst (v := nI 0) m_X6_params dX6_params_64 (by decide) ?_
  refine e_ck hN (fun q10 hN => ?_)
  refine e_astZ (hb := by decide) (v := 0) (h' := TM h0 (w_en s9 (upN (m_en s9) (m_rw s9) 0))) q10 (by decide) m_X6_params dX6_params_65 (gM_en G) (hpL_set (k := 27) (by decide) (Nat.le_of_ble_eq_true rfl)) ?_
  refine e_st hN (fun s11 hN => ?_)
  refine e_aload_n m_X6_params dX6_params_66 rfl rfl rfl ?_
  refine e_dup m_X6_params dX6_params_67 rfl ?_
  refine e_getf m_X6_params dX6_params_68 f_RX6_156 (gM_m G) rfl ?_
  refine e_iconst (v := nI 1) m_X6_params dX6_params_71 (by decide) ?_
  refine e_iaddN m_X6_params dX6_params_72 ?_
  refine e_putf (v := .int (nI ((m_rw s11) + 1))) (h' := TM h0 (w_rw s11 ((m_rw s11) + 1))) m_X6_params dX6_params_73 f_RX6_156 (gM_m G) (Nat.le_of_ble_eq_true rfl) (fit_i rfl) rfl (hpL_set (k := 10) (by decide) (Nat.le_of_ble_eq_true rfl)) ?_
  refine e_st hN (fun s12 hN => ?_)
  refine e_aload_n m_X6_params dX6_params_76 rfl rfl rfl ?_
  refine e_bipush (v := nI 24) m_X6_params dX6_params_77 (by decide) ?_
  refine e_iload_n m_X6_params dX6_params_79 rfl rfl ?_
  refine e_iconst (v := nI 0) m_X6_params dX6_params_80 (by decide) ?_
  refine e_cvU (as := [.int (nI 24), .int (nI v1), .int (nI 0)]) hN m_X6_params dX6_params_81 c_RX6_106 (by decide) rfl rfl (gM_m G) rfl (Nat.le_of_ble_eq_true rfl) (Nat.le_of_ble_eq_true rfl) (by omega) (w_X6_push G (by omega)) (fun v13 s13 hN => ?_)
  exact e_ret0 m_X6_params dX6_params_84

def lp_X6_param_36  (s : Mm) : Rs Mm := st1 (w_at s ((m_at s) + 1)) (fun s8 => ck ((m_dp s8) ≠ 0) (st1 (w_dp s8 ((m_dp s8) - 1)) (fun s10 => ck ((m_rw s10) ≠ 0) (st1 (w_rw s10 ((m_rw s10) - 1)) (fun s12 => okR 0 s12)))))
theorem l_X6_param_36 {xs : Nat → Int32} {L : Nat} {h0 : mm_H} (G : Mg h0) (s : Mm) (d : Nat) (ls : mm_L) (hd : 12 ≤ d) (hl0 : mm_lk ls 0 = some (.ref 10)) (hN : lp_X6_param_36   s ≠ none) : Ev xs L d 170 36 ls [] (TM h0 s) 0 0 (ou eU (TM h0) (lp_X6_param_36   s)) := by
  unfold lp_X6_param_36 at hN ⊢
  refine e_aload_n m_X6_param dX6_param_36 rfl hl0 rfl ?_
  refine e_dup m_X6_param dX6_param_37 rfl ?_
  refine e_getf m_X6_param dX6_param_38 f_RX6_77 (gM_m G) rfl ?_
  refine e_iconst (v := nI 1) m_X6_param dX6_param_41 (by decide) ?_
  refine e_iaddN m_X6_param dX6_param_42 ?_
  refine e_putf (v := .int (nI ((m_at s) + 1))) (h' := TM h0 (w_at s ((m_at s) + 1))) m_X6_param dX6_param_43 f_RX6_77 (gM_m G) (Nat.le_of_ble_eq_true rfl) (fit_i rfl) rfl (hpL_set (k := 10) (by decide) (Nat.le_of_ble_eq_true rfl)) ?_
  refine e_st hN (fun s8 hN => ?_)
  refine e_aload_n m_X6_param dX6_param_46 rfl hl0 rfl ?_
  refine e_dup m_X6_param dX6_param_47 rfl ?_
  refine e_getf m_X6_param dX6_param_48 f_RX6_90 (gM_m G) rfl ?_
  refine e_iconst (v := nI 1) m_X6_param dX6_param_51 (by decide) ?_
  refine e_isubO m_X6_param dX6_param_52 ?_
  refine e_ck hN (fun q9 hN => ?_)
  rw [oI_p q9]
  refine e_putf (v := .int (nI ((m_dp s8) - 1))) (h' := TM h0 (w_dp s8 ((m_dp s8) - 1))) m_X6_param dX6_param_53 f_RX6_90 (gM_m G) (Nat.le_of_ble_eq_true rfl) (fit_i rfl) rfl (hpL_set (k := 10) (by decide) (Nat.le_of_ble_eq_true rfl)) ?_
  refine e_st hN (fun s10 hN => ?_)
  refine e_aload_n m_X6_param dX6_param_56 rfl hl0 rfl ?_
  refine e_dup m_X6_param dX6_param_57 rfl ?_
  refine e_getf m_X6_param dX6_param_58 f_RX6_156 (gM_m G) rfl ?_
  refine e_iconst (v := nI 1) m_X6_param dX6_param_61 (by decide) ?_
  refine e_isubO m_X6_param dX6_param_62 ?_
  refine e_ck hN (fun q11 hN => ?_)
  rw [oI_p q11]
  refine e_putf (v := .int (nI ((m_rw s10) - 1))) (h' := TM h0 (w_rw s10 ((m_rw s10) - 1))) m_X6_param dX6_param_63 f_RX6_156 (gM_m G) (Nat.le_of_ble_eq_true rfl) (fit_i rfl) rfl (hpL_set (k := 10) (by decide) (Nat.le_of_ble_eq_true rfl)) ?_
  refine e_st hN (fun s12 hN => ?_)
  exact e_ret0 m_X6_param dX6_param_66
def lp_X6_param_193  (s : Mm) : Rs Mm := bn (b_X6_error  s) (fun v40 s40 => okR 0 s40)
theorem l_X6_param_193 {xs : Nat → Int32} {L : Nat} {h0 : mm_H} (G : Mg h0) (s : Mm) (d : Nat) (ls : mm_L) (hd : 12 ≤ d) (hl0 : mm_lk ls 0 = some (.ref 10)) (hN : lp_X6_param_193   s ≠ none) : Ev xs L d 170 193 ls [] (TM h0 s) 0 0 (ou eU (TM h0) (lp_X6_param_193   s)) := by
  unfold lp_X6_param_193 at hN ⊢
  refine e_aload_n m_X6_param dX6_param_193 rfl hl0 rfl ?_
  refine e_cvU (as := []) hN m_X6_param dX6_param_194 c_RX6_87 (by decide) rfl rfl (gM_m G) rfl (Nat.le_of_ble_eq_true rfl) (Nat.le_of_ble_eq_true rfl) (by omega) (w_X6_error G (by omega)) (fun v40 s40 hN => ?_)
  exact e_ret0 m_X6_param dX6_param_197
def lp_X6_param_169  (y2 y5 : Nat) (s : Mm) : Rs Mm := ifz y5 (lp_X6_param_193   s) (ck (y2 ≠ 0) (ck ((y2 - 1) < 64) (ifz (m_en s (y2 - 1)) (st1 (w_at s ((m_at s) + 1)) (fun s35 => lp_X6_param_193   s35)) (lp_X6_param_193   s))))
theorem l_X6_param_169 {xs : Nat → Int32} {L : Nat} {h0 : mm_H} (G : Mg h0) (y2 y5 : Nat) (s : Mm) (d : Nat) (ls : mm_L) (hd : 12 ≤ d) (hl0 : mm_lk ls 0 = some (.ref 10)) (hl2 : mm_lk ls 2 = some (.int (oI y2))) (hl5 : mm_lk ls 5 = some (.int (nI y5))) (hN : lp_X6_param_169  y2 y5 s ≠ none) : Ev xs L d 170 169 ls [] (TM h0 s) 0 0 (ou eU (TM h0) (lp_X6_param_169  y2 y5 s)) := by
  unfold lp_X6_param_169 at hN ⊢
  refine e_iload m_X6_param dX6_param_169 hl5 ?_
  refine e_ifeq (t := 193) hN m_X6_param dX6_param_171 (by decide) (fun q31 hN => ?_) (fun q31 hN => ?_)
  · exact l_X6_param_193 G   _ _ _ (by omega) hl0 hN
  · refine e_aload_n m_X6_param dX6_param_174 rfl hl0 rfl ?_
    refine e_getf m_X6_param dX6_param_175 f_RX6_61 (gM_m G) rfl ?_
    refine e_iload_n m_X6_param dX6_param_178 rfl hl2 ?_
    refine e_ck hN (fun q32 hN => ?_)
    rw [oI_p q32]
    refine e_ck hN (fun q33 hN => ?_)
    refine e_aldN q33 (by decide) (Or.inr ⟨rfl, Or.inr rfl⟩) m_X6_param dX6_param_179 (gM_en G) ?_
    refine e_ifne (t := 193) hN m_X6_param dX6_param_180 (by decide) (fun q34 hN => ?_) (fun q34 hN => ?_)
    · refine e_aload_n m_X6_param dX6_param_183 rfl hl0 rfl ?_
      refine e_dup m_X6_param dX6_param_184 rfl ?_
      refine e_getf m_X6_param dX6_param_185 f_RX6_77 (gM_m G) rfl ?_
      refine e_iconst (v := nI 1) m_X6_param dX6_param_188 (by decide) ?_
      refine e_iaddN m_X6_param dX6_param_189 ?_
      refine e_putf (v := .int (nI ((m_at s) + 1))) (h' := TM h0 (w_at s ((m_at s) + 1))) m_X6_param dX6_param_190 f_RX6_77 (gM_m G) (Nat.le_of_ble_eq_true rfl) (fit_i rfl) rfl (hpL_set (k := 10) (by decide) (Nat.le_of_ble_eq_true rfl)) ?_
      refine e_st hN (fun s35 hN => ?_)
      exact l_X6_param_193 G   _ _ _ (by omega) hl0 hN
    · exact l_X6_param_193 G   _ _ _ (by omega) hl0 hN
def lp_X6_param_339  (y6 : Nat) (s : Mm) : Rs Mm := bn (b_X6_push 18 y6 0 s) (fun v73 s73 => okR 0 s73)
theorem l_X6_param_339 {xs : Nat → Int32} {L : Nat} {h0 : mm_H} (G : Mg h0) (y6 : Nat) (s : Mm) (d : Nat) (ls : mm_L) (hd : 12 ≤ d) (hl0 : mm_lk ls 0 = some (.ref 10)) (hl6 : mm_lk ls 6 = some (.int (nI y6))) (hN : lp_X6_param_339  y6 s ≠ none) : Ev xs L d 170 339 ls [] (TM h0 s) 0 0 (ou eU (TM h0) (lp_X6_param_339  y6 s)) := by
  unfold lp_X6_param_339 at hN ⊢
  refine e_aload_n m_X6_param dX6_param_339 rfl hl0 rfl ?_
  refine e_bipush (v := nI 18) m_X6_param dX6_param_340 (by decide) ?_
  refine e_iload m_X6_param dX6_param_342 hl6 ?_
  refine e_iconst (v := nI 0) m_X6_param dX6_param_344 (by decide) ?_
  refine e_cvU (as := [.int (nI 18), .int (nI y6), .int (nI 0)]) hN m_X6_param dX6_param_345 c_RX6_106 (by decide) rfl rfl (gM_m G) rfl (Nat.le_of_ble_eq_true rfl) (Nat.le_of_ble_eq_true rfl) (by omega) (w_X6_push G (by omega)) (fun v73 s73 hN => ?_)
  exact e_ret0 m_X6_param dX6_param_348
def lp_X6_param_300  (y2 y6 : Nat) (s : Mm) : Rs Mm := bn (b_X6_look  s) (fun v63 s63 => ife v63 77 (bn (b_X6_child y6 17 (m_at s63) s63) (fun v65 s65 => st1 (w_at s65 ((m_at s65) + 1)) (fun s66 => ck (y2 ≠ 0) (ck ((y2 - 1) < 64) (st1 (w_en s66 (upN (m_en s66) (y2 - 1) 1)) (fun s69 => lp_X6_param_339   y6 s69)))))) (lp_X6_param_339   y6 s63))
theorem l_X6_param_300 {xs : Nat → Int32} {L : Nat} {h0 : mm_H} (G : Mg h0) (y2 y6 : Nat) (s : Mm) (d : Nat) (ls : mm_L) (hd : 12 ≤ d) (hl0 : mm_lk ls 0 = some (.ref 10)) (hl2 : mm_lk ls 2 = some (.int (oI y2))) (hl6 : mm_lk ls 6 = some (.int (nI y6))) (hN : lp_X6_param_300  y2 y6 s ≠ none) : Ev xs L d 170 300 ls [] (TM h0 s) 0 0 (ou eU (TM h0) (lp_X6_param_300  y2 y6 s)) := by
  unfold lp_X6_param_300 at hN ⊢
  refine e_aload_n m_X6_param dX6_param_300 rfl hl0 rfl ?_
  refine e_cvN (as := []) hN m_X6_param dX6_param_301 c_RX6_83 (by decide) rfl rfl (gM_m G) rfl (Nat.le_of_ble_eq_true rfl) (Nat.le_of_ble_eq_true rfl) (by omega) (w_X6_look G (by omega)) (fun v63 s63 hN => ?_)
  refine e_bipush (v := nI 77) m_X6_param dX6_param_304 (by decide) ?_
  refine e_ine (t := 339) (a := v63) (b := 77) hN m_X6_param dX6_param_306 (by decide) (fun q64 hN => ?_) (fun q64 hN => ?_)
  · refine e_aload_n m_X6_param dX6_param_309 rfl hl0 rfl ?_
    refine e_iload m_X6_param dX6_param_310 hl6 ?_
    refine e_bipush (v := nI 17) m_X6_param dX6_param_312 (by decide) ?_
    refine e_aload_n m_X6_param dX6_param_314 rfl hl0 rfl ?_
    refine e_getf m_X6_param dX6_param_315 f_RX6_77 (gM_m G) rfl ?_
    refine e_cvN (as := [.int (nI y6), .int (nI 17), .int (nI (m_at s63))]) hN m_X6_param dX6_param_318 c_RX6_99 (by decide) rfl rfl (gM_m G) rfl (Nat.le_of_ble_eq_true rfl) (Nat.le_of_ble_eq_true rfl) (by omega) (w_X6_child G (by omega)) (fun v65 s65 hN => ?_)
    refine e_pop m_X6_param dX6_param_321 rfl ?_
    refine e_aload_n m_X6_param dX6_param_322 rfl hl0 rfl ?_
    refine e_dup m_X6_param dX6_param_323 rfl ?_
    refine e_getf m_X6_param dX6_param_324 f_RX6_77 (gM_m G) rfl ?_
    refine e_iconst (v := nI 1) m_X6_param dX6_param_327 (by decide) ?_
    refine e_iaddN m_X6_param dX6_param_328 ?_
    refine e_putf (v := .int (nI ((m_at s65) + 1))) (h' := TM h0 (w_at s65 ((m_at s65) + 1))) m_X6_param dX6_param_329 f_RX6_77 (gM_m G) (Nat.le_of_ble_eq_true rfl) (fit_i rfl) rfl (hpL_set (k := 10) (by decide) (Nat.le_of_ble_eq_true rfl)) ?_
    refine e_st hN (fun s66 hN => ?_)
    refine e_aload_n m_X6_param dX6_param_332 rfl hl0 rfl ?_
    refine e_getf m_X6_param dX6_param_333 f_RX6_61 (gM_m G) rfl ?_
    refine e_iload_n m_X6_param dX6_param_336 rfl hl2 ?_
    refine e_iconst (v := nI 1) m_X6_param dX6_param_337 (by decide) ?_
    refine e_ck hN (fun q67 hN => ?_)
    rw [oI_p q67]
    refine e_ck hN (fun q68 hN => ?_)
    refine e_astZ (hb := by decide) (v := 1) (h' := TM h0 (w_en s66 (upN (m_en s66) (y2 - 1) 1))) q68 (by decide) m_X6_param dX6_param_338 (gM_en G) (hpL_set (k := 27) (by decide) (Nat.le_of_ble_eq_true rfl)) ?_
    refine e_st hN (fun s69 hN => ?_)
    exact l_X6_param_339 G  y6 _ _ _ (by omega) hl0 hl6 hN
  · exact l_X6_param_339 G  y6 _ _ _ (by omega) hl0 hl6 hN
def lp_X6_param_283  (y2 y6 : Nat) (s : Mm) : Rs Mm := ck (y2 ≠ 0) (ck ((y2 - 1) < 64) (st1 (w_pe s (upN (m_pe s) (y2 - 1) 0)) (fun s72 => lp_X6_param_300   y2 y6 s72)))
theorem l_X6_param_283 {xs : Nat → Int32} {L : Nat} {h0 : mm_H} (G : Mg h0) (y2 y6 : Nat) (s : Mm) (d : Nat) (ls : mm_L) (hd : 12 ≤ d) (hl0 : mm_lk ls 0 = some (.ref 10)) (hl2 : mm_lk ls 2 = some (.int (oI y2))) (hl6 : mm_lk ls 6 = some (.int (nI y6))) (hN : lp_X6_param_283  y2 y6 s ≠ none) : Ev xs L d 170 283 ls [] (TM h0 s) 0 0 (ou eU (TM h0) (lp_X6_param_283  y2 y6 s)) := by
  unfold lp_X6_param_283 at hN ⊢
  refine e_aload_n m_X6_param dX6_param_283 rfl hl0 rfl ?_
  refine e_getf m_X6_param dX6_param_284 f_RX6_58 (gM_m G) rfl ?_
  refine e_iload_n m_X6_param dX6_param_287 rfl hl2 ?_
  refine e_iconst (v := nI 0) m_X6_param dX6_param_288 (by decide) ?_
  refine e_ck hN (fun q70 hN => ?_)
  rw [oI_p q70]
  refine e_ck hN (fun q71 hN => ?_)
  refine e_astN (v := 0) (h' := TM h0 (w_pe s (upN (m_pe s) (y2 - 1) 0))) q71 (by decide) m_X6_param dX6_param_289 (gM_pe G) (hpL_set (k := 26) (by decide) (Nat.le_of_ble_eq_true rfl)) ?_
  refine e_st hN (fun s72 hN => ?_)
  refine e_goto (t := 300) m_X6_param dX6_param_290 (by decide) ?_
  exact l_X6_param_300 G  y2 y6 _ _ _ (by omega) hl0 hl2 hl6 hN
def lp_X6_param_198  (y1 y2 y4 y5 : Nat) (s : Mm) : Rs Mm := bn (b_X6_child y1 16 (m_at s) s) (fun v41 s41 => bn (b_X6_push 25 y1 0 s41) (fun v42 s42 => ifz y4 (ifz y5 (ck (y2 ≠ 0) (ck ((y2 - 1) < 64) (st1 (w_nm s42 (upN (m_nm s42) (y2 - 1) 0)) (fun s47 => lp_X6_param_300   y2 v41 s47)))) (bn (b_X6_name v41 s42) (fun v48 s48 => ck (y2 ≠ 0) (ck ((y2 - 1) < 64) (st1 (w_pl s48 (upN (m_pl s48) (y2 - 1) 0)) (fun s51 => bn (b_X6_look  s51) (fun v52 s52 => ife v52 77 (ck (y2 ≠ 0) (ck ((y2 - 1) < 64) (ifz (m_pe s52 (y2 - 1)) (lp_X6_param_283   y2 v41 s52) (bn (b_X6_error  s52) (fun v57 s57 => lp_X6_param_283   y2 v41 s57))))) (lp_X6_param_283   y2 v41 s52)))))))) (bn (b_X6_name v41 s42) (fun v58 s58 => ck (y2 ≠ 0) (ck ((y2 - 1) < 64) (ck ((y2 - 1) < 64) (st1 (w_pe s58 (upN (m_pe s58) (y2 - 1) ((m_pe s58 (y2 - 1)) + 1))) (fun s62 => okR 0 s62))))))))
theorem l_X6_param_198 {xs : Nat → Int32} {L : Nat} {h0 : mm_H} (G : Mg h0) (y1 y2 y4 y5 : Nat) (s : Mm) (d : Nat) (ls : mm_L) (hd : 12 ≤ d) (hl0 : mm_lk ls 0 = some (.ref 10)) (hl1 : mm_lk ls 1 = some (.int (nI y1))) (hl2 : mm_lk ls 2 = some (.int (oI y2))) (hl4 : mm_lk ls 4 = some (.int (nI y4))) (hl5 : mm_lk ls 5 = some (.int (nI y5))) (hN : lp_X6_param_198  y1 y2 y4 y5 s ≠ none) : Ev xs L d 170 198 ls [] (TM h0 s) 0 0 (ou eU (TM h0) (lp_X6_param_198  y1 y2 y4 y5 s)) := by
  unfold lp_X6_param_198 at hN ⊢
  refine e_aload_n m_X6_param dX6_param_198 rfl hl0 rfl ?_
  refine e_iload_n m_X6_param dX6_param_199 rfl hl1 ?_
  refine e_bipush (v := nI 16) m_X6_param dX6_param_200 (by decide) ?_
  refine e_aload_n m_X6_param dX6_param_202 rfl hl0 rfl ?_
  refine e_getf m_X6_param dX6_param_203 f_RX6_77 (gM_m G) rfl ?_
  refine e_cvN (as := [.int (nI y1), .int (nI 16), .int (nI (m_at s))]) hN m_X6_param dX6_param_206 c_RX6_99 (by decide) rfl rfl (gM_m G) rfl (Nat.le_of_ble_eq_true rfl) (Nat.le_of_ble_eq_true rfl) (by omega) (w_X6_child G (by omega)) (fun v41 s41 hN => ?_)
  refine e_istore m_X6_param dX6_param_209 (by decide) rfl ?_
  refine e_aload_n m_X6_param dX6_param_211 rfl (lk_mis (by decide) rfl hl0) rfl ?_
  refine e_bipush (v := nI 25) m_X6_param dX6_param_212 (by decide) ?_
  refine e_iload_n m_X6_param dX6_param_214 rfl (lk_mis (by decide) rfl hl1) ?_
  refine e_iconst (v := nI 0) m_X6_param dX6_param_215 (by decide) ?_
  refine e_cvU (as := [.int (nI 25), .int (nI y1), .int (nI 0)]) hN m_X6_param dX6_param_216 c_RX6_106 (by decide) rfl rfl (gM_m G) rfl (Nat.le_of_ble_eq_true rfl) (Nat.le_of_ble_eq_true rfl) (by omega) (w_X6_push G (by omega)) (fun v42 s42 hN => ?_)
  refine e_iload m_X6_param dX6_param_219 (lk_mis (by decide) rfl hl4) ?_
  refine e_ifeq (t := 242) hN m_X6_param dX6_param_221 (by decide) (fun q43 hN => ?_) (fun q43 hN => ?_)
  · refine e_iload m_X6_param dX6_param_242 (lk_mis (by decide) rfl hl5) ?_
    refine e_ifeq (t := 293) hN m_X6_param dX6_param_244 (by decide) (fun q44 hN => ?_) (fun q44 hN => ?_)
    · refine e_aload_n m_X6_param dX6_param_293 rfl (lk_mis (by decide) rfl hl0) rfl ?_
      refine e_getf m_X6_param dX6_param_294 f_RX6_51 (gM_m G) rfl ?_
      refine e_iload_n m_X6_param dX6_param_297 rfl (lk_mis (by decide) rfl hl2) ?_
      refine e_iconst (v := nI 0) m_X6_param dX6_param_298 (by decide) ?_
      refine e_ck hN (fun q45 hN => ?_)
      rw [oI_p q45]
      refine e_ck hN (fun q46 hN => ?_)
      refine e_astZ (hb := by decide) (v := 0) (h' := TM h0 (w_nm s42 (upN (m_nm s42) (y2 - 1) 0))) q46 (by decide) m_X6_param dX6_param_299 (gM_nm G) (hpL_set (k := 24) (by decide) (Nat.le_of_ble_eq_true rfl)) ?_
      refine e_st hN (fun s47 hN => ?_)
      exact l_X6_param_300 G  y2 v41 _ _ _ (by omega) (lk_mis (by decide) rfl hl0) (lk_mis (by decide) rfl hl2) lk_hit hN
    · refine e_aload_n m_X6_param dX6_param_247 rfl (lk_mis (by decide) rfl hl0) rfl ?_
      refine e_iload m_X6_param dX6_param_248 lk_hit ?_
      refine e_cvN (as := [.int (nI v41)]) hN m_X6_param dX6_param_250 c_RX6_130 (by decide) rfl rfl (gM_m G) rfl (Nat.le_of_ble_eq_true rfl) (Nat.le_of_ble_eq_true rfl) (by omega) (w_X6_name G (by omega)) (fun v48 s48 hN => ?_)
      refine e_pop m_X6_param dX6_param_253 rfl ?_
      refine e_aload_n m_X6_param dX6_param_254 rfl (lk_mis (by decide) rfl hl0) rfl ?_
      refine e_getf m_X6_param dX6_param_255 f_RX6_55 (gM_m G) rfl ?_
      refine e_iload_n m_X6_param dX6_param_258 rfl (lk_mis (by decide) rfl hl2) ?_
      refine e_iconst (v := nI 0) m_X6_param dX6_param_259 (by decide) ?_
      refine e_ck hN (fun q49 hN => ?_)
      rw [oI_p q49]
      refine e_ck hN (fun q50 hN => ?_)
      refine e_astZ (hb := by decide) (v := 0) (h' := TM h0 (w_pl s48 (upN (m_pl s48) (y2 - 1) 0))) q50 (by decide) m_X6_param dX6_param_260 (gM_pl G) (hpL_set (k := 25) (by decide) (Nat.le_of_ble_eq_true rfl)) ?_
      refine e_st hN (fun s51 hN => ?_)
      refine e_aload_n m_X6_param dX6_param_261 rfl (lk_mis (by decide) rfl hl0) rfl ?_
      refine e_cvN (as := []) hN m_X6_param dX6_param_262 c_RX6_83 (by decide) rfl rfl (gM_m G) rfl (Nat.le_of_ble_eq_true rfl) (Nat.le_of_ble_eq_true rfl) (by omega) (w_X6_look G (by omega)) (fun v52 s52 hN => ?_)
      refine e_bipush (v := nI 77) m_X6_param dX6_param_265 (by decide) ?_
      refine e_ine (t := 283) (a := v52) (b := 77) hN m_X6_param dX6_param_267 (by decide) (fun q53 hN => ?_) (fun q53 hN => ?_)
      · refine e_aload_n m_X6_param dX6_param_270 rfl (lk_mis (by decide) rfl hl0) rfl ?_
        refine e_getf m_X6_param dX6_param_271 f_RX6_58 (gM_m G) rfl ?_
        refine e_iload_n m_X6_param dX6_param_274 rfl (lk_mis (by decide) rfl hl2) ?_
        refine e_ck hN (fun q54 hN => ?_)
        rw [oI_p q54]
        refine e_ck hN (fun q55 hN => ?_)
        refine e_aldN q55 (by decide) (Or.inl ⟨rfl, rfl⟩) m_X6_param dX6_param_275 (gM_pe G) ?_
        refine e_ifle (t := 283) hN m_X6_param dX6_param_276 (by decide) (fun q56 hN => ?_) (fun q56 hN => ?_)
        · exact l_X6_param_283 G  y2 v41 _ _ _ (by omega) (lk_mis (by decide) rfl hl0) (lk_mis (by decide) rfl hl2) lk_hit hN
        · refine e_aload_n m_X6_param dX6_param_279 rfl (lk_mis (by decide) rfl hl0) rfl ?_
          refine e_cvU (as := []) hN m_X6_param dX6_param_280 c_RX6_87 (by decide) rfl rfl (gM_m G) rfl (Nat.le_of_ble_eq_true rfl) (Nat.le_of_ble_eq_true rfl) (by omega) (w_X6_error G (by omega)) (fun v57 s57 hN => ?_)
          exact l_X6_param_283 G  y2 v41 _ _ _ (by omega) (lk_mis (by decide) rfl hl0) (lk_mis (by decide) rfl hl2) lk_hit hN
      · exact l_X6_param_283 G  y2 v41 _ _ _ (by omega) (lk_mis (by decide) rfl hl0) (lk_mis (by decide) rfl hl2) lk_hit hN
  · refine e_aload_n m_X6_param dX6_param_224 rfl (lk_mis (by decide) rfl hl0) rfl ?_
    refine e_iload m_X6_param dX6_param_225 lk_hit ?_
    refine e_cvN (as := [.int (nI v41)]) hN m_X6_param dX6_param_227 c_RX6_130 (by decide) rfl rfl (gM_m G) rfl (Nat.le_of_ble_eq_true rfl) (Nat.le_of_ble_eq_true rfl) (by omega) (w_X6_name G (by omega)) (fun v58 s58 hN => ?_)
    refine e_pop m_X6_param dX6_param_230 rfl ?_
    refine e_aload_n m_X6_param dX6_param_231 rfl (lk_mis (by decide) rfl hl0) rfl ?_
    refine e_getf m_X6_param dX6_param_232 f_RX6_58 (gM_m G) rfl ?_
    refine e_iload_n m_X6_param dX6_param_235 rfl (lk_mis (by decide) rfl hl2) ?_
    refine e_dup2 m_X6_param dX6_param_236 rfl rfl ?_
    refine e_ck hN (fun q59 hN => ?_)
    rw [oI_p q59]
    refine e_ck hN (fun q60 hN => ?_)
    refine e_aldN q60 (by decide) (Or.inl ⟨rfl, rfl⟩) m_X6_param dX6_param_237 (gM_pe G) ?_
    refine e_iconst (v := nI 1) m_X6_param dX6_param_238 (by decide) ?_
    refine e_iaddN m_X6_param dX6_param_239 ?_
    refine e_ck hN (fun q61 hN => ?_)
    refine e_astN (v := ((m_pe s58 (y2 - 1)) + 1)) (h' := TM h0 (w_pe s58 (upN (m_pe s58) (y2 - 1) ((m_pe s58 (y2 - 1)) + 1)))) q61 (by decide) m_X6_param dX6_param_240 (gM_pe G) (hpL_set (k := 26) (by decide) (Nat.le_of_ble_eq_true rfl)) ?_
    refine e_st hN (fun s62 hN => ?_)
    exact e_ret0 m_X6_param dX6_param_241
def lp_X6_param_155  (y1 y2 y4 y5 : Nat) (s : Mm) : Rs Mm := ifz y5 (lp_X6_param_198   y1 y2 y4 y5 s) (ck (y2 ≠ 0) (ck ((y2 - 1) < 64) (ifz (m_nm s (y2 - 1)) (lp_X6_param_169   y2 y5 s) (lp_X6_param_198   y1 y2 y4 y5 s))))
theorem l_X6_param_155 {xs : Nat → Int32} {L : Nat} {h0 : mm_H} (G : Mg h0) (y1 y2 y4 y5 : Nat) (s : Mm) (d : Nat) (ls : mm_L) (hd : 12 ≤ d) (hl0 : mm_lk ls 0 = some (.ref 10)) (hl1 : mm_lk ls 1 = some (.int (nI y1))) (hl2 : mm_lk ls 2 = some (.int (oI y2))) (hl4 : mm_lk ls 4 = some (.int (nI y4))) (hl5 : mm_lk ls 5 = some (.int (nI y5))) (hN : lp_X6_param_155  y1 y2 y4 y5 s ≠ none) : Ev xs L d 170 155 ls [] (TM h0 s) 0 0 (ou eU (TM h0) (lp_X6_param_155  y1 y2 y4 y5 s)) := by
  unfold lp_X6_param_155 at hN ⊢
  refine e_iload m_X6_param dX6_param_155 hl5 ?_
  refine e_ifeq (t := 198) hN m_X6_param dX6_param_157 (by decide) (fun q36 hN => ?_) (fun q36 hN => ?_)
  · exact l_X6_param_198 G  y1 y2 y4 y5 _ _ _ (by omega) hl0 hl1 hl2 hl4 hl5 hN
  · refine e_aload_n m_X6_param dX6_param_160 rfl hl0 rfl ?_
    refine e_getf m_X6_param dX6_param_161 f_RX6_51 (gM_m G) rfl ?_
    refine e_iload_n m_X6_param dX6_param_164 rfl hl2 ?_
    refine e_ck hN (fun q37 hN => ?_)
    rw [oI_p q37]
    refine e_ck hN (fun q38 hN => ?_)
    refine e_aldN q38 (by decide) (Or.inr ⟨rfl, Or.inr rfl⟩) m_X6_param dX6_param_165 (gM_nm G) ?_
    refine e_ifne (t := 198) hN m_X6_param dX6_param_166 (by decide) (fun q39 hN => ?_) (fun q39 hN => ?_)
    · exact l_X6_param_169 G  y2 y5 _ _ _ (by omega) hl0 hl2 hl5 hN
    · exact l_X6_param_198 G  y1 y2 y4 y5 _ _ _ (by omega) hl0 hl1 hl2 hl4 hl5 hN
def lp_X6_param_137  (y1 y2 y3 y4 y5 : Nat) (s : Mm) : Rs Mm := ife y3 1 (lp_X6_param_155   y1 y2 y4 y5 s) (ife y3 77 (lp_X6_param_155   y1 y2 y4 y5 s) (ck (y3 < 2147483648) (ifz (f_X6_beginsType y3) (lp_X6_param_169   y2 y5 s) (lp_X6_param_155   y1 y2 y4 y5 s))))
theorem l_X6_param_137 {xs : Nat → Int32} {L : Nat} {h0 : mm_H} (G : Mg h0) (y1 y2 y3 y4 y5 : Nat) (s : Mm) (d : Nat) (ls : mm_L) (hd : 12 ≤ d) (hl0 : mm_lk ls 0 = some (.ref 10)) (hl1 : mm_lk ls 1 = some (.int (nI y1))) (hl2 : mm_lk ls 2 = some (.int (oI y2))) (hl3 : mm_lk ls 3 = some (.int (nI y3))) (hl4 : mm_lk ls 4 = some (.int (nI y4))) (hl5 : mm_lk ls 5 = some (.int (nI y5))) (hN : lp_X6_param_137  y1 y2 y3 y4 y5 s ≠ none) : Ev xs L d 170 137 ls [] (TM h0 s) 0 0 (ou eU (TM h0) (lp_X6_param_137  y1 y2 y3 y4 y5 s)) := by
  unfold lp_X6_param_137 at hN ⊢
  refine e_iload_n m_X6_param dX6_param_137 rfl hl3 ?_
  refine e_iconst (v := nI 1) m_X6_param dX6_param_138 (by decide) ?_
  refine e_ieq (t := 155) (a := y3) (b := 1) hN m_X6_param dX6_param_139 (by decide) (fun q27 hN => ?_) (fun q27 hN => ?_)
  · exact l_X6_param_155 G  y1 y2 y4 y5 _ _ _ (by omega) hl0 hl1 hl2 hl4 hl5 hN
  · refine e_iload_n m_X6_param dX6_param_142 rfl hl3 ?_
    refine e_bipush (v := nI 77) m_X6_param dX6_param_143 (by decide) ?_
    refine e_ieq (t := 155) (a := y3) (b := 77) hN m_X6_param dX6_param_145 (by decide) (fun q28 hN => ?_) (fun q28 hN => ?_)
    · exact l_X6_param_155 G  y1 y2 y4 y5 _ _ _ (by omega) hl0 hl1 hl2 hl4 hl5 hN
    · refine e_iload_n m_X6_param dX6_param_148 rfl hl3 ?_
      refine e_ck hN (fun q29 hN => ?_)
      refine e_cs (as := [_]) m_X6_param dX6_param_149 c_RX6_150 (by decide) rfl rfl (Nat.le_of_ble_eq_true rfl) (Nat.le_of_ble_eq_true rfl) (by omega) (z_X6_beginsType q29 (by omega)) ?_
      refine e_ifeq (t := 169) hN m_X6_param dX6_param_152 (by decide) (fun q30 hN => ?_) (fun q30 hN => ?_)
      · exact l_X6_param_169 G  y2 y5 _ _ _ (by omega) hl0 hl2 hl5 hN
      · exact l_X6_param_155 G  y1 y2 y4 y5 _ _ _ (by omega) hl0 hl1 hl2 hl4 hl5 hN
def lp_X6_param_114  (y1 y2 y3 y4 y5 : Nat) (s : Mm) : Rs Mm := ck (y2 ≠ 0) (ck ((y2 - 1) < 64) (ifz (m_en s (y2 - 1)) (ife y3 1 (lp_X6_param_137   y1 y2 y3 y4 y5 s) (ck (y2 ≠ 0) (ck ((y2 - 1) < 64) (ifz (m_pl s (y2 - 1)) (lp_X6_param_169   y2 y5 s) (lp_X6_param_137   y1 y2 y3 y4 y5 s))))) (lp_X6_param_169   y2 y5 s)))
theorem l_X6_param_114 {xs : Nat → Int32} {L : Nat} {h0 : mm_H} (G : Mg h0) (y1 y2 y3 y4 y5 : Nat) (s : Mm) (d : Nat) (ls : mm_L) (hd : 12 ≤ d) (hl0 : mm_lk ls 0 = some (.ref 10)) (hl1 : mm_lk ls 1 = some (.int (nI y1))) (hl2 : mm_lk ls 2 = some (.int (oI y2))) (hl3 : mm_lk ls 3 = some (.int (nI y3))) (hl4 : mm_lk ls 4 = some (.int (nI y4))) (hl5 : mm_lk ls 5 = some (.int (nI y5))) (hN : lp_X6_param_114  y1 y2 y3 y4 y5 s ≠ none) : Ev xs L d 170 114 ls [] (TM h0 s) 0 0 (ou eU (TM h0) (lp_X6_param_114  y1 y2 y3 y4 y5 s)) := by
  unfold lp_X6_param_114 at hN ⊢
  refine e_aload_n m_X6_param dX6_param_114 rfl hl0 rfl ?_
  refine e_getf m_X6_param dX6_param_115 f_RX6_61 (gM_m G) rfl ?_
  refine e_iload_n m_X6_param dX6_param_118 rfl hl2 ?_
  refine e_ck hN (fun q20 hN => ?_)
  rw [oI_p q20]
  refine e_ck hN (fun q21 hN => ?_)
  refine e_aldN q21 (by decide) (Or.inr ⟨rfl, Or.inr rfl⟩) m_X6_param dX6_param_119 (gM_en G) ?_
  refine e_ifne (t := 169) hN m_X6_param dX6_param_120 (by decide) (fun q22 hN => ?_) (fun q22 hN => ?_)
  · refine e_iload_n m_X6_param dX6_param_123 rfl hl3 ?_
    refine e_iconst (v := nI 1) m_X6_param dX6_param_124 (by decide) ?_
    refine e_ieq (t := 137) (a := y3) (b := 1) hN m_X6_param dX6_param_125 (by decide) (fun q23 hN => ?_) (fun q23 hN => ?_)
    · exact l_X6_param_137 G  y1 y2 y3 y4 y5 _ _ _ (by omega) hl0 hl1 hl2 hl3 hl4 hl5 hN
    · refine e_aload_n m_X6_param dX6_param_128 rfl hl0 rfl ?_
      refine e_getf m_X6_param dX6_param_129 f_RX6_55 (gM_m G) rfl ?_
      refine e_iload_n m_X6_param dX6_param_132 rfl hl2 ?_
      refine e_ck hN (fun q24 hN => ?_)
      rw [oI_p q24]
      refine e_ck hN (fun q25 hN => ?_)
      refine e_aldN q25 (by decide) (Or.inr ⟨rfl, Or.inr rfl⟩) m_X6_param dX6_param_133 (gM_pl G) ?_
      refine e_ifeq (t := 169) hN m_X6_param dX6_param_134 (by decide) (fun q26 hN => ?_) (fun q26 hN => ?_)
      · exact l_X6_param_169 G  y2 y5 _ _ _ (by omega) hl0 hl2 hl5 hN
      · exact l_X6_param_137 G  y1 y2 y3 y4 y5 _ _ _ (by omega) hl0 hl1 hl2 hl3 hl4 hl5 hN
  · exact l_X6_param_169 G  y2 y5 _ _ _ (by omega) hl0 hl2 hl5 hN
def lp_X6_param_111  (y1 y2 y3 y4 : Nat) (s : Mm) : Rs Mm := lp_X6_param_114   y1 y2 y3 y4 0 s
theorem l_X6_param_111 {xs : Nat → Int32} {L : Nat} {h0 : mm_H} (G : Mg h0) (y1 y2 y3 y4 : Nat) (s : Mm) (d : Nat) (ls : mm_L) (hd : 12 ≤ d) (hl0 : mm_lk ls 0 = some (.ref 10)) (hl1 : mm_lk ls 1 = some (.int (nI y1))) (hl2 : mm_lk ls 2 = some (.int (oI y2))) (hl3 : mm_lk ls 3 = some (.int (nI y3))) (hl4 : mm_lk ls 4 = some (.int (nI y4))) (hN : lp_X6_param_111  y1 y2 y3 y4 s ≠ none) : Ev xs L d 170 111 ls [] (TM h0 s) 0 0 (ou eU (TM h0) (lp_X6_param_111  y1 y2 y3 y4 s)) := by
  unfold lp_X6_param_111 at hN ⊢
  refine e_iconst (v := nI 0) m_X6_param dX6_param_111 (by decide) ?_
  refine e_istore m_X6_param dX6_param_112 (by decide) rfl ?_
  exact l_X6_param_114 G  y1 y2 y3 y4 0 _ _ _ (by omega) (lk_mis (by decide) rfl hl0) (lk_mis (by decide) rfl hl1) (lk_mis (by decide) rfl hl2) (lk_mis (by decide) rfl hl3) (lk_mis (by decide) rfl hl4) lk_hit hN
def lp_X6_param_97  (y1 y2 y3 y4 : Nat) (s : Mm) : Rs Mm := ife y3 1 (ifz y4 (lp_X6_param_114   y1 y2 y3 y4 1 s) (lp_X6_param_111   y1 y2 y3 y4 s)) (lp_X6_param_111   y1 y2 y3 y4 s)
theorem l_X6_param_97 {xs : Nat → Int32} {L : Nat} {h0 : mm_H} (G : Mg h0) (y1 y2 y3 y4 : Nat) (s : Mm) (d : Nat) (ls : mm_L) (hd : 12 ≤ d) (hl0 : mm_lk ls 0 = some (.ref 10)) (hl1 : mm_lk ls 1 = some (.int (nI y1))) (hl2 : mm_lk ls 2 = some (.int (oI y2))) (hl3 : mm_lk ls 3 = some (.int (nI y3))) (hl4 : mm_lk ls 4 = some (.int (nI y4))) (hN : lp_X6_param_97  y1 y2 y3 y4 s ≠ none) : Ev xs L d 170 97 ls [] (TM h0 s) 0 0 (ou eU (TM h0) (lp_X6_param_97  y1 y2 y3 y4 s)) := by
  unfold lp_X6_param_97 at hN ⊢
  refine e_iload_n m_X6_param dX6_param_97 rfl hl3 ?_
  refine e_iconst (v := nI 1) m_X6_param dX6_param_98 (by decide) ?_
  refine e_ine (t := 111) (a := y3) (b := 1) hN m_X6_param dX6_param_99 (by decide) (fun q18 hN => ?_) (fun q18 hN => ?_)
  · refine e_iload m_X6_param dX6_param_102 hl4 ?_
    refine e_ifne (t := 111) hN m_X6_param dX6_param_104 (by decide) (fun q19 hN => ?_) (fun q19 hN => ?_)
    · refine e_iconst (v := nI 1) m_X6_param dX6_param_107 (by decide) ?_
      refine e_goto (t := 112) m_X6_param dX6_param_108 (by decide) ?_
      refine e_istore m_X6_param dX6_param_112 (by decide) rfl ?_
      exact l_X6_param_114 G  y1 y2 y3 y4 1 _ _ _ (by omega) (lk_mis (by decide) rfl hl0) (lk_mis (by decide) rfl hl1) (lk_mis (by decide) rfl hl2) (lk_mis (by decide) rfl hl3) (lk_mis (by decide) rfl hl4) lk_hit hN
    · exact l_X6_param_111 G  y1 y2 y3 y4 _ _ _ (by omega) hl0 hl1 hl2 hl3 hl4 hN
  · exact l_X6_param_111 G  y1 y2 y3 y4 _ _ _ (by omega) hl0 hl1 hl2 hl3 hl4 hN
def lp_X6_param_90  (y1 y2 y3 : Nat) (s : Mm) : Rs Mm := lp_X6_param_97   y1 y2 y3 1 s
theorem l_X6_param_90 {xs : Nat → Int32} {L : Nat} {h0 : mm_H} (G : Mg h0) (y1 y2 y3 : Nat) (s : Mm) (d : Nat) (ls : mm_L) (hd : 12 ≤ d) (hl0 : mm_lk ls 0 = some (.ref 10)) (hl1 : mm_lk ls 1 = some (.int (nI y1))) (hl2 : mm_lk ls 2 = some (.int (oI y2))) (hl3 : mm_lk ls 3 = some (.int (nI y3))) (hN : lp_X6_param_90  y1 y2 y3 s ≠ none) : Ev xs L d 170 90 ls [] (TM h0 s) 0 0 (ou eU (TM h0) (lp_X6_param_90  y1 y2 y3 s)) := by
  unfold lp_X6_param_90 at hN ⊢
  refine e_iconst (v := nI 1) m_X6_param dX6_param_90 (by decide) ?_
  refine e_goto (t := 95) m_X6_param dX6_param_91 (by decide) ?_
  refine e_istore m_X6_param dX6_param_95 (by decide) rfl ?_
  exact l_X6_param_97 G  y1 y2 y3 1 _ _ _ (by omega) (lk_mis (by decide) rfl hl0) (lk_mis (by decide) rfl hl1) (lk_mis (by decide) rfl hl2) (lk_mis (by decide) rfl hl3) lk_hit hN
def lp_X6_param_94  (y1 y2 y3 : Nat) (s : Mm) : Rs Mm := lp_X6_param_97   y1 y2 y3 0 s
theorem l_X6_param_94 {xs : Nat → Int32} {L : Nat} {h0 : mm_H} (G : Mg h0) (y1 y2 y3 : Nat) (s : Mm) (d : Nat) (ls : mm_L) (hd : 12 ≤ d) (hl0 : mm_lk ls 0 = some (.ref 10)) (hl1 : mm_lk ls 1 = some (.int (nI y1))) (hl2 : mm_lk ls 2 = some (.int (oI y2))) (hl3 : mm_lk ls 3 = some (.int (nI y3))) (hN : lp_X6_param_94  y1 y2 y3 s ≠ none) : Ev xs L d 170 94 ls [] (TM h0 s) 0 0 (ou eU (TM h0) (lp_X6_param_94  y1 y2 y3 s)) := by
  unfold lp_X6_param_94 at hN ⊢
  refine e_iconst (v := nI 0) m_X6_param dX6_param_94 (by decide) ?_
  refine e_istore m_X6_param dX6_param_95 (by decide) rfl ?_
  exact l_X6_param_97 G  y1 y2 y3 0 _ _ _ (by omega) (lk_mis (by decide) rfl hl0) (lk_mis (by decide) rfl hl1) (lk_mis (by decide) rfl hl2) (lk_mis (by decide) rfl hl3) lk_hit hN
def lp_X6_param_67  (y1 y2 y3 : Nat) (s : Mm) : Rs Mm := ife y3 1 (bn (b_X6_ahead  s) (fun v14 s14 => ife v14 84 (lp_X6_param_90   y1 y2 y3 s14) (bn (b_X6_ahead  s14) (fun v16 s16 => ife v16 79 (lp_X6_param_90   y1 y2 y3 s16) (lp_X6_param_94   y1 y2 y3 s16))))) (lp_X6_param_94   y1 y2 y3 s)
theorem l_X6_param_67 {xs : Nat → Int32} {L : Nat} {h0 : mm_H} (G : Mg h0) (y1 y2 y3 : Nat) (s : Mm) (d : Nat) (ls : mm_L) (hd : 12 ≤ d) (hl0 : mm_lk ls 0 = some (.ref 10)) (hl1 : mm_lk ls 1 = some (.int (nI y1))) (hl2 : mm_lk ls 2 = some (.int (oI y2))) (hl3 : mm_lk ls 3 = some (.int (nI y3))) (hN : lp_X6_param_67  y1 y2 y3 s ≠ none) : Ev xs L d 170 67 ls [] (TM h0 s) 0 0 (ou eU (TM h0) (lp_X6_param_67  y1 y2 y3 s)) := by
  unfold lp_X6_param_67 at hN ⊢
  refine e_iload_n m_X6_param dX6_param_67 rfl hl3 ?_
  refine e_iconst (v := nI 1) m_X6_param dX6_param_68 (by decide) ?_
  refine e_ine (t := 94) (a := y3) (b := 1) hN m_X6_param dX6_param_69 (by decide) (fun q13 hN => ?_) (fun q13 hN => ?_)
  · refine e_aload_n m_X6_param dX6_param_72 rfl hl0 rfl ?_
    refine e_cvN (as := []) hN m_X6_param dX6_param_73 c_RX6_120 (by decide) rfl rfl (gM_m G) rfl (Nat.le_of_ble_eq_true rfl) (Nat.le_of_ble_eq_true rfl) (by omega) (w_X6_ahead G (by omega)) (fun v14 s14 hN => ?_)
    refine e_bipush (v := nI 84) m_X6_param dX6_param_76 (by decide) ?_
    refine e_ieq (t := 90) (a := v14) (b := 84) hN m_X6_param dX6_param_78 (by decide) (fun q15 hN => ?_) (fun q15 hN => ?_)
    · exact l_X6_param_90 G  y1 y2 y3 _ _ _ (by omega) hl0 hl1 hl2 hl3 hN
    · refine e_aload_n m_X6_param dX6_param_81 rfl hl0 rfl ?_
      refine e_cvN (as := []) hN m_X6_param dX6_param_82 c_RX6_120 (by decide) rfl rfl (gM_m G) rfl (Nat.le_of_ble_eq_true rfl) (Nat.le_of_ble_eq_true rfl) (by omega) (w_X6_ahead G (by omega)) (fun v16 s16 hN => ?_)
      refine e_bipush (v := nI 79) m_X6_param dX6_param_85 (by decide) ?_
      refine e_ine (t := 94) (a := v16) (b := 79) hN m_X6_param dX6_param_87 (by decide) (fun q17 hN => ?_) (fun q17 hN => ?_)
      · exact l_X6_param_90 G  y1 y2 y3 _ _ _ (by omega) hl0 hl1 hl2 hl3 hN
      · exact l_X6_param_94 G  y1 y2 y3 _ _ _ (by omega) hl0 hl1 hl2 hl3 hN
  · exact l_X6_param_94 G  y1 y2 y3 _ _ _ (by omega) hl0 hl1 hl2 hl3 hN
def b_X6_param  (x1 : Nat) (s : Mm) : Rs Mm := bn (b_X6_look  s) (fun v1 s1 => ife v1 79 (ck ((m_rw s) ≠ 0) (ck (((m_rw s) - 1) < 64) (ifz (m_pl s1 ((m_rw s) - 1)) (ck (((m_rw s) - 1) < 64) (ifz (m_pe s1 ((m_rw s) - 1)) (lp_X6_param_36   s1) (lp_X6_param_67   x1 (((m_rw s) - 1) + 1) v1 s1))) (lp_X6_param_36   s1)))) (lp_X6_param_67   x1 (m_rw s) v1 s1))
theorem w_X6_param {xs : Nat → Int32} {L : Nat} {h0 : mm_H} (G : Mg h0) {x1 : Nat} {s : Mm} {d : Nat} (hd : 12 ≤ d) (hN : b_X6_param  x1 s ≠ none) : Rn xs L d 170 [.ref 10, .int (nI x1)] (TM h0 s) (ou eU (TM h0) (b_X6_param  x1 s)) := by
  unfold Rn
  unfold b_X6_param at hN ⊢
  refine e_aload_n m_X6_param dX6_param_0 rfl rfl rfl ?_
  refine e_getf m_X6_param dX6_param_1 f_RX6_156 (gM_m G) rfl ?_
  refine e_iconst (v := nI 1) m_X6_param dX6_param_4 (by decide) ?_
  refine e_isubO m_X6_param dX6_param_5 ?_
  refine e_istore_n m_X6_param dX6_param_6 rfl (by decide) rfl ?_
  refine e_aload_n m_X6_param dX6_param_7 rfl rfl rfl ?_
  refine e_cvN (as := []) hN m_X6_param dX6_param_8 c_RX6_83 (by decide) rfl rfl (gM_m G) rfl (Nat.le_of_ble_eq_true rfl) (Nat.le_of_ble_eq_true rfl) (by omega) (w_X6_look G (by omega)) (fun v1 s1 hN => ?_)
  refine e_istore_n m_X6_param dX6_param_11 rfl (by decide) rfl ?_
  refine e_iload_n m_X6_param dX6_param_12 rfl rfl ?_
  refine e_bipush (v := nI 79) m_X6_param dX6_param_13 (by decide) ?_
  refine e_ine (t := 67) (a := v1) (b := 79) hN m_X6_param dX6_param_15 (by decide) (fun q2 hN => ?_) (fun q2 hN => ?_)
  · refine e_aload_n m_X6_param dX6_param_18 rfl rfl rfl ?_
    refine e_getf m_X6_param dX6_param_19 f_RX6_55 (gM_m G) rfl ?_
    refine e_iload_n m_X6_param dX6_param_22 rfl rfl ?_
    refine e_ck hN (fun q3 hN => ?_)
    rw [oI_p q3]
    refine e_ck hN (fun q4 hN => ?_)
    refine e_aldN q4 (by decide) (Or.inr ⟨rfl, Or.inr rfl⟩) m_X6_param dX6_param_23 (gM_pl G) ?_
    refine e_ifne (t := 36) hN m_X6_param dX6_param_24 (by decide) (fun q5 hN => ?_) (fun q5 hN => ?_)
    · refine e_aload_n m_X6_param dX6_param_27 rfl rfl rfl ?_
      refine e_getf m_X6_param dX6_param_28 f_RX6_58 (gM_m G) rfl ?_
      refine e_iload_n m_X6_param dX6_param_31 rfl rfl ?_
      refine e_ck hN (fun q6 hN => ?_)
      refine e_aldN q6 (by decide) (Or.inl ⟨rfl, rfl⟩) m_X6_param dX6_param_32 (gM_pe G) ?_
      refine e_ifne (t := 67) hN m_X6_param dX6_param_33 (by decide) (fun q7 hN => ?_) (fun q7 hN => ?_)
      · exact l_X6_param_36 G   _ _ _ (by omega) rfl hN
      · exact l_X6_param_67 G  x1 (((m_rw s) - 1) + 1) v1 _ _ _ (by omega) rfl rfl rfl rfl hN
    · exact l_X6_param_36 G   _ _ _ (by omega) rfl hN
  · exact l_X6_param_67 G  x1 (m_rw s) v1 _ _ _ (by omega) rfl rfl rfl rfl hN

def b_X6_fieldsMore  (x1 : Nat) (x2 : Nat) (s : Mm) : Rs Mm := bn (b_X6_look  s) (fun v1 s1 => ife v1 83 (bn (b_X6_push x2 x1 0 s1) (fun v3 s3 => okR 0 s3)) (bn (b_X6_pass 85 s1) (fun v4 s4 => bn (b_X6_push x2 x1 0 s4) (fun v5 s5 => okR 0 s5))))
theorem w_X6_fieldsMore {xs : Nat → Int32} {L : Nat} {h0 : mm_H} (G : Mg h0) {x1 : Nat} {x2 : Nat} {s : Mm} {d : Nat} (hd : 12 ≤ d) (hN : b_X6_fieldsMore  x1 x2 s ≠ none) : Rn xs L d 173 [.ref 10, .int (nI x1), .int (nI x2)] (TM h0 s) (ou eU (TM h0) (b_X6_fieldsMore  x1 x2 s)) := by
  unfold Rn
  unfold b_X6_fieldsMore at hN ⊢
  refine e_aload_n m_X6_fieldsMore dX6_fieldsMore_0 rfl rfl rfl ?_
  refine e_cvN (as := []) hN m_X6_fieldsMore dX6_fieldsMore_1 c_RX6_83 (by decide) rfl rfl (gM_m G) rfl (Nat.le_of_ble_eq_true rfl) (Nat.le_of_ble_eq_true rfl) (by omega) (w_X6_look G (by omega)) (fun v1 s1 hN => ?_)
  refine e_bipush (v := nI 83) m_X6_fieldsMore dX6_fieldsMore_4 (by decide) ?_
  refine e_ieq (t := 15) (a := v1) (b := 83) hN m_X6_fieldsMore dX6_fieldsMore_6 (by decide) (fun q2 hN => ?_) (fun q2 hN => ?_)
  · refine e_aload_n m_X6_fieldsMore dX6_fieldsMore_15 rfl rfl rfl ?_
    refine e_iload_n m_X6_fieldsMore dX6_fieldsMore_16 rfl rfl ?_
    refine e_iload_n m_X6_fieldsMore dX6_fieldsMore_17 rfl rfl ?_
    refine e_iconst (v := nI 0) m_X6_fieldsMore dX6_fieldsMore_18 (by decide) ?_
    refine e_cvU (as := [.int (nI x2), .int (nI x1), .int (nI 0)]) hN m_X6_fieldsMore dX6_fieldsMore_19 c_RX6_106 (by decide) rfl rfl (gM_m G) rfl (Nat.le_of_ble_eq_true rfl) (Nat.le_of_ble_eq_true rfl) (by omega) (w_X6_push G (by omega)) (fun v3 s3 hN => ?_)
    exact e_ret0 m_X6_fieldsMore dX6_fieldsMore_22
  · refine e_aload_n m_X6_fieldsMore dX6_fieldsMore_9 rfl rfl rfl ?_
    refine e_bipush (v := nI 85) m_X6_fieldsMore dX6_fieldsMore_10 (by decide) ?_
    refine e_cvU (as := [.int (nI 85)]) hN m_X6_fieldsMore dX6_fieldsMore_12 c_RX6_141 (by decide) rfl rfl (gM_m G) rfl (Nat.le_of_ble_eq_true rfl) (Nat.le_of_ble_eq_true rfl) (by omega) (w_X6_pass G (by omega)) (fun v4 s4 hN => ?_)
    refine e_aload_n m_X6_fieldsMore dX6_fieldsMore_15 rfl rfl rfl ?_
    refine e_iload_n m_X6_fieldsMore dX6_fieldsMore_16 rfl rfl ?_
    refine e_iload_n m_X6_fieldsMore dX6_fieldsMore_17 rfl rfl ?_
    refine e_iconst (v := nI 0) m_X6_fieldsMore dX6_fieldsMore_18 (by decide) ?_
    refine e_cvU (as := [.int (nI x2), .int (nI x1), .int (nI 0)]) hN m_X6_fieldsMore dX6_fieldsMore_19 c_RX6_106 (by decide) rfl rfl (gM_m G) rfl (Nat.le_of_ble_eq_true rfl) (Nat.le_of_ble_eq_true rfl) (by omega) (w_X6_push G (by omega)) (fun v5 s5 hN => ?_)
    exact e_ret0 m_X6_fieldsMore dX6_fieldsMore_22

def b_X6_methods  (x1 : Nat) (s : Mm) : Rs Mm := bn (b_X6_look  s) (fun v1 s1 => ife v1 83 (st1 (w_at s1 ((m_at s1) + 1)) (fun s3 => ck ((m_dp s3) ≠ 0) (st1 (w_dp s3 ((m_dp s3) - 1)) (fun s5 => okR 0 s5)))) (bn (b_X6_child x1 31 (m_at s1) s1) (fun v6 s6 => bn (b_X6_name v6 s6) (fun v7 s7 => bn (b_X6_push 27 x1 28 s7) (fun v8 s8 => bn (b_X6_push 21 v6 0 s8) (fun v9 s9 => okR 0 s9))))))
theorem w_X6_methods {xs : Nat → Int32} {L : Nat} {h0 : mm_H} (G : Mg h0) {x1 : Nat} {s : Mm} {d : Nat} (hd : 12 ≤ d) (hN : b_X6_methods  x1 s ≠ none) : Rn xs L d 174 [.ref 10, .int (nI x1)] (TM h0 s) (ou eU (TM h0) (b_X6_methods  x1 s)) := by
  unfold Rn
  unfold b_X6_methods at hN ⊢
  refine e_aload_n m_X6_methods dX6_methods_0 rfl rfl rfl ?_
  refine e_cvN (as := []) hN m_X6_methods dX6_methods_1 c_RX6_83 (by decide) rfl rfl (gM_m G) rfl (Nat.le_of_ble_eq_true rfl) (Nat.le_of_ble_eq_true rfl) (by omega) (w_X6_look G (by omega)) (fun v1 s1 hN => ?_)
  refine e_bipush (v := nI 83) m_X6_methods dX6_methods_4 (by decide) ?_
  refine e_ine (t := 30) (a := v1) (b := 83) hN m_X6_methods dX6_methods_6 (by decide) (fun q2 hN => ?_) (fun q2 hN => ?_)
  · refine e_aload_n m_X6_methods dX6_methods_9 rfl rfl rfl ?_
    refine e_dup m_X6_methods dX6_methods_10 rfl ?_
    refine e_getf m_X6_methods dX6_methods_11 f_RX6_77 (gM_m G) rfl ?_
    refine e_iconst (v := nI 1) m_X6_methods dX6_methods_14 (by decide) ?_
    refine e_iaddN m_X6_methods dX6_methods_15 ?_
    refine e_putf (v := .int (nI ((m_at s1) + 1))) (h' := TM h0 (w_at s1 ((m_at s1) + 1))) m_X6_methods dX6_methods_16 f_RX6_77 (gM_m G) (Nat.le_of_ble_eq_true rfl) (fit_i rfl) rfl (hpL_set (k := 10) (by decide) (Nat.le_of_ble_eq_true rfl)) ?_
    refine e_st hN (fun s3 hN => ?_)
    refine e_aload_n m_X6_methods dX6_methods_19 rfl rfl rfl ?_
    refine e_dup m_X6_methods dX6_methods_20 rfl ?_
    refine e_getf m_X6_methods dX6_methods_21 f_RX6_90 (gM_m G) rfl ?_
    refine e_iconst (v := nI 1) m_X6_methods dX6_methods_24 (by decide) ?_
    refine e_isubO m_X6_methods dX6_methods_25 ?_
    refine e_ck hN (fun q4 hN => ?_)
    rw [oI_p q4]
    refine e_putf (v := .int (nI ((m_dp s3) - 1))) (h' := TM h0 (w_dp s3 ((m_dp s3) - 1))) m_X6_methods dX6_methods_26 f_RX6_90 (gM_m G) (Nat.le_of_ble_eq_true rfl) (fit_i rfl) rfl (hpL_set (k := 10) (by decide) (Nat.le_of_ble_eq_true rfl)) ?_
    refine e_st hN (fun s5 hN => ?_)
    exact e_ret0 m_X6_methods dX6_methods_29
  · refine e_aload_n m_X6_methods dX6_methods_30 rfl rfl rfl ?_
    refine e_iload_n m_X6_methods dX6_methods_31 rfl rfl ?_
    refine e_bipush (v := nI 31) m_X6_methods dX6_methods_32 (by decide) ?_
    refine e_aload_n m_X6_methods dX6_methods_34 rfl rfl rfl ?_
    refine e_getf m_X6_methods dX6_methods_35 f_RX6_77 (gM_m G) rfl ?_
    refine e_cvN (as := [.int (nI x1), .int (nI 31), .int (nI (m_at s1))]) hN m_X6_methods dX6_methods_38 c_RX6_99 (by decide) rfl rfl (gM_m G) rfl (Nat.le_of_ble_eq_true rfl) (Nat.le_of_ble_eq_true rfl) (by omega) (w_X6_child G (by omega)) (fun v6 s6 hN => ?_)
    refine e_istore_n m_X6_methods dX6_methods_41 rfl (by decide) rfl ?_
    refine e_aload_n m_X6_methods dX6_methods_42 rfl rfl rfl ?_
    refine e_iload_n m_X6_methods dX6_methods_43 rfl rfl ?_
    refine e_cvN (as := [.int (nI v6)]) hN m_X6_methods dX6_methods_44 c_RX6_130 (by decide) rfl rfl (gM_m G) rfl (Nat.le_of_ble_eq_true rfl) (Nat.le_of_ble_eq_true rfl) (by omega) (w_X6_name G (by omega)) (fun v7 s7 hN => ?_)
    refine e_pop m_X6_methods dX6_methods_47 rfl ?_
    refine e_aload_n m_X6_methods dX6_methods_48 rfl rfl rfl ?_
    refine e_bipush (v := nI 27) m_X6_methods dX6_methods_49 (by decide) ?_
    refine e_iload_n m_X6_methods dX6_methods_51 rfl rfl ?_
    refine e_bipush (v := nI 28) m_X6_methods dX6_methods_52 (by decide) ?_
    refine e_cvU (as := [.int (nI 27), .int (nI x1), .int (nI 28)]) hN m_X6_methods dX6_methods_54 c_RX6_106 (by decide) rfl rfl (gM_m G) rfl (Nat.le_of_ble_eq_true rfl) (Nat.le_of_ble_eq_true rfl) (by omega) (w_X6_push G (by omega)) (fun v8 s8 hN => ?_)
    refine e_aload_n m_X6_methods dX6_methods_57 rfl rfl rfl ?_
    refine e_bipush (v := nI 21) m_X6_methods dX6_methods_58 (by decide) ?_
    refine e_iload_n m_X6_methods dX6_methods_60 rfl rfl ?_
    refine e_iconst (v := nI 0) m_X6_methods dX6_methods_61 (by decide) ?_
    refine e_cvU (as := [.int (nI 21), .int (nI v6), .int (nI 0)]) hN m_X6_methods dX6_methods_62 c_RX6_106 (by decide) rfl rfl (gM_m G) rfl (Nat.le_of_ble_eq_true rfl) (Nat.le_of_ble_eq_true rfl) (by omega) (w_X6_push G (by omega)) (fun v9 s9 hN => ?_)
    exact e_ret0 m_X6_methods dX6_methods_65

def b_X6_names  (x1 : Nat) (s : Mm) : Rs Mm := bn (b_X6_child x1 12 (m_at s) s) (fun v1 s1 => bn (b_X6_name v1 s1) (fun v2 s2 => bn (b_X6_push 30 v1 0 s2) (fun v3 s3 => okR 0 s3)))
theorem w_X6_names {xs : Nat → Int32} {L : Nat} {h0 : mm_H} (G : Mg h0) {x1 : Nat} {s : Mm} {d : Nat} (hd : 12 ≤ d) (hN : b_X6_names  x1 s ≠ none) : Rn xs L d 176 [.ref 10, .int (nI x1)] (TM h0 s) (ou eU (TM h0) (b_X6_names  x1 s)) := by
  unfold Rn
  unfold b_X6_names at hN ⊢
  refine e_aload_n m_X6_names dX6_names_0 rfl rfl rfl ?_
  refine e_iload_n m_X6_names dX6_names_1 rfl rfl ?_
  refine e_bipush (v := nI 12) m_X6_names dX6_names_2 (by decide) ?_
  refine e_aload_n m_X6_names dX6_names_4 rfl rfl rfl ?_
  refine e_getf m_X6_names dX6_names_5 f_RX6_77 (gM_m G) rfl ?_
  refine e_cvN (as := [.int (nI x1), .int (nI 12), .int (nI (m_at s))]) hN m_X6_names dX6_names_8 c_RX6_99 (by decide) rfl rfl (gM_m G) rfl (Nat.le_of_ble_eq_true rfl) (Nat.le_of_ble_eq_true rfl) (by omega) (w_X6_child G (by omega)) (fun v1 s1 hN => ?_)
  refine e_istore_n m_X6_names dX6_names_11 rfl (by decide) rfl ?_
  refine e_aload_n m_X6_names dX6_names_12 rfl rfl rfl ?_
  refine e_iload_n m_X6_names dX6_names_13 rfl rfl ?_
  refine e_cvN (as := [.int (nI v1)]) hN m_X6_names dX6_names_14 c_RX6_130 (by decide) rfl rfl (gM_m G) rfl (Nat.le_of_ble_eq_true rfl) (Nat.le_of_ble_eq_true rfl) (by omega) (w_X6_name G (by omega)) (fun v2 s2 hN => ?_)
  refine e_pop m_X6_names dX6_names_17 rfl ?_
  refine e_aload_n m_X6_names dX6_names_18 rfl rfl rfl ?_
  refine e_bipush (v := nI 30) m_X6_names dX6_names_19 (by decide) ?_
  refine e_iload_n m_X6_names dX6_names_21 rfl rfl ?_
  refine e_iconst (v := nI 0) m_X6_names dX6_names_22 (by decide) ?_
  refine e_cvU (as := [.int (nI 30), .int (nI v1), .int (nI 0)]) hN m_X6_names dX6_names_23 c_RX6_106 (by decide) rfl rfl (gM_m G) rfl (Nat.le_of_ble_eq_true rfl) (Nat.le_of_ble_eq_true rfl) (by omega) (w_X6_push G (by omega)) (fun v3 s3 hN => ?_)
  exact e_ret0 m_X6_names dX6_names_26

def b_X6_namesMore  (x1 : Nat) (s : Mm) : Rs Mm := bn (b_X6_look  s) (fun v1 s1 => ife v1 84 (st1 (w_at s1 ((m_at s1) + 1)) (fun s3 => bn (b_X6_name x1 s3) (fun v4 s4 => bn (b_X6_push 30 x1 0 s4) (fun v5 s5 => okR 0 s5)))) (okR 0 s1))
theorem w_X6_namesMore {xs : Nat → Int32} {L : Nat} {h0 : mm_H} (G : Mg h0) {x1 : Nat} {s : Mm} {d : Nat} (hd : 12 ≤ d) (hN : b_X6_namesMore  x1 s ≠ none) : Rn xs L d 177 [.ref 10, .int (nI x1)] (TM h0 s) (ou eU (TM h0) (b_X6_namesMore  x1 s)) := by
  unfold Rn
  unfold b_X6_namesMore at hN ⊢
  refine e_aload_n m_X6_namesMore dX6_namesMore_0 rfl rfl rfl ?_
  refine e_cvN (as := []) hN m_X6_namesMore dX6_namesMore_1 c_RX6_83 (by decide) rfl rfl (gM_m G) rfl (Nat.le_of_ble_eq_true rfl) (Nat.le_of_ble_eq_true rfl) (by omega) (w_X6_look G (by omega)) (fun v1 s1 hN => ?_)
  refine e_bipush (v := nI 84) m_X6_namesMore dX6_namesMore_4 (by decide) ?_
  refine e_ieq (t := 10) (a := v1) (b := 84) hN m_X6_namesMore dX6_namesMore_6 (by decide) (fun q2 hN => ?_) (fun q2 hN => ?_)
  · refine e_aload_n m_X6_namesMore dX6_namesMore_10 rfl rfl rfl ?_
    refine e_dup m_X6_namesMore dX6_namesMore_11 rfl ?_
    refine e_getf m_X6_namesMore dX6_namesMore_12 f_RX6_77 (gM_m G) rfl ?_
    refine e_iconst (v := nI 1) m_X6_namesMore dX6_namesMore_15 (by decide) ?_
    refine e_iaddN m_X6_namesMore dX6_namesMore_16 ?_
    refine e_putf (v := .int (nI ((m_at s1) + 1))) (h' := TM h0 (w_at s1 ((m_at s1) + 1))) m_X6_namesMore dX6_namesMore_17 f_RX6_77 (gM_m G) (Nat.le_of_ble_eq_true rfl) (fit_i rfl) rfl (hpL_set (k := 10) (by decide) (Nat.le_of_ble_eq_true rfl)) ?_
    refine e_st hN (fun s3 hN => ?_)
    refine e_aload_n m_X6_namesMore dX6_namesMore_20 rfl rfl rfl ?_
    refine e_iload_n m_X6_namesMore dX6_namesMore_21 rfl rfl ?_
    refine e_cvN (as := [.int (nI x1)]) hN m_X6_namesMore dX6_namesMore_22 c_RX6_130 (by decide) rfl rfl (gM_m G) rfl (Nat.le_of_ble_eq_true rfl) (Nat.le_of_ble_eq_true rfl) (by omega) (w_X6_name G (by omega)) (fun v4 s4 hN => ?_)
    refine e_pop m_X6_namesMore dX6_namesMore_25 rfl ?_
    refine e_aload_n m_X6_namesMore dX6_namesMore_26 rfl rfl rfl ?_
    refine e_bipush (v := nI 30) m_X6_namesMore dX6_namesMore_27 (by decide) ?_
    refine e_iload_n m_X6_namesMore dX6_namesMore_29 rfl rfl ?_
    refine e_iconst (v := nI 0) m_X6_namesMore dX6_namesMore_30 (by decide) ?_
    refine e_cvU (as := [.int (nI 30), .int (nI x1), .int (nI 0)]) hN m_X6_namesMore dX6_namesMore_31 c_RX6_106 (by decide) rfl rfl (gM_m G) rfl (Nat.le_of_ble_eq_true rfl) (Nat.le_of_ble_eq_true rfl) (by omega) (w_X6_push G (by omega)) (fun v5 s5 hN => ?_)
    exact e_ret0 m_X6_namesMore dX6_namesMore_34
  · exact e_ret0 m_X6_namesMore dX6_namesMore_9

def b_X6_exprsMore  (x1 : Nat) (x2 : Nat) (s : Mm) : Rs Mm := bn (b_X6_look  s) (fun v1 s1 => ife v1 84 (st1 (w_at s1 ((m_at s1) + 1)) (fun s3 => bn (b_X6_push 32 x1 x2 s3) (fun v4 s4 => bn (b_X6_expression x1 (x2 &&& 1) 1 s4) (fun v5 s5 => okR 0 s5)))) (okR 0 s1))
theorem w_X6_exprsMore {xs : Nat → Int32} {L : Nat} {h0 : mm_H} (G : Mg h0) {x1 : Nat} {x2 : Nat} {s : Mm} {d : Nat} (hd : 12 ≤ d) (hN : b_X6_exprsMore  x1 x2 s ≠ none) : Rn xs L d 178 [.ref 10, .int (nI x1), .int (nI x2)] (TM h0 s) (ou eU (TM h0) (b_X6_exprsMore  x1 x2 s)) := by
  unfold Rn
  unfold b_X6_exprsMore at hN ⊢
  refine e_aload_n m_X6_exprsMore dX6_exprsMore_0 rfl rfl rfl ?_
  refine e_cvN (as := []) hN m_X6_exprsMore dX6_exprsMore_1 c_RX6_83 (by decide) rfl rfl (gM_m G) rfl (Nat.le_of_ble_eq_true rfl) (Nat.le_of_ble_eq_true rfl) (by omega) (w_X6_look G (by omega)) (fun v1 s1 hN => ?_)
  refine e_bipush (v := nI 84) m_X6_exprsMore dX6_exprsMore_4 (by decide) ?_
  refine e_ieq (t := 10) (a := v1) (b := 84) hN m_X6_exprsMore dX6_exprsMore_6 (by decide) (fun q2 hN => ?_) (fun q2 hN => ?_)
  · refine e_aload_n m_X6_exprsMore dX6_exprsMore_10 rfl rfl rfl ?_
    refine e_dup m_X6_exprsMore dX6_exprsMore_11 rfl ?_
    refine e_getf m_X6_exprsMore dX6_exprsMore_12 f_RX6_77 (gM_m G) rfl ?_
    refine e_iconst (v := nI 1) m_X6_exprsMore dX6_exprsMore_15 (by decide) ?_
    refine e_iaddN m_X6_exprsMore dX6_exprsMore_16 ?_
    refine e_putf (v := .int (nI ((m_at s1) + 1))) (h' := TM h0 (w_at s1 ((m_at s1) + 1))) m_X6_exprsMore dX6_exprsMore_17 f_RX6_77 (gM_m G) (Nat.le_of_ble_eq_true rfl) (fit_i rfl) rfl (hpL_set (k := 10) (by decide) (Nat.le_of_ble_eq_true rfl)) ?_
    refine e_st hN (fun s3 hN => ?_)
    refine e_aload_n m_X6_exprsMore dX6_exprsMore_20 rfl rfl rfl ?_
    refine e_bipush (v := nI 32) m_X6_exprsMore dX6_exprsMore_21 (by decide) ?_
    refine e_iload_n m_X6_exprsMore dX6_exprsMore_23 rfl rfl ?_
    refine e_iload_n m_X6_exprsMore dX6_exprsMore_24 rfl rfl ?_
    refine e_cvU (as := [.int (nI 32), .int (nI x1), .int (nI x2)]) hN m_X6_exprsMore dX6_exprsMore_25 c_RX6_106 (by decide) rfl rfl (gM_m G) rfl (Nat.le_of_ble_eq_true rfl) (Nat.le_of_ble_eq_true rfl) (by omega) (w_X6_push G (by omega)) (fun v4 s4 hN => ?_)
    refine e_aload_n m_X6_exprsMore dX6_exprsMore_28 rfl rfl rfl ?_
    refine e_iload_n m_X6_exprsMore dX6_exprsMore_29 rfl rfl ?_
    refine e_iload_n m_X6_exprsMore dX6_exprsMore_30 rfl rfl ?_
    refine e_iconst (v := nI 1) m_X6_exprsMore dX6_exprsMore_31 (by decide) ?_
    refine e_iandN m_X6_exprsMore dX6_exprsMore_32 ?_
    refine e_iconst (v := nI 1) m_X6_exprsMore dX6_exprsMore_33 (by decide) ?_
    refine e_cvU (as := [.int (nI x1), .int (nI (x2 &&& 1)), .int (nI 1)]) hN m_X6_exprsMore dX6_exprsMore_34 c_RX6_117 (by decide) rfl rfl (gM_m G) rfl (Nat.le_of_ble_eq_true rfl) (Nat.le_of_ble_eq_true rfl) (by omega) (w_X6_expression G (by omega)) (fun v5 s5 hN => ?_)
    exact e_ret0 m_X6_exprsMore dX6_exprsMore_37
  · exact e_ret0 m_X6_exprsMore dX6_exprsMore_9

def b_X6_spec  (x1 : Nat) (x2 : Nat) (s : Mm) : Rs Mm := bn (b_X6_child x1 (x2 + 3) (m_at s) s) (fun v1 s1 => ife x2 7 (bn (b_X6_name v1 s1) (fun v3 s3 => bn (b_X6_push 18 v1 0 s3) (fun v4 s4 => okR 0 s4))) (ife x2 6 (bn (b_X6_push 36 v1 0 s1) (fun v6 s6 => bn (b_X6_push 29 v1 0 s6) (fun v7 s7 => okR 0 s7))) (bn (b_X6_push 37 v1 0 s1) (fun v8 s8 => bn (b_X6_push 29 v1 0 s8) (fun v9 s9 => okR 0 s9)))))
theorem w_X6_spec {xs : Nat → Int32} {L : Nat} {h0 : mm_H} (G : Mg h0) {x1 : Nat} {x2 : Nat} {s : Mm} {d : Nat} (hd : 12 ≤ d) (hN : b_X6_spec  x1 x2 s ≠ none) : Rn xs L d 179 [.ref 10, .int (nI x1), .int (nI x2)] (TM h0 s) (ou eU (TM h0) (b_X6_spec  x1 x2 s)) := by
  unfold Rn
  unfold b_X6_spec at hN ⊢
  refine e_aload_n m_X6_spec dX6_spec_0 rfl rfl rfl ?_
  refine e_iload_n m_X6_spec dX6_spec_1 rfl rfl ?_
  refine e_iload_n m_X6_spec dX6_spec_2 rfl rfl ?_
  refine e_iconst (v := nI 3) m_X6_spec dX6_spec_3 (by decide) ?_
  refine e_iaddN m_X6_spec dX6_spec_4 ?_
  refine e_aload_n m_X6_spec dX6_spec_5 rfl rfl rfl ?_
  refine e_getf m_X6_spec dX6_spec_6 f_RX6_77 (gM_m G) rfl ?_
  refine e_cvN (as := [.int (nI x1), .int (nI (x2 + 3)), .int (nI (m_at s))]) hN m_X6_spec dX6_spec_9 c_RX6_99 (by decide) rfl rfl (gM_m G) rfl (Nat.le_of_ble_eq_true rfl) (Nat.le_of_ble_eq_true rfl) (by omega) (w_X6_child G (by omega)) (fun v1 s1 hN => ?_)
  refine e_istore_n m_X6_spec dX6_spec_12 rfl (by decide) rfl ?_
  refine e_iload_n m_X6_spec dX6_spec_13 rfl rfl ?_
  refine e_bipush (v := nI 7) m_X6_spec dX6_spec_14 (by decide) ?_
  refine e_ine (t := 34) (a := x2) (b := 7) hN m_X6_spec dX6_spec_16 (by decide) (fun q2 hN => ?_) (fun q2 hN => ?_)
  · refine e_aload_n m_X6_spec dX6_spec_19 rfl rfl rfl ?_
    refine e_iload_n m_X6_spec dX6_spec_20 rfl rfl ?_
    refine e_cvN (as := [.int (nI v1)]) hN m_X6_spec dX6_spec_21 c_RX6_130 (by decide) rfl rfl (gM_m G) rfl (Nat.le_of_ble_eq_true rfl) (Nat.le_of_ble_eq_true rfl) (by omega) (w_X6_name G (by omega)) (fun v3 s3 hN => ?_)
    refine e_pop m_X6_spec dX6_spec_24 rfl ?_
    refine e_aload_n m_X6_spec dX6_spec_25 rfl rfl rfl ?_
    refine e_bipush (v := nI 18) m_X6_spec dX6_spec_26 (by decide) ?_
    refine e_iload_n m_X6_spec dX6_spec_28 rfl rfl ?_
    refine e_iconst (v := nI 0) m_X6_spec dX6_spec_29 (by decide) ?_
    refine e_cvU (as := [.int (nI 18), .int (nI v1), .int (nI 0)]) hN m_X6_spec dX6_spec_30 c_RX6_106 (by decide) rfl rfl (gM_m G) rfl (Nat.le_of_ble_eq_true rfl) (Nat.le_of_ble_eq_true rfl) (by omega) (w_X6_push G (by omega)) (fun v4 s4 hN => ?_)
    exact e_ret0 m_X6_spec dX6_spec_33
  · refine e_aload_n m_X6_spec dX6_spec_34 rfl rfl rfl ?_
    refine e_iload_n m_X6_spec dX6_spec_35 rfl rfl ?_
    refine e_bipush (v := nI 6) m_X6_spec dX6_spec_36 (by decide) ?_
    refine e_ine (t := 46) (a := x2) (b := 6) hN m_X6_spec dX6_spec_38 (by decide) (fun q5 hN => ?_) (fun q5 hN => ?_)
    · refine e_bipush (v := nI 36) m_X6_spec dX6_spec_41 (by decide) ?_
      refine e_goto (t := 48) m_X6_spec dX6_spec_43 (by decide) ?_
      refine e_iload_n m_X6_spec dX6_spec_48 rfl rfl ?_
      refine e_iconst (v := nI 0) m_X6_spec dX6_spec_49 (by decide) ?_
      refine e_cvU (as := [.int (nI 36), .int (nI v1), .int (nI 0)]) hN m_X6_spec dX6_spec_50 c_RX6_106 (by decide) rfl rfl (gM_m G) rfl (Nat.le_of_ble_eq_true rfl) (Nat.le_of_ble_eq_true rfl) (by omega) (w_X6_push G (by omega)) (fun v6 s6 hN => ?_)
      refine e_aload_n m_X6_spec dX6_spec_53 rfl rfl rfl ?_
      refine e_bipush (v := nI 29) m_X6_spec dX6_spec_54 (by decide) ?_
      refine e_iload_n m_X6_spec dX6_spec_56 rfl rfl ?_
      refine e_iconst (v := nI 0) m_X6_spec dX6_spec_57 (by decide) ?_
      refine e_cvU (as := [.int (nI 29), .int (nI v1), .int (nI 0)]) hN m_X6_spec dX6_spec_58 c_RX6_106 (by decide) rfl rfl (gM_m G) rfl (Nat.le_of_ble_eq_true rfl) (Nat.le_of_ble_eq_true rfl) (by omega) (w_X6_push G (by omega)) (fun v7 s7 hN => ?_)
      exact e_ret0 m_X6_spec dX6_spec_61
    · refine e_bipush (v := nI 37) m_X6_spec dX6_spec_46 (by decide) ?_
      refine e_iload_n m_X6_spec dX6_spec_48 rfl rfl ?_
      refine e_iconst (v := nI 0) m_X6_spec dX6_spec_49 (by decide) ?_
      refine e_cvU (as := [.int (nI 37), .int (nI v1), .int (nI 0)]) hN m_X6_spec dX6_spec_50 c_RX6_106 (by decide) rfl rfl (gM_m G) rfl (Nat.le_of_ble_eq_true rfl) (Nat.le_of_ble_eq_true rfl) (by omega) (w_X6_push G (by omega)) (fun v8 s8 hN => ?_)
      refine e_aload_n m_X6_spec dX6_spec_53 rfl rfl rfl ?_
      refine e_bipush (v := nI 29) m_X6_spec dX6_spec_54 (by decide) ?_
      refine e_iload_n m_X6_spec dX6_spec_56 rfl rfl ?_
      refine e_iconst (v := nI 0) m_X6_spec dX6_spec_57 (by decide) ?_
      refine e_cvU (as := [.int (nI 29), .int (nI v1), .int (nI 0)]) hN m_X6_spec dX6_spec_58 c_RX6_106 (by decide) rfl rfl (gM_m G) rfl (Nat.le_of_ble_eq_true rfl) (Nat.le_of_ble_eq_true rfl) (by omega) (w_X6_push G (by omega)) (fun v9 s9 hN => ?_)
      exact e_ret0 m_X6_spec dX6_spec_61

def b_X6_specsMore  (x1 : Nat) (x2 : Nat) (s : Mm) : Rs Mm := bn (b_X6_look  s) (fun v1 s1 => ife v1 79 (bn (b_X6_push 34 x1 x2 s1) (fun v3 s3 => okR 0 s3)) (bn (b_X6_pass 85 s1) (fun v4 s4 => bn (b_X6_push 34 x1 x2 s4) (fun v5 s5 => okR 0 s5))))
theorem w_X6_specsMore {xs : Nat → Int32} {L : Nat} {h0 : mm_H} (G : Mg h0) {x1 : Nat} {x2 : Nat} {s : Mm} {d : Nat} (hd : 12 ≤ d) (hN : b_X6_specsMore  x1 x2 s ≠ none) : Rn xs L d 181 [.ref 10, .int (nI x1), .int (nI x2)] (TM h0 s) (ou eU (TM h0) (b_X6_specsMore  x1 x2 s)) := by
  unfold Rn
  unfold b_X6_specsMore at hN ⊢
  refine e_aload_n m_X6_specsMore dX6_specsMore_0 rfl rfl rfl ?_
  refine e_cvN (as := []) hN m_X6_specsMore dX6_specsMore_1 c_RX6_83 (by decide) rfl rfl (gM_m G) rfl (Nat.le_of_ble_eq_true rfl) (Nat.le_of_ble_eq_true rfl) (by omega) (w_X6_look G (by omega)) (fun v1 s1 hN => ?_)
  refine e_bipush (v := nI 79) m_X6_specsMore dX6_specsMore_4 (by decide) ?_
  refine e_ieq (t := 15) (a := v1) (b := 79) hN m_X6_specsMore dX6_specsMore_6 (by decide) (fun q2 hN => ?_) (fun q2 hN => ?_)
  · refine e_aload_n m_X6_specsMore dX6_specsMore_15 rfl rfl rfl ?_
    refine e_bipush (v := nI 34) m_X6_specsMore dX6_specsMore_16 (by decide) ?_
    refine e_iload_n m_X6_specsMore dX6_specsMore_18 rfl rfl ?_
    refine e_iload_n m_X6_specsMore dX6_specsMore_19 rfl rfl ?_
    refine e_cvU (as := [.int (nI 34), .int (nI x1), .int (nI x2)]) hN m_X6_specsMore dX6_specsMore_20 c_RX6_106 (by decide) rfl rfl (gM_m G) rfl (Nat.le_of_ble_eq_true rfl) (Nat.le_of_ble_eq_true rfl) (by omega) (w_X6_push G (by omega)) (fun v3 s3 hN => ?_)
    exact e_ret0 m_X6_specsMore dX6_specsMore_23
  · refine e_aload_n m_X6_specsMore dX6_specsMore_9 rfl rfl rfl ?_
    refine e_bipush (v := nI 85) m_X6_specsMore dX6_specsMore_10 (by decide) ?_
    refine e_cvU (as := [.int (nI 85)]) hN m_X6_specsMore dX6_specsMore_12 c_RX6_141 (by decide) rfl rfl (gM_m G) rfl (Nat.le_of_ble_eq_true rfl) (Nat.le_of_ble_eq_true rfl) (by omega) (w_X6_pass G (by omega)) (fun v4 s4 hN => ?_)
    refine e_aload_n m_X6_specsMore dX6_specsMore_15 rfl rfl rfl ?_
    refine e_bipush (v := nI 34) m_X6_specsMore dX6_specsMore_16 (by decide) ?_
    refine e_iload_n m_X6_specsMore dX6_specsMore_18 rfl rfl ?_
    refine e_iload_n m_X6_specsMore dX6_specsMore_19 rfl rfl ?_
    refine e_cvU (as := [.int (nI 34), .int (nI x1), .int (nI x2)]) hN m_X6_specsMore dX6_specsMore_20 c_RX6_106 (by decide) rfl rfl (gM_m G) rfl (Nat.le_of_ble_eq_true rfl) (Nat.le_of_ble_eq_true rfl) (by omega) (w_X6_push G (by omega)) (fun v5 s5 hN => ?_)
    exact e_ret0 m_X6_specsMore dX6_specsMore_23

def b_X6_exprs  (x1 : Nat) (x2 : Nat) (s : Mm) : Rs Mm := bn (b_X6_child x1 13 (m_at s) s) (fun v1 s1 => bn (b_X6_push 32 v1 (x2 &&& 1) s1) (fun v2 s2 => bn (b_X6_expression v1 (x2 &&& 1) 1 s2) (fun v3 s3 => okR 0 s3)))
theorem w_X6_exprs {xs : Nat → Int32} {L : Nat} {h0 : mm_H} (G : Mg h0) {x1 : Nat} {x2 : Nat} {s : Mm} {d : Nat} (hd : 12 ≤ d) (hN : b_X6_exprs  x1 x2 s ≠ none) : Rn xs L d 184 [.ref 10, .int (nI x1), .int (nI x2)] (TM h0 s) (ou eU (TM h0) (b_X6_exprs  x1 x2 s)) := by
  unfold Rn
  unfold b_X6_exprs at hN ⊢
  refine e_aload_n m_X6_exprs dX6_exprs_0 rfl rfl rfl ?_
  refine e_iload_n m_X6_exprs dX6_exprs_1 rfl rfl ?_
  refine e_bipush (v := nI 13) m_X6_exprs dX6_exprs_2 (by decide) ?_
  refine e_aload_n m_X6_exprs dX6_exprs_4 rfl rfl rfl ?_
  refine e_getf m_X6_exprs dX6_exprs_5 f_RX6_77 (gM_m G) rfl ?_
  refine e_cvN (as := [.int (nI x1), .int (nI 13), .int (nI (m_at s))]) hN m_X6_exprs dX6_exprs_8 c_RX6_99 (by decide) rfl rfl (gM_m G) rfl (Nat.le_of_ble_eq_true rfl) (Nat.le_of_ble_eq_true rfl) (by omega) (w_X6_child G (by omega)) (fun v1 s1 hN => ?_)
  refine e_istore_n m_X6_exprs dX6_exprs_11 rfl (by decide) rfl ?_
  refine e_aload_n m_X6_exprs dX6_exprs_12 rfl rfl rfl ?_
  refine e_bipush (v := nI 32) m_X6_exprs dX6_exprs_13 (by decide) ?_
  refine e_iload_n m_X6_exprs dX6_exprs_15 rfl rfl ?_
  refine e_iload_n m_X6_exprs dX6_exprs_16 rfl rfl ?_
  refine e_iconst (v := nI 1) m_X6_exprs dX6_exprs_17 (by decide) ?_
  refine e_iandN m_X6_exprs dX6_exprs_18 ?_
  refine e_cvU (as := [.int (nI 32), .int (nI v1), .int (nI (x2 &&& 1))]) hN m_X6_exprs dX6_exprs_19 c_RX6_106 (by decide) rfl rfl (gM_m G) rfl (Nat.le_of_ble_eq_true rfl) (Nat.le_of_ble_eq_true rfl) (by omega) (w_X6_push G (by omega)) (fun v2 s2 hN => ?_)
  refine e_aload_n m_X6_exprs dX6_exprs_22 rfl rfl rfl ?_
  refine e_iload_n m_X6_exprs dX6_exprs_23 rfl rfl ?_
  refine e_iload_n m_X6_exprs dX6_exprs_24 rfl rfl ?_
  refine e_iconst (v := nI 1) m_X6_exprs dX6_exprs_25 (by decide) ?_
  refine e_iandN m_X6_exprs dX6_exprs_26 ?_
  refine e_iconst (v := nI 1) m_X6_exprs dX6_exprs_27 (by decide) ?_
  refine e_cvU (as := [.int (nI v1), .int (nI (x2 &&& 1)), .int (nI 1)]) hN m_X6_exprs dX6_exprs_28 c_RX6_117 (by decide) rfl rfl (gM_m G) rfl (Nat.le_of_ble_eq_true rfl) (Nat.le_of_ble_eq_true rfl) (by omega) (w_X6_expression G (by omega)) (fun v3 s3 hN => ?_)
  exact e_ret0 m_X6_exprs dX6_exprs_31

def b_X6_declaration  (x1 : Nat) (s : Mm) : Rs Mm := bn (b_X6_look  s) (fun v1 s1 => ife v1 13 (bn (b_X6_child x1 6 (m_at s1) s1) (fun v3 s3 => st1 (w_at s3 ((m_at s3) + 1)) (fun s4 => bn (b_X6_look  s4) (fun v5 s5 => ife v5 78 (bn (b_X6_more  s5) (fun v7 s7 => st1 (w_at s7 ((m_at s7) + 1)) (fun s8 => bn (b_X6_push 34 v3 6 s8) (fun v9 s9 => okR 0 s9)))) (bn (b_X6_push 33 v3 6 s5) (fun v10 s10 => okR 0 s10)))))) (bn (b_X6_look  s1) (fun v11 s11 => ife v11 33 (bn (b_X6_child x1 7 (m_at s11) s11) (fun v13 s13 => st1 (w_at s13 ((m_at s13) + 1)) (fun s14 => bn (b_X6_look  s14) (fun v15 s15 => ife v15 78 (bn (b_X6_more  s15) (fun v17 s17 => st1 (w_at s17 ((m_at s17) + 1)) (fun s18 => bn (b_X6_push 34 v13 7 s18) (fun v19 s19 => okR 0 s19)))) (bn (b_X6_push 33 v13 7 s15) (fun v20 s20 => okR 0 s20)))))) (bn (b_X6_child x1 8 (m_at s11) s11) (fun v21 s21 => st1 (w_at s21 ((m_at s21) + 1)) (fun s22 => bn (b_X6_look  s22) (fun v23 s23 => ife v23 78 (bn (b_X6_more  s23) (fun v25 s25 => st1 (w_at s25 ((m_at s25) + 1)) (fun s26 => bn (b_X6_push 34 v21 8 s26) (fun v27 s27 => okR 0 s27)))) (bn (b_X6_push 33 v21 8 s23) (fun v28 s28 => okR 0 s28)))))))))
theorem w_X6_declaration {xs : Nat → Int32} {L : Nat} {h0 : mm_H} (G : Mg h0) {x1 : Nat} {s : Mm} {d : Nat} (hd : 12 ≤ d) (hN : b_X6_declaration  x1 s ≠ none) : Rn xs L d 190 [.ref 10, .int (nI x1)] (TM h0 s) (ou eU (TM h0) (b_X6_declaration  x1 s)) := by
  unfold Rn
  unfold b_X6_declaration at hN ⊢
  refine e_aload_n m_X6_declaration dX6_declaration_0 rfl rfl rfl ?_
  refine e_cvN (as := []) hN m_X6_declaration dX6_declaration_1 c_RX6_83 (by decide) rfl rfl (gM_m G) rfl (Nat.le_of_ble_eq_true rfl) (Nat.le_of_ble_eq_true rfl) (by omega) (w_X6_look G (by omega)) (fun v1 s1 hN => ?_)
  refine e_bipush (v := nI 13) m_X6_declaration dX6_declaration_4 (by decide) ?_
  refine e_ine (t := 14) (a := v1) (b := 13) hN m_X6_declaration dX6_declaration_6 (by decide) (fun q2 hN => ?_) (fun q2 hN => ?_)
  · refine e_bipush (v := nI 6) m_X6_declaration dX6_declaration_9 (by decide) ?_
    refine e_goto (t := 30) m_X6_declaration dX6_declaration_11 (by decide) ?_
    refine e_istore_n m_X6_declaration dX6_declaration_30 rfl (by decide) rfl ?_
    refine e_aload_n m_X6_declaration dX6_declaration_31 rfl rfl rfl ?_
    refine e_iload_n m_X6_declaration dX6_declaration_32 rfl rfl ?_
    refine e_iload_n m_X6_declaration dX6_declaration_33 rfl rfl ?_
    refine e_aload_n m_X6_declaration dX6_declaration_34 rfl rfl rfl ?_
    refine e_getf m_X6_declaration dX6_declaration_35 f_RX6_77 (gM_m G) rfl ?_
    refine e_cvN (as := [.int (nI x1), .int (nI 6), .int (nI (m_at s1))]) hN m_X6_declaration dX6_declaration_38 c_RX6_99 (by decide) rfl rfl (gM_m G) rfl (Nat.le_of_ble_eq_true rfl) (Nat.le_of_ble_eq_true rfl) (by omega) (w_X6_child G (by omega)) (fun v3 s3 hN => ?_)
    refine e_istore_n m_X6_declaration dX6_declaration_41 rfl (by decide) rfl ?_
    refine e_aload_n m_X6_declaration dX6_declaration_42 rfl rfl rfl ?_
    refine e_dup m_X6_declaration dX6_declaration_43 rfl ?_
    refine e_getf m_X6_declaration dX6_declaration_44 f_RX6_77 (gM_m G) rfl ?_
    refine e_iconst (v := nI 1) m_X6_declaration dX6_declaration_47 (by decide) ?_
    refine e_iaddN m_X6_declaration dX6_declaration_48 ?_
    refine e_putf (v := .int (nI ((m_at s3) + 1))) (h' := TM h0 (w_at s3 ((m_at s3) + 1))) m_X6_declaration dX6_declaration_49 f_RX6_77 (gM_m G) (Nat.le_of_ble_eq_true rfl) (fit_i rfl) rfl (hpL_set (k := 10) (by decide) (Nat.le_of_ble_eq_true rfl)) ?_
    refine e_st hN (fun s4 hN => ?_)
    refine e_aload_n m_X6_declaration dX6_declaration_52 rfl rfl rfl ?_
    refine e_cvN (as := []) hN m_X6_declaration dX6_declaration_53 c_RX6_83 (by decide) rfl rfl (gM_m G) rfl (Nat.le_of_ble_eq_true rfl) (Nat.le_of_ble_eq_true rfl) (by omega) (w_X6_look G (by omega)) (fun v5 s5 hN => ?_)
    refine e_bipush (v := nI 78) m_X6_declaration dX6_declaration_56 (by decide) ?_
    refine e_ieq (t := 70) (a := v5) (b := 78) hN m_X6_declaration dX6_declaration_58 (by decide) (fun q6 hN => ?_) (fun q6 hN => ?_)
    · refine e_aload_n m_X6_declaration dX6_declaration_70 rfl rfl rfl ?_
      refine e_cvU (as := []) hN m_X6_declaration dX6_declaration_71 c_RX6_123 (by decide) rfl rfl (gM_m G) rfl (Nat.le_of_ble_eq_true rfl) (Nat.le_of_ble_eq_true rfl) (by omega) (w_X6_more G (by omega)) (fun v7 s7 hN => ?_)
      refine e_aload_n m_X6_declaration dX6_declaration_74 rfl rfl rfl ?_
      refine e_dup m_X6_declaration dX6_declaration_75 rfl ?_
      refine e_getf m_X6_declaration dX6_declaration_76 f_RX6_77 (gM_m G) rfl ?_
      refine e_iconst (v := nI 1) m_X6_declaration dX6_declaration_79 (by decide) ?_
      refine e_iaddN m_X6_declaration dX6_declaration_80 ?_
      refine e_putf (v := .int (nI ((m_at s7) + 1))) (h' := TM h0 (w_at s7 ((m_at s7) + 1))) m_X6_declaration dX6_declaration_81 f_RX6_77 (gM_m G) (Nat.le_of_ble_eq_true rfl) (fit_i rfl) rfl (hpL_set (k := 10) (by decide) (Nat.le_of_ble_eq_true rfl)) ?_
      refine e_st hN (fun s8 hN => ?_)
      refine e_aload_n m_X6_declaration dX6_declaration_84 rfl rfl rfl ?_
      refine e_bipush (v := nI 34) m_X6_declaration dX6_declaration_85 (by decide) ?_
      refine e_iload_n m_X6_declaration dX6_declaration_87 rfl rfl ?_
      refine e_iload_n m_X6_declaration dX6_declaration_88 rfl rfl ?_
      refine e_cvU (as := [.int (nI 34), .int (nI v3), .int (nI 6)]) hN m_X6_declaration dX6_declaration_89 c_RX6_106 (by decide) rfl rfl (gM_m G) rfl (Nat.le_of_ble_eq_true rfl) (Nat.le_of_ble_eq_true rfl) (by omega) (w_X6_push G (by omega)) (fun v9 s9 hN => ?_)
      exact e_ret0 m_X6_declaration dX6_declaration_92
    · refine e_aload_n m_X6_declaration dX6_declaration_61 rfl rfl rfl ?_
      refine e_bipush (v := nI 33) m_X6_declaration dX6_declaration_62 (by decide) ?_
      refine e_iload_n m_X6_declaration dX6_declaration_64 rfl rfl ?_
      refine e_iload_n m_X6_declaration dX6_declaration_65 rfl rfl ?_
      refine e_cvU (as := [.int (nI 33), .int (nI v3), .int (nI 6)]) hN m_X6_declaration dX6_declaration_66 c_RX6_106 (by decide) rfl rfl (gM_m G) rfl (Nat.le_of_ble_eq_true rfl) (Nat.le_of_ble_eq_true rfl) (by omega) (w_X6_push G (by omega)) (fun v10 s10 hN => ?_)
      exact e_ret0 m_X6_declaration dX6_declaration_69
  · refine e_aload_n m_X6_declaration dX6_declaration_14 rfl rfl rfl ?_
    refine e_cvN (as := []) hN m_X6_declaration dX6_declaration_15 c_RX6_83 (by decide) rfl rfl (gM_m G) rfl (Nat.le_of_ble_eq_true rfl) (Nat.le_of_ble_eq_true rfl) (by omega) (w_X6_look G (by omega)) (fun v11 s11 hN => ?_)
    refine e_bipush (v := nI 33) m_X6_declaration dX6_declaration_18 (by decide) ?_
    refine e_ine (t := 28) (a := v11) (b := 33) hN m_X6_declaration dX6_declaration_20 (by decide) (fun q12 hN => ?_) (fun q12 hN => ?_)
    · refine e_bipush (v := nI 7) m_X6_declaration dX6_declaration_23 (by decide) ?_
      refine e_goto (t := 30) m_X6_declaration dX6_declaration_25 (by decide) ?_
      refine e_istore_n m_X6_declaration dX6_declaration_30 rfl (by decide) rfl ?_
      refine e_aload_n m_X6_declaration dX6_declaration_31 rfl rfl rfl ?_
      refine e_iload_n m_X6_declaration dX6_declaration_32 rfl rfl ?_
      refine e_iload_n m_X6_declaration dX6_declaration_33 rfl rfl ?_
      refine e_aload_n m_X6_declaration dX6_declaration_34 rfl rfl rfl ?_
      refine e_getf m_X6_declaration dX6_declaration_35 f_RX6_77 (gM_m G) rfl ?_
      refine e_cvN (as := [.int (nI x1), .int (nI 7), .int (nI (m_at s11))]) hN m_X6_declaration dX6_declaration_38 c_RX6_99 (by decide) rfl rfl (gM_m G) rfl (Nat.le_of_ble_eq_true rfl) (Nat.le_of_ble_eq_true rfl) (by omega) (w_X6_child G (by omega)) (fun v13 s13 hN => ?_)
      refine e_istore_n m_X6_declaration dX6_declaration_41 rfl (by decide) rfl ?_
      refine e_aload_n m_X6_declaration dX6_declaration_42 rfl rfl rfl ?_
      refine e_dup m_X6_declaration dX6_declaration_43 rfl ?_
      refine e_getf m_X6_declaration dX6_declaration_44 f_RX6_77 (gM_m G) rfl ?_
      refine e_iconst (v := nI 1) m_X6_declaration dX6_declaration_47 (by decide) ?_
      refine e_iaddN m_X6_declaration dX6_declaration_48 ?_
      refine e_putf (v := .int (nI ((m_at s13) + 1))) (h' := TM h0 (w_at s13 ((m_at s13) + 1))) m_X6_declaration dX6_declaration_49 f_RX6_77 (gM_m G) (Nat.le_of_ble_eq_true rfl) (fit_i rfl) rfl (hpL_set (k := 10) (by decide) (Nat.le_of_ble_eq_true rfl)) ?_
      refine e_st hN (fun s14 hN => ?_)
      refine e_aload_n m_X6_declaration dX6_declaration_52 rfl rfl rfl ?_
      refine e_cvN (as := []) hN m_X6_declaration dX6_declaration_53 c_RX6_83 (by decide) rfl rfl (gM_m G) rfl (Nat.le_of_ble_eq_true rfl) (Nat.le_of_ble_eq_true rfl) (by omega) (w_X6_look G (by omega)) (fun v15 s15 hN => ?_)
      refine e_bipush (v := nI 78) m_X6_declaration dX6_declaration_56 (by decide) ?_
      refine e_ieq (t := 70) (a := v15) (b := 78) hN m_X6_declaration dX6_declaration_58 (by decide) (fun q16 hN => ?_) (fun q16 hN => ?_)
      · refine e_aload_n m_X6_declaration dX6_declaration_70 rfl rfl rfl ?_
        refine e_cvU (as := []) hN m_X6_declaration dX6_declaration_71 c_RX6_123 (by decide) rfl rfl (gM_m G) rfl (Nat.le_of_ble_eq_true rfl) (Nat.le_of_ble_eq_true rfl) (by omega) (w_X6_more G (by omega)) (fun v17 s17 hN => ?_)
        refine e_aload_n m_X6_declaration dX6_declaration_74 rfl rfl rfl ?_
        refine e_dup m_X6_declaration dX6_declaration_75 rfl ?_
        refine e_getf m_X6_declaration dX6_declaration_76 f_RX6_77 (gM_m G) rfl ?_
        refine e_iconst (v := nI 1) m_X6_declaration dX6_declaration_79 (by decide) ?_
        refine e_iaddN m_X6_declaration dX6_declaration_80 ?_
        refine e_putf (v := .int (nI ((m_at s17) + 1))) (h' := TM h0 (w_at s17 ((m_at s17) + 1))) m_X6_declaration dX6_declaration_81 f_RX6_77 (gM_m G) (Nat.le_of_ble_eq_true rfl) (fit_i rfl) rfl (hpL_set (k := 10) (by decide) (Nat.le_of_ble_eq_true rfl)) ?_
        refine e_st hN (fun s18 hN => ?_)
        refine e_aload_n m_X6_declaration dX6_declaration_84 rfl rfl rfl ?_
        refine e_bipush (v := nI 34) m_X6_declaration dX6_declaration_85 (by decide) ?_
        refine e_iload_n m_X6_declaration dX6_declaration_87 rfl rfl ?_
        refine e_iload_n m_X6_declaration dX6_declaration_88 rfl rfl ?_
        refine e_cvU (as := [.int (nI 34), .int (nI v13), .int (nI 7)]) hN m_X6_declaration dX6_declaration_89 c_RX6_106 (by decide) rfl rfl (gM_m G) rfl (Nat.le_of_ble_eq_true rfl) (Nat.le_of_ble_eq_true rfl) (by omega) (w_X6_push G (by omega)) (fun v19 s19 hN => ?_)
        exact e_ret0 m_X6_declaration dX6_declaration_92
      · refine e_aload_n m_X6_declaration dX6_declaration_61 rfl rfl rfl ?_
        refine e_bipush (v := nI 33) m_X6_declaration dX6_declaration_62 (by decide) ?_
        refine e_iload_n m_X6_declaration dX6_declaration_64 rfl rfl ?_
        refine e_iload_n m_X6_declaration dX6_declaration_65 rfl rfl ?_
        refine e_cvU (as := [.int (nI 33), .int (nI v13), .int (nI 7)]) hN m_X6_declaration dX6_declaration_66 c_RX6_106 (by decide) rfl rfl (gM_m G) rfl (Nat.le_of_ble_eq_true rfl) (Nat.le_of_ble_eq_true rfl) (by omega) (w_X6_push G (by omega)) (fun v20 s20 hN => ?_)
        exact e_ret0 m_X6_declaration dX6_declaration_69
    · refine e_bipush (v := nI 8) m_X6_declaration dX6_declaration_28 (by decide) ?_
      refine e_istore_n m_X6_declaration dX6_declaration_30 rfl (by decide) rfl ?_
      refine e_aload_n m_X6_declaration dX6_declaration_31 rfl rfl rfl ?_
      refine e_iload_n m_X6_declaration dX6_declaration_32 rfl rfl ?_
      refine e_iload_n m_X6_declaration dX6_declaration_33 rfl rfl ?_
      refine e_aload_n m_X6_declaration dX6_declaration_34 rfl rfl rfl ?_
      refine e_getf m_X6_declaration dX6_declaration_35 f_RX6_77 (gM_m G) rfl ?_
      refine e_cvN (as := [.int (nI x1), .int (nI 8), .int (nI (m_at s11))]) hN m_X6_declaration dX6_declaration_38 c_RX6_99 (by decide) rfl rfl (gM_m G) rfl (Nat.le_of_ble_eq_true rfl) (Nat.le_of_ble_eq_true rfl) (by omega) (w_X6_child G (by omega)) (fun v21 s21 hN => ?_)
      refine e_istore_n m_X6_declaration dX6_declaration_41 rfl (by decide) rfl ?_
      refine e_aload_n m_X6_declaration dX6_declaration_42 rfl rfl rfl ?_
      refine e_dup m_X6_declaration dX6_declaration_43 rfl ?_
      refine e_getf m_X6_declaration dX6_declaration_44 f_RX6_77 (gM_m G) rfl ?_
      refine e_iconst (v := nI 1) m_X6_declaration dX6_declaration_47 (by decide) ?_
      refine e_iaddN m_X6_declaration dX6_declaration_48 ?_
      refine e_putf (v := .int (nI ((m_at s21) + 1))) (h' := TM h0 (w_at s21 ((m_at s21) + 1))) m_X6_declaration dX6_declaration_49 f_RX6_77 (gM_m G) (Nat.le_of_ble_eq_true rfl) (fit_i rfl) rfl (hpL_set (k := 10) (by decide) (Nat.le_of_ble_eq_true rfl)) ?_
      refine e_st hN (fun s22 hN => ?_)
      refine e_aload_n m_X6_declaration dX6_declaration_52 rfl rfl rfl ?_
      refine e_cvN (as := []) hN m_X6_declaration dX6_declaration_53 c_RX6_83 (by decide) rfl rfl (gM_m G) rfl (Nat.le_of_ble_eq_true rfl) (Nat.le_of_ble_eq_true rfl) (by omega) (w_X6_look G (by omega)) (fun v23 s23 hN => ?_)
      refine e_bipush (v := nI 78) m_X6_declaration dX6_declaration_56 (by decide) ?_
      refine e_ieq (t := 70) (a := v23) (b := 78) hN m_X6_declaration dX6_declaration_58 (by decide) (fun q24 hN => ?_) (fun q24 hN => ?_)
      · refine e_aload_n m_X6_declaration dX6_declaration_70 rfl rfl rfl ?_
        refine e_cvU (as := []) hN m_X6_declaration dX6_declaration_71 c_RX6_123 (by decide) rfl rfl (gM_m G) rfl (Nat.le_of_ble_eq_true rfl) (Nat.le_of_ble_eq_true rfl) (by omega) (w_X6_more G (by omega)) (fun v25 s25 hN => ?_)
        refine e_aload_n m_X6_declaration dX6_declaration_74 rfl rfl rfl ?_
        refine e_dup m_X6_declaration dX6_declaration_75 rfl ?_
        refine e_getf m_X6_declaration dX6_declaration_76 f_RX6_77 (gM_m G) rfl ?_
        refine e_iconst (v := nI 1) m_X6_declaration dX6_declaration_79 (by decide) ?_
        refine e_iaddN m_X6_declaration dX6_declaration_80 ?_
        refine e_putf (v := .int (nI ((m_at s25) + 1))) (h' := TM h0 (w_at s25 ((m_at s25) + 1))) m_X6_declaration dX6_declaration_81 f_RX6_77 (gM_m G) (Nat.le_of_ble_eq_true rfl) (fit_i rfl) rfl (hpL_set (k := 10) (by decide) (Nat.le_of_ble_eq_true rfl)) ?_
        refine e_st hN (fun s26 hN => ?_)
        refine e_aload_n m_X6_declaration dX6_declaration_84 rfl rfl rfl ?_
        refine e_bipush (v := nI 34) m_X6_declaration dX6_declaration_85 (by decide) ?_
        refine e_iload_n m_X6_declaration dX6_declaration_87 rfl rfl ?_
        refine e_iload_n m_X6_declaration dX6_declaration_88 rfl rfl ?_
        refine e_cvU (as := [.int (nI 34), .int (nI v21), .int (nI 8)]) hN m_X6_declaration dX6_declaration_89 c_RX6_106 (by decide) rfl rfl (gM_m G) rfl (Nat.le_of_ble_eq_true rfl) (Nat.le_of_ble_eq_true rfl) (by omega) (w_X6_push G (by omega)) (fun v27 s27 hN => ?_)
        exact e_ret0 m_X6_declaration dX6_declaration_92
      · refine e_aload_n m_X6_declaration dX6_declaration_61 rfl rfl rfl ?_
        refine e_bipush (v := nI 33) m_X6_declaration dX6_declaration_62 (by decide) ?_
        refine e_iload_n m_X6_declaration dX6_declaration_64 rfl rfl ?_
        refine e_iload_n m_X6_declaration dX6_declaration_65 rfl rfl ?_
        refine e_cvU (as := [.int (nI 33), .int (nI v21), .int (nI 8)]) hN m_X6_declaration dX6_declaration_66 c_RX6_106 (by decide) rfl rfl (gM_m G) rfl (Nat.le_of_ble_eq_true rfl) (Nat.le_of_ble_eq_true rfl) (by omega) (w_X6_push G (by omega)) (fun v28 s28 hN => ?_)
        exact e_ret0 m_X6_declaration dX6_declaration_69

def b_X6_ifs  (x1 : Nat) (s : Mm) : Rs Mm := bn (b_X6_child x1 60 (m_at s) s) (fun v1 s1 => st1 (w_at s1 ((m_at s1) + 1)) (fun s2 => bn (b_X6_push 45 v1 0 s2) (fun v3 s3 => bn (b_X6_push 38 v1 0 s3) (fun v4 s4 => bn (b_X6_look  s4) (fun v5 s5 => ife v5 85 (bn (b_X6_child v1 61 (m_at s5) s5) (fun v7 s7 => st1 (w_at s7 ((m_at s7) + 1)) (fun s8 => bn (b_X6_expression v1 1 1 s8) (fun v9 s9 => okR 0 s9)))) (bn (b_X6_push 44 v1 0 s5) (fun v10 s10 => bn (b_X6_push 41 v1 1 s10) (fun v11 s11 => okR 0 s11))))))))
theorem w_X6_ifs {xs : Nat → Int32} {L : Nat} {h0 : mm_H} (G : Mg h0) {x1 : Nat} {s : Mm} {d : Nat} (hd : 12 ≤ d) (hN : b_X6_ifs  x1 s ≠ none) : Rn xs L d 191 [.ref 10, .int (nI x1)] (TM h0 s) (ou eU (TM h0) (b_X6_ifs  x1 s)) := by
  unfold Rn
  unfold b_X6_ifs at hN ⊢
  refine e_aload_n m_X6_ifs dX6_ifs_0 rfl rfl rfl ?_
  refine e_iload_n m_X6_ifs dX6_ifs_1 rfl rfl ?_
  refine e_bipush (v := nI 60) m_X6_ifs dX6_ifs_2 (by decide) ?_
  refine e_aload_n m_X6_ifs dX6_ifs_4 rfl rfl rfl ?_
  refine e_getf m_X6_ifs dX6_ifs_5 f_RX6_77 (gM_m G) rfl ?_
  refine e_cvN (as := [.int (nI x1), .int (nI 60), .int (nI (m_at s))]) hN m_X6_ifs dX6_ifs_8 c_RX6_99 (by decide) rfl rfl (gM_m G) rfl (Nat.le_of_ble_eq_true rfl) (Nat.le_of_ble_eq_true rfl) (by omega) (w_X6_child G (by omega)) (fun v1 s1 hN => ?_)
  refine e_istore_n m_X6_ifs dX6_ifs_11 rfl (by decide) rfl ?_
  refine e_aload_n m_X6_ifs dX6_ifs_12 rfl rfl rfl ?_
  refine e_dup m_X6_ifs dX6_ifs_13 rfl ?_
  refine e_getf m_X6_ifs dX6_ifs_14 f_RX6_77 (gM_m G) rfl ?_
  refine e_iconst (v := nI 1) m_X6_ifs dX6_ifs_17 (by decide) ?_
  refine e_iaddN m_X6_ifs dX6_ifs_18 ?_
  refine e_putf (v := .int (nI ((m_at s1) + 1))) (h' := TM h0 (w_at s1 ((m_at s1) + 1))) m_X6_ifs dX6_ifs_19 f_RX6_77 (gM_m G) (Nat.le_of_ble_eq_true rfl) (fit_i rfl) rfl (hpL_set (k := 10) (by decide) (Nat.le_of_ble_eq_true rfl)) ?_
  refine e_st hN (fun s2 hN => ?_)
  refine e_aload_n m_X6_ifs dX6_ifs_22 rfl rfl rfl ?_
  refine e_bipush (v := nI 45) m_X6_ifs dX6_ifs_23 (by decide) ?_
  refine e_iload_n m_X6_ifs dX6_ifs_25 rfl rfl ?_
  refine e_iconst (v := nI 0) m_X6_ifs dX6_ifs_26 (by decide) ?_
  refine e_cvU (as := [.int (nI 45), .int (nI v1), .int (nI 0)]) hN m_X6_ifs dX6_ifs_27 c_RX6_106 (by decide) rfl rfl (gM_m G) rfl (Nat.le_of_ble_eq_true rfl) (Nat.le_of_ble_eq_true rfl) (by omega) (w_X6_push G (by omega)) (fun v3 s3 hN => ?_)
  refine e_aload_n m_X6_ifs dX6_ifs_30 rfl rfl rfl ?_
  refine e_bipush (v := nI 38) m_X6_ifs dX6_ifs_31 (by decide) ?_
  refine e_iload_n m_X6_ifs dX6_ifs_33 rfl rfl ?_
  refine e_iconst (v := nI 0) m_X6_ifs dX6_ifs_34 (by decide) ?_
  refine e_cvU (as := [.int (nI 38), .int (nI v1), .int (nI 0)]) hN m_X6_ifs dX6_ifs_35 c_RX6_106 (by decide) rfl rfl (gM_m G) rfl (Nat.le_of_ble_eq_true rfl) (Nat.le_of_ble_eq_true rfl) (by omega) (w_X6_push G (by omega)) (fun v4 s4 hN => ?_)
  refine e_aload_n m_X6_ifs dX6_ifs_38 rfl rfl rfl ?_
  refine e_cvN (as := []) hN m_X6_ifs dX6_ifs_39 c_RX6_83 (by decide) rfl rfl (gM_m G) rfl (Nat.le_of_ble_eq_true rfl) (Nat.le_of_ble_eq_true rfl) (by omega) (w_X6_look G (by omega)) (fun v5 s5 hN => ?_)
  refine e_bipush (v := nI 85) m_X6_ifs dX6_ifs_42 (by decide) ?_
  refine e_ine (t := 77) (a := v5) (b := 85) hN m_X6_ifs dX6_ifs_44 (by decide) (fun q6 hN => ?_) (fun q6 hN => ?_)
  · refine e_aload_n m_X6_ifs dX6_ifs_47 rfl rfl rfl ?_
    refine e_iload_n m_X6_ifs dX6_ifs_48 rfl rfl ?_
    refine e_bipush (v := nI 61) m_X6_ifs dX6_ifs_49 (by decide) ?_
    refine e_aload_n m_X6_ifs dX6_ifs_51 rfl rfl rfl ?_
    refine e_getf m_X6_ifs dX6_ifs_52 f_RX6_77 (gM_m G) rfl ?_
    refine e_cvN (as := [.int (nI v1), .int (nI 61), .int (nI (m_at s5))]) hN m_X6_ifs dX6_ifs_55 c_RX6_99 (by decide) rfl rfl (gM_m G) rfl (Nat.le_of_ble_eq_true rfl) (Nat.le_of_ble_eq_true rfl) (by omega) (w_X6_child G (by omega)) (fun v7 s7 hN => ?_)
    refine e_pop m_X6_ifs dX6_ifs_58 rfl ?_
    refine e_aload_n m_X6_ifs dX6_ifs_59 rfl rfl rfl ?_
    refine e_dup m_X6_ifs dX6_ifs_60 rfl ?_
    refine e_getf m_X6_ifs dX6_ifs_61 f_RX6_77 (gM_m G) rfl ?_
    refine e_iconst (v := nI 1) m_X6_ifs dX6_ifs_64 (by decide) ?_
    refine e_iaddN m_X6_ifs dX6_ifs_65 ?_
    refine e_putf (v := .int (nI ((m_at s7) + 1))) (h' := TM h0 (w_at s7 ((m_at s7) + 1))) m_X6_ifs dX6_ifs_66 f_RX6_77 (gM_m G) (Nat.le_of_ble_eq_true rfl) (fit_i rfl) rfl (hpL_set (k := 10) (by decide) (Nat.le_of_ble_eq_true rfl)) ?_
    refine e_st hN (fun s8 hN => ?_)
    refine e_aload_n m_X6_ifs dX6_ifs_69 rfl rfl rfl ?_
    refine e_iload_n m_X6_ifs dX6_ifs_70 rfl rfl ?_
    refine e_iconst (v := nI 1) m_X6_ifs dX6_ifs_71 (by decide) ?_
    refine e_iconst (v := nI 1) m_X6_ifs dX6_ifs_72 (by decide) ?_
    refine e_cvU (as := [.int (nI v1), .int (nI 1), .int (nI 1)]) hN m_X6_ifs dX6_ifs_73 c_RX6_117 (by decide) rfl rfl (gM_m G) rfl (Nat.le_of_ble_eq_true rfl) (Nat.le_of_ble_eq_true rfl) (by omega) (w_X6_expression G (by omega)) (fun v9 s9 hN => ?_)
    exact e_ret0 m_X6_ifs dX6_ifs_76
  · refine e_aload_n m_X6_ifs dX6_ifs_77 rfl rfl rfl ?_
    refine e_bipush (v := nI 44) m_X6_ifs dX6_ifs_78 (by decide) ?_
    refine e_iload_n m_X6_ifs dX6_ifs_80 rfl rfl ?_
    refine e_iconst (v := nI 0) m_X6_ifs dX6_ifs_81 (by decide) ?_
    refine e_cvU (as := [.int (nI 44), .int (nI v1), .int (nI 0)]) hN m_X6_ifs dX6_ifs_82 c_RX6_106 (by decide) rfl rfl (gM_m G) rfl (Nat.le_of_ble_eq_true rfl) (Nat.le_of_ble_eq_true rfl) (by omega) (w_X6_push G (by omega)) (fun v10 s10 hN => ?_)
    refine e_aload_n m_X6_ifs dX6_ifs_85 rfl rfl rfl ?_
    refine e_bipush (v := nI 41) m_X6_ifs dX6_ifs_86 (by decide) ?_
    refine e_iload_n m_X6_ifs dX6_ifs_88 rfl rfl ?_
    refine e_iconst (v := nI 1) m_X6_ifs dX6_ifs_89 (by decide) ?_
    refine e_cvU (as := [.int (nI 41), .int (nI v1), .int (nI 1)]) hN m_X6_ifs dX6_ifs_90 c_RX6_106 (by decide) rfl rfl (gM_m G) rfl (Nat.le_of_ble_eq_true rfl) (Nat.le_of_ble_eq_true rfl) (by omega) (w_X6_push G (by omega)) (fun v11 s11 hN => ?_)
    exact e_ret0 m_X6_ifs dX6_ifs_93

def b_X6_condition  (x1 : Nat) (s : Mm) : Rs Mm := bn (b_X6_child x1 64 (m_at s) s) (fun v1 s1 => bn (b_X6_push 48 x1 v1 s1) (fun v2 s2 => bn (b_X6_look  s2) (fun v3 s3 => ife v3 85 (okR 0 s3) (bn (b_X6_expression v1 1 1 s3) (fun v5 s5 => okR 0 s5)))))
theorem w_X6_condition {xs : Nat → Int32} {L : Nat} {h0 : mm_H} (G : Mg h0) {x1 : Nat} {s : Mm} {d : Nat} (hd : 12 ≤ d) (hN : b_X6_condition  x1 s ≠ none) : Rn xs L d 193 [.ref 10, .int (nI x1)] (TM h0 s) (ou eU (TM h0) (b_X6_condition  x1 s)) := by
  unfold Rn
  unfold b_X6_condition at hN ⊢
  refine e_aload_n m_X6_condition dX6_condition_0 rfl rfl rfl ?_
  refine e_iload_n m_X6_condition dX6_condition_1 rfl rfl ?_
  refine e_bipush (v := nI 64) m_X6_condition dX6_condition_2 (by decide) ?_
  refine e_aload_n m_X6_condition dX6_condition_4 rfl rfl rfl ?_
  refine e_getf m_X6_condition dX6_condition_5 f_RX6_77 (gM_m G) rfl ?_
  refine e_cvN (as := [.int (nI x1), .int (nI 64), .int (nI (m_at s))]) hN m_X6_condition dX6_condition_8 c_RX6_99 (by decide) rfl rfl (gM_m G) rfl (Nat.le_of_ble_eq_true rfl) (Nat.le_of_ble_eq_true rfl) (by omega) (w_X6_child G (by omega)) (fun v1 s1 hN => ?_)
  refine e_istore_n m_X6_condition dX6_condition_11 rfl (by decide) rfl ?_
  refine e_aload_n m_X6_condition dX6_condition_12 rfl rfl rfl ?_
  refine e_bipush (v := nI 48) m_X6_condition dX6_condition_13 (by decide) ?_
  refine e_iload_n m_X6_condition dX6_condition_15 rfl rfl ?_
  refine e_iload_n m_X6_condition dX6_condition_16 rfl rfl ?_
  refine e_cvU (as := [.int (nI 48), .int (nI x1), .int (nI v1)]) hN m_X6_condition dX6_condition_17 c_RX6_106 (by decide) rfl rfl (gM_m G) rfl (Nat.le_of_ble_eq_true rfl) (Nat.le_of_ble_eq_true rfl) (by omega) (w_X6_push G (by omega)) (fun v2 s2 hN => ?_)
  refine e_aload_n m_X6_condition dX6_condition_20 rfl rfl rfl ?_
  refine e_cvN (as := []) hN m_X6_condition dX6_condition_21 c_RX6_83 (by decide) rfl rfl (gM_m G) rfl (Nat.le_of_ble_eq_true rfl) (Nat.le_of_ble_eq_true rfl) (by omega) (w_X6_look G (by omega)) (fun v3 s3 hN => ?_)
  refine e_bipush (v := nI 85) m_X6_condition dX6_condition_24 (by decide) ?_
  refine e_ieq (t := 36) (a := v3) (b := 85) hN m_X6_condition dX6_condition_26 (by decide) (fun q4 hN => ?_) (fun q4 hN => ?_)
  · exact e_ret0 m_X6_condition dX6_condition_36
  · refine e_aload_n m_X6_condition dX6_condition_29 rfl rfl rfl ?_
    refine e_iload_n m_X6_condition dX6_condition_30 rfl rfl ?_
    refine e_iconst (v := nI 1) m_X6_condition dX6_condition_31 (by decide) ?_
    refine e_iconst (v := nI 1) m_X6_condition dX6_condition_32 (by decide) ?_
    refine e_cvU (as := [.int (nI v1), .int (nI 1), .int (nI 1)]) hN m_X6_condition dX6_condition_33 c_RX6_117 (by decide) rfl rfl (gM_m G) rfl (Nat.le_of_ble_eq_true rfl) (Nat.le_of_ble_eq_true rfl) (by omega) (w_X6_expression G (by omega)) (fun v5 s5 hN => ?_)
    exact e_ret0 m_X6_condition dX6_condition_36

def b_X6_body  (x1 : Nat) (x2 : Nat) (s : Mm) : Rs Mm := bn (b_X6_look  s) (fun v1 s1 => ife v1 82 (bn (b_X6_more  s1) (fun v3 s3 => st1 (w_at s3 ((m_at s3) + 1)) (fun s4 => bn (b_X6_push 51 x1 x2 s4) (fun v5 s5 => okR 0 s5)))) (bn (b_X6_error  s1) (fun v6 s6 => okR 0 s6)))
theorem w_X6_body {xs : Nat → Int32} {L : Nat} {h0 : mm_H} (G : Mg h0) {x1 : Nat} {x2 : Nat} {s : Mm} {d : Nat} (hd : 12 ≤ d) (hN : b_X6_body  x1 x2 s ≠ none) : Rn xs L d 195 [.ref 10, .int (nI x1), .int (nI x2)] (TM h0 s) (ou eU (TM h0) (b_X6_body  x1 x2 s)) := by
  unfold Rn
  unfold b_X6_body at hN ⊢
  refine e_aload_n m_X6_body dX6_body_0 rfl rfl rfl ?_
  refine e_cvN (as := []) hN m_X6_body dX6_body_1 c_RX6_83 (by decide) rfl rfl (gM_m G) rfl (Nat.le_of_ble_eq_true rfl) (Nat.le_of_ble_eq_true rfl) (by omega) (w_X6_look G (by omega)) (fun v1 s1 hN => ?_)
  refine e_bipush (v := nI 82) m_X6_body dX6_body_4 (by decide) ?_
  refine e_ieq (t := 14) (a := v1) (b := 82) hN m_X6_body dX6_body_6 (by decide) (fun q2 hN => ?_) (fun q2 hN => ?_)
  · refine e_aload_n m_X6_body dX6_body_14 rfl rfl rfl ?_
    refine e_cvU (as := []) hN m_X6_body dX6_body_15 c_RX6_123 (by decide) rfl rfl (gM_m G) rfl (Nat.le_of_ble_eq_true rfl) (Nat.le_of_ble_eq_true rfl) (by omega) (w_X6_more G (by omega)) (fun v3 s3 hN => ?_)
    refine e_aload_n m_X6_body dX6_body_18 rfl rfl rfl ?_
    refine e_dup m_X6_body dX6_body_19 rfl ?_
    refine e_getf m_X6_body dX6_body_20 f_RX6_77 (gM_m G) rfl ?_
    refine e_iconst (v := nI 1) m_X6_body dX6_body_23 (by decide) ?_
    refine e_iaddN m_X6_body dX6_body_24 ?_
    refine e_putf (v := .int (nI ((m_at s3) + 1))) (h' := TM h0 (w_at s3 ((m_at s3) + 1))) m_X6_body dX6_body_25 f_RX6_77 (gM_m G) (Nat.le_of_ble_eq_true rfl) (fit_i rfl) rfl (hpL_set (k := 10) (by decide) (Nat.le_of_ble_eq_true rfl)) ?_
    refine e_st hN (fun s4 hN => ?_)
    refine e_aload_n m_X6_body dX6_body_28 rfl rfl rfl ?_
    refine e_bipush (v := nI 51) m_X6_body dX6_body_29 (by decide) ?_
    refine e_iload_n m_X6_body dX6_body_31 rfl rfl ?_
    refine e_iload_n m_X6_body dX6_body_32 rfl rfl ?_
    refine e_cvU (as := [.int (nI 51), .int (nI x1), .int (nI x2)]) hN m_X6_body dX6_body_33 c_RX6_106 (by decide) rfl rfl (gM_m G) rfl (Nat.le_of_ble_eq_true rfl) (Nat.le_of_ble_eq_true rfl) (by omega) (w_X6_push G (by omega)) (fun v5 s5 hN => ?_)
    exact e_ret0 m_X6_body dX6_body_36
  · refine e_aload_n m_X6_body dX6_body_9 rfl rfl rfl ?_
    refine e_cvU (as := []) hN m_X6_body dX6_body_10 c_RX6_87 (by decide) rfl rfl (gM_m G) rfl (Nat.le_of_ble_eq_true rfl) (Nat.le_of_ble_eq_true rfl) (by omega) (w_X6_error G (by omega)) (fun v6 s6 hN => ?_)
    exact e_ret0 m_X6_body dX6_body_13

def b_X6_simple  (x1 : Nat) (x2 : Nat) (s : Mm) : Rs Mm := bn (b_X6_push 42 x1 (x2 ||| ((m_at s) * 256)) s) (fun v1 s1 => ck (x2 < 2147483648) (ifz (f_X6_has x2 8) (bn (b_X6_expression x1 ((x2 &&& 1) ||| 0) 1 s1) (fun v4 s4 => okR 0 s4)) (bn (b_X6_expression x1 ((x2 &&& 1) ||| 2) 1 s1) (fun v5 s5 => okR 0 s5))))
theorem w_X6_simple {xs : Nat → Int32} {L : Nat} {h0 : mm_H} (G : Mg h0) {x1 : Nat} {x2 : Nat} {s : Mm} {d : Nat} (hd : 12 ≤ d) (hN : b_X6_simple  x1 x2 s ≠ none) : Rn xs L d 200 [.ref 10, .int (nI x1), .int (nI x2)] (TM h0 s) (ou eU (TM h0) (b_X6_simple  x1 x2 s)) := by
  unfold Rn
  unfold b_X6_simple at hN ⊢
  refine e_aload_n m_X6_simple dX6_simple_0 rfl rfl rfl ?_
  refine e_bipush (v := nI 42) m_X6_simple dX6_simple_1 (by decide) ?_
  refine e_iload_n m_X6_simple dX6_simple_3 rfl rfl ?_
  refine e_iload_n m_X6_simple dX6_simple_4 rfl rfl ?_
  refine e_aload_n m_X6_simple dX6_simple_5 rfl rfl rfl ?_
  refine e_getf m_X6_simple dX6_simple_6 f_RX6_77 (gM_m G) rfl ?_
  refine e_bipush (v := nI 8) m_X6_simple dX6_simple_9 (by decide) ?_
  refine e_ishl8 m_X6_simple dX6_simple_11 ?_
  refine e_iorN m_X6_simple dX6_simple_12 ?_
  refine e_cvU (as := [.int (nI 42), .int (nI x1), .int (nI (x2 ||| ((m_at s) * 256)))]) hN m_X6_simple dX6_simple_13 c_RX6_106 (by decide) rfl rfl (gM_m G) rfl (Nat.le_of_ble_eq_true rfl) (Nat.le_of_ble_eq_true rfl) (by omega) (w_X6_push G (by omega)) (fun v1 s1 hN => ?_)
  refine e_aload_n m_X6_simple dX6_simple_16 rfl rfl rfl ?_
  refine e_iload_n m_X6_simple dX6_simple_17 rfl rfl ?_
  refine e_iload_n m_X6_simple dX6_simple_18 rfl rfl ?_
  refine e_iconst (v := nI 1) m_X6_simple dX6_simple_19 (by decide) ?_
  refine e_iandN m_X6_simple dX6_simple_20 ?_
  refine e_iload_n m_X6_simple dX6_simple_21 rfl rfl ?_
  refine e_bipush (v := nI 8) m_X6_simple dX6_simple_22 (by decide) ?_
  refine e_ck hN (fun q2 hN => ?_)
  refine e_cs (as := [_, _]) m_X6_simple dX6_simple_24 c_RX6_133 (by decide) rfl rfl (Nat.le_of_ble_eq_true rfl) (Nat.le_of_ble_eq_true rfl) (by omega) (z_X6_has q2 (by decide) (by omega)) ?_
  refine e_ifeq (t := 34) hN m_X6_simple dX6_simple_27 (by decide) (fun q3 hN => ?_) (fun q3 hN => ?_)
  · refine e_iconst (v := nI 0) m_X6_simple dX6_simple_34 (by decide) ?_
    refine e_iorN m_X6_simple dX6_simple_35 ?_
    refine e_iconst (v := nI 1) m_X6_simple dX6_simple_36 (by decide) ?_
    refine e_cvU (as := [.int (nI x1), .int (nI ((x2 &&& 1) ||| 0)), .int (nI 1)]) hN m_X6_simple dX6_simple_37 c_RX6_117 (by decide) rfl rfl (gM_m G) rfl (Nat.le_of_ble_eq_true rfl) (Nat.le_of_ble_eq_true rfl) (by omega) (w_X6_expression G (by omega)) (fun v4 s4 hN => ?_)
    exact e_ret0 m_X6_simple dX6_simple_40
  · refine e_iconst (v := nI 2) m_X6_simple dX6_simple_30 (by decide) ?_
    refine e_goto (t := 35) m_X6_simple dX6_simple_31 (by decide) ?_
    refine e_iorN m_X6_simple dX6_simple_35 ?_
    refine e_iconst (v := nI 1) m_X6_simple dX6_simple_36 (by decide) ?_
    refine e_cvU (as := [.int (nI x1), .int (nI ((x2 &&& 1) ||| 2)), .int (nI 1)]) hN m_X6_simple dX6_simple_37 c_RX6_117 (by decide) rfl rfl (gM_m G) rfl (Nat.le_of_ble_eq_true rfl) (Nat.le_of_ble_eq_true rfl) (by omega) (w_X6_expression G (by omega)) (fun v5 s5 hN => ?_)
    exact e_ret0 m_X6_simple dX6_simple_40

def b_X6_ranges  (x1 : Nat) (x2 : Nat) (s : Mm) : Rs Mm := ck (x2 < 2147483648) (ifz (f_X6_has x2 4) (okR 0 s) (bn (b_X6_ahead  s) (fun v3 s3 => ife v3 28 (bn (b_X6_look  s3) (fun v5 s5 => ife v5 76 (bn (b_X6_wrap x1 67 (m_at s5) s5) (fun v7 s7 => st1 (w_at s7 ((m_at s7) + 1)) (fun s8 => bn (b_X6_wrap x1 66 (m_at s8) s8) (fun v9 s9 => st1 (w_at s9 ((m_at s9) + 1)) (fun s10 => bn (b_X6_expression v9 1 1 s10) (fun v11 s11 => okR 1 s11)))))) (st1 (w_at s5 ((m_at s5) + 1)) (fun s12 => bn (b_X6_wrap x1 66 (m_at s12) s12) (fun v13 s13 => st1 (w_at s13 ((m_at s13) + 1)) (fun s14 => bn (b_X6_expression v13 1 1 s14) (fun v15 s15 => okR 1 s15))))))) (okR 0 s3))))
theorem w_X6_ranges {xs : Nat → Int32} {L : Nat} {h0 : mm_H} (G : Mg h0) {x1 : Nat} {x2 : Nat} {s : Mm} {d : Nat} (hd : 12 ≤ d) (hN : b_X6_ranges  x1 x2 s ≠ none) : Rn xs L d 203 [.ref 10, .int (nI x1), .int (nI x2)] (TM h0 s) (ou eN (TM h0) (b_X6_ranges  x1 x2 s)) := by
  unfold Rn
  unfold b_X6_ranges at hN ⊢
  refine e_iload_n m_X6_ranges dX6_ranges_0 rfl rfl ?_
  refine e_iconst (v := nI 4) m_X6_ranges dX6_ranges_1 (by decide) ?_
  refine e_ck hN (fun q1 hN => ?_)
  refine e_cs (as := [_, _]) m_X6_ranges dX6_ranges_2 c_RX6_133 (by decide) rfl rfl (Nat.le_of_ble_eq_true rfl) (Nat.le_of_ble_eq_true rfl) (by omega) (z_X6_has q1 (by decide) (by omega)) ?_
  refine e_ifeq (t := 17) hN m_X6_ranges dX6_ranges_5 (by decide) (fun q2 hN => ?_) (fun q2 hN => ?_)
  · refine e_iconst (v := nI 0) m_X6_ranges dX6_ranges_17 (by decide) ?_
    exact e_reti m_X6_ranges dX6_ranges_18 (Or.inr ⟨rfl, by decide⟩)
  · refine e_aload_n m_X6_ranges dX6_ranges_8 rfl rfl rfl ?_
    refine e_cvN (as := []) hN m_X6_ranges dX6_ranges_9 c_RX6_120 (by decide) rfl rfl (gM_m G) rfl (Nat.le_of_ble_eq_true rfl) (Nat.le_of_ble_eq_true rfl) (by omega) (w_X6_ahead G (by omega)) (fun v3 s3 hN => ?_)
    refine e_bipush (v := nI 28) m_X6_ranges dX6_ranges_12 (by decide) ?_
    refine e_ieq (t := 19) (a := v3) (b := 28) hN m_X6_ranges dX6_ranges_14 (by decide) (fun q4 hN => ?_) (fun q4 hN => ?_)
    · refine e_aload_n m_X6_ranges dX6_ranges_19 rfl rfl rfl ?_
      refine e_cvN (as := []) hN m_X6_ranges dX6_ranges_20 c_RX6_83 (by decide) rfl rfl (gM_m G) rfl (Nat.le_of_ble_eq_true rfl) (Nat.le_of_ble_eq_true rfl) (by omega) (w_X6_look G (by omega)) (fun v5 s5 hN => ?_)
      refine e_bipush (v := nI 76) m_X6_ranges dX6_ranges_23 (by decide) ?_
      refine e_ine (t := 40) (a := v5) (b := 76) hN m_X6_ranges dX6_ranges_25 (by decide) (fun q6 hN => ?_) (fun q6 hN => ?_)
      · refine e_aload_n m_X6_ranges dX6_ranges_28 rfl rfl rfl ?_
        refine e_iload_n m_X6_ranges dX6_ranges_29 rfl rfl ?_
        refine e_bipush (v := nI 67) m_X6_ranges dX6_ranges_30 (by decide) ?_
        refine e_aload_n m_X6_ranges dX6_ranges_32 rfl rfl rfl ?_
        refine e_getf m_X6_ranges dX6_ranges_33 f_RX6_77 (gM_m G) rfl ?_
        refine e_cvN (as := [.int (nI x1), .int (nI 67), .int (nI (m_at s5))]) hN m_X6_ranges dX6_ranges_36 c_RX6_114 (by decide) rfl rfl (gM_m G) rfl (Nat.le_of_ble_eq_true rfl) (Nat.le_of_ble_eq_true rfl) (by omega) (w_X6_wrap G (by omega)) (fun v7 s7 hN => ?_)
        refine e_pop m_X6_ranges dX6_ranges_39 rfl ?_
        refine e_aload_n m_X6_ranges dX6_ranges_40 rfl rfl rfl ?_
        refine e_dup m_X6_ranges dX6_ranges_41 rfl ?_
        refine e_getf m_X6_ranges dX6_ranges_42 f_RX6_77 (gM_m G) rfl ?_
        refine e_iconst (v := nI 1) m_X6_ranges dX6_ranges_45 (by decide) ?_
        refine e_iaddN m_X6_ranges dX6_ranges_46 ?_
        refine e_putf (v := .int (nI ((m_at s7) + 1))) (h' := TM h0 (w_at s7 ((m_at s7) + 1))) m_X6_ranges dX6_ranges_47 f_RX6_77 (gM_m G) (Nat.le_of_ble_eq_true rfl) (fit_i rfl) rfl (hpL_set (k := 10) (by decide) (Nat.le_of_ble_eq_true rfl)) ?_
        refine e_st hN (fun s8 hN => ?_)
        refine e_aload_n m_X6_ranges dX6_ranges_50 rfl rfl rfl ?_
        refine e_iload_n m_X6_ranges dX6_ranges_51 rfl rfl ?_
        refine e_bipush (v := nI 66) m_X6_ranges dX6_ranges_52 (by decide) ?_
        refine e_aload_n m_X6_ranges dX6_ranges_54 rfl rfl rfl ?_
        refine e_getf m_X6_ranges dX6_ranges_55 f_RX6_77 (gM_m G) rfl ?_
        refine e_cvN (as := [.int (nI x1), .int (nI 66), .int (nI (m_at s8))]) hN m_X6_ranges dX6_ranges_58 c_RX6_114 (by decide) rfl rfl (gM_m G) rfl (Nat.le_of_ble_eq_true rfl) (Nat.le_of_ble_eq_true rfl) (by omega) (w_X6_wrap G (by omega)) (fun v9 s9 hN => ?_)
        refine e_istore_n m_X6_ranges dX6_ranges_61 rfl (by decide) rfl ?_
        refine e_aload_n m_X6_ranges dX6_ranges_62 rfl rfl rfl ?_
        refine e_dup m_X6_ranges dX6_ranges_63 rfl ?_
        refine e_getf m_X6_ranges dX6_ranges_64 f_RX6_77 (gM_m G) rfl ?_
        refine e_iconst (v := nI 1) m_X6_ranges dX6_ranges_67 (by decide) ?_
        refine e_iaddN m_X6_ranges dX6_ranges_68 ?_
        refine e_putf (v := .int (nI ((m_at s9) + 1))) (h' := TM h0 (w_at s9 ((m_at s9) + 1))) m_X6_ranges dX6_ranges_69 f_RX6_77 (gM_m G) (Nat.le_of_ble_eq_true rfl) (fit_i rfl) rfl (hpL_set (k := 10) (by decide) (Nat.le_of_ble_eq_true rfl)) ?_
        refine e_st hN (fun s10 hN => ?_)
        refine e_aload_n m_X6_ranges dX6_ranges_72 rfl rfl rfl ?_
        refine e_iload_n m_X6_ranges dX6_ranges_73 rfl rfl ?_
        refine e_iconst (v := nI 1) m_X6_ranges dX6_ranges_74 (by decide) ?_
        refine e_iconst (v := nI 1) m_X6_ranges dX6_ranges_75 (by decide) ?_
        refine e_cvU (as := [.int (nI v9), .int (nI 1), .int (nI 1)]) hN m_X6_ranges dX6_ranges_76 c_RX6_117 (by decide) rfl rfl (gM_m G) rfl (Nat.le_of_ble_eq_true rfl) (Nat.le_of_ble_eq_true rfl) (by omega) (w_X6_expression G (by omega)) (fun v11 s11 hN => ?_)
        refine e_iconst (v := nI 1) m_X6_ranges dX6_ranges_79 (by decide) ?_
        exact e_reti m_X6_ranges dX6_ranges_80 (Or.inr ⟨rfl, by decide⟩)
      · refine e_aload_n m_X6_ranges dX6_ranges_40 rfl rfl rfl ?_
        refine e_dup m_X6_ranges dX6_ranges_41 rfl ?_
        refine e_getf m_X6_ranges dX6_ranges_42 f_RX6_77 (gM_m G) rfl ?_
        refine e_iconst (v := nI 1) m_X6_ranges dX6_ranges_45 (by decide) ?_
        refine e_iaddN m_X6_ranges dX6_ranges_46 ?_
        refine e_putf (v := .int (nI ((m_at s5) + 1))) (h' := TM h0 (w_at s5 ((m_at s5) + 1))) m_X6_ranges dX6_ranges_47 f_RX6_77 (gM_m G) (Nat.le_of_ble_eq_true rfl) (fit_i rfl) rfl (hpL_set (k := 10) (by decide) (Nat.le_of_ble_eq_true rfl)) ?_
        refine e_st hN (fun s12 hN => ?_)
        refine e_aload_n m_X6_ranges dX6_ranges_50 rfl rfl rfl ?_
        refine e_iload_n m_X6_ranges dX6_ranges_51 rfl rfl ?_
        refine e_bipush (v := nI 66) m_X6_ranges dX6_ranges_52 (by decide) ?_
        refine e_aload_n m_X6_ranges dX6_ranges_54 rfl rfl rfl ?_
        refine e_getf m_X6_ranges dX6_ranges_55 f_RX6_77 (gM_m G) rfl ?_
        refine e_cvN (as := [.int (nI x1), .int (nI 66), .int (nI (m_at s12))]) hN m_X6_ranges dX6_ranges_58 c_RX6_114 (by decide) rfl rfl (gM_m G) rfl (Nat.le_of_ble_eq_true rfl) (Nat.le_of_ble_eq_true rfl) (by omega) (w_X6_wrap G (by omega)) (fun v13 s13 hN => ?_)
        refine e_istore_n m_X6_ranges dX6_ranges_61 rfl (by decide) rfl ?_
        refine e_aload_n m_X6_ranges dX6_ranges_62 rfl rfl rfl ?_
        refine e_dup m_X6_ranges dX6_ranges_63 rfl ?_
        refine e_getf m_X6_ranges dX6_ranges_64 f_RX6_77 (gM_m G) rfl ?_
        refine e_iconst (v := nI 1) m_X6_ranges dX6_ranges_67 (by decide) ?_
        refine e_iaddN m_X6_ranges dX6_ranges_68 ?_
        refine e_putf (v := .int (nI ((m_at s13) + 1))) (h' := TM h0 (w_at s13 ((m_at s13) + 1))) m_X6_ranges dX6_ranges_69 f_RX6_77 (gM_m G) (Nat.le_of_ble_eq_true rfl) (fit_i rfl) rfl (hpL_set (k := 10) (by decide) (Nat.le_of_ble_eq_true rfl)) ?_
        refine e_st hN (fun s14 hN => ?_)
        refine e_aload_n m_X6_ranges dX6_ranges_72 rfl rfl rfl ?_
        refine e_iload_n m_X6_ranges dX6_ranges_73 rfl rfl ?_
        refine e_iconst (v := nI 1) m_X6_ranges dX6_ranges_74 (by decide) ?_
        refine e_iconst (v := nI 1) m_X6_ranges dX6_ranges_75 (by decide) ?_
        refine e_cvU (as := [.int (nI v13), .int (nI 1), .int (nI 1)]) hN m_X6_ranges dX6_ranges_76 c_RX6_117 (by decide) rfl rfl (gM_m G) rfl (Nat.le_of_ble_eq_true rfl) (Nat.le_of_ble_eq_true rfl) (by omega) (w_X6_expression G (by omega)) (fun v15 s15 hN => ?_)
        refine e_iconst (v := nI 1) m_X6_ranges dX6_ranges_79 (by decide) ?_
        exact e_reti m_X6_ranges dX6_ranges_80 (Or.inr ⟨rfl, by decide⟩)
    · refine e_iconst (v := nI 0) m_X6_ranges dX6_ranges_17 (by decide) ?_
      exact e_reti m_X6_ranges dX6_ranges_18 (Or.inr ⟨rfl, by decide⟩)

def b_X6_right  (x1 : Nat) (x2 : Nat) (x3 : Nat) (s : Mm) : Rs Mm := bn (b_X6_child x1 13 (m_at s) s) (fun v1 s1 => ck (x2 < 2147483648) (ifz (f_X6_has x2 32) (bn (b_X6_push 32 v1 (x2 &&& 1) s1) (fun v4 s4 => bn (b_X6_expression v1 ((x2 &&& 1) ||| x3) 1 s4) (fun v5 s5 => okR 0 s5))) (bn (b_X6_expression v1 ((x2 &&& 1) ||| x3) 1 s1) (fun v6 s6 => okR 0 s6))))
theorem w_X6_right {xs : Nat → Int32} {L : Nat} {h0 : mm_H} (G : Mg h0) {x1 : Nat} {x2 : Nat} {x3 : Nat} {s : Mm} {d : Nat} (hd : 12 ≤ d) (hN : b_X6_right  x1 x2 x3 s ≠ none) : Rn xs L d 204 [.ref 10, .int (nI x1), .int (nI x2), .int (nI x3)] (TM h0 s) (ou eU (TM h0) (b_X6_right  x1 x2 x3 s)) := by
  unfold Rn
  unfold b_X6_right at hN ⊢
  refine e_aload_n m_X6_right dX6_right_0 rfl rfl rfl ?_
  refine e_iload_n m_X6_right dX6_right_1 rfl rfl ?_
  refine e_bipush (v := nI 13) m_X6_right dX6_right_2 (by decide) ?_
  refine e_aload_n m_X6_right dX6_right_4 rfl rfl rfl ?_
  refine e_getf m_X6_right dX6_right_5 f_RX6_77 (gM_m G) rfl ?_
  refine e_cvN (as := [.int (nI x1), .int (nI 13), .int (nI (m_at s))]) hN m_X6_right dX6_right_8 c_RX6_99 (by decide) rfl rfl (gM_m G) rfl (Nat.le_of_ble_eq_true rfl) (Nat.le_of_ble_eq_true rfl) (by omega) (w_X6_child G (by omega)) (fun v1 s1 hN => ?_)
  refine e_istore m_X6_right dX6_right_11 (by decide) rfl ?_
  refine e_iload_n m_X6_right dX6_right_13 rfl rfl ?_
  refine e_bipush (v := nI 32) m_X6_right dX6_right_14 (by decide) ?_
  refine e_ck hN (fun q2 hN => ?_)
  refine e_cs (as := [_, _]) m_X6_right dX6_right_16 c_RX6_133 (by decide) rfl rfl (Nat.le_of_ble_eq_true rfl) (Nat.le_of_ble_eq_true rfl) (by omega) (z_X6_has q2 (by decide) (by omega)) ?_
  refine e_ifne (t := 33) hN m_X6_right dX6_right_19 (by decide) (fun q3 hN => ?_) (fun q3 hN => ?_)
  · refine e_aload_n m_X6_right dX6_right_22 rfl rfl rfl ?_
    refine e_bipush (v := nI 32) m_X6_right dX6_right_23 (by decide) ?_
    refine e_iload m_X6_right dX6_right_25 rfl ?_
    refine e_iload_n m_X6_right dX6_right_27 rfl rfl ?_
    refine e_iconst (v := nI 1) m_X6_right dX6_right_28 (by decide) ?_
    refine e_iandN m_X6_right dX6_right_29 ?_
    refine e_cvU (as := [.int (nI 32), .int (nI v1), .int (nI (x2 &&& 1))]) hN m_X6_right dX6_right_30 c_RX6_106 (by decide) rfl rfl (gM_m G) rfl (Nat.le_of_ble_eq_true rfl) (Nat.le_of_ble_eq_true rfl) (by omega) (w_X6_push G (by omega)) (fun v4 s4 hN => ?_)
    refine e_aload_n m_X6_right dX6_right_33 rfl rfl rfl ?_
    refine e_iload m_X6_right dX6_right_34 rfl ?_
    refine e_iload_n m_X6_right dX6_right_36 rfl rfl ?_
    refine e_iconst (v := nI 1) m_X6_right dX6_right_37 (by decide) ?_
    refine e_iandN m_X6_right dX6_right_38 ?_
    refine e_iload_n m_X6_right dX6_right_39 rfl rfl ?_
    refine e_iorN m_X6_right dX6_right_40 ?_
    refine e_iconst (v := nI 1) m_X6_right dX6_right_41 (by decide) ?_
    refine e_cvU (as := [.int (nI v1), .int (nI ((x2 &&& 1) ||| x3)), .int (nI 1)]) hN m_X6_right dX6_right_42 c_RX6_117 (by decide) rfl rfl (gM_m G) rfl (Nat.le_of_ble_eq_true rfl) (Nat.le_of_ble_eq_true rfl) (by omega) (w_X6_expression G (by omega)) (fun v5 s5 hN => ?_)
    exact e_ret0 m_X6_right dX6_right_45
  · refine e_aload_n m_X6_right dX6_right_33 rfl rfl rfl ?_
    refine e_iload m_X6_right dX6_right_34 rfl ?_
    refine e_iload_n m_X6_right dX6_right_36 rfl rfl ?_
    refine e_iconst (v := nI 1) m_X6_right dX6_right_37 (by decide) ?_
    refine e_iandN m_X6_right dX6_right_38 ?_
    refine e_iload_n m_X6_right dX6_right_39 rfl rfl ?_
    refine e_iorN m_X6_right dX6_right_40 ?_
    refine e_iconst (v := nI 1) m_X6_right dX6_right_41 (by decide) ?_
    refine e_cvU (as := [.int (nI v1), .int (nI ((x2 &&& 1) ||| x3)), .int (nI 1)]) hN m_X6_right dX6_right_42 c_RX6_117 (by decide) rfl rfl (gM_m G) rfl (Nat.le_of_ble_eq_true rfl) (Nat.le_of_ble_eq_true rfl) (by omega) (w_X6_expression G (by omega)) (fun v6 s6 hN => ?_)
    exact e_ret0 m_X6_right dX6_right_45

def b_X6_ifRest  (x1 : Nat) (s : Mm) : Rs Mm := bn (b_X6_look  s) (fun v1 s1 => ife v1 85 (bn (b_X6_wrap x1 61 (m_at s1) s1) (fun v3 s3 => st1 (w_at s3 ((m_at s3) + 1)) (fun s4 => bn (b_X6_expression x1 1 1 s4) (fun v5 s5 => okR 0 s5)))) (ck (x1 < 65536) (ck ((m_la s1 x1) ≠ 0) (ck (((m_la s1 x1) - 1) < 65536) (ife (m_wh s1 ((m_la s1 x1) - 1)) 50 (bn (b_X6_unwrap x1 s1) (fun v10 s10 => okR 0 s10)) (bn (b_X6_error  s1) (fun v11 s11 => okR 0 s11)))))))
theorem w_X6_ifRest {xs : Nat → Int32} {L : Nat} {h0 : mm_H} (G : Mg h0) {x1 : Nat} {s : Mm} {d : Nat} (hd : 12 ≤ d) (hN : b_X6_ifRest  x1 s ≠ none) : Rn xs L d 207 [.ref 10, .int (nI x1)] (TM h0 s) (ou eU (TM h0) (b_X6_ifRest  x1 s)) := by
  unfold Rn
  unfold b_X6_ifRest at hN ⊢
  refine e_aload_n m_X6_ifRest dX6_ifRest_0 rfl rfl rfl ?_
  refine e_cvN (as := []) hN m_X6_ifRest dX6_ifRest_1 c_RX6_83 (by decide) rfl rfl (gM_m G) rfl (Nat.le_of_ble_eq_true rfl) (Nat.le_of_ble_eq_true rfl) (by omega) (w_X6_look G (by omega)) (fun v1 s1 hN => ?_)
  refine e_bipush (v := nI 85) m_X6_ifRest dX6_ifRest_4 (by decide) ?_
  refine e_ine (t := 41) (a := v1) (b := 85) hN m_X6_ifRest dX6_ifRest_6 (by decide) (fun q2 hN => ?_) (fun q2 hN => ?_)
  · refine e_aload_n m_X6_ifRest dX6_ifRest_9 rfl rfl rfl ?_
    refine e_iload_n m_X6_ifRest dX6_ifRest_10 rfl rfl ?_
    refine e_bipush (v := nI 61) m_X6_ifRest dX6_ifRest_11 (by decide) ?_
    refine e_aload_n m_X6_ifRest dX6_ifRest_13 rfl rfl rfl ?_
    refine e_getf m_X6_ifRest dX6_ifRest_14 f_RX6_77 (gM_m G) rfl ?_
    refine e_cvN (as := [.int (nI x1), .int (nI 61), .int (nI (m_at s1))]) hN m_X6_ifRest dX6_ifRest_17 c_RX6_114 (by decide) rfl rfl (gM_m G) rfl (Nat.le_of_ble_eq_true rfl) (Nat.le_of_ble_eq_true rfl) (by omega) (w_X6_wrap G (by omega)) (fun v3 s3 hN => ?_)
    refine e_pop m_X6_ifRest dX6_ifRest_20 rfl ?_
    refine e_aload_n m_X6_ifRest dX6_ifRest_21 rfl rfl rfl ?_
    refine e_dup m_X6_ifRest dX6_ifRest_22 rfl ?_
    refine e_getf m_X6_ifRest dX6_ifRest_23 f_RX6_77 (gM_m G) rfl ?_
    refine e_iconst (v := nI 1) m_X6_ifRest dX6_ifRest_26 (by decide) ?_
    refine e_iaddN m_X6_ifRest dX6_ifRest_27 ?_
    refine e_putf (v := .int (nI ((m_at s3) + 1))) (h' := TM h0 (w_at s3 ((m_at s3) + 1))) m_X6_ifRest dX6_ifRest_28 f_RX6_77 (gM_m G) (Nat.le_of_ble_eq_true rfl) (fit_i rfl) rfl (hpL_set (k := 10) (by decide) (Nat.le_of_ble_eq_true rfl)) ?_
    refine e_st hN (fun s4 hN => ?_)
    refine e_aload_n m_X6_ifRest dX6_ifRest_31 rfl rfl rfl ?_
    refine e_iload_n m_X6_ifRest dX6_ifRest_32 rfl rfl ?_
    refine e_iconst (v := nI 1) m_X6_ifRest dX6_ifRest_33 (by decide) ?_
    refine e_iconst (v := nI 1) m_X6_ifRest dX6_ifRest_34 (by decide) ?_
    refine e_cvU (as := [.int (nI x1), .int (nI 1), .int (nI 1)]) hN m_X6_ifRest dX6_ifRest_35 c_RX6_117 (by decide) rfl rfl (gM_m G) rfl (Nat.le_of_ble_eq_true rfl) (Nat.le_of_ble_eq_true rfl) (by omega) (w_X6_expression G (by omega)) (fun v5 s5 hN => ?_)
    refine e_goto (t := 69) m_X6_ifRest dX6_ifRest_38 (by decide) ?_
    exact e_ret0 m_X6_ifRest dX6_ifRest_69
  · refine e_aload_n m_X6_ifRest dX6_ifRest_41 rfl rfl rfl ?_
    refine e_getf m_X6_ifRest dX6_ifRest_42 f_RX6_14 (gM_m G) rfl ?_
    refine e_aload_n m_X6_ifRest dX6_ifRest_45 rfl rfl rfl ?_
    refine e_getf m_X6_ifRest dX6_ifRest_46 f_RX6_27 (gM_m G) rfl ?_
    refine e_iload_n m_X6_ifRest dX6_ifRest_49 rfl rfl ?_
    refine e_ck hN (fun q6 hN => ?_)
    refine e_aldO q6 (by decide) (Or.inl ⟨rfl, rfl⟩) m_X6_ifRest dX6_ifRest_50 (gM_la G) ?_
    refine e_ck hN (fun q7 hN => ?_)
    rw [oI_p q7]
    refine e_ck hN (fun q8 hN => ?_)
    refine e_aldN q8 (by decide) (Or.inl ⟨rfl, rfl⟩) m_X6_ifRest dX6_ifRest_51 (gM_wh G) ?_
    refine e_bipush (v := nI 50) m_X6_ifRest dX6_ifRest_52 (by decide) ?_
    refine e_ine (t := 65) (a := (m_wh s1 ((m_la s1 x1) - 1))) (b := 50) hN m_X6_ifRest dX6_ifRest_54 (by decide) (fun q9 hN => ?_) (fun q9 hN => ?_)
    · refine e_aload_n m_X6_ifRest dX6_ifRest_57 rfl rfl rfl ?_
      refine e_iload_n m_X6_ifRest dX6_ifRest_58 rfl rfl ?_
      refine e_cvU (as := [.int (nI x1)]) hN m_X6_ifRest dX6_ifRest_59 c_RX6_211 (by decide) rfl rfl (gM_m G) rfl (Nat.le_of_ble_eq_true rfl) (Nat.le_of_ble_eq_true rfl) (by omega) (w_X6_unwrap G (by omega)) (fun v10 s10 hN => ?_)
      refine e_goto (t := 69) m_X6_ifRest dX6_ifRest_62 (by decide) ?_
      exact e_ret0 m_X6_ifRest dX6_ifRest_69
    · refine e_aload_n m_X6_ifRest dX6_ifRest_65 rfl rfl rfl ?_
      refine e_cvU (as := []) hN m_X6_ifRest dX6_ifRest_66 c_RX6_87 (by decide) rfl rfl (gM_m G) rfl (Nat.le_of_ble_eq_true rfl) (Nat.le_of_ble_eq_true rfl) (by omega) (w_X6_error G (by omega)) (fun v11 s11 hN => ?_)
      exact e_ret0 m_X6_ifRest dX6_ifRest_69

def b_X6_function  (x1 : Nat) (s : Mm) : Rs Mm := bn (b_X6_ahead  s) (fun v1 s1 => ife v1 78 (bn (b_X6_child x1 3 (m_at s1) s1) (fun v3 s3 => st1 (w_at s3 ((m_at s3) + 1)) (fun s4 => bn (b_X6_push 38 v3 0 s4) (fun v5 s5 => bn (b_X6_push 21 v3 0 s5) (fun v6 s6 => bn (b_X6_child v3 4 (m_at s6) s6) (fun v7 s7 => bn (b_X6_more  s7) (fun v8 s8 => st1 (w_at s8 ((m_at s8) + 1)) (fun s9 => bn (b_X6_push 57 v3 0 s9) (fun v10 s10 => bn (b_X6_push 8 79 0 s10) (fun v11 s11 => bn (b_X6_push 18 v7 0 s11) (fun v12 s12 => bn (b_X6_look  s12) (fun v13 s13 => ife v13 1 (bn (b_X6_ahead  s13) (fun v15 s15 => ife v15 79 (okR 0 s15) (bn (b_X6_name v7 s15) (fun v17 s17 => okR 0 s17)))) (okR 0 s13))))))))))))) (bn (b_X6_child x1 2 (m_at s1) s1) (fun v18 s18 => st1 (w_at s18 ((m_at s18) + 1)) (fun s19 => bn (b_X6_push 38 v18 0 s19) (fun v20 s20 => bn (b_X6_push 21 v18 0 s20) (fun v21 s21 => bn (b_X6_name v18 s21) (fun v22 s22 => okR 0 s22)))))))
theorem w_X6_function {xs : Nat → Int32} {L : Nat} {h0 : mm_H} (G : Mg h0) {x1 : Nat} {s : Mm} {d : Nat} (hd : 12 ≤ d) (hN : b_X6_function  x1 s ≠ none) : Rn xs L d 217 [.ref 10, .int (nI x1)] (TM h0 s) (ou eU (TM h0) (b_X6_function  x1 s)) := by
  unfold Rn
  unfold b_X6_function at hN ⊢
  refine e_aload_n m_X6_function dX6_function_0 rfl rfl rfl ?_
  refine e_cvN (as := []) hN m_X6_function dX6_function_1 c_RX6_120 (by decide) rfl rfl (gM_m G) rfl (Nat.le_of_ble_eq_true rfl) (Nat.le_of_ble_eq_true rfl) (by omega) (w_X6_ahead G (by omega)) (fun v1 s1 hN => ?_)
  refine e_bipush (v := nI 78) m_X6_function dX6_function_4 (by decide) ?_
  refine e_ine (t := 13) (a := v1) (b := 78) hN m_X6_function dX6_function_6 (by decide) (fun q2 hN => ?_) (fun q2 hN => ?_)
  · refine e_iconst (v := nI 1) m_X6_function dX6_function_9 (by decide) ?_
    refine e_goto (t := 14) m_X6_function dX6_function_10 (by decide) ?_
    refine e_istore_n m_X6_function dX6_function_14 rfl (by decide) rfl ?_
    refine e_aload_n m_X6_function dX6_function_15 rfl rfl rfl ?_
    refine e_iload_n m_X6_function dX6_function_16 rfl rfl ?_
    refine e_iload_n m_X6_function dX6_function_17 rfl rfl ?_
    refine e_ifF (t := 25) m_X6_function dX6_function_18 (by decide) (by decide) ?_
    refine e_iconst (v := nI 3) m_X6_function dX6_function_21 (by decide) ?_
    refine e_goto (t := 26) m_X6_function dX6_function_22 (by decide) ?_
    refine e_aload_n m_X6_function dX6_function_26 rfl rfl rfl ?_
    refine e_getf m_X6_function dX6_function_27 f_RX6_77 (gM_m G) rfl ?_
    refine e_cvN (as := [.int (nI x1), .int (nI 3), .int (nI (m_at s1))]) hN m_X6_function dX6_function_30 c_RX6_99 (by decide) rfl rfl (gM_m G) rfl (Nat.le_of_ble_eq_true rfl) (Nat.le_of_ble_eq_true rfl) (by omega) (w_X6_child G (by omega)) (fun v3 s3 hN => ?_)
    refine e_istore_n m_X6_function dX6_function_33 rfl (by decide) rfl ?_
    refine e_aload_n m_X6_function dX6_function_34 rfl rfl rfl ?_
    refine e_dup m_X6_function dX6_function_35 rfl ?_
    refine e_getf m_X6_function dX6_function_36 f_RX6_77 (gM_m G) rfl ?_
    refine e_iconst (v := nI 1) m_X6_function dX6_function_39 (by decide) ?_
    refine e_iaddN m_X6_function dX6_function_40 ?_
    refine e_putf (v := .int (nI ((m_at s3) + 1))) (h' := TM h0 (w_at s3 ((m_at s3) + 1))) m_X6_function dX6_function_41 f_RX6_77 (gM_m G) (Nat.le_of_ble_eq_true rfl) (fit_i rfl) rfl (hpL_set (k := 10) (by decide) (Nat.le_of_ble_eq_true rfl)) ?_
    refine e_st hN (fun s4 hN => ?_)
    refine e_aload_n m_X6_function dX6_function_44 rfl rfl rfl ?_
    refine e_bipush (v := nI 38) m_X6_function dX6_function_45 (by decide) ?_
    refine e_iload_n m_X6_function dX6_function_47 rfl rfl ?_
    refine e_iconst (v := nI 0) m_X6_function dX6_function_48 (by decide) ?_
    refine e_cvU (as := [.int (nI 38), .int (nI v3), .int (nI 0)]) hN m_X6_function dX6_function_49 c_RX6_106 (by decide) rfl rfl (gM_m G) rfl (Nat.le_of_ble_eq_true rfl) (Nat.le_of_ble_eq_true rfl) (by omega) (w_X6_push G (by omega)) (fun v5 s5 hN => ?_)
    refine e_aload_n m_X6_function dX6_function_52 rfl rfl rfl ?_
    refine e_bipush (v := nI 21) m_X6_function dX6_function_53 (by decide) ?_
    refine e_iload_n m_X6_function dX6_function_55 rfl rfl ?_
    refine e_iconst (v := nI 0) m_X6_function dX6_function_56 (by decide) ?_
    refine e_cvU (as := [.int (nI 21), .int (nI v3), .int (nI 0)]) hN m_X6_function dX6_function_57 c_RX6_106 (by decide) rfl rfl (gM_m G) rfl (Nat.le_of_ble_eq_true rfl) (Nat.le_of_ble_eq_true rfl) (by omega) (w_X6_push G (by omega)) (fun v6 s6 hN => ?_)
    refine e_iload_n m_X6_function dX6_function_60 rfl rfl ?_
    refine e_ifT (t := 71) m_X6_function dX6_function_61 (by decide) (by decide) ?_
    refine e_aload_n m_X6_function dX6_function_71 rfl rfl rfl ?_
    refine e_iload_n m_X6_function dX6_function_72 rfl rfl ?_
    refine e_iconst (v := nI 4) m_X6_function dX6_function_73 (by decide) ?_
    refine e_aload_n m_X6_function dX6_function_74 rfl rfl rfl ?_
    refine e_getf m_X6_function dX6_function_75 f_RX6_77 (gM_m G) rfl ?_
    refine e_cvN (as := [.int (nI v3), .int (nI 4), .int (nI (m_at s6))]) hN m_X6_function dX6_function_78 c_RX6_99 (by decide) rfl rfl (gM_m G) rfl (Nat.le_of_ble_eq_true rfl) (Nat.le_of_ble_eq_true rfl) (by omega) (w_X6_child G (by omega)) (fun v7 s7 hN => ?_)
    refine e_istore m_X6_function dX6_function_81 (by decide) rfl ?_
    refine e_aload_n m_X6_function dX6_function_83 rfl rfl rfl ?_
    refine e_cvU (as := []) hN m_X6_function dX6_function_84 c_RX6_123 (by decide) rfl rfl (gM_m G) rfl (Nat.le_of_ble_eq_true rfl) (Nat.le_of_ble_eq_true rfl) (by omega) (w_X6_more G (by omega)) (fun v8 s8 hN => ?_)
    refine e_aload_n m_X6_function dX6_function_87 rfl rfl rfl ?_
    refine e_dup m_X6_function dX6_function_88 rfl ?_
    refine e_getf m_X6_function dX6_function_89 f_RX6_77 (gM_m G) rfl ?_
    refine e_iconst (v := nI 1) m_X6_function dX6_function_92 (by decide) ?_
    refine e_iaddN m_X6_function dX6_function_93 ?_
    refine e_putf (v := .int (nI ((m_at s8) + 1))) (h' := TM h0 (w_at s8 ((m_at s8) + 1))) m_X6_function dX6_function_94 f_RX6_77 (gM_m G) (Nat.le_of_ble_eq_true rfl) (fit_i rfl) rfl (hpL_set (k := 10) (by decide) (Nat.le_of_ble_eq_true rfl)) ?_
    refine e_st hN (fun s9 hN => ?_)
    refine e_aload_n m_X6_function dX6_function_97 rfl rfl rfl ?_
    refine e_bipush (v := nI 57) m_X6_function dX6_function_98 (by decide) ?_
    refine e_iload_n m_X6_function dX6_function_100 rfl rfl ?_
    refine e_iconst (v := nI 0) m_X6_function dX6_function_101 (by decide) ?_
    refine e_cvU (as := [.int (nI 57), .int (nI v3), .int (nI 0)]) hN m_X6_function dX6_function_102 c_RX6_106 (by decide) rfl rfl (gM_m G) rfl (Nat.le_of_ble_eq_true rfl) (Nat.le_of_ble_eq_true rfl) (by omega) (w_X6_push G (by omega)) (fun v10 s10 hN => ?_)
    refine e_aload_n m_X6_function dX6_function_105 rfl rfl rfl ?_
    refine e_bipush (v := nI 8) m_X6_function dX6_function_106 (by decide) ?_
    refine e_bipush (v := nI 79) m_X6_function dX6_function_108 (by decide) ?_
    refine e_iconst (v := nI 0) m_X6_function dX6_function_110 (by decide) ?_
    refine e_cvU (as := [.int (nI 8), .int (nI 79), .int (nI 0)]) hN m_X6_function dX6_function_111 c_RX6_106 (by decide) rfl rfl (gM_m G) rfl (Nat.le_of_ble_eq_true rfl) (Nat.le_of_ble_eq_true rfl) (by omega) (w_X6_push G (by omega)) (fun v11 s11 hN => ?_)
    refine e_aload_n m_X6_function dX6_function_114 rfl rfl rfl ?_
    refine e_bipush (v := nI 18) m_X6_function dX6_function_115 (by decide) ?_
    refine e_iload m_X6_function dX6_function_117 rfl ?_
    refine e_iconst (v := nI 0) m_X6_function dX6_function_119 (by decide) ?_
    refine e_cvU (as := [.int (nI 18), .int (nI v7), .int (nI 0)]) hN m_X6_function dX6_function_120 c_RX6_106 (by decide) rfl rfl (gM_m G) rfl (Nat.le_of_ble_eq_true rfl) (Nat.le_of_ble_eq_true rfl) (by omega) (w_X6_push G (by omega)) (fun v12 s12 hN => ?_)
    refine e_aload_n m_X6_function dX6_function_123 rfl rfl rfl ?_
    refine e_cvN (as := []) hN m_X6_function dX6_function_124 c_RX6_83 (by decide) rfl rfl (gM_m G) rfl (Nat.le_of_ble_eq_true rfl) (Nat.le_of_ble_eq_true rfl) (by omega) (w_X6_look G (by omega)) (fun v13 s13 hN => ?_)
    refine e_iconst (v := nI 1) m_X6_function dX6_function_127 (by decide) ?_
    refine e_ine (t := 147) (a := v13) (b := 1) hN m_X6_function dX6_function_128 (by decide) (fun q14 hN => ?_) (fun q14 hN => ?_)
    · refine e_aload_n m_X6_function dX6_function_131 rfl rfl rfl ?_
      refine e_cvN (as := []) hN m_X6_function dX6_function_132 c_RX6_120 (by decide) rfl rfl (gM_m G) rfl (Nat.le_of_ble_eq_true rfl) (Nat.le_of_ble_eq_true rfl) (by omega) (w_X6_ahead G (by omega)) (fun v15 s15 hN => ?_)
      refine e_bipush (v := nI 79) m_X6_function dX6_function_135 (by decide) ?_
      refine e_ieq (t := 147) (a := v15) (b := 79) hN m_X6_function dX6_function_137 (by decide) (fun q16 hN => ?_) (fun q16 hN => ?_)
      · exact e_ret0 m_X6_function dX6_function_147
      · refine e_aload_n m_X6_function dX6_function_140 rfl rfl rfl ?_
        refine e_iload m_X6_function dX6_function_141 rfl ?_
        refine e_cvN (as := [.int (nI v7)]) hN m_X6_function dX6_function_143 c_RX6_130 (by decide) rfl rfl (gM_m G) rfl (Nat.le_of_ble_eq_true rfl) (Nat.le_of_ble_eq_true rfl) (by omega) (w_X6_name G (by omega)) (fun v17 s17 hN => ?_)
        refine e_pop m_X6_function dX6_function_146 rfl ?_
        exact e_ret0 m_X6_function dX6_function_147
    · exact e_ret0 m_X6_function dX6_function_147
  · refine e_iconst (v := nI 0) m_X6_function dX6_function_13 (by decide) ?_
    refine e_istore_n m_X6_function dX6_function_14 rfl (by decide) rfl ?_
    refine e_aload_n m_X6_function dX6_function_15 rfl rfl rfl ?_
    refine e_iload_n m_X6_function dX6_function_16 rfl rfl ?_
    refine e_iload_n m_X6_function dX6_function_17 rfl rfl ?_
    refine e_ifT (t := 25) m_X6_function dX6_function_18 (by decide) (by decide) ?_
    refine e_iconst (v := nI 2) m_X6_function dX6_function_25 (by decide) ?_
    refine e_aload_n m_X6_function dX6_function_26 rfl rfl rfl ?_
    refine e_getf m_X6_function dX6_function_27 f_RX6_77 (gM_m G) rfl ?_
    refine e_cvN (as := [.int (nI x1), .int (nI 2), .int (nI (m_at s1))]) hN m_X6_function dX6_function_30 c_RX6_99 (by decide) rfl rfl (gM_m G) rfl (Nat.le_of_ble_eq_true rfl) (Nat.le_of_ble_eq_true rfl) (by omega) (w_X6_child G (by omega)) (fun v18 s18 hN => ?_)
    refine e_istore_n m_X6_function dX6_function_33 rfl (by decide) rfl ?_
    refine e_aload_n m_X6_function dX6_function_34 rfl rfl rfl ?_
    refine e_dup m_X6_function dX6_function_35 rfl ?_
    refine e_getf m_X6_function dX6_function_36 f_RX6_77 (gM_m G) rfl ?_
    refine e_iconst (v := nI 1) m_X6_function dX6_function_39 (by decide) ?_
    refine e_iaddN m_X6_function dX6_function_40 ?_
    refine e_putf (v := .int (nI ((m_at s18) + 1))) (h' := TM h0 (w_at s18 ((m_at s18) + 1))) m_X6_function dX6_function_41 f_RX6_77 (gM_m G) (Nat.le_of_ble_eq_true rfl) (fit_i rfl) rfl (hpL_set (k := 10) (by decide) (Nat.le_of_ble_eq_true rfl)) ?_
    refine e_st hN (fun s19 hN => ?_)
    refine e_aload_n m_X6_function dX6_function_44 rfl rfl rfl ?_
    refine e_bipush (v := nI 38) m_X6_function dX6_function_45 (by decide) ?_
    refine e_iload_n m_X6_function dX6_function_47 rfl rfl ?_
    refine e_iconst (v := nI 0) m_X6_function dX6_function_48 (by decide) ?_
    refine e_cvU (as := [.int (nI 38), .int (nI v18), .int (nI 0)]) hN m_X6_function dX6_function_49 c_RX6_106 (by decide) rfl rfl (gM_m G) rfl (Nat.le_of_ble_eq_true rfl) (Nat.le_of_ble_eq_true rfl) (by omega) (w_X6_push G (by omega)) (fun v20 s20 hN => ?_)
    refine e_aload_n m_X6_function dX6_function_52 rfl rfl rfl ?_
    refine e_bipush (v := nI 21) m_X6_function dX6_function_53 (by decide) ?_
    refine e_iload_n m_X6_function dX6_function_55 rfl rfl ?_
    refine e_iconst (v := nI 0) m_X6_function dX6_function_56 (by decide) ?_
    refine e_cvU (as := [.int (nI 21), .int (nI v18), .int (nI 0)]) hN m_X6_function dX6_function_57 c_RX6_106 (by decide) rfl rfl (gM_m G) rfl (Nat.le_of_ble_eq_true rfl) (Nat.le_of_ble_eq_true rfl) (by omega) (w_X6_push G (by omega)) (fun v21 s21 hN => ?_)
    refine e_iload_n m_X6_function dX6_function_60 rfl rfl ?_
    refine e_ifF (t := 71) m_X6_function dX6_function_61 (by decide) (by decide) ?_
    refine e_aload_n m_X6_function dX6_function_64 rfl rfl rfl ?_
    refine e_iload_n m_X6_function dX6_function_65 rfl rfl ?_
    refine e_cvN (as := [.int (nI v18)]) hN m_X6_function dX6_function_66 c_RX6_130 (by decide) rfl rfl (gM_m G) rfl (Nat.le_of_ble_eq_true rfl) (Nat.le_of_ble_eq_true rfl) (by omega) (w_X6_name G (by omega)) (fun v22 s22 hN => ?_)
    refine e_pop m_X6_function dX6_function_69 rfl ?_
    exact e_ret0 m_X6_function dX6_function_70

def b_X6_unary  (x1 : Nat) (x2 : Nat) (s : Mm) : Rs Mm := bn (b_X6_look  s) (fun v1 s1 => ck (v1 < 2147483648) (ifz (f_X6_isUnary v1) (bn (b_X6_push 4 x1 x2 s1) (fun v4 s4 => bn (b_X6_operand x1 x2 s4) (fun v5 s5 => okR 0 s5))) (ife v1 64 (bn (b_X6_ahead  s1) (fun v7 s7 => ife v7 12 (bn (b_X6_push 4 x1 x2 s7) (fun v9 s9 => bn (b_X6_operand x1 x2 s9) (fun v10 s10 => okR 0 s10))) (bn (b_X6_child x1 81 (m_at s7) s7) (fun v11 s11 => bn (b_X6_more  s11) (fun v12 s12 => st1 (w_at s12 ((m_at s12) + 1)) (fun s13 => bn (b_X6_push 6 v11 0 s13) (fun v14 s14 => bn (b_X6_push 3 v11 (x2 &&& 1) s14) (fun v15 s15 => okR 0 s15)))))))) (bn (b_X6_child x1 81 (m_at s1) s1) (fun v16 s16 => bn (b_X6_more  s16) (fun v17 s17 => st1 (w_at s17 ((m_at s17) + 1)) (fun s18 => bn (b_X6_push 6 v16 0 s18) (fun v19 s19 => bn (b_X6_push 3 v16 (x2 &&& 1) s19) (fun v20 s20 => okR 0 s20)))))))))
theorem w_X6_unary {xs : Nat → Int32} {L : Nat} {h0 : mm_H} (G : Mg h0) {x1 : Nat} {x2 : Nat} {s : Mm} {d : Nat} (hd : 13 ≤ d) (hN : b_X6_unary  x1 x2 s ≠ none) : Rn xs L d 141 [.ref 10, .int (nI x1), .int (nI x2)] (TM h0 s) (ou eU (TM h0) (b_X6_unary  x1 x2 s)) := by
  unfold Rn
  unfold b_X6_unary at hN ⊢
  refine e_aload_n m_X6_unary dX6_unary_0 rfl rfl rfl ?_
  refine e_cvN (as := []) hN m_X6_unary dX6_unary_1 c_RX6_83 (by decide) rfl rfl (gM_m G) rfl (Nat.le_of_ble_eq_true rfl) (Nat.le_of_ble_eq_true rfl) (by omega) (w_X6_look G (by omega)) (fun v1 s1 hN => ?_)
  refine e_istore_n m_X6_unary dX6_unary_4 rfl (by decide) rfl ?_
  refine e_iload_n m_X6_unary dX6_unary_5 rfl rfl ?_
  refine e_ck hN (fun q2 hN => ?_)
  refine e_cs (as := [_]) m_X6_unary dX6_unary_6 c_RX6_103 (by decide) rfl rfl (Nat.le_of_ble_eq_true rfl) (Nat.le_of_ble_eq_true rfl) (by omega) (z_X6_isUnary q2 (by omega)) ?_
  refine e_ifeq (t := 74) hN m_X6_unary dX6_unary_9 (by decide) (fun q3 hN => ?_) (fun q3 hN => ?_)
  · refine e_aload_n m_X6_unary dX6_unary_74 rfl rfl rfl ?_
    refine e_iconst (v := nI 4) m_X6_unary dX6_unary_75 (by decide) ?_
    refine e_iload_n m_X6_unary dX6_unary_76 rfl rfl ?_
    refine e_iload_n m_X6_unary dX6_unary_77 rfl rfl ?_
    refine e_cvU (as := [.int (nI 4), .int (nI x1), .int (nI x2)]) hN m_X6_unary dX6_unary_78 c_RX6_106 (by decide) rfl rfl (gM_m G) rfl (Nat.le_of_ble_eq_true rfl) (Nat.le_of_ble_eq_true rfl) (by omega) (w_X6_push G (by omega)) (fun v4 s4 hN => ?_)
    refine e_aload_n m_X6_unary dX6_unary_81 rfl rfl rfl ?_
    refine e_iload_n m_X6_unary dX6_unary_82 rfl rfl ?_
    refine e_iload_n m_X6_unary dX6_unary_83 rfl rfl ?_
    refine e_cvU (as := [.int (nI x1), .int (nI x2)]) hN m_X6_unary dX6_unary_84 c_RX6_126 (by decide) rfl rfl (gM_m G) rfl (Nat.le_of_ble_eq_true rfl) (Nat.le_of_ble_eq_true rfl) (by omega) (w_X6_operand G (by omega)) (fun v5 s5 hN => ?_)
    exact e_ret0 m_X6_unary dX6_unary_87
  · refine e_iload_n m_X6_unary dX6_unary_12 rfl rfl ?_
    refine e_bipush (v := nI 64) m_X6_unary dX6_unary_13 (by decide) ?_
    refine e_ine (t := 27) (a := v1) (b := 64) hN m_X6_unary dX6_unary_15 (by decide) (fun q6 hN => ?_) (fun q6 hN => ?_)
    · refine e_aload_n m_X6_unary dX6_unary_18 rfl rfl rfl ?_
      refine e_cvN (as := []) hN m_X6_unary dX6_unary_19 c_RX6_120 (by decide) rfl rfl (gM_m G) rfl (Nat.le_of_ble_eq_true rfl) (Nat.le_of_ble_eq_true rfl) (by omega) (w_X6_ahead G (by omega)) (fun v7 s7 hN => ?_)
      refine e_bipush (v := nI 12) m_X6_unary dX6_unary_22 (by decide) ?_
      refine e_ieq (t := 74) (a := v7) (b := 12) hN m_X6_unary dX6_unary_24 (by decide) (fun q8 hN => ?_) (fun q8 hN => ?_)
      · refine e_aload_n m_X6_unary dX6_unary_74 rfl rfl rfl ?_
        refine e_iconst (v := nI 4) m_X6_unary dX6_unary_75 (by decide) ?_
        refine e_iload_n m_X6_unary dX6_unary_76 rfl rfl ?_
        refine e_iload_n m_X6_unary dX6_unary_77 rfl rfl ?_
        refine e_cvU (as := [.int (nI 4), .int (nI x1), .int (nI x2)]) hN m_X6_unary dX6_unary_78 c_RX6_106 (by decide) rfl rfl (gM_m G) rfl (Nat.le_of_ble_eq_true rfl) (Nat.le_of_ble_eq_true rfl) (by omega) (w_X6_push G (by omega)) (fun v9 s9 hN => ?_)
        refine e_aload_n m_X6_unary dX6_unary_81 rfl rfl rfl ?_
        refine e_iload_n m_X6_unary dX6_unary_82 rfl rfl ?_
        refine e_iload_n m_X6_unary dX6_unary_83 rfl rfl ?_
        refine e_cvU (as := [.int (nI x1), .int (nI x2)]) hN m_X6_unary dX6_unary_84 c_RX6_126 (by decide) rfl rfl (gM_m G) rfl (Nat.le_of_ble_eq_true rfl) (Nat.le_of_ble_eq_true rfl) (by omega) (w_X6_operand G (by omega)) (fun v10 s10 hN => ?_)
        exact e_ret0 m_X6_unary dX6_unary_87
      · refine e_aload_n m_X6_unary dX6_unary_27 rfl rfl rfl ?_
        refine e_iload_n m_X6_unary dX6_unary_28 rfl rfl ?_
        refine e_bipush (v := nI 81) m_X6_unary dX6_unary_29 (by decide) ?_
        refine e_aload_n m_X6_unary dX6_unary_31 rfl rfl rfl ?_
        refine e_getf m_X6_unary dX6_unary_32 f_RX6_77 (gM_m G) rfl ?_
        refine e_cvN (as := [.int (nI x1), .int (nI 81), .int (nI (m_at s7))]) hN m_X6_unary dX6_unary_35 c_RX6_99 (by decide) rfl rfl (gM_m G) rfl (Nat.le_of_ble_eq_true rfl) (Nat.le_of_ble_eq_true rfl) (by omega) (w_X6_child G (by omega)) (fun v11 s11 hN => ?_)
        refine e_istore m_X6_unary dX6_unary_38 (by decide) rfl ?_
        refine e_aload_n m_X6_unary dX6_unary_40 rfl rfl rfl ?_
        refine e_cvU (as := []) hN m_X6_unary dX6_unary_41 c_RX6_123 (by decide) rfl rfl (gM_m G) rfl (Nat.le_of_ble_eq_true rfl) (Nat.le_of_ble_eq_true rfl) (by omega) (w_X6_more G (by omega)) (fun v12 s12 hN => ?_)
        refine e_aload_n m_X6_unary dX6_unary_44 rfl rfl rfl ?_
        refine e_dup m_X6_unary dX6_unary_45 rfl ?_
        refine e_getf m_X6_unary dX6_unary_46 f_RX6_77 (gM_m G) rfl ?_
        refine e_iconst (v := nI 1) m_X6_unary dX6_unary_49 (by decide) ?_
        refine e_iaddN m_X6_unary dX6_unary_50 ?_
        refine e_putf (v := .int (nI ((m_at s12) + 1))) (h' := TM h0 (w_at s12 ((m_at s12) + 1))) m_X6_unary dX6_unary_51 f_RX6_77 (gM_m G) (Nat.le_of_ble_eq_true rfl) (fit_i rfl) rfl (hpL_set (k := 10) (by decide) (Nat.le_of_ble_eq_true rfl)) ?_
        refine e_st hN (fun s13 hN => ?_)
        refine e_aload_n m_X6_unary dX6_unary_54 rfl rfl rfl ?_
        refine e_bipush (v := nI 6) m_X6_unary dX6_unary_55 (by decide) ?_
        refine e_iload m_X6_unary dX6_unary_57 rfl ?_
        refine e_iconst (v := nI 0) m_X6_unary dX6_unary_59 (by decide) ?_
        refine e_cvU (as := [.int (nI 6), .int (nI v11), .int (nI 0)]) hN m_X6_unary dX6_unary_60 c_RX6_106 (by decide) rfl rfl (gM_m G) rfl (Nat.le_of_ble_eq_true rfl) (Nat.le_of_ble_eq_true rfl) (by omega) (w_X6_push G (by omega)) (fun v14 s14 hN => ?_)
        refine e_aload_n m_X6_unary dX6_unary_63 rfl rfl rfl ?_
        refine e_iconst (v := nI 3) m_X6_unary dX6_unary_64 (by decide) ?_
        refine e_iload m_X6_unary dX6_unary_65 rfl ?_
        refine e_iload_n m_X6_unary dX6_unary_67 rfl rfl ?_
        refine e_iconst (v := nI 1) m_X6_unary dX6_unary_68 (by decide) ?_
        refine e_iandN m_X6_unary dX6_unary_69 ?_
        refine e_cvU (as := [.int (nI 3), .int (nI v11), .int (nI (x2 &&& 1))]) hN m_X6_unary dX6_unary_70 c_RX6_106 (by decide) rfl rfl (gM_m G) rfl (Nat.le_of_ble_eq_true rfl) (Nat.le_of_ble_eq_true rfl) (by omega) (w_X6_push G (by omega)) (fun v15 s15 hN => ?_)
        exact e_ret0 m_X6_unary dX6_unary_73
    · refine e_aload_n m_X6_unary dX6_unary_27 rfl rfl rfl ?_
      refine e_iload_n m_X6_unary dX6_unary_28 rfl rfl ?_
      refine e_bipush (v := nI 81) m_X6_unary dX6_unary_29 (by decide) ?_
      refine e_aload_n m_X6_unary dX6_unary_31 rfl rfl rfl ?_
      refine e_getf m_X6_unary dX6_unary_32 f_RX6_77 (gM_m G) rfl ?_
      refine e_cvN (as := [.int (nI x1), .int (nI 81), .int (nI (m_at s1))]) hN m_X6_unary dX6_unary_35 c_RX6_99 (by decide) rfl rfl (gM_m G) rfl (Nat.le_of_ble_eq_true rfl) (Nat.le_of_ble_eq_true rfl) (by omega) (w_X6_child G (by omega)) (fun v16 s16 hN => ?_)
      refine e_istore m_X6_unary dX6_unary_38 (by decide) rfl ?_
      refine e_aload_n m_X6_unary dX6_unary_40 rfl rfl rfl ?_
      refine e_cvU (as := []) hN m_X6_unary dX6_unary_41 c_RX6_123 (by decide) rfl rfl (gM_m G) rfl (Nat.le_of_ble_eq_true rfl) (Nat.le_of_ble_eq_true rfl) (by omega) (w_X6_more G (by omega)) (fun v17 s17 hN => ?_)
      refine e_aload_n m_X6_unary dX6_unary_44 rfl rfl rfl ?_
      refine e_dup m_X6_unary dX6_unary_45 rfl ?_
      refine e_getf m_X6_unary dX6_unary_46 f_RX6_77 (gM_m G) rfl ?_
      refine e_iconst (v := nI 1) m_X6_unary dX6_unary_49 (by decide) ?_
      refine e_iaddN m_X6_unary dX6_unary_50 ?_
      refine e_putf (v := .int (nI ((m_at s17) + 1))) (h' := TM h0 (w_at s17 ((m_at s17) + 1))) m_X6_unary dX6_unary_51 f_RX6_77 (gM_m G) (Nat.le_of_ble_eq_true rfl) (fit_i rfl) rfl (hpL_set (k := 10) (by decide) (Nat.le_of_ble_eq_true rfl)) ?_
      refine e_st hN (fun s18 hN => ?_)
      refine e_aload_n m_X6_unary dX6_unary_54 rfl rfl rfl ?_
      refine e_bipush (v := nI 6) m_X6_unary dX6_unary_55 (by decide) ?_
      refine e_iload m_X6_unary dX6_unary_57 rfl ?_
      refine e_iconst (v := nI 0) m_X6_unary dX6_unary_59 (by decide) ?_
      refine e_cvU (as := [.int (nI 6), .int (nI v16), .int (nI 0)]) hN m_X6_unary dX6_unary_60 c_RX6_106 (by decide) rfl rfl (gM_m G) rfl (Nat.le_of_ble_eq_true rfl) (Nat.le_of_ble_eq_true rfl) (by omega) (w_X6_push G (by omega)) (fun v19 s19 hN => ?_)
      refine e_aload_n m_X6_unary dX6_unary_63 rfl rfl rfl ?_
      refine e_iconst (v := nI 3) m_X6_unary dX6_unary_64 (by decide) ?_
      refine e_iload m_X6_unary dX6_unary_65 rfl ?_
      refine e_iload_n m_X6_unary dX6_unary_67 rfl rfl ?_
      refine e_iconst (v := nI 1) m_X6_unary dX6_unary_68 (by decide) ?_
      refine e_iandN m_X6_unary dX6_unary_69 ?_
      refine e_cvU (as := [.int (nI 3), .int (nI v16), .int (nI (x2 &&& 1))]) hN m_X6_unary dX6_unary_70 c_RX6_106 (by decide) rfl rfl (gM_m G) rfl (Nat.le_of_ble_eq_true rfl) (Nat.le_of_ble_eq_true rfl) (by omega) (w_X6_push G (by omega)) (fun v20 s20 hN => ?_)
      exact e_ret0 m_X6_unary dX6_unary_73

def b_X6_postfix  (x1 : Nat) (x2 : Nat) (s : Mm) : Rs Mm := bn (b_X6_look  s) (fun v1 s1 => ife v1 86 (bn (b_X6_dot x1 x2 s1) (fun v3 s3 => okR 0 s3)) (ife v1 80 (bn (b_X6_wrap x1 84 (m_at s1) s1) (fun v5 s5 => bn (b_X6_more  s5) (fun v6 s6 => st1 (w_at s6 ((m_at s6) + 1)) (fun s7 => bn (b_X6_push 4 x1 x2 s7) (fun v8 s8 => bn (b_X6_look  s8) (fun v9 s9 => ife v9 87 (bn (b_X6_slice v5 s9) (fun v11 s11 => okR 0 s11)) (bn (b_X6_push 11 v5 0 s9) (fun v12 s12 => bn (b_X6_expression v5 0 1 s12) (fun v13 s13 => okR 0 s13))))))))) (ife v1 78 (bn (b_X6_wrap x1 87 (m_at s1) s1) (fun v15 s15 => bn (b_X6_more  s15) (fun v16 s16 => st1 (w_at s16 ((m_at s16) + 1)) (fun s17 => bn (b_X6_push 4 x1 x2 s17) (fun v18 s18 => bn (b_X6_push 9 v15 0 s18) (fun v19 s19 => okR 0 s19)))))) (okR 0 s1))))
theorem w_X6_postfix {xs : Nat → Int32} {L : Nat} {h0 : mm_H} (G : Mg h0) {x1 : Nat} {x2 : Nat} {s : Mm} {d : Nat} (hd : 13 ≤ d) (hN : b_X6_postfix  x1 x2 s ≠ none) : Rn xs L d 146 [.ref 10, .int (nI x1), .int (nI x2)] (TM h0 s) (ou eU (TM h0) (b_X6_postfix  x1 x2 s)) := by
  unfold Rn
  unfold b_X6_postfix at hN ⊢
  refine e_aload_n m_X6_postfix dX6_postfix_0 rfl rfl rfl ?_
  refine e_cvN (as := []) hN m_X6_postfix dX6_postfix_1 c_RX6_83 (by decide) rfl rfl (gM_m G) rfl (Nat.le_of_ble_eq_true rfl) (Nat.le_of_ble_eq_true rfl) (by omega) (w_X6_look G (by omega)) (fun v1 s1 hN => ?_)
  refine e_istore_n m_X6_postfix dX6_postfix_4 rfl (by decide) rfl ?_
  refine e_iload_n m_X6_postfix dX6_postfix_5 rfl rfl ?_
  refine e_bipush (v := nI 86) m_X6_postfix dX6_postfix_6 (by decide) ?_
  refine e_ine (t := 20) (a := v1) (b := 86) hN m_X6_postfix dX6_postfix_8 (by decide) (fun q2 hN => ?_) (fun q2 hN => ?_)
  · refine e_aload_n m_X6_postfix dX6_postfix_11 rfl rfl rfl ?_
    refine e_iload_n m_X6_postfix dX6_postfix_12 rfl rfl ?_
    refine e_iload_n m_X6_postfix dX6_postfix_13 rfl rfl ?_
    refine e_cvU (as := [.int (nI x1), .int (nI x2)]) hN m_X6_postfix dX6_postfix_14 c_RX6_144 (by decide) rfl rfl (gM_m G) rfl (Nat.le_of_ble_eq_true rfl) (Nat.le_of_ble_eq_true rfl) (by omega) (w_X6_dot G (by omega)) (fun v3 s3 hN => ?_)
    refine e_goto (t := 147) m_X6_postfix dX6_postfix_17 (by decide) ?_
    exact e_ret0 m_X6_postfix dX6_postfix_147
  · refine e_iload_n m_X6_postfix dX6_postfix_20 rfl rfl ?_
    refine e_bipush (v := nI 80) m_X6_postfix dX6_postfix_21 (by decide) ?_
    refine e_ine (t := 98) (a := v1) (b := 80) hN m_X6_postfix dX6_postfix_23 (by decide) (fun q4 hN => ?_) (fun q4 hN => ?_)
    · refine e_aload_n m_X6_postfix dX6_postfix_26 rfl rfl rfl ?_
      refine e_iload_n m_X6_postfix dX6_postfix_27 rfl rfl ?_
      refine e_bipush (v := nI 84) m_X6_postfix dX6_postfix_28 (by decide) ?_
      refine e_aload_n m_X6_postfix dX6_postfix_30 rfl rfl rfl ?_
      refine e_getf m_X6_postfix dX6_postfix_31 f_RX6_77 (gM_m G) rfl ?_
      refine e_cvN (as := [.int (nI x1), .int (nI 84), .int (nI (m_at s1))]) hN m_X6_postfix dX6_postfix_34 c_RX6_114 (by decide) rfl rfl (gM_m G) rfl (Nat.le_of_ble_eq_true rfl) (Nat.le_of_ble_eq_true rfl) (by omega) (w_X6_wrap G (by omega)) (fun v5 s5 hN => ?_)
      refine e_istore m_X6_postfix dX6_postfix_37 (by decide) rfl ?_
      refine e_aload_n m_X6_postfix dX6_postfix_39 rfl rfl rfl ?_
      refine e_cvU (as := []) hN m_X6_postfix dX6_postfix_40 c_RX6_123 (by decide) rfl rfl (gM_m G) rfl (Nat.le_of_ble_eq_true rfl) (Nat.le_of_ble_eq_true rfl) (by omega) (w_X6_more G (by omega)) (fun v6 s6 hN => ?_)
      refine e_aload_n m_X6_postfix dX6_postfix_43 rfl rfl rfl ?_
      refine e_dup m_X6_postfix dX6_postfix_44 rfl ?_
      refine e_getf m_X6_postfix dX6_postfix_45 f_RX6_77 (gM_m G) rfl ?_
      refine e_iconst (v := nI 1) m_X6_postfix dX6_postfix_48 (by decide) ?_
      refine e_iaddN m_X6_postfix dX6_postfix_49 ?_
      refine e_putf (v := .int (nI ((m_at s6) + 1))) (h' := TM h0 (w_at s6 ((m_at s6) + 1))) m_X6_postfix dX6_postfix_50 f_RX6_77 (gM_m G) (Nat.le_of_ble_eq_true rfl) (fit_i rfl) rfl (hpL_set (k := 10) (by decide) (Nat.le_of_ble_eq_true rfl)) ?_
      refine e_st hN (fun s7 hN => ?_)
      refine e_aload_n m_X6_postfix dX6_postfix_53 rfl rfl rfl ?_
      refine e_iconst (v := nI 4) m_X6_postfix dX6_postfix_54 (by decide) ?_
      refine e_iload_n m_X6_postfix dX6_postfix_55 rfl rfl ?_
      refine e_iload_n m_X6_postfix dX6_postfix_56 rfl rfl ?_
      refine e_cvU (as := [.int (nI 4), .int (nI x1), .int (nI x2)]) hN m_X6_postfix dX6_postfix_57 c_RX6_106 (by decide) rfl rfl (gM_m G) rfl (Nat.le_of_ble_eq_true rfl) (Nat.le_of_ble_eq_true rfl) (by omega) (w_X6_push G (by omega)) (fun v8 s8 hN => ?_)
      refine e_aload_n m_X6_postfix dX6_postfix_60 rfl rfl rfl ?_
      refine e_cvN (as := []) hN m_X6_postfix dX6_postfix_61 c_RX6_83 (by decide) rfl rfl (gM_m G) rfl (Nat.le_of_ble_eq_true rfl) (Nat.le_of_ble_eq_true rfl) (by omega) (w_X6_look G (by omega)) (fun v9 s9 hN => ?_)
      refine e_bipush (v := nI 87) m_X6_postfix dX6_postfix_64 (by decide) ?_
      refine e_ine (t := 78) (a := v9) (b := 87) hN m_X6_postfix dX6_postfix_66 (by decide) (fun q10 hN => ?_) (fun q10 hN => ?_)
      · refine e_aload_n m_X6_postfix dX6_postfix_69 rfl rfl rfl ?_
        refine e_iload m_X6_postfix dX6_postfix_70 rfl ?_
        refine e_cvU (as := [.int (nI v5)]) hN m_X6_postfix dX6_postfix_72 c_RX6_147 (by decide) rfl rfl (gM_m G) rfl (Nat.le_of_ble_eq_true rfl) (Nat.le_of_ble_eq_true rfl) (by omega) (w_X6_slice G (by omega)) (fun v11 s11 hN => ?_)
        refine e_goto (t := 95) m_X6_postfix dX6_postfix_75 (by decide) ?_
        refine e_goto (t := 147) m_X6_postfix dX6_postfix_95 (by decide) ?_
        exact e_ret0 m_X6_postfix dX6_postfix_147
      · refine e_aload_n m_X6_postfix dX6_postfix_78 rfl rfl rfl ?_
        refine e_bipush (v := nI 11) m_X6_postfix dX6_postfix_79 (by decide) ?_
        refine e_iload m_X6_postfix dX6_postfix_81 rfl ?_
        refine e_iconst (v := nI 0) m_X6_postfix dX6_postfix_83 (by decide) ?_
        refine e_cvU (as := [.int (nI 11), .int (nI v5), .int (nI 0)]) hN m_X6_postfix dX6_postfix_84 c_RX6_106 (by decide) rfl rfl (gM_m G) rfl (Nat.le_of_ble_eq_true rfl) (Nat.le_of_ble_eq_true rfl) (by omega) (w_X6_push G (by omega)) (fun v12 s12 hN => ?_)
        refine e_aload_n m_X6_postfix dX6_postfix_87 rfl rfl rfl ?_
        refine e_iload m_X6_postfix dX6_postfix_88 rfl ?_
        refine e_iconst (v := nI 0) m_X6_postfix dX6_postfix_90 (by decide) ?_
        refine e_iconst (v := nI 1) m_X6_postfix dX6_postfix_91 (by decide) ?_
        refine e_cvU (as := [.int (nI v5), .int (nI 0), .int (nI 1)]) hN m_X6_postfix dX6_postfix_92 c_RX6_117 (by decide) rfl rfl (gM_m G) rfl (Nat.le_of_ble_eq_true rfl) (Nat.le_of_ble_eq_true rfl) (by omega) (w_X6_expression G (by omega)) (fun v13 s13 hN => ?_)
        refine e_goto (t := 147) m_X6_postfix dX6_postfix_95 (by decide) ?_
        exact e_ret0 m_X6_postfix dX6_postfix_147
    · refine e_iload_n m_X6_postfix dX6_postfix_98 rfl rfl ?_
      refine e_bipush (v := nI 78) m_X6_postfix dX6_postfix_99 (by decide) ?_
      refine e_ine (t := 147) (a := v1) (b := 78) hN m_X6_postfix dX6_postfix_101 (by decide) (fun q14 hN => ?_) (fun q14 hN => ?_)
      · refine e_aload_n m_X6_postfix dX6_postfix_104 rfl rfl rfl ?_
        refine e_iload_n m_X6_postfix dX6_postfix_105 rfl rfl ?_
        refine e_bipush (v := nI 87) m_X6_postfix dX6_postfix_106 (by decide) ?_
        refine e_aload_n m_X6_postfix dX6_postfix_108 rfl rfl rfl ?_
        refine e_getf m_X6_postfix dX6_postfix_109 f_RX6_77 (gM_m G) rfl ?_
        refine e_cvN (as := [.int (nI x1), .int (nI 87), .int (nI (m_at s1))]) hN m_X6_postfix dX6_postfix_112 c_RX6_114 (by decide) rfl rfl (gM_m G) rfl (Nat.le_of_ble_eq_true rfl) (Nat.le_of_ble_eq_true rfl) (by omega) (w_X6_wrap G (by omega)) (fun v15 s15 hN => ?_)
        refine e_istore m_X6_postfix dX6_postfix_115 (by decide) rfl ?_
        refine e_aload_n m_X6_postfix dX6_postfix_117 rfl rfl rfl ?_
        refine e_cvU (as := []) hN m_X6_postfix dX6_postfix_118 c_RX6_123 (by decide) rfl rfl (gM_m G) rfl (Nat.le_of_ble_eq_true rfl) (Nat.le_of_ble_eq_true rfl) (by omega) (w_X6_more G (by omega)) (fun v16 s16 hN => ?_)
        refine e_aload_n m_X6_postfix dX6_postfix_121 rfl rfl rfl ?_
        refine e_dup m_X6_postfix dX6_postfix_122 rfl ?_
        refine e_getf m_X6_postfix dX6_postfix_123 f_RX6_77 (gM_m G) rfl ?_
        refine e_iconst (v := nI 1) m_X6_postfix dX6_postfix_126 (by decide) ?_
        refine e_iaddN m_X6_postfix dX6_postfix_127 ?_
        refine e_putf (v := .int (nI ((m_at s16) + 1))) (h' := TM h0 (w_at s16 ((m_at s16) + 1))) m_X6_postfix dX6_postfix_128 f_RX6_77 (gM_m G) (Nat.le_of_ble_eq_true rfl) (fit_i rfl) rfl (hpL_set (k := 10) (by decide) (Nat.le_of_ble_eq_true rfl)) ?_
        refine e_st hN (fun s17 hN => ?_)
        refine e_aload_n m_X6_postfix dX6_postfix_131 rfl rfl rfl ?_
        refine e_iconst (v := nI 4) m_X6_postfix dX6_postfix_132 (by decide) ?_
        refine e_iload_n m_X6_postfix dX6_postfix_133 rfl rfl ?_
        refine e_iload_n m_X6_postfix dX6_postfix_134 rfl rfl ?_
        refine e_cvU (as := [.int (nI 4), .int (nI x1), .int (nI x2)]) hN m_X6_postfix dX6_postfix_135 c_RX6_106 (by decide) rfl rfl (gM_m G) rfl (Nat.le_of_ble_eq_true rfl) (Nat.le_of_ble_eq_true rfl) (by omega) (w_X6_push G (by omega)) (fun v18 s18 hN => ?_)
        refine e_aload_n m_X6_postfix dX6_postfix_138 rfl rfl rfl ?_
        refine e_bipush (v := nI 9) m_X6_postfix dX6_postfix_139 (by decide) ?_
        refine e_iload m_X6_postfix dX6_postfix_141 rfl ?_
        refine e_iconst (v := nI 0) m_X6_postfix dX6_postfix_143 (by decide) ?_
        refine e_cvU (as := [.int (nI 9), .int (nI v15), .int (nI 0)]) hN m_X6_postfix dX6_postfix_144 c_RX6_106 (by decide) rfl rfl (gM_m G) rfl (Nat.le_of_ble_eq_true rfl) (Nat.le_of_ble_eq_true rfl) (by omega) (w_X6_push G (by omega)) (fun v19 s19 hN => ?_)
        exact e_ret0 m_X6_postfix dX6_postfix_147
      · exact e_ret0 m_X6_postfix dX6_postfix_147

def b_X6_value_  (x1 : Nat) (x2 : Nat) (x3 : Nat) (s : Mm) : Rs Mm := ck (x1 < 2147483648) (ife x1 5 (bn (b_X6_literal x2 x3 s) (fun v3 s3 => okR 0 s3)) (ife x1 6 (ck ((m_dp s) ≠ 0) (st1 (w_dp s ((m_dp s) - 1)) (fun s6 => okR 0 s6))) (ife x1 7 (bn (b_X6_pass x2 s) (fun v8 s8 => okR 0 s8)) (ife x1 8 (bn (b_X6_pass x2 s) (fun v10 s10 => ck ((m_dp s10) ≠ 0) (st1 (w_dp s10 ((m_dp s10) - 1)) (fun s12 => okR 0 s12)))) (ife x1 9 (bn (b_X6_args x2 s) (fun v14 s14 => okR 0 s14)) (ife x1 10 (bn (b_X6_argsMore x2 s) (fun v16 s16 => okR 0 s16)) (ife x1 11 (bn (b_X6_index x2 s) (fun v18 s18 => okR 0 s18)) (ife x1 12 (bn (b_X6_sliced x2 s) (fun v20 s20 => okR 0 s20)) (ife x1 13 (bn (b_X6_sliceMore x2 s) (fun v22 s22 => okR 0 s22)) (ife x1 14 (bn (b_X6_elements x2 s) (fun v24 s24 => okR 0 s24)) (ife x1 15 (bn (b_X6_elementsMore x2 s) (fun v26 s26 => okR 0 s26)) (ife x1 16 (bn (b_X6_keyed x2 s) (fun v28 s28 => okR 0 s28)) (bn (b_X6_value x2 s) (fun v29 s29 => okR 0 s29))))))))))))))
theorem w_X6_value_ {xs : Nat → Int32} {L : Nat} {h0 : mm_H} (G : Mg h0) {x1 : Nat} {x2 : Nat} {x3 : Nat} {s : Mm} {d : Nat} (hd : 13 ≤ d) (hN : b_X6_value_  x1 x2 x3 s ≠ none) : Rn xs L d 150 [.ref 10, .int (nI x1), .int (nI x2), .int (nI x3)] (TM h0 s) (ou eU (TM h0) (b_X6_value_  x1 x2 x3 s)) := by
  unfold Rn
  unfold b_X6_value_ at hN ⊢
  refine e_iload_n m_X6_value_ dX6_value__0 rfl rfl ?_
  refine e_ck hN (fun q1 hN => ?_)
  refine sw_c (a := x1) (b := 5) hN (fun q2 hN => ?_) (fun q2 hN => ?_)
  · refine e_table (t := 64) m_X6_value_ dX6_value__1 (by rw [q2]; decide) (Or.inr (by rw [q2]; decide)) ?_
    refine e_aload_n m_X6_value_ dX6_value__64 rfl rfl rfl ?_
    refine e_iload_n m_X6_value_ dX6_value__65 rfl rfl ?_
    refine e_iload_n m_X6_value_ dX6_value__66 rfl rfl ?_
    refine e_cvU (as := [.int (nI x2), .int (nI x3)]) hN m_X6_value_ dX6_value__67 c_RX6_241 (by decide) rfl rfl (gM_m G) rfl (Nat.le_of_ble_eq_true rfl) (Nat.le_of_ble_eq_true rfl) (by omega) (w_X6_literal G (by omega)) (fun v3 s3 hN => ?_)
    refine e_goto (t := 181) m_X6_value_ dX6_value__70 (by decide) ?_
    exact e_ret0 m_X6_value_ dX6_value__181
  · refine sw_c (a := x1) (b := 6) hN (fun q4 hN => ?_) (fun q4 hN => ?_)
    · refine e_table (t := 73) m_X6_value_ dX6_value__1 (by rw [q4]; decide) (Or.inr (by rw [q4]; decide)) ?_
      refine e_aload_n m_X6_value_ dX6_value__73 rfl rfl rfl ?_
      refine e_dup m_X6_value_ dX6_value__74 rfl ?_
      refine e_getf m_X6_value_ dX6_value__75 f_RX6_90 (gM_m G) rfl ?_
      refine e_iconst (v := nI 1) m_X6_value_ dX6_value__78 (by decide) ?_
      refine e_isubO m_X6_value_ dX6_value__79 ?_
      refine e_ck hN (fun q5 hN => ?_)
      rw [oI_p q5]
      refine e_putf (v := .int (nI ((m_dp s) - 1))) (h' := TM h0 (w_dp s ((m_dp s) - 1))) m_X6_value_ dX6_value__80 f_RX6_90 (gM_m G) (Nat.le_of_ble_eq_true rfl) (fit_i rfl) rfl (hpL_set (k := 10) (by decide) (Nat.le_of_ble_eq_true rfl)) ?_
      refine e_st hN (fun s6 hN => ?_)
      refine e_goto (t := 181) m_X6_value_ dX6_value__83 (by decide) ?_
      exact e_ret0 m_X6_value_ dX6_value__181
    · refine sw_c (a := x1) (b := 7) hN (fun q7 hN => ?_) (fun q7 hN => ?_)
      · refine e_table (t := 86) m_X6_value_ dX6_value__1 (by rw [q7]; decide) (Or.inr (by rw [q7]; decide)) ?_
        refine e_aload_n m_X6_value_ dX6_value__86 rfl rfl rfl ?_
        refine e_iload_n m_X6_value_ dX6_value__87 rfl rfl ?_
        refine e_cvU (as := [.int (nI x2)]) hN m_X6_value_ dX6_value__88 c_RX6_141 (by decide) rfl rfl (gM_m G) rfl (Nat.le_of_ble_eq_true rfl) (Nat.le_of_ble_eq_true rfl) (by omega) (w_X6_pass G (by omega)) (fun v8 s8 hN => ?_)
        refine e_goto (t := 181) m_X6_value_ dX6_value__91 (by decide) ?_
        exact e_ret0 m_X6_value_ dX6_value__181
      · refine sw_c (a := x1) (b := 8) hN (fun q9 hN => ?_) (fun q9 hN => ?_)
        · refine e_table (t := 94) m_X6_value_ dX6_value__1 (by rw [q9]; decide) (Or.inr (by rw [q9]; decide)) ?_
          refine e_aload_n m_X6_value_ dX6_value__94 rfl rfl rfl ?_
          refine e_iload_n m_X6_value_ dX6_value__95 rfl rfl ?_
          refine e_cvU (as := [.int (nI x2)]) hN m_X6_value_ dX6_value__96 c_RX6_141 (by decide) rfl rfl (gM_m G) rfl (Nat.le_of_ble_eq_true rfl) (Nat.le_of_ble_eq_true rfl) (by omega) (w_X6_pass G (by omega)) (fun v10 s10 hN => ?_)
          refine e_aload_n m_X6_value_ dX6_value__99 rfl rfl rfl ?_
          refine e_dup m_X6_value_ dX6_value__100 rfl ?_
          refine e_getf m_X6_value_ dX6_value__101 f_RX6_90 (gM_m G) rfl ?_
          refine e_iconst (v := nI 1) m_X6_value_ dX6_value__104 (by decide) ?_
          refine e_isubO m_X6_value_ dX6_value__105 ?_
          refine e_ck hN (fun q11 hN => ?_)
          rw [oI_p q11]
          refine e_putf (v := .int (nI ((m_dp s10) - 1))) (h' := TM h0 (w_dp s10 ((m_dp s10) - 1))) m_X6_value_ dX6_value__106 f_RX6_90 (gM_m G) (Nat.le_of_ble_eq_true rfl) (fit_i rfl) rfl (hpL_set (k := 10) (by decide) (Nat.le_of_ble_eq_true rfl)) ?_
          refine e_st hN (fun s12 hN => ?_)
          refine e_goto (t := 181) m_X6_value_ dX6_value__109 (by decide) ?_
          exact e_ret0 m_X6_value_ dX6_value__181
        · refine sw_c (a := x1) (b := 9) hN (fun q13 hN => ?_) (fun q13 hN => ?_)
          · refine e_table (t := 112) m_X6_value_ dX6_value__1 (by rw [q13]; decide) (Or.inr (by rw [q13]; decide)) ?_
            refine e_aload_n m_X6_value_ dX6_value__112 rfl rfl rfl ?_
            refine e_iload_n m_X6_value_ dX6_value__113 rfl rfl ?_
            refine e_cvU (as := [.int (nI x2)]) hN m_X6_value_ dX6_value__114 c_RX6_244 (by decide) rfl rfl (gM_m G) rfl (Nat.le_of_ble_eq_true rfl) (Nat.le_of_ble_eq_true rfl) (by omega) (w_X6_args G (by omega)) (fun v14 s14 hN => ?_)
            refine e_goto (t := 181) m_X6_value_ dX6_value__117 (by decide) ?_
            exact e_ret0 m_X6_value_ dX6_value__181
          · refine sw_c (a := x1) (b := 10) hN (fun q15 hN => ?_) (fun q15 hN => ?_)
            · refine e_table (t := 120) m_X6_value_ dX6_value__1 (by rw [q15]; decide) (Or.inr (by rw [q15]; decide)) ?_
              refine e_aload_n m_X6_value_ dX6_value__120 rfl rfl rfl ?_
              refine e_iload_n m_X6_value_ dX6_value__121 rfl rfl ?_
              refine e_cvU (as := [.int (nI x2)]) hN m_X6_value_ dX6_value__122 c_RX6_247 (by decide) rfl rfl (gM_m G) rfl (Nat.le_of_ble_eq_true rfl) (Nat.le_of_ble_eq_true rfl) (by omega) (w_X6_argsMore G (by omega)) (fun v16 s16 hN => ?_)
              refine e_goto (t := 181) m_X6_value_ dX6_value__125 (by decide) ?_
              exact e_ret0 m_X6_value_ dX6_value__181
            · refine sw_c (a := x1) (b := 11) hN (fun q17 hN => ?_) (fun q17 hN => ?_)
              · refine e_table (t := 128) m_X6_value_ dX6_value__1 (by rw [q17]; decide) (Or.inr (by rw [q17]; decide)) ?_
                refine e_aload_n m_X6_value_ dX6_value__128 rfl rfl rfl ?_
                refine e_iload_n m_X6_value_ dX6_value__129 rfl rfl ?_
                refine e_cvU (as := [.int (nI x2)]) hN m_X6_value_ dX6_value__130 c_RX6_250 (by decide) rfl rfl (gM_m G) rfl (Nat.le_of_ble_eq_true rfl) (Nat.le_of_ble_eq_true rfl) (by omega) (w_X6_index G (by omega)) (fun v18 s18 hN => ?_)
                refine e_goto (t := 181) m_X6_value_ dX6_value__133 (by decide) ?_
                exact e_ret0 m_X6_value_ dX6_value__181
              · refine sw_c (a := x1) (b := 12) hN (fun q19 hN => ?_) (fun q19 hN => ?_)
                · refine e_table (t := 136) m_X6_value_ dX6_value__1 (by rw [q19]; decide) (Or.inr (by rw [q19]; decide)) ?_
                  refine e_aload_n m_X6_value_ dX6_value__136 rfl rfl rfl ?_
                  refine e_iload_n m_X6_value_ dX6_value__137 rfl rfl ?_
                  refine e_cvU (as := [.int (nI x2)]) hN m_X6_value_ dX6_value__138 c_RX6_253 (by decide) rfl rfl (gM_m G) rfl (Nat.le_of_ble_eq_true rfl) (Nat.le_of_ble_eq_true rfl) (by omega) (w_X6_sliced G (by omega)) (fun v20 s20 hN => ?_)
                  refine e_goto (t := 181) m_X6_value_ dX6_value__141 (by decide) ?_
                  exact e_ret0 m_X6_value_ dX6_value__181
                · refine sw_c (a := x1) (b := 13) hN (fun q21 hN => ?_) (fun q21 hN => ?_)
                  · refine e_table (t := 144) m_X6_value_ dX6_value__1 (by rw [q21]; decide) (Or.inr (by rw [q21]; decide)) ?_
                    refine e_aload_n m_X6_value_ dX6_value__144 rfl rfl rfl ?_
                    refine e_iload_n m_X6_value_ dX6_value__145 rfl rfl ?_
                    refine e_cvU (as := [.int (nI x2)]) hN m_X6_value_ dX6_value__146 c_RX6_256 (by decide) rfl rfl (gM_m G) rfl (Nat.le_of_ble_eq_true rfl) (Nat.le_of_ble_eq_true rfl) (by omega) (w_X6_sliceMore G (by omega)) (fun v22 s22 hN => ?_)
                    refine e_goto (t := 181) m_X6_value_ dX6_value__149 (by decide) ?_
                    exact e_ret0 m_X6_value_ dX6_value__181
                  · refine sw_c (a := x1) (b := 14) hN (fun q23 hN => ?_) (fun q23 hN => ?_)
                    · refine e_table (t := 152) m_X6_value_ dX6_value__1 (by rw [q23]; decide) (Or.inr (by rw [q23]; decide)) ?_
                      refine e_aload_n m_X6_value_ dX6_value__152 rfl rfl rfl ?_
                      refine e_iload_n m_X6_value_ dX6_value__153 rfl rfl ?_
                      refine e_cvU (as := [.int (nI x2)]) hN m_X6_value_ dX6_value__154 c_RX6_137 (by decide) rfl rfl (gM_m G) rfl (Nat.le_of_ble_eq_true rfl) (Nat.le_of_ble_eq_true rfl) (by omega) (w_X6_elements G (by omega)) (fun v24 s24 hN => ?_)
                      refine e_goto (t := 181) m_X6_value_ dX6_value__157 (by decide) ?_
                      exact e_ret0 m_X6_value_ dX6_value__181
                    · refine sw_c (a := x1) (b := 15) hN (fun q25 hN => ?_) (fun q25 hN => ?_)
                      · refine e_table (t := 160) m_X6_value_ dX6_value__1 (by rw [q25]; decide) (Or.inr (by rw [q25]; decide)) ?_
                        refine e_aload_n m_X6_value_ dX6_value__160 rfl rfl rfl ?_
                        refine e_iload_n m_X6_value_ dX6_value__161 rfl rfl ?_
                        refine e_cvU (as := [.int (nI x2)]) hN m_X6_value_ dX6_value__162 c_RX6_259 (by decide) rfl rfl (gM_m G) rfl (Nat.le_of_ble_eq_true rfl) (Nat.le_of_ble_eq_true rfl) (by omega) (w_X6_elementsMore G (by omega)) (fun v26 s26 hN => ?_)
                        refine e_goto (t := 181) m_X6_value_ dX6_value__165 (by decide) ?_
                        exact e_ret0 m_X6_value_ dX6_value__181
                      · refine sw_c (a := x1) (b := 16) hN (fun q27 hN => ?_) (fun q27 hN => ?_)
                        · refine e_table (t := 168) m_X6_value_ dX6_value__1 (by rw [q27]; decide) (Or.inr (by rw [q27]; decide)) ?_
                          refine e_aload_n m_X6_value_ dX6_value__168 rfl rfl rfl ?_
                          refine e_iload_n m_X6_value_ dX6_value__169 rfl rfl ?_
                          refine e_cvU (as := [.int (nI x2)]) hN m_X6_value_ dX6_value__170 c_RX6_262 (by decide) rfl rfl (gM_m G) rfl (Nat.le_of_ble_eq_true rfl) (Nat.le_of_ble_eq_true rfl) (by omega) (w_X6_keyed G (by omega)) (fun v28 s28 hN => ?_)
                          refine e_goto (t := 181) m_X6_value_ dX6_value__173 (by decide) ?_
                          exact e_ret0 m_X6_value_ dX6_value__181
                        · refine e_table (t := 176) m_X6_value_ dX6_value__1 (by rw [show mm_table _ _ _ _ _ = _ from if_pos (by rw [nI_toInt q1]; omega)]; decide) (Or.inl (by rw [nI_toInt q1]; omega)) ?_
                          refine e_aload_n m_X6_value_ dX6_value__176 rfl rfl rfl ?_
                          refine e_iload_n m_X6_value_ dX6_value__177 rfl rfl ?_
                          refine e_cvU (as := [.int (nI x2)]) hN m_X6_value_ dX6_value__178 c_RX6_265 (by decide) rfl rfl (gM_m G) rfl (Nat.le_of_ble_eq_true rfl) (Nat.le_of_ble_eq_true rfl) (by omega) (w_X6_value G (by omega)) (fun v29 s29 hN => ?_)
                          exact e_ret0 m_X6_value_ dX6_value__181

def b_X6_type  (x1 : Nat) (x2 : Nat) (s : Mm) : Rs Mm := bn (b_X6_look  s) (fun v1 s1 => ife v1 1 (bn (b_X6_name x1 s1) (fun v3 s3 => okR 0 s3)) (ck (v1 < 2147483648) (ifz (f_X6_beginsType v1) (bn (b_X6_error  s1) (fun v6 s6 => okR 0 s6)) (bn (b_X6_more  s1) (fun v7 s7 => bn (b_X6_push 6 x1 0 s7) (fun v8 s8 => ife v1 78 (st1 (w_at s8 ((m_at s8) + 1)) (fun s10 => bn (b_X6_push 7 79 0 s10) (fun v11 s11 => bn (b_X6_push 18 x1 0 s11) (fun v12 s12 => okR 0 s12)))) (ife v1 80 (bn (b_X6_array x1 x2 s8) (fun v14 s14 => okR 0 s14)) (ife v1 26 (bn (b_X6_child x1 22 (m_at s8) s8) (fun v16 s16 => st1 (w_at s16 ((m_at s16) + 1)) (fun s17 => bn (b_X6_look  s17) (fun v18 s18 => ife v18 80 (bn (b_X6_more  s18) (fun v20 s20 => bn (b_X6_pass 80 s20) (fun v21 s21 => bn (b_X6_push 18 v16 0 s21) (fun v22 s22 => bn (b_X6_push 8 81 0 s22) (fun v23 s23 => bn (b_X6_push 18 v16 0 s23) (fun v24 s24 => okR 0 s24)))))) (bn (b_X6_pass 80 s18) (fun v25 s25 => bn (b_X6_push 18 v16 0 s25) (fun v26 s26 => bn (b_X6_push 8 81 0 s26) (fun v27 s27 => bn (b_X6_push 18 v16 0 s27) (fun v28 s28 => okR 0 s28))))))))) (ife v1 12 (ife v1 12 (bn (b_X6_child x1 23 (m_at s8) s8) (fun v31 s31 => st1 (w_at s31 ((m_at s31) + 1)) (fun s32 => ife v1 64 (bn (b_X6_pass 12 s32) (fun v34 s34 => bn (b_X6_push 18 v31 0 s34) (fun v35 s35 => okR 0 s35))) (bn (b_X6_look  s32) (fun v36 s36 => ife v36 64 (ck (v31 < 65536) (st1 (w_wh s36 (upN (m_wh s36) v31 24)) (fun s39 => st1 (w_at s39 ((m_at s39) + 1)) (fun s40 => bn (b_X6_push 18 v31 0 s40) (fun v41 s41 => okR 0 s41))))) (bn (b_X6_push 18 v31 0 s36) (fun v42 s42 => okR 0 s42))))))) (bn (b_X6_child x1 25 (m_at s8) s8) (fun v43 s43 => st1 (w_at s43 ((m_at s43) + 1)) (fun s44 => ife v1 64 (bn (b_X6_pass 12 s44) (fun v46 s46 => bn (b_X6_push 18 v43 0 s46) (fun v47 s47 => okR 0 s47))) (bn (b_X6_look  s44) (fun v48 s48 => ife v48 64 (ck (v43 < 65536) (st1 (w_wh s48 (upN (m_wh s48) v43 24)) (fun s51 => st1 (w_at s51 ((m_at s51) + 1)) (fun s52 => bn (b_X6_push 18 v43 0 s52) (fun v53 s53 => okR 0 s53))))) (bn (b_X6_push 18 v43 0 s48) (fun v54 s54 => okR 0 s54)))))))) (ife v1 64 (ife v1 12 (bn (b_X6_child x1 23 (m_at s8) s8) (fun v57 s57 => st1 (w_at s57 ((m_at s57) + 1)) (fun s58 => ife v1 64 (bn (b_X6_pass 12 s58) (fun v60 s60 => bn (b_X6_push 18 v57 0 s60) (fun v61 s61 => okR 0 s61))) (bn (b_X6_look  s58) (fun v62 s62 => ife v62 64 (ck (v57 < 65536) (st1 (w_wh s62 (upN (m_wh s62) v57 24)) (fun s65 => st1 (w_at s65 ((m_at s65) + 1)) (fun s66 => bn (b_X6_push 18 v57 0 s66) (fun v67 s67 => okR 0 s67))))) (bn (b_X6_push 18 v57 0 s62) (fun v68 s68 => okR 0 s68))))))) (bn (b_X6_child x1 25 (m_at s8) s8) (fun v69 s69 => st1 (w_at s69 ((m_at s69) + 1)) (fun s70 => ife v1 64 (bn (b_X6_pass 12 s70) (fun v72 s72 => bn (b_X6_push 18 v69 0 s72) (fun v73 s73 => okR 0 s73))) (bn (b_X6_look  s70) (fun v74 s74 => ife v74 64 (ck (v69 < 65536) (st1 (w_wh s74 (upN (m_wh s74) v69 24)) (fun s77 => st1 (w_at s77 ((m_at s77) + 1)) (fun s78 => bn (b_X6_push 18 v69 0 s78) (fun v79 s79 => okR 0 s79))))) (bn (b_X6_push 18 v69 0 s74) (fun v80 s80 => okR 0 s80)))))))) (ife v1 42 (bn (b_X6_child x1 26 (m_at s8) s8) (fun v82 s82 => st1 (w_at s82 ((m_at s82) + 1)) (fun s83 => bn (b_X6_push 18 v82 0 s83) (fun v84 s84 => okR 0 s84)))) (ife v1 20 (bn (b_X6_child x1 29 (m_at s8) s8) (fun v86 s86 => st1 (w_at s86 ((m_at s86) + 1)) (fun s87 => bn (b_X6_push 21 v86 0 s87) (fun v88 s88 => okR 0 s88)))) (ife v1 31 (bn (b_X6_child x1 27 (m_at s8) s8) (fun v90 s90 => st1 (w_at s90 ((m_at s90) + 1)) (fun s91 => bn (b_X6_look  s91) (fun v92 s92 => ife v92 82 (bn (b_X6_more  s92) (fun v94 s94 => bn (b_X6_pass 82 s94) (fun v95 s95 => ife v1 31 (bn (b_X6_push 26 v90 0 s95) (fun v97 s97 => okR 0 s97)) (bn (b_X6_push 28 v90 0 s95) (fun v98 s98 => okR 0 s98))))) (bn (b_X6_pass 82 s92) (fun v99 s99 => ife v1 31 (bn (b_X6_push 26 v90 0 s99) (fun v101 s101 => okR 0 s101)) (bn (b_X6_push 28 v90 0 s99) (fun v102 s102 => okR 0 s102)))))))) (bn (b_X6_child x1 30 (m_at s8) s8) (fun v103 s103 => st1 (w_at s103 ((m_at s103) + 1)) (fun s104 => bn (b_X6_look  s104) (fun v105 s105 => ife v105 82 (bn (b_X6_more  s105) (fun v107 s107 => bn (b_X6_pass 82 s107) (fun v108 s108 => ife v1 31 (bn (b_X6_push 26 v103 0 s108) (fun v110 s110 => okR 0 s110)) (bn (b_X6_push 28 v103 0 s108) (fun v111 s111 => okR 0 s111))))) (bn (b_X6_pass 82 s105) (fun v112 s112 => ife v1 31 (bn (b_X6_push 26 v103 0 s112) (fun v114 s114 => okR 0 s114)) (bn (b_X6_push 28 v103 0 s112) (fun v115 s115 => okR 0 s115)))))))))))))))))))))
theorem w_X6_type {xs : Nat → Int32} {L : Nat} {h0 : mm_H} (G : Mg h0) {x1 : Nat} {x2 : Nat} {s : Mm} {d : Nat} (hd : 13 ≤ d) (hN : b_X6_type  x1 x2 s ≠ none) : Rn xs L d 162 [.ref 10, .int (nI x1), .int (nI x2)] (TM h0 s) (ou eU (TM h0) (b_X6_type  x1 x2 s)) := by
  unfold Rn
  unfold b_X6_type at hN ⊢
  refine e_aload_n m_X6_type dX6_type_0 rfl rfl rfl ?_
  refine e_cvN (as := []) hN m_X6_type dX6_type_1 c_RX6_83 (by decide) rfl rfl (gM_m G) rfl (Nat.le_of_ble_eq_true rfl) (Nat.le_of_ble_eq_true rfl) (by omega) (w_X6_look G (by omega)) (fun v1 s1 hN => ?_)
  refine e_istore_n m_X6_type dX6_type_4 rfl (by decide) rfl ?_
  refine e_iload_n m_X6_type dX6_type_5 rfl rfl ?_
  refine e_iconst (v := nI 1) m_X6_type dX6_type_6 (by decide) ?_
  refine e_ine (t := 17) (a := v1) (b := 1) hN m_X6_type dX6_type_7 (by decide) (fun q2 hN => ?_) (fun q2 hN => ?_)
  · refine e_aload_n m_X6_type dX6_type_10 rfl rfl rfl ?_
    refine e_iload_n m_X6_type dX6_type_11 rfl rfl ?_
    refine e_cvN (as := [.int (nI x1)]) hN m_X6_type dX6_type_12 c_RX6_130 (by decide) rfl rfl (gM_m G) rfl (Nat.le_of_ble_eq_true rfl) (Nat.le_of_ble_eq_true rfl) (by omega) (w_X6_name G (by omega)) (fun v3 s3 hN => ?_)
    refine e_pop m_X6_type dX6_type_15 rfl ?_
    exact e_ret0 m_X6_type dX6_type_16
  · refine e_iload_n m_X6_type dX6_type_17 rfl rfl ?_
    refine e_ck hN (fun q4 hN => ?_)
    refine e_cs (as := [_]) m_X6_type dX6_type_18 c_RX6_150 (by decide) rfl rfl (Nat.le_of_ble_eq_true rfl) (Nat.le_of_ble_eq_true rfl) (by omega) (z_X6_beginsType q4 (by omega)) ?_
    refine e_ifne (t := 29) hN m_X6_type dX6_type_21 (by decide) (fun q5 hN => ?_) (fun q5 hN => ?_)
    · refine e_aload_n m_X6_type dX6_type_24 rfl rfl rfl ?_
      refine e_cvU (as := []) hN m_X6_type dX6_type_25 c_RX6_87 (by decide) rfl rfl (gM_m G) rfl (Nat.le_of_ble_eq_true rfl) (Nat.le_of_ble_eq_true rfl) (by omega) (w_X6_error G (by omega)) (fun v6 s6 hN => ?_)
      exact e_ret0 m_X6_type dX6_type_28
    · refine e_aload_n m_X6_type dX6_type_29 rfl rfl rfl ?_
      refine e_cvU (as := []) hN m_X6_type dX6_type_30 c_RX6_123 (by decide) rfl rfl (gM_m G) rfl (Nat.le_of_ble_eq_true rfl) (Nat.le_of_ble_eq_true rfl) (by omega) (w_X6_more G (by omega)) (fun v7 s7 hN => ?_)
      refine e_aload_n m_X6_type dX6_type_33 rfl rfl rfl ?_
      refine e_bipush (v := nI 6) m_X6_type dX6_type_34 (by decide) ?_
      refine e_iload_n m_X6_type dX6_type_36 rfl rfl ?_
      refine e_iconst (v := nI 0) m_X6_type dX6_type_37 (by decide) ?_
      refine e_cvU (as := [.int (nI 6), .int (nI x1), .int (nI 0)]) hN m_X6_type dX6_type_38 c_RX6_106 (by decide) rfl rfl (gM_m G) rfl (Nat.le_of_ble_eq_true rfl) (Nat.le_of_ble_eq_true rfl) (by omega) (w_X6_push G (by omega)) (fun v8 s8 hN => ?_)
      refine e_iload_n m_X6_type dX6_type_41 rfl rfl ?_
      refine e_bipush (v := nI 78) m_X6_type dX6_type_42 (by decide) ?_
      refine e_ine (t := 77) (a := v1) (b := 78) hN m_X6_type dX6_type_44 (by decide) (fun q9 hN => ?_) (fun q9 hN => ?_)
      · refine e_aload_n m_X6_type dX6_type_47 rfl rfl rfl ?_
        refine e_dup m_X6_type dX6_type_48 rfl ?_
        refine e_getf m_X6_type dX6_type_49 f_RX6_77 (gM_m G) rfl ?_
        refine e_iconst (v := nI 1) m_X6_type dX6_type_52 (by decide) ?_
        refine e_iaddN m_X6_type dX6_type_53 ?_
        refine e_putf (v := .int (nI ((m_at s8) + 1))) (h' := TM h0 (w_at s8 ((m_at s8) + 1))) m_X6_type dX6_type_54 f_RX6_77 (gM_m G) (Nat.le_of_ble_eq_true rfl) (fit_i rfl) rfl (hpL_set (k := 10) (by decide) (Nat.le_of_ble_eq_true rfl)) ?_
        refine e_st hN (fun s10 hN => ?_)
        refine e_aload_n m_X6_type dX6_type_57 rfl rfl rfl ?_
        refine e_bipush (v := nI 7) m_X6_type dX6_type_58 (by decide) ?_
        refine e_bipush (v := nI 79) m_X6_type dX6_type_60 (by decide) ?_
        refine e_iconst (v := nI 0) m_X6_type dX6_type_62 (by decide) ?_
        refine e_cvU (as := [.int (nI 7), .int (nI 79), .int (nI 0)]) hN m_X6_type dX6_type_63 c_RX6_106 (by decide) rfl rfl (gM_m G) rfl (Nat.le_of_ble_eq_true rfl) (Nat.le_of_ble_eq_true rfl) (by omega) (w_X6_push G (by omega)) (fun v11 s11 hN => ?_)
        refine e_aload_n m_X6_type dX6_type_66 rfl rfl rfl ?_
        refine e_bipush (v := nI 18) m_X6_type dX6_type_67 (by decide) ?_
        refine e_iload_n m_X6_type dX6_type_69 rfl rfl ?_
        refine e_iconst (v := nI 0) m_X6_type dX6_type_70 (by decide) ?_
        refine e_cvU (as := [.int (nI 18), .int (nI x1), .int (nI 0)]) hN m_X6_type dX6_type_71 c_RX6_106 (by decide) rfl rfl (gM_m G) rfl (Nat.le_of_ble_eq_true rfl) (Nat.le_of_ble_eq_true rfl) (by omega) (w_X6_push G (by omega)) (fun v12 s12 hN => ?_)
        refine e_goto (t := 426) m_X6_type dX6_type_74 (by decide) ?_
        exact e_ret0 m_X6_type dX6_type_426
      · refine e_iload_n m_X6_type dX6_type_77 rfl rfl ?_
        refine e_bipush (v := nI 80) m_X6_type dX6_type_78 (by decide) ?_
        refine e_ine (t := 92) (a := v1) (b := 80) hN m_X6_type dX6_type_80 (by decide) (fun q13 hN => ?_) (fun q13 hN => ?_)
        · refine e_aload_n m_X6_type dX6_type_83 rfl rfl rfl ?_
          refine e_iload_n m_X6_type dX6_type_84 rfl rfl ?_
          refine e_iload_n m_X6_type dX6_type_85 rfl rfl ?_
          refine e_cvU (as := [.int (nI x1), .int (nI x2)]) hN m_X6_type dX6_type_86 c_RX6_153 (by decide) rfl rfl (gM_m G) rfl (Nat.le_of_ble_eq_true rfl) (Nat.le_of_ble_eq_true rfl) (by omega) (w_X6_array G (by omega)) (fun v14 s14 hN => ?_)
          refine e_goto (t := 426) m_X6_type dX6_type_89 (by decide) ?_
          exact e_ret0 m_X6_type dX6_type_426
        · refine e_iload_n m_X6_type dX6_type_92 rfl rfl ?_
          refine e_bipush (v := nI 26) m_X6_type dX6_type_93 (by decide) ?_
          refine e_ine (t := 170) (a := v1) (b := 26) hN m_X6_type dX6_type_95 (by decide) (fun q15 hN => ?_) (fun q15 hN => ?_)
          · refine e_aload_n m_X6_type dX6_type_98 rfl rfl rfl ?_
            refine e_iload_n m_X6_type dX6_type_99 rfl rfl ?_
            refine e_bipush (v := nI 22) m_X6_type dX6_type_100 (by decide) ?_
            refine e_aload_n m_X6_type dX6_type_102 rfl rfl rfl ?_
            refine e_getf m_X6_type dX6_type_103 f_RX6_77 (gM_m G) rfl ?_
            refine e_cvN (as := [.int (nI x1), .int (nI 22), .int (nI (m_at s8))]) hN m_X6_type dX6_type_106 c_RX6_99 (by decide) rfl rfl (gM_m G) rfl (Nat.le_of_ble_eq_true rfl) (Nat.le_of_ble_eq_true rfl) (by omega) (w_X6_child G (by omega)) (fun v16 s16 hN => ?_)
            refine e_istore m_X6_type dX6_type_109 (by decide) rfl ?_
            refine e_aload_n m_X6_type dX6_type_111 rfl rfl rfl ?_
            refine e_dup m_X6_type dX6_type_112 rfl ?_
            refine e_getf m_X6_type dX6_type_113 f_RX6_77 (gM_m G) rfl ?_
            refine e_iconst (v := nI 1) m_X6_type dX6_type_116 (by decide) ?_
            refine e_iaddN m_X6_type dX6_type_117 ?_
            refine e_putf (v := .int (nI ((m_at s16) + 1))) (h' := TM h0 (w_at s16 ((m_at s16) + 1))) m_X6_type dX6_type_118 f_RX6_77 (gM_m G) (Nat.le_of_ble_eq_true rfl) (fit_i rfl) rfl (hpL_set (k := 10) (by decide) (Nat.le_of_ble_eq_true rfl)) ?_
            refine e_st hN (fun s17 hN => ?_)
            refine e_aload_n m_X6_type dX6_type_121 rfl rfl rfl ?_
            refine e_cvN (as := []) hN m_X6_type dX6_type_122 c_RX6_83 (by decide) rfl rfl (gM_m G) rfl (Nat.le_of_ble_eq_true rfl) (Nat.le_of_ble_eq_true rfl) (by omega) (w_X6_look G (by omega)) (fun v18 s18 hN => ?_)
            refine e_bipush (v := nI 80) m_X6_type dX6_type_125 (by decide) ?_
            refine e_ine (t := 134) (a := v18) (b := 80) hN m_X6_type dX6_type_127 (by decide) (fun q19 hN => ?_) (fun q19 hN => ?_)
            · refine e_aload_n m_X6_type dX6_type_130 rfl rfl rfl ?_
              refine e_cvU (as := []) hN m_X6_type dX6_type_131 c_RX6_123 (by decide) rfl rfl (gM_m G) rfl (Nat.le_of_ble_eq_true rfl) (Nat.le_of_ble_eq_true rfl) (by omega) (w_X6_more G (by omega)) (fun v20 s20 hN => ?_)
              refine e_aload_n m_X6_type dX6_type_134 rfl rfl rfl ?_
              refine e_bipush (v := nI 80) m_X6_type dX6_type_135 (by decide) ?_
              refine e_cvU (as := [.int (nI 80)]) hN m_X6_type dX6_type_137 c_RX6_141 (by decide) rfl rfl (gM_m G) rfl (Nat.le_of_ble_eq_true rfl) (Nat.le_of_ble_eq_true rfl) (by omega) (w_X6_pass G (by omega)) (fun v21 s21 hN => ?_)
              refine e_aload_n m_X6_type dX6_type_140 rfl rfl rfl ?_
              refine e_bipush (v := nI 18) m_X6_type dX6_type_141 (by decide) ?_
              refine e_iload m_X6_type dX6_type_143 rfl ?_
              refine e_iconst (v := nI 0) m_X6_type dX6_type_145 (by decide) ?_
              refine e_cvU (as := [.int (nI 18), .int (nI v16), .int (nI 0)]) hN m_X6_type dX6_type_146 c_RX6_106 (by decide) rfl rfl (gM_m G) rfl (Nat.le_of_ble_eq_true rfl) (Nat.le_of_ble_eq_true rfl) (by omega) (w_X6_push G (by omega)) (fun v22 s22 hN => ?_)
              refine e_aload_n m_X6_type dX6_type_149 rfl rfl rfl ?_
              refine e_bipush (v := nI 8) m_X6_type dX6_type_150 (by decide) ?_
              refine e_bipush (v := nI 81) m_X6_type dX6_type_152 (by decide) ?_
              refine e_iconst (v := nI 0) m_X6_type dX6_type_154 (by decide) ?_
              refine e_cvU (as := [.int (nI 8), .int (nI 81), .int (nI 0)]) hN m_X6_type dX6_type_155 c_RX6_106 (by decide) rfl rfl (gM_m G) rfl (Nat.le_of_ble_eq_true rfl) (Nat.le_of_ble_eq_true rfl) (by omega) (w_X6_push G (by omega)) (fun v23 s23 hN => ?_)
              refine e_aload_n m_X6_type dX6_type_158 rfl rfl rfl ?_
              refine e_bipush (v := nI 18) m_X6_type dX6_type_159 (by decide) ?_
              refine e_iload m_X6_type dX6_type_161 rfl ?_
              refine e_iconst (v := nI 0) m_X6_type dX6_type_163 (by decide) ?_
              refine e_cvU (as := [.int (nI 18), .int (nI v16), .int (nI 0)]) hN m_X6_type dX6_type_164 c_RX6_106 (by decide) rfl rfl (gM_m G) rfl (Nat.le_of_ble_eq_true rfl) (Nat.le_of_ble_eq_true rfl) (by omega) (w_X6_push G (by omega)) (fun v24 s24 hN => ?_)
              refine e_goto (t := 426) m_X6_type dX6_type_167 (by decide) ?_
              exact e_ret0 m_X6_type dX6_type_426
            · refine e_aload_n m_X6_type dX6_type_134 rfl rfl rfl ?_
              refine e_bipush (v := nI 80) m_X6_type dX6_type_135 (by decide) ?_
              refine e_cvU (as := [.int (nI 80)]) hN m_X6_type dX6_type_137 c_RX6_141 (by decide) rfl rfl (gM_m G) rfl (Nat.le_of_ble_eq_true rfl) (Nat.le_of_ble_eq_true rfl) (by omega) (w_X6_pass G (by omega)) (fun v25 s25 hN => ?_)
              refine e_aload_n m_X6_type dX6_type_140 rfl rfl rfl ?_
              refine e_bipush (v := nI 18) m_X6_type dX6_type_141 (by decide) ?_
              refine e_iload m_X6_type dX6_type_143 rfl ?_
              refine e_iconst (v := nI 0) m_X6_type dX6_type_145 (by decide) ?_
              refine e_cvU (as := [.int (nI 18), .int (nI v16), .int (nI 0)]) hN m_X6_type dX6_type_146 c_RX6_106 (by decide) rfl rfl (gM_m G) rfl (Nat.le_of_ble_eq_true rfl) (Nat.le_of_ble_eq_true rfl) (by omega) (w_X6_push G (by omega)) (fun v26 s26 hN => ?_)
              refine e_aload_n m_X6_type dX6_type_149 rfl rfl rfl ?_
              refine e_bipush (v := nI 8) m_X6_type dX6_type_150 (by decide) ?_
              refine e_bipush (v := nI 81) m_X6_type dX6_type_152 (by decide) ?_
              refine e_iconst (v := nI 0) m_X6_type dX6_type_154 (by decide) ?_
              refine e_cvU (as := [.int (nI 8), .int (nI 81), .int (nI 0)]) hN m_X6_type dX6_type_155 c_RX6_106 (by decide) rfl rfl (gM_m G) rfl (Nat.le_of_ble_eq_true rfl) (Nat.le_of_ble_eq_true rfl) (by omega) (w_X6_push G (by omega)) (fun v27 s27 hN => ?_)
              refine e_aload_n m_X6_type dX6_type_158 rfl rfl rfl ?_
              refine e_bipush (v := nI 18) m_X6_type dX6_type_159 (by decide) ?_
              refine e_iload m_X6_type dX6_type_161 rfl ?_
              refine e_iconst (v := nI 0) m_X6_type dX6_type_163 (by decide) ?_
              refine e_cvU (as := [.int (nI 18), .int (nI v16), .int (nI 0)]) hN m_X6_type dX6_type_164 c_RX6_106 (by decide) rfl rfl (gM_m G) rfl (Nat.le_of_ble_eq_true rfl) (Nat.le_of_ble_eq_true rfl) (by omega) (w_X6_push G (by omega)) (fun v28 s28 hN => ?_)
              refine e_goto (t := 426) m_X6_type dX6_type_167 (by decide) ?_
              exact e_ret0 m_X6_type dX6_type_426
          · refine e_iload_n m_X6_type dX6_type_170 rfl rfl ?_
            refine e_bipush (v := nI 12) m_X6_type dX6_type_171 (by decide) ?_
            refine e_ieq (t := 182) (a := v1) (b := 12) hN m_X6_type dX6_type_173 (by decide) (fun q29 hN => ?_) (fun q29 hN => ?_)
            · refine e_aload_n m_X6_type dX6_type_182 rfl rfl rfl ?_
              refine e_iload_n m_X6_type dX6_type_183 rfl rfl ?_
              refine e_iload_n m_X6_type dX6_type_184 rfl rfl ?_
              refine e_bipush (v := nI 12) m_X6_type dX6_type_185 (by decide) ?_
              refine e_ine (t := 195) (a := v1) (b := 12) hN m_X6_type dX6_type_187 (by decide) (fun q30 hN => ?_) (fun q30 hN => ?_)
              · refine e_bipush (v := nI 23) m_X6_type dX6_type_190 (by decide) ?_
                refine e_goto (t := 197) m_X6_type dX6_type_192 (by decide) ?_
                refine e_aload_n m_X6_type dX6_type_197 rfl rfl rfl ?_
                refine e_getf m_X6_type dX6_type_198 f_RX6_77 (gM_m G) rfl ?_
                refine e_cvN (as := [.int (nI x1), .int (nI 23), .int (nI (m_at s8))]) hN m_X6_type dX6_type_201 c_RX6_99 (by decide) rfl rfl (gM_m G) rfl (Nat.le_of_ble_eq_true rfl) (Nat.le_of_ble_eq_true rfl) (by omega) (w_X6_child G (by omega)) (fun v31 s31 hN => ?_)
                refine e_istore m_X6_type dX6_type_204 (by decide) rfl ?_
                refine e_aload_n m_X6_type dX6_type_206 rfl rfl rfl ?_
                refine e_dup m_X6_type dX6_type_207 rfl ?_
                refine e_getf m_X6_type dX6_type_208 f_RX6_77 (gM_m G) rfl ?_
                refine e_iconst (v := nI 1) m_X6_type dX6_type_211 (by decide) ?_
                refine e_iaddN m_X6_type dX6_type_212 ?_
                refine e_putf (v := .int (nI ((m_at s31) + 1))) (h' := TM h0 (w_at s31 ((m_at s31) + 1))) m_X6_type dX6_type_213 f_RX6_77 (gM_m G) (Nat.le_of_ble_eq_true rfl) (fit_i rfl) rfl (hpL_set (k := 10) (by decide) (Nat.le_of_ble_eq_true rfl)) ?_
                refine e_st hN (fun s32 hN => ?_)
                refine e_iload_n m_X6_type dX6_type_216 rfl rfl ?_
                refine e_bipush (v := nI 64) m_X6_type dX6_type_217 (by decide) ?_
                refine e_ine (t := 231) (a := v1) (b := 64) hN m_X6_type dX6_type_219 (by decide) (fun q33 hN => ?_) (fun q33 hN => ?_)
                · refine e_aload_n m_X6_type dX6_type_222 rfl rfl rfl ?_
                  refine e_bipush (v := nI 12) m_X6_type dX6_type_223 (by decide) ?_
                  refine e_cvU (as := [.int (nI 12)]) hN m_X6_type dX6_type_225 c_RX6_141 (by decide) rfl rfl (gM_m G) rfl (Nat.le_of_ble_eq_true rfl) (Nat.le_of_ble_eq_true rfl) (by omega) (w_X6_pass G (by omega)) (fun v34 s34 hN => ?_)
                  refine e_goto (t := 259) m_X6_type dX6_type_228 (by decide) ?_
                  refine e_aload_n m_X6_type dX6_type_259 rfl rfl rfl ?_
                  refine e_bipush (v := nI 18) m_X6_type dX6_type_260 (by decide) ?_
                  refine e_iload m_X6_type dX6_type_262 rfl ?_
                  refine e_iconst (v := nI 0) m_X6_type dX6_type_264 (by decide) ?_
                  refine e_cvU (as := [.int (nI 18), .int (nI v31), .int (nI 0)]) hN m_X6_type dX6_type_265 c_RX6_106 (by decide) rfl rfl (gM_m G) rfl (Nat.le_of_ble_eq_true rfl) (Nat.le_of_ble_eq_true rfl) (by omega) (w_X6_push G (by omega)) (fun v35 s35 hN => ?_)
                  refine e_goto (t := 426) m_X6_type dX6_type_268 (by decide) ?_
                  exact e_ret0 m_X6_type dX6_type_426
                · refine e_aload_n m_X6_type dX6_type_231 rfl rfl rfl ?_
                  refine e_cvN (as := []) hN m_X6_type dX6_type_232 c_RX6_83 (by decide) rfl rfl (gM_m G) rfl (Nat.le_of_ble_eq_true rfl) (Nat.le_of_ble_eq_true rfl) (by omega) (w_X6_look G (by omega)) (fun v36 s36 hN => ?_)
                  refine e_bipush (v := nI 64) m_X6_type dX6_type_235 (by decide) ?_
                  refine e_ine (t := 259) (a := v36) (b := 64) hN m_X6_type dX6_type_237 (by decide) (fun q37 hN => ?_) (fun q37 hN => ?_)
                  · refine e_aload_n m_X6_type dX6_type_240 rfl rfl rfl ?_
                    refine e_getf m_X6_type dX6_type_241 f_RX6_14 (gM_m G) rfl ?_
                    refine e_iload m_X6_type dX6_type_244 rfl ?_
                    refine e_bipush (v := nI 24) m_X6_type dX6_type_246 (by decide) ?_
                    refine e_ck hN (fun q38 hN => ?_)
                    refine e_astN (v := 24) (h' := TM h0 (w_wh s36 (upN (m_wh s36) v31 24))) q38 (by decide) m_X6_type dX6_type_248 (gM_wh G) (hpL_set (k := 12) (by decide) (Nat.le_of_ble_eq_true rfl)) ?_
                    refine e_st hN (fun s39 hN => ?_)
                    refine e_aload_n m_X6_type dX6_type_249 rfl rfl rfl ?_
                    refine e_dup m_X6_type dX6_type_250 rfl ?_
                    refine e_getf m_X6_type dX6_type_251 f_RX6_77 (gM_m G) rfl ?_
                    refine e_iconst (v := nI 1) m_X6_type dX6_type_254 (by decide) ?_
                    refine e_iaddN m_X6_type dX6_type_255 ?_
                    refine e_putf (v := .int (nI ((m_at s39) + 1))) (h' := TM h0 (w_at s39 ((m_at s39) + 1))) m_X6_type dX6_type_256 f_RX6_77 (gM_m G) (Nat.le_of_ble_eq_true rfl) (fit_i rfl) rfl (hpL_set (k := 10) (by decide) (Nat.le_of_ble_eq_true rfl)) ?_
                    refine e_st hN (fun s40 hN => ?_)
                    refine e_aload_n m_X6_type dX6_type_259 rfl rfl rfl ?_
                    refine e_bipush (v := nI 18) m_X6_type dX6_type_260 (by decide) ?_
                    refine e_iload m_X6_type dX6_type_262 rfl ?_
                    refine e_iconst (v := nI 0) m_X6_type dX6_type_264 (by decide) ?_
                    refine e_cvU (as := [.int (nI 18), .int (nI v31), .int (nI 0)]) hN m_X6_type dX6_type_265 c_RX6_106 (by decide) rfl rfl (gM_m G) rfl (Nat.le_of_ble_eq_true rfl) (Nat.le_of_ble_eq_true rfl) (by omega) (w_X6_push G (by omega)) (fun v41 s41 hN => ?_)
                    refine e_goto (t := 426) m_X6_type dX6_type_268 (by decide) ?_
                    exact e_ret0 m_X6_type dX6_type_426
                  · refine e_aload_n m_X6_type dX6_type_259 rfl rfl rfl ?_
                    refine e_bipush (v := nI 18) m_X6_type dX6_type_260 (by decide) ?_
                    refine e_iload m_X6_type dX6_type_262 rfl ?_
                    refine e_iconst (v := nI 0) m_X6_type dX6_type_264 (by decide) ?_
                    refine e_cvU (as := [.int (nI 18), .int (nI v31), .int (nI 0)]) hN m_X6_type dX6_type_265 c_RX6_106 (by decide) rfl rfl (gM_m G) rfl (Nat.le_of_ble_eq_true rfl) (Nat.le_of_ble_eq_true rfl) (by omega) (w_X6_push G (by omega)) (fun v42 s42 hN => ?_)
                    refine e_goto (t := 426) m_X6_type dX6_type_268 (by decide) ?_
                    exact e_ret0 m_X6_type dX6_type_426
              · refine e_bipush (v := nI 25) m_X6_type dX6_type_195 (by decide) ?_
                refine e_aload_n m_X6_type dX6_type_197 rfl rfl rfl ?_
                refine e_getf m_X6_type dX6_type_198 f_RX6_77 (gM_m G) rfl ?_
                refine e_cvN (as := [.int (nI x1), .int (nI 25), .int (nI (m_at s8))]) hN m_X6_type dX6_type_201 c_RX6_99 (by decide) rfl rfl (gM_m G) rfl (Nat.le_of_ble_eq_true rfl) (Nat.le_of_ble_eq_true rfl) (by omega) (w_X6_child G (by omega)) (fun v43 s43 hN => ?_)
                refine e_istore m_X6_type dX6_type_204 (by decide) rfl ?_
                refine e_aload_n m_X6_type dX6_type_206 rfl rfl rfl ?_
                refine e_dup m_X6_type dX6_type_207 rfl ?_
                refine e_getf m_X6_type dX6_type_208 f_RX6_77 (gM_m G) rfl ?_
                refine e_iconst (v := nI 1) m_X6_type dX6_type_211 (by decide) ?_
                refine e_iaddN m_X6_type dX6_type_212 ?_
                refine e_putf (v := .int (nI ((m_at s43) + 1))) (h' := TM h0 (w_at s43 ((m_at s43) + 1))) m_X6_type dX6_type_213 f_RX6_77 (gM_m G) (Nat.le_of_ble_eq_true rfl) (fit_i rfl) rfl (hpL_set (k := 10) (by decide) (Nat.le_of_ble_eq_true rfl)) ?_
                refine e_st hN (fun s44 hN => ?_)
                refine e_iload_n m_X6_type dX6_type_216 rfl rfl ?_
                refine e_bipush (v := nI 64) m_X6_type dX6_type_217 (by decide) ?_
                refine e_ine (t := 231) (a := v1) (b := 64) hN m_X6_type dX6_type_219 (by decide) (fun q45 hN => ?_) (fun q45 hN => ?_)
                · refine e_aload_n m_X6_type dX6_type_222 rfl rfl rfl ?_
                  refine e_bipush (v := nI 12) m_X6_type dX6_type_223 (by decide) ?_
                  refine e_cvU (as := [.int (nI 12)]) hN m_X6_type dX6_type_225 c_RX6_141 (by decide) rfl rfl (gM_m G) rfl (Nat.le_of_ble_eq_true rfl) (Nat.le_of_ble_eq_true rfl) (by omega) (w_X6_pass G (by omega)) (fun v46 s46 hN => ?_)
                  refine e_goto (t := 259) m_X6_type dX6_type_228 (by decide) ?_
                  refine e_aload_n m_X6_type dX6_type_259 rfl rfl rfl ?_
                  refine e_bipush (v := nI 18) m_X6_type dX6_type_260 (by decide) ?_
                  refine e_iload m_X6_type dX6_type_262 rfl ?_
                  refine e_iconst (v := nI 0) m_X6_type dX6_type_264 (by decide) ?_
                  refine e_cvU (as := [.int (nI 18), .int (nI v43), .int (nI 0)]) hN m_X6_type dX6_type_265 c_RX6_106 (by decide) rfl rfl (gM_m G) rfl (Nat.le_of_ble_eq_true rfl) (Nat.le_of_ble_eq_true rfl) (by omega) (w_X6_push G (by omega)) (fun v47 s47 hN => ?_)
                  refine e_goto (t := 426) m_X6_type dX6_type_268 (by decide) ?_
                  exact e_ret0 m_X6_type dX6_type_426
                · refine e_aload_n m_X6_type dX6_type_231 rfl rfl rfl ?_
                  refine e_cvN (as := []) hN m_X6_type dX6_type_232 c_RX6_83 (by decide) rfl rfl (gM_m G) rfl (Nat.le_of_ble_eq_true rfl) (Nat.le_of_ble_eq_true rfl) (by omega) (w_X6_look G (by omega)) (fun v48 s48 hN => ?_)
                  refine e_bipush (v := nI 64) m_X6_type dX6_type_235 (by decide) ?_
                  refine e_ine (t := 259) (a := v48) (b := 64) hN m_X6_type dX6_type_237 (by decide) (fun q49 hN => ?_) (fun q49 hN => ?_)
                  · refine e_aload_n m_X6_type dX6_type_240 rfl rfl rfl ?_
                    refine e_getf m_X6_type dX6_type_241 f_RX6_14 (gM_m G) rfl ?_
                    refine e_iload m_X6_type dX6_type_244 rfl ?_
                    refine e_bipush (v := nI 24) m_X6_type dX6_type_246 (by decide) ?_
                    refine e_ck hN (fun q50 hN => ?_)
                    refine e_astN (v := 24) (h' := TM h0 (w_wh s48 (upN (m_wh s48) v43 24))) q50 (by decide) m_X6_type dX6_type_248 (gM_wh G) (hpL_set (k := 12) (by decide) (Nat.le_of_ble_eq_true rfl)) ?_
                    refine e_st hN (fun s51 hN => ?_)
                    refine e_aload_n m_X6_type dX6_type_249 rfl rfl rfl ?_
                    refine e_dup m_X6_type dX6_type_250 rfl ?_
                    refine e_getf m_X6_type dX6_type_251 f_RX6_77 (gM_m G) rfl ?_
                    refine e_iconst (v := nI 1) m_X6_type dX6_type_254 (by decide) ?_
                    refine e_iaddN m_X6_type dX6_type_255 ?_
                    refine e_putf (v := .int (nI ((m_at s51) + 1))) (h' := TM h0 (w_at s51 ((m_at s51) + 1))) m_X6_type dX6_type_256 f_RX6_77 (gM_m G) (Nat.le_of_ble_eq_true rfl) (fit_i rfl) rfl (hpL_set (k := 10) (by decide) (Nat.le_of_ble_eq_true rfl)) ?_
                    refine e_st hN (fun s52 hN => ?_)
                    refine e_aload_n m_X6_type dX6_type_259 rfl rfl rfl ?_
                    refine e_bipush (v := nI 18) m_X6_type dX6_type_260 (by decide) ?_
                    refine e_iload m_X6_type dX6_type_262 rfl ?_
                    refine e_iconst (v := nI 0) m_X6_type dX6_type_264 (by decide) ?_
                    refine e_cvU (as := [.int (nI 18), .int (nI v43), .int (nI 0)]) hN m_X6_type dX6_type_265 c_RX6_106 (by decide) rfl rfl (gM_m G) rfl (Nat.le_of_ble_eq_true rfl) (Nat.le_of_ble_eq_true rfl) (by omega) (w_X6_push G (by omega)) (fun v53 s53 hN => ?_)
                    refine e_goto (t := 426) m_X6_type dX6_type_268 (by decide) ?_
                    exact e_ret0 m_X6_type dX6_type_426
                  · refine e_aload_n m_X6_type dX6_type_259 rfl rfl rfl ?_
                    refine e_bipush (v := nI 18) m_X6_type dX6_type_260 (by decide) ?_
                    refine e_iload m_X6_type dX6_type_262 rfl ?_
                    refine e_iconst (v := nI 0) m_X6_type dX6_type_264 (by decide) ?_
                    refine e_cvU (as := [.int (nI 18), .int (nI v43), .int (nI 0)]) hN m_X6_type dX6_type_265 c_RX6_106 (by decide) rfl rfl (gM_m G) rfl (Nat.le_of_ble_eq_true rfl) (Nat.le_of_ble_eq_true rfl) (by omega) (w_X6_push G (by omega)) (fun v54 s54 hN => ?_)
                    refine e_goto (t := 426) m_X6_type dX6_type_268 (by decide) ?_
                    exact e_ret0 m_X6_type dX6_type_426
            · refine e_iload_n m_X6_type dX6_type_176 rfl rfl ?_
              refine e_bipush (v := nI 64) m_X6_type dX6_type_177 (by decide) ?_
              refine e_ine (t := 271) (a := v1) (b := 64) hN m_X6_type dX6_type_179 (by decide) (fun q55 hN => ?_) (fun q55 hN => ?_)
              · refine e_aload_n m_X6_type dX6_type_182 rfl rfl rfl ?_
                refine e_iload_n m_X6_type dX6_type_183 rfl rfl ?_
                refine e_iload_n m_X6_type dX6_type_184 rfl rfl ?_
                refine e_bipush (v := nI 12) m_X6_type dX6_type_185 (by decide) ?_
                refine e_ine (t := 195) (a := v1) (b := 12) hN m_X6_type dX6_type_187 (by decide) (fun q56 hN => ?_) (fun q56 hN => ?_)
                · refine e_bipush (v := nI 23) m_X6_type dX6_type_190 (by decide) ?_
                  refine e_goto (t := 197) m_X6_type dX6_type_192 (by decide) ?_
                  refine e_aload_n m_X6_type dX6_type_197 rfl rfl rfl ?_
                  refine e_getf m_X6_type dX6_type_198 f_RX6_77 (gM_m G) rfl ?_
                  refine e_cvN (as := [.int (nI x1), .int (nI 23), .int (nI (m_at s8))]) hN m_X6_type dX6_type_201 c_RX6_99 (by decide) rfl rfl (gM_m G) rfl (Nat.le_of_ble_eq_true rfl) (Nat.le_of_ble_eq_true rfl) (by omega) (w_X6_child G (by omega)) (fun v57 s57 hN => ?_)
                  refine e_istore m_X6_type dX6_type_204 (by decide) rfl ?_
                  refine e_aload_n m_X6_type dX6_type_206 rfl rfl rfl ?_
                  refine e_dup m_X6_type dX6_type_207 rfl ?_
                  refine e_getf m_X6_type dX6_type_208 f_RX6_77 (gM_m G) rfl ?_
                  refine e_iconst (v := nI 1) m_X6_type dX6_type_211 (by decide) ?_
                  refine e_iaddN m_X6_type dX6_type_212 ?_
                  refine e_putf (v := .int (nI ((m_at s57) + 1))) (h' := TM h0 (w_at s57 ((m_at s57) + 1))) m_X6_type dX6_type_213 f_RX6_77 (gM_m G) (Nat.le_of_ble_eq_true rfl) (fit_i rfl) rfl (hpL_set (k := 10) (by decide) (Nat.le_of_ble_eq_true rfl)) ?_
                  refine e_st hN (fun s58 hN => ?_)
                  refine e_iload_n m_X6_type dX6_type_216 rfl rfl ?_
                  refine e_bipush (v := nI 64) m_X6_type dX6_type_217 (by decide) ?_
                  refine e_ine (t := 231) (a := v1) (b := 64) hN m_X6_type dX6_type_219 (by decide) (fun q59 hN => ?_) (fun q59 hN => ?_)
                  · refine e_aload_n m_X6_type dX6_type_222 rfl rfl rfl ?_
                    refine e_bipush (v := nI 12) m_X6_type dX6_type_223 (by decide) ?_
                    refine e_cvU (as := [.int (nI 12)]) hN m_X6_type dX6_type_225 c_RX6_141 (by decide) rfl rfl (gM_m G) rfl (Nat.le_of_ble_eq_true rfl) (Nat.le_of_ble_eq_true rfl) (by omega) (w_X6_pass G (by omega)) (fun v60 s60 hN => ?_)
                    refine e_goto (t := 259) m_X6_type dX6_type_228 (by decide) ?_
                    refine e_aload_n m_X6_type dX6_type_259 rfl rfl rfl ?_
                    refine e_bipush (v := nI 18) m_X6_type dX6_type_260 (by decide) ?_
                    refine e_iload m_X6_type dX6_type_262 rfl ?_
                    refine e_iconst (v := nI 0) m_X6_type dX6_type_264 (by decide) ?_
                    refine e_cvU (as := [.int (nI 18), .int (nI v57), .int (nI 0)]) hN m_X6_type dX6_type_265 c_RX6_106 (by decide) rfl rfl (gM_m G) rfl (Nat.le_of_ble_eq_true rfl) (Nat.le_of_ble_eq_true rfl) (by omega) (w_X6_push G (by omega)) (fun v61 s61 hN => ?_)
                    refine e_goto (t := 426) m_X6_type dX6_type_268 (by decide) ?_
                    exact e_ret0 m_X6_type dX6_type_426
                  · refine e_aload_n m_X6_type dX6_type_231 rfl rfl rfl ?_
                    refine e_cvN (as := []) hN m_X6_type dX6_type_232 c_RX6_83 (by decide) rfl rfl (gM_m G) rfl (Nat.le_of_ble_eq_true rfl) (Nat.le_of_ble_eq_true rfl) (by omega) (w_X6_look G (by omega)) (fun v62 s62 hN => ?_)
                    refine e_bipush (v := nI 64) m_X6_type dX6_type_235 (by decide) ?_
                    refine e_ine (t := 259) (a := v62) (b := 64) hN m_X6_type dX6_type_237 (by decide) (fun q63 hN => ?_) (fun q63 hN => ?_)
                    · refine e_aload_n m_X6_type dX6_type_240 rfl rfl rfl ?_
                      refine e_getf m_X6_type dX6_type_241 f_RX6_14 (gM_m G) rfl ?_
                      refine e_iload m_X6_type dX6_type_244 rfl ?_
                      refine e_bipush (v := nI 24) m_X6_type dX6_type_246 (by decide) ?_
                      refine e_ck hN (fun q64 hN => ?_)
                      refine e_astN (v := 24) (h' := TM h0 (w_wh s62 (upN (m_wh s62) v57 24))) q64 (by decide) m_X6_type dX6_type_248 (gM_wh G) (hpL_set (k := 12) (by decide) (Nat.le_of_ble_eq_true rfl)) ?_
                      refine e_st hN (fun s65 hN => ?_)
                      refine e_aload_n m_X6_type dX6_type_249 rfl rfl rfl ?_
                      refine e_dup m_X6_type dX6_type_250 rfl ?_
                      refine e_getf m_X6_type dX6_type_251 f_RX6_77 (gM_m G) rfl ?_
                      refine e_iconst (v := nI 1) m_X6_type dX6_type_254 (by decide) ?_
                      refine e_iaddN m_X6_type dX6_type_255 ?_
                      refine e_putf (v := .int (nI ((m_at s65) + 1))) (h' := TM h0 (w_at s65 ((m_at s65) + 1))) m_X6_type dX6_type_256 f_RX6_77 (gM_m G) (Nat.le_of_ble_eq_true rfl) (fit_i rfl) rfl (hpL_set (k := 10) (by decide) (Nat.le_of_ble_eq_true rfl)) ?_
                      refine e_st hN (fun s66 hN => ?_)
                      refine e_aload_n m_X6_type dX6_type_259 rfl rfl rfl ?_
                      refine e_bipush (v := nI 18) m_X6_type dX6_type_260 (by decide) ?_
                      refine e_iload m_X6_type dX6_type_262 rfl ?_
                      refine e_iconst (v := nI 0) m_X6_type dX6_type_264 (by decide) ?_
                      refine e_cvU (as := [.int (nI 18), .int (nI v57), .int (nI 0)]) hN m_X6_type dX6_type_265 c_RX6_106 (by decide) rfl rfl (gM_m G) rfl (Nat.le_of_ble_eq_true rfl) (Nat.le_of_ble_eq_true rfl) (by omega) (w_X6_push G (by omega)) (fun v67 s67 hN => ?_)
                      refine e_goto (t := 426) m_X6_type dX6_type_268 (by decide) ?_
                      exact e_ret0 m_X6_type dX6_type_426
                    · refine e_aload_n m_X6_type dX6_type_259 rfl rfl rfl ?_
                      refine e_bipush (v := nI 18) m_X6_type dX6_type_260 (by decide) ?_
                      refine e_iload m_X6_type dX6_type_262 rfl ?_
                      refine e_iconst (v := nI 0) m_X6_type dX6_type_264 (by decide) ?_
                      refine e_cvU (as := [.int (nI 18), .int (nI v57), .int (nI 0)]) hN m_X6_type dX6_type_265 c_RX6_106 (by decide) rfl rfl (gM_m G) rfl (Nat.le_of_ble_eq_true rfl) (Nat.le_of_ble_eq_true rfl) (by omega) (w_X6_push G (by omega)) (fun v68 s68 hN => ?_)
                      refine e_goto (t := 426) m_X6_type dX6_type_268 (by decide) ?_
                      exact e_ret0 m_X6_type dX6_type_426
                · refine e_bipush (v := nI 25) m_X6_type dX6_type_195 (by decide) ?_
                  refine e_aload_n m_X6_type dX6_type_197 rfl rfl rfl ?_
                  refine e_getf m_X6_type dX6_type_198 f_RX6_77 (gM_m G) rfl ?_
                  refine e_cvN (as := [.int (nI x1), .int (nI 25), .int (nI (m_at s8))]) hN m_X6_type dX6_type_201 c_RX6_99 (by decide) rfl rfl (gM_m G) rfl (Nat.le_of_ble_eq_true rfl) (Nat.le_of_ble_eq_true rfl) (by omega) (w_X6_child G (by omega)) (fun v69 s69 hN => ?_)
                  refine e_istore m_X6_type dX6_type_204 (by decide) rfl ?_
                  refine e_aload_n m_X6_type dX6_type_206 rfl rfl rfl ?_
                  refine e_dup m_X6_type dX6_type_207 rfl ?_
                  refine e_getf m_X6_type dX6_type_208 f_RX6_77 (gM_m G) rfl ?_
                  refine e_iconst (v := nI 1) m_X6_type dX6_type_211 (by decide) ?_
                  refine e_iaddN m_X6_type dX6_type_212 ?_
                  refine e_putf (v := .int (nI ((m_at s69) + 1))) (h' := TM h0 (w_at s69 ((m_at s69) + 1))) m_X6_type dX6_type_213 f_RX6_77 (gM_m G) (Nat.le_of_ble_eq_true rfl) (fit_i rfl) rfl (hpL_set (k := 10) (by decide) (Nat.le_of_ble_eq_true rfl)) ?_
                  refine e_st hN (fun s70 hN => ?_)
                  refine e_iload_n m_X6_type dX6_type_216 rfl rfl ?_
                  refine e_bipush (v := nI 64) m_X6_type dX6_type_217 (by decide) ?_
                  refine e_ine (t := 231) (a := v1) (b := 64) hN m_X6_type dX6_type_219 (by decide) (fun q71 hN => ?_) (fun q71 hN => ?_)
                  · refine e_aload_n m_X6_type dX6_type_222 rfl rfl rfl ?_
                    refine e_bipush (v := nI 12) m_X6_type dX6_type_223 (by decide) ?_
                    refine e_cvU (as := [.int (nI 12)]) hN m_X6_type dX6_type_225 c_RX6_141 (by decide) rfl rfl (gM_m G) rfl (Nat.le_of_ble_eq_true rfl) (Nat.le_of_ble_eq_true rfl) (by omega) (w_X6_pass G (by omega)) (fun v72 s72 hN => ?_)
                    refine e_goto (t := 259) m_X6_type dX6_type_228 (by decide) ?_
                    refine e_aload_n m_X6_type dX6_type_259 rfl rfl rfl ?_
                    refine e_bipush (v := nI 18) m_X6_type dX6_type_260 (by decide) ?_
                    refine e_iload m_X6_type dX6_type_262 rfl ?_
                    refine e_iconst (v := nI 0) m_X6_type dX6_type_264 (by decide) ?_
                    refine e_cvU (as := [.int (nI 18), .int (nI v69), .int (nI 0)]) hN m_X6_type dX6_type_265 c_RX6_106 (by decide) rfl rfl (gM_m G) rfl (Nat.le_of_ble_eq_true rfl) (Nat.le_of_ble_eq_true rfl) (by omega) (w_X6_push G (by omega)) (fun v73 s73 hN => ?_)
                    refine e_goto (t := 426) m_X6_type dX6_type_268 (by decide) ?_
                    exact e_ret0 m_X6_type dX6_type_426
                  · refine e_aload_n m_X6_type dX6_type_231 rfl rfl rfl ?_
                    refine e_cvN (as := []) hN m_X6_type dX6_type_232 c_RX6_83 (by decide) rfl rfl (gM_m G) rfl (Nat.le_of_ble_eq_true rfl) (Nat.le_of_ble_eq_true rfl) (by omega) (w_X6_look G (by omega)) (fun v74 s74 hN => ?_)
                    refine e_bipush (v := nI 64) m_X6_type dX6_type_235 (by decide) ?_
                    refine e_ine (t := 259) (a := v74) (b := 64) hN m_X6_type dX6_type_237 (by decide) (fun q75 hN => ?_) (fun q75 hN => ?_)
                    · refine e_aload_n m_X6_type dX6_type_240 rfl rfl rfl ?_
                      refine e_getf m_X6_type dX6_type_241 f_RX6_14 (gM_m G) rfl ?_
                      refine e_iload m_X6_type dX6_type_244 rfl ?_
                      refine e_bipush (v := nI 24) m_X6_type dX6_type_246 (by decide) ?_
                      refine e_ck hN (fun q76 hN => ?_)
                      refine e_astN (v := 24) (h' := TM h0 (w_wh s74 (upN (m_wh s74) v69 24))) q76 (by decide) m_X6_type dX6_type_248 (gM_wh G) (hpL_set (k := 12) (by decide) (Nat.le_of_ble_eq_true rfl)) ?_
                      refine e_st hN (fun s77 hN => ?_)
                      refine e_aload_n m_X6_type dX6_type_249 rfl rfl rfl ?_
                      refine e_dup m_X6_type dX6_type_250 rfl ?_
                      refine e_getf m_X6_type dX6_type_251 f_RX6_77 (gM_m G) rfl ?_
                      refine e_iconst (v := nI 1) m_X6_type dX6_type_254 (by decide) ?_
                      refine e_iaddN m_X6_type dX6_type_255 ?_
                      refine e_putf (v := .int (nI ((m_at s77) + 1))) (h' := TM h0 (w_at s77 ((m_at s77) + 1))) m_X6_type dX6_type_256 f_RX6_77 (gM_m G) (Nat.le_of_ble_eq_true rfl) (fit_i rfl) rfl (hpL_set (k := 10) (by decide) (Nat.le_of_ble_eq_true rfl)) ?_
                      refine e_st hN (fun s78 hN => ?_)
                      refine e_aload_n m_X6_type dX6_type_259 rfl rfl rfl ?_
                      refine e_bipush (v := nI 18) m_X6_type dX6_type_260 (by decide) ?_
                      refine e_iload m_X6_type dX6_type_262 rfl ?_
                      refine e_iconst (v := nI 0) m_X6_type dX6_type_264 (by decide) ?_
                      refine e_cvU (as := [.int (nI 18), .int (nI v69), .int (nI 0)]) hN m_X6_type dX6_type_265 c_RX6_106 (by decide) rfl rfl (gM_m G) rfl (Nat.le_of_ble_eq_true rfl) (Nat.le_of_ble_eq_true rfl) (by omega) (w_X6_push G (by omega)) (fun v79 s79 hN => ?_)
                      refine e_goto (t := 426) m_X6_type dX6_type_268 (by decide) ?_
                      exact e_ret0 m_X6_type dX6_type_426
                    · refine e_aload_n m_X6_type dX6_type_259 rfl rfl rfl ?_
                      refine e_bipush (v := nI 18) m_X6_type dX6_type_260 (by decide) ?_
                      refine e_iload m_X6_type dX6_type_262 rfl ?_
                      refine e_iconst (v := nI 0) m_X6_type dX6_type_264 (by decide) ?_
                      refine e_cvU (as := [.int (nI 18), .int (nI v69), .int (nI 0)]) hN m_X6_type dX6_type_265 c_RX6_106 (by decide) rfl rfl (gM_m G) rfl (Nat.le_of_ble_eq_true rfl) (Nat.le_of_ble_eq_true rfl) (by omega) (w_X6_push G (by omega)) (fun v80 s80 hN => ?_)
                      refine e_goto (t := 426) m_X6_type dX6_type_268 (by decide) ?_
                      exact e_ret0 m_X6_type dX6_type_426
              · refine e_iload_n m_X6_type dX6_type_271 rfl rfl ?_
                refine e_bipush (v := nI 42) m_X6_type dX6_type_272 (by decide) ?_
                refine e_ine (t := 312) (a := v1) (b := 42) hN m_X6_type dX6_type_274 (by decide) (fun q81 hN => ?_) (fun q81 hN => ?_)
                · refine e_aload_n m_X6_type dX6_type_277 rfl rfl rfl ?_
                  refine e_iload_n m_X6_type dX6_type_278 rfl rfl ?_
                  refine e_bipush (v := nI 26) m_X6_type dX6_type_279 (by decide) ?_
                  refine e_aload_n m_X6_type dX6_type_281 rfl rfl rfl ?_
                  refine e_getf m_X6_type dX6_type_282 f_RX6_77 (gM_m G) rfl ?_
                  refine e_cvN (as := [.int (nI x1), .int (nI 26), .int (nI (m_at s8))]) hN m_X6_type dX6_type_285 c_RX6_99 (by decide) rfl rfl (gM_m G) rfl (Nat.le_of_ble_eq_true rfl) (Nat.le_of_ble_eq_true rfl) (by omega) (w_X6_child G (by omega)) (fun v82 s82 hN => ?_)
                  refine e_istore m_X6_type dX6_type_288 (by decide) rfl ?_
                  refine e_aload_n m_X6_type dX6_type_290 rfl rfl rfl ?_
                  refine e_dup m_X6_type dX6_type_291 rfl ?_
                  refine e_getf m_X6_type dX6_type_292 f_RX6_77 (gM_m G) rfl ?_
                  refine e_iconst (v := nI 1) m_X6_type dX6_type_295 (by decide) ?_
                  refine e_iaddN m_X6_type dX6_type_296 ?_
                  refine e_putf (v := .int (nI ((m_at s82) + 1))) (h' := TM h0 (w_at s82 ((m_at s82) + 1))) m_X6_type dX6_type_297 f_RX6_77 (gM_m G) (Nat.le_of_ble_eq_true rfl) (fit_i rfl) rfl (hpL_set (k := 10) (by decide) (Nat.le_of_ble_eq_true rfl)) ?_
                  refine e_st hN (fun s83 hN => ?_)
                  refine e_aload_n m_X6_type dX6_type_300 rfl rfl rfl ?_
                  refine e_bipush (v := nI 18) m_X6_type dX6_type_301 (by decide) ?_
                  refine e_iload m_X6_type dX6_type_303 rfl ?_
                  refine e_iconst (v := nI 0) m_X6_type dX6_type_305 (by decide) ?_
                  refine e_cvU (as := [.int (nI 18), .int (nI v82), .int (nI 0)]) hN m_X6_type dX6_type_306 c_RX6_106 (by decide) rfl rfl (gM_m G) rfl (Nat.le_of_ble_eq_true rfl) (Nat.le_of_ble_eq_true rfl) (by omega) (w_X6_push G (by omega)) (fun v84 s84 hN => ?_)
                  refine e_goto (t := 426) m_X6_type dX6_type_309 (by decide) ?_
                  exact e_ret0 m_X6_type dX6_type_426
                · refine e_iload_n m_X6_type dX6_type_312 rfl rfl ?_
                  refine e_bipush (v := nI 20) m_X6_type dX6_type_313 (by decide) ?_
                  refine e_ine (t := 353) (a := v1) (b := 20) hN m_X6_type dX6_type_315 (by decide) (fun q85 hN => ?_) (fun q85 hN => ?_)
                  · refine e_aload_n m_X6_type dX6_type_318 rfl rfl rfl ?_
                    refine e_iload_n m_X6_type dX6_type_319 rfl rfl ?_
                    refine e_bipush (v := nI 29) m_X6_type dX6_type_320 (by decide) ?_
                    refine e_aload_n m_X6_type dX6_type_322 rfl rfl rfl ?_
                    refine e_getf m_X6_type dX6_type_323 f_RX6_77 (gM_m G) rfl ?_
                    refine e_cvN (as := [.int (nI x1), .int (nI 29), .int (nI (m_at s8))]) hN m_X6_type dX6_type_326 c_RX6_99 (by decide) rfl rfl (gM_m G) rfl (Nat.le_of_ble_eq_true rfl) (Nat.le_of_ble_eq_true rfl) (by omega) (w_X6_child G (by omega)) (fun v86 s86 hN => ?_)
                    refine e_istore m_X6_type dX6_type_329 (by decide) rfl ?_
                    refine e_aload_n m_X6_type dX6_type_331 rfl rfl rfl ?_
                    refine e_dup m_X6_type dX6_type_332 rfl ?_
                    refine e_getf m_X6_type dX6_type_333 f_RX6_77 (gM_m G) rfl ?_
                    refine e_iconst (v := nI 1) m_X6_type dX6_type_336 (by decide) ?_
                    refine e_iaddN m_X6_type dX6_type_337 ?_
                    refine e_putf (v := .int (nI ((m_at s86) + 1))) (h' := TM h0 (w_at s86 ((m_at s86) + 1))) m_X6_type dX6_type_338 f_RX6_77 (gM_m G) (Nat.le_of_ble_eq_true rfl) (fit_i rfl) rfl (hpL_set (k := 10) (by decide) (Nat.le_of_ble_eq_true rfl)) ?_
                    refine e_st hN (fun s87 hN => ?_)
                    refine e_aload_n m_X6_type dX6_type_341 rfl rfl rfl ?_
                    refine e_bipush (v := nI 21) m_X6_type dX6_type_342 (by decide) ?_
                    refine e_iload m_X6_type dX6_type_344 rfl ?_
                    refine e_iconst (v := nI 0) m_X6_type dX6_type_346 (by decide) ?_
                    refine e_cvU (as := [.int (nI 21), .int (nI v86), .int (nI 0)]) hN m_X6_type dX6_type_347 c_RX6_106 (by decide) rfl rfl (gM_m G) rfl (Nat.le_of_ble_eq_true rfl) (Nat.le_of_ble_eq_true rfl) (by omega) (w_X6_push G (by omega)) (fun v88 s88 hN => ?_)
                    refine e_goto (t := 426) m_X6_type dX6_type_350 (by decide) ?_
                    exact e_ret0 m_X6_type dX6_type_426
                  · refine e_aload_n m_X6_type dX6_type_353 rfl rfl rfl ?_
                    refine e_iload_n m_X6_type dX6_type_354 rfl rfl ?_
                    refine e_iload_n m_X6_type dX6_type_355 rfl rfl ?_
                    refine e_bipush (v := nI 31) m_X6_type dX6_type_356 (by decide) ?_
                    refine e_ine (t := 366) (a := v1) (b := 31) hN m_X6_type dX6_type_358 (by decide) (fun q89 hN => ?_) (fun q89 hN => ?_)
                    · refine e_bipush (v := nI 27) m_X6_type dX6_type_361 (by decide) ?_
                      refine e_goto (t := 368) m_X6_type dX6_type_363 (by decide) ?_
                      refine e_aload_n m_X6_type dX6_type_368 rfl rfl rfl ?_
                      refine e_getf m_X6_type dX6_type_369 f_RX6_77 (gM_m G) rfl ?_
                      refine e_cvN (as := [.int (nI x1), .int (nI 27), .int (nI (m_at s8))]) hN m_X6_type dX6_type_372 c_RX6_99 (by decide) rfl rfl (gM_m G) rfl (Nat.le_of_ble_eq_true rfl) (Nat.le_of_ble_eq_true rfl) (by omega) (w_X6_child G (by omega)) (fun v90 s90 hN => ?_)
                      refine e_istore m_X6_type dX6_type_375 (by decide) rfl ?_
                      refine e_aload_n m_X6_type dX6_type_377 rfl rfl rfl ?_
                      refine e_dup m_X6_type dX6_type_378 rfl ?_
                      refine e_getf m_X6_type dX6_type_379 f_RX6_77 (gM_m G) rfl ?_
                      refine e_iconst (v := nI 1) m_X6_type dX6_type_382 (by decide) ?_
                      refine e_iaddN m_X6_type dX6_type_383 ?_
                      refine e_putf (v := .int (nI ((m_at s90) + 1))) (h' := TM h0 (w_at s90 ((m_at s90) + 1))) m_X6_type dX6_type_384 f_RX6_77 (gM_m G) (Nat.le_of_ble_eq_true rfl) (fit_i rfl) rfl (hpL_set (k := 10) (by decide) (Nat.le_of_ble_eq_true rfl)) ?_
                      refine e_st hN (fun s91 hN => ?_)
                      refine e_aload_n m_X6_type dX6_type_387 rfl rfl rfl ?_
                      refine e_cvN (as := []) hN m_X6_type dX6_type_388 c_RX6_83 (by decide) rfl rfl (gM_m G) rfl (Nat.le_of_ble_eq_true rfl) (Nat.le_of_ble_eq_true rfl) (by omega) (w_X6_look G (by omega)) (fun v92 s92 hN => ?_)
                      refine e_bipush (v := nI 82) m_X6_type dX6_type_391 (by decide) ?_
                      refine e_ine (t := 400) (a := v92) (b := 82) hN m_X6_type dX6_type_393 (by decide) (fun q93 hN => ?_) (fun q93 hN => ?_)
                      · refine e_aload_n m_X6_type dX6_type_396 rfl rfl rfl ?_
                        refine e_cvU (as := []) hN m_X6_type dX6_type_397 c_RX6_123 (by decide) rfl rfl (gM_m G) rfl (Nat.le_of_ble_eq_true rfl) (Nat.le_of_ble_eq_true rfl) (by omega) (w_X6_more G (by omega)) (fun v94 s94 hN => ?_)
                        refine e_aload_n m_X6_type dX6_type_400 rfl rfl rfl ?_
                        refine e_bipush (v := nI 82) m_X6_type dX6_type_401 (by decide) ?_
                        refine e_cvU (as := [.int (nI 82)]) hN m_X6_type dX6_type_403 c_RX6_141 (by decide) rfl rfl (gM_m G) rfl (Nat.le_of_ble_eq_true rfl) (Nat.le_of_ble_eq_true rfl) (by omega) (w_X6_pass G (by omega)) (fun v95 s95 hN => ?_)
                        refine e_aload_n m_X6_type dX6_type_406 rfl rfl rfl ?_
                        refine e_iload_n m_X6_type dX6_type_407 rfl rfl ?_
                        refine e_bipush (v := nI 31) m_X6_type dX6_type_408 (by decide) ?_
                        refine e_ine (t := 418) (a := v1) (b := 31) hN m_X6_type dX6_type_410 (by decide) (fun q96 hN => ?_) (fun q96 hN => ?_)
                        · refine e_bipush (v := nI 26) m_X6_type dX6_type_413 (by decide) ?_
                          refine e_goto (t := 420) m_X6_type dX6_type_415 (by decide) ?_
                          refine e_iload m_X6_type dX6_type_420 rfl ?_
                          refine e_iconst (v := nI 0) m_X6_type dX6_type_422 (by decide) ?_
                          refine e_cvU (as := [.int (nI 26), .int (nI v90), .int (nI 0)]) hN m_X6_type dX6_type_423 c_RX6_106 (by decide) rfl rfl (gM_m G) rfl (Nat.le_of_ble_eq_true rfl) (Nat.le_of_ble_eq_true rfl) (by omega) (w_X6_push G (by omega)) (fun v97 s97 hN => ?_)
                          exact e_ret0 m_X6_type dX6_type_426
                        · refine e_bipush (v := nI 28) m_X6_type dX6_type_418 (by decide) ?_
                          refine e_iload m_X6_type dX6_type_420 rfl ?_
                          refine e_iconst (v := nI 0) m_X6_type dX6_type_422 (by decide) ?_
                          refine e_cvU (as := [.int (nI 28), .int (nI v90), .int (nI 0)]) hN m_X6_type dX6_type_423 c_RX6_106 (by decide) rfl rfl (gM_m G) rfl (Nat.le_of_ble_eq_true rfl) (Nat.le_of_ble_eq_true rfl) (by omega) (w_X6_push G (by omega)) (fun v98 s98 hN => ?_)
                          exact e_ret0 m_X6_type dX6_type_426
                      · refine e_aload_n m_X6_type dX6_type_400 rfl rfl rfl ?_
                        refine e_bipush (v := nI 82) m_X6_type dX6_type_401 (by decide) ?_
                        refine e_cvU (as := [.int (nI 82)]) hN m_X6_type dX6_type_403 c_RX6_141 (by decide) rfl rfl (gM_m G) rfl (Nat.le_of_ble_eq_true rfl) (Nat.le_of_ble_eq_true rfl) (by omega) (w_X6_pass G (by omega)) (fun v99 s99 hN => ?_)
                        refine e_aload_n m_X6_type dX6_type_406 rfl rfl rfl ?_
                        refine e_iload_n m_X6_type dX6_type_407 rfl rfl ?_
                        refine e_bipush (v := nI 31) m_X6_type dX6_type_408 (by decide) ?_
                        refine e_ine (t := 418) (a := v1) (b := 31) hN m_X6_type dX6_type_410 (by decide) (fun q100 hN => ?_) (fun q100 hN => ?_)
                        · refine e_bipush (v := nI 26) m_X6_type dX6_type_413 (by decide) ?_
                          refine e_goto (t := 420) m_X6_type dX6_type_415 (by decide) ?_
                          refine e_iload m_X6_type dX6_type_420 rfl ?_
                          refine e_iconst (v := nI 0) m_X6_type dX6_type_422 (by decide) ?_
                          refine e_cvU (as := [.int (nI 26), .int (nI v90), .int (nI 0)]) hN m_X6_type dX6_type_423 c_RX6_106 (by decide) rfl rfl (gM_m G) rfl (Nat.le_of_ble_eq_true rfl) (Nat.le_of_ble_eq_true rfl) (by omega) (w_X6_push G (by omega)) (fun v101 s101 hN => ?_)
                          exact e_ret0 m_X6_type dX6_type_426
                        · refine e_bipush (v := nI 28) m_X6_type dX6_type_418 (by decide) ?_
                          refine e_iload m_X6_type dX6_type_420 rfl ?_
                          refine e_iconst (v := nI 0) m_X6_type dX6_type_422 (by decide) ?_
                          refine e_cvU (as := [.int (nI 28), .int (nI v90), .int (nI 0)]) hN m_X6_type dX6_type_423 c_RX6_106 (by decide) rfl rfl (gM_m G) rfl (Nat.le_of_ble_eq_true rfl) (Nat.le_of_ble_eq_true rfl) (by omega) (w_X6_push G (by omega)) (fun v102 s102 hN => ?_)
                          exact e_ret0 m_X6_type dX6_type_426
                    · refine e_bipush (v := nI 30) m_X6_type dX6_type_366 (by decide) ?_
                      refine e_aload_n m_X6_type dX6_type_368 rfl rfl rfl ?_
                      refine e_getf m_X6_type dX6_type_369 f_RX6_77 (gM_m G) rfl ?_
                      refine e_cvN (as := [.int (nI x1), .int (nI 30), .int (nI (m_at s8))]) hN m_X6_type dX6_type_372 c_RX6_99 (by decide) rfl rfl (gM_m G) rfl (Nat.le_of_ble_eq_true rfl) (Nat.le_of_ble_eq_true rfl) (by omega) (w_X6_child G (by omega)) (fun v103 s103 hN => ?_)
                      refine e_istore m_X6_type dX6_type_375 (by decide) rfl ?_
                      refine e_aload_n m_X6_type dX6_type_377 rfl rfl rfl ?_
                      refine e_dup m_X6_type dX6_type_378 rfl ?_
                      refine e_getf m_X6_type dX6_type_379 f_RX6_77 (gM_m G) rfl ?_
                      refine e_iconst (v := nI 1) m_X6_type dX6_type_382 (by decide) ?_
                      refine e_iaddN m_X6_type dX6_type_383 ?_
                      refine e_putf (v := .int (nI ((m_at s103) + 1))) (h' := TM h0 (w_at s103 ((m_at s103) + 1))) m_X6_type dX6_type_384 f_RX6_77 (gM_m G) (Nat.le_of_ble_eq_true rfl) (fit_i rfl) rfl (hpL_set (k := 10) (by decide) (Nat.le_of_ble_eq_true rfl)) ?_
                      refine e_st hN (fun s104 hN => ?_)
                      refine e_aload_n m_X6_type dX6_type_387 rfl rfl rfl ?_
                      refine e_cvN (as := []) hN m_X6_type dX6_type_388 c_RX6_83 (by decide) rfl rfl (gM_m G) rfl (Nat.le_of_ble_eq_true rfl) (Nat.le_of_ble_eq_true rfl) (by omega) (w_X6_look G (by omega)) (fun v105 s105 hN => ?_)
                      refine e_bipush (v := nI 82) m_X6_type dX6_type_391 (by decide) ?_
                      refine e_ine (t := 400) (a := v105) (b := 82) hN m_X6_type dX6_type_393 (by decide) (fun q106 hN => ?_) (fun q106 hN => ?_)
                      · refine e_aload_n m_X6_type dX6_type_396 rfl rfl rfl ?_
                        refine e_cvU (as := []) hN m_X6_type dX6_type_397 c_RX6_123 (by decide) rfl rfl (gM_m G) rfl (Nat.le_of_ble_eq_true rfl) (Nat.le_of_ble_eq_true rfl) (by omega) (w_X6_more G (by omega)) (fun v107 s107 hN => ?_)
                        refine e_aload_n m_X6_type dX6_type_400 rfl rfl rfl ?_
                        refine e_bipush (v := nI 82) m_X6_type dX6_type_401 (by decide) ?_
                        refine e_cvU (as := [.int (nI 82)]) hN m_X6_type dX6_type_403 c_RX6_141 (by decide) rfl rfl (gM_m G) rfl (Nat.le_of_ble_eq_true rfl) (Nat.le_of_ble_eq_true rfl) (by omega) (w_X6_pass G (by omega)) (fun v108 s108 hN => ?_)
                        refine e_aload_n m_X6_type dX6_type_406 rfl rfl rfl ?_
                        refine e_iload_n m_X6_type dX6_type_407 rfl rfl ?_
                        refine e_bipush (v := nI 31) m_X6_type dX6_type_408 (by decide) ?_
                        refine e_ine (t := 418) (a := v1) (b := 31) hN m_X6_type dX6_type_410 (by decide) (fun q109 hN => ?_) (fun q109 hN => ?_)
                        · refine e_bipush (v := nI 26) m_X6_type dX6_type_413 (by decide) ?_
                          refine e_goto (t := 420) m_X6_type dX6_type_415 (by decide) ?_
                          refine e_iload m_X6_type dX6_type_420 rfl ?_
                          refine e_iconst (v := nI 0) m_X6_type dX6_type_422 (by decide) ?_
                          refine e_cvU (as := [.int (nI 26), .int (nI v103), .int (nI 0)]) hN m_X6_type dX6_type_423 c_RX6_106 (by decide) rfl rfl (gM_m G) rfl (Nat.le_of_ble_eq_true rfl) (Nat.le_of_ble_eq_true rfl) (by omega) (w_X6_push G (by omega)) (fun v110 s110 hN => ?_)
                          exact e_ret0 m_X6_type dX6_type_426
                        · refine e_bipush (v := nI 28) m_X6_type dX6_type_418 (by decide) ?_
                          refine e_iload m_X6_type dX6_type_420 rfl ?_
                          refine e_iconst (v := nI 0) m_X6_type dX6_type_422 (by decide) ?_
                          refine e_cvU (as := [.int (nI 28), .int (nI v103), .int (nI 0)]) hN m_X6_type dX6_type_423 c_RX6_106 (by decide) rfl rfl (gM_m G) rfl (Nat.le_of_ble_eq_true rfl) (Nat.le_of_ble_eq_true rfl) (by omega) (w_X6_push G (by omega)) (fun v111 s111 hN => ?_)
                          exact e_ret0 m_X6_type dX6_type_426
                      · refine e_aload_n m_X6_type dX6_type_400 rfl rfl rfl ?_
                        refine e_bipush (v := nI 82) m_X6_type dX6_type_401 (by decide) ?_
                        refine e_cvU (as := [.int (nI 82)]) hN m_X6_type dX6_type_403 c_RX6_141 (by decide) rfl rfl (gM_m G) rfl (Nat.le_of_ble_eq_true rfl) (Nat.le_of_ble_eq_true rfl) (by omega) (w_X6_pass G (by omega)) (fun v112 s112 hN => ?_)
                        refine e_aload_n m_X6_type dX6_type_406 rfl rfl rfl ?_
                        refine e_iload_n m_X6_type dX6_type_407 rfl rfl ?_
                        refine e_bipush (v := nI 31) m_X6_type dX6_type_408 (by decide) ?_
                        refine e_ine (t := 418) (a := v1) (b := 31) hN m_X6_type dX6_type_410 (by decide) (fun q113 hN => ?_) (fun q113 hN => ?_)
                        · refine e_bipush (v := nI 26) m_X6_type dX6_type_413 (by decide) ?_
                          refine e_goto (t := 420) m_X6_type dX6_type_415 (by decide) ?_
                          refine e_iload m_X6_type dX6_type_420 rfl ?_
                          refine e_iconst (v := nI 0) m_X6_type dX6_type_422 (by decide) ?_
                          refine e_cvU (as := [.int (nI 26), .int (nI v103), .int (nI 0)]) hN m_X6_type dX6_type_423 c_RX6_106 (by decide) rfl rfl (gM_m G) rfl (Nat.le_of_ble_eq_true rfl) (Nat.le_of_ble_eq_true rfl) (by omega) (w_X6_push G (by omega)) (fun v114 s114 hN => ?_)
                          exact e_ret0 m_X6_type dX6_type_426
                        · refine e_bipush (v := nI 28) m_X6_type dX6_type_418 (by decide) ?_
                          refine e_iload m_X6_type dX6_type_420 rfl ?_
                          refine e_iconst (v := nI 0) m_X6_type dX6_type_422 (by decide) ?_
                          refine e_cvU (as := [.int (nI 28), .int (nI v103), .int (nI 0)]) hN m_X6_type dX6_type_423 c_RX6_106 (by decide) rfl rfl (gM_m G) rfl (Nat.le_of_ble_eq_true rfl) (Nat.le_of_ble_eq_true rfl) (by omega) (w_X6_push G (by omega)) (fun v115 s115 hN => ?_)
                          exact e_ret0 m_X6_type dX6_type_426

