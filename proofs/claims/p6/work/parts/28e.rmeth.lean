/-! The methods of the reference. -/
def b_X6_tops  (x1 : Nat) (s : Mm) : Rs Mm := ifl (m_at s) (m_ct s) (bn (b_X6_look  s) (fun v2 s2 => bn (b_X6_push 55 x1 0 s2) (fun v3 s3 => ife v2 13 (bn (b_X6_declaration x1 s3) (fun v5 s5 => okR 0 s5)) (ife v2 33 (bn (b_X6_declaration x1 s3) (fun v7 s7 => okR 0 s7)) (ife v2 34 (bn (b_X6_declaration x1 s3) (fun v9 s9 => okR 0 s9)) (ife v2 20 (bn (b_X6_function x1 s3) (fun v11 s11 => okR 0 s11)) (bn (b_X6_error  s3) (fun v12 s12 => okR 0 s12)))))))) (okR 0 s)
theorem w_X6_tops {xs : Nat → Int32} {L : Nat} {h0 : mm_H} (G : Mg h0) {x1 : Nat} {s : Mm} {d : Nat} (hd : 13 ≤ d) (hN : b_X6_tops  x1 s ≠ none) : Rn xs L d 215 [.ref 10, .int (nI x1)] (TM h0 s) (ou eU (TM h0) (b_X6_tops  x1 s)) := by
  unfold Rn
  unfold b_X6_tops at hN ⊢
  refine e_aload_n m_X6_tops dX6_tops_0 rfl rfl rfl ?_
  refine e_getf m_X6_tops dX6_tops_1 f_RX6_77 (gM_m G) rfl ?_
  refine e_aload_n m_X6_tops dX6_tops_4 rfl rfl rfl ?_
  refine e_getf m_X6_tops dX6_tops_5 f_RX6_72 (gM_m G) rfl ?_
  refine e_ilt (t := 12) (a := (m_at s)) (b := (m_ct s)) hN m_X6_tops dX6_tops_8 (by decide) (fun q1 hN => ?_) (fun q1 hN => ?_)
  · refine e_aload_n m_X6_tops dX6_tops_12 rfl rfl rfl ?_
    refine e_cvN (as := []) hN m_X6_tops dX6_tops_13 c_RX6_83 (by decide) rfl rfl (gM_m G) rfl (Nat.le_of_ble_eq_true rfl) (Nat.le_of_ble_eq_true rfl) (by omega) (w_X6_look G (by omega)) (fun v2 s2 hN => ?_)
    refine e_istore_n m_X6_tops dX6_tops_16 rfl (by decide) rfl ?_
    refine e_aload_n m_X6_tops dX6_tops_17 rfl rfl rfl ?_
    refine e_bipush (v := nI 55) m_X6_tops dX6_tops_18 (by decide) ?_
    refine e_iload_n m_X6_tops dX6_tops_20 rfl rfl ?_
    refine e_iconst (v := nI 0) m_X6_tops dX6_tops_21 (by decide) ?_
    refine e_cvU (as := [.int (nI 55), .int (nI x1), .int (nI 0)]) hN m_X6_tops dX6_tops_22 c_RX6_106 (by decide) rfl rfl (gM_m G) rfl (Nat.le_of_ble_eq_true rfl) (Nat.le_of_ble_eq_true rfl) (by omega) (w_X6_push G (by omega)) (fun v3 s3 hN => ?_)
    refine e_iload_n m_X6_tops dX6_tops_25 rfl rfl ?_
    refine e_bipush (v := nI 13) m_X6_tops dX6_tops_26 (by decide) ?_
    refine e_ieq (t := 43) (a := v2) (b := 13) hN m_X6_tops dX6_tops_28 (by decide) (fun q4 hN => ?_) (fun q4 hN => ?_)
    · refine e_aload_n m_X6_tops dX6_tops_43 rfl rfl rfl ?_
      refine e_iload_n m_X6_tops dX6_tops_44 rfl rfl ?_
      refine e_cvU (as := [.int (nI x1)]) hN m_X6_tops dX6_tops_45 c_RX6_165 (by decide) rfl rfl (gM_m G) rfl (Nat.le_of_ble_eq_true rfl) (Nat.le_of_ble_eq_true rfl) (by omega) (w_X6_declaration G (by omega)) (fun v5 s5 hN => ?_)
      refine e_goto (t := 69) m_X6_tops dX6_tops_48 (by decide) ?_
      exact e_ret0 m_X6_tops dX6_tops_69
    · refine e_iload_n m_X6_tops dX6_tops_31 rfl rfl ?_
      refine e_bipush (v := nI 33) m_X6_tops dX6_tops_32 (by decide) ?_
      refine e_ieq (t := 43) (a := v2) (b := 33) hN m_X6_tops dX6_tops_34 (by decide) (fun q6 hN => ?_) (fun q6 hN => ?_)
      · refine e_aload_n m_X6_tops dX6_tops_43 rfl rfl rfl ?_
        refine e_iload_n m_X6_tops dX6_tops_44 rfl rfl ?_
        refine e_cvU (as := [.int (nI x1)]) hN m_X6_tops dX6_tops_45 c_RX6_165 (by decide) rfl rfl (gM_m G) rfl (Nat.le_of_ble_eq_true rfl) (Nat.le_of_ble_eq_true rfl) (by omega) (w_X6_declaration G (by omega)) (fun v7 s7 hN => ?_)
        refine e_goto (t := 69) m_X6_tops dX6_tops_48 (by decide) ?_
        exact e_ret0 m_X6_tops dX6_tops_69
      · refine e_iload_n m_X6_tops dX6_tops_37 rfl rfl ?_
        refine e_bipush (v := nI 34) m_X6_tops dX6_tops_38 (by decide) ?_
        refine e_ine (t := 51) (a := v2) (b := 34) hN m_X6_tops dX6_tops_40 (by decide) (fun q8 hN => ?_) (fun q8 hN => ?_)
        · refine e_aload_n m_X6_tops dX6_tops_43 rfl rfl rfl ?_
          refine e_iload_n m_X6_tops dX6_tops_44 rfl rfl ?_
          refine e_cvU (as := [.int (nI x1)]) hN m_X6_tops dX6_tops_45 c_RX6_165 (by decide) rfl rfl (gM_m G) rfl (Nat.le_of_ble_eq_true rfl) (Nat.le_of_ble_eq_true rfl) (by omega) (w_X6_declaration G (by omega)) (fun v9 s9 hN => ?_)
          refine e_goto (t := 69) m_X6_tops dX6_tops_48 (by decide) ?_
          exact e_ret0 m_X6_tops dX6_tops_69
        · refine e_iload_n m_X6_tops dX6_tops_51 rfl rfl ?_
          refine e_bipush (v := nI 20) m_X6_tops dX6_tops_52 (by decide) ?_
          refine e_ine (t := 65) (a := v2) (b := 20) hN m_X6_tops dX6_tops_54 (by decide) (fun q10 hN => ?_) (fun q10 hN => ?_)
          · refine e_aload_n m_X6_tops dX6_tops_57 rfl rfl rfl ?_
            refine e_iload_n m_X6_tops dX6_tops_58 rfl rfl ?_
            refine e_cvU (as := [.int (nI x1)]) hN m_X6_tops dX6_tops_59 c_RX6_168 (by decide) rfl rfl (gM_m G) rfl (Nat.le_of_ble_eq_true rfl) (Nat.le_of_ble_eq_true rfl) (by omega) (w_X6_function G (by omega)) (fun v11 s11 hN => ?_)
            refine e_goto (t := 69) m_X6_tops dX6_tops_62 (by decide) ?_
            exact e_ret0 m_X6_tops dX6_tops_69
          · refine e_aload_n m_X6_tops dX6_tops_65 rfl rfl rfl ?_
            refine e_cvU (as := []) hN m_X6_tops dX6_tops_66 c_RX6_87 (by decide) rfl rfl (gM_m G) rfl (Nat.le_of_ble_eq_true rfl) (Nat.le_of_ble_eq_true rfl) (by omega) (w_X6_error G (by omega)) (fun v12 s12 hN => ?_)
            exact e_ret0 m_X6_tops dX6_tops_69
  · exact e_ret0 m_X6_tops dX6_tops_11

def b_X6_typing  (x1 : Nat) (x2 : Nat) (x3 : Nat) (s : Mm) : Rs Mm := ck (x1 < 2147483648) (ife x1 18 (bn (b_X6_type x2 x3 s) (fun v3 s3 => okR 0 s3)) (ife x1 19 (bn (b_X6_methods x2 s) (fun v5 s5 => okR 0 s5)) (ife x1 20 (bn (b_X6_functionTail x2 s) (fun v7 s7 => okR 0 s7)) (ife x1 21 (bn (b_X6_signature x2 s) (fun v9 s9 => okR 0 s9)) (ife x1 22 (bn (b_X6_result x2 s) (fun v11 s11 => okR 0 s11)) (ife x1 23 (bn (b_X6_params x2 s) (fun v13 s13 => okR 0 s13)) (ife x1 24 (bn (b_X6_param x2 s) (fun v15 s15 => okR 0 s15)) (ife x1 25 (bn (b_X6_paramMore x2 s) (fun v17 s17 => okR 0 s17)) (ife x1 26 (bn (b_X6_fields x2 s) (fun v19 s19 => okR 0 s19)) (ife x1 27 (bn (b_X6_fieldsMore x2 x3 s) (fun v21 s21 => okR 0 s21)) (bn (b_X6_methods x2 s) (fun v22 s22 => okR 0 s22))))))))))))
theorem w_X6_typing {xs : Nat → Int32} {L : Nat} {h0 : mm_H} (G : Mg h0) {x1 : Nat} {x2 : Nat} {x3 : Nat} {s : Mm} {d : Nat} (hd : 14 ≤ d) (hN : b_X6_typing  x1 x2 x3 s ≠ none) : Rn xs L d 160 [.ref 10, .int (nI x1), .int (nI x2), .int (nI x3)] (TM h0 s) (ou eU (TM h0) (b_X6_typing  x1 x2 x3 s)) := by
  unfold Rn
  unfold b_X6_typing at hN ⊢
  refine e_iload_n m_X6_typing dX6_typing_0 rfl rfl ?_
  refine e_ck hN (fun q1 hN => ?_)
  refine sw_c (a := x1) (b := 18) hN (fun q2 hN => ?_) (fun q2 hN => ?_)
  · refine e_table (t := 56) m_X6_typing dX6_typing_1 (by rw [q2]; decide) (Or.inr (by rw [q2]; decide)) ?_
    refine e_aload_n m_X6_typing dX6_typing_56 rfl rfl rfl ?_
    refine e_iload_n m_X6_typing dX6_typing_57 rfl rfl ?_
    refine e_iload_n m_X6_typing dX6_typing_58 rfl rfl ?_
    refine e_cvU (as := [.int (nI x2), .int (nI x3)]) hN m_X6_typing dX6_typing_59 c_RX6_267 (by decide) rfl rfl (gM_m G) rfl (Nat.le_of_ble_eq_true rfl) (Nat.le_of_ble_eq_true rfl) (by omega) (w_X6_type G (by omega)) (fun v3 s3 hN => ?_)
    refine e_goto (t := 135) m_X6_typing dX6_typing_62 (by decide) ?_
    exact e_ret0 m_X6_typing dX6_typing_135
  · refine sw_c (a := x1) (b := 19) hN (fun q4 hN => ?_) (fun q4 hN => ?_)
    · refine e_table (t := 130) m_X6_typing dX6_typing_1 (by rw [q4]; decide) (Or.inr (by rw [q4]; decide)) ?_
      refine e_aload_n m_X6_typing dX6_typing_130 rfl rfl rfl ?_
      refine e_iload_n m_X6_typing dX6_typing_131 rfl rfl ?_
      refine e_cvU (as := [.int (nI x2)]) hN m_X6_typing dX6_typing_132 c_RX6_294 (by decide) rfl rfl (gM_m G) rfl (Nat.le_of_ble_eq_true rfl) (Nat.le_of_ble_eq_true rfl) (by omega) (w_X6_methods G (by omega)) (fun v5 s5 hN => ?_)
      exact e_ret0 m_X6_typing dX6_typing_135
    · refine sw_c (a := x1) (b := 20) hN (fun q6 hN => ?_) (fun q6 hN => ?_)
      · refine e_table (t := 65) m_X6_typing dX6_typing_1 (by rw [q6]; decide) (Or.inr (by rw [q6]; decide)) ?_
        refine e_aload_n m_X6_typing dX6_typing_65 rfl rfl rfl ?_
        refine e_iload_n m_X6_typing dX6_typing_66 rfl rfl ?_
        refine e_cvU (as := [.int (nI x2)]) hN m_X6_typing dX6_typing_67 c_RX6_270 (by decide) rfl rfl (gM_m G) rfl (Nat.le_of_ble_eq_true rfl) (Nat.le_of_ble_eq_true rfl) (by omega) (w_X6_functionTail G (by omega)) (fun v7 s7 hN => ?_)
        refine e_goto (t := 135) m_X6_typing dX6_typing_70 (by decide) ?_
        exact e_ret0 m_X6_typing dX6_typing_135
      · refine sw_c (a := x1) (b := 21) hN (fun q8 hN => ?_) (fun q8 hN => ?_)
        · refine e_table (t := 73) m_X6_typing dX6_typing_1 (by rw [q8]; decide) (Or.inr (by rw [q8]; decide)) ?_
          refine e_aload_n m_X6_typing dX6_typing_73 rfl rfl rfl ?_
          refine e_iload_n m_X6_typing dX6_typing_74 rfl rfl ?_
          refine e_cvU (as := [.int (nI x2)]) hN m_X6_typing dX6_typing_75 c_RX6_273 (by decide) rfl rfl (gM_m G) rfl (Nat.le_of_ble_eq_true rfl) (Nat.le_of_ble_eq_true rfl) (by omega) (w_X6_signature G (by omega)) (fun v9 s9 hN => ?_)
          refine e_goto (t := 135) m_X6_typing dX6_typing_78 (by decide) ?_
          exact e_ret0 m_X6_typing dX6_typing_135
        · refine sw_c (a := x1) (b := 22) hN (fun q10 hN => ?_) (fun q10 hN => ?_)
          · refine e_table (t := 81) m_X6_typing dX6_typing_1 (by rw [q10]; decide) (Or.inr (by rw [q10]; decide)) ?_
            refine e_aload_n m_X6_typing dX6_typing_81 rfl rfl rfl ?_
            refine e_iload_n m_X6_typing dX6_typing_82 rfl rfl ?_
            refine e_cvU (as := [.int (nI x2)]) hN m_X6_typing dX6_typing_83 c_RX6_276 (by decide) rfl rfl (gM_m G) rfl (Nat.le_of_ble_eq_true rfl) (Nat.le_of_ble_eq_true rfl) (by omega) (w_X6_result G (by omega)) (fun v11 s11 hN => ?_)
            refine e_goto (t := 135) m_X6_typing dX6_typing_86 (by decide) ?_
            exact e_ret0 m_X6_typing dX6_typing_135
          · refine sw_c (a := x1) (b := 23) hN (fun q12 hN => ?_) (fun q12 hN => ?_)
            · refine e_table (t := 89) m_X6_typing dX6_typing_1 (by rw [q12]; decide) (Or.inr (by rw [q12]; decide)) ?_
              refine e_aload_n m_X6_typing dX6_typing_89 rfl rfl rfl ?_
              refine e_iload_n m_X6_typing dX6_typing_90 rfl rfl ?_
              refine e_cvU (as := [.int (nI x2)]) hN m_X6_typing dX6_typing_91 c_RX6_279 (by decide) rfl rfl (gM_m G) rfl (Nat.le_of_ble_eq_true rfl) (Nat.le_of_ble_eq_true rfl) (by omega) (w_X6_params G (by omega)) (fun v13 s13 hN => ?_)
              refine e_goto (t := 135) m_X6_typing dX6_typing_94 (by decide) ?_
              exact e_ret0 m_X6_typing dX6_typing_135
            · refine sw_c (a := x1) (b := 24) hN (fun q14 hN => ?_) (fun q14 hN => ?_)
              · refine e_table (t := 97) m_X6_typing dX6_typing_1 (by rw [q14]; decide) (Or.inr (by rw [q14]; decide)) ?_
                refine e_aload_n m_X6_typing dX6_typing_97 rfl rfl rfl ?_
                refine e_iload_n m_X6_typing dX6_typing_98 rfl rfl ?_
                refine e_cvU (as := [.int (nI x2)]) hN m_X6_typing dX6_typing_99 c_RX6_282 (by decide) rfl rfl (gM_m G) rfl (Nat.le_of_ble_eq_true rfl) (Nat.le_of_ble_eq_true rfl) (by omega) (w_X6_param G (by omega)) (fun v15 s15 hN => ?_)
                refine e_goto (t := 135) m_X6_typing dX6_typing_102 (by decide) ?_
                exact e_ret0 m_X6_typing dX6_typing_135
              · refine sw_c (a := x1) (b := 25) hN (fun q16 hN => ?_) (fun q16 hN => ?_)
                · refine e_table (t := 105) m_X6_typing dX6_typing_1 (by rw [q16]; decide) (Or.inr (by rw [q16]; decide)) ?_
                  refine e_aload_n m_X6_typing dX6_typing_105 rfl rfl rfl ?_
                  refine e_iload_n m_X6_typing dX6_typing_106 rfl rfl ?_
                  refine e_cvU (as := [.int (nI x2)]) hN m_X6_typing dX6_typing_107 c_RX6_285 (by decide) rfl rfl (gM_m G) rfl (Nat.le_of_ble_eq_true rfl) (Nat.le_of_ble_eq_true rfl) (by omega) (w_X6_paramMore G (by omega)) (fun v17 s17 hN => ?_)
                  refine e_goto (t := 135) m_X6_typing dX6_typing_110 (by decide) ?_
                  exact e_ret0 m_X6_typing dX6_typing_135
                · refine sw_c (a := x1) (b := 26) hN (fun q18 hN => ?_) (fun q18 hN => ?_)
                  · refine e_table (t := 113) m_X6_typing dX6_typing_1 (by rw [q18]; decide) (Or.inr (by rw [q18]; decide)) ?_
                    refine e_aload_n m_X6_typing dX6_typing_113 rfl rfl rfl ?_
                    refine e_iload_n m_X6_typing dX6_typing_114 rfl rfl ?_
                    refine e_cvU (as := [.int (nI x2)]) hN m_X6_typing dX6_typing_115 c_RX6_288 (by decide) rfl rfl (gM_m G) rfl (Nat.le_of_ble_eq_true rfl) (Nat.le_of_ble_eq_true rfl) (by omega) (w_X6_fields G (by omega)) (fun v19 s19 hN => ?_)
                    refine e_goto (t := 135) m_X6_typing dX6_typing_118 (by decide) ?_
                    exact e_ret0 m_X6_typing dX6_typing_135
                  · refine sw_c (a := x1) (b := 27) hN (fun q20 hN => ?_) (fun q20 hN => ?_)
                    · refine e_table (t := 121) m_X6_typing dX6_typing_1 (by rw [q20]; decide) (Or.inr (by rw [q20]; decide)) ?_
                      refine e_aload_n m_X6_typing dX6_typing_121 rfl rfl rfl ?_
                      refine e_iload_n m_X6_typing dX6_typing_122 rfl rfl ?_
                      refine e_iload_n m_X6_typing dX6_typing_123 rfl rfl ?_
                      refine e_cvU (as := [.int (nI x2), .int (nI x3)]) hN m_X6_typing dX6_typing_124 c_RX6_291 (by decide) rfl rfl (gM_m G) rfl (Nat.le_of_ble_eq_true rfl) (Nat.le_of_ble_eq_true rfl) (by omega) (w_X6_fieldsMore G (by omega)) (fun v21 s21 hN => ?_)
                      refine e_goto (t := 135) m_X6_typing dX6_typing_127 (by decide) ?_
                      exact e_ret0 m_X6_typing dX6_typing_135
                    · refine e_table (t := 130) m_X6_typing dX6_typing_1 (by rw [show mm_table _ _ _ _ _ = _ from if_pos (by rw [nI_toInt q1]; omega)]; decide) (Or.inl (by rw [nI_toInt q1]; omega)) ?_
                      refine e_aload_n m_X6_typing dX6_typing_130 rfl rfl rfl ?_
                      refine e_iload_n m_X6_typing dX6_typing_131 rfl rfl ?_
                      refine e_cvU (as := [.int (nI x2)]) hN m_X6_typing dX6_typing_132 c_RX6_294 (by decide) rfl rfl (gM_m G) rfl (Nat.le_of_ble_eq_true rfl) (Nat.le_of_ble_eq_true rfl) (by omega) (w_X6_methods G (by omega)) (fun v22 s22 hN => ?_)
                      exact e_ret0 m_X6_typing dX6_typing_135

def b_X6_constRest  (x1 : Nat) (s : Mm) : Rs Mm := bn (b_X6_look  s) (fun v1 s1 => ife v1 70 (bn (b_X6_valued x1 2 s1) (fun v3 s3 => okR 0 s3)) (bn (b_X6_look  s1) (fun v4 s4 => ck (v4 < 2147483648) (ifz (f_X6_beginsType v4) (bn (b_X6_valued x1 2 s4) (fun v7 s7 => okR 0 s7)) (bn (b_X6_push 58 x1 1 s4) (fun v8 s8 => bn (b_X6_push 18 x1 0 s8) (fun v9 s9 => okR 0 s9)))))))
theorem w_X6_constRest {xs : Nat → Int32} {L : Nat} {h0 : mm_H} (G : Mg h0) {x1 : Nat} {s : Mm} {d : Nat} (hd : 14 ≤ d) (hN : b_X6_constRest  x1 s ≠ none) : Rn xs L d 181 [.ref 10, .int (nI x1)] (TM h0 s) (ou eU (TM h0) (b_X6_constRest  x1 s)) := by
  unfold Rn
  unfold b_X6_constRest at hN ⊢
  refine e_aload_n m_X6_constRest dX6_constRest_0 rfl rfl rfl ?_
  refine e_cvN (as := []) hN m_X6_constRest dX6_constRest_1 c_RX6_83 (by decide) rfl rfl (gM_m G) rfl (Nat.le_of_ble_eq_true rfl) (Nat.le_of_ble_eq_true rfl) (by omega) (w_X6_look G (by omega)) (fun v1 s1 hN => ?_)
  refine e_bipush (v := nI 70) m_X6_constRest dX6_constRest_4 (by decide) ?_
  refine e_ieq (t := 19) (a := v1) (b := 70) hN m_X6_constRest dX6_constRest_6 (by decide) (fun q2 hN => ?_) (fun q2 hN => ?_)
  · refine e_aload_n m_X6_constRest dX6_constRest_19 rfl rfl rfl ?_
    refine e_iload_n m_X6_constRest dX6_constRest_20 rfl rfl ?_
    refine e_iconst (v := nI 2) m_X6_constRest dX6_constRest_21 (by decide) ?_
    refine e_cvU (as := [.int (nI x1), .int (nI 2)]) hN m_X6_constRest dX6_constRest_22 c_RX6_162 (by decide) rfl rfl (gM_m G) rfl (Nat.le_of_ble_eq_true rfl) (Nat.le_of_ble_eq_true rfl) (by omega) (w_X6_valued G (by omega)) (fun v3 s3 hN => ?_)
    exact e_ret0 m_X6_constRest dX6_constRest_25
  · refine e_aload_n m_X6_constRest dX6_constRest_9 rfl rfl rfl ?_
    refine e_cvN (as := []) hN m_X6_constRest dX6_constRest_10 c_RX6_83 (by decide) rfl rfl (gM_m G) rfl (Nat.le_of_ble_eq_true rfl) (Nat.le_of_ble_eq_true rfl) (by omega) (w_X6_look G (by omega)) (fun v4 s4 hN => ?_)
    refine e_ck hN (fun q5 hN => ?_)
    refine e_cs (as := [_]) m_X6_constRest dX6_constRest_13 c_RX6_150 (by decide) rfl rfl (Nat.le_of_ble_eq_true rfl) (Nat.le_of_ble_eq_true rfl) (by omega) (z_X6_beginsType q5 (by omega)) ?_
    refine e_ifne (t := 26) hN m_X6_constRest dX6_constRest_16 (by decide) (fun q6 hN => ?_) (fun q6 hN => ?_)
    · refine e_aload_n m_X6_constRest dX6_constRest_19 rfl rfl rfl ?_
      refine e_iload_n m_X6_constRest dX6_constRest_20 rfl rfl ?_
      refine e_iconst (v := nI 2) m_X6_constRest dX6_constRest_21 (by decide) ?_
      refine e_cvU (as := [.int (nI x1), .int (nI 2)]) hN m_X6_constRest dX6_constRest_22 c_RX6_162 (by decide) rfl rfl (gM_m G) rfl (Nat.le_of_ble_eq_true rfl) (Nat.le_of_ble_eq_true rfl) (by omega) (w_X6_valued G (by omega)) (fun v7 s7 hN => ?_)
      exact e_ret0 m_X6_constRest dX6_constRest_25
    · refine e_aload_n m_X6_constRest dX6_constRest_26 rfl rfl rfl ?_
      refine e_bipush (v := nI 58) m_X6_constRest dX6_constRest_27 (by decide) ?_
      refine e_iload_n m_X6_constRest dX6_constRest_29 rfl rfl ?_
      refine e_iconst (v := nI 1) m_X6_constRest dX6_constRest_30 (by decide) ?_
      refine e_cvU (as := [.int (nI 58), .int (nI x1), .int (nI 1)]) hN m_X6_constRest dX6_constRest_31 c_RX6_106 (by decide) rfl rfl (gM_m G) rfl (Nat.le_of_ble_eq_true rfl) (Nat.le_of_ble_eq_true rfl) (by omega) (w_X6_push G (by omega)) (fun v8 s8 hN => ?_)
      refine e_aload_n m_X6_constRest dX6_constRest_34 rfl rfl rfl ?_
      refine e_bipush (v := nI 18) m_X6_constRest dX6_constRest_35 (by decide) ?_
      refine e_iload_n m_X6_constRest dX6_constRest_37 rfl rfl ?_
      refine e_iconst (v := nI 0) m_X6_constRest dX6_constRest_38 (by decide) ?_
      refine e_cvU (as := [.int (nI 18), .int (nI x1), .int (nI 0)]) hN m_X6_constRest dX6_constRest_39 c_RX6_106 (by decide) rfl rfl (gM_m G) rfl (Nat.le_of_ble_eq_true rfl) (Nat.le_of_ble_eq_true rfl) (by omega) (w_X6_push G (by omega)) (fun v9 s9 hN => ?_)
      exact e_ret0 m_X6_constRest dX6_constRest_42

def b_X6_varRest  (x1 : Nat) (s : Mm) : Rs Mm := bn (b_X6_look  s) (fun v1 s1 => ife v1 70 (bn (b_X6_valued x1 1 s1) (fun v3 s3 => okR 0 s3)) (bn (b_X6_push 58 x1 2 s1) (fun v4 s4 => bn (b_X6_push 18 x1 0 s4) (fun v5 s5 => okR 0 s5))))
theorem w_X6_varRest {xs : Nat → Int32} {L : Nat} {h0 : mm_H} (G : Mg h0) {x1 : Nat} {s : Mm} {d : Nat} (hd : 14 ≤ d) (hN : b_X6_varRest  x1 s ≠ none) : Rn xs L d 184 [.ref 10, .int (nI x1)] (TM h0 s) (ou eU (TM h0) (b_X6_varRest  x1 s)) := by
  unfold Rn
  unfold b_X6_varRest at hN ⊢
  refine e_aload_n m_X6_varRest dX6_varRest_0 rfl rfl rfl ?_
  refine e_cvN (as := []) hN m_X6_varRest dX6_varRest_1 c_RX6_83 (by decide) rfl rfl (gM_m G) rfl (Nat.le_of_ble_eq_true rfl) (Nat.le_of_ble_eq_true rfl) (by omega) (w_X6_look G (by omega)) (fun v1 s1 hN => ?_)
  refine e_bipush (v := nI 70) m_X6_varRest dX6_varRest_4 (by decide) ?_
  refine e_ine (t := 16) (a := v1) (b := 70) hN m_X6_varRest dX6_varRest_6 (by decide) (fun q2 hN => ?_) (fun q2 hN => ?_)
  · refine e_aload_n m_X6_varRest dX6_varRest_9 rfl rfl rfl ?_
    refine e_iload_n m_X6_varRest dX6_varRest_10 rfl rfl ?_
    refine e_iconst (v := nI 1) m_X6_varRest dX6_varRest_11 (by decide) ?_
    refine e_cvU (as := [.int (nI x1), .int (nI 1)]) hN m_X6_varRest dX6_varRest_12 c_RX6_162 (by decide) rfl rfl (gM_m G) rfl (Nat.le_of_ble_eq_true rfl) (Nat.le_of_ble_eq_true rfl) (by omega) (w_X6_valued G (by omega)) (fun v3 s3 hN => ?_)
    exact e_ret0 m_X6_varRest dX6_varRest_15
  · refine e_aload_n m_X6_varRest dX6_varRest_16 rfl rfl rfl ?_
    refine e_bipush (v := nI 58) m_X6_varRest dX6_varRest_17 (by decide) ?_
    refine e_iload_n m_X6_varRest dX6_varRest_19 rfl rfl ?_
    refine e_iconst (v := nI 2) m_X6_varRest dX6_varRest_20 (by decide) ?_
    refine e_cvU (as := [.int (nI 58), .int (nI x1), .int (nI 2)]) hN m_X6_varRest dX6_varRest_21 c_RX6_106 (by decide) rfl rfl (gM_m G) rfl (Nat.le_of_ble_eq_true rfl) (Nat.le_of_ble_eq_true rfl) (by omega) (w_X6_push G (by omega)) (fun v4 s4 hN => ?_)
    refine e_aload_n m_X6_varRest dX6_varRest_24 rfl rfl rfl ?_
    refine e_bipush (v := nI 18) m_X6_varRest dX6_varRest_25 (by decide) ?_
    refine e_iload_n m_X6_varRest dX6_varRest_27 rfl rfl ?_
    refine e_iconst (v := nI 0) m_X6_varRest dX6_varRest_28 (by decide) ?_
    refine e_cvU (as := [.int (nI 18), .int (nI x1), .int (nI 0)]) hN m_X6_varRest dX6_varRest_29 c_RX6_106 (by decide) rfl rfl (gM_m G) rfl (Nat.le_of_ble_eq_true rfl) (Nat.le_of_ble_eq_true rfl) (by omega) (w_X6_push G (by omega)) (fun v5 s5 hN => ?_)
    exact e_ret0 m_X6_varRest dX6_varRest_32

def b_X6_choice  (x1 : Nat) (s : Mm) : Rs Mm := bn (b_X6_child x1 68 (m_at s) s) (fun v1 s1 => st1 (w_at s1 ((m_at s1) + 1)) (fun s2 => bn (b_X6_look  s2) (fun v3 s3 => ife v3 82 (bn (b_X6_body v1 0 s3) (fun v5 s5 => okR 0 s5)) (bn (b_X6_look  s3) (fun v6 s6 => ife v6 85 (bn (b_X6_child v1 61 (m_at s6) s6) (fun v8 s8 => st1 (w_at s8 ((m_at s8) + 1)) (fun s9 => bn (b_X6_second v1 s9) (fun v10 s10 => okR 0 s10)))) (bn (b_X6_push 49 v1 0 s6) (fun v11 s11 => bn (b_X6_push 41 v1 9 s11) (fun v12 s12 => okR 0 s12))))))))
theorem w_X6_choice {xs : Nat → Int32} {L : Nat} {h0 : mm_H} (G : Mg h0) {x1 : Nat} {s : Mm} {d : Nat} (hd : 14 ≤ d) (hN : b_X6_choice  x1 s ≠ none) : Rn xs L d 193 [.ref 10, .int (nI x1)] (TM h0 s) (ou eU (TM h0) (b_X6_choice  x1 s)) := by
  unfold Rn
  unfold b_X6_choice at hN ⊢
  refine e_aload_n m_X6_choice dX6_choice_0 rfl rfl rfl ?_
  refine e_iload_n m_X6_choice dX6_choice_1 rfl rfl ?_
  refine e_bipush (v := nI 68) m_X6_choice dX6_choice_2 (by decide) ?_
  refine e_aload_n m_X6_choice dX6_choice_4 rfl rfl rfl ?_
  refine e_getf m_X6_choice dX6_choice_5 f_RX6_77 (gM_m G) rfl ?_
  refine e_cvN (as := [.int (nI x1), .int (nI 68), .int (nI (m_at s))]) hN m_X6_choice dX6_choice_8 c_RX6_99 (by decide) rfl rfl (gM_m G) rfl (Nat.le_of_ble_eq_true rfl) (Nat.le_of_ble_eq_true rfl) (by omega) (w_X6_child G (by omega)) (fun v1 s1 hN => ?_)
  refine e_istore_n m_X6_choice dX6_choice_11 rfl (by decide) rfl ?_
  refine e_aload_n m_X6_choice dX6_choice_12 rfl rfl rfl ?_
  refine e_dup m_X6_choice dX6_choice_13 rfl ?_
  refine e_getf m_X6_choice dX6_choice_14 f_RX6_77 (gM_m G) rfl ?_
  refine e_iconst (v := nI 1) m_X6_choice dX6_choice_17 (by decide) ?_
  refine e_iaddN m_X6_choice dX6_choice_18 ?_
  refine e_putf (v := .int (nI ((m_at s1) + 1))) (h' := TM h0 (w_at s1 ((m_at s1) + 1))) m_X6_choice dX6_choice_19 f_RX6_77 (gM_m G) (Nat.le_of_ble_eq_true rfl) (fit_i rfl) rfl (hpL_set (k := 10) (by decide) (Nat.le_of_ble_eq_true rfl)) ?_
  refine e_st hN (fun s2 hN => ?_)
  refine e_aload_n m_X6_choice dX6_choice_22 rfl rfl rfl ?_
  refine e_cvN (as := []) hN m_X6_choice dX6_choice_23 c_RX6_83 (by decide) rfl rfl (gM_m G) rfl (Nat.le_of_ble_eq_true rfl) (Nat.le_of_ble_eq_true rfl) (by omega) (w_X6_look G (by omega)) (fun v3 s3 hN => ?_)
  refine e_bipush (v := nI 82) m_X6_choice dX6_choice_26 (by decide) ?_
  refine e_ine (t := 40) (a := v3) (b := 82) hN m_X6_choice dX6_choice_28 (by decide) (fun q4 hN => ?_) (fun q4 hN => ?_)
  · refine e_aload_n m_X6_choice dX6_choice_31 rfl rfl rfl ?_
    refine e_iload_n m_X6_choice dX6_choice_32 rfl rfl ?_
    refine e_iconst (v := nI 0) m_X6_choice dX6_choice_33 (by decide) ?_
    refine e_cvU (as := [.int (nI v1), .int (nI 0)]) hN m_X6_choice dX6_choice_34 c_RX6_192 (by decide) rfl rfl (gM_m G) rfl (Nat.le_of_ble_eq_true rfl) (Nat.le_of_ble_eq_true rfl) (by omega) (w_X6_body G (by omega)) (fun v5 s5 hN => ?_)
    refine e_goto (t := 96) m_X6_choice dX6_choice_37 (by decide) ?_
    exact e_ret0 m_X6_choice dX6_choice_96
  · refine e_aload_n m_X6_choice dX6_choice_40 rfl rfl rfl ?_
    refine e_cvN (as := []) hN m_X6_choice dX6_choice_41 c_RX6_83 (by decide) rfl rfl (gM_m G) rfl (Nat.le_of_ble_eq_true rfl) (Nat.le_of_ble_eq_true rfl) (by omega) (w_X6_look G (by omega)) (fun v6 s6 hN => ?_)
    refine e_bipush (v := nI 85) m_X6_choice dX6_choice_44 (by decide) ?_
    refine e_ine (t := 79) (a := v6) (b := 85) hN m_X6_choice dX6_choice_46 (by decide) (fun q7 hN => ?_) (fun q7 hN => ?_)
    · refine e_aload_n m_X6_choice dX6_choice_49 rfl rfl rfl ?_
      refine e_iload_n m_X6_choice dX6_choice_50 rfl rfl ?_
      refine e_bipush (v := nI 61) m_X6_choice dX6_choice_51 (by decide) ?_
      refine e_aload_n m_X6_choice dX6_choice_53 rfl rfl rfl ?_
      refine e_getf m_X6_choice dX6_choice_54 f_RX6_77 (gM_m G) rfl ?_
      refine e_cvN (as := [.int (nI v1), .int (nI 61), .int (nI (m_at s6))]) hN m_X6_choice dX6_choice_57 c_RX6_99 (by decide) rfl rfl (gM_m G) rfl (Nat.le_of_ble_eq_true rfl) (Nat.le_of_ble_eq_true rfl) (by omega) (w_X6_child G (by omega)) (fun v8 s8 hN => ?_)
      refine e_pop m_X6_choice dX6_choice_60 rfl ?_
      refine e_aload_n m_X6_choice dX6_choice_61 rfl rfl rfl ?_
      refine e_dup m_X6_choice dX6_choice_62 rfl ?_
      refine e_getf m_X6_choice dX6_choice_63 f_RX6_77 (gM_m G) rfl ?_
      refine e_iconst (v := nI 1) m_X6_choice dX6_choice_66 (by decide) ?_
      refine e_iaddN m_X6_choice dX6_choice_67 ?_
      refine e_putf (v := .int (nI ((m_at s8) + 1))) (h' := TM h0 (w_at s8 ((m_at s8) + 1))) m_X6_choice dX6_choice_68 f_RX6_77 (gM_m G) (Nat.le_of_ble_eq_true rfl) (fit_i rfl) rfl (hpL_set (k := 10) (by decide) (Nat.le_of_ble_eq_true rfl)) ?_
      refine e_st hN (fun s9 hN => ?_)
      refine e_aload_n m_X6_choice dX6_choice_71 rfl rfl rfl ?_
      refine e_iload_n m_X6_choice dX6_choice_72 rfl rfl ?_
      refine e_cvU (as := [.int (nI v1)]) hN m_X6_choice dX6_choice_73 c_RX6_217 (by decide) rfl rfl (gM_m G) rfl (Nat.le_of_ble_eq_true rfl) (Nat.le_of_ble_eq_true rfl) (by omega) (w_X6_second G (by omega)) (fun v10 s10 hN => ?_)
      refine e_goto (t := 96) m_X6_choice dX6_choice_76 (by decide) ?_
      exact e_ret0 m_X6_choice dX6_choice_96
    · refine e_aload_n m_X6_choice dX6_choice_79 rfl rfl rfl ?_
      refine e_bipush (v := nI 49) m_X6_choice dX6_choice_80 (by decide) ?_
      refine e_iload_n m_X6_choice dX6_choice_82 rfl rfl ?_
      refine e_iconst (v := nI 0) m_X6_choice dX6_choice_83 (by decide) ?_
      refine e_cvU (as := [.int (nI 49), .int (nI v1), .int (nI 0)]) hN m_X6_choice dX6_choice_84 c_RX6_106 (by decide) rfl rfl (gM_m G) rfl (Nat.le_of_ble_eq_true rfl) (Nat.le_of_ble_eq_true rfl) (by omega) (w_X6_push G (by omega)) (fun v11 s11 hN => ?_)
      refine e_aload_n m_X6_choice dX6_choice_87 rfl rfl rfl ?_
      refine e_bipush (v := nI 41) m_X6_choice dX6_choice_88 (by decide) ?_
      refine e_iload_n m_X6_choice dX6_choice_90 rfl rfl ?_
      refine e_bipush (v := nI 9) m_X6_choice dX6_choice_91 (by decide) ?_
      refine e_cvU (as := [.int (nI 41), .int (nI v1), .int (nI 9)]) hN m_X6_choice dX6_choice_93 c_RX6_106 (by decide) rfl rfl (gM_m G) rfl (Nat.le_of_ble_eq_true rfl) (Nat.le_of_ble_eq_true rfl) (by omega) (w_X6_push G (by omega)) (fun v12 s12 hN => ?_)
      exact e_ret0 m_X6_choice dX6_choice_96

def lp_X6_simpleRest_218  (s : Mm) : Rs Mm := okR 0 s
theorem l_X6_simpleRest_218 {xs : Nat → Int32} {L : Nat} {h0 : mm_H} (G : Mg h0) (s : Mm) (d : Nat) (ls : mm_L) (hd : 14 ≤ d) (hN : lp_X6_simpleRest_218   s ≠ none) : Ev xs L d 200 218 ls [] (TM h0 s) 0 0 (ou eU (TM h0) (lp_X6_simpleRest_218   s)) := by
  unfold lp_X6_simpleRest_218 at hN ⊢
  refine e_goto (t := 358) m_X6_simpleRest dX6_simpleRest_218 (by decide) ?_
  exact e_ret0 m_X6_simpleRest dX6_simpleRest_358
def lp_X6_simpleRest_135  (y1 y3 y5 : Nat) (s : Mm) : Rs Mm := ife y5 64 (bn (b_X6_wrap y1 51 (m_at s) s) (fun v24 s24 => st1 (w_at s24 ((m_at s24) + 1)) (fun s25 => ife y5 65 (lp_X6_simpleRest_218   s25) (ife y5 66 (lp_X6_simpleRest_218   s25) (bn (b_X6_expression v24 (y3 &&& 1) 1 s25) (fun v28 s28 => lp_X6_simpleRest_218   s28)))))) (ife y5 65 (bn (b_X6_wrap y1 52 (m_at s) s) (fun v30 s30 => st1 (w_at s30 ((m_at s30) + 1)) (fun s31 => ife y5 65 (lp_X6_simpleRest_218   s31) (ife y5 66 (lp_X6_simpleRest_218   s31) (bn (b_X6_expression v30 (y3 &&& 1) 1 s31) (fun v34 s34 => lp_X6_simpleRest_218   s34)))))) (ife y5 66 (bn (b_X6_wrap y1 53 (m_at s) s) (fun v36 s36 => st1 (w_at s36 ((m_at s36) + 1)) (fun s37 => ife y5 65 (lp_X6_simpleRest_218   s37) (ife y5 66 (lp_X6_simpleRest_218   s37) (bn (b_X6_expression v36 (y3 &&& 1) 1 s37) (fun v40 s40 => lp_X6_simpleRest_218   s40)))))) (bn (b_X6_wrap y1 55 (m_at s) s) (fun v41 s41 => st1 (w_at s41 ((m_at s41) + 1)) (fun s42 => ife y5 65 (lp_X6_simpleRest_218   s42) (ife y5 66 (lp_X6_simpleRest_218   s42) (bn (b_X6_expression v41 (y3 &&& 1) 1 s42) (fun v45 s45 => lp_X6_simpleRest_218   s45))))))))
theorem l_X6_simpleRest_135 {xs : Nat → Int32} {L : Nat} {h0 : mm_H} (G : Mg h0) (y1 y3 y5 : Nat) (s : Mm) (d : Nat) (ls : mm_L) (hd : 14 ≤ d) (hl0 : mm_lk ls 0 = some (.ref 10)) (hl1 : mm_lk ls 1 = some (.int (nI y1))) (hl3 : mm_lk ls 3 = some (.int (nI y3))) (hl5 : mm_lk ls 5 = some (.int (nI y5))) (hN : lp_X6_simpleRest_135  y1 y3 y5 s ≠ none) : Ev xs L d 200 135 ls [] (TM h0 s) 0 0 (ou eU (TM h0) (lp_X6_simpleRest_135  y1 y3 y5 s)) := by
  unfold lp_X6_simpleRest_135 at hN ⊢
  refine e_aload_n m_X6_simpleRest dX6_simpleRest_135 rfl hl0 rfl ?_
  refine e_iload_n m_X6_simpleRest dX6_simpleRest_136 rfl hl1 ?_
  refine e_iload m_X6_simpleRest dX6_simpleRest_137 hl5 ?_
  refine e_bipush (v := nI 64) m_X6_simpleRest dX6_simpleRest_139 (by decide) ?_
  refine e_ine (t := 149) (a := y5) (b := 64) hN m_X6_simpleRest dX6_simpleRest_141 (by decide) (fun q23 hN => ?_) (fun q23 hN => ?_)
  · refine e_bipush (v := nI 51) m_X6_simpleRest dX6_simpleRest_144 (by decide) ?_
    refine e_goto (t := 175) m_X6_simpleRest dX6_simpleRest_146 (by decide) ?_
    refine e_aload_n m_X6_simpleRest dX6_simpleRest_175 rfl hl0 rfl ?_
    refine e_getf m_X6_simpleRest dX6_simpleRest_176 f_RX6_77 (gM_m G) rfl ?_
    refine e_cvN (as := [.int (nI y1), .int (nI 51), .int (nI (m_at s))]) hN m_X6_simpleRest dX6_simpleRest_179 c_RX6_114 (by decide) rfl rfl (gM_m G) rfl (Nat.le_of_ble_eq_true rfl) (Nat.le_of_ble_eq_true rfl) (by omega) (w_X6_wrap G (by omega)) (fun v24 s24 hN => ?_)
    refine e_istore m_X6_simpleRest dX6_simpleRest_182 (by decide) rfl ?_
    refine e_aload_n m_X6_simpleRest dX6_simpleRest_184 rfl (lk_mis (by decide) rfl hl0) rfl ?_
    refine e_dup m_X6_simpleRest dX6_simpleRest_185 rfl ?_
    refine e_getf m_X6_simpleRest dX6_simpleRest_186 f_RX6_77 (gM_m G) rfl ?_
    refine e_iconst (v := nI 1) m_X6_simpleRest dX6_simpleRest_189 (by decide) ?_
    refine e_iaddN m_X6_simpleRest dX6_simpleRest_190 ?_
    refine e_putf (v := .int (nI ((m_at s24) + 1))) (h' := TM h0 (w_at s24 ((m_at s24) + 1))) m_X6_simpleRest dX6_simpleRest_191 f_RX6_77 (gM_m G) (Nat.le_of_ble_eq_true rfl) (fit_i rfl) rfl (hpL_set (k := 10) (by decide) (Nat.le_of_ble_eq_true rfl)) ?_
    refine e_st hN (fun s25 hN => ?_)
    refine e_iload m_X6_simpleRest dX6_simpleRest_194 (lk_mis (by decide) rfl hl5) ?_
    refine e_bipush (v := nI 65) m_X6_simpleRest dX6_simpleRest_196 (by decide) ?_
    refine e_ieq (t := 218) (a := y5) (b := 65) hN m_X6_simpleRest dX6_simpleRest_198 (by decide) (fun q26 hN => ?_) (fun q26 hN => ?_)
    · exact l_X6_simpleRest_218 G   _ _ _ (by omega)  hN
    · refine e_iload m_X6_simpleRest dX6_simpleRest_201 (lk_mis (by decide) rfl hl5) ?_
      refine e_bipush (v := nI 66) m_X6_simpleRest dX6_simpleRest_203 (by decide) ?_
      refine e_ieq (t := 218) (a := y5) (b := 66) hN m_X6_simpleRest dX6_simpleRest_205 (by decide) (fun q27 hN => ?_) (fun q27 hN => ?_)
      · exact l_X6_simpleRest_218 G   _ _ _ (by omega)  hN
      · refine e_aload_n m_X6_simpleRest dX6_simpleRest_208 rfl (lk_mis (by decide) rfl hl0) rfl ?_
        refine e_iload m_X6_simpleRest dX6_simpleRest_209 lk_hit ?_
        refine e_iload_n m_X6_simpleRest dX6_simpleRest_211 rfl (lk_mis (by decide) rfl hl3) ?_
        refine e_iconst (v := nI 1) m_X6_simpleRest dX6_simpleRest_212 (by decide) ?_
        refine e_iandN m_X6_simpleRest dX6_simpleRest_213 ?_
        refine e_iconst (v := nI 1) m_X6_simpleRest dX6_simpleRest_214 (by decide) ?_
        refine e_cvU (as := [.int (nI v24), .int (nI (y3 &&& 1)), .int (nI 1)]) hN m_X6_simpleRest dX6_simpleRest_215 c_RX6_117 (by decide) rfl rfl (gM_m G) rfl (Nat.le_of_ble_eq_true rfl) (Nat.le_of_ble_eq_true rfl) (by omega) (w_X6_expression G (by omega)) (fun v28 s28 hN => ?_)
        exact l_X6_simpleRest_218 G   _ _ _ (by omega)  hN
  · refine e_iload m_X6_simpleRest dX6_simpleRest_149 hl5 ?_
    refine e_bipush (v := nI 65) m_X6_simpleRest dX6_simpleRest_151 (by decide) ?_
    refine e_ine (t := 161) (a := y5) (b := 65) hN m_X6_simpleRest dX6_simpleRest_153 (by decide) (fun q29 hN => ?_) (fun q29 hN => ?_)
    · refine e_bipush (v := nI 52) m_X6_simpleRest dX6_simpleRest_156 (by decide) ?_
      refine e_goto (t := 175) m_X6_simpleRest dX6_simpleRest_158 (by decide) ?_
      refine e_aload_n m_X6_simpleRest dX6_simpleRest_175 rfl hl0 rfl ?_
      refine e_getf m_X6_simpleRest dX6_simpleRest_176 f_RX6_77 (gM_m G) rfl ?_
      refine e_cvN (as := [.int (nI y1), .int (nI 52), .int (nI (m_at s))]) hN m_X6_simpleRest dX6_simpleRest_179 c_RX6_114 (by decide) rfl rfl (gM_m G) rfl (Nat.le_of_ble_eq_true rfl) (Nat.le_of_ble_eq_true rfl) (by omega) (w_X6_wrap G (by omega)) (fun v30 s30 hN => ?_)
      refine e_istore m_X6_simpleRest dX6_simpleRest_182 (by decide) rfl ?_
      refine e_aload_n m_X6_simpleRest dX6_simpleRest_184 rfl (lk_mis (by decide) rfl hl0) rfl ?_
      refine e_dup m_X6_simpleRest dX6_simpleRest_185 rfl ?_
      refine e_getf m_X6_simpleRest dX6_simpleRest_186 f_RX6_77 (gM_m G) rfl ?_
      refine e_iconst (v := nI 1) m_X6_simpleRest dX6_simpleRest_189 (by decide) ?_
      refine e_iaddN m_X6_simpleRest dX6_simpleRest_190 ?_
      refine e_putf (v := .int (nI ((m_at s30) + 1))) (h' := TM h0 (w_at s30 ((m_at s30) + 1))) m_X6_simpleRest dX6_simpleRest_191 f_RX6_77 (gM_m G) (Nat.le_of_ble_eq_true rfl) (fit_i rfl) rfl (hpL_set (k := 10) (by decide) (Nat.le_of_ble_eq_true rfl)) ?_
      refine e_st hN (fun s31 hN => ?_)
      refine e_iload m_X6_simpleRest dX6_simpleRest_194 (lk_mis (by decide) rfl hl5) ?_
      refine e_bipush (v := nI 65) m_X6_simpleRest dX6_simpleRest_196 (by decide) ?_
      refine e_ieq (t := 218) (a := y5) (b := 65) hN m_X6_simpleRest dX6_simpleRest_198 (by decide) (fun q32 hN => ?_) (fun q32 hN => ?_)
      · exact l_X6_simpleRest_218 G   _ _ _ (by omega)  hN
      · refine e_iload m_X6_simpleRest dX6_simpleRest_201 (lk_mis (by decide) rfl hl5) ?_
        refine e_bipush (v := nI 66) m_X6_simpleRest dX6_simpleRest_203 (by decide) ?_
        refine e_ieq (t := 218) (a := y5) (b := 66) hN m_X6_simpleRest dX6_simpleRest_205 (by decide) (fun q33 hN => ?_) (fun q33 hN => ?_)
        · exact l_X6_simpleRest_218 G   _ _ _ (by omega)  hN
        · refine e_aload_n m_X6_simpleRest dX6_simpleRest_208 rfl (lk_mis (by decide) rfl hl0) rfl ?_
          refine e_iload m_X6_simpleRest dX6_simpleRest_209 lk_hit ?_
          refine e_iload_n m_X6_simpleRest dX6_simpleRest_211 rfl (lk_mis (by decide) rfl hl3) ?_
          refine e_iconst (v := nI 1) m_X6_simpleRest dX6_simpleRest_212 (by decide) ?_
          refine e_iandN m_X6_simpleRest dX6_simpleRest_213 ?_
          refine e_iconst (v := nI 1) m_X6_simpleRest dX6_simpleRest_214 (by decide) ?_
          refine e_cvU (as := [.int (nI v30), .int (nI (y3 &&& 1)), .int (nI 1)]) hN m_X6_simpleRest dX6_simpleRest_215 c_RX6_117 (by decide) rfl rfl (gM_m G) rfl (Nat.le_of_ble_eq_true rfl) (Nat.le_of_ble_eq_true rfl) (by omega) (w_X6_expression G (by omega)) (fun v34 s34 hN => ?_)
          exact l_X6_simpleRest_218 G   _ _ _ (by omega)  hN
    · refine e_iload m_X6_simpleRest dX6_simpleRest_161 hl5 ?_
      refine e_bipush (v := nI 66) m_X6_simpleRest dX6_simpleRest_163 (by decide) ?_
      refine e_ine (t := 173) (a := y5) (b := 66) hN m_X6_simpleRest dX6_simpleRest_165 (by decide) (fun q35 hN => ?_) (fun q35 hN => ?_)
      · refine e_bipush (v := nI 53) m_X6_simpleRest dX6_simpleRest_168 (by decide) ?_
        refine e_goto (t := 175) m_X6_simpleRest dX6_simpleRest_170 (by decide) ?_
        refine e_aload_n m_X6_simpleRest dX6_simpleRest_175 rfl hl0 rfl ?_
        refine e_getf m_X6_simpleRest dX6_simpleRest_176 f_RX6_77 (gM_m G) rfl ?_
        refine e_cvN (as := [.int (nI y1), .int (nI 53), .int (nI (m_at s))]) hN m_X6_simpleRest dX6_simpleRest_179 c_RX6_114 (by decide) rfl rfl (gM_m G) rfl (Nat.le_of_ble_eq_true rfl) (Nat.le_of_ble_eq_true rfl) (by omega) (w_X6_wrap G (by omega)) (fun v36 s36 hN => ?_)
        refine e_istore m_X6_simpleRest dX6_simpleRest_182 (by decide) rfl ?_
        refine e_aload_n m_X6_simpleRest dX6_simpleRest_184 rfl (lk_mis (by decide) rfl hl0) rfl ?_
        refine e_dup m_X6_simpleRest dX6_simpleRest_185 rfl ?_
        refine e_getf m_X6_simpleRest dX6_simpleRest_186 f_RX6_77 (gM_m G) rfl ?_
        refine e_iconst (v := nI 1) m_X6_simpleRest dX6_simpleRest_189 (by decide) ?_
        refine e_iaddN m_X6_simpleRest dX6_simpleRest_190 ?_
        refine e_putf (v := .int (nI ((m_at s36) + 1))) (h' := TM h0 (w_at s36 ((m_at s36) + 1))) m_X6_simpleRest dX6_simpleRest_191 f_RX6_77 (gM_m G) (Nat.le_of_ble_eq_true rfl) (fit_i rfl) rfl (hpL_set (k := 10) (by decide) (Nat.le_of_ble_eq_true rfl)) ?_
        refine e_st hN (fun s37 hN => ?_)
        refine e_iload m_X6_simpleRest dX6_simpleRest_194 (lk_mis (by decide) rfl hl5) ?_
        refine e_bipush (v := nI 65) m_X6_simpleRest dX6_simpleRest_196 (by decide) ?_
        refine e_ieq (t := 218) (a := y5) (b := 65) hN m_X6_simpleRest dX6_simpleRest_198 (by decide) (fun q38 hN => ?_) (fun q38 hN => ?_)
        · exact l_X6_simpleRest_218 G   _ _ _ (by omega)  hN
        · refine e_iload m_X6_simpleRest dX6_simpleRest_201 (lk_mis (by decide) rfl hl5) ?_
          refine e_bipush (v := nI 66) m_X6_simpleRest dX6_simpleRest_203 (by decide) ?_
          refine e_ieq (t := 218) (a := y5) (b := 66) hN m_X6_simpleRest dX6_simpleRest_205 (by decide) (fun q39 hN => ?_) (fun q39 hN => ?_)
          · exact l_X6_simpleRest_218 G   _ _ _ (by omega)  hN
          · refine e_aload_n m_X6_simpleRest dX6_simpleRest_208 rfl (lk_mis (by decide) rfl hl0) rfl ?_
            refine e_iload m_X6_simpleRest dX6_simpleRest_209 lk_hit ?_
            refine e_iload_n m_X6_simpleRest dX6_simpleRest_211 rfl (lk_mis (by decide) rfl hl3) ?_
            refine e_iconst (v := nI 1) m_X6_simpleRest dX6_simpleRest_212 (by decide) ?_
            refine e_iandN m_X6_simpleRest dX6_simpleRest_213 ?_
            refine e_iconst (v := nI 1) m_X6_simpleRest dX6_simpleRest_214 (by decide) ?_
            refine e_cvU (as := [.int (nI v36), .int (nI (y3 &&& 1)), .int (nI 1)]) hN m_X6_simpleRest dX6_simpleRest_215 c_RX6_117 (by decide) rfl rfl (gM_m G) rfl (Nat.le_of_ble_eq_true rfl) (Nat.le_of_ble_eq_true rfl) (by omega) (w_X6_expression G (by omega)) (fun v40 s40 hN => ?_)
            exact l_X6_simpleRest_218 G   _ _ _ (by omega)  hN
      · refine e_bipush (v := nI 55) m_X6_simpleRest dX6_simpleRest_173 (by decide) ?_
        refine e_aload_n m_X6_simpleRest dX6_simpleRest_175 rfl hl0 rfl ?_
        refine e_getf m_X6_simpleRest dX6_simpleRest_176 f_RX6_77 (gM_m G) rfl ?_
        refine e_cvN (as := [.int (nI y1), .int (nI 55), .int (nI (m_at s))]) hN m_X6_simpleRest dX6_simpleRest_179 c_RX6_114 (by decide) rfl rfl (gM_m G) rfl (Nat.le_of_ble_eq_true rfl) (Nat.le_of_ble_eq_true rfl) (by omega) (w_X6_wrap G (by omega)) (fun v41 s41 hN => ?_)
        refine e_istore m_X6_simpleRest dX6_simpleRest_182 (by decide) rfl ?_
        refine e_aload_n m_X6_simpleRest dX6_simpleRest_184 rfl (lk_mis (by decide) rfl hl0) rfl ?_
        refine e_dup m_X6_simpleRest dX6_simpleRest_185 rfl ?_
        refine e_getf m_X6_simpleRest dX6_simpleRest_186 f_RX6_77 (gM_m G) rfl ?_
        refine e_iconst (v := nI 1) m_X6_simpleRest dX6_simpleRest_189 (by decide) ?_
        refine e_iaddN m_X6_simpleRest dX6_simpleRest_190 ?_
        refine e_putf (v := .int (nI ((m_at s41) + 1))) (h' := TM h0 (w_at s41 ((m_at s41) + 1))) m_X6_simpleRest dX6_simpleRest_191 f_RX6_77 (gM_m G) (Nat.le_of_ble_eq_true rfl) (fit_i rfl) rfl (hpL_set (k := 10) (by decide) (Nat.le_of_ble_eq_true rfl)) ?_
        refine e_st hN (fun s42 hN => ?_)
        refine e_iload m_X6_simpleRest dX6_simpleRest_194 (lk_mis (by decide) rfl hl5) ?_
        refine e_bipush (v := nI 65) m_X6_simpleRest dX6_simpleRest_196 (by decide) ?_
        refine e_ieq (t := 218) (a := y5) (b := 65) hN m_X6_simpleRest dX6_simpleRest_198 (by decide) (fun q43 hN => ?_) (fun q43 hN => ?_)
        · exact l_X6_simpleRest_218 G   _ _ _ (by omega)  hN
        · refine e_iload m_X6_simpleRest dX6_simpleRest_201 (lk_mis (by decide) rfl hl5) ?_
          refine e_bipush (v := nI 66) m_X6_simpleRest dX6_simpleRest_203 (by decide) ?_
          refine e_ieq (t := 218) (a := y5) (b := 66) hN m_X6_simpleRest dX6_simpleRest_205 (by decide) (fun q44 hN => ?_) (fun q44 hN => ?_)
          · exact l_X6_simpleRest_218 G   _ _ _ (by omega)  hN
          · refine e_aload_n m_X6_simpleRest dX6_simpleRest_208 rfl (lk_mis (by decide) rfl hl0) rfl ?_
            refine e_iload m_X6_simpleRest dX6_simpleRest_209 lk_hit ?_
            refine e_iload_n m_X6_simpleRest dX6_simpleRest_211 rfl (lk_mis (by decide) rfl hl3) ?_
            refine e_iconst (v := nI 1) m_X6_simpleRest dX6_simpleRest_212 (by decide) ?_
            refine e_iandN m_X6_simpleRest dX6_simpleRest_213 ?_
            refine e_iconst (v := nI 1) m_X6_simpleRest dX6_simpleRest_214 (by decide) ?_
            refine e_cvU (as := [.int (nI v41), .int (nI (y3 &&& 1)), .int (nI 1)]) hN m_X6_simpleRest dX6_simpleRest_215 c_RX6_117 (by decide) rfl rfl (gM_m G) rfl (Nat.le_of_ble_eq_true rfl) (Nat.le_of_ble_eq_true rfl) (by omega) (w_X6_expression G (by omega)) (fun v45 s45 hN => ?_)
            exact l_X6_simpleRest_218 G   _ _ _ (by omega)  hN
def lp_X6_simpleRest_348  (y1 y4 : Nat) (s : Mm) : Rs Mm := bn (b_X6_wrap y1 50 y4 s) (fun v61 s61 => okR 0 s61)
theorem l_X6_simpleRest_348 {xs : Nat → Int32} {L : Nat} {h0 : mm_H} (G : Mg h0) (y1 y4 : Nat) (s : Mm) (d : Nat) (ls : mm_L) (hd : 14 ≤ d) (hl0 : mm_lk ls 0 = some (.ref 10)) (hl1 : mm_lk ls 1 = some (.int (nI y1))) (hl4 : mm_lk ls 4 = some (.int (nI y4))) (hN : lp_X6_simpleRest_348  y1 y4 s ≠ none) : Ev xs L d 200 348 ls [] (TM h0 s) 0 0 (ou eU (TM h0) (lp_X6_simpleRest_348  y1 y4 s)) := by
  unfold lp_X6_simpleRest_348 at hN ⊢
  refine e_aload_n m_X6_simpleRest dX6_simpleRest_348 rfl hl0 rfl ?_
  refine e_iload_n m_X6_simpleRest dX6_simpleRest_349 rfl hl1 ?_
  refine e_bipush (v := nI 50) m_X6_simpleRest dX6_simpleRest_350 (by decide) ?_
  refine e_iload m_X6_simpleRest dX6_simpleRest_352 hl4 ?_
  refine e_cvN (as := [.int (nI y1), .int (nI 50), .int (nI y4)]) hN m_X6_simpleRest dX6_simpleRest_354 c_RX6_114 (by decide) rfl rfl (gM_m G) rfl (Nat.le_of_ble_eq_true rfl) (Nat.le_of_ble_eq_true rfl) (by omega) (w_X6_wrap G (by omega)) (fun v61 s61 hN => ?_)
  refine e_pop m_X6_simpleRest dX6_simpleRest_357 rfl ?_
  exact e_ret0 m_X6_simpleRest dX6_simpleRest_358
def lp_X6_simpleRest_221  (y1 y3 y4 y5 y6 : Nat) (s : Mm) : Rs Mm := ife y5 84 (bn (b_X6_wrap y1 13 y4 s) (fun v47 s47 => st1 (w_at s47 ((m_at s47) + 1)) (fun s48 => bn (b_X6_push 43 y1 y3 s48) (fun v49 s49 => bn (b_X6_push 32 v47 (y3 &&& 1) s49) (fun v50 s50 => bn (b_X6_expression v47 (y3 &&& 1) 1 s50) (fun v51 s51 => okR 0 s51)))))) (ife y5 70 (bn (b_X6_wrap y1 13 y4 s) (fun v53 s53 => bn (b_X6_assign y1 y3 s53) (fun v54 s54 => okR 0 s54))) (ife y5 76 (ifz y6 (lp_X6_simpleRest_348   y1 y4 s) (ck (y3 < 2147483648) (ifz (f_X6_has y3 64) (bn (b_X6_wrap y1 12 y4 s) (fun v59 s59 => bn (b_X6_define y1 y3 1 s59) (fun v60 s60 => okR 0 s60))) (lp_X6_simpleRest_348   y1 y4 s)))) (lp_X6_simpleRest_348   y1 y4 s)))
theorem l_X6_simpleRest_221 {xs : Nat → Int32} {L : Nat} {h0 : mm_H} (G : Mg h0) (y1 y3 y4 y5 y6 : Nat) (s : Mm) (d : Nat) (ls : mm_L) (hd : 14 ≤ d) (hl0 : mm_lk ls 0 = some (.ref 10)) (hl1 : mm_lk ls 1 = some (.int (nI y1))) (hl3 : mm_lk ls 3 = some (.int (nI y3))) (hl4 : mm_lk ls 4 = some (.int (nI y4))) (hl5 : mm_lk ls 5 = some (.int (nI y5))) (hl6 : mm_lk ls 6 = some (.int (nI y6))) (hN : lp_X6_simpleRest_221  y1 y3 y4 y5 y6 s ≠ none) : Ev xs L d 200 221 ls [] (TM h0 s) 0 0 (ou eU (TM h0) (lp_X6_simpleRest_221  y1 y3 y4 y5 y6 s)) := by
  unfold lp_X6_simpleRest_221 at hN ⊢
  refine e_iload m_X6_simpleRest dX6_simpleRest_221 hl5 ?_
  refine e_bipush (v := nI 84) m_X6_simpleRest dX6_simpleRest_223 (by decide) ?_
  refine e_ine (t := 281) (a := y5) (b := 84) hN m_X6_simpleRest dX6_simpleRest_225 (by decide) (fun q46 hN => ?_) (fun q46 hN => ?_)
  · refine e_aload_n m_X6_simpleRest dX6_simpleRest_228 rfl hl0 rfl ?_
    refine e_iload_n m_X6_simpleRest dX6_simpleRest_229 rfl hl1 ?_
    refine e_bipush (v := nI 13) m_X6_simpleRest dX6_simpleRest_230 (by decide) ?_
    refine e_iload m_X6_simpleRest dX6_simpleRest_232 hl4 ?_
    refine e_cvN (as := [.int (nI y1), .int (nI 13), .int (nI y4)]) hN m_X6_simpleRest dX6_simpleRest_234 c_RX6_114 (by decide) rfl rfl (gM_m G) rfl (Nat.le_of_ble_eq_true rfl) (Nat.le_of_ble_eq_true rfl) (by omega) (w_X6_wrap G (by omega)) (fun v47 s47 hN => ?_)
    refine e_istore m_X6_simpleRest dX6_simpleRest_237 (by decide) rfl ?_
    refine e_aload_n m_X6_simpleRest dX6_simpleRest_239 rfl (lk_mis (by decide) rfl hl0) rfl ?_
    refine e_dup m_X6_simpleRest dX6_simpleRest_240 rfl ?_
    refine e_getf m_X6_simpleRest dX6_simpleRest_241 f_RX6_77 (gM_m G) rfl ?_
    refine e_iconst (v := nI 1) m_X6_simpleRest dX6_simpleRest_244 (by decide) ?_
    refine e_iaddN m_X6_simpleRest dX6_simpleRest_245 ?_
    refine e_putf (v := .int (nI ((m_at s47) + 1))) (h' := TM h0 (w_at s47 ((m_at s47) + 1))) m_X6_simpleRest dX6_simpleRest_246 f_RX6_77 (gM_m G) (Nat.le_of_ble_eq_true rfl) (fit_i rfl) rfl (hpL_set (k := 10) (by decide) (Nat.le_of_ble_eq_true rfl)) ?_
    refine e_st hN (fun s48 hN => ?_)
    refine e_aload_n m_X6_simpleRest dX6_simpleRest_249 rfl (lk_mis (by decide) rfl hl0) rfl ?_
    refine e_bipush (v := nI 43) m_X6_simpleRest dX6_simpleRest_250 (by decide) ?_
    refine e_iload_n m_X6_simpleRest dX6_simpleRest_252 rfl (lk_mis (by decide) rfl hl1) ?_
    refine e_iload_n m_X6_simpleRest dX6_simpleRest_253 rfl (lk_mis (by decide) rfl hl3) ?_
    refine e_cvU (as := [.int (nI 43), .int (nI y1), .int (nI y3)]) hN m_X6_simpleRest dX6_simpleRest_254 c_RX6_106 (by decide) rfl rfl (gM_m G) rfl (Nat.le_of_ble_eq_true rfl) (Nat.le_of_ble_eq_true rfl) (by omega) (w_X6_push G (by omega)) (fun v49 s49 hN => ?_)
    refine e_aload_n m_X6_simpleRest dX6_simpleRest_257 rfl (lk_mis (by decide) rfl hl0) rfl ?_
    refine e_bipush (v := nI 32) m_X6_simpleRest dX6_simpleRest_258 (by decide) ?_
    refine e_iload m_X6_simpleRest dX6_simpleRest_260 lk_hit ?_
    refine e_iload_n m_X6_simpleRest dX6_simpleRest_262 rfl (lk_mis (by decide) rfl hl3) ?_
    refine e_iconst (v := nI 1) m_X6_simpleRest dX6_simpleRest_263 (by decide) ?_
    refine e_iandN m_X6_simpleRest dX6_simpleRest_264 ?_
    refine e_cvU (as := [.int (nI 32), .int (nI v47), .int (nI (y3 &&& 1))]) hN m_X6_simpleRest dX6_simpleRest_265 c_RX6_106 (by decide) rfl rfl (gM_m G) rfl (Nat.le_of_ble_eq_true rfl) (Nat.le_of_ble_eq_true rfl) (by omega) (w_X6_push G (by omega)) (fun v50 s50 hN => ?_)
    refine e_aload_n m_X6_simpleRest dX6_simpleRest_268 rfl (lk_mis (by decide) rfl hl0) rfl ?_
    refine e_iload m_X6_simpleRest dX6_simpleRest_269 lk_hit ?_
    refine e_iload_n m_X6_simpleRest dX6_simpleRest_271 rfl (lk_mis (by decide) rfl hl3) ?_
    refine e_iconst (v := nI 1) m_X6_simpleRest dX6_simpleRest_272 (by decide) ?_
    refine e_iandN m_X6_simpleRest dX6_simpleRest_273 ?_
    refine e_iconst (v := nI 1) m_X6_simpleRest dX6_simpleRest_274 (by decide) ?_
    refine e_cvU (as := [.int (nI v47), .int (nI (y3 &&& 1)), .int (nI 1)]) hN m_X6_simpleRest dX6_simpleRest_275 c_RX6_117 (by decide) rfl rfl (gM_m G) rfl (Nat.le_of_ble_eq_true rfl) (Nat.le_of_ble_eq_true rfl) (by omega) (w_X6_expression G (by omega)) (fun v51 s51 hN => ?_)
    refine e_goto (t := 358) m_X6_simpleRest dX6_simpleRest_278 (by decide) ?_
    exact e_ret0 m_X6_simpleRest dX6_simpleRest_358
  · refine e_iload m_X6_simpleRest dX6_simpleRest_281 hl5 ?_
    refine e_bipush (v := nI 70) m_X6_simpleRest dX6_simpleRest_283 (by decide) ?_
    refine e_ine (t := 307) (a := y5) (b := 70) hN m_X6_simpleRest dX6_simpleRest_285 (by decide) (fun q52 hN => ?_) (fun q52 hN => ?_)
    · refine e_aload_n m_X6_simpleRest dX6_simpleRest_288 rfl hl0 rfl ?_
      refine e_iload_n m_X6_simpleRest dX6_simpleRest_289 rfl hl1 ?_
      refine e_bipush (v := nI 13) m_X6_simpleRest dX6_simpleRest_290 (by decide) ?_
      refine e_iload m_X6_simpleRest dX6_simpleRest_292 hl4 ?_
      refine e_cvN (as := [.int (nI y1), .int (nI 13), .int (nI y4)]) hN m_X6_simpleRest dX6_simpleRest_294 c_RX6_114 (by decide) rfl rfl (gM_m G) rfl (Nat.le_of_ble_eq_true rfl) (Nat.le_of_ble_eq_true rfl) (by omega) (w_X6_wrap G (by omega)) (fun v53 s53 hN => ?_)
      refine e_pop m_X6_simpleRest dX6_simpleRest_297 rfl ?_
      refine e_aload_n m_X6_simpleRest dX6_simpleRest_298 rfl hl0 rfl ?_
      refine e_iload_n m_X6_simpleRest dX6_simpleRest_299 rfl hl1 ?_
      refine e_iload_n m_X6_simpleRest dX6_simpleRest_300 rfl hl3 ?_
      refine e_cvU (as := [.int (nI y1), .int (nI y3)]) hN m_X6_simpleRest dX6_simpleRest_301 c_RX6_198 (by decide) rfl rfl (gM_m G) rfl (Nat.le_of_ble_eq_true rfl) (Nat.le_of_ble_eq_true rfl) (by omega) (w_X6_assign G (by omega)) (fun v54 s54 hN => ?_)
      refine e_goto (t := 358) m_X6_simpleRest dX6_simpleRest_304 (by decide) ?_
      exact e_ret0 m_X6_simpleRest dX6_simpleRest_358
    · refine e_iload m_X6_simpleRest dX6_simpleRest_307 hl5 ?_
      refine e_bipush (v := nI 76) m_X6_simpleRest dX6_simpleRest_309 (by decide) ?_
      refine e_ine (t := 348) (a := y5) (b := 76) hN m_X6_simpleRest dX6_simpleRest_311 (by decide) (fun q55 hN => ?_) (fun q55 hN => ?_)
      · refine e_iload m_X6_simpleRest dX6_simpleRest_314 hl6 ?_
        refine e_ifeq (t := 348) hN m_X6_simpleRest dX6_simpleRest_316 (by decide) (fun q56 hN => ?_) (fun q56 hN => ?_)
        · exact l_X6_simpleRest_348 G  y1 y4 _ _ _ (by omega) hl0 hl1 hl4 hN
        · refine e_iload_n m_X6_simpleRest dX6_simpleRest_319 rfl hl3 ?_
          refine e_bipush (v := nI 64) m_X6_simpleRest dX6_simpleRest_320 (by decide) ?_
          refine e_ck hN (fun q57 hN => ?_)
          refine e_cs (as := [_, _]) m_X6_simpleRest dX6_simpleRest_322 c_RX6_133 (by decide) rfl rfl (Nat.le_of_ble_eq_true rfl) (Nat.le_of_ble_eq_true rfl) (by omega) (z_X6_has q57 (by decide) (by omega)) ?_
          refine e_ifne (t := 348) hN m_X6_simpleRest dX6_simpleRest_325 (by decide) (fun q58 hN => ?_) (fun q58 hN => ?_)
          · refine e_aload_n m_X6_simpleRest dX6_simpleRest_328 rfl hl0 rfl ?_
            refine e_iload_n m_X6_simpleRest dX6_simpleRest_329 rfl hl1 ?_
            refine e_bipush (v := nI 12) m_X6_simpleRest dX6_simpleRest_330 (by decide) ?_
            refine e_iload m_X6_simpleRest dX6_simpleRest_332 hl4 ?_
            refine e_cvN (as := [.int (nI y1), .int (nI 12), .int (nI y4)]) hN m_X6_simpleRest dX6_simpleRest_334 c_RX6_114 (by decide) rfl rfl (gM_m G) rfl (Nat.le_of_ble_eq_true rfl) (Nat.le_of_ble_eq_true rfl) (by omega) (w_X6_wrap G (by omega)) (fun v59 s59 hN => ?_)
            refine e_pop m_X6_simpleRest dX6_simpleRest_337 rfl ?_
            refine e_aload_n m_X6_simpleRest dX6_simpleRest_338 rfl hl0 rfl ?_
            refine e_iload_n m_X6_simpleRest dX6_simpleRest_339 rfl hl1 ?_
            refine e_iload_n m_X6_simpleRest dX6_simpleRest_340 rfl hl3 ?_
            refine e_iconst (v := nI 1) m_X6_simpleRest dX6_simpleRest_341 (by decide) ?_
            refine e_cvU (as := [.int (nI y1), .int (nI y3), .int (nI 1)]) hN m_X6_simpleRest dX6_simpleRest_342 c_RX6_201 (by decide) rfl rfl (gM_m G) rfl (Nat.le_of_ble_eq_true rfl) (Nat.le_of_ble_eq_true rfl) (by omega) (w_X6_define G (by omega)) (fun v60 s60 hN => ?_)
            refine e_goto (t := 358) m_X6_simpleRest dX6_simpleRest_345 (by decide) ?_
            exact e_ret0 m_X6_simpleRest dX6_simpleRest_358
          · exact l_X6_simpleRest_348 G  y1 y4 _ _ _ (by omega) hl0 hl1 hl4 hN
      · exact l_X6_simpleRest_348 G  y1 y4 _ _ _ (by omega) hl0 hl1 hl4 hN
def lp_X6_simpleRest_95  (y1 y3 y4 y5 y6 y7 : Nat) (s : Mm) : Rs Mm := ife y5 64 (lp_X6_simpleRest_135   y1 y3 y5 s) (ifz y7 (lp_X6_simpleRest_221   y1 y3 y4 y5 y6 s) (ife y5 65 (lp_X6_simpleRest_135   y1 y3 y5 s) (ife y5 66 (lp_X6_simpleRest_135   y1 y3 y5 s) (ifl y5 51 (lp_X6_simpleRest_221   y1 y3 y4 y5 y6 s) (ifl 61 y5 (lp_X6_simpleRest_221   y1 y3 y4 y5 y6 s) (lp_X6_simpleRest_135   y1 y3 y5 s))))))
theorem l_X6_simpleRest_95 {xs : Nat → Int32} {L : Nat} {h0 : mm_H} (G : Mg h0) (y1 y3 y4 y5 y6 y7 : Nat) (s : Mm) (d : Nat) (ls : mm_L) (hd : 14 ≤ d) (hl0 : mm_lk ls 0 = some (.ref 10)) (hl1 : mm_lk ls 1 = some (.int (nI y1))) (hl3 : mm_lk ls 3 = some (.int (nI y3))) (hl4 : mm_lk ls 4 = some (.int (nI y4))) (hl5 : mm_lk ls 5 = some (.int (nI y5))) (hl6 : mm_lk ls 6 = some (.int (nI y6))) (hl7 : mm_lk ls 7 = some (.int (nI y7))) (hN : lp_X6_simpleRest_95  y1 y3 y4 y5 y6 y7 s ≠ none) : Ev xs L d 200 95 ls [] (TM h0 s) 0 0 (ou eU (TM h0) (lp_X6_simpleRest_95  y1 y3 y4 y5 y6 y7 s)) := by
  unfold lp_X6_simpleRest_95 at hN ⊢
  refine e_iload m_X6_simpleRest dX6_simpleRest_95 hl5 ?_
  refine e_bipush (v := nI 64) m_X6_simpleRest dX6_simpleRest_97 (by decide) ?_
  refine e_ieq (t := 135) (a := y5) (b := 64) hN m_X6_simpleRest dX6_simpleRest_99 (by decide) (fun q17 hN => ?_) (fun q17 hN => ?_)
  · exact l_X6_simpleRest_135 G  y1 y3 y5 _ _ _ (by omega) hl0 hl1 hl3 hl5 hN
  · refine e_iload m_X6_simpleRest dX6_simpleRest_102 hl7 ?_
    refine e_ifeq (t := 221) hN m_X6_simpleRest dX6_simpleRest_104 (by decide) (fun q18 hN => ?_) (fun q18 hN => ?_)
    · exact l_X6_simpleRest_221 G  y1 y3 y4 y5 y6 _ _ _ (by omega) hl0 hl1 hl3 hl4 hl5 hl6 hN
    · refine e_iload m_X6_simpleRest dX6_simpleRest_107 hl5 ?_
      refine e_bipush (v := nI 65) m_X6_simpleRest dX6_simpleRest_109 (by decide) ?_
      refine e_ieq (t := 135) (a := y5) (b := 65) hN m_X6_simpleRest dX6_simpleRest_111 (by decide) (fun q19 hN => ?_) (fun q19 hN => ?_)
      · exact l_X6_simpleRest_135 G  y1 y3 y5 _ _ _ (by omega) hl0 hl1 hl3 hl5 hN
      · refine e_iload m_X6_simpleRest dX6_simpleRest_114 hl5 ?_
        refine e_bipush (v := nI 66) m_X6_simpleRest dX6_simpleRest_116 (by decide) ?_
        refine e_ieq (t := 135) (a := y5) (b := 66) hN m_X6_simpleRest dX6_simpleRest_118 (by decide) (fun q20 hN => ?_) (fun q20 hN => ?_)
        · exact l_X6_simpleRest_135 G  y1 y3 y5 _ _ _ (by omega) hl0 hl1 hl3 hl5 hN
        · refine e_iload m_X6_simpleRest dX6_simpleRest_121 hl5 ?_
          refine e_bipush (v := nI 51) m_X6_simpleRest dX6_simpleRest_123 (by decide) ?_
          refine e_ilt (t := 221) (a := y5) (b := 51) hN m_X6_simpleRest dX6_simpleRest_125 (by decide) (fun q21 hN => ?_) (fun q21 hN => ?_)
          · exact l_X6_simpleRest_221 G  y1 y3 y4 y5 y6 _ _ _ (by omega) hl0 hl1 hl3 hl4 hl5 hl6 hN
          · refine e_iload m_X6_simpleRest dX6_simpleRest_128 hl5 ?_
            refine e_bipush (v := nI 61) m_X6_simpleRest dX6_simpleRest_130 (by decide) ?_
            refine e_igt (t := 221) (a := y5) (b := 61) hN m_X6_simpleRest dX6_simpleRest_132 (by decide) (fun q22 hN => ?_) (fun q22 hN => ?_)
            · exact l_X6_simpleRest_221 G  y1 y3 y4 y5 y6 _ _ _ (by omega) hl0 hl1 hl3 hl4 hl5 hl6 hN
            · exact l_X6_simpleRest_135 G  y1 y3 y5 _ _ _ (by omega) hl0 hl1 hl3 hl5 hN
def lp_X6_simpleRest_79  (y1 y3 y4 y5 y6 : Nat) (s : Mm) : Rs Mm := ck (y3 < 2147483648) (ifz (f_X6_has y3 32) (lp_X6_simpleRest_95   y1 y3 y4 y5 y6 1 s) (lp_X6_simpleRest_95   y1 y3 y4 y5 y6 0 s))
theorem l_X6_simpleRest_79 {xs : Nat → Int32} {L : Nat} {h0 : mm_H} (G : Mg h0) (y1 y3 y4 y5 y6 : Nat) (s : Mm) (d : Nat) (ls : mm_L) (hd : 14 ≤ d) (hl0 : mm_lk ls 0 = some (.ref 10)) (hl1 : mm_lk ls 1 = some (.int (nI y1))) (hl3 : mm_lk ls 3 = some (.int (nI y3))) (hl4 : mm_lk ls 4 = some (.int (nI y4))) (hl5 : mm_lk ls 5 = some (.int (nI y5))) (hl6 : mm_lk ls 6 = some (.int (nI y6))) (hN : lp_X6_simpleRest_79  y1 y3 y4 y5 y6 s ≠ none) : Ev xs L d 200 79 ls [] (TM h0 s) 0 0 (ou eU (TM h0) (lp_X6_simpleRest_79  y1 y3 y4 y5 y6 s)) := by
  unfold lp_X6_simpleRest_79 at hN ⊢
  refine e_iload_n m_X6_simpleRest dX6_simpleRest_79 rfl hl3 ?_
  refine e_bipush (v := nI 32) m_X6_simpleRest dX6_simpleRest_80 (by decide) ?_
  refine e_ck hN (fun q15 hN => ?_)
  refine e_cs (as := [_, _]) m_X6_simpleRest dX6_simpleRest_82 c_RX6_133 (by decide) rfl rfl (Nat.le_of_ble_eq_true rfl) (Nat.le_of_ble_eq_true rfl) (by omega) (z_X6_has q15 (by decide) (by omega)) ?_
  refine e_ifne (t := 92) hN m_X6_simpleRest dX6_simpleRest_85 (by decide) (fun q16 hN => ?_) (fun q16 hN => ?_)
  · refine e_iconst (v := nI 1) m_X6_simpleRest dX6_simpleRest_88 (by decide) ?_
    refine e_goto (t := 93) m_X6_simpleRest dX6_simpleRest_89 (by decide) ?_
    refine e_istore m_X6_simpleRest dX6_simpleRest_93 (by decide) rfl ?_
    exact l_X6_simpleRest_95 G  y1 y3 y4 y5 y6 1 _ _ _ (by omega) (lk_mis (by decide) rfl hl0) (lk_mis (by decide) rfl hl1) (lk_mis (by decide) rfl hl3) (lk_mis (by decide) rfl hl4) (lk_mis (by decide) rfl hl5) (lk_mis (by decide) rfl hl6) lk_hit hN
  · refine e_iconst (v := nI 0) m_X6_simpleRest dX6_simpleRest_92 (by decide) ?_
    refine e_istore m_X6_simpleRest dX6_simpleRest_93 (by decide) rfl ?_
    exact l_X6_simpleRest_95 G  y1 y3 y4 y5 y6 0 _ _ _ (by omega) (lk_mis (by decide) rfl hl0) (lk_mis (by decide) rfl hl1) (lk_mis (by decide) rfl hl3) (lk_mis (by decide) rfl hl4) (lk_mis (by decide) rfl hl5) (lk_mis (by decide) rfl hl6) lk_hit hN
def lp_X6_simpleRest_40  (y1 y3 y4 y5 y6 : Nat) (s : Mm) : Rs Mm := ck (y1 < 65536) (ck ((m_la s y1) ≠ 0) (ck (((m_la s y1) - 1) < 65536) (ife (m_wh s ((m_la s y1) - 1)) 69 (okR 0 s) (ck (y3 < 2147483648) (ifz (f_X6_has y3 16) (lp_X6_simpleRest_79   y1 y3 y4 y5 y6 s) (ife y5 76 (ifz y6 (okR 0 s) (lp_X6_simpleRest_79   y1 y3 y4 y5 y6 s)) (okR 0 s)))))))
theorem l_X6_simpleRest_40 {xs : Nat → Int32} {L : Nat} {h0 : mm_H} (G : Mg h0) (y1 y3 y4 y5 y6 : Nat) (s : Mm) (d : Nat) (ls : mm_L) (hd : 14 ≤ d) (hl0 : mm_lk ls 0 = some (.ref 10)) (hl1 : mm_lk ls 1 = some (.int (nI y1))) (hl3 : mm_lk ls 3 = some (.int (nI y3))) (hl4 : mm_lk ls 4 = some (.int (nI y4))) (hl5 : mm_lk ls 5 = some (.int (nI y5))) (hl6 : mm_lk ls 6 = some (.int (nI y6))) (hN : lp_X6_simpleRest_40  y1 y3 y4 y5 y6 s ≠ none) : Ev xs L d 200 40 ls [] (TM h0 s) 0 0 (ou eU (TM h0) (lp_X6_simpleRest_40  y1 y3 y4 y5 y6 s)) := by
  unfold lp_X6_simpleRest_40 at hN ⊢
  refine e_aload_n m_X6_simpleRest dX6_simpleRest_40 rfl hl0 rfl ?_
  refine e_getf m_X6_simpleRest dX6_simpleRest_41 f_RX6_14 (gM_m G) rfl ?_
  refine e_aload_n m_X6_simpleRest dX6_simpleRest_44 rfl hl0 rfl ?_
  refine e_getf m_X6_simpleRest dX6_simpleRest_45 f_RX6_27 (gM_m G) rfl ?_
  refine e_iload_n m_X6_simpleRest dX6_simpleRest_48 rfl hl1 ?_
  refine e_ck hN (fun q7 hN => ?_)
  refine e_aldO q7 (by decide) (Or.inl ⟨rfl, rfl⟩) m_X6_simpleRest dX6_simpleRest_49 (gM_la G) ?_
  refine e_ck hN (fun q8 hN => ?_)
  rw [oI_p q8]
  refine e_ck hN (fun q9 hN => ?_)
  refine e_aldN q9 (by decide) (Or.inl ⟨rfl, rfl⟩) m_X6_simpleRest dX6_simpleRest_50 (gM_wh G) ?_
  refine e_bipush (v := nI 69) m_X6_simpleRest dX6_simpleRest_51 (by decide) ?_
  refine e_ine (t := 57) (a := (m_wh s ((m_la s y1) - 1))) (b := 69) hN m_X6_simpleRest dX6_simpleRest_53 (by decide) (fun q10 hN => ?_) (fun q10 hN => ?_)
  · exact e_ret0 m_X6_simpleRest dX6_simpleRest_56
  · refine e_iload_n m_X6_simpleRest dX6_simpleRest_57 rfl hl3 ?_
    refine e_bipush (v := nI 16) m_X6_simpleRest dX6_simpleRest_58 (by decide) ?_
    refine e_ck hN (fun q11 hN => ?_)
    refine e_cs (as := [_, _]) m_X6_simpleRest dX6_simpleRest_60 c_RX6_133 (by decide) rfl rfl (Nat.le_of_ble_eq_true rfl) (Nat.le_of_ble_eq_true rfl) (by omega) (z_X6_has q11 (by decide) (by omega)) ?_
    refine e_ifeq (t := 79) hN m_X6_simpleRest dX6_simpleRest_63 (by decide) (fun q12 hN => ?_) (fun q12 hN => ?_)
    · exact l_X6_simpleRest_79 G  y1 y3 y4 y5 y6 _ _ _ (by omega) hl0 hl1 hl3 hl4 hl5 hl6 hN
    · refine e_iload m_X6_simpleRest dX6_simpleRest_66 hl5 ?_
      refine e_bipush (v := nI 76) m_X6_simpleRest dX6_simpleRest_68 (by decide) ?_
      refine e_ine (t := 78) (a := y5) (b := 76) hN m_X6_simpleRest dX6_simpleRest_70 (by decide) (fun q13 hN => ?_) (fun q13 hN => ?_)
      · refine e_iload m_X6_simpleRest dX6_simpleRest_73 hl6 ?_
        refine e_ifne (t := 79) hN m_X6_simpleRest dX6_simpleRest_75 (by decide) (fun q14 hN => ?_) (fun q14 hN => ?_)
        · exact e_ret0 m_X6_simpleRest dX6_simpleRest_78
        · exact l_X6_simpleRest_79 G  y1 y3 y4 y5 y6 _ _ _ (by omega) hl0 hl1 hl3 hl4 hl5 hl6 hN
      · exact e_ret0 m_X6_simpleRest dX6_simpleRest_78
def b_X6_simpleRest  (x1 : Nat) (x2 : Nat) (s : Mm) : Rs Mm := ck (x2 < 2147483648) (bn (b_X6_look  s) (fun v2 s2 => ck (x1 < 65536) (ck ((m_la s2 x1) ≠ 0) (ck (((m_la s2 x1) - 1) < 65536) (ife (m_wh s2 ((m_la s2 x1) - 1)) 5 (lp_X6_simpleRest_40   x1 (x2 &&& 255) (x2 / 256) v2 1 s2) (lp_X6_simpleRest_40   x1 (x2 &&& 255) (x2 / 256) v2 0 s2))))))
theorem w_X6_simpleRest {xs : Nat → Int32} {L : Nat} {h0 : mm_H} (G : Mg h0) {x1 : Nat} {x2 : Nat} {s : Mm} {d : Nat} (hd : 14 ≤ d) (hN : b_X6_simpleRest  x1 x2 s ≠ none) : Rn xs L d 200 [.ref 10, .int (nI x1), .int (nI x2)] (TM h0 s) (ou eU (TM h0) (b_X6_simpleRest  x1 x2 s)) := by
  unfold Rn
  unfold b_X6_simpleRest at hN ⊢
  refine e_iload_n m_X6_simpleRest dX6_simpleRest_0 rfl rfl ?_
  refine e_sipush (v := nI 255) m_X6_simpleRest dX6_simpleRest_1 (by decide) ?_
  refine e_iandN m_X6_simpleRest dX6_simpleRest_4 ?_
  refine e_istore_n m_X6_simpleRest dX6_simpleRest_5 rfl (by decide) rfl ?_
  refine e_iload_n m_X6_simpleRest dX6_simpleRest_6 rfl rfl ?_
  refine e_bipush (v := nI 8) m_X6_simpleRest dX6_simpleRest_7 (by decide) ?_
  refine e_ck hN (fun q1 hN => ?_)
  refine e_ishr8 q1 m_X6_simpleRest dX6_simpleRest_9 ?_
  refine e_istore m_X6_simpleRest dX6_simpleRest_10 (by decide) rfl ?_
  refine e_aload_n m_X6_simpleRest dX6_simpleRest_12 rfl rfl rfl ?_
  refine e_cvN (as := []) hN m_X6_simpleRest dX6_simpleRest_13 c_RX6_83 (by decide) rfl rfl (gM_m G) rfl (Nat.le_of_ble_eq_true rfl) (Nat.le_of_ble_eq_true rfl) (by omega) (w_X6_look G (by omega)) (fun v2 s2 hN => ?_)
  refine e_istore m_X6_simpleRest dX6_simpleRest_16 (by decide) rfl ?_
  refine e_aload_n m_X6_simpleRest dX6_simpleRest_18 rfl rfl rfl ?_
  refine e_getf m_X6_simpleRest dX6_simpleRest_19 f_RX6_14 (gM_m G) rfl ?_
  refine e_aload_n m_X6_simpleRest dX6_simpleRest_22 rfl rfl rfl ?_
  refine e_getf m_X6_simpleRest dX6_simpleRest_23 f_RX6_27 (gM_m G) rfl ?_
  refine e_iload_n m_X6_simpleRest dX6_simpleRest_26 rfl rfl ?_
  refine e_ck hN (fun q3 hN => ?_)
  refine e_aldO q3 (by decide) (Or.inl ⟨rfl, rfl⟩) m_X6_simpleRest dX6_simpleRest_27 (gM_la G) ?_
  refine e_ck hN (fun q4 hN => ?_)
  rw [oI_p q4]
  refine e_ck hN (fun q5 hN => ?_)
  refine e_aldN q5 (by decide) (Or.inl ⟨rfl, rfl⟩) m_X6_simpleRest dX6_simpleRest_28 (gM_wh G) ?_
  refine e_iconst (v := nI 5) m_X6_simpleRest dX6_simpleRest_29 (by decide) ?_
  refine e_ine (t := 37) (a := (m_wh s2 ((m_la s2 x1) - 1))) (b := 5) hN m_X6_simpleRest dX6_simpleRest_30 (by decide) (fun q6 hN => ?_) (fun q6 hN => ?_)
  · refine e_iconst (v := nI 1) m_X6_simpleRest dX6_simpleRest_33 (by decide) ?_
    refine e_goto (t := 38) m_X6_simpleRest dX6_simpleRest_34 (by decide) ?_
    refine e_istore m_X6_simpleRest dX6_simpleRest_38 (by decide) rfl ?_
    exact l_X6_simpleRest_40 G  x1 (x2 &&& 255) (x2 / 256) v2 1 _ _ _ (by omega) rfl rfl rfl rfl rfl rfl hN
  · refine e_iconst (v := nI 0) m_X6_simpleRest dX6_simpleRest_37 (by decide) ?_
    refine e_istore m_X6_simpleRest dX6_simpleRest_38 (by decide) rfl ?_
    exact l_X6_simpleRest_40 G  x1 (x2 &&& 255) (x2 / 256) v2 0 _ _ _ (by omega) rfl rfl rfl rfl rfl rfl hN

def lp_X6_listRest_18  : Nat → Nat → Nat → Nat → Nat → Nat → Mm → Rs Mm
  | 0, _, _, _, _, _, _ => none
  | f + 1, y1, y2, y3, y4, y5, s => ifz y5 (bn (b_X6_look  s) (fun v30 s30 => ife v30 70 (bn (b_X6_assign y1 y2 s30) (fun v32 s32 => okR 0 s32)) (bn (b_X6_look  s30) (fun v33 s33 => ife v33 76 (ifz y4 (bn (b_X6_error  s33) (fun v36 s36 => okR 0 s36)) (ck (y2 < 2147483648) (ifz (f_X6_has y2 64) (ck (y3 < 65536) (st1 (w_wh s33 (upN (m_wh s33) y3 12)) (fun s40 => bn (b_X6_define y1 y2 0 s40) (fun v41 s41 => okR 0 s41)))) (bn (b_X6_error  s33) (fun v42 s42 => okR 0 s42))))) (bn (b_X6_error  s33) (fun v43 s43 => okR 0 s43)))))) (ifz y4 (ck (y5 ≠ 0) (ck ((y5 - 1) < 65536) (lp_X6_listRest_18  f y1 y2 y3 0 (m_nx s (y5 - 1)) s))) (ck (y5 ≠ 0) (ck ((y5 - 1) < 65536) (ife (m_wh s (y5 - 1)) 5 (ck (y5 ≠ 0) (ck ((y5 - 1) < 65536) (lp_X6_listRest_18  f y1 y2 y3 1 (m_nx s (y5 - 1)) s))) (ck (y5 ≠ 0) (ck ((y5 - 1) < 65536) (lp_X6_listRest_18  f y1 y2 y3 0 (m_nx s (y5 - 1)) s)))))))
theorem l_X6_listRest_18 {xs : Nat → Int32} {L : Nat} {h0 : mm_H} (G : Mg h0) : ∀ (f : Nat) (y1 y2 y3 y4 y5 : Nat) (s : Mm) (d : Nat) (ls : mm_L) (hd : 14 ≤ d) (hl0 : mm_lk ls 0 = some (.ref 10)) (hl1 : mm_lk ls 1 = some (.int (nI y1))) (hl2 : mm_lk ls 2 = some (.int (nI y2))) (hl3 : mm_lk ls 3 = some (.int (nI y3))) (hl4 : mm_lk ls 4 = some (.int (nI y4))) (hl5 : mm_lk ls 5 = some (.int (oI y5))), lp_X6_listRest_18  f y1 y2 y3 y4 y5 s ≠ none → Ev xs L d 205 18 ls [] (TM h0 s) 0 0 (ou eU (TM h0) (lp_X6_listRest_18  f y1 y2 y3 y4 y5 s)) := by
  intro f
  induction f with
  | zero => intros; rename_i hN; exact absurd rfl hN
  | succ f ih =>
    intro y1 y2 y3 y4 y5 s d ls hd hl0 hl1 hl2 hl3 hl4 hl5 hN
    rw [lp_X6_listRest_18] at hN ⊢
    refine e_iload m_X6_listRest dX6_listRest_18 hl5 ?_
    refine e_oiflt (t := 58) hN m_X6_listRest dX6_listRest_20 (by decide) (fun q29 hN => ?_) (fun q29 hN => ?_)
    · refine e_aload_n m_X6_listRest dX6_listRest_58 rfl hl0 rfl ?_
      refine e_cvN (as := []) hN m_X6_listRest dX6_listRest_59 c_RX6_83 (by decide) rfl rfl (gM_m G) rfl (Nat.le_of_ble_eq_true rfl) (Nat.le_of_ble_eq_true rfl) (by omega) (w_X6_look G (by omega)) (fun v30 s30 hN => ?_)
      refine e_bipush (v := nI 70) m_X6_listRest dX6_listRest_62 (by decide) ?_
      refine e_ine (t := 76) (a := v30) (b := 70) hN m_X6_listRest dX6_listRest_64 (by decide) (fun q31 hN => ?_) (fun q31 hN => ?_)
      · refine e_aload_n m_X6_listRest dX6_listRest_67 rfl hl0 rfl ?_
        refine e_iload_n m_X6_listRest dX6_listRest_68 rfl hl1 ?_
        refine e_iload_n m_X6_listRest dX6_listRest_69 rfl hl2 ?_
        refine e_cvU (as := [.int (nI y1), .int (nI y2)]) hN m_X6_listRest dX6_listRest_70 c_RX6_198 (by decide) rfl rfl (gM_m G) rfl (Nat.le_of_ble_eq_true rfl) (Nat.le_of_ble_eq_true rfl) (by omega) (w_X6_assign G (by omega)) (fun v32 s32 hN => ?_)
        refine e_goto (t := 121) m_X6_listRest dX6_listRest_73 (by decide) ?_
        exact e_ret0 m_X6_listRest dX6_listRest_121
      · refine e_aload_n m_X6_listRest dX6_listRest_76 rfl hl0 rfl ?_
        refine e_cvN (as := []) hN m_X6_listRest dX6_listRest_77 c_RX6_83 (by decide) rfl rfl (gM_m G) rfl (Nat.le_of_ble_eq_true rfl) (Nat.le_of_ble_eq_true rfl) (by omega) (w_X6_look G (by omega)) (fun v33 s33 hN => ?_)
        refine e_bipush (v := nI 76) m_X6_listRest dX6_listRest_80 (by decide) ?_
        refine e_ine (t := 117) (a := v33) (b := 76) hN m_X6_listRest dX6_listRest_82 (by decide) (fun q34 hN => ?_) (fun q34 hN => ?_)
        · refine e_iload m_X6_listRest dX6_listRest_85 hl4 ?_
          refine e_ifeq (t := 117) hN m_X6_listRest dX6_listRest_87 (by decide) (fun q35 hN => ?_) (fun q35 hN => ?_)
          · refine e_aload_n m_X6_listRest dX6_listRest_117 rfl hl0 rfl ?_
            refine e_cvU (as := []) hN m_X6_listRest dX6_listRest_118 c_RX6_87 (by decide) rfl rfl (gM_m G) rfl (Nat.le_of_ble_eq_true rfl) (Nat.le_of_ble_eq_true rfl) (by omega) (w_X6_error G (by omega)) (fun v36 s36 hN => ?_)
            exact e_ret0 m_X6_listRest dX6_listRest_121
          · refine e_iload_n m_X6_listRest dX6_listRest_90 rfl hl2 ?_
            refine e_bipush (v := nI 64) m_X6_listRest dX6_listRest_91 (by decide) ?_
            refine e_ck hN (fun q37 hN => ?_)
            refine e_cs (as := [_, _]) m_X6_listRest dX6_listRest_93 c_RX6_133 (by decide) rfl rfl (Nat.le_of_ble_eq_true rfl) (Nat.le_of_ble_eq_true rfl) (by omega) (z_X6_has q37 (by decide) (by omega)) ?_
            refine e_ifne (t := 117) hN m_X6_listRest dX6_listRest_96 (by decide) (fun q38 hN => ?_) (fun q38 hN => ?_)
            · refine e_aload_n m_X6_listRest dX6_listRest_99 rfl hl0 rfl ?_
              refine e_getf m_X6_listRest dX6_listRest_100 f_RX6_14 (gM_m G) rfl ?_
              refine e_iload_n m_X6_listRest dX6_listRest_103 rfl hl3 ?_
              refine e_bipush (v := nI 12) m_X6_listRest dX6_listRest_104 (by decide) ?_
              refine e_ck hN (fun q39 hN => ?_)
              refine e_astN (v := 12) (h' := TM h0 (w_wh s33 (upN (m_wh s33) y3 12))) q39 (by decide) m_X6_listRest dX6_listRest_106 (gM_wh G) (hpL_set (k := 12) (by decide) (Nat.le_of_ble_eq_true rfl)) ?_
              refine e_st hN (fun s40 hN => ?_)
              refine e_aload_n m_X6_listRest dX6_listRest_107 rfl hl0 rfl ?_
              refine e_iload_n m_X6_listRest dX6_listRest_108 rfl hl1 ?_
              refine e_iload_n m_X6_listRest dX6_listRest_109 rfl hl2 ?_
              refine e_iconst (v := nI 0) m_X6_listRest dX6_listRest_110 (by decide) ?_
              refine e_cvU (as := [.int (nI y1), .int (nI y2), .int (nI 0)]) hN m_X6_listRest dX6_listRest_111 c_RX6_201 (by decide) rfl rfl (gM_m G) rfl (Nat.le_of_ble_eq_true rfl) (Nat.le_of_ble_eq_true rfl) (by omega) (w_X6_define G (by omega)) (fun v41 s41 hN => ?_)
              refine e_goto (t := 121) m_X6_listRest dX6_listRest_114 (by decide) ?_
              exact e_ret0 m_X6_listRest dX6_listRest_121
            · refine e_aload_n m_X6_listRest dX6_listRest_117 rfl hl0 rfl ?_
              refine e_cvU (as := []) hN m_X6_listRest dX6_listRest_118 c_RX6_87 (by decide) rfl rfl (gM_m G) rfl (Nat.le_of_ble_eq_true rfl) (Nat.le_of_ble_eq_true rfl) (by omega) (w_X6_error G (by omega)) (fun v42 s42 hN => ?_)
              exact e_ret0 m_X6_listRest dX6_listRest_121
        · refine e_aload_n m_X6_listRest dX6_listRest_117 rfl hl0 rfl ?_
          refine e_cvU (as := []) hN m_X6_listRest dX6_listRest_118 c_RX6_87 (by decide) rfl rfl (gM_m G) rfl (Nat.le_of_ble_eq_true rfl) (Nat.le_of_ble_eq_true rfl) (by omega) (w_X6_error G (by omega)) (fun v43 s43 hN => ?_)
          exact e_ret0 m_X6_listRest dX6_listRest_121
    · refine e_iload m_X6_listRest dX6_listRest_23 hl4 ?_
      refine e_ifeq (t := 43) hN m_X6_listRest dX6_listRest_25 (by decide) (fun q44 hN => ?_) (fun q44 hN => ?_)
      · refine e_iconst (v := nI 0) m_X6_listRest dX6_listRest_43 (by decide) ?_
        refine e_istore m_X6_listRest dX6_listRest_44 (by decide) rfl ?_
        refine e_aload_n m_X6_listRest dX6_listRest_46 rfl (lk_mis (by decide) rfl hl0) rfl ?_
        refine e_getf m_X6_listRest dX6_listRest_47 f_RX6_30 (gM_m G) rfl ?_
        refine e_iload m_X6_listRest dX6_listRest_50 (lk_mis (by decide) rfl hl5) ?_
        refine e_ck hN (fun q45 hN => ?_)
        rw [oI_p q45]
        refine e_ck hN (fun q46 hN => ?_)
        refine e_aldO q46 (by decide) (Or.inl ⟨rfl, rfl⟩) m_X6_listRest dX6_listRest_52 (gM_nx G) ?_
        refine e_istore m_X6_listRest dX6_listRest_53 (by decide) rfl ?_
        refine e_goto (t := 18) m_X6_listRest dX6_listRest_55 (by decide) ?_
        exact ih y1 y2 y3 0 (m_nx s (y5 - 1)) _ _ _ (by omega) (lk_mis (by decide) rfl (lk_mis (by decide) rfl hl0)) (lk_mis (by decide) rfl (lk_mis (by decide) rfl hl1)) (lk_mis (by decide) rfl (lk_mis (by decide) rfl hl2)) (lk_mis (by decide) rfl (lk_mis (by decide) rfl hl3)) (lk_mis (by decide) rfl lk_hit) lk_hit hN
      · refine e_aload_n m_X6_listRest dX6_listRest_28 rfl hl0 rfl ?_
        refine e_getf m_X6_listRest dX6_listRest_29 f_RX6_14 (gM_m G) rfl ?_
        refine e_iload m_X6_listRest dX6_listRest_32 hl5 ?_
        refine e_ck hN (fun q47 hN => ?_)
        rw [oI_p q47]
        refine e_ck hN (fun q48 hN => ?_)
        refine e_aldN q48 (by decide) (Or.inl ⟨rfl, rfl⟩) m_X6_listRest dX6_listRest_34 (gM_wh G) ?_
        refine e_iconst (v := nI 5) m_X6_listRest dX6_listRest_35 (by decide) ?_
        refine e_ine (t := 43) (a := (m_wh s (y5 - 1))) (b := 5) hN m_X6_listRest dX6_listRest_36 (by decide) (fun q49 hN => ?_) (fun q49 hN => ?_)
        · refine e_iconst (v := nI 1) m_X6_listRest dX6_listRest_39 (by decide) ?_
          refine e_goto (t := 44) m_X6_listRest dX6_listRest_40 (by decide) ?_
          refine e_istore m_X6_listRest dX6_listRest_44 (by decide) rfl ?_
          refine e_aload_n m_X6_listRest dX6_listRest_46 rfl (lk_mis (by decide) rfl hl0) rfl ?_
          refine e_getf m_X6_listRest dX6_listRest_47 f_RX6_30 (gM_m G) rfl ?_
          refine e_iload m_X6_listRest dX6_listRest_50 (lk_mis (by decide) rfl hl5) ?_
          refine e_ck hN (fun q50 hN => ?_)
          rw [oI_p q50]
          refine e_ck hN (fun q51 hN => ?_)
          refine e_aldO q51 (by decide) (Or.inl ⟨rfl, rfl⟩) m_X6_listRest dX6_listRest_52 (gM_nx G) ?_
          refine e_istore m_X6_listRest dX6_listRest_53 (by decide) rfl ?_
          refine e_goto (t := 18) m_X6_listRest dX6_listRest_55 (by decide) ?_
          exact ih y1 y2 y3 1 (m_nx s (y5 - 1)) _ _ _ (by omega) (lk_mis (by decide) rfl (lk_mis (by decide) rfl hl0)) (lk_mis (by decide) rfl (lk_mis (by decide) rfl hl1)) (lk_mis (by decide) rfl (lk_mis (by decide) rfl hl2)) (lk_mis (by decide) rfl (lk_mis (by decide) rfl hl3)) (lk_mis (by decide) rfl lk_hit) lk_hit hN
        · refine e_iconst (v := nI 0) m_X6_listRest dX6_listRest_43 (by decide) ?_
          refine e_istore m_X6_listRest dX6_listRest_44 (by decide) rfl ?_
          refine e_aload_n m_X6_listRest dX6_listRest_46 rfl (lk_mis (by decide) rfl hl0) rfl ?_
          refine e_getf m_X6_listRest dX6_listRest_47 f_RX6_30 (gM_m G) rfl ?_
          refine e_iload m_X6_listRest dX6_listRest_50 (lk_mis (by decide) rfl hl5) ?_
          refine e_ck hN (fun q52 hN => ?_)
          rw [oI_p q52]
          refine e_ck hN (fun q53 hN => ?_)
          refine e_aldO q53 (by decide) (Or.inl ⟨rfl, rfl⟩) m_X6_listRest dX6_listRest_52 (gM_nx G) ?_
          refine e_istore m_X6_listRest dX6_listRest_53 (by decide) rfl ?_
          refine e_goto (t := 18) m_X6_listRest dX6_listRest_55 (by decide) ?_
          exact ih y1 y2 y3 0 (m_nx s (y5 - 1)) _ _ _ (by omega) (lk_mis (by decide) rfl (lk_mis (by decide) rfl hl0)) (lk_mis (by decide) rfl (lk_mis (by decide) rfl hl1)) (lk_mis (by decide) rfl (lk_mis (by decide) rfl hl2)) (lk_mis (by decide) rfl (lk_mis (by decide) rfl hl3)) (lk_mis (by decide) rfl lk_hit) lk_hit hN
def b_X6_listRest  (x1 : Nat) (x2 : Nat) (s : Mm) : Rs Mm := ck (x1 < 65536) (ck ((m_la s x1) ≠ 0) (ck (((m_la s x1) - 1) < 65536) (lp_X6_listRest_18  LF x1 x2 ((m_la s x1) - 1) 1 (m_fi s ((m_la s x1) - 1)) s)))
theorem w_X6_listRest {xs : Nat → Int32} {L : Nat} {h0 : mm_H} (G : Mg h0) {x1 : Nat} {x2 : Nat} {s : Mm} {d : Nat} (hd : 14 ≤ d) (hN : b_X6_listRest  x1 x2 s ≠ none) : Rn xs L d 205 [.ref 10, .int (nI x1), .int (nI x2)] (TM h0 s) (ou eU (TM h0) (b_X6_listRest  x1 x2 s)) := by
  unfold Rn
  unfold b_X6_listRest at hN ⊢
  refine e_aload_n m_X6_listRest dX6_listRest_0 rfl rfl rfl ?_
  refine e_getf m_X6_listRest dX6_listRest_1 f_RX6_27 (gM_m G) rfl ?_
  refine e_iload_n m_X6_listRest dX6_listRest_4 rfl rfl ?_
  refine e_ck hN (fun q1 hN => ?_)
  refine e_aldO q1 (by decide) (Or.inl ⟨rfl, rfl⟩) m_X6_listRest dX6_listRest_5 (gM_la G) ?_
  refine e_istore_n m_X6_listRest dX6_listRest_6 rfl (by decide) rfl ?_
  refine e_iconst (v := nI 1) m_X6_listRest dX6_listRest_7 (by decide) ?_
  refine e_istore m_X6_listRest dX6_listRest_8 (by decide) rfl ?_
  refine e_aload_n m_X6_listRest dX6_listRest_10 rfl rfl rfl ?_
  refine e_getf m_X6_listRest dX6_listRest_11 f_RX6_24 (gM_m G) rfl ?_
  refine e_iload_n m_X6_listRest dX6_listRest_14 rfl rfl ?_
  refine e_ck hN (fun q2 hN => ?_)
  rw [oI_p q2]
  refine e_ck hN (fun q3 hN => ?_)
  refine e_aldO q3 (by decide) (Or.inl ⟨rfl, rfl⟩) m_X6_listRest dX6_listRest_15 (gM_fi G) ?_
  refine e_istore m_X6_listRest dX6_listRest_16 (by decide) rfl ?_
  exact l_X6_listRest_18 G LF x1 x2 ((m_la s x1) - 1) 1 (m_fi s ((m_la s x1) - 1)) _ _ _ (by omega) rfl rfl rfl rfl rfl rfl hN

def b_X6_switchRest  (x1 : Nat) (s : Mm) : Rs Mm := ck (x1 < 65536) (ck ((m_la s x1) ≠ 0) (ck (((m_la s x1) - 1) < 65536) (ife (m_wh s ((m_la s x1) - 1)) 69 (bn (b_X6_body x1 1 s) (fun v5 s5 => okR 0 s5)) (bn (b_X6_look  s) (fun v6 s6 => ife v6 85 (bn (b_X6_wrap x1 61 (m_at s6) s6) (fun v8 s8 => st1 (w_at s8 ((m_at s8) + 1)) (fun s9 => bn (b_X6_second x1 s9) (fun v10 s10 => okR 0 s10)))) (ife (m_wh s ((m_la s x1) - 1)) 50 (bn (b_X6_unwrap x1 s6) (fun v12 s12 => bn (b_X6_body x1 0 s12) (fun v13 s13 => okR 0 s13))) (bn (b_X6_error  s6) (fun v14 s14 => okR 0 s14))))))))
theorem w_X6_switchRest {xs : Nat → Int32} {L : Nat} {h0 : mm_H} (G : Mg h0) {x1 : Nat} {s : Mm} {d : Nat} (hd : 14 ≤ d) (hN : b_X6_switchRest  x1 s ≠ none) : Rn xs L d 211 [.ref 10, .int (nI x1)] (TM h0 s) (ou eU (TM h0) (b_X6_switchRest  x1 s)) := by
  unfold Rn
  unfold b_X6_switchRest at hN ⊢
  refine e_aload_n m_X6_switchRest dX6_switchRest_0 rfl rfl rfl ?_
  refine e_getf m_X6_switchRest dX6_switchRest_1 f_RX6_14 (gM_m G) rfl ?_
  refine e_aload_n m_X6_switchRest dX6_switchRest_4 rfl rfl rfl ?_
  refine e_getf m_X6_switchRest dX6_switchRest_5 f_RX6_27 (gM_m G) rfl ?_
  refine e_iload_n m_X6_switchRest dX6_switchRest_8 rfl rfl ?_
  refine e_ck hN (fun q1 hN => ?_)
  refine e_aldO q1 (by decide) (Or.inl ⟨rfl, rfl⟩) m_X6_switchRest dX6_switchRest_9 (gM_la G) ?_
  refine e_ck hN (fun q2 hN => ?_)
  rw [oI_p q2]
  refine e_ck hN (fun q3 hN => ?_)
  refine e_aldN q3 (by decide) (Or.inl ⟨rfl, rfl⟩) m_X6_switchRest dX6_switchRest_10 (gM_wh G) ?_
  refine e_istore_n m_X6_switchRest dX6_switchRest_11 rfl (by decide) rfl ?_
  refine e_iload_n m_X6_switchRest dX6_switchRest_12 rfl rfl ?_
  refine e_bipush (v := nI 69) m_X6_switchRest dX6_switchRest_13 (by decide) ?_
  refine e_ine (t := 27) (a := (m_wh s ((m_la s x1) - 1))) (b := 69) hN m_X6_switchRest dX6_switchRest_15 (by decide) (fun q4 hN => ?_) (fun q4 hN => ?_)
  · refine e_aload_n m_X6_switchRest dX6_switchRest_18 rfl rfl rfl ?_
    refine e_iload_n m_X6_switchRest dX6_switchRest_19 rfl rfl ?_
    refine e_iconst (v := nI 1) m_X6_switchRest dX6_switchRest_20 (by decide) ?_
    refine e_cvU (as := [.int (nI x1), .int (nI 1)]) hN m_X6_switchRest dX6_switchRest_21 c_RX6_192 (by decide) rfl rfl (gM_m G) rfl (Nat.le_of_ble_eq_true rfl) (Nat.le_of_ble_eq_true rfl) (by omega) (w_X6_body G (by omega)) (fun v5 s5 hN => ?_)
    refine e_goto (t := 90) m_X6_switchRest dX6_switchRest_24 (by decide) ?_
    exact e_ret0 m_X6_switchRest dX6_switchRest_90
  · refine e_aload_n m_X6_switchRest dX6_switchRest_27 rfl rfl rfl ?_
    refine e_cvN (as := []) hN m_X6_switchRest dX6_switchRest_28 c_RX6_83 (by decide) rfl rfl (gM_m G) rfl (Nat.le_of_ble_eq_true rfl) (Nat.le_of_ble_eq_true rfl) (by omega) (w_X6_look G (by omega)) (fun v6 s6 hN => ?_)
    refine e_bipush (v := nI 85) m_X6_switchRest dX6_switchRest_31 (by decide) ?_
    refine e_ine (t := 66) (a := v6) (b := 85) hN m_X6_switchRest dX6_switchRest_33 (by decide) (fun q7 hN => ?_) (fun q7 hN => ?_)
    · refine e_aload_n m_X6_switchRest dX6_switchRest_36 rfl rfl rfl ?_
      refine e_iload_n m_X6_switchRest dX6_switchRest_37 rfl rfl ?_
      refine e_bipush (v := nI 61) m_X6_switchRest dX6_switchRest_38 (by decide) ?_
      refine e_aload_n m_X6_switchRest dX6_switchRest_40 rfl rfl rfl ?_
      refine e_getf m_X6_switchRest dX6_switchRest_41 f_RX6_77 (gM_m G) rfl ?_
      refine e_cvN (as := [.int (nI x1), .int (nI 61), .int (nI (m_at s6))]) hN m_X6_switchRest dX6_switchRest_44 c_RX6_114 (by decide) rfl rfl (gM_m G) rfl (Nat.le_of_ble_eq_true rfl) (Nat.le_of_ble_eq_true rfl) (by omega) (w_X6_wrap G (by omega)) (fun v8 s8 hN => ?_)
      refine e_pop m_X6_switchRest dX6_switchRest_47 rfl ?_
      refine e_aload_n m_X6_switchRest dX6_switchRest_48 rfl rfl rfl ?_
      refine e_dup m_X6_switchRest dX6_switchRest_49 rfl ?_
      refine e_getf m_X6_switchRest dX6_switchRest_50 f_RX6_77 (gM_m G) rfl ?_
      refine e_iconst (v := nI 1) m_X6_switchRest dX6_switchRest_53 (by decide) ?_
      refine e_iaddN m_X6_switchRest dX6_switchRest_54 ?_
      refine e_putf (v := .int (nI ((m_at s8) + 1))) (h' := TM h0 (w_at s8 ((m_at s8) + 1))) m_X6_switchRest dX6_switchRest_55 f_RX6_77 (gM_m G) (Nat.le_of_ble_eq_true rfl) (fit_i rfl) rfl (hpL_set (k := 10) (by decide) (Nat.le_of_ble_eq_true rfl)) ?_
      refine e_st hN (fun s9 hN => ?_)
      refine e_aload_n m_X6_switchRest dX6_switchRest_58 rfl rfl rfl ?_
      refine e_iload_n m_X6_switchRest dX6_switchRest_59 rfl rfl ?_
      refine e_cvU (as := [.int (nI x1)]) hN m_X6_switchRest dX6_switchRest_60 c_RX6_217 (by decide) rfl rfl (gM_m G) rfl (Nat.le_of_ble_eq_true rfl) (Nat.le_of_ble_eq_true rfl) (by omega) (w_X6_second G (by omega)) (fun v10 s10 hN => ?_)
      refine e_goto (t := 90) m_X6_switchRest dX6_switchRest_63 (by decide) ?_
      exact e_ret0 m_X6_switchRest dX6_switchRest_90
    · refine e_iload_n m_X6_switchRest dX6_switchRest_66 rfl rfl ?_
      refine e_bipush (v := nI 50) m_X6_switchRest dX6_switchRest_67 (by decide) ?_
      refine e_ine (t := 86) (a := (m_wh s ((m_la s x1) - 1))) (b := 50) hN m_X6_switchRest dX6_switchRest_69 (by decide) (fun q11 hN => ?_) (fun q11 hN => ?_)
      · refine e_aload_n m_X6_switchRest dX6_switchRest_72 rfl rfl rfl ?_
        refine e_iload_n m_X6_switchRest dX6_switchRest_73 rfl rfl ?_
        refine e_cvU (as := [.int (nI x1)]) hN m_X6_switchRest dX6_switchRest_74 c_RX6_211 (by decide) rfl rfl (gM_m G) rfl (Nat.le_of_ble_eq_true rfl) (Nat.le_of_ble_eq_true rfl) (by omega) (w_X6_unwrap G (by omega)) (fun v12 s12 hN => ?_)
        refine e_aload_n m_X6_switchRest dX6_switchRest_77 rfl rfl rfl ?_
        refine e_iload_n m_X6_switchRest dX6_switchRest_78 rfl rfl ?_
        refine e_iconst (v := nI 0) m_X6_switchRest dX6_switchRest_79 (by decide) ?_
        refine e_cvU (as := [.int (nI x1), .int (nI 0)]) hN m_X6_switchRest dX6_switchRest_80 c_RX6_192 (by decide) rfl rfl (gM_m G) rfl (Nat.le_of_ble_eq_true rfl) (Nat.le_of_ble_eq_true rfl) (by omega) (w_X6_body G (by omega)) (fun v13 s13 hN => ?_)
        refine e_goto (t := 90) m_X6_switchRest dX6_switchRest_83 (by decide) ?_
        exact e_ret0 m_X6_switchRest dX6_switchRest_90
      · refine e_aload_n m_X6_switchRest dX6_switchRest_86 rfl rfl rfl ?_
        refine e_cvU (as := []) hN m_X6_switchRest dX6_switchRest_87 c_RX6_87 (by decide) rfl rfl (gM_m G) rfl (Nat.le_of_ble_eq_true rfl) (Nat.le_of_ble_eq_true rfl) (by omega) (w_X6_error G (by omega)) (fun v14 s14 hN => ?_)
        exact e_ret0 m_X6_switchRest dX6_switchRest_90

def b_X6_statement (rc : Nat → Mm → Rs Mm) (x1 : Nat) (s : Mm) : Rs Mm := bn (b_X6_look  s) (fun v1 s1 => ife v1 13 (bn (b_X6_declaration x1 s1) (fun v3 s3 => okR 0 s3)) (ife v1 33 (bn (b_X6_declaration x1 s1) (fun v5 s5 => okR 0 s5)) (ife v1 34 (bn (b_X6_declaration x1 s1) (fun v7 s7 => okR 0 s7)) (ife v1 1 (bn (b_X6_ahead  s1) (fun v9 s9 => ife v9 87 (bn (b_X6_child x1 41 ((m_at s9) + 1) s9) (fun v11 s11 => bn (b_X6_name v11 s11) (fun v12 s12 => bn (b_X6_more  s12) (fun v13 s13 => st1 (w_at s13 ((m_at s13) + 1)) (fun s14 => bn (b_X6_push 6 v11 0 s14) (fun v15 s15 => ifz (m_wr s15) (bn (b_X6_look  s15) (fun v17 s17 => ck (v17 < 2147483648) (ifz (f_X6_beginsStatement v17) (okR 0 s17) (bn (rc v11 s17) (fun v20 s20 => okR 0 s20))))) (okR 0 s15))))))) (ife v1 82 (bn (b_X6_block x1 s9) (fun v22 s22 => okR 0 s22)) (ife v1 23 (bn (b_X6_ifs x1 s9) (fun v24 s24 => okR 0 s24)) (ife v1 19 (bn (b_X6_loop x1 s9) (fun v26 s26 => okR 0 s26)) (ife v1 32 (bn (b_X6_choice x1 s9) (fun v28 s28 => okR 0 s28)) (ife v1 30 (bn (b_X6_child x1 73 (m_at s9) s9) (fun v30 s30 => st1 (w_at s30 ((m_at s30) + 1)) (fun s31 => bn (b_X6_body v30 2 s31) (fun v32 s32 => okR 0 s32)))) (ife v1 21 (bn (b_X6_leaving x1 v1 s9) (fun v34 s34 => okR 0 s34)) (ife v1 16 (bn (b_X6_leaving x1 v1 s9) (fun v36 s36 => okR 0 s36)) (ife v1 29 (bn (b_X6_leaving x1 v1 s9) (fun v38 s38 => okR 0 s38)) (ife v1 10 (bn (b_X6_leaving x1 v1 s9) (fun v40 s40 => okR 0 s40)) (ife v1 14 (bn (b_X6_leaving x1 v1 s9) (fun v42 s42 => okR 0 s42)) (ife v1 18 (bn (b_X6_leaving x1 v1 s9) (fun v44 s44 => okR 0 s44)) (bn (b_X6_push 41 x1 0 s9) (fun v45 s45 => okR 0 s45))))))))))))))) (ife v1 82 (bn (b_X6_block x1 s1) (fun v47 s47 => okR 0 s47)) (ife v1 23 (bn (b_X6_ifs x1 s1) (fun v49 s49 => okR 0 s49)) (ife v1 19 (bn (b_X6_loop x1 s1) (fun v51 s51 => okR 0 s51)) (ife v1 32 (bn (b_X6_choice x1 s1) (fun v53 s53 => okR 0 s53)) (ife v1 30 (bn (b_X6_child x1 73 (m_at s1) s1) (fun v55 s55 => st1 (w_at s55 ((m_at s55) + 1)) (fun s56 => bn (b_X6_body v55 2 s56) (fun v57 s57 => okR 0 s57)))) (ife v1 21 (bn (b_X6_leaving x1 v1 s1) (fun v59 s59 => okR 0 s59)) (ife v1 16 (bn (b_X6_leaving x1 v1 s1) (fun v61 s61 => okR 0 s61)) (ife v1 29 (bn (b_X6_leaving x1 v1 s1) (fun v63 s63 => okR 0 s63)) (ife v1 10 (bn (b_X6_leaving x1 v1 s1) (fun v65 s65 => okR 0 s65)) (ife v1 14 (bn (b_X6_leaving x1 v1 s1) (fun v67 s67 => okR 0 s67)) (ife v1 18 (bn (b_X6_leaving x1 v1 s1) (fun v69 s69 => okR 0 s69)) (bn (b_X6_push 41 x1 0 s1) (fun v70 s70 => okR 0 s70)))))))))))))))))
theorem w_X6_statement {xs : Nat → Int32} {L : Nat} {h0 : mm_H} (G : Mg h0) {n : Nat} {rc : Nat → Mm → Rs Mm} (IH : ∀ x s d, n + 15 ≤ d → rc x s ≠ none → Rn xs L d 188 [.ref 10, .int (nI x)] (TM h0 s) (ou eU (TM h0) (rc x s))) {x1 : Nat} {s : Mm} {d : Nat} (hd : n + 16 ≤ d) (hN : b_X6_statement rc x1 s ≠ none) : Rn xs L d 188 [.ref 10, .int (nI x1)] (TM h0 s) (ou eU (TM h0) (b_X6_statement rc x1 s)) := by
  unfold Rn
  unfold b_X6_statement at hN ⊢
  refine e_aload_n m_X6_statement dX6_statement_0 rfl rfl rfl ?_
  refine e_cvN (as := []) hN m_X6_statement dX6_statement_1 c_RX6_83 (by decide) rfl rfl (gM_m G) rfl (Nat.le_of_ble_eq_true rfl) (Nat.le_of_ble_eq_true rfl) (by omega) (w_X6_look G (by omega)) (fun v1 s1 hN => ?_)
  refine e_istore_n m_X6_statement dX6_statement_4 rfl (by decide) rfl ?_
  refine e_iload_n m_X6_statement dX6_statement_5 rfl rfl ?_
  refine e_bipush (v := nI 13) m_X6_statement dX6_statement_6 (by decide) ?_
  refine e_ieq (t := 23) (a := v1) (b := 13) hN m_X6_statement dX6_statement_8 (by decide) (fun q2 hN => ?_) (fun q2 hN => ?_)
  · refine e_aload_n m_X6_statement dX6_statement_23 rfl rfl rfl ?_
    refine e_iload_n m_X6_statement dX6_statement_24 rfl rfl ?_
    refine e_cvU (as := [.int (nI x1)]) hN m_X6_statement dX6_statement_25 c_RX6_165 (by decide) rfl rfl (gM_m G) rfl (Nat.le_of_ble_eq_true rfl) (Nat.le_of_ble_eq_true rfl) (by omega) (w_X6_declaration G (by omega)) (fun v3 s3 hN => ?_)
    refine e_goto (t := 258) m_X6_statement dX6_statement_28 (by decide) ?_
    exact e_ret0 m_X6_statement dX6_statement_258
  · refine e_iload_n m_X6_statement dX6_statement_11 rfl rfl ?_
    refine e_bipush (v := nI 33) m_X6_statement dX6_statement_12 (by decide) ?_
    refine e_ieq (t := 23) (a := v1) (b := 33) hN m_X6_statement dX6_statement_14 (by decide) (fun q4 hN => ?_) (fun q4 hN => ?_)
    · refine e_aload_n m_X6_statement dX6_statement_23 rfl rfl rfl ?_
      refine e_iload_n m_X6_statement dX6_statement_24 rfl rfl ?_
      refine e_cvU (as := [.int (nI x1)]) hN m_X6_statement dX6_statement_25 c_RX6_165 (by decide) rfl rfl (gM_m G) rfl (Nat.le_of_ble_eq_true rfl) (Nat.le_of_ble_eq_true rfl) (by omega) (w_X6_declaration G (by omega)) (fun v5 s5 hN => ?_)
      refine e_goto (t := 258) m_X6_statement dX6_statement_28 (by decide) ?_
      exact e_ret0 m_X6_statement dX6_statement_258
    · refine e_iload_n m_X6_statement dX6_statement_17 rfl rfl ?_
      refine e_bipush (v := nI 34) m_X6_statement dX6_statement_18 (by decide) ?_
      refine e_ine (t := 31) (a := v1) (b := 34) hN m_X6_statement dX6_statement_20 (by decide) (fun q6 hN => ?_) (fun q6 hN => ?_)
      · refine e_aload_n m_X6_statement dX6_statement_23 rfl rfl rfl ?_
        refine e_iload_n m_X6_statement dX6_statement_24 rfl rfl ?_
        refine e_cvU (as := [.int (nI x1)]) hN m_X6_statement dX6_statement_25 c_RX6_165 (by decide) rfl rfl (gM_m G) rfl (Nat.le_of_ble_eq_true rfl) (Nat.le_of_ble_eq_true rfl) (by omega) (w_X6_declaration G (by omega)) (fun v7 s7 hN => ?_)
        refine e_goto (t := 258) m_X6_statement dX6_statement_28 (by decide) ?_
        exact e_ret0 m_X6_statement dX6_statement_258
      · refine e_iload_n m_X6_statement dX6_statement_31 rfl rfl ?_
        refine e_iconst (v := nI 1) m_X6_statement dX6_statement_32 (by decide) ?_
        refine e_ine (t := 112) (a := v1) (b := 1) hN m_X6_statement dX6_statement_33 (by decide) (fun q8 hN => ?_) (fun q8 hN => ?_)
        · refine e_aload_n m_X6_statement dX6_statement_36 rfl rfl rfl ?_
          refine e_cvN (as := []) hN m_X6_statement dX6_statement_37 c_RX6_120 (by decide) rfl rfl (gM_m G) rfl (Nat.le_of_ble_eq_true rfl) (Nat.le_of_ble_eq_true rfl) (by omega) (w_X6_ahead G (by omega)) (fun v9 s9 hN => ?_)
          refine e_bipush (v := nI 87) m_X6_statement dX6_statement_40 (by decide) ?_
          refine e_ine (t := 112) (a := v9) (b := 87) hN m_X6_statement dX6_statement_42 (by decide) (fun q10 hN => ?_) (fun q10 hN => ?_)
          · refine e_aload_n m_X6_statement dX6_statement_45 rfl rfl rfl ?_
            refine e_iload_n m_X6_statement dX6_statement_46 rfl rfl ?_
            refine e_bipush (v := nI 41) m_X6_statement dX6_statement_47 (by decide) ?_
            refine e_aload_n m_X6_statement dX6_statement_49 rfl rfl rfl ?_
            refine e_getf m_X6_statement dX6_statement_50 f_RX6_77 (gM_m G) rfl ?_
            refine e_iconst (v := nI 1) m_X6_statement dX6_statement_53 (by decide) ?_
            refine e_iaddN m_X6_statement dX6_statement_54 ?_
            refine e_cvN (as := [.int (nI x1), .int (nI 41), .int (nI ((m_at s9) + 1))]) hN m_X6_statement dX6_statement_55 c_RX6_99 (by decide) rfl rfl (gM_m G) rfl (Nat.le_of_ble_eq_true rfl) (Nat.le_of_ble_eq_true rfl) (by omega) (w_X6_child G (by omega)) (fun v11 s11 hN => ?_)
            refine e_istore_n m_X6_statement dX6_statement_58 rfl (by decide) rfl ?_
            refine e_aload_n m_X6_statement dX6_statement_59 rfl rfl rfl ?_
            refine e_iload_n m_X6_statement dX6_statement_60 rfl rfl ?_
            refine e_cvN (as := [.int (nI v11)]) hN m_X6_statement dX6_statement_61 c_RX6_130 (by decide) rfl rfl (gM_m G) rfl (Nat.le_of_ble_eq_true rfl) (Nat.le_of_ble_eq_true rfl) (by omega) (w_X6_name G (by omega)) (fun v12 s12 hN => ?_)
            refine e_pop m_X6_statement dX6_statement_64 rfl ?_
            refine e_aload_n m_X6_statement dX6_statement_65 rfl rfl rfl ?_
            refine e_cvU (as := []) hN m_X6_statement dX6_statement_66 c_RX6_123 (by decide) rfl rfl (gM_m G) rfl (Nat.le_of_ble_eq_true rfl) (Nat.le_of_ble_eq_true rfl) (by omega) (w_X6_more G (by omega)) (fun v13 s13 hN => ?_)
            refine e_aload_n m_X6_statement dX6_statement_69 rfl rfl rfl ?_
            refine e_dup m_X6_statement dX6_statement_70 rfl ?_
            refine e_getf m_X6_statement dX6_statement_71 f_RX6_77 (gM_m G) rfl ?_
            refine e_iconst (v := nI 1) m_X6_statement dX6_statement_74 (by decide) ?_
            refine e_iaddN m_X6_statement dX6_statement_75 ?_
            refine e_putf (v := .int (nI ((m_at s13) + 1))) (h' := TM h0 (w_at s13 ((m_at s13) + 1))) m_X6_statement dX6_statement_76 f_RX6_77 (gM_m G) (Nat.le_of_ble_eq_true rfl) (fit_i rfl) rfl (hpL_set (k := 10) (by decide) (Nat.le_of_ble_eq_true rfl)) ?_
            refine e_st hN (fun s14 hN => ?_)
            refine e_aload_n m_X6_statement dX6_statement_79 rfl rfl rfl ?_
            refine e_bipush (v := nI 6) m_X6_statement dX6_statement_80 (by decide) ?_
            refine e_iload_n m_X6_statement dX6_statement_82 rfl rfl ?_
            refine e_iconst (v := nI 0) m_X6_statement dX6_statement_83 (by decide) ?_
            refine e_cvU (as := [.int (nI 6), .int (nI v11), .int (nI 0)]) hN m_X6_statement dX6_statement_84 c_RX6_106 (by decide) rfl rfl (gM_m G) rfl (Nat.le_of_ble_eq_true rfl) (Nat.le_of_ble_eq_true rfl) (by omega) (w_X6_push G (by omega)) (fun v15 s15 hN => ?_)
            refine e_aload_n m_X6_statement dX6_statement_87 rfl rfl rfl ?_
            refine e_getf m_X6_statement dX6_statement_88 f_RX6_80 (gM_m G) rfl ?_
            refine e_oifge (t := 109) hN m_X6_statement dX6_statement_91 (by decide) (fun q16 hN => ?_) (fun q16 hN => ?_)
            · refine e_aload_n m_X6_statement dX6_statement_94 rfl rfl rfl ?_
              refine e_cvN (as := []) hN m_X6_statement dX6_statement_95 c_RX6_83 (by decide) rfl rfl (gM_m G) rfl (Nat.le_of_ble_eq_true rfl) (Nat.le_of_ble_eq_true rfl) (by omega) (w_X6_look G (by omega)) (fun v17 s17 hN => ?_)
              refine e_ck hN (fun q18 hN => ?_)
              refine e_cs (as := [_]) m_X6_statement dX6_statement_98 c_RX6_174 (by decide) rfl rfl (Nat.le_of_ble_eq_true rfl) (Nat.le_of_ble_eq_true rfl) (by omega) (z_X6_beginsStatement q18 (by omega)) ?_
              refine e_ifeq (t := 109) hN m_X6_statement dX6_statement_101 (by decide) (fun q19 hN => ?_) (fun q19 hN => ?_)
              · refine e_goto (t := 258) m_X6_statement dX6_statement_109 (by decide) ?_
                exact e_ret0 m_X6_statement dX6_statement_258
              · refine e_aload_n m_X6_statement dX6_statement_104 rfl rfl rfl ?_
                refine e_iload_n m_X6_statement dX6_statement_105 rfl rfl ?_
                refine e_cvU (as := [.int (nI v11)]) hN m_X6_statement dX6_statement_106 c_RX6_177 (by decide) rfl rfl (gM_m G) rfl (Nat.le_of_ble_eq_true rfl) (Nat.le_of_ble_eq_true rfl) (by omega) (IH _ _ _ (by omega)) (fun v20 s20 hN => ?_)
                refine e_goto (t := 258) m_X6_statement dX6_statement_109 (by decide) ?_
                exact e_ret0 m_X6_statement dX6_statement_258
            · refine e_goto (t := 258) m_X6_statement dX6_statement_109 (by decide) ?_
              exact e_ret0 m_X6_statement dX6_statement_258
          · refine e_iload_n m_X6_statement dX6_statement_112 rfl rfl ?_
            refine e_bipush (v := nI 82) m_X6_statement dX6_statement_113 (by decide) ?_
            refine e_ine (t := 126) (a := v1) (b := 82) hN m_X6_statement dX6_statement_115 (by decide) (fun q21 hN => ?_) (fun q21 hN => ?_)
            · refine e_aload_n m_X6_statement dX6_statement_118 rfl rfl rfl ?_
              refine e_iload_n m_X6_statement dX6_statement_119 rfl rfl ?_
              refine e_cvU (as := [.int (nI x1)]) hN m_X6_statement dX6_statement_120 c_RX6_180 (by decide) rfl rfl (gM_m G) rfl (Nat.le_of_ble_eq_true rfl) (Nat.le_of_ble_eq_true rfl) (by omega) (w_X6_block G (by omega)) (fun v22 s22 hN => ?_)
              refine e_goto (t := 258) m_X6_statement dX6_statement_123 (by decide) ?_
              exact e_ret0 m_X6_statement dX6_statement_258
            · refine e_iload_n m_X6_statement dX6_statement_126 rfl rfl ?_
              refine e_bipush (v := nI 23) m_X6_statement dX6_statement_127 (by decide) ?_
              refine e_ine (t := 140) (a := v1) (b := 23) hN m_X6_statement dX6_statement_129 (by decide) (fun q23 hN => ?_) (fun q23 hN => ?_)
              · refine e_aload_n m_X6_statement dX6_statement_132 rfl rfl rfl ?_
                refine e_iload_n m_X6_statement dX6_statement_133 rfl rfl ?_
                refine e_cvU (as := [.int (nI x1)]) hN m_X6_statement dX6_statement_134 c_RX6_183 (by decide) rfl rfl (gM_m G) rfl (Nat.le_of_ble_eq_true rfl) (Nat.le_of_ble_eq_true rfl) (by omega) (w_X6_ifs G (by omega)) (fun v24 s24 hN => ?_)
                refine e_goto (t := 258) m_X6_statement dX6_statement_137 (by decide) ?_
                exact e_ret0 m_X6_statement dX6_statement_258
              · refine e_iload_n m_X6_statement dX6_statement_140 rfl rfl ?_
                refine e_bipush (v := nI 19) m_X6_statement dX6_statement_141 (by decide) ?_
                refine e_ine (t := 154) (a := v1) (b := 19) hN m_X6_statement dX6_statement_143 (by decide) (fun q25 hN => ?_) (fun q25 hN => ?_)
                · refine e_aload_n m_X6_statement dX6_statement_146 rfl rfl rfl ?_
                  refine e_iload_n m_X6_statement dX6_statement_147 rfl rfl ?_
                  refine e_cvU (as := [.int (nI x1)]) hN m_X6_statement dX6_statement_148 c_RX6_186 (by decide) rfl rfl (gM_m G) rfl (Nat.le_of_ble_eq_true rfl) (Nat.le_of_ble_eq_true rfl) (by omega) (w_X6_loop G (by omega)) (fun v26 s26 hN => ?_)
                  refine e_goto (t := 258) m_X6_statement dX6_statement_151 (by decide) ?_
                  exact e_ret0 m_X6_statement dX6_statement_258
                · refine e_iload_n m_X6_statement dX6_statement_154 rfl rfl ?_
                  refine e_bipush (v := nI 32) m_X6_statement dX6_statement_155 (by decide) ?_
                  refine e_ine (t := 168) (a := v1) (b := 32) hN m_X6_statement dX6_statement_157 (by decide) (fun q27 hN => ?_) (fun q27 hN => ?_)
                  · refine e_aload_n m_X6_statement dX6_statement_160 rfl rfl rfl ?_
                    refine e_iload_n m_X6_statement dX6_statement_161 rfl rfl ?_
                    refine e_cvU (as := [.int (nI x1)]) hN m_X6_statement dX6_statement_162 c_RX6_189 (by decide) rfl rfl (gM_m G) rfl (Nat.le_of_ble_eq_true rfl) (Nat.le_of_ble_eq_true rfl) (by omega) (w_X6_choice G (by omega)) (fun v28 s28 hN => ?_)
                    refine e_goto (t := 258) m_X6_statement dX6_statement_165 (by decide) ?_
                    exact e_ret0 m_X6_statement dX6_statement_258
                  · refine e_iload_n m_X6_statement dX6_statement_168 rfl rfl ?_
                    refine e_bipush (v := nI 30) m_X6_statement dX6_statement_169 (by decide) ?_
                    refine e_ine (t := 205) (a := v1) (b := 30) hN m_X6_statement dX6_statement_171 (by decide) (fun q29 hN => ?_) (fun q29 hN => ?_)
                    · refine e_aload_n m_X6_statement dX6_statement_174 rfl rfl rfl ?_
                      refine e_iload_n m_X6_statement dX6_statement_175 rfl rfl ?_
                      refine e_bipush (v := nI 73) m_X6_statement dX6_statement_176 (by decide) ?_
                      refine e_aload_n m_X6_statement dX6_statement_178 rfl rfl rfl ?_
                      refine e_getf m_X6_statement dX6_statement_179 f_RX6_77 (gM_m G) rfl ?_
                      refine e_cvN (as := [.int (nI x1), .int (nI 73), .int (nI (m_at s9))]) hN m_X6_statement dX6_statement_182 c_RX6_99 (by decide) rfl rfl (gM_m G) rfl (Nat.le_of_ble_eq_true rfl) (Nat.le_of_ble_eq_true rfl) (by omega) (w_X6_child G (by omega)) (fun v30 s30 hN => ?_)
                      refine e_istore_n m_X6_statement dX6_statement_185 rfl (by decide) rfl ?_
                      refine e_aload_n m_X6_statement dX6_statement_186 rfl rfl rfl ?_
                      refine e_dup m_X6_statement dX6_statement_187 rfl ?_
                      refine e_getf m_X6_statement dX6_statement_188 f_RX6_77 (gM_m G) rfl ?_
                      refine e_iconst (v := nI 1) m_X6_statement dX6_statement_191 (by decide) ?_
                      refine e_iaddN m_X6_statement dX6_statement_192 ?_
                      refine e_putf (v := .int (nI ((m_at s30) + 1))) (h' := TM h0 (w_at s30 ((m_at s30) + 1))) m_X6_statement dX6_statement_193 f_RX6_77 (gM_m G) (Nat.le_of_ble_eq_true rfl) (fit_i rfl) rfl (hpL_set (k := 10) (by decide) (Nat.le_of_ble_eq_true rfl)) ?_
                      refine e_st hN (fun s31 hN => ?_)
                      refine e_aload_n m_X6_statement dX6_statement_196 rfl rfl rfl ?_
                      refine e_iload_n m_X6_statement dX6_statement_197 rfl rfl ?_
                      refine e_iconst (v := nI 2) m_X6_statement dX6_statement_198 (by decide) ?_
                      refine e_cvU (as := [.int (nI v30), .int (nI 2)]) hN m_X6_statement dX6_statement_199 c_RX6_192 (by decide) rfl rfl (gM_m G) rfl (Nat.le_of_ble_eq_true rfl) (Nat.le_of_ble_eq_true rfl) (by omega) (w_X6_body G (by omega)) (fun v32 s32 hN => ?_)
                      refine e_goto (t := 258) m_X6_statement dX6_statement_202 (by decide) ?_
                      exact e_ret0 m_X6_statement dX6_statement_258
                    · refine e_iload_n m_X6_statement dX6_statement_205 rfl rfl ?_
                      refine e_bipush (v := nI 21) m_X6_statement dX6_statement_206 (by decide) ?_
                      refine e_ieq (t := 241) (a := v1) (b := 21) hN m_X6_statement dX6_statement_208 (by decide) (fun q33 hN => ?_) (fun q33 hN => ?_)
                      · refine e_aload_n m_X6_statement dX6_statement_241 rfl rfl rfl ?_
                        refine e_iload_n m_X6_statement dX6_statement_242 rfl rfl ?_
                        refine e_iload_n m_X6_statement dX6_statement_243 rfl rfl ?_
                        refine e_cvU (as := [.int (nI x1), .int (nI v1)]) hN m_X6_statement dX6_statement_244 c_RX6_195 (by decide) rfl rfl (gM_m G) rfl (Nat.le_of_ble_eq_true rfl) (Nat.le_of_ble_eq_true rfl) (by omega) (w_X6_leaving G (by omega)) (fun v34 s34 hN => ?_)
                        refine e_goto (t := 258) m_X6_statement dX6_statement_247 (by decide) ?_
                        exact e_ret0 m_X6_statement dX6_statement_258
                      · refine e_iload_n m_X6_statement dX6_statement_211 rfl rfl ?_
                        refine e_bipush (v := nI 16) m_X6_statement dX6_statement_212 (by decide) ?_
                        refine e_ieq (t := 241) (a := v1) (b := 16) hN m_X6_statement dX6_statement_214 (by decide) (fun q35 hN => ?_) (fun q35 hN => ?_)
                        · refine e_aload_n m_X6_statement dX6_statement_241 rfl rfl rfl ?_
                          refine e_iload_n m_X6_statement dX6_statement_242 rfl rfl ?_
                          refine e_iload_n m_X6_statement dX6_statement_243 rfl rfl ?_
                          refine e_cvU (as := [.int (nI x1), .int (nI v1)]) hN m_X6_statement dX6_statement_244 c_RX6_195 (by decide) rfl rfl (gM_m G) rfl (Nat.le_of_ble_eq_true rfl) (Nat.le_of_ble_eq_true rfl) (by omega) (w_X6_leaving G (by omega)) (fun v36 s36 hN => ?_)
                          refine e_goto (t := 258) m_X6_statement dX6_statement_247 (by decide) ?_
                          exact e_ret0 m_X6_statement dX6_statement_258
                        · refine e_iload_n m_X6_statement dX6_statement_217 rfl rfl ?_
                          refine e_bipush (v := nI 29) m_X6_statement dX6_statement_218 (by decide) ?_
                          refine e_ieq (t := 241) (a := v1) (b := 29) hN m_X6_statement dX6_statement_220 (by decide) (fun q37 hN => ?_) (fun q37 hN => ?_)
                          · refine e_aload_n m_X6_statement dX6_statement_241 rfl rfl rfl ?_
                            refine e_iload_n m_X6_statement dX6_statement_242 rfl rfl ?_
                            refine e_iload_n m_X6_statement dX6_statement_243 rfl rfl ?_
                            refine e_cvU (as := [.int (nI x1), .int (nI v1)]) hN m_X6_statement dX6_statement_244 c_RX6_195 (by decide) rfl rfl (gM_m G) rfl (Nat.le_of_ble_eq_true rfl) (Nat.le_of_ble_eq_true rfl) (by omega) (w_X6_leaving G (by omega)) (fun v38 s38 hN => ?_)
                            refine e_goto (t := 258) m_X6_statement dX6_statement_247 (by decide) ?_
                            exact e_ret0 m_X6_statement dX6_statement_258
                          · refine e_iload_n m_X6_statement dX6_statement_223 rfl rfl ?_
                            refine e_bipush (v := nI 10) m_X6_statement dX6_statement_224 (by decide) ?_
                            refine e_ieq (t := 241) (a := v1) (b := 10) hN m_X6_statement dX6_statement_226 (by decide) (fun q39 hN => ?_) (fun q39 hN => ?_)
                            · refine e_aload_n m_X6_statement dX6_statement_241 rfl rfl rfl ?_
                              refine e_iload_n m_X6_statement dX6_statement_242 rfl rfl ?_
                              refine e_iload_n m_X6_statement dX6_statement_243 rfl rfl ?_
                              refine e_cvU (as := [.int (nI x1), .int (nI v1)]) hN m_X6_statement dX6_statement_244 c_RX6_195 (by decide) rfl rfl (gM_m G) rfl (Nat.le_of_ble_eq_true rfl) (Nat.le_of_ble_eq_true rfl) (by omega) (w_X6_leaving G (by omega)) (fun v40 s40 hN => ?_)
                              refine e_goto (t := 258) m_X6_statement dX6_statement_247 (by decide) ?_
                              exact e_ret0 m_X6_statement dX6_statement_258
                            · refine e_iload_n m_X6_statement dX6_statement_229 rfl rfl ?_
                              refine e_bipush (v := nI 14) m_X6_statement dX6_statement_230 (by decide) ?_
                              refine e_ieq (t := 241) (a := v1) (b := 14) hN m_X6_statement dX6_statement_232 (by decide) (fun q41 hN => ?_) (fun q41 hN => ?_)
                              · refine e_aload_n m_X6_statement dX6_statement_241 rfl rfl rfl ?_
                                refine e_iload_n m_X6_statement dX6_statement_242 rfl rfl ?_
                                refine e_iload_n m_X6_statement dX6_statement_243 rfl rfl ?_
                                refine e_cvU (as := [.int (nI x1), .int (nI v1)]) hN m_X6_statement dX6_statement_244 c_RX6_195 (by decide) rfl rfl (gM_m G) rfl (Nat.le_of_ble_eq_true rfl) (Nat.le_of_ble_eq_true rfl) (by omega) (w_X6_leaving G (by omega)) (fun v42 s42 hN => ?_)
                                refine e_goto (t := 258) m_X6_statement dX6_statement_247 (by decide) ?_
                                exact e_ret0 m_X6_statement dX6_statement_258
                              · refine e_iload_n m_X6_statement dX6_statement_235 rfl rfl ?_
                                refine e_bipush (v := nI 18) m_X6_statement dX6_statement_236 (by decide) ?_
                                refine e_ine (t := 250) (a := v1) (b := 18) hN m_X6_statement dX6_statement_238 (by decide) (fun q43 hN => ?_) (fun q43 hN => ?_)
                                · refine e_aload_n m_X6_statement dX6_statement_241 rfl rfl rfl ?_
                                  refine e_iload_n m_X6_statement dX6_statement_242 rfl rfl ?_
                                  refine e_iload_n m_X6_statement dX6_statement_243 rfl rfl ?_
                                  refine e_cvU (as := [.int (nI x1), .int (nI v1)]) hN m_X6_statement dX6_statement_244 c_RX6_195 (by decide) rfl rfl (gM_m G) rfl (Nat.le_of_ble_eq_true rfl) (Nat.le_of_ble_eq_true rfl) (by omega) (w_X6_leaving G (by omega)) (fun v44 s44 hN => ?_)
                                  refine e_goto (t := 258) m_X6_statement dX6_statement_247 (by decide) ?_
                                  exact e_ret0 m_X6_statement dX6_statement_258
                                · refine e_aload_n m_X6_statement dX6_statement_250 rfl rfl rfl ?_
                                  refine e_bipush (v := nI 41) m_X6_statement dX6_statement_251 (by decide) ?_
                                  refine e_iload_n m_X6_statement dX6_statement_253 rfl rfl ?_
                                  refine e_iconst (v := nI 0) m_X6_statement dX6_statement_254 (by decide) ?_
                                  refine e_cvU (as := [.int (nI 41), .int (nI x1), .int (nI 0)]) hN m_X6_statement dX6_statement_255 c_RX6_106 (by decide) rfl rfl (gM_m G) rfl (Nat.le_of_ble_eq_true rfl) (Nat.le_of_ble_eq_true rfl) (by omega) (w_X6_push G (by omega)) (fun v45 s45 hN => ?_)
                                  exact e_ret0 m_X6_statement dX6_statement_258
        · refine e_iload_n m_X6_statement dX6_statement_112 rfl rfl ?_
          refine e_bipush (v := nI 82) m_X6_statement dX6_statement_113 (by decide) ?_
          refine e_ine (t := 126) (a := v1) (b := 82) hN m_X6_statement dX6_statement_115 (by decide) (fun q46 hN => ?_) (fun q46 hN => ?_)
          · refine e_aload_n m_X6_statement dX6_statement_118 rfl rfl rfl ?_
            refine e_iload_n m_X6_statement dX6_statement_119 rfl rfl ?_
            refine e_cvU (as := [.int (nI x1)]) hN m_X6_statement dX6_statement_120 c_RX6_180 (by decide) rfl rfl (gM_m G) rfl (Nat.le_of_ble_eq_true rfl) (Nat.le_of_ble_eq_true rfl) (by omega) (w_X6_block G (by omega)) (fun v47 s47 hN => ?_)
            refine e_goto (t := 258) m_X6_statement dX6_statement_123 (by decide) ?_
            exact e_ret0 m_X6_statement dX6_statement_258
          · refine e_iload_n m_X6_statement dX6_statement_126 rfl rfl ?_
            refine e_bipush (v := nI 23) m_X6_statement dX6_statement_127 (by decide) ?_
            refine e_ine (t := 140) (a := v1) (b := 23) hN m_X6_statement dX6_statement_129 (by decide) (fun q48 hN => ?_) (fun q48 hN => ?_)
            · refine e_aload_n m_X6_statement dX6_statement_132 rfl rfl rfl ?_
              refine e_iload_n m_X6_statement dX6_statement_133 rfl rfl ?_
              refine e_cvU (as := [.int (nI x1)]) hN m_X6_statement dX6_statement_134 c_RX6_183 (by decide) rfl rfl (gM_m G) rfl (Nat.le_of_ble_eq_true rfl) (Nat.le_of_ble_eq_true rfl) (by omega) (w_X6_ifs G (by omega)) (fun v49 s49 hN => ?_)
              refine e_goto (t := 258) m_X6_statement dX6_statement_137 (by decide) ?_
              exact e_ret0 m_X6_statement dX6_statement_258
            · refine e_iload_n m_X6_statement dX6_statement_140 rfl rfl ?_
              refine e_bipush (v := nI 19) m_X6_statement dX6_statement_141 (by decide) ?_
              refine e_ine (t := 154) (a := v1) (b := 19) hN m_X6_statement dX6_statement_143 (by decide) (fun q50 hN => ?_) (fun q50 hN => ?_)
              · refine e_aload_n m_X6_statement dX6_statement_146 rfl rfl rfl ?_
                refine e_iload_n m_X6_statement dX6_statement_147 rfl rfl ?_
                refine e_cvU (as := [.int (nI x1)]) hN m_X6_statement dX6_statement_148 c_RX6_186 (by decide) rfl rfl (gM_m G) rfl (Nat.le_of_ble_eq_true rfl) (Nat.le_of_ble_eq_true rfl) (by omega) (w_X6_loop G (by omega)) (fun v51 s51 hN => ?_)
                refine e_goto (t := 258) m_X6_statement dX6_statement_151 (by decide) ?_
                exact e_ret0 m_X6_statement dX6_statement_258
              · refine e_iload_n m_X6_statement dX6_statement_154 rfl rfl ?_
                refine e_bipush (v := nI 32) m_X6_statement dX6_statement_155 (by decide) ?_
                refine e_ine (t := 168) (a := v1) (b := 32) hN m_X6_statement dX6_statement_157 (by decide) (fun q52 hN => ?_) (fun q52 hN => ?_)
                · refine e_aload_n m_X6_statement dX6_statement_160 rfl rfl rfl ?_
                  refine e_iload_n m_X6_statement dX6_statement_161 rfl rfl ?_
                  refine e_cvU (as := [.int (nI x1)]) hN m_X6_statement dX6_statement_162 c_RX6_189 (by decide) rfl rfl (gM_m G) rfl (Nat.le_of_ble_eq_true rfl) (Nat.le_of_ble_eq_true rfl) (by omega) (w_X6_choice G (by omega)) (fun v53 s53 hN => ?_)
                  refine e_goto (t := 258) m_X6_statement dX6_statement_165 (by decide) ?_
                  exact e_ret0 m_X6_statement dX6_statement_258
                · refine e_iload_n m_X6_statement dX6_statement_168 rfl rfl ?_
                  refine e_bipush (v := nI 30) m_X6_statement dX6_statement_169 (by decide) ?_
                  refine e_ine (t := 205) (a := v1) (b := 30) hN m_X6_statement dX6_statement_171 (by decide) (fun q54 hN => ?_) (fun q54 hN => ?_)
                  · refine e_aload_n m_X6_statement dX6_statement_174 rfl rfl rfl ?_
                    refine e_iload_n m_X6_statement dX6_statement_175 rfl rfl ?_
                    refine e_bipush (v := nI 73) m_X6_statement dX6_statement_176 (by decide) ?_
                    refine e_aload_n m_X6_statement dX6_statement_178 rfl rfl rfl ?_
                    refine e_getf m_X6_statement dX6_statement_179 f_RX6_77 (gM_m G) rfl ?_
                    refine e_cvN (as := [.int (nI x1), .int (nI 73), .int (nI (m_at s1))]) hN m_X6_statement dX6_statement_182 c_RX6_99 (by decide) rfl rfl (gM_m G) rfl (Nat.le_of_ble_eq_true rfl) (Nat.le_of_ble_eq_true rfl) (by omega) (w_X6_child G (by omega)) (fun v55 s55 hN => ?_)
                    refine e_istore_n m_X6_statement dX6_statement_185 rfl (by decide) rfl ?_
                    refine e_aload_n m_X6_statement dX6_statement_186 rfl rfl rfl ?_
                    refine e_dup m_X6_statement dX6_statement_187 rfl ?_
                    refine e_getf m_X6_statement dX6_statement_188 f_RX6_77 (gM_m G) rfl ?_
                    refine e_iconst (v := nI 1) m_X6_statement dX6_statement_191 (by decide) ?_
                    refine e_iaddN m_X6_statement dX6_statement_192 ?_
                    refine e_putf (v := .int (nI ((m_at s55) + 1))) (h' := TM h0 (w_at s55 ((m_at s55) + 1))) m_X6_statement dX6_statement_193 f_RX6_77 (gM_m G) (Nat.le_of_ble_eq_true rfl) (fit_i rfl) rfl (hpL_set (k := 10) (by decide) (Nat.le_of_ble_eq_true rfl)) ?_
                    refine e_st hN (fun s56 hN => ?_)
                    refine e_aload_n m_X6_statement dX6_statement_196 rfl rfl rfl ?_
                    refine e_iload_n m_X6_statement dX6_statement_197 rfl rfl ?_
                    refine e_iconst (v := nI 2) m_X6_statement dX6_statement_198 (by decide) ?_
                    refine e_cvU (as := [.int (nI v55), .int (nI 2)]) hN m_X6_statement dX6_statement_199 c_RX6_192 (by decide) rfl rfl (gM_m G) rfl (Nat.le_of_ble_eq_true rfl) (Nat.le_of_ble_eq_true rfl) (by omega) (w_X6_body G (by omega)) (fun v57 s57 hN => ?_)
                    refine e_goto (t := 258) m_X6_statement dX6_statement_202 (by decide) ?_
                    exact e_ret0 m_X6_statement dX6_statement_258
                  · refine e_iload_n m_X6_statement dX6_statement_205 rfl rfl ?_
                    refine e_bipush (v := nI 21) m_X6_statement dX6_statement_206 (by decide) ?_
                    refine e_ieq (t := 241) (a := v1) (b := 21) hN m_X6_statement dX6_statement_208 (by decide) (fun q58 hN => ?_) (fun q58 hN => ?_)
                    · refine e_aload_n m_X6_statement dX6_statement_241 rfl rfl rfl ?_
                      refine e_iload_n m_X6_statement dX6_statement_242 rfl rfl ?_
                      refine e_iload_n m_X6_statement dX6_statement_243 rfl rfl ?_
                      refine e_cvU (as := [.int (nI x1), .int (nI v1)]) hN m_X6_statement dX6_statement_244 c_RX6_195 (by decide) rfl rfl (gM_m G) rfl (Nat.le_of_ble_eq_true rfl) (Nat.le_of_ble_eq_true rfl) (by omega) (w_X6_leaving G (by omega)) (fun v59 s59 hN => ?_)
                      refine e_goto (t := 258) m_X6_statement dX6_statement_247 (by decide) ?_
                      exact e_ret0 m_X6_statement dX6_statement_258
                    · refine e_iload_n m_X6_statement dX6_statement_211 rfl rfl ?_
                      refine e_bipush (v := nI 16) m_X6_statement dX6_statement_212 (by decide) ?_
                      refine e_ieq (t := 241) (a := v1) (b := 16) hN m_X6_statement dX6_statement_214 (by decide) (fun q60 hN => ?_) (fun q60 hN => ?_)
                      · refine e_aload_n m_X6_statement dX6_statement_241 rfl rfl rfl ?_
                        refine e_iload_n m_X6_statement dX6_statement_242 rfl rfl ?_
                        refine e_iload_n m_X6_statement dX6_statement_243 rfl rfl ?_
                        refine e_cvU (as := [.int (nI x1), .int (nI v1)]) hN m_X6_statement dX6_statement_244 c_RX6_195 (by decide) rfl rfl (gM_m G) rfl (Nat.le_of_ble_eq_true rfl) (Nat.le_of_ble_eq_true rfl) (by omega) (w_X6_leaving G (by omega)) (fun v61 s61 hN => ?_)
                        refine e_goto (t := 258) m_X6_statement dX6_statement_247 (by decide) ?_
                        exact e_ret0 m_X6_statement dX6_statement_258
                      · refine e_iload_n m_X6_statement dX6_statement_217 rfl rfl ?_
                        refine e_bipush (v := nI 29) m_X6_statement dX6_statement_218 (by decide) ?_
                        refine e_ieq (t := 241) (a := v1) (b := 29) hN m_X6_statement dX6_statement_220 (by decide) (fun q62 hN => ?_) (fun q62 hN => ?_)
                        · refine e_aload_n m_X6_statement dX6_statement_241 rfl rfl rfl ?_
                          refine e_iload_n m_X6_statement dX6_statement_242 rfl rfl ?_
                          refine e_iload_n m_X6_statement dX6_statement_243 rfl rfl ?_
                          refine e_cvU (as := [.int (nI x1), .int (nI v1)]) hN m_X6_statement dX6_statement_244 c_RX6_195 (by decide) rfl rfl (gM_m G) rfl (Nat.le_of_ble_eq_true rfl) (Nat.le_of_ble_eq_true rfl) (by omega) (w_X6_leaving G (by omega)) (fun v63 s63 hN => ?_)
                          refine e_goto (t := 258) m_X6_statement dX6_statement_247 (by decide) ?_
                          exact e_ret0 m_X6_statement dX6_statement_258
                        · refine e_iload_n m_X6_statement dX6_statement_223 rfl rfl ?_
                          refine e_bipush (v := nI 10) m_X6_statement dX6_statement_224 (by decide) ?_
                          refine e_ieq (t := 241) (a := v1) (b := 10) hN m_X6_statement dX6_statement_226 (by decide) (fun q64 hN => ?_) (fun q64 hN => ?_)
                          · refine e_aload_n m_X6_statement dX6_statement_241 rfl rfl rfl ?_
                            refine e_iload_n m_X6_statement dX6_statement_242 rfl rfl ?_
                            refine e_iload_n m_X6_statement dX6_statement_243 rfl rfl ?_
                            refine e_cvU (as := [.int (nI x1), .int (nI v1)]) hN m_X6_statement dX6_statement_244 c_RX6_195 (by decide) rfl rfl (gM_m G) rfl (Nat.le_of_ble_eq_true rfl) (Nat.le_of_ble_eq_true rfl) (by omega) (w_X6_leaving G (by omega)) (fun v65 s65 hN => ?_)
                            refine e_goto (t := 258) m_X6_statement dX6_statement_247 (by decide) ?_
                            exact e_ret0 m_X6_statement dX6_statement_258
                          · refine e_iload_n m_X6_statement dX6_statement_229 rfl rfl ?_
                            refine e_bipush (v := nI 14) m_X6_statement dX6_statement_230 (by decide) ?_
                            refine e_ieq (t := 241) (a := v1) (b := 14) hN m_X6_statement dX6_statement_232 (by decide) (fun q66 hN => ?_) (fun q66 hN => ?_)
                            · refine e_aload_n m_X6_statement dX6_statement_241 rfl rfl rfl ?_
                              refine e_iload_n m_X6_statement dX6_statement_242 rfl rfl ?_
                              refine e_iload_n m_X6_statement dX6_statement_243 rfl rfl ?_
                              refine e_cvU (as := [.int (nI x1), .int (nI v1)]) hN m_X6_statement dX6_statement_244 c_RX6_195 (by decide) rfl rfl (gM_m G) rfl (Nat.le_of_ble_eq_true rfl) (Nat.le_of_ble_eq_true rfl) (by omega) (w_X6_leaving G (by omega)) (fun v67 s67 hN => ?_)
                              refine e_goto (t := 258) m_X6_statement dX6_statement_247 (by decide) ?_
                              exact e_ret0 m_X6_statement dX6_statement_258
                            · refine e_iload_n m_X6_statement dX6_statement_235 rfl rfl ?_
                              refine e_bipush (v := nI 18) m_X6_statement dX6_statement_236 (by decide) ?_
                              refine e_ine (t := 250) (a := v1) (b := 18) hN m_X6_statement dX6_statement_238 (by decide) (fun q68 hN => ?_) (fun q68 hN => ?_)
                              · refine e_aload_n m_X6_statement dX6_statement_241 rfl rfl rfl ?_
                                refine e_iload_n m_X6_statement dX6_statement_242 rfl rfl ?_
                                refine e_iload_n m_X6_statement dX6_statement_243 rfl rfl ?_
                                refine e_cvU (as := [.int (nI x1), .int (nI v1)]) hN m_X6_statement dX6_statement_244 c_RX6_195 (by decide) rfl rfl (gM_m G) rfl (Nat.le_of_ble_eq_true rfl) (Nat.le_of_ble_eq_true rfl) (by omega) (w_X6_leaving G (by omega)) (fun v69 s69 hN => ?_)
                                refine e_goto (t := 258) m_X6_statement dX6_statement_247 (by decide) ?_
                                exact e_ret0 m_X6_statement dX6_statement_258
                              · refine e_aload_n m_X6_statement dX6_statement_250 rfl rfl rfl ?_
                                refine e_bipush (v := nI 41) m_X6_statement dX6_statement_251 (by decide) ?_
                                refine e_iload_n m_X6_statement dX6_statement_253 rfl rfl ?_
                                refine e_iconst (v := nI 0) m_X6_statement dX6_statement_254 (by decide) ?_
                                refine e_cvU (as := [.int (nI 41), .int (nI x1), .int (nI 0)]) hN m_X6_statement dX6_statement_255 c_RX6_106 (by decide) rfl rfl (gM_m G) rfl (Nat.le_of_ble_eq_true rfl) (Nat.le_of_ble_eq_true rfl) (by omega) (w_X6_push G (by omega)) (fun v70 s70 hN => ?_)
                                exact e_ret0 m_X6_statement dX6_statement_258
def St : Nat → Nat → Mm → Rs Mm
  | 0 => fun _ _ => none
  | n + 1 => b_X6_statement (St n)
theorem w_Sn {xs : Nat → Int32} {L : Nat} {h0 : mm_H} (G : Mg h0) : ∀ (n x : Nat) (s : Mm) (d : Nat), n + 15 ≤ d → St n x s ≠ none → Rn xs L d 188 [.ref 10, .int (nI x)] (TM h0 s) (ou eU (TM h0) (St n x s)) := by
  intro n
  induction n with
  | zero => intro x s d _ hN; exact absurd rfl hN
  | succ n IH => intro x s d hd hN; exact w_X6_statement G IH (by omega) hN
theorem w_St {xs : Nat → Int32} {L : Nat} {h0 : mm_H} (G : Mg h0) {x : Nat} {s : Mm} {d : Nat} (hd : 55 ≤ d) (hN : St 40 x s ≠ none) : Rn xs L d 188 [.ref 10, .int (nI x)] (TM h0 s) (ou eU (TM h0) (St 40 x s)) := w_Sn G 40 x s d (by omega) hN

def b_X6_stating  (x1 : Nat) (x2 : Nat) (x3 : Nat) (s : Mm) : Rs Mm := ck (x1 < 2147483648) (ife x1 41 (bn (b_X6_simple x2 x3 s) (fun v3 s3 => okR 0 s3)) (ife x1 42 (bn (b_X6_simpleRest x2 x3 s) (fun v5 s5 => okR 0 s5)) (ife x1 43 (bn (b_X6_listRest x2 x3 s) (fun v7 s7 => okR 0 s7)) (ife x1 44 (bn (b_X6_ifRest x2 s) (fun v9 s9 => okR 0 s9)) (ife x1 45 (bn (b_X6_ifElse x2 s) (fun v11 s11 => okR 0 s11)) (ife x1 46 (bn (b_X6_forRest x2 s) (fun v13 s13 => okR 0 s13)) (ife x1 47 (bn (b_X6_valued x2 x3 s) (fun v15 s15 => okR 0 s15)) (ife x1 48 (bn (b_X6_forPost x2 x3 s) (fun v17 s17 => okR 0 s17)) (ife x1 49 (bn (b_X6_switchRest x2 s) (fun v19 s19 => okR 0 s19)) (ife x1 50 (ck (x2 < 65536) (ck ((m_la s x2) ≠ 0) (ck (((m_la s x2) - 1) < 65536) (ife (m_wh s ((m_la s x2) - 1)) 69 (bn (b_X6_body x2 1 s) (fun v25 s25 => okR 0 s25)) (bn (b_X6_body x2 0 s) (fun v26 s26 => okR 0 s26)))))) (ife x1 51 (bn (b_X6_clauses x2 x3 s) (fun v28 s28 => okR 0 s28)) (ife x1 52 (bn (b_X6_clause x2 s) (fun v30 s30 => okR 0 s30)) (ife x1 53 (bn (b_X6_types x2 s) (fun v32 s32 => okR 0 s32)) (ife x1 54 (bn (b_X6_tops x2 s) (fun v34 s34 => okR 0 s34)) (ife x1 55 (bn (b_X6_pass 85 s) (fun v36 s36 => bn (b_X6_push 54 x2 0 s36) (fun v37 s37 => okR 0 s37))) (ife x1 56 (bn (b_X6_guarded x2 x3 s) (fun v39 s39 => okR 0 s39)) (ife x1 57 (bn (b_X6_name x2 s) (fun v41 s41 => okR 0 s41)) (bn (b_X6_valued x2 x3 s) (fun v42 s42 => okR 0 s42)))))))))))))))))))
theorem w_X6_stating {xs : Nat → Int32} {L : Nat} {h0 : mm_H} (G : Mg h0) {x1 : Nat} {x2 : Nat} {x3 : Nat} {s : Mm} {d : Nat} (hd : 15 ≤ d) (hN : b_X6_stating  x1 x2 x3 s ≠ none) : Rn xs L d 198 [.ref 10, .int (nI x1), .int (nI x2), .int (nI x3)] (TM h0 s) (ou eU (TM h0) (b_X6_stating  x1 x2 x3 s)) := by
  unfold Rn
  unfold b_X6_stating at hN ⊢
  refine e_iload_n m_X6_stating dX6_stating_0 rfl rfl ?_
  refine e_ck hN (fun q1 hN => ?_)
  refine sw_c (a := x1) (b := 41) hN (fun q2 hN => ?_) (fun q2 hN => ?_)
  · refine e_table (t := 84) m_X6_stating dX6_stating_1 (by rw [q2]; decide) (Or.inr (by rw [q2]; decide)) ?_
    refine e_aload_n m_X6_stating dX6_stating_84 rfl rfl rfl ?_
    refine e_iload_n m_X6_stating dX6_stating_85 rfl rfl ?_
    refine e_iload_n m_X6_stating dX6_stating_86 rfl rfl ?_
    refine e_cvU (as := [.int (nI x2), .int (nI x3)]) hN m_X6_stating dX6_stating_87 c_RX6_327 (by decide) rfl rfl (gM_m G) rfl (Nat.le_of_ble_eq_true rfl) (Nat.le_of_ble_eq_true rfl) (by omega) (w_X6_simple G (by omega)) (fun v3 s3 hN => ?_)
    refine e_goto (t := 255) m_X6_stating dX6_stating_90 (by decide) ?_
    exact e_ret0 m_X6_stating dX6_stating_255
  · refine sw_c (a := x1) (b := 42) hN (fun q4 hN => ?_) (fun q4 hN => ?_)
    · refine e_table (t := 93) m_X6_stating dX6_stating_1 (by rw [q4]; decide) (Or.inr (by rw [q4]; decide)) ?_
      refine e_aload_n m_X6_stating dX6_stating_93 rfl rfl rfl ?_
      refine e_iload_n m_X6_stating dX6_stating_94 rfl rfl ?_
      refine e_iload_n m_X6_stating dX6_stating_95 rfl rfl ?_
      refine e_cvU (as := [.int (nI x2), .int (nI x3)]) hN m_X6_stating dX6_stating_96 c_RX6_330 (by decide) rfl rfl (gM_m G) rfl (Nat.le_of_ble_eq_true rfl) (Nat.le_of_ble_eq_true rfl) (by omega) (w_X6_simpleRest G (by omega)) (fun v5 s5 hN => ?_)
      refine e_goto (t := 255) m_X6_stating dX6_stating_99 (by decide) ?_
      exact e_ret0 m_X6_stating dX6_stating_255
    · refine sw_c (a := x1) (b := 43) hN (fun q6 hN => ?_) (fun q6 hN => ?_)
      · refine e_table (t := 102) m_X6_stating dX6_stating_1 (by rw [q6]; decide) (Or.inr (by rw [q6]; decide)) ?_
        refine e_aload_n m_X6_stating dX6_stating_102 rfl rfl rfl ?_
        refine e_iload_n m_X6_stating dX6_stating_103 rfl rfl ?_
        refine e_iload_n m_X6_stating dX6_stating_104 rfl rfl ?_
        refine e_cvU (as := [.int (nI x2), .int (nI x3)]) hN m_X6_stating dX6_stating_105 c_RX6_333 (by decide) rfl rfl (gM_m G) rfl (Nat.le_of_ble_eq_true rfl) (Nat.le_of_ble_eq_true rfl) (by omega) (w_X6_listRest G (by omega)) (fun v7 s7 hN => ?_)
        refine e_goto (t := 255) m_X6_stating dX6_stating_108 (by decide) ?_
        exact e_ret0 m_X6_stating dX6_stating_255
      · refine sw_c (a := x1) (b := 44) hN (fun q8 hN => ?_) (fun q8 hN => ?_)
        · refine e_table (t := 111) m_X6_stating dX6_stating_1 (by rw [q8]; decide) (Or.inr (by rw [q8]; decide)) ?_
          refine e_aload_n m_X6_stating dX6_stating_111 rfl rfl rfl ?_
          refine e_iload_n m_X6_stating dX6_stating_112 rfl rfl ?_
          refine e_cvU (as := [.int (nI x2)]) hN m_X6_stating dX6_stating_113 c_RX6_336 (by decide) rfl rfl (gM_m G) rfl (Nat.le_of_ble_eq_true rfl) (Nat.le_of_ble_eq_true rfl) (by omega) (w_X6_ifRest G (by omega)) (fun v9 s9 hN => ?_)
          refine e_goto (t := 255) m_X6_stating dX6_stating_116 (by decide) ?_
          exact e_ret0 m_X6_stating dX6_stating_255
        · refine sw_c (a := x1) (b := 45) hN (fun q10 hN => ?_) (fun q10 hN => ?_)
          · refine e_table (t := 119) m_X6_stating dX6_stating_1 (by rw [q10]; decide) (Or.inr (by rw [q10]; decide)) ?_
            refine e_aload_n m_X6_stating dX6_stating_119 rfl rfl rfl ?_
            refine e_iload_n m_X6_stating dX6_stating_120 rfl rfl ?_
            refine e_cvU (as := [.int (nI x2)]) hN m_X6_stating dX6_stating_121 c_RX6_339 (by decide) rfl rfl (gM_m G) rfl (Nat.le_of_ble_eq_true rfl) (Nat.le_of_ble_eq_true rfl) (by omega) (w_X6_ifElse G (by omega)) (fun v11 s11 hN => ?_)
            refine e_goto (t := 255) m_X6_stating dX6_stating_124 (by decide) ?_
            exact e_ret0 m_X6_stating dX6_stating_255
          · refine sw_c (a := x1) (b := 46) hN (fun q12 hN => ?_) (fun q12 hN => ?_)
            · refine e_table (t := 127) m_X6_stating dX6_stating_1 (by rw [q12]; decide) (Or.inr (by rw [q12]; decide)) ?_
              refine e_aload_n m_X6_stating dX6_stating_127 rfl rfl rfl ?_
              refine e_iload_n m_X6_stating dX6_stating_128 rfl rfl ?_
              refine e_cvU (as := [.int (nI x2)]) hN m_X6_stating dX6_stating_129 c_RX6_342 (by decide) rfl rfl (gM_m G) rfl (Nat.le_of_ble_eq_true rfl) (Nat.le_of_ble_eq_true rfl) (by omega) (w_X6_forRest G (by omega)) (fun v13 s13 hN => ?_)
              refine e_goto (t := 255) m_X6_stating dX6_stating_132 (by decide) ?_
              exact e_ret0 m_X6_stating dX6_stating_255
            · refine sw_c (a := x1) (b := 47) hN (fun q14 hN => ?_) (fun q14 hN => ?_)
              · refine e_table (t := 249) m_X6_stating dX6_stating_1 (by rw [q14]; decide) (Or.inr (by rw [q14]; decide)) ?_
                refine e_aload_n m_X6_stating dX6_stating_249 rfl rfl rfl ?_
                refine e_iload_n m_X6_stating dX6_stating_250 rfl rfl ?_
                refine e_iload_n m_X6_stating dX6_stating_251 rfl rfl ?_
                refine e_cvU (as := [.int (nI x2), .int (nI x3)]) hN m_X6_stating dX6_stating_252 c_RX6_162 (by decide) rfl rfl (gM_m G) rfl (Nat.le_of_ble_eq_true rfl) (Nat.le_of_ble_eq_true rfl) (by omega) (w_X6_valued G (by omega)) (fun v15 s15 hN => ?_)
                exact e_ret0 m_X6_stating dX6_stating_255
              · refine sw_c (a := x1) (b := 48) hN (fun q16 hN => ?_) (fun q16 hN => ?_)
                · refine e_table (t := 135) m_X6_stating dX6_stating_1 (by rw [q16]; decide) (Or.inr (by rw [q16]; decide)) ?_
                  refine e_aload_n m_X6_stating dX6_stating_135 rfl rfl rfl ?_
                  refine e_iload_n m_X6_stating dX6_stating_136 rfl rfl ?_
                  refine e_iload_n m_X6_stating dX6_stating_137 rfl rfl ?_
                  refine e_cvU (as := [.int (nI x2), .int (nI x3)]) hN m_X6_stating dX6_stating_138 c_RX6_345 (by decide) rfl rfl (gM_m G) rfl (Nat.le_of_ble_eq_true rfl) (Nat.le_of_ble_eq_true rfl) (by omega) (w_X6_forPost G (by omega)) (fun v17 s17 hN => ?_)
                  refine e_goto (t := 255) m_X6_stating dX6_stating_141 (by decide) ?_
                  exact e_ret0 m_X6_stating dX6_stating_255
                · refine sw_c (a := x1) (b := 49) hN (fun q18 hN => ?_) (fun q18 hN => ?_)
                  · refine e_table (t := 144) m_X6_stating dX6_stating_1 (by rw [q18]; decide) (Or.inr (by rw [q18]; decide)) ?_
                    refine e_aload_n m_X6_stating dX6_stating_144 rfl rfl rfl ?_
                    refine e_iload_n m_X6_stating dX6_stating_145 rfl rfl ?_
                    refine e_cvU (as := [.int (nI x2)]) hN m_X6_stating dX6_stating_146 c_RX6_348 (by decide) rfl rfl (gM_m G) rfl (Nat.le_of_ble_eq_true rfl) (Nat.le_of_ble_eq_true rfl) (by omega) (w_X6_switchRest G (by omega)) (fun v19 s19 hN => ?_)
                    refine e_goto (t := 255) m_X6_stating dX6_stating_149 (by decide) ?_
                    exact e_ret0 m_X6_stating dX6_stating_255
                  · refine sw_c (a := x1) (b := 50) hN (fun q20 hN => ?_) (fun q20 hN => ?_)
                    · refine e_table (t := 152) m_X6_stating dX6_stating_1 (by rw [q20]; decide) (Or.inr (by rw [q20]; decide)) ?_
                      refine e_aload_n m_X6_stating dX6_stating_152 rfl rfl rfl ?_
                      refine e_iload_n m_X6_stating dX6_stating_153 rfl rfl ?_
                      refine e_aload_n m_X6_stating dX6_stating_154 rfl rfl rfl ?_
                      refine e_getf m_X6_stating dX6_stating_155 f_RX6_14 (gM_m G) rfl ?_
                      refine e_aload_n m_X6_stating dX6_stating_158 rfl rfl rfl ?_
                      refine e_getf m_X6_stating dX6_stating_159 f_RX6_27 (gM_m G) rfl ?_
                      refine e_iload_n m_X6_stating dX6_stating_162 rfl rfl ?_
                      refine e_ck hN (fun q21 hN => ?_)
                      refine e_aldO q21 (by decide) (Or.inl ⟨rfl, rfl⟩) m_X6_stating dX6_stating_163 (gM_la G) ?_
                      refine e_ck hN (fun q22 hN => ?_)
                      rw [oI_p q22]
                      refine e_ck hN (fun q23 hN => ?_)
                      refine e_aldN q23 (by decide) (Or.inl ⟨rfl, rfl⟩) m_X6_stating dX6_stating_164 (gM_wh G) ?_
                      refine e_bipush (v := nI 69) m_X6_stating dX6_stating_165 (by decide) ?_
                      refine e_ine (t := 174) (a := (m_wh s ((m_la s x2) - 1))) (b := 69) hN m_X6_stating dX6_stating_167 (by decide) (fun q24 hN => ?_) (fun q24 hN => ?_)
                      · refine e_iconst (v := nI 1) m_X6_stating dX6_stating_170 (by decide) ?_
                        refine e_goto (t := 175) m_X6_stating dX6_stating_171 (by decide) ?_
                        refine e_cvU (as := [.int (nI x2), .int (nI 1)]) hN m_X6_stating dX6_stating_175 c_RX6_192 (by decide) rfl rfl (gM_m G) rfl (Nat.le_of_ble_eq_true rfl) (Nat.le_of_ble_eq_true rfl) (by omega) (w_X6_body G (by omega)) (fun v25 s25 hN => ?_)
                        refine e_goto (t := 255) m_X6_stating dX6_stating_178 (by decide) ?_
                        exact e_ret0 m_X6_stating dX6_stating_255
                      · refine e_iconst (v := nI 0) m_X6_stating dX6_stating_174 (by decide) ?_
                        refine e_cvU (as := [.int (nI x2), .int (nI 0)]) hN m_X6_stating dX6_stating_175 c_RX6_192 (by decide) rfl rfl (gM_m G) rfl (Nat.le_of_ble_eq_true rfl) (Nat.le_of_ble_eq_true rfl) (by omega) (w_X6_body G (by omega)) (fun v26 s26 hN => ?_)
                        refine e_goto (t := 255) m_X6_stating dX6_stating_178 (by decide) ?_
                        exact e_ret0 m_X6_stating dX6_stating_255
                    · refine sw_c (a := x1) (b := 51) hN (fun q27 hN => ?_) (fun q27 hN => ?_)
                      · refine e_table (t := 181) m_X6_stating dX6_stating_1 (by rw [q27]; decide) (Or.inr (by rw [q27]; decide)) ?_
                        refine e_aload_n m_X6_stating dX6_stating_181 rfl rfl rfl ?_
                        refine e_iload_n m_X6_stating dX6_stating_182 rfl rfl ?_
                        refine e_iload_n m_X6_stating dX6_stating_183 rfl rfl ?_
                        refine e_cvU (as := [.int (nI x2), .int (nI x3)]) hN m_X6_stating dX6_stating_184 c_RX6_351 (by decide) rfl rfl (gM_m G) rfl (Nat.le_of_ble_eq_true rfl) (Nat.le_of_ble_eq_true rfl) (by omega) (w_X6_clauses G (by omega)) (fun v28 s28 hN => ?_)
                        refine e_goto (t := 255) m_X6_stating dX6_stating_187 (by decide) ?_
                        exact e_ret0 m_X6_stating dX6_stating_255
                      · refine sw_c (a := x1) (b := 52) hN (fun q29 hN => ?_) (fun q29 hN => ?_)
                        · refine e_table (t := 190) m_X6_stating dX6_stating_1 (by rw [q29]; decide) (Or.inr (by rw [q29]; decide)) ?_
                          refine e_aload_n m_X6_stating dX6_stating_190 rfl rfl rfl ?_
                          refine e_iload_n m_X6_stating dX6_stating_191 rfl rfl ?_
                          refine e_cvU (as := [.int (nI x2)]) hN m_X6_stating dX6_stating_192 c_RX6_354 (by decide) rfl rfl (gM_m G) rfl (Nat.le_of_ble_eq_true rfl) (Nat.le_of_ble_eq_true rfl) (by omega) (w_X6_clause G (by omega)) (fun v30 s30 hN => ?_)
                          refine e_goto (t := 255) m_X6_stating dX6_stating_195 (by decide) ?_
                          exact e_ret0 m_X6_stating dX6_stating_255
                        · refine sw_c (a := x1) (b := 53) hN (fun q31 hN => ?_) (fun q31 hN => ?_)
                          · refine e_table (t := 198) m_X6_stating dX6_stating_1 (by rw [q31]; decide) (Or.inr (by rw [q31]; decide)) ?_
                            refine e_aload_n m_X6_stating dX6_stating_198 rfl rfl rfl ?_
                            refine e_iload_n m_X6_stating dX6_stating_199 rfl rfl ?_
                            refine e_cvU (as := [.int (nI x2)]) hN m_X6_stating dX6_stating_200 c_RX6_357 (by decide) rfl rfl (gM_m G) rfl (Nat.le_of_ble_eq_true rfl) (Nat.le_of_ble_eq_true rfl) (by omega) (w_X6_types G (by omega)) (fun v32 s32 hN => ?_)
                            refine e_goto (t := 255) m_X6_stating dX6_stating_203 (by decide) ?_
                            exact e_ret0 m_X6_stating dX6_stating_255
                          · refine sw_c (a := x1) (b := 54) hN (fun q33 hN => ?_) (fun q33 hN => ?_)
                            · refine e_table (t := 206) m_X6_stating dX6_stating_1 (by rw [q33]; decide) (Or.inr (by rw [q33]; decide)) ?_
                              refine e_aload_n m_X6_stating dX6_stating_206 rfl rfl rfl ?_
                              refine e_iload_n m_X6_stating dX6_stating_207 rfl rfl ?_
                              refine e_cvU (as := [.int (nI x2)]) hN m_X6_stating dX6_stating_208 c_RX6_360 (by decide) rfl rfl (gM_m G) rfl (Nat.le_of_ble_eq_true rfl) (Nat.le_of_ble_eq_true rfl) (by omega) (w_X6_tops G (by omega)) (fun v34 s34 hN => ?_)
                              refine e_goto (t := 255) m_X6_stating dX6_stating_211 (by decide) ?_
                              exact e_ret0 m_X6_stating dX6_stating_255
                            · refine sw_c (a := x1) (b := 55) hN (fun q35 hN => ?_) (fun q35 hN => ?_)
                              · refine e_table (t := 214) m_X6_stating dX6_stating_1 (by rw [q35]; decide) (Or.inr (by rw [q35]; decide)) ?_
                                refine e_aload_n m_X6_stating dX6_stating_214 rfl rfl rfl ?_
                                refine e_bipush (v := nI 85) m_X6_stating dX6_stating_215 (by decide) ?_
                                refine e_cvU (as := [.int (nI 85)]) hN m_X6_stating dX6_stating_217 c_RX6_141 (by decide) rfl rfl (gM_m G) rfl (Nat.le_of_ble_eq_true rfl) (Nat.le_of_ble_eq_true rfl) (by omega) (w_X6_pass G (by omega)) (fun v36 s36 hN => ?_)
                                refine e_aload_n m_X6_stating dX6_stating_220 rfl rfl rfl ?_
                                refine e_bipush (v := nI 54) m_X6_stating dX6_stating_221 (by decide) ?_
                                refine e_iload_n m_X6_stating dX6_stating_223 rfl rfl ?_
                                refine e_iconst (v := nI 0) m_X6_stating dX6_stating_224 (by decide) ?_
                                refine e_cvU (as := [.int (nI 54), .int (nI x2), .int (nI 0)]) hN m_X6_stating dX6_stating_225 c_RX6_106 (by decide) rfl rfl (gM_m G) rfl (Nat.le_of_ble_eq_true rfl) (Nat.le_of_ble_eq_true rfl) (by omega) (w_X6_push G (by omega)) (fun v37 s37 hN => ?_)
                                refine e_goto (t := 255) m_X6_stating dX6_stating_228 (by decide) ?_
                                exact e_ret0 m_X6_stating dX6_stating_255
                              · refine sw_c (a := x1) (b := 56) hN (fun q38 hN => ?_) (fun q38 hN => ?_)
                                · refine e_table (t := 231) m_X6_stating dX6_stating_1 (by rw [q38]; decide) (Or.inr (by rw [q38]; decide)) ?_
                                  refine e_aload_n m_X6_stating dX6_stating_231 rfl rfl rfl ?_
                                  refine e_iload_n m_X6_stating dX6_stating_232 rfl rfl ?_
                                  refine e_iload_n m_X6_stating dX6_stating_233 rfl rfl ?_
                                  refine e_cvU (as := [.int (nI x2), .int (nI x3)]) hN m_X6_stating dX6_stating_234 c_RX6_363 (by decide) rfl rfl (gM_m G) rfl (Nat.le_of_ble_eq_true rfl) (Nat.le_of_ble_eq_true rfl) (by omega) (w_X6_guarded G (by omega)) (fun v39 s39 hN => ?_)
                                  refine e_goto (t := 255) m_X6_stating dX6_stating_237 (by decide) ?_
                                  exact e_ret0 m_X6_stating dX6_stating_255
                                · refine sw_c (a := x1) (b := 57) hN (fun q40 hN => ?_) (fun q40 hN => ?_)
                                  · refine e_table (t := 240) m_X6_stating dX6_stating_1 (by rw [q40]; decide) (Or.inr (by rw [q40]; decide)) ?_
                                    refine e_aload_n m_X6_stating dX6_stating_240 rfl rfl rfl ?_
                                    refine e_iload_n m_X6_stating dX6_stating_241 rfl rfl ?_
                                    refine e_cvN (as := [.int (nI x2)]) hN m_X6_stating dX6_stating_242 c_RX6_130 (by decide) rfl rfl (gM_m G) rfl (Nat.le_of_ble_eq_true rfl) (Nat.le_of_ble_eq_true rfl) (by omega) (w_X6_name G (by omega)) (fun v41 s41 hN => ?_)
                                    refine e_pop m_X6_stating dX6_stating_245 rfl ?_
                                    refine e_goto (t := 255) m_X6_stating dX6_stating_246 (by decide) ?_
                                    exact e_ret0 m_X6_stating dX6_stating_255
                                  · refine e_table (t := 249) m_X6_stating dX6_stating_1 (by rw [show mm_table _ _ _ _ _ = _ from if_pos (by rw [nI_toInt q1]; omega)]; decide) (Or.inl (by rw [nI_toInt q1]; omega)) ?_
                                    refine e_aload_n m_X6_stating dX6_stating_249 rfl rfl rfl ?_
                                    refine e_iload_n m_X6_stating dX6_stating_250 rfl rfl ?_
                                    refine e_iload_n m_X6_stating dX6_stating_251 rfl rfl ?_
                                    refine e_cvU (as := [.int (nI x2), .int (nI x3)]) hN m_X6_stating dX6_stating_252 c_RX6_162 (by decide) rfl rfl (gM_m G) rfl (Nat.le_of_ble_eq_true rfl) (Nat.le_of_ble_eq_true rfl) (by omega) (w_X6_valued G (by omega)) (fun v42 s42 hN => ?_)
                                    exact e_ret0 m_X6_stating dX6_stating_255

def b_X6_statements  (x1 : Nat) (s : Mm) : Rs Mm := bn (b_X6_look  s) (fun v1 s1 => ife v1 85 (st1 (w_at s1 ((m_at s1) + 1)) (fun s3 => bn (b_X6_push 39 x1 0 s3) (fun v4 s4 => okR 0 s4))) (ck (v1 < 2147483648) (ifz (f_X6_beginsStatement v1) (okR 0 s1) (bn (b_X6_push 40 x1 0 s1) (fun v7 s7 => bn (St 40 x1 s7) (fun v8 s8 => okR 0 s8))))))
theorem w_X6_statements {xs : Nat → Int32} {L : Nat} {h0 : mm_H} (G : Mg h0) {x1 : Nat} {s : Mm} {d : Nat} (hd : 61 ≤ d) (hN : b_X6_statements  x1 s ≠ none) : Rn xs L d 185 [.ref 10, .int (nI x1)] (TM h0 s) (ou eU (TM h0) (b_X6_statements  x1 s)) := by
  unfold Rn
  unfold b_X6_statements at hN ⊢
  refine e_aload_n m_X6_statements dX6_statements_0 rfl rfl rfl ?_
  refine e_cvN (as := []) hN m_X6_statements dX6_statements_1 c_RX6_83 (by decide) rfl rfl (gM_m G) rfl (Nat.le_of_ble_eq_true rfl) (Nat.le_of_ble_eq_true rfl) (by omega) (w_X6_look G (by omega)) (fun v1 s1 hN => ?_)
  refine e_istore_n m_X6_statements dX6_statements_4 rfl (by decide) rfl ?_
  refine e_iload_n m_X6_statements dX6_statements_5 rfl rfl ?_
  refine e_bipush (v := nI 85) m_X6_statements dX6_statements_6 (by decide) ?_
  refine e_ine (t := 32) (a := v1) (b := 85) hN m_X6_statements dX6_statements_8 (by decide) (fun q2 hN => ?_) (fun q2 hN => ?_)
  · refine e_aload_n m_X6_statements dX6_statements_11 rfl rfl rfl ?_
    refine e_dup m_X6_statements dX6_statements_12 rfl ?_
    refine e_getf m_X6_statements dX6_statements_13 f_RX6_77 (gM_m G) rfl ?_
    refine e_iconst (v := nI 1) m_X6_statements dX6_statements_16 (by decide) ?_
    refine e_iaddN m_X6_statements dX6_statements_17 ?_
    refine e_putf (v := .int (nI ((m_at s1) + 1))) (h' := TM h0 (w_at s1 ((m_at s1) + 1))) m_X6_statements dX6_statements_18 f_RX6_77 (gM_m G) (Nat.le_of_ble_eq_true rfl) (fit_i rfl) rfl (hpL_set (k := 10) (by decide) (Nat.le_of_ble_eq_true rfl)) ?_
    refine e_st hN (fun s3 hN => ?_)
    refine e_aload_n m_X6_statements dX6_statements_21 rfl rfl rfl ?_
    refine e_bipush (v := nI 39) m_X6_statements dX6_statements_22 (by decide) ?_
    refine e_iload_n m_X6_statements dX6_statements_24 rfl rfl ?_
    refine e_iconst (v := nI 0) m_X6_statements dX6_statements_25 (by decide) ?_
    refine e_cvU (as := [.int (nI 39), .int (nI x1), .int (nI 0)]) hN m_X6_statements dX6_statements_26 c_RX6_106 (by decide) rfl rfl (gM_m G) rfl (Nat.le_of_ble_eq_true rfl) (Nat.le_of_ble_eq_true rfl) (by omega) (w_X6_push G (by omega)) (fun v4 s4 hN => ?_)
    refine e_goto (t := 52) m_X6_statements dX6_statements_29 (by decide) ?_
    exact e_ret0 m_X6_statements dX6_statements_52
  · refine e_iload_n m_X6_statements dX6_statements_32 rfl rfl ?_
    refine e_ck hN (fun q5 hN => ?_)
    refine e_cs (as := [_]) m_X6_statements dX6_statements_33 c_RX6_174 (by decide) rfl rfl (Nat.le_of_ble_eq_true rfl) (Nat.le_of_ble_eq_true rfl) (by omega) (z_X6_beginsStatement q5 (by omega)) ?_
    refine e_ifeq (t := 52) hN m_X6_statements dX6_statements_36 (by decide) (fun q6 hN => ?_) (fun q6 hN => ?_)
    · exact e_ret0 m_X6_statements dX6_statements_52
    · refine e_aload_n m_X6_statements dX6_statements_39 rfl rfl rfl ?_
      refine e_bipush (v := nI 40) m_X6_statements dX6_statements_40 (by decide) ?_
      refine e_iload_n m_X6_statements dX6_statements_42 rfl rfl ?_
      refine e_iconst (v := nI 0) m_X6_statements dX6_statements_43 (by decide) ?_
      refine e_cvU (as := [.int (nI 40), .int (nI x1), .int (nI 0)]) hN m_X6_statements dX6_statements_44 c_RX6_106 (by decide) rfl rfl (gM_m G) rfl (Nat.le_of_ble_eq_true rfl) (Nat.le_of_ble_eq_true rfl) (by omega) (w_X6_push G (by omega)) (fun v7 s7 hN => ?_)
      refine e_aload_n m_X6_statements dX6_statements_47 rfl rfl rfl ?_
      refine e_iload_n m_X6_statements dX6_statements_48 rfl rfl ?_
      refine e_cvU (as := [.int (nI x1)]) hN m_X6_statements dX6_statements_49 c_RX6_177 (by decide) rfl rfl (gM_m G) rfl (Nat.le_of_ble_eq_true rfl) (Nat.le_of_ble_eq_true rfl) (by omega) (w_St G (by omega)) (fun v8 s8 hN => ?_)
      exact e_ret0 m_X6_statements dX6_statements_52

def b_X6_declaring  (x1 : Nat) (x2 : Nat) (x3 : Nat) (s : Mm) : Rs Mm := ck (x1 < 2147483648) (ife x1 29 (bn (b_X6_names x2 s) (fun v3 s3 => okR 0 s3)) (ife x1 30 (bn (b_X6_namesMore x2 s) (fun v5 s5 => okR 0 s5)) (ife x1 31 (bn (b_X6_statementsMore x2 s) (fun v7 s7 => okR 0 s7)) (ife x1 32 (bn (b_X6_exprsMore x2 x3 s) (fun v9 s9 => okR 0 s9)) (ife x1 33 (bn (b_X6_spec x2 x3 s) (fun v11 s11 => okR 0 s11)) (ife x1 34 (bn (b_X6_specs x2 x3 s) (fun v13 s13 => okR 0 s13)) (ife x1 35 (bn (b_X6_specsMore x2 x3 s) (fun v15 s15 => okR 0 s15)) (ife x1 36 (bn (b_X6_constRest x2 s) (fun v17 s17 => okR 0 s17)) (ife x1 37 (bn (b_X6_varRest x2 s) (fun v19 s19 => okR 0 s19)) (ife x1 38 (bn (b_X6_block x2 s) (fun v21 s21 => okR 0 s21)) (ife x1 39 (bn (b_X6_statements x2 s) (fun v23 s23 => okR 0 s23)) (bn (b_X6_statementsMore x2 s) (fun v24 s24 => okR 0 s24)))))))))))))
theorem w_X6_declaring {xs : Nat → Int32} {L : Nat} {h0 : mm_H} (G : Mg h0) {x1 : Nat} {x2 : Nat} {x3 : Nat} {s : Mm} {d : Nat} (hd : 62 ≤ d) (hN : b_X6_declaring  x1 x2 x3 s ≠ none) : Rn xs L d 174 [.ref 10, .int (nI x1), .int (nI x2), .int (nI x3)] (TM h0 s) (ou eU (TM h0) (b_X6_declaring  x1 x2 x3 s)) := by
  unfold Rn
  unfold b_X6_declaring at hN ⊢
  refine e_iload_n m_X6_declaring dX6_declaring_0 rfl rfl ?_
  refine e_ck hN (fun q1 hN => ?_)
  refine sw_c (a := x1) (b := 29) hN (fun q2 hN => ?_) (fun q2 hN => ?_)
  · refine e_table (t := 60) m_X6_declaring dX6_declaring_1 (by rw [q2]; decide) (Or.inr (by rw [q2]; decide)) ?_
    refine e_aload_n m_X6_declaring dX6_declaring_60 rfl rfl rfl ?_
    refine e_iload_n m_X6_declaring dX6_declaring_61 rfl rfl ?_
    refine e_cvU (as := [.int (nI x2)]) hN m_X6_declaring dX6_declaring_62 c_RX6_297 (by decide) rfl rfl (gM_m G) rfl (Nat.le_of_ble_eq_true rfl) (Nat.le_of_ble_eq_true rfl) (by omega) (w_X6_names G (by omega)) (fun v3 s3 hN => ?_)
    refine e_goto (t := 149) m_X6_declaring dX6_declaring_65 (by decide) ?_
    exact e_ret0 m_X6_declaring dX6_declaring_149
  · refine sw_c (a := x1) (b := 30) hN (fun q4 hN => ?_) (fun q4 hN => ?_)
    · refine e_table (t := 68) m_X6_declaring dX6_declaring_1 (by rw [q4]; decide) (Or.inr (by rw [q4]; decide)) ?_
      refine e_aload_n m_X6_declaring dX6_declaring_68 rfl rfl rfl ?_
      refine e_iload_n m_X6_declaring dX6_declaring_69 rfl rfl ?_
      refine e_cvU (as := [.int (nI x2)]) hN m_X6_declaring dX6_declaring_70 c_RX6_300 (by decide) rfl rfl (gM_m G) rfl (Nat.le_of_ble_eq_true rfl) (Nat.le_of_ble_eq_true rfl) (by omega) (w_X6_namesMore G (by omega)) (fun v5 s5 hN => ?_)
      refine e_goto (t := 149) m_X6_declaring dX6_declaring_73 (by decide) ?_
      exact e_ret0 m_X6_declaring dX6_declaring_149
    · refine sw_c (a := x1) (b := 31) hN (fun q6 hN => ?_) (fun q6 hN => ?_)
      · refine e_table (t := 144) m_X6_declaring dX6_declaring_1 (by rw [q6]; decide) (Or.inr (by rw [q6]; decide)) ?_
        refine e_aload_n m_X6_declaring dX6_declaring_144 rfl rfl rfl ?_
        refine e_iload_n m_X6_declaring dX6_declaring_145 rfl rfl ?_
        refine e_cvU (as := [.int (nI x2)]) hN m_X6_declaring dX6_declaring_146 c_RX6_324 (by decide) rfl rfl (gM_m G) rfl (Nat.le_of_ble_eq_true rfl) (Nat.le_of_ble_eq_true rfl) (by omega) (w_X6_statementsMore G (by omega)) (fun v7 s7 hN => ?_)
        exact e_ret0 m_X6_declaring dX6_declaring_149
      · refine sw_c (a := x1) (b := 32) hN (fun q8 hN => ?_) (fun q8 hN => ?_)
        · refine e_table (t := 76) m_X6_declaring dX6_declaring_1 (by rw [q8]; decide) (Or.inr (by rw [q8]; decide)) ?_
          refine e_aload_n m_X6_declaring dX6_declaring_76 rfl rfl rfl ?_
          refine e_iload_n m_X6_declaring dX6_declaring_77 rfl rfl ?_
          refine e_iload_n m_X6_declaring dX6_declaring_78 rfl rfl ?_
          refine e_cvU (as := [.int (nI x2), .int (nI x3)]) hN m_X6_declaring dX6_declaring_79 c_RX6_303 (by decide) rfl rfl (gM_m G) rfl (Nat.le_of_ble_eq_true rfl) (Nat.le_of_ble_eq_true rfl) (by omega) (w_X6_exprsMore G (by omega)) (fun v9 s9 hN => ?_)
          refine e_goto (t := 149) m_X6_declaring dX6_declaring_82 (by decide) ?_
          exact e_ret0 m_X6_declaring dX6_declaring_149
        · refine sw_c (a := x1) (b := 33) hN (fun q10 hN => ?_) (fun q10 hN => ?_)
          · refine e_table (t := 85) m_X6_declaring dX6_declaring_1 (by rw [q10]; decide) (Or.inr (by rw [q10]; decide)) ?_
            refine e_aload_n m_X6_declaring dX6_declaring_85 rfl rfl rfl ?_
            refine e_iload_n m_X6_declaring dX6_declaring_86 rfl rfl ?_
            refine e_iload_n m_X6_declaring dX6_declaring_87 rfl rfl ?_
            refine e_cvU (as := [.int (nI x2), .int (nI x3)]) hN m_X6_declaring dX6_declaring_88 c_RX6_306 (by decide) rfl rfl (gM_m G) rfl (Nat.le_of_ble_eq_true rfl) (Nat.le_of_ble_eq_true rfl) (by omega) (w_X6_spec G (by omega)) (fun v11 s11 hN => ?_)
            refine e_goto (t := 149) m_X6_declaring dX6_declaring_91 (by decide) ?_
            exact e_ret0 m_X6_declaring dX6_declaring_149
          · refine sw_c (a := x1) (b := 34) hN (fun q12 hN => ?_) (fun q12 hN => ?_)
            · refine e_table (t := 94) m_X6_declaring dX6_declaring_1 (by rw [q12]; decide) (Or.inr (by rw [q12]; decide)) ?_
              refine e_aload_n m_X6_declaring dX6_declaring_94 rfl rfl rfl ?_
              refine e_iload_n m_X6_declaring dX6_declaring_95 rfl rfl ?_
              refine e_iload_n m_X6_declaring dX6_declaring_96 rfl rfl ?_
              refine e_cvU (as := [.int (nI x2), .int (nI x3)]) hN m_X6_declaring dX6_declaring_97 c_RX6_309 (by decide) rfl rfl (gM_m G) rfl (Nat.le_of_ble_eq_true rfl) (Nat.le_of_ble_eq_true rfl) (by omega) (w_X6_specs G (by omega)) (fun v13 s13 hN => ?_)
              refine e_goto (t := 149) m_X6_declaring dX6_declaring_100 (by decide) ?_
              exact e_ret0 m_X6_declaring dX6_declaring_149
            · refine sw_c (a := x1) (b := 35) hN (fun q14 hN => ?_) (fun q14 hN => ?_)
              · refine e_table (t := 103) m_X6_declaring dX6_declaring_1 (by rw [q14]; decide) (Or.inr (by rw [q14]; decide)) ?_
                refine e_aload_n m_X6_declaring dX6_declaring_103 rfl rfl rfl ?_
                refine e_iload_n m_X6_declaring dX6_declaring_104 rfl rfl ?_
                refine e_iload_n m_X6_declaring dX6_declaring_105 rfl rfl ?_
                refine e_cvU (as := [.int (nI x2), .int (nI x3)]) hN m_X6_declaring dX6_declaring_106 c_RX6_312 (by decide) rfl rfl (gM_m G) rfl (Nat.le_of_ble_eq_true rfl) (Nat.le_of_ble_eq_true rfl) (by omega) (w_X6_specsMore G (by omega)) (fun v15 s15 hN => ?_)
                refine e_goto (t := 149) m_X6_declaring dX6_declaring_109 (by decide) ?_
                exact e_ret0 m_X6_declaring dX6_declaring_149
              · refine sw_c (a := x1) (b := 36) hN (fun q16 hN => ?_) (fun q16 hN => ?_)
                · refine e_table (t := 112) m_X6_declaring dX6_declaring_1 (by rw [q16]; decide) (Or.inr (by rw [q16]; decide)) ?_
                  refine e_aload_n m_X6_declaring dX6_declaring_112 rfl rfl rfl ?_
                  refine e_iload_n m_X6_declaring dX6_declaring_113 rfl rfl ?_
                  refine e_cvU (as := [.int (nI x2)]) hN m_X6_declaring dX6_declaring_114 c_RX6_315 (by decide) rfl rfl (gM_m G) rfl (Nat.le_of_ble_eq_true rfl) (Nat.le_of_ble_eq_true rfl) (by omega) (w_X6_constRest G (by omega)) (fun v17 s17 hN => ?_)
                  refine e_goto (t := 149) m_X6_declaring dX6_declaring_117 (by decide) ?_
                  exact e_ret0 m_X6_declaring dX6_declaring_149
                · refine sw_c (a := x1) (b := 37) hN (fun q18 hN => ?_) (fun q18 hN => ?_)
                  · refine e_table (t := 120) m_X6_declaring dX6_declaring_1 (by rw [q18]; decide) (Or.inr (by rw [q18]; decide)) ?_
                    refine e_aload_n m_X6_declaring dX6_declaring_120 rfl rfl rfl ?_
                    refine e_iload_n m_X6_declaring dX6_declaring_121 rfl rfl ?_
                    refine e_cvU (as := [.int (nI x2)]) hN m_X6_declaring dX6_declaring_122 c_RX6_318 (by decide) rfl rfl (gM_m G) rfl (Nat.le_of_ble_eq_true rfl) (Nat.le_of_ble_eq_true rfl) (by omega) (w_X6_varRest G (by omega)) (fun v19 s19 hN => ?_)
                    refine e_goto (t := 149) m_X6_declaring dX6_declaring_125 (by decide) ?_
                    exact e_ret0 m_X6_declaring dX6_declaring_149
                  · refine sw_c (a := x1) (b := 38) hN (fun q20 hN => ?_) (fun q20 hN => ?_)
                    · refine e_table (t := 128) m_X6_declaring dX6_declaring_1 (by rw [q20]; decide) (Or.inr (by rw [q20]; decide)) ?_
                      refine e_aload_n m_X6_declaring dX6_declaring_128 rfl rfl rfl ?_
                      refine e_iload_n m_X6_declaring dX6_declaring_129 rfl rfl ?_
                      refine e_cvU (as := [.int (nI x2)]) hN m_X6_declaring dX6_declaring_130 c_RX6_180 (by decide) rfl rfl (gM_m G) rfl (Nat.le_of_ble_eq_true rfl) (Nat.le_of_ble_eq_true rfl) (by omega) (w_X6_block G (by omega)) (fun v21 s21 hN => ?_)
                      refine e_goto (t := 149) m_X6_declaring dX6_declaring_133 (by decide) ?_
                      exact e_ret0 m_X6_declaring dX6_declaring_149
                    · refine sw_c (a := x1) (b := 39) hN (fun q22 hN => ?_) (fun q22 hN => ?_)
                      · refine e_table (t := 136) m_X6_declaring dX6_declaring_1 (by rw [q22]; decide) (Or.inr (by rw [q22]; decide)) ?_
                        refine e_aload_n m_X6_declaring dX6_declaring_136 rfl rfl rfl ?_
                        refine e_iload_n m_X6_declaring dX6_declaring_137 rfl rfl ?_
                        refine e_cvU (as := [.int (nI x2)]) hN m_X6_declaring dX6_declaring_138 c_RX6_321 (by decide) rfl rfl (gM_m G) rfl (Nat.le_of_ble_eq_true rfl) (Nat.le_of_ble_eq_true rfl) (by omega) (w_X6_statements G (by omega)) (fun v23 s23 hN => ?_)
                        refine e_goto (t := 149) m_X6_declaring dX6_declaring_141 (by decide) ?_
                        exact e_ret0 m_X6_declaring dX6_declaring_149
                      · refine e_table (t := 144) m_X6_declaring dX6_declaring_1 (by rw [show mm_table _ _ _ _ _ = _ from if_pos (by rw [nI_toInt q1]; omega)]; decide) (Or.inl (by rw [nI_toInt q1]; omega)) ?_
                        refine e_aload_n m_X6_declaring dX6_declaring_144 rfl rfl rfl ?_
                        refine e_iload_n m_X6_declaring dX6_declaring_145 rfl rfl ?_
                        refine e_cvU (as := [.int (nI x2)]) hN m_X6_declaring dX6_declaring_146 c_RX6_324 (by decide) rfl rfl (gM_m G) rfl (Nat.le_of_ble_eq_true rfl) (Nat.le_of_ble_eq_true rfl) (by omega) (w_X6_statementsMore G (by omega)) (fun v24 s24 hN => ?_)
                        exact e_ret0 m_X6_declaring dX6_declaring_149

def b_X6_step  (x1 : Nat) (x2 : Nat) (x3 : Nat) (s : Mm) : Rs Mm := ifl 4 x1 (ifl x1 18 (bn (b_X6_value_ x1 x2 x3 s) (fun v3 s3 => okR 0 s3)) (ifl x1 29 (bn (b_X6_typing x1 x2 x3 s) (fun v5 s5 => okR 0 s5)) (ifl x1 41 (bn (b_X6_declaring x1 x2 x3 s) (fun v7 s7 => okR 0 s7)) (bn (b_X6_stating x1 x2 x3 s) (fun v8 s8 => okR 0 s8))))) (ife x1 2 (bn (b_X6_binary x2 x3 s) (fun v10 s10 => okR 0 s10)) (ife x1 3 (bn (b_X6_unary x2 x3 s) (fun v12 s12 => okR 0 s12)) (bn (b_X6_postfix x2 x3 s) (fun v13 s13 => okR 0 s13))))
theorem w_X6_step {xs : Nat → Int32} {L : Nat} {h0 : mm_H} (G : Mg h0) {x1 : Nat} {x2 : Nat} {x3 : Nat} {s : Mm} {d : Nat} (hd : 63 ≤ d) (hN : b_X6_step  x1 x2 x3 s ≠ none) : Rn xs L d 135 [.ref 10, .int (nI x1), .int (nI x2), .int (nI x3)] (TM h0 s) (ou eU (TM h0) (b_X6_step  x1 x2 x3 s)) := by
  unfold Rn
  unfold b_X6_step at hN ⊢
  refine e_iload_n m_X6_step dX6_step_0 rfl rfl ?_
  refine e_iconst (v := nI 4) m_X6_step dX6_step_1 (by decide) ?_
  refine e_igt (t := 42) (a := x1) (b := 4) hN m_X6_step dX6_step_2 (by decide) (fun q1 hN => ?_) (fun q1 hN => ?_)
  · refine e_iload_n m_X6_step dX6_step_42 rfl rfl ?_
    refine e_bipush (v := nI 18) m_X6_step dX6_step_43 (by decide) ?_
    refine e_ige (t := 58) (a := x1) (b := 18) hN m_X6_step dX6_step_45 (by decide) (fun q2 hN => ?_) (fun q2 hN => ?_)
    · refine e_aload_n m_X6_step dX6_step_48 rfl rfl rfl ?_
      refine e_iload_n m_X6_step dX6_step_49 rfl rfl ?_
      refine e_iload_n m_X6_step dX6_step_50 rfl rfl ?_
      refine e_iload_n m_X6_step dX6_step_51 rfl rfl ?_
      refine e_cvU (as := [.int (nI x1), .int (nI x2), .int (nI x3)]) hN m_X6_step dX6_step_52 c_RX6_229 (by decide) rfl rfl (gM_m G) rfl (Nat.le_of_ble_eq_true rfl) (Nat.le_of_ble_eq_true rfl) (by omega) (w_X6_value_ G (by omega)) (fun v3 s3 hN => ?_)
      refine e_goto (t := 97) m_X6_step dX6_step_55 (by decide) ?_
      exact e_ret0 m_X6_step dX6_step_97
    · refine e_iload_n m_X6_step dX6_step_58 rfl rfl ?_
      refine e_bipush (v := nI 29) m_X6_step dX6_step_59 (by decide) ?_
      refine e_ige (t := 74) (a := x1) (b := 29) hN m_X6_step dX6_step_61 (by decide) (fun q4 hN => ?_) (fun q4 hN => ?_)
      · refine e_aload_n m_X6_step dX6_step_64 rfl rfl rfl ?_
        refine e_iload_n m_X6_step dX6_step_65 rfl rfl ?_
        refine e_iload_n m_X6_step dX6_step_66 rfl rfl ?_
        refine e_iload_n m_X6_step dX6_step_67 rfl rfl ?_
        refine e_cvU (as := [.int (nI x1), .int (nI x2), .int (nI x3)]) hN m_X6_step dX6_step_68 c_RX6_232 (by decide) rfl rfl (gM_m G) rfl (Nat.le_of_ble_eq_true rfl) (Nat.le_of_ble_eq_true rfl) (by omega) (w_X6_typing G (by omega)) (fun v5 s5 hN => ?_)
        refine e_goto (t := 97) m_X6_step dX6_step_71 (by decide) ?_
        exact e_ret0 m_X6_step dX6_step_97
      · refine e_iload_n m_X6_step dX6_step_74 rfl rfl ?_
        refine e_bipush (v := nI 41) m_X6_step dX6_step_75 (by decide) ?_
        refine e_ige (t := 90) (a := x1) (b := 41) hN m_X6_step dX6_step_77 (by decide) (fun q6 hN => ?_) (fun q6 hN => ?_)
        · refine e_aload_n m_X6_step dX6_step_80 rfl rfl rfl ?_
          refine e_iload_n m_X6_step dX6_step_81 rfl rfl ?_
          refine e_iload_n m_X6_step dX6_step_82 rfl rfl ?_
          refine e_iload_n m_X6_step dX6_step_83 rfl rfl ?_
          refine e_cvU (as := [.int (nI x1), .int (nI x2), .int (nI x3)]) hN m_X6_step dX6_step_84 c_RX6_235 (by decide) rfl rfl (gM_m G) rfl (Nat.le_of_ble_eq_true rfl) (Nat.le_of_ble_eq_true rfl) (by omega) (w_X6_declaring G (by omega)) (fun v7 s7 hN => ?_)
          refine e_goto (t := 97) m_X6_step dX6_step_87 (by decide) ?_
          exact e_ret0 m_X6_step dX6_step_97
        · refine e_aload_n m_X6_step dX6_step_90 rfl rfl rfl ?_
          refine e_iload_n m_X6_step dX6_step_91 rfl rfl ?_
          refine e_iload_n m_X6_step dX6_step_92 rfl rfl ?_
          refine e_iload_n m_X6_step dX6_step_93 rfl rfl ?_
          refine e_cvU (as := [.int (nI x1), .int (nI x2), .int (nI x3)]) hN m_X6_step dX6_step_94 c_RX6_238 (by decide) rfl rfl (gM_m G) rfl (Nat.le_of_ble_eq_true rfl) (Nat.le_of_ble_eq_true rfl) (by omega) (w_X6_stating G (by omega)) (fun v8 s8 hN => ?_)
          exact e_ret0 m_X6_step dX6_step_97
  · refine e_iload_n m_X6_step dX6_step_5 rfl rfl ?_
    refine e_iconst (v := nI 2) m_X6_step dX6_step_6 (by decide) ?_
    refine e_ine (t := 19) (a := x1) (b := 2) hN m_X6_step dX6_step_7 (by decide) (fun q9 hN => ?_) (fun q9 hN => ?_)
    · refine e_aload_n m_X6_step dX6_step_10 rfl rfl rfl ?_
      refine e_iload_n m_X6_step dX6_step_11 rfl rfl ?_
      refine e_iload_n m_X6_step dX6_step_12 rfl rfl ?_
      refine e_cvU (as := [.int (nI x2), .int (nI x3)]) hN m_X6_step dX6_step_13 c_RX6_220 (by decide) rfl rfl (gM_m G) rfl (Nat.le_of_ble_eq_true rfl) (Nat.le_of_ble_eq_true rfl) (by omega) (w_X6_binary G (by omega)) (fun v10 s10 hN => ?_)
      refine e_goto (t := 97) m_X6_step dX6_step_16 (by decide) ?_
      exact e_ret0 m_X6_step dX6_step_97
    · refine e_iload_n m_X6_step dX6_step_19 rfl rfl ?_
      refine e_iconst (v := nI 3) m_X6_step dX6_step_20 (by decide) ?_
      refine e_ine (t := 33) (a := x1) (b := 3) hN m_X6_step dX6_step_21 (by decide) (fun q11 hN => ?_) (fun q11 hN => ?_)
      · refine e_aload_n m_X6_step dX6_step_24 rfl rfl rfl ?_
        refine e_iload_n m_X6_step dX6_step_25 rfl rfl ?_
        refine e_iload_n m_X6_step dX6_step_26 rfl rfl ?_
        refine e_cvU (as := [.int (nI x2), .int (nI x3)]) hN m_X6_step dX6_step_27 c_RX6_223 (by decide) rfl rfl (gM_m G) rfl (Nat.le_of_ble_eq_true rfl) (Nat.le_of_ble_eq_true rfl) (by omega) (w_X6_unary G (by omega)) (fun v12 s12 hN => ?_)
        refine e_goto (t := 97) m_X6_step dX6_step_30 (by decide) ?_
        exact e_ret0 m_X6_step dX6_step_97
      · refine e_aload_n m_X6_step dX6_step_33 rfl rfl rfl ?_
        refine e_iload_n m_X6_step dX6_step_34 rfl rfl ?_
        refine e_iload_n m_X6_step dX6_step_35 rfl rfl ?_
        refine e_cvU (as := [.int (nI x2), .int (nI x3)]) hN m_X6_step dX6_step_36 c_RX6_226 (by decide) rfl rfl (gM_m G) rfl (Nat.le_of_ble_eq_true rfl) (Nat.le_of_ble_eq_true rfl) (by omega) (w_X6_postfix G (by omega)) (fun v13 s13 hN => ?_)
        refine e_goto (t := 97) m_X6_step dX6_step_39 (by decide) ?_
        exact e_ret0 m_X6_step dX6_step_97

