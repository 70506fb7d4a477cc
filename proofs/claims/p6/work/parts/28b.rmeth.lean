/-! The methods of the reference. -/
def b_X6_size  (s : Mm) : Rs Mm := st1 (w_th s 0) (fun s1 => okR (m_ct s1) s1)
theorem w_X6_size {xs : Nat → Int32} {L : Nat} {h0 : mm_H} (G : Mg h0) {s : Mm} {d : Nat} (hd : 10 ≤ d) (hN : b_X6_size  s ≠ none) : Rn xs L d 127 [.ref 10] (TM h0 s) (ou eN (TM h0) (b_X6_size  s)) := by
  unfold Rn
  unfold b_X6_size at hN ⊢
  refine e_aload_n m_X6_size dX6_size_0 rfl rfl rfl ?_
  refine e_iconst (v := nI 0) m_X6_size dX6_size_1 (by decide) ?_
  refine e_putf (v := .int (nI 0)) (h' := TM h0 (w_th s 0)) m_X6_size dX6_size_2 f_RX6_64 (gM_m G) (Nat.le_of_ble_eq_true rfl) (fit_i rfl) rfl (hpL_set (k := 10) (by decide) (Nat.le_of_ble_eq_true rfl)) ?_
  refine e_st hN (fun s1 hN => ?_)
  refine e_aload_n m_X6_size dX6_size_5 rfl rfl rfl ?_
  refine e_getf m_X6_size dX6_size_6 f_RX6_72 (gM_m G) rfl ?_
  exact e_reti m_X6_size dX6_size_9 (Or.inl rfl)

def b_X6_child  (x1 : Nat) (x2 : Nat) (x3 : Nat) (s : Mm) : Rs Mm := ck ((m_md s) < 65536) (st1 (w_wh s (upN (m_wh s) (m_md s) x2)) (fun s2 => ck ((m_md s2) < 65536) (st1 (w_tk s2 (upN (m_tk s2) (m_md s2) x3)) (fun s4 => ck ((m_md s4) < 65536) (st1 (w_pa s4 (upN (m_pa s4) (m_md s4) (x1 + 1))) (fun s6 => ck ((m_md s6) < 65536) (st1 (w_fi s6 (upN (m_fi s6) (m_md s6) 0)) (fun s8 => ck ((m_md s8) < 65536) (st1 (w_la s8 (upN (m_la s8) (m_md s8) 0)) (fun s10 => ck ((m_md s10) < 65536) (st1 (w_nx s10 (upN (m_nx s10) (m_md s10) 0)) (fun s12 => ck (x1 < 2147483648) (ck (x1 < 65536) (ifz (m_fi s12 x1) (ck (x1 < 65536) (st1 (w_fi s12 (upN (m_fi s12) x1 ((m_md s12) + 1))) (fun s17 => ck (x1 < 2147483648) (ck (x1 < 65536) (st1 (w_la s17 (upN (m_la s17) x1 ((m_md s17) + 1))) (fun s20 => st1 (w_md s20 ((m_md s20) + 1)) (fun s21 => ck ((m_md s21) ≠ 0) (okR ((m_md s21) - 1) s21)))))))) (ck (x1 < 2147483648) (ck (x1 < 65536) (ck ((m_la s12 x1) ≠ 0) (ck (((m_la s12 x1) - 1) < 65536) (st1 (w_nx s12 (upN (m_nx s12) ((m_la s12 x1) - 1) ((m_md s12) + 1))) (fun s27 => ck (x1 < 2147483648) (ck (x1 < 65536) (st1 (w_la s27 (upN (m_la s27) x1 ((m_md s27) + 1))) (fun s30 => st1 (w_md s30 ((m_md s30) + 1)) (fun s31 => ck ((m_md s31) ≠ 0) (okR ((m_md s31) - 1) s31)))))))))))))))))))))))))
theorem w_X6_child {xs : Nat → Int32} {L : Nat} {h0 : mm_H} (G : Mg h0) {x1 : Nat} {x2 : Nat} {x3 : Nat} {s : Mm} {d : Nat} (hd : 10 ≤ d) (hN : b_X6_child  x1 x2 x3 s ≠ none) : Rn xs L d 129 [.ref 10, .int (nI x1), .int (nI x2), .int (nI x3)] (TM h0 s) (ou eN (TM h0) (b_X6_child  x1 x2 x3 s)) := by
  unfold Rn
  unfold b_X6_child at hN ⊢
  refine e_aload_n m_X6_child dX6_child_0 rfl rfl rfl ?_
  refine e_getf m_X6_child dX6_child_1 f_RX6_14 (gM_m G) rfl ?_
  refine e_aload_n m_X6_child dX6_child_4 rfl rfl rfl ?_
  refine e_getf m_X6_child dX6_child_5 f_RX6_93 (gM_m G) rfl ?_
  refine e_iload_n m_X6_child dX6_child_8 rfl rfl ?_
  refine e_ck hN (fun q1 hN => ?_)
  refine e_astN (v := x2) (h' := TM h0 (w_wh s (upN (m_wh s) (m_md s) x2))) q1 (by decide) m_X6_child dX6_child_9 (gM_wh G) (hpL_set (k := 12) (by decide) (Nat.le_of_ble_eq_true rfl)) ?_
  refine e_st hN (fun s2 hN => ?_)
  refine e_aload_n m_X6_child dX6_child_10 rfl rfl rfl ?_
  refine e_getf m_X6_child dX6_child_11 f_RX6_18 (gM_m G) rfl ?_
  refine e_aload_n m_X6_child dX6_child_14 rfl rfl rfl ?_
  refine e_getf m_X6_child dX6_child_15 f_RX6_93 (gM_m G) rfl ?_
  refine e_iload_n m_X6_child dX6_child_18 rfl rfl ?_
  refine e_ck hN (fun q3 hN => ?_)
  refine e_astN (v := x3) (h' := TM h0 (w_tk s2 (upN (m_tk s2) (m_md s2) x3))) q3 (by decide) m_X6_child dX6_child_19 (gM_tk G) (hpL_set (k := 13) (by decide) (Nat.le_of_ble_eq_true rfl)) ?_
  refine e_st hN (fun s4 hN => ?_)
  refine e_aload_n m_X6_child dX6_child_20 rfl rfl rfl ?_
  refine e_getf m_X6_child dX6_child_21 f_RX6_21 (gM_m G) rfl ?_
  refine e_aload_n m_X6_child dX6_child_24 rfl rfl rfl ?_
  refine e_getf m_X6_child dX6_child_25 f_RX6_93 (gM_m G) rfl ?_
  refine e_iload_n m_X6_child dX6_child_28 rfl rfl ?_
  refine e_ck hN (fun q5 hN => ?_)
  refine e_astO (v := (x1 + 1)) (h' := TM h0 (w_pa s4 (upN (m_pa s4) (m_md s4) (x1 + 1)))) q5 (by decide) m_X6_child dX6_child_29 (gM_pa G) (hpL_set (k := 14) (by decide) (Nat.le_of_ble_eq_true rfl)) ?_
  refine e_st hN (fun s6 hN => ?_)
  refine e_aload_n m_X6_child dX6_child_30 rfl rfl rfl ?_
  refine e_getf m_X6_child dX6_child_31 f_RX6_24 (gM_m G) rfl ?_
  refine e_aload_n m_X6_child dX6_child_34 rfl rfl rfl ?_
  refine e_getf m_X6_child dX6_child_35 f_RX6_93 (gM_m G) rfl ?_
  refine e_iconst (v := oI 0) m_X6_child dX6_child_38 (by decide) ?_
  refine e_ck hN (fun q7 hN => ?_)
  refine e_astO (v := 0) (h' := TM h0 (w_fi s6 (upN (m_fi s6) (m_md s6) 0))) q7 (by decide) m_X6_child dX6_child_39 (gM_fi G) (hpL_set (k := 15) (by decide) (Nat.le_of_ble_eq_true rfl)) ?_
  refine e_st hN (fun s8 hN => ?_)
  refine e_aload_n m_X6_child dX6_child_40 rfl rfl rfl ?_
  refine e_getf m_X6_child dX6_child_41 f_RX6_27 (gM_m G) rfl ?_
  refine e_aload_n m_X6_child dX6_child_44 rfl rfl rfl ?_
  refine e_getf m_X6_child dX6_child_45 f_RX6_93 (gM_m G) rfl ?_
  refine e_iconst (v := oI 0) m_X6_child dX6_child_48 (by decide) ?_
  refine e_ck hN (fun q9 hN => ?_)
  refine e_astO (v := 0) (h' := TM h0 (w_la s8 (upN (m_la s8) (m_md s8) 0))) q9 (by decide) m_X6_child dX6_child_49 (gM_la G) (hpL_set (k := 16) (by decide) (Nat.le_of_ble_eq_true rfl)) ?_
  refine e_st hN (fun s10 hN => ?_)
  refine e_aload_n m_X6_child dX6_child_50 rfl rfl rfl ?_
  refine e_getf m_X6_child dX6_child_51 f_RX6_30 (gM_m G) rfl ?_
  refine e_aload_n m_X6_child dX6_child_54 rfl rfl rfl ?_
  refine e_getf m_X6_child dX6_child_55 f_RX6_93 (gM_m G) rfl ?_
  refine e_iconst (v := oI 0) m_X6_child dX6_child_58 (by decide) ?_
  refine e_ck hN (fun q11 hN => ?_)
  refine e_astO (v := 0) (h' := TM h0 (w_nx s10 (upN (m_nx s10) (m_md s10) 0))) q11 (by decide) m_X6_child dX6_child_59 (gM_nx G) (hpL_set (k := 17) (by decide) (Nat.le_of_ble_eq_true rfl)) ?_
  refine e_st hN (fun s12 hN => ?_)
  refine e_iload_n m_X6_child dX6_child_60 rfl rfl ?_
  refine e_ck hN (fun q13 hN => ?_)
  refine e_ifF (t := 86) m_X6_child dX6_child_61 (by decide) (n_nlt q13) ?_
  refine e_aload_n m_X6_child dX6_child_64 rfl rfl rfl ?_
  refine e_getf m_X6_child dX6_child_65 f_RX6_24 (gM_m G) rfl ?_
  refine e_iload_n m_X6_child dX6_child_68 rfl rfl ?_
  refine e_ck hN (fun q14 hN => ?_)
  refine e_aldO q14 (by decide) (Or.inl ⟨rfl, rfl⟩) m_X6_child dX6_child_69 (gM_fi G) ?_
  refine e_oifge (t := 86) hN m_X6_child dX6_child_70 (by decide) (fun q15 hN => ?_) (fun q15 hN => ?_)
  · refine e_aload_n m_X6_child dX6_child_73 rfl rfl rfl ?_
    refine e_getf m_X6_child dX6_child_74 f_RX6_24 (gM_m G) rfl ?_
    refine e_iload_n m_X6_child dX6_child_77 rfl rfl ?_
    refine e_aload_n m_X6_child dX6_child_78 rfl rfl rfl ?_
    refine e_getf m_X6_child dX6_child_79 f_RX6_93 (gM_m G) rfl ?_
    refine e_ck hN (fun q16 hN => ?_)
    refine e_astO (v := ((m_md s12) + 1)) (h' := TM h0 (w_fi s12 (upN (m_fi s12) x1 ((m_md s12) + 1)))) q16 (by decide) m_X6_child dX6_child_82 (gM_fi G) (hpL_set (k := 15) (by decide) (Nat.le_of_ble_eq_true rfl)) ?_
    refine e_st hN (fun s17 hN => ?_)
    refine e_goto (t := 105) m_X6_child dX6_child_83 (by decide) ?_
    refine e_iload_n m_X6_child dX6_child_105 rfl rfl ?_
    refine e_ck hN (fun q18 hN => ?_)
    refine e_ifF (t := 119) m_X6_child dX6_child_106 (by decide) (n_nlt q18) ?_
    refine e_aload_n m_X6_child dX6_child_109 rfl rfl rfl ?_
    refine e_getf m_X6_child dX6_child_110 f_RX6_27 (gM_m G) rfl ?_
    refine e_iload_n m_X6_child dX6_child_113 rfl rfl ?_
    refine e_aload_n m_X6_child dX6_child_114 rfl rfl rfl ?_
    refine e_getf m_X6_child dX6_child_115 f_RX6_93 (gM_m G) rfl ?_
    refine e_ck hN (fun q19 hN => ?_)
    refine e_astO (v := ((m_md s17) + 1)) (h' := TM h0 (w_la s17 (upN (m_la s17) x1 ((m_md s17) + 1)))) q19 (by decide) m_X6_child dX6_child_118 (gM_la G) (hpL_set (k := 16) (by decide) (Nat.le_of_ble_eq_true rfl)) ?_
    refine e_st hN (fun s20 hN => ?_)
    refine e_aload_n m_X6_child dX6_child_119 rfl rfl rfl ?_
    refine e_dup m_X6_child dX6_child_120 rfl ?_
    refine e_getf m_X6_child dX6_child_121 f_RX6_93 (gM_m G) rfl ?_
    refine e_iconst (v := nI 1) m_X6_child dX6_child_124 (by decide) ?_
    refine e_iaddN m_X6_child dX6_child_125 ?_
    refine e_putf (v := .int (nI ((m_md s20) + 1))) (h' := TM h0 (w_md s20 ((m_md s20) + 1))) m_X6_child dX6_child_126 f_RX6_93 (gM_m G) (Nat.le_of_ble_eq_true rfl) (fit_i rfl) rfl (hpL_set (k := 10) (by decide) (Nat.le_of_ble_eq_true rfl)) ?_
    refine e_st hN (fun s21 hN => ?_)
    refine e_aload_n m_X6_child dX6_child_129 rfl rfl rfl ?_
    refine e_getf m_X6_child dX6_child_130 f_RX6_93 (gM_m G) rfl ?_
    refine e_iconst (v := nI 1) m_X6_child dX6_child_133 (by decide) ?_
    refine e_isubO m_X6_child dX6_child_134 ?_
    refine e_ck hN (fun q22 hN => ?_)
    rw [oI_p q22]
    exact e_reti m_X6_child dX6_child_135 (Or.inl rfl)
  · refine e_iload_n m_X6_child dX6_child_86 rfl rfl ?_
    refine e_ck hN (fun q23 hN => ?_)
    refine e_ifF (t := 105) m_X6_child dX6_child_87 (by decide) (n_nlt q23) ?_
    refine e_aload_n m_X6_child dX6_child_90 rfl rfl rfl ?_
    refine e_getf m_X6_child dX6_child_91 f_RX6_30 (gM_m G) rfl ?_
    refine e_aload_n m_X6_child dX6_child_94 rfl rfl rfl ?_
    refine e_getf m_X6_child dX6_child_95 f_RX6_27 (gM_m G) rfl ?_
    refine e_iload_n m_X6_child dX6_child_98 rfl rfl ?_
    refine e_ck hN (fun q24 hN => ?_)
    refine e_aldO q24 (by decide) (Or.inl ⟨rfl, rfl⟩) m_X6_child dX6_child_99 (gM_la G) ?_
    refine e_aload_n m_X6_child dX6_child_100 rfl rfl rfl ?_
    refine e_getf m_X6_child dX6_child_101 f_RX6_93 (gM_m G) rfl ?_
    refine e_ck hN (fun q25 hN => ?_)
    rw [oI_p q25]
    refine e_ck hN (fun q26 hN => ?_)
    refine e_astO (v := ((m_md s12) + 1)) (h' := TM h0 (w_nx s12 (upN (m_nx s12) ((m_la s12 x1) - 1) ((m_md s12) + 1)))) q26 (by decide) m_X6_child dX6_child_104 (gM_nx G) (hpL_set (k := 17) (by decide) (Nat.le_of_ble_eq_true rfl)) ?_
    refine e_st hN (fun s27 hN => ?_)
    refine e_iload_n m_X6_child dX6_child_105 rfl rfl ?_
    refine e_ck hN (fun q28 hN => ?_)
    refine e_ifF (t := 119) m_X6_child dX6_child_106 (by decide) (n_nlt q28) ?_
    refine e_aload_n m_X6_child dX6_child_109 rfl rfl rfl ?_
    refine e_getf m_X6_child dX6_child_110 f_RX6_27 (gM_m G) rfl ?_
    refine e_iload_n m_X6_child dX6_child_113 rfl rfl ?_
    refine e_aload_n m_X6_child dX6_child_114 rfl rfl rfl ?_
    refine e_getf m_X6_child dX6_child_115 f_RX6_93 (gM_m G) rfl ?_
    refine e_ck hN (fun q29 hN => ?_)
    refine e_astO (v := ((m_md s27) + 1)) (h' := TM h0 (w_la s27 (upN (m_la s27) x1 ((m_md s27) + 1)))) q29 (by decide) m_X6_child dX6_child_118 (gM_la G) (hpL_set (k := 16) (by decide) (Nat.le_of_ble_eq_true rfl)) ?_
    refine e_st hN (fun s30 hN => ?_)
    refine e_aload_n m_X6_child dX6_child_119 rfl rfl rfl ?_
    refine e_dup m_X6_child dX6_child_120 rfl ?_
    refine e_getf m_X6_child dX6_child_121 f_RX6_93 (gM_m G) rfl ?_
    refine e_iconst (v := nI 1) m_X6_child dX6_child_124 (by decide) ?_
    refine e_iaddN m_X6_child dX6_child_125 ?_
    refine e_putf (v := .int (nI ((m_md s30) + 1))) (h' := TM h0 (w_md s30 ((m_md s30) + 1))) m_X6_child dX6_child_126 f_RX6_93 (gM_m G) (Nat.le_of_ble_eq_true rfl) (fit_i rfl) rfl (hpL_set (k := 10) (by decide) (Nat.le_of_ble_eq_true rfl)) ?_
    refine e_st hN (fun s31 hN => ?_)
    refine e_aload_n m_X6_child dX6_child_129 rfl rfl rfl ?_
    refine e_getf m_X6_child dX6_child_130 f_RX6_93 (gM_m G) rfl ?_
    refine e_iconst (v := nI 1) m_X6_child dX6_child_133 (by decide) ?_
    refine e_isubO m_X6_child dX6_child_134 ?_
    refine e_ck hN (fun q32 hN => ?_)
    rw [oI_p q32]
    exact e_reti m_X6_child dX6_child_135 (Or.inl rfl)

def b_X6_look  (s : Mm) : Rs Mm := ifl (m_at s) (m_ct s) (ck ((m_at s) < 16385) (okR (m_kd s (m_at s)) s)) (okR 0 s)
theorem w_X6_look {xs : Nat → Int32} {L : Nat} {h0 : mm_H} (G : Mg h0) {s : Mm} {d : Nat} (hd : 10 ≤ d) (hN : b_X6_look  s ≠ none) : Rn xs L d 131 [.ref 10] (TM h0 s) (ou eN (TM h0) (b_X6_look  s)) := by
  unfold Rn
  unfold b_X6_look at hN ⊢
  refine e_aload_n m_X6_look dX6_look_0 rfl rfl rfl ?_
  refine e_getf m_X6_look dX6_look_1 f_RX6_77 (gM_m G) rfl ?_
  refine e_aload_n m_X6_look dX6_look_4 rfl rfl rfl ?_
  refine e_getf m_X6_look dX6_look_5 f_RX6_72 (gM_m G) rfl ?_
  refine e_ige (t := 23) (a := (m_at s)) (b := (m_ct s)) hN m_X6_look dX6_look_8 (by decide) (fun q1 hN => ?_) (fun q1 hN => ?_)
  · refine e_aload_n m_X6_look dX6_look_11 rfl rfl rfl ?_
    refine e_getf m_X6_look dX6_look_12 f_RX6_7 (gM_m G) rfl ?_
    refine e_aload_n m_X6_look dX6_look_15 rfl rfl rfl ?_
    refine e_getf m_X6_look dX6_look_16 f_RX6_77 (gM_m G) rfl ?_
    refine e_ck hN (fun q2 hN => ?_)
    refine e_aldN q2 (by decide) (Or.inr ⟨rfl, Or.inl rfl⟩) m_X6_look dX6_look_19 (gM_kd G) ?_
    refine e_goto (t := 24) m_X6_look dX6_look_20 (by decide) ?_
    exact e_reti m_X6_look dX6_look_24 (Or.inl rfl)
  · refine e_iconst (v := nI 0) m_X6_look dX6_look_23 (by decide) ?_
    exact e_reti m_X6_look dX6_look_24 (Or.inl rfl)

def b_X6_error  (s : Mm) : Rs Mm := ifz (m_wr s) (st1 (w_wr s ((m_at s) + 1)) (fun s2 => okR 0 s2)) (okR 0 s)
theorem w_X6_error {xs : Nat → Int32} {L : Nat} {h0 : mm_H} (G : Mg h0) {s : Mm} {d : Nat} (hd : 10 ≤ d) (hN : b_X6_error  s ≠ none) : Rn xs L d 132 [.ref 10] (TM h0 s) (ou eU (TM h0) (b_X6_error  s)) := by
  unfold Rn
  unfold b_X6_error at hN ⊢
  refine e_aload_n m_X6_error dX6_error_0 rfl rfl rfl ?_
  refine e_getf m_X6_error dX6_error_1 f_RX6_80 (gM_m G) rfl ?_
  refine e_oifge (t := 15) hN m_X6_error dX6_error_4 (by decide) (fun q1 hN => ?_) (fun q1 hN => ?_)
  · refine e_aload_n m_X6_error dX6_error_7 rfl rfl rfl ?_
    refine e_aload_n m_X6_error dX6_error_8 rfl rfl rfl ?_
    refine e_getf m_X6_error dX6_error_9 f_RX6_77 (gM_m G) rfl ?_
    refine e_putf (v := .int (oI ((m_at s) + 1))) (h' := TM h0 (w_wr s ((m_at s) + 1))) m_X6_error dX6_error_12 f_RX6_80 (gM_m G) (Nat.le_of_ble_eq_true rfl) (fit_i rfl) rfl (hpL_set (k := 10) (by decide) (Nat.le_of_ble_eq_true rfl)) ?_
    refine e_st hN (fun s2 hN => ?_)
    exact e_ret0 m_X6_error dX6_error_15
  · exact e_ret0 m_X6_error dX6_error_15

def b_X6_push  (x1 : Nat) (x2 : Nat) (x3 : Nat) (s : Mm) : Rs Mm := ck ((m_td s) < 4096) (st1 (w_dz s (upN (m_dz s) (m_td s) x1)) (fun s2 => ck ((m_td s2) < 4096) (st1 (w_no s2 (upN (m_no s2) (m_td s2) x2)) (fun s4 => ck ((m_td s4) < 4096) (st1 (w_tr s4 (upN (m_tr s4) (m_td s4) x3)) (fun s6 => st1 (w_td s6 ((m_td s6) + 1)) (fun s7 => okR 0 s7)))))))
theorem w_X6_push {xs : Nat → Int32} {L : Nat} {h0 : mm_H} (G : Mg h0) {x1 : Nat} {x2 : Nat} {x3 : Nat} {s : Mm} {d : Nat} (hd : 10 ≤ d) (hN : b_X6_push  x1 x2 x3 s ≠ none) : Rn xs L d 134 [.ref 10, .int (nI x1), .int (nI x2), .int (nI x3)] (TM h0 s) (ou eU (TM h0) (b_X6_push  x1 x2 x3 s)) := by
  unfold Rn
  unfold b_X6_push at hN ⊢
  refine e_aload_n m_X6_push dX6_push_0 rfl rfl rfl ?_
  refine e_getf m_X6_push dX6_push_1 f_RX6_42 (gM_m G) rfl ?_
  refine e_aload_n m_X6_push dX6_push_4 rfl rfl rfl ?_
  refine e_getf m_X6_push dX6_push_5 f_RX6_96 (gM_m G) rfl ?_
  refine e_iload_n m_X6_push dX6_push_8 rfl rfl ?_
  refine e_ck hN (fun q1 hN => ?_)
  refine e_astN (v := x1) (h' := TM h0 (w_dz s (upN (m_dz s) (m_td s) x1))) q1 (by decide) m_X6_push dX6_push_9 (gM_dz G) (hpL_set (k := 21) (by decide) (Nat.le_of_ble_eq_true rfl)) ?_
  refine e_st hN (fun s2 hN => ?_)
  refine e_aload_n m_X6_push dX6_push_10 rfl rfl rfl ?_
  refine e_getf m_X6_push dX6_push_11 f_RX6_45 (gM_m G) rfl ?_
  refine e_aload_n m_X6_push dX6_push_14 rfl rfl rfl ?_
  refine e_getf m_X6_push dX6_push_15 f_RX6_96 (gM_m G) rfl ?_
  refine e_iload_n m_X6_push dX6_push_18 rfl rfl ?_
  refine e_ck hN (fun q3 hN => ?_)
  refine e_astN (v := x2) (h' := TM h0 (w_no s2 (upN (m_no s2) (m_td s2) x2))) q3 (by decide) m_X6_push dX6_push_19 (gM_no G) (hpL_set (k := 22) (by decide) (Nat.le_of_ble_eq_true rfl)) ?_
  refine e_st hN (fun s4 hN => ?_)
  refine e_aload_n m_X6_push dX6_push_20 rfl rfl rfl ?_
  refine e_getf m_X6_push dX6_push_21 f_RX6_48 (gM_m G) rfl ?_
  refine e_aload_n m_X6_push dX6_push_24 rfl rfl rfl ?_
  refine e_getf m_X6_push dX6_push_25 f_RX6_96 (gM_m G) rfl ?_
  refine e_iload_n m_X6_push dX6_push_28 rfl rfl ?_
  refine e_ck hN (fun q5 hN => ?_)
  refine e_astN (v := x3) (h' := TM h0 (w_tr s4 (upN (m_tr s4) (m_td s4) x3))) q5 (by decide) m_X6_push dX6_push_29 (gM_tr G) (hpL_set (k := 23) (by decide) (Nat.le_of_ble_eq_true rfl)) ?_
  refine e_st hN (fun s6 hN => ?_)
  refine e_aload_n m_X6_push dX6_push_30 rfl rfl rfl ?_
  refine e_dup m_X6_push dX6_push_31 rfl ?_
  refine e_getf m_X6_push dX6_push_32 f_RX6_96 (gM_m G) rfl ?_
  refine e_iconst (v := nI 1) m_X6_push dX6_push_35 (by decide) ?_
  refine e_iaddN m_X6_push dX6_push_36 ?_
  refine e_putf (v := .int (nI ((m_td s6) + 1))) (h' := TM h0 (w_td s6 ((m_td s6) + 1))) m_X6_push dX6_push_37 f_RX6_96 (gM_m G) (Nat.le_of_ble_eq_true rfl) (fit_i rfl) rfl (hpL_set (k := 10) (by decide) (Nat.le_of_ble_eq_true rfl)) ?_
  refine e_st hN (fun s7 hN => ?_)
  exact e_ret0 m_X6_push dX6_push_40

def lp_X6_wrap_19  : Nat → Nat → Nat → Nat → Nat → Nat → Nat → Mm → Rs Mm
  | 0, _, _, _, _, _, _, _ => none
  | f + 1, y1, y2, y3, y4, y5, y6, s => ife y5 y4 (st1 (w_md s ((m_md s) + 1)) (fun s33 => ck ((m_md s) < 65536) (st1 (w_wh s33 (upN (m_wh s33) (m_md s) y2)) (fun s35 => ck ((m_md s) < 65536) (st1 (w_tk s35 (upN (m_tk s35) (m_md s) y3)) (fun s37 => ck ((m_md s) < 65536) (st1 (w_pa s37 (upN (m_pa s37) (m_md s) (y1 + 1))) (fun s39 => ck ((m_md s) < 65536) (st1 (w_fi s39 (upN (m_fi s39) (m_md s) y4)) (fun s41 => ck ((m_md s) < 65536) (st1 (w_la s41 (upN (m_la s41) (m_md s) y4)) (fun s43 => ck ((m_md s) < 65536) (st1 (w_nx s43 (upN (m_nx s43) (m_md s) 0)) (fun s45 => ck (y4 ≠ 0) (ck ((y4 - 1) < 65536) (st1 (w_pa s45 (upN (m_pa s45) (y4 - 1) ((m_md s) + 1))) (fun s48 => ifz y6 (ck (y1 < 65536) (st1 (w_fi s48 (upN (m_fi s48) y1 ((m_md s) + 1))) (fun s51 => ck (y1 < 65536) (st1 (w_la s51 (upN (m_la s51) y1 ((m_md s) + 1))) (fun s53 => okR (m_md s) s53))))) (ck (y6 ≠ 0) (ck ((y6 - 1) < 65536) (st1 (w_nx s48 (upN (m_nx s48) (y6 - 1) ((m_md s) + 1))) (fun s56 => ck (y1 < 65536) (st1 (w_la s56 (upN (m_la s56) y1 ((m_md s) + 1))) (fun s58 => okR (m_md s) s58))))))))))))))))))))))) (ck (y5 ≠ 0) (ck ((y5 - 1) < 65536) (lp_X6_wrap_19  f y1 y2 y3 y4 (m_nx s (y5 - 1)) ((y5 - 1) + 1) s)))
theorem l_X6_wrap_19 {xs : Nat → Int32} {L : Nat} {h0 : mm_H} (G : Mg h0) : ∀ (f : Nat) (y1 y2 y3 y4 y5 y6 : Nat) (s : Mm) (d : Nat) (ls : mm_L) (hd : 10 ≤ d) (hl0 : mm_lk ls 0 = some (.ref 10)) (hl1 : mm_lk ls 1 = some (.int (nI y1))) (hl2 : mm_lk ls 2 = some (.int (nI y2))) (hl3 : mm_lk ls 3 = some (.int (nI y3))) (hl4 : mm_lk ls 4 = some (.int (oI y4))) (hl5 : mm_lk ls 5 = some (.int (oI y5))) (hl6 : mm_lk ls 6 = some (.int (oI y6))), lp_X6_wrap_19  f y1 y2 y3 y4 y5 y6 s ≠ none → Ev xs L d 138 19 ls [] (TM h0 s) 0 0 (ou eN (TM h0) (lp_X6_wrap_19  f y1 y2 y3 y4 y5 y6 s)) := by
  intro f
  induction f with
  | zero => intros; rename_i hN; exact absurd rfl hN
  | succ f ih =>
    intro y1 y2 y3 y4 y5 y6 s d ls hd hl0 hl1 hl2 hl3 hl4 hl5 hl6 hN
    rw [lp_X6_wrap_19] at hN ⊢
    refine e_iload m_X6_wrap dX6_wrap_19 hl5 ?_
    refine e_iload m_X6_wrap dX6_wrap_21 hl4 ?_
    refine e_oieq (t := 42) (a := y5) (b := y4) hN m_X6_wrap dX6_wrap_23 (by decide) (fun q32 hN => ?_) (fun q32 hN => ?_)
    · refine e_aload_n m_X6_wrap dX6_wrap_42 rfl hl0 rfl ?_
      refine e_getf m_X6_wrap dX6_wrap_43 f_RX6_93 (gM_m G) rfl ?_
      refine e_istore m_X6_wrap dX6_wrap_46 (by decide) rfl ?_
      refine e_aload_n m_X6_wrap dX6_wrap_48 rfl (lk_mis (by decide) rfl hl0) rfl ?_
      refine e_dup m_X6_wrap dX6_wrap_49 rfl ?_
      refine e_getf m_X6_wrap dX6_wrap_50 f_RX6_93 (gM_m G) rfl ?_
      refine e_iconst (v := nI 1) m_X6_wrap dX6_wrap_53 (by decide) ?_
      refine e_iaddN m_X6_wrap dX6_wrap_54 ?_
      refine e_putf (v := .int (nI ((m_md s) + 1))) (h' := TM h0 (w_md s ((m_md s) + 1))) m_X6_wrap dX6_wrap_55 f_RX6_93 (gM_m G) (Nat.le_of_ble_eq_true rfl) (fit_i rfl) rfl (hpL_set (k := 10) (by decide) (Nat.le_of_ble_eq_true rfl)) ?_
      refine e_st hN (fun s33 hN => ?_)
      refine e_aload_n m_X6_wrap dX6_wrap_58 rfl (lk_mis (by decide) rfl hl0) rfl ?_
      refine e_getf m_X6_wrap dX6_wrap_59 f_RX6_14 (gM_m G) rfl ?_
      refine e_iload m_X6_wrap dX6_wrap_62 lk_hit ?_
      refine e_iload_n m_X6_wrap dX6_wrap_64 rfl (lk_mis (by decide) rfl hl2) ?_
      refine e_ck hN (fun q34 hN => ?_)
      refine e_astN (v := y2) (h' := TM h0 (w_wh s33 (upN (m_wh s33) (m_md s) y2))) q34 (by decide) m_X6_wrap dX6_wrap_65 (gM_wh G) (hpL_set (k := 12) (by decide) (Nat.le_of_ble_eq_true rfl)) ?_
      refine e_st hN (fun s35 hN => ?_)
      refine e_aload_n m_X6_wrap dX6_wrap_66 rfl (lk_mis (by decide) rfl hl0) rfl ?_
      refine e_getf m_X6_wrap dX6_wrap_67 f_RX6_18 (gM_m G) rfl ?_
      refine e_iload m_X6_wrap dX6_wrap_70 lk_hit ?_
      refine e_iload_n m_X6_wrap dX6_wrap_72 rfl (lk_mis (by decide) rfl hl3) ?_
      refine e_ck hN (fun q36 hN => ?_)
      refine e_astN (v := y3) (h' := TM h0 (w_tk s35 (upN (m_tk s35) (m_md s) y3))) q36 (by decide) m_X6_wrap dX6_wrap_73 (gM_tk G) (hpL_set (k := 13) (by decide) (Nat.le_of_ble_eq_true rfl)) ?_
      refine e_st hN (fun s37 hN => ?_)
      refine e_aload_n m_X6_wrap dX6_wrap_74 rfl (lk_mis (by decide) rfl hl0) rfl ?_
      refine e_getf m_X6_wrap dX6_wrap_75 f_RX6_21 (gM_m G) rfl ?_
      refine e_iload m_X6_wrap dX6_wrap_78 lk_hit ?_
      refine e_iload_n m_X6_wrap dX6_wrap_80 rfl (lk_mis (by decide) rfl hl1) ?_
      refine e_ck hN (fun q38 hN => ?_)
      refine e_astO (v := (y1 + 1)) (h' := TM h0 (w_pa s37 (upN (m_pa s37) (m_md s) (y1 + 1)))) q38 (by decide) m_X6_wrap dX6_wrap_81 (gM_pa G) (hpL_set (k := 14) (by decide) (Nat.le_of_ble_eq_true rfl)) ?_
      refine e_st hN (fun s39 hN => ?_)
      refine e_aload_n m_X6_wrap dX6_wrap_82 rfl (lk_mis (by decide) rfl hl0) rfl ?_
      refine e_getf m_X6_wrap dX6_wrap_83 f_RX6_24 (gM_m G) rfl ?_
      refine e_iload m_X6_wrap dX6_wrap_86 lk_hit ?_
      refine e_iload m_X6_wrap dX6_wrap_88 (lk_mis (by decide) rfl hl4) ?_
      refine e_ck hN (fun q40 hN => ?_)
      refine e_astO (v := y4) (h' := TM h0 (w_fi s39 (upN (m_fi s39) (m_md s) y4))) q40 (by decide) m_X6_wrap dX6_wrap_90 (gM_fi G) (hpL_set (k := 15) (by decide) (Nat.le_of_ble_eq_true rfl)) ?_
      refine e_st hN (fun s41 hN => ?_)
      refine e_aload_n m_X6_wrap dX6_wrap_91 rfl (lk_mis (by decide) rfl hl0) rfl ?_
      refine e_getf m_X6_wrap dX6_wrap_92 f_RX6_27 (gM_m G) rfl ?_
      refine e_iload m_X6_wrap dX6_wrap_95 lk_hit ?_
      refine e_iload m_X6_wrap dX6_wrap_97 (lk_mis (by decide) rfl hl4) ?_
      refine e_ck hN (fun q42 hN => ?_)
      refine e_astO (v := y4) (h' := TM h0 (w_la s41 (upN (m_la s41) (m_md s) y4))) q42 (by decide) m_X6_wrap dX6_wrap_99 (gM_la G) (hpL_set (k := 16) (by decide) (Nat.le_of_ble_eq_true rfl)) ?_
      refine e_st hN (fun s43 hN => ?_)
      refine e_aload_n m_X6_wrap dX6_wrap_100 rfl (lk_mis (by decide) rfl hl0) rfl ?_
      refine e_getf m_X6_wrap dX6_wrap_101 f_RX6_30 (gM_m G) rfl ?_
      refine e_iload m_X6_wrap dX6_wrap_104 lk_hit ?_
      refine e_iconst (v := oI 0) m_X6_wrap dX6_wrap_106 (by decide) ?_
      refine e_ck hN (fun q44 hN => ?_)
      refine e_astO (v := 0) (h' := TM h0 (w_nx s43 (upN (m_nx s43) (m_md s) 0))) q44 (by decide) m_X6_wrap dX6_wrap_107 (gM_nx G) (hpL_set (k := 17) (by decide) (Nat.le_of_ble_eq_true rfl)) ?_
      refine e_st hN (fun s45 hN => ?_)
      refine e_aload_n m_X6_wrap dX6_wrap_108 rfl (lk_mis (by decide) rfl hl0) rfl ?_
      refine e_getf m_X6_wrap dX6_wrap_109 f_RX6_21 (gM_m G) rfl ?_
      refine e_iload m_X6_wrap dX6_wrap_112 (lk_mis (by decide) rfl hl4) ?_
      refine e_iload m_X6_wrap dX6_wrap_114 lk_hit ?_
      refine e_ck hN (fun q46 hN => ?_)
      rw [oI_p q46]
      refine e_ck hN (fun q47 hN => ?_)
      refine e_astO (v := ((m_md s) + 1)) (h' := TM h0 (w_pa s45 (upN (m_pa s45) (y4 - 1) ((m_md s) + 1)))) q47 (by decide) m_X6_wrap dX6_wrap_116 (gM_pa G) (hpL_set (k := 14) (by decide) (Nat.le_of_ble_eq_true rfl)) ?_
      refine e_st hN (fun s48 hN => ?_)
      refine e_iload m_X6_wrap dX6_wrap_117 (lk_mis (by decide) rfl hl6) ?_
      refine e_oifge (t := 133) hN m_X6_wrap dX6_wrap_119 (by decide) (fun q49 hN => ?_) (fun q49 hN => ?_)
      · refine e_aload_n m_X6_wrap dX6_wrap_122 rfl (lk_mis (by decide) rfl hl0) rfl ?_
        refine e_getf m_X6_wrap dX6_wrap_123 f_RX6_24 (gM_m G) rfl ?_
        refine e_iload_n m_X6_wrap dX6_wrap_126 rfl (lk_mis (by decide) rfl hl1) ?_
        refine e_iload m_X6_wrap dX6_wrap_127 lk_hit ?_
        refine e_ck hN (fun q50 hN => ?_)
        refine e_astO (v := ((m_md s) + 1)) (h' := TM h0 (w_fi s48 (upN (m_fi s48) y1 ((m_md s) + 1)))) q50 (by decide) m_X6_wrap dX6_wrap_129 (gM_fi G) (hpL_set (k := 15) (by decide) (Nat.le_of_ble_eq_true rfl)) ?_
        refine e_st hN (fun s51 hN => ?_)
        refine e_goto (t := 142) m_X6_wrap dX6_wrap_130 (by decide) ?_
        refine e_aload_n m_X6_wrap dX6_wrap_142 rfl (lk_mis (by decide) rfl hl0) rfl ?_
        refine e_getf m_X6_wrap dX6_wrap_143 f_RX6_27 (gM_m G) rfl ?_
        refine e_iload_n m_X6_wrap dX6_wrap_146 rfl (lk_mis (by decide) rfl hl1) ?_
        refine e_iload m_X6_wrap dX6_wrap_147 lk_hit ?_
        refine e_ck hN (fun q52 hN => ?_)
        refine e_astO (v := ((m_md s) + 1)) (h' := TM h0 (w_la s51 (upN (m_la s51) y1 ((m_md s) + 1)))) q52 (by decide) m_X6_wrap dX6_wrap_149 (gM_la G) (hpL_set (k := 16) (by decide) (Nat.le_of_ble_eq_true rfl)) ?_
        refine e_st hN (fun s53 hN => ?_)
        refine e_iload m_X6_wrap dX6_wrap_150 lk_hit ?_
        exact e_reti m_X6_wrap dX6_wrap_152 (Or.inl rfl)
      · refine e_aload_n m_X6_wrap dX6_wrap_133 rfl (lk_mis (by decide) rfl hl0) rfl ?_
        refine e_getf m_X6_wrap dX6_wrap_134 f_RX6_30 (gM_m G) rfl ?_
        refine e_iload m_X6_wrap dX6_wrap_137 (lk_mis (by decide) rfl hl6) ?_
        refine e_iload m_X6_wrap dX6_wrap_139 lk_hit ?_
        refine e_ck hN (fun q54 hN => ?_)
        rw [oI_p q54]
        refine e_ck hN (fun q55 hN => ?_)
        refine e_astO (v := ((m_md s) + 1)) (h' := TM h0 (w_nx s48 (upN (m_nx s48) (y6 - 1) ((m_md s) + 1)))) q55 (by decide) m_X6_wrap dX6_wrap_141 (gM_nx G) (hpL_set (k := 17) (by decide) (Nat.le_of_ble_eq_true rfl)) ?_
        refine e_st hN (fun s56 hN => ?_)
        refine e_aload_n m_X6_wrap dX6_wrap_142 rfl (lk_mis (by decide) rfl hl0) rfl ?_
        refine e_getf m_X6_wrap dX6_wrap_143 f_RX6_27 (gM_m G) rfl ?_
        refine e_iload_n m_X6_wrap dX6_wrap_146 rfl (lk_mis (by decide) rfl hl1) ?_
        refine e_iload m_X6_wrap dX6_wrap_147 lk_hit ?_
        refine e_ck hN (fun q57 hN => ?_)
        refine e_astO (v := ((m_md s) + 1)) (h' := TM h0 (w_la s56 (upN (m_la s56) y1 ((m_md s) + 1)))) q57 (by decide) m_X6_wrap dX6_wrap_149 (gM_la G) (hpL_set (k := 16) (by decide) (Nat.le_of_ble_eq_true rfl)) ?_
        refine e_st hN (fun s58 hN => ?_)
        refine e_iload m_X6_wrap dX6_wrap_150 lk_hit ?_
        exact e_reti m_X6_wrap dX6_wrap_152 (Or.inl rfl)
    · refine e_iload m_X6_wrap dX6_wrap_26 hl5 ?_
      refine e_istore m_X6_wrap dX6_wrap_28 (by decide) rfl ?_
      refine e_aload_n m_X6_wrap dX6_wrap_30 rfl (lk_mis (by decide) rfl hl0) rfl ?_
      refine e_getf m_X6_wrap dX6_wrap_31 f_RX6_30 (gM_m G) rfl ?_
      refine e_iload m_X6_wrap dX6_wrap_34 (lk_mis (by decide) rfl hl5) ?_
      refine e_ck hN (fun q59 hN => ?_)
      rw [oI_p q59]
      refine e_ck hN (fun q60 hN => ?_)
      refine e_aldO q60 (by decide) (Or.inl ⟨rfl, rfl⟩) m_X6_wrap dX6_wrap_36 (gM_nx G) ?_
      refine e_istore m_X6_wrap dX6_wrap_37 (by decide) rfl ?_
      refine e_goto (t := 19) m_X6_wrap dX6_wrap_39 (by decide) ?_
      exact ih y1 y2 y3 y4 (m_nx s (y5 - 1)) ((y5 - 1) + 1) _ _ _ (by omega) (lk_mis (by decide) rfl (lk_mis (by decide) rfl hl0)) (lk_mis (by decide) rfl (lk_mis (by decide) rfl hl1)) (lk_mis (by decide) rfl (lk_mis (by decide) rfl hl2)) (lk_mis (by decide) rfl (lk_mis (by decide) rfl hl3)) (lk_mis (by decide) rfl (lk_mis (by decide) rfl hl4)) lk_hit (lk_mis (by decide) rfl lk_hit) hN
def b_X6_wrap  (x1 : Nat) (x2 : Nat) (x3 : Nat) (s : Mm) : Rs Mm := ck (x1 < 65536) (ck (x1 < 65536) (lp_X6_wrap_19  LF x1 x2 x3 (m_la s x1) (m_fi s x1) 0 s))
theorem w_X6_wrap {xs : Nat → Int32} {L : Nat} {h0 : mm_H} (G : Mg h0) {x1 : Nat} {x2 : Nat} {x3 : Nat} {s : Mm} {d : Nat} (hd : 10 ≤ d) (hN : b_X6_wrap  x1 x2 x3 s ≠ none) : Rn xs L d 138 [.ref 10, .int (nI x1), .int (nI x2), .int (nI x3)] (TM h0 s) (ou eN (TM h0) (b_X6_wrap  x1 x2 x3 s)) := by
  unfold Rn
  unfold b_X6_wrap at hN ⊢
  refine e_aload_n m_X6_wrap dX6_wrap_0 rfl rfl rfl ?_
  refine e_getf m_X6_wrap dX6_wrap_1 f_RX6_27 (gM_m G) rfl ?_
  refine e_iload_n m_X6_wrap dX6_wrap_4 rfl rfl ?_
  refine e_ck hN (fun q1 hN => ?_)
  refine e_aldO q1 (by decide) (Or.inl ⟨rfl, rfl⟩) m_X6_wrap dX6_wrap_5 (gM_la G) ?_
  refine e_istore m_X6_wrap dX6_wrap_6 (by decide) rfl ?_
  refine e_aload_n m_X6_wrap dX6_wrap_8 rfl rfl rfl ?_
  refine e_getf m_X6_wrap dX6_wrap_9 f_RX6_24 (gM_m G) rfl ?_
  refine e_iload_n m_X6_wrap dX6_wrap_12 rfl rfl ?_
  refine e_ck hN (fun q2 hN => ?_)
  refine e_aldO q2 (by decide) (Or.inl ⟨rfl, rfl⟩) m_X6_wrap dX6_wrap_13 (gM_fi G) ?_
  refine e_istore m_X6_wrap dX6_wrap_14 (by decide) rfl ?_
  refine e_iconst (v := oI 0) m_X6_wrap dX6_wrap_16 (by decide) ?_
  refine e_istore m_X6_wrap dX6_wrap_17 (by decide) rfl ?_
  exact l_X6_wrap_19 G LF x1 x2 x3 (m_la s x1) (m_fi s x1) 0 _ _ _ (by omega) rfl rfl rfl rfl rfl rfl rfl hN

def b_X6_ahead  (s : Mm) : Rs Mm := ifl ((m_at s) + 1) (m_ct s) (ck (((m_at s) + 1) < 16385) (okR (m_kd s ((m_at s) + 1)) s)) (okR 0 s)
theorem w_X6_ahead {xs : Nat → Int32} {L : Nat} {h0 : mm_H} (G : Mg h0) {s : Mm} {d : Nat} (hd : 10 ≤ d) (hN : b_X6_ahead  s ≠ none) : Rn xs L d 142 [.ref 10] (TM h0 s) (ou eN (TM h0) (b_X6_ahead  s)) := by
  unfold Rn
  unfold b_X6_ahead at hN ⊢
  refine e_aload_n m_X6_ahead dX6_ahead_0 rfl rfl rfl ?_
  refine e_getf m_X6_ahead dX6_ahead_1 f_RX6_77 (gM_m G) rfl ?_
  refine e_iconst (v := nI 1) m_X6_ahead dX6_ahead_4 (by decide) ?_
  refine e_iaddN m_X6_ahead dX6_ahead_5 ?_
  refine e_aload_n m_X6_ahead dX6_ahead_6 rfl rfl rfl ?_
  refine e_getf m_X6_ahead dX6_ahead_7 f_RX6_72 (gM_m G) rfl ?_
  refine e_ige (t := 27) (a := ((m_at s) + 1)) (b := (m_ct s)) hN m_X6_ahead dX6_ahead_10 (by decide) (fun q1 hN => ?_) (fun q1 hN => ?_)
  · refine e_aload_n m_X6_ahead dX6_ahead_13 rfl rfl rfl ?_
    refine e_getf m_X6_ahead dX6_ahead_14 f_RX6_7 (gM_m G) rfl ?_
    refine e_aload_n m_X6_ahead dX6_ahead_17 rfl rfl rfl ?_
    refine e_getf m_X6_ahead dX6_ahead_18 f_RX6_77 (gM_m G) rfl ?_
    refine e_iconst (v := nI 1) m_X6_ahead dX6_ahead_21 (by decide) ?_
    refine e_iaddN m_X6_ahead dX6_ahead_22 ?_
    refine e_ck hN (fun q2 hN => ?_)
    refine e_aldN q2 (by decide) (Or.inr ⟨rfl, Or.inl rfl⟩) m_X6_ahead dX6_ahead_23 (gM_kd G) ?_
    refine e_goto (t := 28) m_X6_ahead dX6_ahead_24 (by decide) ?_
    exact e_reti m_X6_ahead dX6_ahead_28 (Or.inl rfl)
  · refine e_iconst (v := nI 0) m_X6_ahead dX6_ahead_27 (by decide) ?_
    exact e_reti m_X6_ahead dX6_ahead_28 (Or.inl rfl)

def lp_X6_unwrap_25  : Nat → Nat → Nat → Nat → Nat → Nat → Mm → Rs Mm
  | 0, _, _, _, _, _, _ => none
  | f + 1, y1, y2, y3, y4, y5, s => ife y4 (y2 + 1) (ck (y3 ≠ 0) (ck ((y3 - 1) < 65536) (st1 (w_pa s (upN (m_pa s) (y3 - 1) (y1 + 1))) (fun s27 => ck (y3 ≠ 0) (ck ((y3 - 1) < 65536) (st1 (w_nx s27 (upN (m_nx s27) (y3 - 1) 0)) (fun s30 => ifz y5 (ck (y1 < 65536) (st1 (w_fi s30 (upN (m_fi s30) y1 y3)) (fun s33 => ck (y1 < 65536) (st1 (w_la s33 (upN (m_la s33) y1 y3)) (fun s35 => okR 0 s35))))) (ck (y5 ≠ 0) (ck ((y5 - 1) < 65536) (st1 (w_nx s30 (upN (m_nx s30) (y5 - 1) y3)) (fun s38 => ck (y1 < 65536) (st1 (w_la s38 (upN (m_la s38) y1 y3)) (fun s40 => okR 0 s40))))))))))))) (ck (y4 ≠ 0) (ck ((y4 - 1) < 65536) (lp_X6_unwrap_25  f y1 y2 y3 (m_nx s (y4 - 1)) ((y4 - 1) + 1) s)))
theorem l_X6_unwrap_25 {xs : Nat → Int32} {L : Nat} {h0 : mm_H} (G : Mg h0) : ∀ (f : Nat) (y1 y2 y3 y4 y5 : Nat) (s : Mm) (d : Nat) (ls : mm_L) (hd : 10 ≤ d) (hl0 : mm_lk ls 0 = some (.ref 10)) (hl1 : mm_lk ls 1 = some (.int (nI y1))) (hl2 : mm_lk ls 2 = some (.int (nI y2))) (hl3 : mm_lk ls 3 = some (.int (oI y3))) (hl4 : mm_lk ls 4 = some (.int (oI y4))) (hl5 : mm_lk ls 5 = some (.int (oI y5))), lp_X6_unwrap_25  f y1 y2 y3 y4 y5 s ≠ none → Ev xs L d 207 25 ls [] (TM h0 s) 0 0 (ou eU (TM h0) (lp_X6_unwrap_25  f y1 y2 y3 y4 y5 s)) := by
  intro f
  induction f with
  | zero => intros; rename_i hN; exact absurd rfl hN
  | succ f ih =>
    intro y1 y2 y3 y4 y5 s d ls hd hl0 hl1 hl2 hl3 hl4 hl5 hN
    rw [lp_X6_unwrap_25] at hN ⊢
    refine e_iload m_X6_unwrap dX6_unwrap_25 hl4 ?_
    refine e_iload_n m_X6_unwrap dX6_unwrap_27 rfl hl2 ?_
    refine e_oieq (t := 47) (a := y4) (b := (y2 + 1)) hN m_X6_unwrap dX6_unwrap_28 (by decide) (fun q24 hN => ?_) (fun q24 hN => ?_)
    · refine e_aload_n m_X6_unwrap dX6_unwrap_47 rfl hl0 rfl ?_
      refine e_getf m_X6_unwrap dX6_unwrap_48 f_RX6_21 (gM_m G) rfl ?_
      refine e_iload_n m_X6_unwrap dX6_unwrap_51 rfl hl3 ?_
      refine e_iload_n m_X6_unwrap dX6_unwrap_52 rfl hl1 ?_
      refine e_ck hN (fun q25 hN => ?_)
      rw [oI_p q25]
      refine e_ck hN (fun q26 hN => ?_)
      refine e_astO (v := (y1 + 1)) (h' := TM h0 (w_pa s (upN (m_pa s) (y3 - 1) (y1 + 1)))) q26 (by decide) m_X6_unwrap dX6_unwrap_53 (gM_pa G) (hpL_set (k := 14) (by decide) (Nat.le_of_ble_eq_true rfl)) ?_
      refine e_st hN (fun s27 hN => ?_)
      refine e_aload_n m_X6_unwrap dX6_unwrap_54 rfl hl0 rfl ?_
      refine e_getf m_X6_unwrap dX6_unwrap_55 f_RX6_30 (gM_m G) rfl ?_
      refine e_iload_n m_X6_unwrap dX6_unwrap_58 rfl hl3 ?_
      refine e_iconst (v := oI 0) m_X6_unwrap dX6_unwrap_59 (by decide) ?_
      refine e_ck hN (fun q28 hN => ?_)
      rw [oI_p q28]
      refine e_ck hN (fun q29 hN => ?_)
      refine e_astO (v := 0) (h' := TM h0 (w_nx s27 (upN (m_nx s27) (y3 - 1) 0))) q29 (by decide) m_X6_unwrap dX6_unwrap_60 (gM_nx G) (hpL_set (k := 17) (by decide) (Nat.le_of_ble_eq_true rfl)) ?_
      refine e_st hN (fun s30 hN => ?_)
      refine e_iload m_X6_unwrap dX6_unwrap_61 hl5 ?_
      refine e_oifge (t := 76) hN m_X6_unwrap dX6_unwrap_63 (by decide) (fun q31 hN => ?_) (fun q31 hN => ?_)
      · refine e_aload_n m_X6_unwrap dX6_unwrap_66 rfl hl0 rfl ?_
        refine e_getf m_X6_unwrap dX6_unwrap_67 f_RX6_24 (gM_m G) rfl ?_
        refine e_iload_n m_X6_unwrap dX6_unwrap_70 rfl hl1 ?_
        refine e_iload_n m_X6_unwrap dX6_unwrap_71 rfl hl3 ?_
        refine e_ck hN (fun q32 hN => ?_)
        refine e_astO (v := y3) (h' := TM h0 (w_fi s30 (upN (m_fi s30) y1 y3))) q32 (by decide) m_X6_unwrap dX6_unwrap_72 (gM_fi G) (hpL_set (k := 15) (by decide) (Nat.le_of_ble_eq_true rfl)) ?_
        refine e_st hN (fun s33 hN => ?_)
        refine e_goto (t := 84) m_X6_unwrap dX6_unwrap_73 (by decide) ?_
        refine e_aload_n m_X6_unwrap dX6_unwrap_84 rfl hl0 rfl ?_
        refine e_getf m_X6_unwrap dX6_unwrap_85 f_RX6_27 (gM_m G) rfl ?_
        refine e_iload_n m_X6_unwrap dX6_unwrap_88 rfl hl1 ?_
        refine e_iload_n m_X6_unwrap dX6_unwrap_89 rfl hl3 ?_
        refine e_ck hN (fun q34 hN => ?_)
        refine e_astO (v := y3) (h' := TM h0 (w_la s33 (upN (m_la s33) y1 y3))) q34 (by decide) m_X6_unwrap dX6_unwrap_90 (gM_la G) (hpL_set (k := 16) (by decide) (Nat.le_of_ble_eq_true rfl)) ?_
        refine e_st hN (fun s35 hN => ?_)
        exact e_ret0 m_X6_unwrap dX6_unwrap_91
      · refine e_aload_n m_X6_unwrap dX6_unwrap_76 rfl hl0 rfl ?_
        refine e_getf m_X6_unwrap dX6_unwrap_77 f_RX6_30 (gM_m G) rfl ?_
        refine e_iload m_X6_unwrap dX6_unwrap_80 hl5 ?_
        refine e_iload_n m_X6_unwrap dX6_unwrap_82 rfl hl3 ?_
        refine e_ck hN (fun q36 hN => ?_)
        rw [oI_p q36]
        refine e_ck hN (fun q37 hN => ?_)
        refine e_astO (v := y3) (h' := TM h0 (w_nx s30 (upN (m_nx s30) (y5 - 1) y3))) q37 (by decide) m_X6_unwrap dX6_unwrap_83 (gM_nx G) (hpL_set (k := 17) (by decide) (Nat.le_of_ble_eq_true rfl)) ?_
        refine e_st hN (fun s38 hN => ?_)
        refine e_aload_n m_X6_unwrap dX6_unwrap_84 rfl hl0 rfl ?_
        refine e_getf m_X6_unwrap dX6_unwrap_85 f_RX6_27 (gM_m G) rfl ?_
        refine e_iload_n m_X6_unwrap dX6_unwrap_88 rfl hl1 ?_
        refine e_iload_n m_X6_unwrap dX6_unwrap_89 rfl hl3 ?_
        refine e_ck hN (fun q39 hN => ?_)
        refine e_astO (v := y3) (h' := TM h0 (w_la s38 (upN (m_la s38) y1 y3))) q39 (by decide) m_X6_unwrap dX6_unwrap_90 (gM_la G) (hpL_set (k := 16) (by decide) (Nat.le_of_ble_eq_true rfl)) ?_
        refine e_st hN (fun s40 hN => ?_)
        exact e_ret0 m_X6_unwrap dX6_unwrap_91
    · refine e_iload m_X6_unwrap dX6_unwrap_31 hl4 ?_
      refine e_istore m_X6_unwrap dX6_unwrap_33 (by decide) rfl ?_
      refine e_aload_n m_X6_unwrap dX6_unwrap_35 rfl (lk_mis (by decide) rfl hl0) rfl ?_
      refine e_getf m_X6_unwrap dX6_unwrap_36 f_RX6_30 (gM_m G) rfl ?_
      refine e_iload m_X6_unwrap dX6_unwrap_39 (lk_mis (by decide) rfl hl4) ?_
      refine e_ck hN (fun q41 hN => ?_)
      rw [oI_p q41]
      refine e_ck hN (fun q42 hN => ?_)
      refine e_aldO q42 (by decide) (Or.inl ⟨rfl, rfl⟩) m_X6_unwrap dX6_unwrap_41 (gM_nx G) ?_
      refine e_istore m_X6_unwrap dX6_unwrap_42 (by decide) rfl ?_
      refine e_goto (t := 25) m_X6_unwrap dX6_unwrap_44 (by decide) ?_
      exact ih y1 y2 y3 (m_nx s (y4 - 1)) ((y4 - 1) + 1) _ _ _ (by omega) (lk_mis (by decide) rfl (lk_mis (by decide) rfl hl0)) (lk_mis (by decide) rfl (lk_mis (by decide) rfl hl1)) (lk_mis (by decide) rfl (lk_mis (by decide) rfl hl2)) (lk_mis (by decide) rfl (lk_mis (by decide) rfl hl3)) lk_hit (lk_mis (by decide) rfl lk_hit) hN
def b_X6_unwrap  (x1 : Nat) (s : Mm) : Rs Mm := ck (x1 < 65536) (ck ((m_la s x1) ≠ 0) (ck (((m_la s x1) - 1) < 65536) (ck (x1 < 65536) (lp_X6_unwrap_25  LF x1 ((m_la s x1) - 1) (m_fi s ((m_la s x1) - 1)) (m_fi s x1) 0 s))))
theorem w_X6_unwrap {xs : Nat → Int32} {L : Nat} {h0 : mm_H} (G : Mg h0) {x1 : Nat} {s : Mm} {d : Nat} (hd : 10 ≤ d) (hN : b_X6_unwrap  x1 s ≠ none) : Rn xs L d 207 [.ref 10, .int (nI x1)] (TM h0 s) (ou eU (TM h0) (b_X6_unwrap  x1 s)) := by
  unfold Rn
  unfold b_X6_unwrap at hN ⊢
  refine e_aload_n m_X6_unwrap dX6_unwrap_0 rfl rfl rfl ?_
  refine e_getf m_X6_unwrap dX6_unwrap_1 f_RX6_27 (gM_m G) rfl ?_
  refine e_iload_n m_X6_unwrap dX6_unwrap_4 rfl rfl ?_
  refine e_ck hN (fun q1 hN => ?_)
  refine e_aldO q1 (by decide) (Or.inl ⟨rfl, rfl⟩) m_X6_unwrap dX6_unwrap_5 (gM_la G) ?_
  refine e_istore_n m_X6_unwrap dX6_unwrap_6 rfl (by decide) rfl ?_
  refine e_aload_n m_X6_unwrap dX6_unwrap_7 rfl rfl rfl ?_
  refine e_getf m_X6_unwrap dX6_unwrap_8 f_RX6_24 (gM_m G) rfl ?_
  refine e_iload_n m_X6_unwrap dX6_unwrap_11 rfl rfl ?_
  refine e_ck hN (fun q2 hN => ?_)
  rw [oI_p q2]
  refine e_ck hN (fun q3 hN => ?_)
  refine e_aldO q3 (by decide) (Or.inl ⟨rfl, rfl⟩) m_X6_unwrap dX6_unwrap_12 (gM_fi G) ?_
  refine e_istore_n m_X6_unwrap dX6_unwrap_13 rfl (by decide) rfl ?_
  refine e_aload_n m_X6_unwrap dX6_unwrap_14 rfl rfl rfl ?_
  refine e_getf m_X6_unwrap dX6_unwrap_15 f_RX6_24 (gM_m G) rfl ?_
  refine e_iload_n m_X6_unwrap dX6_unwrap_18 rfl rfl ?_
  refine e_ck hN (fun q4 hN => ?_)
  refine e_aldO q4 (by decide) (Or.inl ⟨rfl, rfl⟩) m_X6_unwrap dX6_unwrap_19 (gM_fi G) ?_
  refine e_istore m_X6_unwrap dX6_unwrap_20 (by decide) rfl ?_
  refine e_iconst (v := oI 0) m_X6_unwrap dX6_unwrap_22 (by decide) ?_
  refine e_istore m_X6_unwrap dX6_unwrap_23 (by decide) rfl ?_
  exact l_X6_unwrap_25 G LF x1 ((m_la s x1) - 1) (m_fi s ((m_la s x1) - 1)) (m_fi s x1) 0 _ _ _ (by omega) rfl rfl rfl rfl rfl rfl hN

def b_X6_nodes  (s : Mm) : Rs Mm := st1 (w_th s 0) (fun s1 => okR (m_nd s1) s1)
theorem w_X6_nodes {xs : Nat → Int32} {L : Nat} {h0 : mm_H} (G : Mg h0) {s : Mm} {d : Nat} (hd : 10 ≤ d) (hN : b_X6_nodes  s ≠ none) : Rn xs L d 219 [.ref 10] (TM h0 s) (ou eN (TM h0) (b_X6_nodes  s)) := by
  unfold Rn
  unfold b_X6_nodes at hN ⊢
  refine e_aload_n m_X6_nodes dX6_nodes_0 rfl rfl rfl ?_
  refine e_iconst (v := nI 0) m_X6_nodes dX6_nodes_1 (by decide) ?_
  refine e_putf (v := .int (nI 0)) (h' := TM h0 (w_th s 0)) m_X6_nodes dX6_nodes_2 f_RX6_64 (gM_m G) (Nat.le_of_ble_eq_true rfl) (fit_i rfl) rfl (hpL_set (k := 10) (by decide) (Nat.le_of_ble_eq_true rfl)) ?_
  refine e_st hN (fun s1 hN => ?_)
  refine e_aload_n m_X6_nodes dX6_nodes_5 rfl rfl rfl ?_
  refine e_getf m_X6_nodes dX6_nodes_6 f_RX6_366 (gM_m G) rfl ?_
  exact e_reti m_X6_nodes dX6_nodes_9 (Or.inl rfl)

def b_X6_fail  (s : Mm) : Rs Mm := st1 (w_th s 1) (fun s1 => okR 0 s1)
theorem w_X6_fail {xs : Nat → Int32} {L : Nat} {h0 : mm_H} (G : Mg h0) {s : Mm} {d : Nat} (hd : 10 ≤ d) (hN : b_X6_fail  s ≠ none) : Rn xs L d 221 [.ref 10] (TM h0 s) (ou eN (TM h0) (b_X6_fail  s)) := by
  unfold Rn
  unfold b_X6_fail at hN ⊢
  refine e_aload_n m_X6_fail dX6_fail_0 rfl rfl rfl ?_
  refine e_iconst (v := nI 1) m_X6_fail dX6_fail_1 (by decide) ?_
  refine e_putf (v := .int (nI 1)) (h' := TM h0 (w_th s 1)) m_X6_fail dX6_fail_2 f_RX6_64 (gM_m G) (Nat.le_of_ble_eq_true rfl) (fit_i rfl) rfl (hpL_set (k := 10) (by decide) (Nat.le_of_ble_eq_true rfl)) ?_
  refine e_st hN (fun s1 hN => ?_)
  refine e_iconst (v := nI 0) m_X6_fail dX6_fail_5 (by decide) ?_
  exact e_reti m_X6_fail dX6_fail_6 (Or.inl rfl)

def b_X6_pass  (x1 : Nat) (s : Mm) : Rs Mm := bn (b_X6_look  s) (fun v1 s1 => ife v1 x1 (st1 (w_at s1 ((m_at s1) + 1)) (fun s3 => okR 0 s3)) (bn (b_X6_error  s1) (fun v4 s4 => st1 (w_at s4 ((m_at s4) + 1)) (fun s5 => okR 0 s5))))
theorem w_X6_pass {xs : Nat → Int32} {L : Nat} {h0 : mm_H} (G : Mg h0) {x1 : Nat} {s : Mm} {d : Nat} (hd : 11 ≤ d) (hN : b_X6_pass  x1 s ≠ none) : Rn xs L d 130 [.ref 10, .int (nI x1)] (TM h0 s) (ou eU (TM h0) (b_X6_pass  x1 s)) := by
  unfold Rn
  unfold b_X6_pass at hN ⊢
  refine e_aload_n m_X6_pass dX6_pass_0 rfl rfl rfl ?_
  refine e_cvN (as := []) hN m_X6_pass dX6_pass_1 c_RX6_83 (by decide) rfl rfl (gM_m G) rfl (Nat.le_of_ble_eq_true rfl) (Nat.le_of_ble_eq_true rfl) (by omega) (w_X6_look G (by omega)) (fun v1 s1 hN => ?_)
  refine e_iload_n m_X6_pass dX6_pass_4 rfl rfl ?_
  refine e_ieq (t := 12) (a := v1) (b := x1) hN m_X6_pass dX6_pass_5 (by decide) (fun q2 hN => ?_) (fun q2 hN => ?_)
  · refine e_aload_n m_X6_pass dX6_pass_12 rfl rfl rfl ?_
    refine e_dup m_X6_pass dX6_pass_13 rfl ?_
    refine e_getf m_X6_pass dX6_pass_14 f_RX6_77 (gM_m G) rfl ?_
    refine e_iconst (v := nI 1) m_X6_pass dX6_pass_17 (by decide) ?_
    refine e_iaddN m_X6_pass dX6_pass_18 ?_
    refine e_putf (v := .int (nI ((m_at s1) + 1))) (h' := TM h0 (w_at s1 ((m_at s1) + 1))) m_X6_pass dX6_pass_19 f_RX6_77 (gM_m G) (Nat.le_of_ble_eq_true rfl) (fit_i rfl) rfl (hpL_set (k := 10) (by decide) (Nat.le_of_ble_eq_true rfl)) ?_
    refine e_st hN (fun s3 hN => ?_)
    exact e_ret0 m_X6_pass dX6_pass_22
  · refine e_aload_n m_X6_pass dX6_pass_8 rfl rfl rfl ?_
    refine e_cvU (as := []) hN m_X6_pass dX6_pass_9 c_RX6_87 (by decide) rfl rfl (gM_m G) rfl (Nat.le_of_ble_eq_true rfl) (Nat.le_of_ble_eq_true rfl) (by omega) (w_X6_error G (by omega)) (fun v4 s4 hN => ?_)
    refine e_aload_n m_X6_pass dX6_pass_12 rfl rfl rfl ?_
    refine e_dup m_X6_pass dX6_pass_13 rfl ?_
    refine e_getf m_X6_pass dX6_pass_14 f_RX6_77 (gM_m G) rfl ?_
    refine e_iconst (v := nI 1) m_X6_pass dX6_pass_17 (by decide) ?_
    refine e_iaddN m_X6_pass dX6_pass_18 ?_
    refine e_putf (v := .int (nI ((m_at s4) + 1))) (h' := TM h0 (w_at s4 ((m_at s4) + 1))) m_X6_pass dX6_pass_19 f_RX6_77 (gM_m G) (Nat.le_of_ble_eq_true rfl) (fit_i rfl) rfl (hpL_set (k := 10) (by decide) (Nat.le_of_ble_eq_true rfl)) ?_
    refine e_st hN (fun s5 hN => ?_)
    exact e_ret0 m_X6_pass dX6_pass_22

def b_X6_name  (x1 : Nat) (s : Mm) : Rs Mm := bn (b_X6_look  s) (fun v1 s1 => ife v1 1 (bn (b_X6_child x1 5 (m_at s1) s1) (fun v3 s3 => st1 (w_at s3 ((m_at s3) + 1)) (fun s4 => okR v3 s4))) (bn (b_X6_error  s1) (fun v5 s5 => bn (b_X6_child x1 5 (m_at s5) s5) (fun v6 s6 => st1 (w_at s6 ((m_at s6) + 1)) (fun s7 => okR v6 s7)))))
theorem w_X6_name {xs : Nat → Int32} {L : Nat} {h0 : mm_H} (G : Mg h0) {x1 : Nat} {s : Mm} {d : Nat} (hd : 11 ≤ d) (hN : b_X6_name  x1 s ≠ none) : Rn xs L d 133 [.ref 10, .int (nI x1)] (TM h0 s) (ou eN (TM h0) (b_X6_name  x1 s)) := by
  unfold Rn
  unfold b_X6_name at hN ⊢
  refine e_aload_n m_X6_name dX6_name_0 rfl rfl rfl ?_
  refine e_cvN (as := []) hN m_X6_name dX6_name_1 c_RX6_83 (by decide) rfl rfl (gM_m G) rfl (Nat.le_of_ble_eq_true rfl) (Nat.le_of_ble_eq_true rfl) (by omega) (w_X6_look G (by omega)) (fun v1 s1 hN => ?_)
  refine e_iconst (v := nI 1) m_X6_name dX6_name_4 (by decide) ?_
  refine e_ieq (t := 12) (a := v1) (b := 1) hN m_X6_name dX6_name_5 (by decide) (fun q2 hN => ?_) (fun q2 hN => ?_)
  · refine e_aload_n m_X6_name dX6_name_12 rfl rfl rfl ?_
    refine e_iload_n m_X6_name dX6_name_13 rfl rfl ?_
    refine e_iconst (v := nI 5) m_X6_name dX6_name_14 (by decide) ?_
    refine e_aload_n m_X6_name dX6_name_15 rfl rfl rfl ?_
    refine e_getf m_X6_name dX6_name_16 f_RX6_77 (gM_m G) rfl ?_
    refine e_cvN (as := [.int (nI x1), .int (nI 5), .int (nI (m_at s1))]) hN m_X6_name dX6_name_19 c_RX6_99 (by decide) rfl rfl (gM_m G) rfl (Nat.le_of_ble_eq_true rfl) (Nat.le_of_ble_eq_true rfl) (by omega) (w_X6_child G (by omega)) (fun v3 s3 hN => ?_)
    refine e_istore_n m_X6_name dX6_name_22 rfl (by decide) rfl ?_
    refine e_aload_n m_X6_name dX6_name_23 rfl rfl rfl ?_
    refine e_dup m_X6_name dX6_name_24 rfl ?_
    refine e_getf m_X6_name dX6_name_25 f_RX6_77 (gM_m G) rfl ?_
    refine e_iconst (v := nI 1) m_X6_name dX6_name_28 (by decide) ?_
    refine e_iaddN m_X6_name dX6_name_29 ?_
    refine e_putf (v := .int (nI ((m_at s3) + 1))) (h' := TM h0 (w_at s3 ((m_at s3) + 1))) m_X6_name dX6_name_30 f_RX6_77 (gM_m G) (Nat.le_of_ble_eq_true rfl) (fit_i rfl) rfl (hpL_set (k := 10) (by decide) (Nat.le_of_ble_eq_true rfl)) ?_
    refine e_st hN (fun s4 hN => ?_)
    refine e_iload_n m_X6_name dX6_name_33 rfl rfl ?_
    exact e_reti m_X6_name dX6_name_34 (Or.inl rfl)
  · refine e_aload_n m_X6_name dX6_name_8 rfl rfl rfl ?_
    refine e_cvU (as := []) hN m_X6_name dX6_name_9 c_RX6_87 (by decide) rfl rfl (gM_m G) rfl (Nat.le_of_ble_eq_true rfl) (Nat.le_of_ble_eq_true rfl) (by omega) (w_X6_error G (by omega)) (fun v5 s5 hN => ?_)
    refine e_aload_n m_X6_name dX6_name_12 rfl rfl rfl ?_
    refine e_iload_n m_X6_name dX6_name_13 rfl rfl ?_
    refine e_iconst (v := nI 5) m_X6_name dX6_name_14 (by decide) ?_
    refine e_aload_n m_X6_name dX6_name_15 rfl rfl rfl ?_
    refine e_getf m_X6_name dX6_name_16 f_RX6_77 (gM_m G) rfl ?_
    refine e_cvN (as := [.int (nI x1), .int (nI 5), .int (nI (m_at s5))]) hN m_X6_name dX6_name_19 c_RX6_99 (by decide) rfl rfl (gM_m G) rfl (Nat.le_of_ble_eq_true rfl) (Nat.le_of_ble_eq_true rfl) (by omega) (w_X6_child G (by omega)) (fun v6 s6 hN => ?_)
    refine e_istore_n m_X6_name dX6_name_22 rfl (by decide) rfl ?_
    refine e_aload_n m_X6_name dX6_name_23 rfl rfl rfl ?_
    refine e_dup m_X6_name dX6_name_24 rfl ?_
    refine e_getf m_X6_name dX6_name_25 f_RX6_77 (gM_m G) rfl ?_
    refine e_iconst (v := nI 1) m_X6_name dX6_name_28 (by decide) ?_
    refine e_iaddN m_X6_name dX6_name_29 ?_
    refine e_putf (v := .int (nI ((m_at s6) + 1))) (h' := TM h0 (w_at s6 ((m_at s6) + 1))) m_X6_name dX6_name_30 f_RX6_77 (gM_m G) (Nat.le_of_ble_eq_true rfl) (fit_i rfl) rfl (hpL_set (k := 10) (by decide) (Nat.le_of_ble_eq_true rfl)) ?_
    refine e_st hN (fun s7 hN => ?_)
    refine e_iload_n m_X6_name dX6_name_33 rfl rfl ?_
    exact e_reti m_X6_name dX6_name_34 (Or.inl rfl)

def b_X6_expression  (x1 : Nat) (x2 : Nat) (x3 : Nat) (s : Mm) : Rs Mm := bn (b_X6_push 2 x1 (x2 ||| (x3 * 256)) s) (fun v1 s1 => bn (b_X6_push 3 x1 x2 s1) (fun v2 s2 => okR 0 s2))
theorem w_X6_expression {xs : Nat → Int32} {L : Nat} {h0 : mm_H} (G : Mg h0) {x1 : Nat} {x2 : Nat} {x3 : Nat} {s : Mm} {d : Nat} (hd : 11 ≤ d) (hN : b_X6_expression  x1 x2 x3 s ≠ none) : Rn xs L d 139 [.ref 10, .int (nI x1), .int (nI x2), .int (nI x3)] (TM h0 s) (ou eU (TM h0) (b_X6_expression  x1 x2 x3 s)) := by
  unfold Rn
  unfold b_X6_expression at hN ⊢
  refine e_aload_n m_X6_expression dX6_expression_0 rfl rfl rfl ?_
  refine e_iconst (v := nI 2) m_X6_expression dX6_expression_1 (by decide) ?_
  refine e_iload_n m_X6_expression dX6_expression_2 rfl rfl ?_
  refine e_iload_n m_X6_expression dX6_expression_3 rfl rfl ?_
  refine e_iload_n m_X6_expression dX6_expression_4 rfl rfl ?_
  refine e_bipush (v := nI 8) m_X6_expression dX6_expression_5 (by decide) ?_
  refine e_ishl8 m_X6_expression dX6_expression_7 ?_
  refine e_iorN m_X6_expression dX6_expression_8 ?_
  refine e_cvU (as := [.int (nI 2), .int (nI x1), .int (nI (x2 ||| (x3 * 256)))]) hN m_X6_expression dX6_expression_9 c_RX6_106 (by decide) rfl rfl (gM_m G) rfl (Nat.le_of_ble_eq_true rfl) (Nat.le_of_ble_eq_true rfl) (by omega) (w_X6_push G (by omega)) (fun v1 s1 hN => ?_)
  refine e_aload_n m_X6_expression dX6_expression_12 rfl rfl rfl ?_
  refine e_iconst (v := nI 3) m_X6_expression dX6_expression_13 (by decide) ?_
  refine e_iload_n m_X6_expression dX6_expression_14 rfl rfl ?_
  refine e_iload_n m_X6_expression dX6_expression_15 rfl rfl ?_
  refine e_cvU (as := [.int (nI 3), .int (nI x1), .int (nI x2)]) hN m_X6_expression dX6_expression_16 c_RX6_106 (by decide) rfl rfl (gM_m G) rfl (Nat.le_of_ble_eq_true rfl) (Nat.le_of_ble_eq_true rfl) (by omega) (w_X6_push G (by omega)) (fun v2 s2 hN => ?_)
  exact e_ret0 m_X6_expression dX6_expression_19

def b_X6_more  (s : Mm) : Rs Mm := st1 (w_dp s ((m_dp s) + 1)) (fun s1 => ifl 30 (m_dp s1) (bn (b_X6_error  s1) (fun v3 s3 => okR 0 s3)) (okR 0 s1))
theorem w_X6_more {xs : Nat → Int32} {L : Nat} {h0 : mm_H} (G : Mg h0) {s : Mm} {d : Nat} (hd : 11 ≤ d) (hN : b_X6_more  s ≠ none) : Rn xs L d 143 [.ref 10] (TM h0 s) (ou eU (TM h0) (b_X6_more  s)) := by
  unfold Rn
  unfold b_X6_more at hN ⊢
  refine e_aload_n m_X6_more dX6_more_0 rfl rfl rfl ?_
  refine e_dup m_X6_more dX6_more_1 rfl ?_
  refine e_getf m_X6_more dX6_more_2 f_RX6_90 (gM_m G) rfl ?_
  refine e_iconst (v := nI 1) m_X6_more dX6_more_5 (by decide) ?_
  refine e_iaddN m_X6_more dX6_more_6 ?_
  refine e_putf (v := .int (nI ((m_dp s) + 1))) (h' := TM h0 (w_dp s ((m_dp s) + 1))) m_X6_more dX6_more_7 f_RX6_90 (gM_m G) (Nat.le_of_ble_eq_true rfl) (fit_i rfl) rfl (hpL_set (k := 10) (by decide) (Nat.le_of_ble_eq_true rfl)) ?_
  refine e_st hN (fun s1 hN => ?_)
  refine e_aload_n m_X6_more dX6_more_10 rfl rfl rfl ?_
  refine e_getf m_X6_more dX6_more_11 f_RX6_90 (gM_m G) rfl ?_
  refine e_bipush (v := nI 30) m_X6_more dX6_more_14 (by decide) ?_
  refine e_ile (t := 23) (a := (m_dp s1)) (b := 30) hN m_X6_more dX6_more_16 (by decide) (fun q2 hN => ?_) (fun q2 hN => ?_)
  · refine e_aload_n m_X6_more dX6_more_19 rfl rfl rfl ?_
    refine e_cvU (as := []) hN m_X6_more dX6_more_20 c_RX6_87 (by decide) rfl rfl (gM_m G) rfl (Nat.le_of_ble_eq_true rfl) (Nat.le_of_ble_eq_true rfl) (by omega) (w_X6_error G (by omega)) (fun v3 s3 hN => ?_)
    exact e_ret0 m_X6_more dX6_more_23
  · exact e_ret0 m_X6_more dX6_more_23

def b_X6_slice  (x1 : Nat) (s : Mm) : Rs Mm := ck (x1 < 65536) (st1 (w_wh s (upN (m_wh s) x1 85)) (fun s2 => bn (b_X6_child x1 86 (m_at s2) s2) (fun v3 s3 => st1 (w_at s3 ((m_at s3) + 1)) (fun s4 => bn (b_X6_push 12 x1 0 s4) (fun v5 s5 => okR 0 s5)))))
theorem w_X6_slice {xs : Nat → Int32} {L : Nat} {h0 : mm_H} (G : Mg h0) {x1 : Nat} {s : Mm} {d : Nat} (hd : 11 ≤ d) (hN : b_X6_slice  x1 s ≠ none) : Rn xs L d 148 [.ref 10, .int (nI x1)] (TM h0 s) (ou eU (TM h0) (b_X6_slice  x1 s)) := by
  unfold Rn
  unfold b_X6_slice at hN ⊢
  refine e_aload_n m_X6_slice dX6_slice_0 rfl rfl rfl ?_
  refine e_getf m_X6_slice dX6_slice_1 f_RX6_14 (gM_m G) rfl ?_
  refine e_iload_n m_X6_slice dX6_slice_4 rfl rfl ?_
  refine e_bipush (v := nI 85) m_X6_slice dX6_slice_5 (by decide) ?_
  refine e_ck hN (fun q1 hN => ?_)
  refine e_astN (v := 85) (h' := TM h0 (w_wh s (upN (m_wh s) x1 85))) q1 (by decide) m_X6_slice dX6_slice_7 (gM_wh G) (hpL_set (k := 12) (by decide) (Nat.le_of_ble_eq_true rfl)) ?_
  refine e_st hN (fun s2 hN => ?_)
  refine e_aload_n m_X6_slice dX6_slice_8 rfl rfl rfl ?_
  refine e_iload_n m_X6_slice dX6_slice_9 rfl rfl ?_
  refine e_bipush (v := nI 86) m_X6_slice dX6_slice_10 (by decide) ?_
  refine e_aload_n m_X6_slice dX6_slice_12 rfl rfl rfl ?_
  refine e_getf m_X6_slice dX6_slice_13 f_RX6_77 (gM_m G) rfl ?_
  refine e_cvN (as := [.int (nI x1), .int (nI 86), .int (nI (m_at s2))]) hN m_X6_slice dX6_slice_16 c_RX6_99 (by decide) rfl rfl (gM_m G) rfl (Nat.le_of_ble_eq_true rfl) (Nat.le_of_ble_eq_true rfl) (by omega) (w_X6_child G (by omega)) (fun v3 s3 hN => ?_)
  refine e_pop m_X6_slice dX6_slice_19 rfl ?_
  refine e_aload_n m_X6_slice dX6_slice_20 rfl rfl rfl ?_
  refine e_dup m_X6_slice dX6_slice_21 rfl ?_
  refine e_getf m_X6_slice dX6_slice_22 f_RX6_77 (gM_m G) rfl ?_
  refine e_iconst (v := nI 1) m_X6_slice dX6_slice_25 (by decide) ?_
  refine e_iaddN m_X6_slice dX6_slice_26 ?_
  refine e_putf (v := .int (nI ((m_at s3) + 1))) (h' := TM h0 (w_at s3 ((m_at s3) + 1))) m_X6_slice dX6_slice_27 f_RX6_77 (gM_m G) (Nat.le_of_ble_eq_true rfl) (fit_i rfl) rfl (hpL_set (k := 10) (by decide) (Nat.le_of_ble_eq_true rfl)) ?_
  refine e_st hN (fun s4 hN => ?_)
  refine e_aload_n m_X6_slice dX6_slice_30 rfl rfl rfl ?_
  refine e_bipush (v := nI 12) m_X6_slice dX6_slice_31 (by decide) ?_
  refine e_iload_n m_X6_slice dX6_slice_33 rfl rfl ?_
  refine e_iconst (v := nI 0) m_X6_slice dX6_slice_34 (by decide) ?_
  refine e_cvU (as := [.int (nI 12), .int (nI x1), .int (nI 0)]) hN m_X6_slice dX6_slice_35 c_RX6_106 (by decide) rfl rfl (gM_m G) rfl (Nat.le_of_ble_eq_true rfl) (Nat.le_of_ble_eq_true rfl) (by omega) (w_X6_push G (by omega)) (fun v5 s5 hN => ?_)
  exact e_ret0 m_X6_slice dX6_slice_38

def b_X6_elements  (x1 : Nat) (s : Mm) : Rs Mm := bn (b_X6_look  s) (fun v1 s1 => ife v1 83 (st1 (w_at s1 ((m_at s1) + 1)) (fun s3 => ck ((m_dp s3) ≠ 0) (st1 (w_dp s3 ((m_dp s3) - 1)) (fun s5 => okR 0 s5)))) (bn (b_X6_child x1 92 (m_at s1) s1) (fun v6 s6 => bn (b_X6_push 15 x1 0 s6) (fun v7 s7 => bn (b_X6_push 16 v6 0 s7) (fun v8 s8 => bn (b_X6_push 17 v6 0 s8) (fun v9 s9 => okR 0 s9))))))
theorem w_X6_elements {xs : Nat → Int32} {L : Nat} {h0 : mm_H} (G : Mg h0) {x1 : Nat} {s : Mm} {d : Nat} (hd : 11 ≤ d) (hN : b_X6_elements  x1 s ≠ none) : Rn xs L d 156 [.ref 10, .int (nI x1)] (TM h0 s) (ou eU (TM h0) (b_X6_elements  x1 s)) := by
  unfold Rn
  unfold b_X6_elements at hN ⊢
  refine e_aload_n m_X6_elements dX6_elements_0 rfl rfl rfl ?_
  refine e_cvN (as := []) hN m_X6_elements dX6_elements_1 c_RX6_83 (by decide) rfl rfl (gM_m G) rfl (Nat.le_of_ble_eq_true rfl) (Nat.le_of_ble_eq_true rfl) (by omega) (w_X6_look G (by omega)) (fun v1 s1 hN => ?_)
  refine e_bipush (v := nI 83) m_X6_elements dX6_elements_4 (by decide) ?_
  refine e_ine (t := 30) (a := v1) (b := 83) hN m_X6_elements dX6_elements_6 (by decide) (fun q2 hN => ?_) (fun q2 hN => ?_)
  · refine e_aload_n m_X6_elements dX6_elements_9 rfl rfl rfl ?_
    refine e_dup m_X6_elements dX6_elements_10 rfl ?_
    refine e_getf m_X6_elements dX6_elements_11 f_RX6_77 (gM_m G) rfl ?_
    refine e_iconst (v := nI 1) m_X6_elements dX6_elements_14 (by decide) ?_
    refine e_iaddN m_X6_elements dX6_elements_15 ?_
    refine e_putf (v := .int (nI ((m_at s1) + 1))) (h' := TM h0 (w_at s1 ((m_at s1) + 1))) m_X6_elements dX6_elements_16 f_RX6_77 (gM_m G) (Nat.le_of_ble_eq_true rfl) (fit_i rfl) rfl (hpL_set (k := 10) (by decide) (Nat.le_of_ble_eq_true rfl)) ?_
    refine e_st hN (fun s3 hN => ?_)
    refine e_aload_n m_X6_elements dX6_elements_19 rfl rfl rfl ?_
    refine e_dup m_X6_elements dX6_elements_20 rfl ?_
    refine e_getf m_X6_elements dX6_elements_21 f_RX6_90 (gM_m G) rfl ?_
    refine e_iconst (v := nI 1) m_X6_elements dX6_elements_24 (by decide) ?_
    refine e_isubO m_X6_elements dX6_elements_25 ?_
    refine e_ck hN (fun q4 hN => ?_)
    rw [oI_p q4]
    refine e_putf (v := .int (nI ((m_dp s3) - 1))) (h' := TM h0 (w_dp s3 ((m_dp s3) - 1))) m_X6_elements dX6_elements_26 f_RX6_90 (gM_m G) (Nat.le_of_ble_eq_true rfl) (fit_i rfl) rfl (hpL_set (k := 10) (by decide) (Nat.le_of_ble_eq_true rfl)) ?_
    refine e_st hN (fun s5 hN => ?_)
    exact e_ret0 m_X6_elements dX6_elements_29
  · refine e_aload_n m_X6_elements dX6_elements_30 rfl rfl rfl ?_
    refine e_iload_n m_X6_elements dX6_elements_31 rfl rfl ?_
    refine e_bipush (v := nI 92) m_X6_elements dX6_elements_32 (by decide) ?_
    refine e_aload_n m_X6_elements dX6_elements_34 rfl rfl rfl ?_
    refine e_getf m_X6_elements dX6_elements_35 f_RX6_77 (gM_m G) rfl ?_
    refine e_cvN (as := [.int (nI x1), .int (nI 92), .int (nI (m_at s1))]) hN m_X6_elements dX6_elements_38 c_RX6_99 (by decide) rfl rfl (gM_m G) rfl (Nat.le_of_ble_eq_true rfl) (Nat.le_of_ble_eq_true rfl) (by omega) (w_X6_child G (by omega)) (fun v6 s6 hN => ?_)
    refine e_istore_n m_X6_elements dX6_elements_41 rfl (by decide) rfl ?_
    refine e_aload_n m_X6_elements dX6_elements_42 rfl rfl rfl ?_
    refine e_bipush (v := nI 15) m_X6_elements dX6_elements_43 (by decide) ?_
    refine e_iload_n m_X6_elements dX6_elements_45 rfl rfl ?_
    refine e_iconst (v := nI 0) m_X6_elements dX6_elements_46 (by decide) ?_
    refine e_cvU (as := [.int (nI 15), .int (nI x1), .int (nI 0)]) hN m_X6_elements dX6_elements_47 c_RX6_106 (by decide) rfl rfl (gM_m G) rfl (Nat.le_of_ble_eq_true rfl) (Nat.le_of_ble_eq_true rfl) (by omega) (w_X6_push G (by omega)) (fun v7 s7 hN => ?_)
    refine e_aload_n m_X6_elements dX6_elements_50 rfl rfl rfl ?_
    refine e_bipush (v := nI 16) m_X6_elements dX6_elements_51 (by decide) ?_
    refine e_iload_n m_X6_elements dX6_elements_53 rfl rfl ?_
    refine e_iconst (v := nI 0) m_X6_elements dX6_elements_54 (by decide) ?_
    refine e_cvU (as := [.int (nI 16), .int (nI v6), .int (nI 0)]) hN m_X6_elements dX6_elements_55 c_RX6_106 (by decide) rfl rfl (gM_m G) rfl (Nat.le_of_ble_eq_true rfl) (Nat.le_of_ble_eq_true rfl) (by omega) (w_X6_push G (by omega)) (fun v8 s8 hN => ?_)
    refine e_aload_n m_X6_elements dX6_elements_58 rfl rfl rfl ?_
    refine e_bipush (v := nI 17) m_X6_elements dX6_elements_59 (by decide) ?_
    refine e_iload_n m_X6_elements dX6_elements_61 rfl rfl ?_
    refine e_iconst (v := nI 0) m_X6_elements dX6_elements_62 (by decide) ?_
    refine e_cvU (as := [.int (nI 17), .int (nI v6), .int (nI 0)]) hN m_X6_elements dX6_elements_63 c_RX6_106 (by decide) rfl rfl (gM_m G) rfl (Nat.le_of_ble_eq_true rfl) (Nat.le_of_ble_eq_true rfl) (by omega) (w_X6_push G (by omega)) (fun v9 s9 hN => ?_)
    exact e_ret0 m_X6_elements dX6_elements_66

def b_X6_keyed  (x1 : Nat) (s : Mm) : Rs Mm := bn (b_X6_look  s) (fun v1 s1 => ife v1 87 (st1 (w_at s1 ((m_at s1) + 1)) (fun s3 => bn (b_X6_push 17 x1 0 s3) (fun v4 s4 => okR 0 s4))) (okR 0 s1))
theorem w_X6_keyed {xs : Nat → Int32} {L : Nat} {h0 : mm_H} (G : Mg h0) {x1 : Nat} {s : Mm} {d : Nat} (hd : 11 ≤ d) (hN : b_X6_keyed  x1 s ≠ none) : Rn xs L d 158 [.ref 10, .int (nI x1)] (TM h0 s) (ou eU (TM h0) (b_X6_keyed  x1 s)) := by
  unfold Rn
  unfold b_X6_keyed at hN ⊢
  refine e_aload_n m_X6_keyed dX6_keyed_0 rfl rfl rfl ?_
  refine e_cvN (as := []) hN m_X6_keyed dX6_keyed_1 c_RX6_83 (by decide) rfl rfl (gM_m G) rfl (Nat.le_of_ble_eq_true rfl) (Nat.le_of_ble_eq_true rfl) (by omega) (w_X6_look G (by omega)) (fun v1 s1 hN => ?_)
  refine e_bipush (v := nI 87) m_X6_keyed dX6_keyed_4 (by decide) ?_
  refine e_ieq (t := 10) (a := v1) (b := 87) hN m_X6_keyed dX6_keyed_6 (by decide) (fun q2 hN => ?_) (fun q2 hN => ?_)
  · refine e_aload_n m_X6_keyed dX6_keyed_10 rfl rfl rfl ?_
    refine e_dup m_X6_keyed dX6_keyed_11 rfl ?_
    refine e_getf m_X6_keyed dX6_keyed_12 f_RX6_77 (gM_m G) rfl ?_
    refine e_iconst (v := nI 1) m_X6_keyed dX6_keyed_15 (by decide) ?_
    refine e_iaddN m_X6_keyed dX6_keyed_16 ?_
    refine e_putf (v := .int (nI ((m_at s1) + 1))) (h' := TM h0 (w_at s1 ((m_at s1) + 1))) m_X6_keyed dX6_keyed_17 f_RX6_77 (gM_m G) (Nat.le_of_ble_eq_true rfl) (fit_i rfl) rfl (hpL_set (k := 10) (by decide) (Nat.le_of_ble_eq_true rfl)) ?_
    refine e_st hN (fun s3 hN => ?_)
    refine e_aload_n m_X6_keyed dX6_keyed_20 rfl rfl rfl ?_
    refine e_bipush (v := nI 17) m_X6_keyed dX6_keyed_21 (by decide) ?_
    refine e_iload_n m_X6_keyed dX6_keyed_23 rfl rfl ?_
    refine e_iconst (v := nI 0) m_X6_keyed dX6_keyed_24 (by decide) ?_
    refine e_cvU (as := [.int (nI 17), .int (nI x1), .int (nI 0)]) hN m_X6_keyed dX6_keyed_25 c_RX6_106 (by decide) rfl rfl (gM_m G) rfl (Nat.le_of_ble_eq_true rfl) (Nat.le_of_ble_eq_true rfl) (by omega) (w_X6_push G (by omega)) (fun v4 s4 hN => ?_)
    exact e_ret0 m_X6_keyed dX6_keyed_28
  · exact e_ret0 m_X6_keyed dX6_keyed_9

def b_X6_signature  (x1 : Nat) (s : Mm) : Rs Mm := bn (b_X6_look  s) (fun v1 s1 => ife v1 78 (bn (b_X6_child x1 14 (m_at s1) s1) (fun v3 s3 => bn (b_X6_push 22 v3 0 s3) (fun v4 s4 => bn (b_X6_push 23 v3 0 s4) (fun v5 s5 => okR 0 s5)))) (bn (b_X6_error  s1) (fun v6 s6 => okR 0 s6)))
theorem w_X6_signature {xs : Nat → Int32} {L : Nat} {h0 : mm_H} (G : Mg h0) {x1 : Nat} {s : Mm} {d : Nat} (hd : 11 ≤ d) (hN : b_X6_signature  x1 s ≠ none) : Rn xs L d 166 [.ref 10, .int (nI x1)] (TM h0 s) (ou eU (TM h0) (b_X6_signature  x1 s)) := by
  unfold Rn
  unfold b_X6_signature at hN ⊢
  refine e_aload_n m_X6_signature dX6_signature_0 rfl rfl rfl ?_
  refine e_cvN (as := []) hN m_X6_signature dX6_signature_1 c_RX6_83 (by decide) rfl rfl (gM_m G) rfl (Nat.le_of_ble_eq_true rfl) (Nat.le_of_ble_eq_true rfl) (by omega) (w_X6_look G (by omega)) (fun v1 s1 hN => ?_)
  refine e_bipush (v := nI 78) m_X6_signature dX6_signature_4 (by decide) ?_
  refine e_ieq (t := 14) (a := v1) (b := 78) hN m_X6_signature dX6_signature_6 (by decide) (fun q2 hN => ?_) (fun q2 hN => ?_)
  · refine e_aload_n m_X6_signature dX6_signature_14 rfl rfl rfl ?_
    refine e_iload_n m_X6_signature dX6_signature_15 rfl rfl ?_
    refine e_bipush (v := nI 14) m_X6_signature dX6_signature_16 (by decide) ?_
    refine e_aload_n m_X6_signature dX6_signature_18 rfl rfl rfl ?_
    refine e_getf m_X6_signature dX6_signature_19 f_RX6_77 (gM_m G) rfl ?_
    refine e_cvN (as := [.int (nI x1), .int (nI 14), .int (nI (m_at s1))]) hN m_X6_signature dX6_signature_22 c_RX6_99 (by decide) rfl rfl (gM_m G) rfl (Nat.le_of_ble_eq_true rfl) (Nat.le_of_ble_eq_true rfl) (by omega) (w_X6_child G (by omega)) (fun v3 s3 hN => ?_)
    refine e_istore_n m_X6_signature dX6_signature_25 rfl (by decide) rfl ?_
    refine e_aload_n m_X6_signature dX6_signature_26 rfl rfl rfl ?_
    refine e_bipush (v := nI 22) m_X6_signature dX6_signature_27 (by decide) ?_
    refine e_iload_n m_X6_signature dX6_signature_29 rfl rfl ?_
    refine e_iconst (v := nI 0) m_X6_signature dX6_signature_30 (by decide) ?_
    refine e_cvU (as := [.int (nI 22), .int (nI v3), .int (nI 0)]) hN m_X6_signature dX6_signature_31 c_RX6_106 (by decide) rfl rfl (gM_m G) rfl (Nat.le_of_ble_eq_true rfl) (Nat.le_of_ble_eq_true rfl) (by omega) (w_X6_push G (by omega)) (fun v4 s4 hN => ?_)
    refine e_aload_n m_X6_signature dX6_signature_34 rfl rfl rfl ?_
    refine e_bipush (v := nI 23) m_X6_signature dX6_signature_35 (by decide) ?_
    refine e_iload_n m_X6_signature dX6_signature_37 rfl rfl ?_
    refine e_iconst (v := nI 0) m_X6_signature dX6_signature_38 (by decide) ?_
    refine e_cvU (as := [.int (nI 23), .int (nI v3), .int (nI 0)]) hN m_X6_signature dX6_signature_39 c_RX6_106 (by decide) rfl rfl (gM_m G) rfl (Nat.le_of_ble_eq_true rfl) (Nat.le_of_ble_eq_true rfl) (by omega) (w_X6_push G (by omega)) (fun v5 s5 hN => ?_)
    exact e_ret0 m_X6_signature dX6_signature_42
  · refine e_aload_n m_X6_signature dX6_signature_9 rfl rfl rfl ?_
    refine e_cvU (as := []) hN m_X6_signature dX6_signature_10 c_RX6_87 (by decide) rfl rfl (gM_m G) rfl (Nat.le_of_ble_eq_true rfl) (Nat.le_of_ble_eq_true rfl) (by omega) (w_X6_error G (by omega)) (fun v6 s6 hN => ?_)
    exact e_ret0 m_X6_signature dX6_signature_13

def b_X6_result  (x1 : Nat) (s : Mm) : Rs Mm := bn (b_X6_look  s) (fun v1 s1 => ife v1 78 (bn (b_X6_push 23 x1 0 s1) (fun v3 s3 => okR 0 s3)) (ck (v1 < 2147483648) (ifz (f_X6_beginsType v1) (okR 0 s1) (ife v1 64 (okR 0 s1) (bn (b_X6_push 18 x1 0 s1) (fun v7 s7 => okR 0 s7))))))
theorem w_X6_result {xs : Nat → Int32} {L : Nat} {h0 : mm_H} (G : Mg h0) {x1 : Nat} {s : Mm} {d : Nat} (hd : 11 ≤ d) (hN : b_X6_result  x1 s ≠ none) : Rn xs L d 167 [.ref 10, .int (nI x1)] (TM h0 s) (ou eU (TM h0) (b_X6_result  x1 s)) := by
  unfold Rn
  unfold b_X6_result at hN ⊢
  refine e_aload_n m_X6_result dX6_result_0 rfl rfl rfl ?_
  refine e_cvN (as := []) hN m_X6_result dX6_result_1 c_RX6_83 (by decide) rfl rfl (gM_m G) rfl (Nat.le_of_ble_eq_true rfl) (Nat.le_of_ble_eq_true rfl) (by omega) (w_X6_look G (by omega)) (fun v1 s1 hN => ?_)
  refine e_istore_n m_X6_result dX6_result_4 rfl (by decide) rfl ?_
  refine e_iload_n m_X6_result dX6_result_5 rfl rfl ?_
  refine e_bipush (v := nI 78) m_X6_result dX6_result_6 (by decide) ?_
  refine e_ine (t := 22) (a := v1) (b := 78) hN m_X6_result dX6_result_8 (by decide) (fun q2 hN => ?_) (fun q2 hN => ?_)
  · refine e_aload_n m_X6_result dX6_result_11 rfl rfl rfl ?_
    refine e_bipush (v := nI 23) m_X6_result dX6_result_12 (by decide) ?_
    refine e_iload_n m_X6_result dX6_result_14 rfl rfl ?_
    refine e_iconst (v := nI 0) m_X6_result dX6_result_15 (by decide) ?_
    refine e_cvU (as := [.int (nI 23), .int (nI x1), .int (nI 0)]) hN m_X6_result dX6_result_16 c_RX6_106 (by decide) rfl rfl (gM_m G) rfl (Nat.le_of_ble_eq_true rfl) (Nat.le_of_ble_eq_true rfl) (by omega) (w_X6_push G (by omega)) (fun v3 s3 hN => ?_)
    refine e_goto (t := 43) m_X6_result dX6_result_19 (by decide) ?_
    exact e_ret0 m_X6_result dX6_result_43
  · refine e_iload_n m_X6_result dX6_result_22 rfl rfl ?_
    refine e_ck hN (fun q4 hN => ?_)
    refine e_cs (as := [_]) m_X6_result dX6_result_23 c_RX6_150 (by decide) rfl rfl (Nat.le_of_ble_eq_true rfl) (Nat.le_of_ble_eq_true rfl) (by omega) (z_X6_beginsType q4 (by omega)) ?_
    refine e_ifeq (t := 43) hN m_X6_result dX6_result_26 (by decide) (fun q5 hN => ?_) (fun q5 hN => ?_)
    · exact e_ret0 m_X6_result dX6_result_43
    · refine e_iload_n m_X6_result dX6_result_29 rfl rfl ?_
      refine e_bipush (v := nI 64) m_X6_result dX6_result_30 (by decide) ?_
      refine e_ieq (t := 43) (a := v1) (b := 64) hN m_X6_result dX6_result_32 (by decide) (fun q6 hN => ?_) (fun q6 hN => ?_)
      · exact e_ret0 m_X6_result dX6_result_43
      · refine e_aload_n m_X6_result dX6_result_35 rfl rfl rfl ?_
        refine e_bipush (v := nI 18) m_X6_result dX6_result_36 (by decide) ?_
        refine e_iload_n m_X6_result dX6_result_38 rfl rfl ?_
        refine e_iconst (v := nI 0) m_X6_result dX6_result_39 (by decide) ?_
        refine e_cvU (as := [.int (nI 18), .int (nI x1), .int (nI 0)]) hN m_X6_result dX6_result_40 c_RX6_106 (by decide) rfl rfl (gM_m G) rfl (Nat.le_of_ble_eq_true rfl) (Nat.le_of_ble_eq_true rfl) (by omega) (w_X6_push G (by omega)) (fun v7 s7 hN => ?_)
        exact e_ret0 m_X6_result dX6_result_43

def b_X6_paramMore  (x1 : Nat) (s : Mm) : Rs Mm := bn (b_X6_look  s) (fun v1 s1 => ife v1 84 (st1 (w_at s1 ((m_at s1) + 1)) (fun s3 => bn (b_X6_push 24 x1 0 s3) (fun v4 s4 => okR 0 s4))) (bn (b_X6_look  s1) (fun v5 s5 => ife v5 79 (ck ((m_rw s) ≠ 0) (ck (((m_rw s) - 1) < 64) (ifz (m_pl s5 ((m_rw s) - 1)) (ck (((m_rw s) - 1) < 64) (ifz (m_pe s5 ((m_rw s) - 1)) (bn (b_X6_push 24 x1 0 s5) (fun v12 s12 => okR 0 s12)) (bn (b_X6_error  s5) (fun v13 s13 => bn (b_X6_push 24 x1 0 s13) (fun v14 s14 => okR 0 s14))))) (bn (b_X6_push 24 x1 0 s5) (fun v15 s15 => okR 0 s15))))) (bn (b_X6_error  s5) (fun v16 s16 => bn (b_X6_push 24 x1 0 s16) (fun v17 s17 => okR 0 s17))))))
theorem w_X6_paramMore {xs : Nat → Int32} {L : Nat} {h0 : mm_H} (G : Mg h0) {x1 : Nat} {s : Mm} {d : Nat} (hd : 11 ≤ d) (hN : b_X6_paramMore  x1 s ≠ none) : Rn xs L d 170 [.ref 10, .int (nI x1)] (TM h0 s) (ou eU (TM h0) (b_X6_paramMore  x1 s)) := by
  unfold Rn
  unfold b_X6_paramMore at hN ⊢
  refine e_aload_n m_X6_paramMore dX6_paramMore_0 rfl rfl rfl ?_
  refine e_getf m_X6_paramMore dX6_paramMore_1 f_RX6_156 (gM_m G) rfl ?_
  refine e_iconst (v := nI 1) m_X6_paramMore dX6_paramMore_4 (by decide) ?_
  refine e_isubO m_X6_paramMore dX6_paramMore_5 ?_
  refine e_istore_n m_X6_paramMore dX6_paramMore_6 rfl (by decide) rfl ?_
  refine e_aload_n m_X6_paramMore dX6_paramMore_7 rfl rfl rfl ?_
  refine e_cvN (as := []) hN m_X6_paramMore dX6_paramMore_8 c_RX6_83 (by decide) rfl rfl (gM_m G) rfl (Nat.le_of_ble_eq_true rfl) (Nat.le_of_ble_eq_true rfl) (by omega) (w_X6_look G (by omega)) (fun v1 s1 hN => ?_)
  refine e_bipush (v := nI 84) m_X6_paramMore dX6_paramMore_11 (by decide) ?_
  refine e_ine (t := 29) (a := v1) (b := 84) hN m_X6_paramMore dX6_paramMore_13 (by decide) (fun q2 hN => ?_) (fun q2 hN => ?_)
  · refine e_aload_n m_X6_paramMore dX6_paramMore_16 rfl rfl rfl ?_
    refine e_dup m_X6_paramMore dX6_paramMore_17 rfl ?_
    refine e_getf m_X6_paramMore dX6_paramMore_18 f_RX6_77 (gM_m G) rfl ?_
    refine e_iconst (v := nI 1) m_X6_paramMore dX6_paramMore_21 (by decide) ?_
    refine e_iaddN m_X6_paramMore dX6_paramMore_22 ?_
    refine e_putf (v := .int (nI ((m_at s1) + 1))) (h' := TM h0 (w_at s1 ((m_at s1) + 1))) m_X6_paramMore dX6_paramMore_23 f_RX6_77 (gM_m G) (Nat.le_of_ble_eq_true rfl) (fit_i rfl) rfl (hpL_set (k := 10) (by decide) (Nat.le_of_ble_eq_true rfl)) ?_
    refine e_st hN (fun s3 hN => ?_)
    refine e_goto (t := 60) m_X6_paramMore dX6_paramMore_26 (by decide) ?_
    refine e_aload_n m_X6_paramMore dX6_paramMore_60 rfl rfl rfl ?_
    refine e_bipush (v := nI 24) m_X6_paramMore dX6_paramMore_61 (by decide) ?_
    refine e_iload_n m_X6_paramMore dX6_paramMore_63 rfl rfl ?_
    refine e_iconst (v := nI 0) m_X6_paramMore dX6_paramMore_64 (by decide) ?_
    refine e_cvU (as := [.int (nI 24), .int (nI x1), .int (nI 0)]) hN m_X6_paramMore dX6_paramMore_65 c_RX6_106 (by decide) rfl rfl (gM_m G) rfl (Nat.le_of_ble_eq_true rfl) (Nat.le_of_ble_eq_true rfl) (by omega) (w_X6_push G (by omega)) (fun v4 s4 hN => ?_)
    exact e_ret0 m_X6_paramMore dX6_paramMore_68
  · refine e_aload_n m_X6_paramMore dX6_paramMore_29 rfl rfl rfl ?_
    refine e_cvN (as := []) hN m_X6_paramMore dX6_paramMore_30 c_RX6_83 (by decide) rfl rfl (gM_m G) rfl (Nat.le_of_ble_eq_true rfl) (Nat.le_of_ble_eq_true rfl) (by omega) (w_X6_look G (by omega)) (fun v5 s5 hN => ?_)
    refine e_bipush (v := nI 79) m_X6_paramMore dX6_paramMore_33 (by decide) ?_
    refine e_ine (t := 56) (a := v5) (b := 79) hN m_X6_paramMore dX6_paramMore_35 (by decide) (fun q6 hN => ?_) (fun q6 hN => ?_)
    · refine e_aload_n m_X6_paramMore dX6_paramMore_38 rfl rfl rfl ?_
      refine e_getf m_X6_paramMore dX6_paramMore_39 f_RX6_55 (gM_m G) rfl ?_
      refine e_iload_n m_X6_paramMore dX6_paramMore_42 rfl rfl ?_
      refine e_ck hN (fun q7 hN => ?_)
      rw [oI_p q7]
      refine e_ck hN (fun q8 hN => ?_)
      refine e_aldN q8 (by decide) (Or.inr ⟨rfl, Or.inr rfl⟩) m_X6_paramMore dX6_paramMore_43 (gM_pl G) ?_
      refine e_ifne (t := 60) hN m_X6_paramMore dX6_paramMore_44 (by decide) (fun q9 hN => ?_) (fun q9 hN => ?_)
      · refine e_aload_n m_X6_paramMore dX6_paramMore_47 rfl rfl rfl ?_
        refine e_getf m_X6_paramMore dX6_paramMore_48 f_RX6_58 (gM_m G) rfl ?_
        refine e_iload_n m_X6_paramMore dX6_paramMore_51 rfl rfl ?_
        refine e_ck hN (fun q10 hN => ?_)
        refine e_aldN q10 (by decide) (Or.inl ⟨rfl, rfl⟩) m_X6_paramMore dX6_paramMore_52 (gM_pe G) ?_
        refine e_ifle (t := 60) hN m_X6_paramMore dX6_paramMore_53 (by decide) (fun q11 hN => ?_) (fun q11 hN => ?_)
        · refine e_aload_n m_X6_paramMore dX6_paramMore_60 rfl rfl rfl ?_
          refine e_bipush (v := nI 24) m_X6_paramMore dX6_paramMore_61 (by decide) ?_
          refine e_iload_n m_X6_paramMore dX6_paramMore_63 rfl rfl ?_
          refine e_iconst (v := nI 0) m_X6_paramMore dX6_paramMore_64 (by decide) ?_
          refine e_cvU (as := [.int (nI 24), .int (nI x1), .int (nI 0)]) hN m_X6_paramMore dX6_paramMore_65 c_RX6_106 (by decide) rfl rfl (gM_m G) rfl (Nat.le_of_ble_eq_true rfl) (Nat.le_of_ble_eq_true rfl) (by omega) (w_X6_push G (by omega)) (fun v12 s12 hN => ?_)
          exact e_ret0 m_X6_paramMore dX6_paramMore_68
        · refine e_aload_n m_X6_paramMore dX6_paramMore_56 rfl rfl rfl ?_
          refine e_cvU (as := []) hN m_X6_paramMore dX6_paramMore_57 c_RX6_87 (by decide) rfl rfl (gM_m G) rfl (Nat.le_of_ble_eq_true rfl) (Nat.le_of_ble_eq_true rfl) (by omega) (w_X6_error G (by omega)) (fun v13 s13 hN => ?_)
          refine e_aload_n m_X6_paramMore dX6_paramMore_60 rfl rfl rfl ?_
          refine e_bipush (v := nI 24) m_X6_paramMore dX6_paramMore_61 (by decide) ?_
          refine e_iload_n m_X6_paramMore dX6_paramMore_63 rfl rfl ?_
          refine e_iconst (v := nI 0) m_X6_paramMore dX6_paramMore_64 (by decide) ?_
          refine e_cvU (as := [.int (nI 24), .int (nI x1), .int (nI 0)]) hN m_X6_paramMore dX6_paramMore_65 c_RX6_106 (by decide) rfl rfl (gM_m G) rfl (Nat.le_of_ble_eq_true rfl) (Nat.le_of_ble_eq_true rfl) (by omega) (w_X6_push G (by omega)) (fun v14 s14 hN => ?_)
          exact e_ret0 m_X6_paramMore dX6_paramMore_68
      · refine e_aload_n m_X6_paramMore dX6_paramMore_60 rfl rfl rfl ?_
        refine e_bipush (v := nI 24) m_X6_paramMore dX6_paramMore_61 (by decide) ?_
        refine e_iload_n m_X6_paramMore dX6_paramMore_63 rfl rfl ?_
        refine e_iconst (v := nI 0) m_X6_paramMore dX6_paramMore_64 (by decide) ?_
        refine e_cvU (as := [.int (nI 24), .int (nI x1), .int (nI 0)]) hN m_X6_paramMore dX6_paramMore_65 c_RX6_106 (by decide) rfl rfl (gM_m G) rfl (Nat.le_of_ble_eq_true rfl) (Nat.le_of_ble_eq_true rfl) (by omega) (w_X6_push G (by omega)) (fun v15 s15 hN => ?_)
        exact e_ret0 m_X6_paramMore dX6_paramMore_68
    · refine e_aload_n m_X6_paramMore dX6_paramMore_56 rfl rfl rfl ?_
      refine e_cvU (as := []) hN m_X6_paramMore dX6_paramMore_57 c_RX6_87 (by decide) rfl rfl (gM_m G) rfl (Nat.le_of_ble_eq_true rfl) (Nat.le_of_ble_eq_true rfl) (by omega) (w_X6_error G (by omega)) (fun v16 s16 hN => ?_)
      refine e_aload_n m_X6_paramMore dX6_paramMore_60 rfl rfl rfl ?_
      refine e_bipush (v := nI 24) m_X6_paramMore dX6_paramMore_61 (by decide) ?_
      refine e_iload_n m_X6_paramMore dX6_paramMore_63 rfl rfl ?_
      refine e_iconst (v := nI 0) m_X6_paramMore dX6_paramMore_64 (by decide) ?_
      refine e_cvU (as := [.int (nI 24), .int (nI x1), .int (nI 0)]) hN m_X6_paramMore dX6_paramMore_65 c_RX6_106 (by decide) rfl rfl (gM_m G) rfl (Nat.le_of_ble_eq_true rfl) (Nat.le_of_ble_eq_true rfl) (by omega) (w_X6_push G (by omega)) (fun v17 s17 hN => ?_)
      exact e_ret0 m_X6_paramMore dX6_paramMore_68

def b_X6_fields  (x1 : Nat) (s : Mm) : Rs Mm := bn (b_X6_look  s) (fun v1 s1 => ife v1 83 (st1 (w_at s1 ((m_at s1) + 1)) (fun s3 => ck ((m_dp s3) ≠ 0) (st1 (w_dp s3 ((m_dp s3) - 1)) (fun s5 => okR 0 s5)))) (bn (b_X6_child x1 28 (m_at s1) s1) (fun v6 s6 => bn (b_X6_push 27 x1 26 s6) (fun v7 s7 => bn (b_X6_push 18 v6 0 s7) (fun v8 s8 => bn (b_X6_push 29 v6 0 s8) (fun v9 s9 => okR 0 s9))))))
theorem w_X6_fields {xs : Nat → Int32} {L : Nat} {h0 : mm_H} (G : Mg h0) {x1 : Nat} {s : Mm} {d : Nat} (hd : 11 ≤ d) (hN : b_X6_fields  x1 s ≠ none) : Rn xs L d 171 [.ref 10, .int (nI x1)] (TM h0 s) (ou eU (TM h0) (b_X6_fields  x1 s)) := by
  unfold Rn
  unfold b_X6_fields at hN ⊢
  refine e_aload_n m_X6_fields dX6_fields_0 rfl rfl rfl ?_
  refine e_cvN (as := []) hN m_X6_fields dX6_fields_1 c_RX6_83 (by decide) rfl rfl (gM_m G) rfl (Nat.le_of_ble_eq_true rfl) (Nat.le_of_ble_eq_true rfl) (by omega) (w_X6_look G (by omega)) (fun v1 s1 hN => ?_)
  refine e_bipush (v := nI 83) m_X6_fields dX6_fields_4 (by decide) ?_
  refine e_ine (t := 30) (a := v1) (b := 83) hN m_X6_fields dX6_fields_6 (by decide) (fun q2 hN => ?_) (fun q2 hN => ?_)
  · refine e_aload_n m_X6_fields dX6_fields_9 rfl rfl rfl ?_
    refine e_dup m_X6_fields dX6_fields_10 rfl ?_
    refine e_getf m_X6_fields dX6_fields_11 f_RX6_77 (gM_m G) rfl ?_
    refine e_iconst (v := nI 1) m_X6_fields dX6_fields_14 (by decide) ?_
    refine e_iaddN m_X6_fields dX6_fields_15 ?_
    refine e_putf (v := .int (nI ((m_at s1) + 1))) (h' := TM h0 (w_at s1 ((m_at s1) + 1))) m_X6_fields dX6_fields_16 f_RX6_77 (gM_m G) (Nat.le_of_ble_eq_true rfl) (fit_i rfl) rfl (hpL_set (k := 10) (by decide) (Nat.le_of_ble_eq_true rfl)) ?_
    refine e_st hN (fun s3 hN => ?_)
    refine e_aload_n m_X6_fields dX6_fields_19 rfl rfl rfl ?_
    refine e_dup m_X6_fields dX6_fields_20 rfl ?_
    refine e_getf m_X6_fields dX6_fields_21 f_RX6_90 (gM_m G) rfl ?_
    refine e_iconst (v := nI 1) m_X6_fields dX6_fields_24 (by decide) ?_
    refine e_isubO m_X6_fields dX6_fields_25 ?_
    refine e_ck hN (fun q4 hN => ?_)
    rw [oI_p q4]
    refine e_putf (v := .int (nI ((m_dp s3) - 1))) (h' := TM h0 (w_dp s3 ((m_dp s3) - 1))) m_X6_fields dX6_fields_26 f_RX6_90 (gM_m G) (Nat.le_of_ble_eq_true rfl) (fit_i rfl) rfl (hpL_set (k := 10) (by decide) (Nat.le_of_ble_eq_true rfl)) ?_
    refine e_st hN (fun s5 hN => ?_)
    exact e_ret0 m_X6_fields dX6_fields_29
  · refine e_aload_n m_X6_fields dX6_fields_30 rfl rfl rfl ?_
    refine e_iload_n m_X6_fields dX6_fields_31 rfl rfl ?_
    refine e_bipush (v := nI 28) m_X6_fields dX6_fields_32 (by decide) ?_
    refine e_aload_n m_X6_fields dX6_fields_34 rfl rfl rfl ?_
    refine e_getf m_X6_fields dX6_fields_35 f_RX6_77 (gM_m G) rfl ?_
    refine e_cvN (as := [.int (nI x1), .int (nI 28), .int (nI (m_at s1))]) hN m_X6_fields dX6_fields_38 c_RX6_99 (by decide) rfl rfl (gM_m G) rfl (Nat.le_of_ble_eq_true rfl) (Nat.le_of_ble_eq_true rfl) (by omega) (w_X6_child G (by omega)) (fun v6 s6 hN => ?_)
    refine e_istore_n m_X6_fields dX6_fields_41 rfl (by decide) rfl ?_
    refine e_aload_n m_X6_fields dX6_fields_42 rfl rfl rfl ?_
    refine e_bipush (v := nI 27) m_X6_fields dX6_fields_43 (by decide) ?_
    refine e_iload_n m_X6_fields dX6_fields_45 rfl rfl ?_
    refine e_bipush (v := nI 26) m_X6_fields dX6_fields_46 (by decide) ?_
    refine e_cvU (as := [.int (nI 27), .int (nI x1), .int (nI 26)]) hN m_X6_fields dX6_fields_48 c_RX6_106 (by decide) rfl rfl (gM_m G) rfl (Nat.le_of_ble_eq_true rfl) (Nat.le_of_ble_eq_true rfl) (by omega) (w_X6_push G (by omega)) (fun v7 s7 hN => ?_)
    refine e_aload_n m_X6_fields dX6_fields_51 rfl rfl rfl ?_
    refine e_bipush (v := nI 18) m_X6_fields dX6_fields_52 (by decide) ?_
    refine e_iload_n m_X6_fields dX6_fields_54 rfl rfl ?_
    refine e_iconst (v := nI 0) m_X6_fields dX6_fields_55 (by decide) ?_
    refine e_cvU (as := [.int (nI 18), .int (nI v6), .int (nI 0)]) hN m_X6_fields dX6_fields_56 c_RX6_106 (by decide) rfl rfl (gM_m G) rfl (Nat.le_of_ble_eq_true rfl) (Nat.le_of_ble_eq_true rfl) (by omega) (w_X6_push G (by omega)) (fun v8 s8 hN => ?_)
    refine e_aload_n m_X6_fields dX6_fields_59 rfl rfl rfl ?_
    refine e_bipush (v := nI 29) m_X6_fields dX6_fields_60 (by decide) ?_
    refine e_iload_n m_X6_fields dX6_fields_62 rfl rfl ?_
    refine e_iconst (v := nI 0) m_X6_fields dX6_fields_63 (by decide) ?_
    refine e_cvU (as := [.int (nI 29), .int (nI v6), .int (nI 0)]) hN m_X6_fields dX6_fields_64 c_RX6_106 (by decide) rfl rfl (gM_m G) rfl (Nat.le_of_ble_eq_true rfl) (Nat.le_of_ble_eq_true rfl) (by omega) (w_X6_push G (by omega)) (fun v9 s9 hN => ?_)
    exact e_ret0 m_X6_fields dX6_fields_67

def b_X6_specs  (x1 : Nat) (x2 : Nat) (s : Mm) : Rs Mm := bn (b_X6_look  s) (fun v1 s1 => ife v1 79 (st1 (w_at s1 ((m_at s1) + 1)) (fun s3 => ck ((m_dp s3) ≠ 0) (st1 (w_dp s3 ((m_dp s3) - 1)) (fun s5 => okR 0 s5)))) (bn (b_X6_push 35 x1 x2 s1) (fun v6 s6 => bn (b_X6_push 33 x1 x2 s6) (fun v7 s7 => okR 0 s7))))
theorem w_X6_specs {xs : Nat → Int32} {L : Nat} {h0 : mm_H} (G : Mg h0) {x1 : Nat} {x2 : Nat} {s : Mm} {d : Nat} (hd : 11 ≤ d) (hN : b_X6_specs  x1 x2 s ≠ none) : Rn xs L d 179 [.ref 10, .int (nI x1), .int (nI x2)] (TM h0 s) (ou eU (TM h0) (b_X6_specs  x1 x2 s)) := by
  unfold Rn
  unfold b_X6_specs at hN ⊢
  refine e_aload_n m_X6_specs dX6_specs_0 rfl rfl rfl ?_
  refine e_cvN (as := []) hN m_X6_specs dX6_specs_1 c_RX6_83 (by decide) rfl rfl (gM_m G) rfl (Nat.le_of_ble_eq_true rfl) (Nat.le_of_ble_eq_true rfl) (by omega) (w_X6_look G (by omega)) (fun v1 s1 hN => ?_)
  refine e_bipush (v := nI 79) m_X6_specs dX6_specs_4 (by decide) ?_
  refine e_ine (t := 30) (a := v1) (b := 79) hN m_X6_specs dX6_specs_6 (by decide) (fun q2 hN => ?_) (fun q2 hN => ?_)
  · refine e_aload_n m_X6_specs dX6_specs_9 rfl rfl rfl ?_
    refine e_dup m_X6_specs dX6_specs_10 rfl ?_
    refine e_getf m_X6_specs dX6_specs_11 f_RX6_77 (gM_m G) rfl ?_
    refine e_iconst (v := nI 1) m_X6_specs dX6_specs_14 (by decide) ?_
    refine e_iaddN m_X6_specs dX6_specs_15 ?_
    refine e_putf (v := .int (nI ((m_at s1) + 1))) (h' := TM h0 (w_at s1 ((m_at s1) + 1))) m_X6_specs dX6_specs_16 f_RX6_77 (gM_m G) (Nat.le_of_ble_eq_true rfl) (fit_i rfl) rfl (hpL_set (k := 10) (by decide) (Nat.le_of_ble_eq_true rfl)) ?_
    refine e_st hN (fun s3 hN => ?_)
    refine e_aload_n m_X6_specs dX6_specs_19 rfl rfl rfl ?_
    refine e_dup m_X6_specs dX6_specs_20 rfl ?_
    refine e_getf m_X6_specs dX6_specs_21 f_RX6_90 (gM_m G) rfl ?_
    refine e_iconst (v := nI 1) m_X6_specs dX6_specs_24 (by decide) ?_
    refine e_isubO m_X6_specs dX6_specs_25 ?_
    refine e_ck hN (fun q4 hN => ?_)
    rw [oI_p q4]
    refine e_putf (v := .int (nI ((m_dp s3) - 1))) (h' := TM h0 (w_dp s3 ((m_dp s3) - 1))) m_X6_specs dX6_specs_26 f_RX6_90 (gM_m G) (Nat.le_of_ble_eq_true rfl) (fit_i rfl) rfl (hpL_set (k := 10) (by decide) (Nat.le_of_ble_eq_true rfl)) ?_
    refine e_st hN (fun s5 hN => ?_)
    exact e_ret0 m_X6_specs dX6_specs_29
  · refine e_aload_n m_X6_specs dX6_specs_30 rfl rfl rfl ?_
    refine e_bipush (v := nI 35) m_X6_specs dX6_specs_31 (by decide) ?_
    refine e_iload_n m_X6_specs dX6_specs_33 rfl rfl ?_
    refine e_iload_n m_X6_specs dX6_specs_34 rfl rfl ?_
    refine e_cvU (as := [.int (nI 35), .int (nI x1), .int (nI x2)]) hN m_X6_specs dX6_specs_35 c_RX6_106 (by decide) rfl rfl (gM_m G) rfl (Nat.le_of_ble_eq_true rfl) (Nat.le_of_ble_eq_true rfl) (by omega) (w_X6_push G (by omega)) (fun v6 s6 hN => ?_)
    refine e_aload_n m_X6_specs dX6_specs_38 rfl rfl rfl ?_
    refine e_bipush (v := nI 33) m_X6_specs dX6_specs_39 (by decide) ?_
    refine e_iload_n m_X6_specs dX6_specs_41 rfl rfl ?_
    refine e_iload_n m_X6_specs dX6_specs_42 rfl rfl ?_
    refine e_cvU (as := [.int (nI 33), .int (nI x1), .int (nI x2)]) hN m_X6_specs dX6_specs_43 c_RX6_106 (by decide) rfl rfl (gM_m G) rfl (Nat.le_of_ble_eq_true rfl) (Nat.le_of_ble_eq_true rfl) (by omega) (w_X6_push G (by omega)) (fun v7 s7 hN => ?_)
    exact e_ret0 m_X6_specs dX6_specs_46

def b_X6_statementsMore  (x1 : Nat) (s : Mm) : Rs Mm := bn (b_X6_look  s) (fun v1 s1 => ife v1 85 (st1 (w_at s1 ((m_at s1) + 1)) (fun s3 => bn (b_X6_push 39 x1 0 s3) (fun v4 s4 => okR 0 s4))) (okR 0 s1))
theorem w_X6_statementsMore {xs : Nat → Int32} {L : Nat} {h0 : mm_H} (G : Mg h0) {x1 : Nat} {s : Mm} {d : Nat} (hd : 11 ≤ d) (hN : b_X6_statementsMore  x1 s ≠ none) : Rn xs L d 197 [.ref 10, .int (nI x1)] (TM h0 s) (ou eU (TM h0) (b_X6_statementsMore  x1 s)) := by
  unfold Rn
  unfold b_X6_statementsMore at hN ⊢
  refine e_aload_n m_X6_statementsMore dX6_statementsMore_0 rfl rfl rfl ?_
  refine e_cvN (as := []) hN m_X6_statementsMore dX6_statementsMore_1 c_RX6_83 (by decide) rfl rfl (gM_m G) rfl (Nat.le_of_ble_eq_true rfl) (Nat.le_of_ble_eq_true rfl) (by omega) (w_X6_look G (by omega)) (fun v1 s1 hN => ?_)
  refine e_bipush (v := nI 85) m_X6_statementsMore dX6_statementsMore_4 (by decide) ?_
  refine e_ieq (t := 10) (a := v1) (b := 85) hN m_X6_statementsMore dX6_statementsMore_6 (by decide) (fun q2 hN => ?_) (fun q2 hN => ?_)
  · refine e_aload_n m_X6_statementsMore dX6_statementsMore_10 rfl rfl rfl ?_
    refine e_dup m_X6_statementsMore dX6_statementsMore_11 rfl ?_
    refine e_getf m_X6_statementsMore dX6_statementsMore_12 f_RX6_77 (gM_m G) rfl ?_
    refine e_iconst (v := nI 1) m_X6_statementsMore dX6_statementsMore_15 (by decide) ?_
    refine e_iaddN m_X6_statementsMore dX6_statementsMore_16 ?_
    refine e_putf (v := .int (nI ((m_at s1) + 1))) (h' := TM h0 (w_at s1 ((m_at s1) + 1))) m_X6_statementsMore dX6_statementsMore_17 f_RX6_77 (gM_m G) (Nat.le_of_ble_eq_true rfl) (fit_i rfl) rfl (hpL_set (k := 10) (by decide) (Nat.le_of_ble_eq_true rfl)) ?_
    refine e_st hN (fun s3 hN => ?_)
    refine e_aload_n m_X6_statementsMore dX6_statementsMore_20 rfl rfl rfl ?_
    refine e_bipush (v := nI 39) m_X6_statementsMore dX6_statementsMore_21 (by decide) ?_
    refine e_iload_n m_X6_statementsMore dX6_statementsMore_23 rfl rfl ?_
    refine e_iconst (v := nI 0) m_X6_statementsMore dX6_statementsMore_24 (by decide) ?_
    refine e_cvU (as := [.int (nI 39), .int (nI x1), .int (nI 0)]) hN m_X6_statementsMore dX6_statementsMore_25 c_RX6_106 (by decide) rfl rfl (gM_m G) rfl (Nat.le_of_ble_eq_true rfl) (Nat.le_of_ble_eq_true rfl) (by omega) (w_X6_push G (by omega)) (fun v4 s4 hN => ?_)
    exact e_ret0 m_X6_statementsMore dX6_statementsMore_28
  · exact e_ret0 m_X6_statementsMore dX6_statementsMore_9

def b_X6_forPost  (x1 : Nat) (x2 : Nat) (s : Mm) : Rs Mm := bn (b_X6_look  s) (fun v1 s1 => ife v1 85 (ck (x2 < 65536) (st1 (w_tk s1 (upN (m_tk s1) x2 (m_at s1))) (fun s4 => bn (b_X6_child x1 65 (m_at s4) s4) (fun v5 s5 => st1 (w_at s5 ((m_at s5) + 1)) (fun s6 => bn (b_X6_push 38 x1 0 s6) (fun v7 s7 => bn (b_X6_look  s7) (fun v8 s8 => ife v8 82 (okR 0 s8) (bn (b_X6_push 41 v5 65 s8) (fun v10 s10 => okR 0 s10))))))))) (bn (b_X6_error  s1) (fun v11 s11 => okR 0 s11)))
theorem w_X6_forPost {xs : Nat → Int32} {L : Nat} {h0 : mm_H} (G : Mg h0) {x1 : Nat} {x2 : Nat} {s : Mm} {d : Nat} (hd : 11 ≤ d) (hN : b_X6_forPost  x1 x2 s ≠ none) : Rn xs L d 210 [.ref 10, .int (nI x1), .int (nI x2)] (TM h0 s) (ou eU (TM h0) (b_X6_forPost  x1 x2 s)) := by
  unfold Rn
  unfold b_X6_forPost at hN ⊢
  refine e_aload_n m_X6_forPost dX6_forPost_0 rfl rfl rfl ?_
  refine e_cvN (as := []) hN m_X6_forPost dX6_forPost_1 c_RX6_83 (by decide) rfl rfl (gM_m G) rfl (Nat.le_of_ble_eq_true rfl) (Nat.le_of_ble_eq_true rfl) (by omega) (w_X6_look G (by omega)) (fun v1 s1 hN => ?_)
  refine e_bipush (v := nI 85) m_X6_forPost dX6_forPost_4 (by decide) ?_
  refine e_ieq (t := 14) (a := v1) (b := 85) hN m_X6_forPost dX6_forPost_6 (by decide) (fun q2 hN => ?_) (fun q2 hN => ?_)
  · refine e_aload_n m_X6_forPost dX6_forPost_14 rfl rfl rfl ?_
    refine e_getf m_X6_forPost dX6_forPost_15 f_RX6_18 (gM_m G) rfl ?_
    refine e_iload_n m_X6_forPost dX6_forPost_18 rfl rfl ?_
    refine e_aload_n m_X6_forPost dX6_forPost_19 rfl rfl rfl ?_
    refine e_getf m_X6_forPost dX6_forPost_20 f_RX6_77 (gM_m G) rfl ?_
    refine e_ck hN (fun q3 hN => ?_)
    refine e_astN (v := (m_at s1)) (h' := TM h0 (w_tk s1 (upN (m_tk s1) x2 (m_at s1)))) q3 (by decide) m_X6_forPost dX6_forPost_23 (gM_tk G) (hpL_set (k := 13) (by decide) (Nat.le_of_ble_eq_true rfl)) ?_
    refine e_st hN (fun s4 hN => ?_)
    refine e_aload_n m_X6_forPost dX6_forPost_24 rfl rfl rfl ?_
    refine e_iload_n m_X6_forPost dX6_forPost_25 rfl rfl ?_
    refine e_bipush (v := nI 65) m_X6_forPost dX6_forPost_26 (by decide) ?_
    refine e_aload_n m_X6_forPost dX6_forPost_28 rfl rfl rfl ?_
    refine e_getf m_X6_forPost dX6_forPost_29 f_RX6_77 (gM_m G) rfl ?_
    refine e_cvN (as := [.int (nI x1), .int (nI 65), .int (nI (m_at s4))]) hN m_X6_forPost dX6_forPost_32 c_RX6_99 (by decide) rfl rfl (gM_m G) rfl (Nat.le_of_ble_eq_true rfl) (Nat.le_of_ble_eq_true rfl) (by omega) (w_X6_child G (by omega)) (fun v5 s5 hN => ?_)
    refine e_istore_n m_X6_forPost dX6_forPost_35 rfl (by decide) rfl ?_
    refine e_aload_n m_X6_forPost dX6_forPost_36 rfl rfl rfl ?_
    refine e_dup m_X6_forPost dX6_forPost_37 rfl ?_
    refine e_getf m_X6_forPost dX6_forPost_38 f_RX6_77 (gM_m G) rfl ?_
    refine e_iconst (v := nI 1) m_X6_forPost dX6_forPost_41 (by decide) ?_
    refine e_iaddN m_X6_forPost dX6_forPost_42 ?_
    refine e_putf (v := .int (nI ((m_at s5) + 1))) (h' := TM h0 (w_at s5 ((m_at s5) + 1))) m_X6_forPost dX6_forPost_43 f_RX6_77 (gM_m G) (Nat.le_of_ble_eq_true rfl) (fit_i rfl) rfl (hpL_set (k := 10) (by decide) (Nat.le_of_ble_eq_true rfl)) ?_
    refine e_st hN (fun s6 hN => ?_)
    refine e_aload_n m_X6_forPost dX6_forPost_46 rfl rfl rfl ?_
    refine e_bipush (v := nI 38) m_X6_forPost dX6_forPost_47 (by decide) ?_
    refine e_iload_n m_X6_forPost dX6_forPost_49 rfl rfl ?_
    refine e_iconst (v := nI 0) m_X6_forPost dX6_forPost_50 (by decide) ?_
    refine e_cvU (as := [.int (nI 38), .int (nI x1), .int (nI 0)]) hN m_X6_forPost dX6_forPost_51 c_RX6_106 (by decide) rfl rfl (gM_m G) rfl (Nat.le_of_ble_eq_true rfl) (Nat.le_of_ble_eq_true rfl) (by omega) (w_X6_push G (by omega)) (fun v7 s7 hN => ?_)
    refine e_aload_n m_X6_forPost dX6_forPost_54 rfl rfl rfl ?_
    refine e_cvN (as := []) hN m_X6_forPost dX6_forPost_55 c_RX6_83 (by decide) rfl rfl (gM_m G) rfl (Nat.le_of_ble_eq_true rfl) (Nat.le_of_ble_eq_true rfl) (by omega) (w_X6_look G (by omega)) (fun v8 s8 hN => ?_)
    refine e_bipush (v := nI 82) m_X6_forPost dX6_forPost_58 (by decide) ?_
    refine e_ieq (t := 72) (a := v8) (b := 82) hN m_X6_forPost dX6_forPost_60 (by decide) (fun q9 hN => ?_) (fun q9 hN => ?_)
    · exact e_ret0 m_X6_forPost dX6_forPost_72
    · refine e_aload_n m_X6_forPost dX6_forPost_63 rfl rfl rfl ?_
      refine e_bipush (v := nI 41) m_X6_forPost dX6_forPost_64 (by decide) ?_
      refine e_iload_n m_X6_forPost dX6_forPost_66 rfl rfl ?_
      refine e_bipush (v := nI 65) m_X6_forPost dX6_forPost_67 (by decide) ?_
      refine e_cvU (as := [.int (nI 41), .int (nI v5), .int (nI 65)]) hN m_X6_forPost dX6_forPost_69 c_RX6_106 (by decide) rfl rfl (gM_m G) rfl (Nat.le_of_ble_eq_true rfl) (Nat.le_of_ble_eq_true rfl) (by omega) (w_X6_push G (by omega)) (fun v10 s10 hN => ?_)
      exact e_ret0 m_X6_forPost dX6_forPost_72
  · refine e_aload_n m_X6_forPost dX6_forPost_9 rfl rfl rfl ?_
    refine e_cvU (as := []) hN m_X6_forPost dX6_forPost_10 c_RX6_87 (by decide) rfl rfl (gM_m G) rfl (Nat.le_of_ble_eq_true rfl) (Nat.le_of_ble_eq_true rfl) (by omega) (w_X6_error G (by omega)) (fun v11 s11 hN => ?_)
    exact e_ret0 m_X6_forPost dX6_forPost_13

def b_X6_clause  (x1 : Nat) (s : Mm) : Rs Mm := bn (b_X6_look  s) (fun v1 s1 => ife v1 87 (bn (b_X6_child x1 40 (m_at s1) s1) (fun v3 s3 => st1 (w_at s3 ((m_at s3) + 1)) (fun s4 => bn (b_X6_push 39 v3 0 s4) (fun v5 s5 => okR 0 s5)))) (bn (b_X6_error  s1) (fun v6 s6 => okR 0 s6)))
theorem w_X6_clause {xs : Nat → Int32} {L : Nat} {h0 : mm_H} (G : Mg h0) {x1 : Nat} {s : Mm} {d : Nat} (hd : 11 ≤ d) (hN : b_X6_clause  x1 s ≠ none) : Rn xs L d 213 [.ref 10, .int (nI x1)] (TM h0 s) (ou eU (TM h0) (b_X6_clause  x1 s)) := by
  unfold Rn
  unfold b_X6_clause at hN ⊢
  refine e_aload_n m_X6_clause dX6_clause_0 rfl rfl rfl ?_
  refine e_cvN (as := []) hN m_X6_clause dX6_clause_1 c_RX6_83 (by decide) rfl rfl (gM_m G) rfl (Nat.le_of_ble_eq_true rfl) (Nat.le_of_ble_eq_true rfl) (by omega) (w_X6_look G (by omega)) (fun v1 s1 hN => ?_)
  refine e_bipush (v := nI 87) m_X6_clause dX6_clause_4 (by decide) ?_
  refine e_ieq (t := 14) (a := v1) (b := 87) hN m_X6_clause dX6_clause_6 (by decide) (fun q2 hN => ?_) (fun q2 hN => ?_)
  · refine e_aload_n m_X6_clause dX6_clause_14 rfl rfl rfl ?_
    refine e_iload_n m_X6_clause dX6_clause_15 rfl rfl ?_
    refine e_bipush (v := nI 40) m_X6_clause dX6_clause_16 (by decide) ?_
    refine e_aload_n m_X6_clause dX6_clause_18 rfl rfl rfl ?_
    refine e_getf m_X6_clause dX6_clause_19 f_RX6_77 (gM_m G) rfl ?_
    refine e_cvN (as := [.int (nI x1), .int (nI 40), .int (nI (m_at s1))]) hN m_X6_clause dX6_clause_22 c_RX6_99 (by decide) rfl rfl (gM_m G) rfl (Nat.le_of_ble_eq_true rfl) (Nat.le_of_ble_eq_true rfl) (by omega) (w_X6_child G (by omega)) (fun v3 s3 hN => ?_)
    refine e_istore_n m_X6_clause dX6_clause_25 rfl (by decide) rfl ?_
    refine e_aload_n m_X6_clause dX6_clause_26 rfl rfl rfl ?_
    refine e_dup m_X6_clause dX6_clause_27 rfl ?_
    refine e_getf m_X6_clause dX6_clause_28 f_RX6_77 (gM_m G) rfl ?_
    refine e_iconst (v := nI 1) m_X6_clause dX6_clause_31 (by decide) ?_
    refine e_iaddN m_X6_clause dX6_clause_32 ?_
    refine e_putf (v := .int (nI ((m_at s3) + 1))) (h' := TM h0 (w_at s3 ((m_at s3) + 1))) m_X6_clause dX6_clause_33 f_RX6_77 (gM_m G) (Nat.le_of_ble_eq_true rfl) (fit_i rfl) rfl (hpL_set (k := 10) (by decide) (Nat.le_of_ble_eq_true rfl)) ?_
    refine e_st hN (fun s4 hN => ?_)
    refine e_aload_n m_X6_clause dX6_clause_36 rfl rfl rfl ?_
    refine e_bipush (v := nI 39) m_X6_clause dX6_clause_37 (by decide) ?_
    refine e_iload_n m_X6_clause dX6_clause_39 rfl rfl ?_
    refine e_iconst (v := nI 0) m_X6_clause dX6_clause_40 (by decide) ?_
    refine e_cvU (as := [.int (nI 39), .int (nI v3), .int (nI 0)]) hN m_X6_clause dX6_clause_41 c_RX6_106 (by decide) rfl rfl (gM_m G) rfl (Nat.le_of_ble_eq_true rfl) (Nat.le_of_ble_eq_true rfl) (by omega) (w_X6_push G (by omega)) (fun v5 s5 hN => ?_)
    exact e_ret0 m_X6_clause dX6_clause_44
  · refine e_aload_n m_X6_clause dX6_clause_9 rfl rfl rfl ?_
    refine e_cvU (as := []) hN m_X6_clause dX6_clause_10 c_RX6_87 (by decide) rfl rfl (gM_m G) rfl (Nat.le_of_ble_eq_true rfl) (Nat.le_of_ble_eq_true rfl) (by omega) (w_X6_error G (by omega)) (fun v6 s6 hN => ?_)
    exact e_ret0 m_X6_clause dX6_clause_13

def b_X6_types  (x1 : Nat) (s : Mm) : Rs Mm := bn (b_X6_look  s) (fun v1 s1 => ife v1 84 (st1 (w_at s1 ((m_at s1) + 1)) (fun s3 => bn (b_X6_push 53 x1 0 s3) (fun v4 s4 => bn (b_X6_push 18 x1 0 s4) (fun v5 s5 => okR 0 s5)))) (okR 0 s1))
theorem w_X6_types {xs : Nat → Int32} {L : Nat} {h0 : mm_H} (G : Mg h0) {x1 : Nat} {s : Mm} {d : Nat} (hd : 11 ≤ d) (hN : b_X6_types  x1 s ≠ none) : Rn xs L d 214 [.ref 10, .int (nI x1)] (TM h0 s) (ou eU (TM h0) (b_X6_types  x1 s)) := by
  unfold Rn
  unfold b_X6_types at hN ⊢
  refine e_aload_n m_X6_types dX6_types_0 rfl rfl rfl ?_
  refine e_cvN (as := []) hN m_X6_types dX6_types_1 c_RX6_83 (by decide) rfl rfl (gM_m G) rfl (Nat.le_of_ble_eq_true rfl) (Nat.le_of_ble_eq_true rfl) (by omega) (w_X6_look G (by omega)) (fun v1 s1 hN => ?_)
  refine e_bipush (v := nI 84) m_X6_types dX6_types_4 (by decide) ?_
  refine e_ieq (t := 10) (a := v1) (b := 84) hN m_X6_types dX6_types_6 (by decide) (fun q2 hN => ?_) (fun q2 hN => ?_)
  · refine e_aload_n m_X6_types dX6_types_10 rfl rfl rfl ?_
    refine e_dup m_X6_types dX6_types_11 rfl ?_
    refine e_getf m_X6_types dX6_types_12 f_RX6_77 (gM_m G) rfl ?_
    refine e_iconst (v := nI 1) m_X6_types dX6_types_15 (by decide) ?_
    refine e_iaddN m_X6_types dX6_types_16 ?_
    refine e_putf (v := .int (nI ((m_at s1) + 1))) (h' := TM h0 (w_at s1 ((m_at s1) + 1))) m_X6_types dX6_types_17 f_RX6_77 (gM_m G) (Nat.le_of_ble_eq_true rfl) (fit_i rfl) rfl (hpL_set (k := 10) (by decide) (Nat.le_of_ble_eq_true rfl)) ?_
    refine e_st hN (fun s3 hN => ?_)
    refine e_aload_n m_X6_types dX6_types_20 rfl rfl rfl ?_
    refine e_bipush (v := nI 53) m_X6_types dX6_types_21 (by decide) ?_
    refine e_iload_n m_X6_types dX6_types_23 rfl rfl ?_
    refine e_iconst (v := nI 0) m_X6_types dX6_types_24 (by decide) ?_
    refine e_cvU (as := [.int (nI 53), .int (nI x1), .int (nI 0)]) hN m_X6_types dX6_types_25 c_RX6_106 (by decide) rfl rfl (gM_m G) rfl (Nat.le_of_ble_eq_true rfl) (Nat.le_of_ble_eq_true rfl) (by omega) (w_X6_push G (by omega)) (fun v4 s4 hN => ?_)
    refine e_aload_n m_X6_types dX6_types_28 rfl rfl rfl ?_
    refine e_bipush (v := nI 18) m_X6_types dX6_types_29 (by decide) ?_
    refine e_iload_n m_X6_types dX6_types_31 rfl rfl ?_
    refine e_iconst (v := nI 0) m_X6_types dX6_types_32 (by decide) ?_
    refine e_cvU (as := [.int (nI 18), .int (nI x1), .int (nI 0)]) hN m_X6_types dX6_types_33 c_RX6_106 (by decide) rfl rfl (gM_m G) rfl (Nat.le_of_ble_eq_true rfl) (Nat.le_of_ble_eq_true rfl) (by omega) (w_X6_push G (by omega)) (fun v5 s5 hN => ?_)
    exact e_ret0 m_X6_types dX6_types_36
  · exact e_ret0 m_X6_types dX6_types_9

def b_X6_guarded  (x1 : Nat) (x2 : Nat) (s : Mm) : Rs Mm := ifz x2 (bn (b_X6_look  s) (fun v2 s2 => ife v2 82 (okR 0 s2) (bn (b_X6_error  s2) (fun v4 s4 => okR 0 s4)))) (ck (x1 < 65536) (ck ((m_la s x1) ≠ 0) (ck (((m_la s x1) - 1) < 65536) (ck ((m_la s ((m_la s x1) - 1)) ≠ 0) (ck (((m_la s ((m_la s x1) - 1)) - 1) < 65536) (ife (m_wh s ((m_la s ((m_la s x1) - 1)) - 1)) 69 (ck (x1 < 65536) (st1 (w_wh s (upN (m_wh s) x1 69)) (fun s12 => ck (((m_la s ((m_la s x1) - 1)) - 1) < 65536) (ck (x1 < 65536) (st1 (w_tk s12 (upN (m_tk s12) x1 (m_tk s12 ((m_la s ((m_la s x1) - 1)) - 1)))) (fun s15 => ck (((m_la s ((m_la s x1) - 1)) - 1) < 65536) (ck ((m_fi s15 ((m_la s ((m_la s x1) - 1)) - 1)) ≠ 0) (ck (((m_fi s15 ((m_la s ((m_la s x1) - 1)) - 1)) - 1) < 65536) (st1 (w_pa s15 (upN (m_pa s15) ((m_fi s15 ((m_la s ((m_la s x1) - 1)) - 1)) - 1) (x1 + 1))) (fun s19 => ck (x1 < 65536) (ck ((m_fi s19 x1) ≠ 0) (ck (((m_fi s19 x1) - 1) < 65536) (st1 (w_nx s19 (upN (m_nx s19) ((m_fi s19 x1) - 1) (((m_fi s15 ((m_la s ((m_la s x1) - 1)) - 1)) - 1) + 1))) (fun s23 => ck (((m_fi s15 ((m_la s ((m_la s x1) - 1)) - 1)) - 1) < 65536) (st1 (w_nx s23 (upN (m_nx s23) ((m_fi s15 ((m_la s ((m_la s x1) - 1)) - 1)) - 1) 0)) (fun s25 => ck (x1 < 65536) (st1 (w_la s25 (upN (m_la s25) x1 (((m_fi s15 ((m_la s ((m_la s x1) - 1)) - 1)) - 1) + 1))) (fun s27 => okR 0 s27)))))))))))))))))) (ife x2 2 (bn (b_X6_error  s) (fun v29 s29 => okR 0 s29)) (okR 0 s))))))))
theorem w_X6_guarded {xs : Nat → Int32} {L : Nat} {h0 : mm_H} (G : Mg h0) {x1 : Nat} {x2 : Nat} {s : Mm} {d : Nat} (hd : 11 ≤ d) (hN : b_X6_guarded  x1 x2 s ≠ none) : Rn xs L d 217 [.ref 10, .int (nI x1), .int (nI x2)] (TM h0 s) (ou eU (TM h0) (b_X6_guarded  x1 x2 s)) := by
  unfold Rn
  unfold b_X6_guarded at hN ⊢
  refine e_iload_n m_X6_guarded dX6_guarded_0 rfl rfl ?_
  refine e_ifne (t := 18) hN m_X6_guarded dX6_guarded_1 (by decide) (fun q1 hN => ?_) (fun q1 hN => ?_)
  · refine e_aload_n m_X6_guarded dX6_guarded_4 rfl rfl rfl ?_
    refine e_cvN (as := []) hN m_X6_guarded dX6_guarded_5 c_RX6_83 (by decide) rfl rfl (gM_m G) rfl (Nat.le_of_ble_eq_true rfl) (Nat.le_of_ble_eq_true rfl) (by omega) (w_X6_look G (by omega)) (fun v2 s2 hN => ?_)
    refine e_bipush (v := nI 82) m_X6_guarded dX6_guarded_8 (by decide) ?_
    refine e_ieq (t := 17) (a := v2) (b := 82) hN m_X6_guarded dX6_guarded_10 (by decide) (fun q3 hN => ?_) (fun q3 hN => ?_)
    · exact e_ret0 m_X6_guarded dX6_guarded_17
    · refine e_aload_n m_X6_guarded dX6_guarded_13 rfl rfl rfl ?_
      refine e_cvU (as := []) hN m_X6_guarded dX6_guarded_14 c_RX6_87 (by decide) rfl rfl (gM_m G) rfl (Nat.le_of_ble_eq_true rfl) (Nat.le_of_ble_eq_true rfl) (by omega) (w_X6_error G (by omega)) (fun v4 s4 hN => ?_)
      exact e_ret0 m_X6_guarded dX6_guarded_17
  · refine e_aload_n m_X6_guarded dX6_guarded_18 rfl rfl rfl ?_
    refine e_getf m_X6_guarded dX6_guarded_19 f_RX6_27 (gM_m G) rfl ?_
    refine e_iload_n m_X6_guarded dX6_guarded_22 rfl rfl ?_
    refine e_ck hN (fun q5 hN => ?_)
    refine e_aldO q5 (by decide) (Or.inl ⟨rfl, rfl⟩) m_X6_guarded dX6_guarded_23 (gM_la G) ?_
    refine e_istore_n m_X6_guarded dX6_guarded_24 rfl (by decide) rfl ?_
    refine e_aload_n m_X6_guarded dX6_guarded_25 rfl rfl rfl ?_
    refine e_getf m_X6_guarded dX6_guarded_26 f_RX6_27 (gM_m G) rfl ?_
    refine e_iload_n m_X6_guarded dX6_guarded_29 rfl rfl ?_
    refine e_ck hN (fun q6 hN => ?_)
    rw [oI_p q6]
    refine e_ck hN (fun q7 hN => ?_)
    refine e_aldO q7 (by decide) (Or.inl ⟨rfl, rfl⟩) m_X6_guarded dX6_guarded_30 (gM_la G) ?_
    refine e_istore m_X6_guarded dX6_guarded_31 (by decide) rfl ?_
    refine e_aload_n m_X6_guarded dX6_guarded_33 rfl rfl rfl ?_
    refine e_getf m_X6_guarded dX6_guarded_34 f_RX6_14 (gM_m G) rfl ?_
    refine e_iload m_X6_guarded dX6_guarded_37 rfl ?_
    refine e_ck hN (fun q8 hN => ?_)
    rw [oI_p q8]
    refine e_ck hN (fun q9 hN => ?_)
    refine e_aldN q9 (by decide) (Or.inl ⟨rfl, rfl⟩) m_X6_guarded dX6_guarded_39 (gM_wh G) ?_
    refine e_bipush (v := nI 69) m_X6_guarded dX6_guarded_40 (by decide) ?_
    refine e_ieq (t := 55) (a := (m_wh s ((m_la s ((m_la s x1) - 1)) - 1))) (b := 69) hN m_X6_guarded dX6_guarded_42 (by decide) (fun q10 hN => ?_) (fun q10 hN => ?_)
    · refine e_aload_n m_X6_guarded dX6_guarded_55 rfl rfl rfl ?_
      refine e_getf m_X6_guarded dX6_guarded_56 f_RX6_14 (gM_m G) rfl ?_
      refine e_iload_n m_X6_guarded dX6_guarded_59 rfl rfl ?_
      refine e_bipush (v := nI 69) m_X6_guarded dX6_guarded_60 (by decide) ?_
      refine e_ck hN (fun q11 hN => ?_)
      refine e_astN (v := 69) (h' := TM h0 (w_wh s (upN (m_wh s) x1 69))) q11 (by decide) m_X6_guarded dX6_guarded_62 (gM_wh G) (hpL_set (k := 12) (by decide) (Nat.le_of_ble_eq_true rfl)) ?_
      refine e_st hN (fun s12 hN => ?_)
      refine e_aload_n m_X6_guarded dX6_guarded_63 rfl rfl rfl ?_
      refine e_getf m_X6_guarded dX6_guarded_64 f_RX6_18 (gM_m G) rfl ?_
      refine e_iload_n m_X6_guarded dX6_guarded_67 rfl rfl ?_
      refine e_aload_n m_X6_guarded dX6_guarded_68 rfl rfl rfl ?_
      refine e_getf m_X6_guarded dX6_guarded_69 f_RX6_18 (gM_m G) rfl ?_
      refine e_iload m_X6_guarded dX6_guarded_72 rfl ?_
      refine e_ck hN (fun q13 hN => ?_)
      refine e_aldN q13 (by decide) (Or.inl ⟨rfl, rfl⟩) m_X6_guarded dX6_guarded_74 (gM_tk G) ?_
      refine e_ck hN (fun q14 hN => ?_)
      refine e_astN (v := (m_tk s12 ((m_la s ((m_la s x1) - 1)) - 1))) (h' := TM h0 (w_tk s12 (upN (m_tk s12) x1 (m_tk s12 ((m_la s ((m_la s x1) - 1)) - 1))))) q14 (by decide) m_X6_guarded dX6_guarded_75 (gM_tk G) (hpL_set (k := 13) (by decide) (Nat.le_of_ble_eq_true rfl)) ?_
      refine e_st hN (fun s15 hN => ?_)
      refine e_aload_n m_X6_guarded dX6_guarded_76 rfl rfl rfl ?_
      refine e_getf m_X6_guarded dX6_guarded_77 f_RX6_24 (gM_m G) rfl ?_
      refine e_iload m_X6_guarded dX6_guarded_80 rfl ?_
      refine e_ck hN (fun q16 hN => ?_)
      refine e_aldO q16 (by decide) (Or.inl ⟨rfl, rfl⟩) m_X6_guarded dX6_guarded_82 (gM_fi G) ?_
      refine e_istore m_X6_guarded dX6_guarded_83 (by decide) rfl ?_
      refine e_aload_n m_X6_guarded dX6_guarded_85 rfl rfl rfl ?_
      refine e_getf m_X6_guarded dX6_guarded_86 f_RX6_21 (gM_m G) rfl ?_
      refine e_iload m_X6_guarded dX6_guarded_89 rfl ?_
      refine e_iload_n m_X6_guarded dX6_guarded_91 rfl rfl ?_
      refine e_ck hN (fun q17 hN => ?_)
      rw [oI_p q17]
      refine e_ck hN (fun q18 hN => ?_)
      refine e_astO (v := (x1 + 1)) (h' := TM h0 (w_pa s15 (upN (m_pa s15) ((m_fi s15 ((m_la s ((m_la s x1) - 1)) - 1)) - 1) (x1 + 1)))) q18 (by decide) m_X6_guarded dX6_guarded_92 (gM_pa G) (hpL_set (k := 14) (by decide) (Nat.le_of_ble_eq_true rfl)) ?_
      refine e_st hN (fun s19 hN => ?_)
      refine e_aload_n m_X6_guarded dX6_guarded_93 rfl rfl rfl ?_
      refine e_getf m_X6_guarded dX6_guarded_94 f_RX6_30 (gM_m G) rfl ?_
      refine e_aload_n m_X6_guarded dX6_guarded_97 rfl rfl rfl ?_
      refine e_getf m_X6_guarded dX6_guarded_98 f_RX6_24 (gM_m G) rfl ?_
      refine e_iload_n m_X6_guarded dX6_guarded_101 rfl rfl ?_
      refine e_ck hN (fun q20 hN => ?_)
      refine e_aldO q20 (by decide) (Or.inl ⟨rfl, rfl⟩) m_X6_guarded dX6_guarded_102 (gM_fi G) ?_
      refine e_iload m_X6_guarded dX6_guarded_103 rfl ?_
      refine e_ck hN (fun q21 hN => ?_)
      rw [oI_p q21]
      refine e_ck hN (fun q22 hN => ?_)
      refine e_astO (v := (((m_fi s15 ((m_la s ((m_la s x1) - 1)) - 1)) - 1) + 1)) (h' := TM h0 (w_nx s19 (upN (m_nx s19) ((m_fi s19 x1) - 1) (((m_fi s15 ((m_la s ((m_la s x1) - 1)) - 1)) - 1) + 1)))) q22 (by decide) m_X6_guarded dX6_guarded_105 (gM_nx G) (hpL_set (k := 17) (by decide) (Nat.le_of_ble_eq_true rfl)) ?_
      refine e_st hN (fun s23 hN => ?_)
      refine e_aload_n m_X6_guarded dX6_guarded_106 rfl rfl rfl ?_
      refine e_getf m_X6_guarded dX6_guarded_107 f_RX6_30 (gM_m G) rfl ?_
      refine e_iload m_X6_guarded dX6_guarded_110 rfl ?_
      refine e_iconst (v := oI 0) m_X6_guarded dX6_guarded_112 (by decide) ?_
      refine e_ck hN (fun q24 hN => ?_)
      refine e_astO (v := 0) (h' := TM h0 (w_nx s23 (upN (m_nx s23) ((m_fi s15 ((m_la s ((m_la s x1) - 1)) - 1)) - 1) 0))) q24 (by decide) m_X6_guarded dX6_guarded_113 (gM_nx G) (hpL_set (k := 17) (by decide) (Nat.le_of_ble_eq_true rfl)) ?_
      refine e_st hN (fun s25 hN => ?_)
      refine e_aload_n m_X6_guarded dX6_guarded_114 rfl rfl rfl ?_
      refine e_getf m_X6_guarded dX6_guarded_115 f_RX6_27 (gM_m G) rfl ?_
      refine e_iload_n m_X6_guarded dX6_guarded_118 rfl rfl ?_
      refine e_iload m_X6_guarded dX6_guarded_119 rfl ?_
      refine e_ck hN (fun q26 hN => ?_)
      refine e_astO (v := (((m_fi s15 ((m_la s ((m_la s x1) - 1)) - 1)) - 1) + 1)) (h' := TM h0 (w_la s25 (upN (m_la s25) x1 (((m_fi s15 ((m_la s ((m_la s x1) - 1)) - 1)) - 1) + 1)))) q26 (by decide) m_X6_guarded dX6_guarded_121 (gM_la G) (hpL_set (k := 16) (by decide) (Nat.le_of_ble_eq_true rfl)) ?_
      refine e_st hN (fun s27 hN => ?_)
      exact e_ret0 m_X6_guarded dX6_guarded_122
    · refine e_iload_n m_X6_guarded dX6_guarded_45 rfl rfl ?_
      refine e_iconst (v := nI 2) m_X6_guarded dX6_guarded_46 (by decide) ?_
      refine e_ine (t := 54) (a := x2) (b := 2) hN m_X6_guarded dX6_guarded_47 (by decide) (fun q28 hN => ?_) (fun q28 hN => ?_)
      · refine e_aload_n m_X6_guarded dX6_guarded_50 rfl rfl rfl ?_
        refine e_cvU (as := []) hN m_X6_guarded dX6_guarded_51 c_RX6_87 (by decide) rfl rfl (gM_m G) rfl (Nat.le_of_ble_eq_true rfl) (Nat.le_of_ble_eq_true rfl) (by omega) (w_X6_error G (by omega)) (fun v29 s29 hN => ?_)
        exact e_ret0 m_X6_guarded dX6_guarded_54
      · exact e_ret0 m_X6_guarded dX6_guarded_54

def b_X6_binary  (x1 : Nat) (x2 : Nat) (s : Mm) : Rs Mm := bn (b_X6_look  s) (fun v1 s1 => ck (v1 < 2147483648) (ck (x2 < 2147483648) (ifl (f_X6_strength v1) (x2 / 256) (okR 0 s1) (ifz (f_X6_strength v1) (okR 0 s1) (bn (b_X6_wrap x1 80 (m_at s1) s1) (fun v6 s6 => st1 (w_at s6 ((m_at s6) + 1)) (fun s7 => ck (x2 < 4096) (bn (b_X6_push 2 x1 (c2 x2) s7) (fun v9 s9 => bn (b_X6_expression v6 (x2 &&& 1) ((f_X6_strength v1) + 1) s9) (fun v10 s10 => okR 0 s10))))))))))
theorem w_X6_binary {xs : Nat → Int32} {L : Nat} {h0 : mm_H} (G : Mg h0) {x1 : Nat} {x2 : Nat} {s : Mm} {d : Nat} (hd : 12 ≤ d) (hN : b_X6_binary  x1 x2 s ≠ none) : Rn xs L d 136 [.ref 10, .int (nI x1), .int (nI x2)] (TM h0 s) (ou eU (TM h0) (b_X6_binary  x1 x2 s)) := by
  unfold Rn
  unfold b_X6_binary at hN ⊢
  refine e_aload_n m_X6_binary dX6_binary_0 rfl rfl rfl ?_
  refine e_cvN (as := []) hN m_X6_binary dX6_binary_1 c_RX6_83 (by decide) rfl rfl (gM_m G) rfl (Nat.le_of_ble_eq_true rfl) (Nat.le_of_ble_eq_true rfl) (by omega) (w_X6_look G (by omega)) (fun v1 s1 hN => ?_)
  refine e_ck hN (fun q2 hN => ?_)
  refine e_cs (as := [_]) m_X6_binary dX6_binary_4 c_RX6_110 (by decide) rfl rfl (Nat.le_of_ble_eq_true rfl) (Nat.le_of_ble_eq_true rfl) (by omega) (z_X6_strength q2 (by omega)) ?_
  refine e_istore_n m_X6_binary dX6_binary_7 rfl (by decide) rfl ?_
  refine e_iload_n m_X6_binary dX6_binary_8 rfl rfl ?_
  refine e_bipush (v := nI 8) m_X6_binary dX6_binary_9 (by decide) ?_
  refine e_ck hN (fun q3 hN => ?_)
  refine e_ishr8 q3 m_X6_binary dX6_binary_11 ?_
  refine e_istore m_X6_binary dX6_binary_12 (by decide) rfl ?_
  refine e_iload_n m_X6_binary dX6_binary_14 rfl rfl ?_
  refine e_iload m_X6_binary dX6_binary_15 rfl ?_
  refine e_ilt (t := 24) (a := (f_X6_strength v1)) (b := (x2 / 256)) hN m_X6_binary dX6_binary_17 (by decide) (fun q4 hN => ?_) (fun q4 hN => ?_)
  · exact e_ret0 m_X6_binary dX6_binary_24
  · refine e_iload_n m_X6_binary dX6_binary_20 rfl rfl ?_
    refine e_ifne (t := 25) hN m_X6_binary dX6_binary_21 (by decide) (fun q5 hN => ?_) (fun q5 hN => ?_)
    · exact e_ret0 m_X6_binary dX6_binary_24
    · refine e_aload_n m_X6_binary dX6_binary_25 rfl rfl rfl ?_
      refine e_iload_n m_X6_binary dX6_binary_26 rfl rfl ?_
      refine e_bipush (v := nI 80) m_X6_binary dX6_binary_27 (by decide) ?_
      refine e_aload_n m_X6_binary dX6_binary_29 rfl rfl rfl ?_
      refine e_getf m_X6_binary dX6_binary_30 f_RX6_77 (gM_m G) rfl ?_
      refine e_cvN (as := [.int (nI x1), .int (nI 80), .int (nI (m_at s1))]) hN m_X6_binary dX6_binary_33 c_RX6_114 (by decide) rfl rfl (gM_m G) rfl (Nat.le_of_ble_eq_true rfl) (Nat.le_of_ble_eq_true rfl) (by omega) (w_X6_wrap G (by omega)) (fun v6 s6 hN => ?_)
      refine e_istore m_X6_binary dX6_binary_36 (by decide) rfl ?_
      refine e_aload_n m_X6_binary dX6_binary_38 rfl rfl rfl ?_
      refine e_dup m_X6_binary dX6_binary_39 rfl ?_
      refine e_getf m_X6_binary dX6_binary_40 f_RX6_77 (gM_m G) rfl ?_
      refine e_iconst (v := nI 1) m_X6_binary dX6_binary_43 (by decide) ?_
      refine e_iaddN m_X6_binary dX6_binary_44 ?_
      refine e_putf (v := .int (nI ((m_at s6) + 1))) (h' := TM h0 (w_at s6 ((m_at s6) + 1))) m_X6_binary dX6_binary_45 f_RX6_77 (gM_m G) (Nat.le_of_ble_eq_true rfl) (fit_i rfl) rfl (hpL_set (k := 10) (by decide) (Nat.le_of_ble_eq_true rfl)) ?_
      refine e_st hN (fun s7 hN => ?_)
      refine e_aload_n m_X6_binary dX6_binary_48 rfl rfl rfl ?_
      refine e_iconst (v := nI 2) m_X6_binary dX6_binary_49 (by decide) ?_
      refine e_iload_n m_X6_binary dX6_binary_50 rfl rfl ?_
      refine e_iload_n m_X6_binary dX6_binary_51 rfl rfl ?_
      refine e_bipush (v := (-3)) m_X6_binary dX6_binary_52 (by decide) ?_
      refine e_ck hN (fun q8 hN => ?_)
      refine e_iandC q8 m_X6_binary dX6_binary_54 ?_
      refine e_cvU (as := [.int (nI 2), .int (nI x1), .int (nI (c2 x2))]) hN m_X6_binary dX6_binary_55 c_RX6_106 (by decide) rfl rfl (gM_m G) rfl (Nat.le_of_ble_eq_true rfl) (Nat.le_of_ble_eq_true rfl) (by omega) (w_X6_push G (by omega)) (fun v9 s9 hN => ?_)
      refine e_aload_n m_X6_binary dX6_binary_58 rfl rfl rfl ?_
      refine e_iload m_X6_binary dX6_binary_59 rfl ?_
      refine e_iload_n m_X6_binary dX6_binary_61 rfl rfl ?_
      refine e_iconst (v := nI 1) m_X6_binary dX6_binary_62 (by decide) ?_
      refine e_iandN m_X6_binary dX6_binary_63 ?_
      refine e_iload_n m_X6_binary dX6_binary_64 rfl rfl ?_
      refine e_iconst (v := nI 1) m_X6_binary dX6_binary_65 (by decide) ?_
      refine e_iaddN m_X6_binary dX6_binary_66 ?_
      refine e_cvU (as := [.int (nI v6), .int (nI (x2 &&& 1)), .int (nI ((f_X6_strength v1) + 1))]) hN m_X6_binary dX6_binary_67 c_RX6_117 (by decide) rfl rfl (gM_m G) rfl (Nat.le_of_ble_eq_true rfl) (Nat.le_of_ble_eq_true rfl) (by omega) (w_X6_expression G (by omega)) (fun v10 s10 hN => ?_)
      exact e_ret0 m_X6_binary dX6_binary_70

def b_X6_operand  (x1 : Nat) (x2 : Nat) (s : Mm) : Rs Mm := bn (b_X6_look  s) (fun v1 s1 => ifl 1 v1 (ifl 5 v1 (ife v1 1 (bn (b_X6_name x1 s1) (fun v5 s5 => bn (b_X6_push 5 x1 x2 s5) (fun v6 s6 => okR 0 s6))) (ife v1 78 (bn (b_X6_child x1 89 (m_at s1) s1) (fun v8 s8 => bn (b_X6_more  s8) (fun v9 s9 => st1 (w_at s9 ((m_at s9) + 1)) (fun s10 => bn (b_X6_push 8 79 0 s10) (fun v11 s11 => bn (b_X6_expression v8 0 1 s11) (fun v12 s12 => okR 0 s12)))))) (ife v1 20 (bn (b_X6_child x1 29 (m_at s1) s1) (fun v14 s14 => bn (b_X6_more  s14) (fun v15 s15 => st1 (w_at s15 ((m_at s15) + 1)) (fun s16 => bn (b_X6_push 20 v14 0 s16) (fun v17 s17 => bn (b_X6_push 21 v14 0 s17) (fun v18 s18 => okR 0 s18)))))) (ife v1 80 (bn (b_X6_push 5 x1 x2 s1) (fun v20 s20 => bn (b_X6_push 18 x1 1 s20) (fun v21 s21 => okR 0 s21))) (ife v1 26 (bn (b_X6_push 5 x1 x2 s1) (fun v23 s23 => bn (b_X6_push 18 x1 1 s23) (fun v24 s24 => okR 0 s24))) (ife v1 12 (bn (b_X6_push 5 x1 x2 s1) (fun v26 s26 => bn (b_X6_push 18 x1 1 s26) (fun v27 s27 => okR 0 s27))) (ife v1 31 (bn (b_X6_push 5 x1 x2 s1) (fun v29 s29 => bn (b_X6_push 18 x1 1 s29) (fun v30 s30 => okR 0 s30))) (ife v1 25 (bn (b_X6_push 5 x1 x2 s1) (fun v32 s32 => bn (b_X6_push 18 x1 1 s32) (fun v33 s33 => okR 0 s33))) (ife v1 64 (bn (b_X6_push 5 x1 x2 s1) (fun v35 s35 => bn (b_X6_push 18 x1 1 s35) (fun v36 s36 => okR 0 s36))) (bn (b_X6_error  s1) (fun v37 s37 => okR 0 s37))))))))))) (bn (b_X6_child x1 88 (m_at s1) s1) (fun v38 s38 => st1 (w_at s38 ((m_at s38) + 1)) (fun s39 => okR 0 s39)))) (ife v1 1 (bn (b_X6_name x1 s1) (fun v41 s41 => bn (b_X6_push 5 x1 x2 s41) (fun v42 s42 => okR 0 s42))) (ife v1 78 (bn (b_X6_child x1 89 (m_at s1) s1) (fun v44 s44 => bn (b_X6_more  s44) (fun v45 s45 => st1 (w_at s45 ((m_at s45) + 1)) (fun s46 => bn (b_X6_push 8 79 0 s46) (fun v47 s47 => bn (b_X6_expression v44 0 1 s47) (fun v48 s48 => okR 0 s48)))))) (ife v1 20 (bn (b_X6_child x1 29 (m_at s1) s1) (fun v50 s50 => bn (b_X6_more  s50) (fun v51 s51 => st1 (w_at s51 ((m_at s51) + 1)) (fun s52 => bn (b_X6_push 20 v50 0 s52) (fun v53 s53 => bn (b_X6_push 21 v50 0 s53) (fun v54 s54 => okR 0 s54)))))) (ife v1 80 (bn (b_X6_push 5 x1 x2 s1) (fun v56 s56 => bn (b_X6_push 18 x1 1 s56) (fun v57 s57 => okR 0 s57))) (ife v1 26 (bn (b_X6_push 5 x1 x2 s1) (fun v59 s59 => bn (b_X6_push 18 x1 1 s59) (fun v60 s60 => okR 0 s60))) (ife v1 12 (bn (b_X6_push 5 x1 x2 s1) (fun v62 s62 => bn (b_X6_push 18 x1 1 s62) (fun v63 s63 => okR 0 s63))) (ife v1 31 (bn (b_X6_push 5 x1 x2 s1) (fun v65 s65 => bn (b_X6_push 18 x1 1 s65) (fun v66 s66 => okR 0 s66))) (ife v1 25 (bn (b_X6_push 5 x1 x2 s1) (fun v68 s68 => bn (b_X6_push 18 x1 1 s68) (fun v69 s69 => okR 0 s69))) (ife v1 64 (bn (b_X6_push 5 x1 x2 s1) (fun v71 s71 => bn (b_X6_push 18 x1 1 s71) (fun v72 s72 => okR 0 s72))) (bn (b_X6_error  s1) (fun v73 s73 => okR 0 s73))))))))))))
theorem w_X6_operand {xs : Nat → Int32} {L : Nat} {h0 : mm_H} (G : Mg h0) {x1 : Nat} {x2 : Nat} {s : Mm} {d : Nat} (hd : 12 ≤ d) (hN : b_X6_operand  x1 x2 s ≠ none) : Rn xs L d 144 [.ref 10, .int (nI x1), .int (nI x2)] (TM h0 s) (ou eU (TM h0) (b_X6_operand  x1 x2 s)) := by
  unfold Rn
  unfold b_X6_operand at hN ⊢
  refine e_aload_n m_X6_operand dX6_operand_0 rfl rfl rfl ?_
  refine e_cvN (as := []) hN m_X6_operand dX6_operand_1 c_RX6_83 (by decide) rfl rfl (gM_m G) rfl (Nat.le_of_ble_eq_true rfl) (Nat.le_of_ble_eq_true rfl) (by omega) (w_X6_look G (by omega)) (fun v1 s1 hN => ?_)
  refine e_istore_n m_X6_operand dX6_operand_4 rfl (by decide) rfl ?_
  refine e_iload_n m_X6_operand dX6_operand_5 rfl rfl ?_
  refine e_iconst (v := nI 1) m_X6_operand dX6_operand_6 (by decide) ?_
  refine e_ile (t := 40) (a := v1) (b := 1) hN m_X6_operand dX6_operand_7 (by decide) (fun q2 hN => ?_) (fun q2 hN => ?_)
  · refine e_iload_n m_X6_operand dX6_operand_10 rfl rfl ?_
    refine e_iconst (v := nI 5) m_X6_operand dX6_operand_11 (by decide) ?_
    refine e_igt (t := 40) (a := v1) (b := 5) hN m_X6_operand dX6_operand_12 (by decide) (fun q3 hN => ?_) (fun q3 hN => ?_)
    · refine e_iload_n m_X6_operand dX6_operand_40 rfl rfl ?_
      refine e_iconst (v := nI 1) m_X6_operand dX6_operand_41 (by decide) ?_
      refine e_ine (t := 61) (a := v1) (b := 1) hN m_X6_operand dX6_operand_42 (by decide) (fun q4 hN => ?_) (fun q4 hN => ?_)
      · refine e_aload_n m_X6_operand dX6_operand_45 rfl rfl rfl ?_
        refine e_iload_n m_X6_operand dX6_operand_46 rfl rfl ?_
        refine e_cvN (as := [.int (nI x1)]) hN m_X6_operand dX6_operand_47 c_RX6_130 (by decide) rfl rfl (gM_m G) rfl (Nat.le_of_ble_eq_true rfl) (Nat.le_of_ble_eq_true rfl) (by omega) (w_X6_name G (by omega)) (fun v5 s5 hN => ?_)
        refine e_pop m_X6_operand dX6_operand_50 rfl ?_
        refine e_aload_n m_X6_operand dX6_operand_51 rfl rfl rfl ?_
        refine e_iconst (v := nI 5) m_X6_operand dX6_operand_52 (by decide) ?_
        refine e_iload_n m_X6_operand dX6_operand_53 rfl rfl ?_
        refine e_iload_n m_X6_operand dX6_operand_54 rfl rfl ?_
        refine e_cvU (as := [.int (nI 5), .int (nI x1), .int (nI x2)]) hN m_X6_operand dX6_operand_55 c_RX6_106 (by decide) rfl rfl (gM_m G) rfl (Nat.le_of_ble_eq_true rfl) (Nat.le_of_ble_eq_true rfl) (by omega) (w_X6_push G (by omega)) (fun v6 s6 hN => ?_)
        refine e_goto (t := 226) m_X6_operand dX6_operand_58 (by decide) ?_
        exact e_ret0 m_X6_operand dX6_operand_226
      · refine e_iload_n m_X6_operand dX6_operand_61 rfl rfl ?_
        refine e_bipush (v := nI 78) m_X6_operand dX6_operand_62 (by decide) ?_
        refine e_ine (t := 114) (a := v1) (b := 78) hN m_X6_operand dX6_operand_64 (by decide) (fun q7 hN => ?_) (fun q7 hN => ?_)
        · refine e_aload_n m_X6_operand dX6_operand_67 rfl rfl rfl ?_
          refine e_iload_n m_X6_operand dX6_operand_68 rfl rfl ?_
          refine e_bipush (v := nI 89) m_X6_operand dX6_operand_69 (by decide) ?_
          refine e_aload_n m_X6_operand dX6_operand_71 rfl rfl rfl ?_
          refine e_getf m_X6_operand dX6_operand_72 f_RX6_77 (gM_m G) rfl ?_
          refine e_cvN (as := [.int (nI x1), .int (nI 89), .int (nI (m_at s1))]) hN m_X6_operand dX6_operand_75 c_RX6_99 (by decide) rfl rfl (gM_m G) rfl (Nat.le_of_ble_eq_true rfl) (Nat.le_of_ble_eq_true rfl) (by omega) (w_X6_child G (by omega)) (fun v8 s8 hN => ?_)
          refine e_istore m_X6_operand dX6_operand_78 (by decide) rfl ?_
          refine e_aload_n m_X6_operand dX6_operand_80 rfl rfl rfl ?_
          refine e_cvU (as := []) hN m_X6_operand dX6_operand_81 c_RX6_123 (by decide) rfl rfl (gM_m G) rfl (Nat.le_of_ble_eq_true rfl) (Nat.le_of_ble_eq_true rfl) (by omega) (w_X6_more G (by omega)) (fun v9 s9 hN => ?_)
          refine e_aload_n m_X6_operand dX6_operand_84 rfl rfl rfl ?_
          refine e_dup m_X6_operand dX6_operand_85 rfl ?_
          refine e_getf m_X6_operand dX6_operand_86 f_RX6_77 (gM_m G) rfl ?_
          refine e_iconst (v := nI 1) m_X6_operand dX6_operand_89 (by decide) ?_
          refine e_iaddN m_X6_operand dX6_operand_90 ?_
          refine e_putf (v := .int (nI ((m_at s9) + 1))) (h' := TM h0 (w_at s9 ((m_at s9) + 1))) m_X6_operand dX6_operand_91 f_RX6_77 (gM_m G) (Nat.le_of_ble_eq_true rfl) (fit_i rfl) rfl (hpL_set (k := 10) (by decide) (Nat.le_of_ble_eq_true rfl)) ?_
          refine e_st hN (fun s10 hN => ?_)
          refine e_aload_n m_X6_operand dX6_operand_94 rfl rfl rfl ?_
          refine e_bipush (v := nI 8) m_X6_operand dX6_operand_95 (by decide) ?_
          refine e_bipush (v := nI 79) m_X6_operand dX6_operand_97 (by decide) ?_
          refine e_iconst (v := nI 0) m_X6_operand dX6_operand_99 (by decide) ?_
          refine e_cvU (as := [.int (nI 8), .int (nI 79), .int (nI 0)]) hN m_X6_operand dX6_operand_100 c_RX6_106 (by decide) rfl rfl (gM_m G) rfl (Nat.le_of_ble_eq_true rfl) (Nat.le_of_ble_eq_true rfl) (by omega) (w_X6_push G (by omega)) (fun v11 s11 hN => ?_)
          refine e_aload_n m_X6_operand dX6_operand_103 rfl rfl rfl ?_
          refine e_iload m_X6_operand dX6_operand_104 rfl ?_
          refine e_iconst (v := nI 0) m_X6_operand dX6_operand_106 (by decide) ?_
          refine e_iconst (v := nI 1) m_X6_operand dX6_operand_107 (by decide) ?_
          refine e_cvU (as := [.int (nI v8), .int (nI 0), .int (nI 1)]) hN m_X6_operand dX6_operand_108 c_RX6_117 (by decide) rfl rfl (gM_m G) rfl (Nat.le_of_ble_eq_true rfl) (Nat.le_of_ble_eq_true rfl) (by omega) (w_X6_expression G (by omega)) (fun v12 s12 hN => ?_)
          refine e_goto (t := 226) m_X6_operand dX6_operand_111 (by decide) ?_
          exact e_ret0 m_X6_operand dX6_operand_226
        · refine e_iload_n m_X6_operand dX6_operand_114 rfl rfl ?_
          refine e_bipush (v := nI 20) m_X6_operand dX6_operand_115 (by decide) ?_
          refine e_ine (t := 168) (a := v1) (b := 20) hN m_X6_operand dX6_operand_117 (by decide) (fun q13 hN => ?_) (fun q13 hN => ?_)
          · refine e_aload_n m_X6_operand dX6_operand_120 rfl rfl rfl ?_
            refine e_iload_n m_X6_operand dX6_operand_121 rfl rfl ?_
            refine e_bipush (v := nI 29) m_X6_operand dX6_operand_122 (by decide) ?_
            refine e_aload_n m_X6_operand dX6_operand_124 rfl rfl rfl ?_
            refine e_getf m_X6_operand dX6_operand_125 f_RX6_77 (gM_m G) rfl ?_
            refine e_cvN (as := [.int (nI x1), .int (nI 29), .int (nI (m_at s1))]) hN m_X6_operand dX6_operand_128 c_RX6_99 (by decide) rfl rfl (gM_m G) rfl (Nat.le_of_ble_eq_true rfl) (Nat.le_of_ble_eq_true rfl) (by omega) (w_X6_child G (by omega)) (fun v14 s14 hN => ?_)
            refine e_istore m_X6_operand dX6_operand_131 (by decide) rfl ?_
            refine e_aload_n m_X6_operand dX6_operand_133 rfl rfl rfl ?_
            refine e_cvU (as := []) hN m_X6_operand dX6_operand_134 c_RX6_123 (by decide) rfl rfl (gM_m G) rfl (Nat.le_of_ble_eq_true rfl) (Nat.le_of_ble_eq_true rfl) (by omega) (w_X6_more G (by omega)) (fun v15 s15 hN => ?_)
            refine e_aload_n m_X6_operand dX6_operand_137 rfl rfl rfl ?_
            refine e_dup m_X6_operand dX6_operand_138 rfl ?_
            refine e_getf m_X6_operand dX6_operand_139 f_RX6_77 (gM_m G) rfl ?_
            refine e_iconst (v := nI 1) m_X6_operand dX6_operand_142 (by decide) ?_
            refine e_iaddN m_X6_operand dX6_operand_143 ?_
            refine e_putf (v := .int (nI ((m_at s15) + 1))) (h' := TM h0 (w_at s15 ((m_at s15) + 1))) m_X6_operand dX6_operand_144 f_RX6_77 (gM_m G) (Nat.le_of_ble_eq_true rfl) (fit_i rfl) rfl (hpL_set (k := 10) (by decide) (Nat.le_of_ble_eq_true rfl)) ?_
            refine e_st hN (fun s16 hN => ?_)
            refine e_aload_n m_X6_operand dX6_operand_147 rfl rfl rfl ?_
            refine e_bipush (v := nI 20) m_X6_operand dX6_operand_148 (by decide) ?_
            refine e_iload m_X6_operand dX6_operand_150 rfl ?_
            refine e_iconst (v := nI 0) m_X6_operand dX6_operand_152 (by decide) ?_
            refine e_cvU (as := [.int (nI 20), .int (nI v14), .int (nI 0)]) hN m_X6_operand dX6_operand_153 c_RX6_106 (by decide) rfl rfl (gM_m G) rfl (Nat.le_of_ble_eq_true rfl) (Nat.le_of_ble_eq_true rfl) (by omega) (w_X6_push G (by omega)) (fun v17 s17 hN => ?_)
            refine e_aload_n m_X6_operand dX6_operand_156 rfl rfl rfl ?_
            refine e_bipush (v := nI 21) m_X6_operand dX6_operand_157 (by decide) ?_
            refine e_iload m_X6_operand dX6_operand_159 rfl ?_
            refine e_iconst (v := nI 0) m_X6_operand dX6_operand_161 (by decide) ?_
            refine e_cvU (as := [.int (nI 21), .int (nI v14), .int (nI 0)]) hN m_X6_operand dX6_operand_162 c_RX6_106 (by decide) rfl rfl (gM_m G) rfl (Nat.le_of_ble_eq_true rfl) (Nat.le_of_ble_eq_true rfl) (by omega) (w_X6_push G (by omega)) (fun v18 s18 hN => ?_)
            refine e_goto (t := 226) m_X6_operand dX6_operand_165 (by decide) ?_
            exact e_ret0 m_X6_operand dX6_operand_226
          · refine e_iload_n m_X6_operand dX6_operand_168 rfl rfl ?_
            refine e_bipush (v := nI 80) m_X6_operand dX6_operand_169 (by decide) ?_
            refine e_ieq (t := 204) (a := v1) (b := 80) hN m_X6_operand dX6_operand_171 (by decide) (fun q19 hN => ?_) (fun q19 hN => ?_)
            · refine e_aload_n m_X6_operand dX6_operand_204 rfl rfl rfl ?_
              refine e_iconst (v := nI 5) m_X6_operand dX6_operand_205 (by decide) ?_
              refine e_iload_n m_X6_operand dX6_operand_206 rfl rfl ?_
              refine e_iload_n m_X6_operand dX6_operand_207 rfl rfl ?_
              refine e_cvU (as := [.int (nI 5), .int (nI x1), .int (nI x2)]) hN m_X6_operand dX6_operand_208 c_RX6_106 (by decide) rfl rfl (gM_m G) rfl (Nat.le_of_ble_eq_true rfl) (Nat.le_of_ble_eq_true rfl) (by omega) (w_X6_push G (by omega)) (fun v20 s20 hN => ?_)
              refine e_aload_n m_X6_operand dX6_operand_211 rfl rfl rfl ?_
              refine e_bipush (v := nI 18) m_X6_operand dX6_operand_212 (by decide) ?_
              refine e_iload_n m_X6_operand dX6_operand_214 rfl rfl ?_
              refine e_iconst (v := nI 1) m_X6_operand dX6_operand_215 (by decide) ?_
              refine e_cvU (as := [.int (nI 18), .int (nI x1), .int (nI 1)]) hN m_X6_operand dX6_operand_216 c_RX6_106 (by decide) rfl rfl (gM_m G) rfl (Nat.le_of_ble_eq_true rfl) (Nat.le_of_ble_eq_true rfl) (by omega) (w_X6_push G (by omega)) (fun v21 s21 hN => ?_)
              refine e_goto (t := 226) m_X6_operand dX6_operand_219 (by decide) ?_
              exact e_ret0 m_X6_operand dX6_operand_226
            · refine e_iload_n m_X6_operand dX6_operand_174 rfl rfl ?_
              refine e_bipush (v := nI 26) m_X6_operand dX6_operand_175 (by decide) ?_
              refine e_ieq (t := 204) (a := v1) (b := 26) hN m_X6_operand dX6_operand_177 (by decide) (fun q22 hN => ?_) (fun q22 hN => ?_)
              · refine e_aload_n m_X6_operand dX6_operand_204 rfl rfl rfl ?_
                refine e_iconst (v := nI 5) m_X6_operand dX6_operand_205 (by decide) ?_
                refine e_iload_n m_X6_operand dX6_operand_206 rfl rfl ?_
                refine e_iload_n m_X6_operand dX6_operand_207 rfl rfl ?_
                refine e_cvU (as := [.int (nI 5), .int (nI x1), .int (nI x2)]) hN m_X6_operand dX6_operand_208 c_RX6_106 (by decide) rfl rfl (gM_m G) rfl (Nat.le_of_ble_eq_true rfl) (Nat.le_of_ble_eq_true rfl) (by omega) (w_X6_push G (by omega)) (fun v23 s23 hN => ?_)
                refine e_aload_n m_X6_operand dX6_operand_211 rfl rfl rfl ?_
                refine e_bipush (v := nI 18) m_X6_operand dX6_operand_212 (by decide) ?_
                refine e_iload_n m_X6_operand dX6_operand_214 rfl rfl ?_
                refine e_iconst (v := nI 1) m_X6_operand dX6_operand_215 (by decide) ?_
                refine e_cvU (as := [.int (nI 18), .int (nI x1), .int (nI 1)]) hN m_X6_operand dX6_operand_216 c_RX6_106 (by decide) rfl rfl (gM_m G) rfl (Nat.le_of_ble_eq_true rfl) (Nat.le_of_ble_eq_true rfl) (by omega) (w_X6_push G (by omega)) (fun v24 s24 hN => ?_)
                refine e_goto (t := 226) m_X6_operand dX6_operand_219 (by decide) ?_
                exact e_ret0 m_X6_operand dX6_operand_226
              · refine e_iload_n m_X6_operand dX6_operand_180 rfl rfl ?_
                refine e_bipush (v := nI 12) m_X6_operand dX6_operand_181 (by decide) ?_
                refine e_ieq (t := 204) (a := v1) (b := 12) hN m_X6_operand dX6_operand_183 (by decide) (fun q25 hN => ?_) (fun q25 hN => ?_)
                · refine e_aload_n m_X6_operand dX6_operand_204 rfl rfl rfl ?_
                  refine e_iconst (v := nI 5) m_X6_operand dX6_operand_205 (by decide) ?_
                  refine e_iload_n m_X6_operand dX6_operand_206 rfl rfl ?_
                  refine e_iload_n m_X6_operand dX6_operand_207 rfl rfl ?_
                  refine e_cvU (as := [.int (nI 5), .int (nI x1), .int (nI x2)]) hN m_X6_operand dX6_operand_208 c_RX6_106 (by decide) rfl rfl (gM_m G) rfl (Nat.le_of_ble_eq_true rfl) (Nat.le_of_ble_eq_true rfl) (by omega) (w_X6_push G (by omega)) (fun v26 s26 hN => ?_)
                  refine e_aload_n m_X6_operand dX6_operand_211 rfl rfl rfl ?_
                  refine e_bipush (v := nI 18) m_X6_operand dX6_operand_212 (by decide) ?_
                  refine e_iload_n m_X6_operand dX6_operand_214 rfl rfl ?_
                  refine e_iconst (v := nI 1) m_X6_operand dX6_operand_215 (by decide) ?_
                  refine e_cvU (as := [.int (nI 18), .int (nI x1), .int (nI 1)]) hN m_X6_operand dX6_operand_216 c_RX6_106 (by decide) rfl rfl (gM_m G) rfl (Nat.le_of_ble_eq_true rfl) (Nat.le_of_ble_eq_true rfl) (by omega) (w_X6_push G (by omega)) (fun v27 s27 hN => ?_)
                  refine e_goto (t := 226) m_X6_operand dX6_operand_219 (by decide) ?_
                  exact e_ret0 m_X6_operand dX6_operand_226
                · refine e_iload_n m_X6_operand dX6_operand_186 rfl rfl ?_
                  refine e_bipush (v := nI 31) m_X6_operand dX6_operand_187 (by decide) ?_
                  refine e_ieq (t := 204) (a := v1) (b := 31) hN m_X6_operand dX6_operand_189 (by decide) (fun q28 hN => ?_) (fun q28 hN => ?_)
                  · refine e_aload_n m_X6_operand dX6_operand_204 rfl rfl rfl ?_
                    refine e_iconst (v := nI 5) m_X6_operand dX6_operand_205 (by decide) ?_
                    refine e_iload_n m_X6_operand dX6_operand_206 rfl rfl ?_
                    refine e_iload_n m_X6_operand dX6_operand_207 rfl rfl ?_
                    refine e_cvU (as := [.int (nI 5), .int (nI x1), .int (nI x2)]) hN m_X6_operand dX6_operand_208 c_RX6_106 (by decide) rfl rfl (gM_m G) rfl (Nat.le_of_ble_eq_true rfl) (Nat.le_of_ble_eq_true rfl) (by omega) (w_X6_push G (by omega)) (fun v29 s29 hN => ?_)
                    refine e_aload_n m_X6_operand dX6_operand_211 rfl rfl rfl ?_
                    refine e_bipush (v := nI 18) m_X6_operand dX6_operand_212 (by decide) ?_
                    refine e_iload_n m_X6_operand dX6_operand_214 rfl rfl ?_
                    refine e_iconst (v := nI 1) m_X6_operand dX6_operand_215 (by decide) ?_
                    refine e_cvU (as := [.int (nI 18), .int (nI x1), .int (nI 1)]) hN m_X6_operand dX6_operand_216 c_RX6_106 (by decide) rfl rfl (gM_m G) rfl (Nat.le_of_ble_eq_true rfl) (Nat.le_of_ble_eq_true rfl) (by omega) (w_X6_push G (by omega)) (fun v30 s30 hN => ?_)
                    refine e_goto (t := 226) m_X6_operand dX6_operand_219 (by decide) ?_
                    exact e_ret0 m_X6_operand dX6_operand_226
                  · refine e_iload_n m_X6_operand dX6_operand_192 rfl rfl ?_
                    refine e_bipush (v := nI 25) m_X6_operand dX6_operand_193 (by decide) ?_
                    refine e_ieq (t := 204) (a := v1) (b := 25) hN m_X6_operand dX6_operand_195 (by decide) (fun q31 hN => ?_) (fun q31 hN => ?_)
                    · refine e_aload_n m_X6_operand dX6_operand_204 rfl rfl rfl ?_
                      refine e_iconst (v := nI 5) m_X6_operand dX6_operand_205 (by decide) ?_
                      refine e_iload_n m_X6_operand dX6_operand_206 rfl rfl ?_
                      refine e_iload_n m_X6_operand dX6_operand_207 rfl rfl ?_
                      refine e_cvU (as := [.int (nI 5), .int (nI x1), .int (nI x2)]) hN m_X6_operand dX6_operand_208 c_RX6_106 (by decide) rfl rfl (gM_m G) rfl (Nat.le_of_ble_eq_true rfl) (Nat.le_of_ble_eq_true rfl) (by omega) (w_X6_push G (by omega)) (fun v32 s32 hN => ?_)
                      refine e_aload_n m_X6_operand dX6_operand_211 rfl rfl rfl ?_
                      refine e_bipush (v := nI 18) m_X6_operand dX6_operand_212 (by decide) ?_
                      refine e_iload_n m_X6_operand dX6_operand_214 rfl rfl ?_
                      refine e_iconst (v := nI 1) m_X6_operand dX6_operand_215 (by decide) ?_
                      refine e_cvU (as := [.int (nI 18), .int (nI x1), .int (nI 1)]) hN m_X6_operand dX6_operand_216 c_RX6_106 (by decide) rfl rfl (gM_m G) rfl (Nat.le_of_ble_eq_true rfl) (Nat.le_of_ble_eq_true rfl) (by omega) (w_X6_push G (by omega)) (fun v33 s33 hN => ?_)
                      refine e_goto (t := 226) m_X6_operand dX6_operand_219 (by decide) ?_
                      exact e_ret0 m_X6_operand dX6_operand_226
                    · refine e_iload_n m_X6_operand dX6_operand_198 rfl rfl ?_
                      refine e_bipush (v := nI 64) m_X6_operand dX6_operand_199 (by decide) ?_
                      refine e_ine (t := 222) (a := v1) (b := 64) hN m_X6_operand dX6_operand_201 (by decide) (fun q34 hN => ?_) (fun q34 hN => ?_)
                      · refine e_aload_n m_X6_operand dX6_operand_204 rfl rfl rfl ?_
                        refine e_iconst (v := nI 5) m_X6_operand dX6_operand_205 (by decide) ?_
                        refine e_iload_n m_X6_operand dX6_operand_206 rfl rfl ?_
                        refine e_iload_n m_X6_operand dX6_operand_207 rfl rfl ?_
                        refine e_cvU (as := [.int (nI 5), .int (nI x1), .int (nI x2)]) hN m_X6_operand dX6_operand_208 c_RX6_106 (by decide) rfl rfl (gM_m G) rfl (Nat.le_of_ble_eq_true rfl) (Nat.le_of_ble_eq_true rfl) (by omega) (w_X6_push G (by omega)) (fun v35 s35 hN => ?_)
                        refine e_aload_n m_X6_operand dX6_operand_211 rfl rfl rfl ?_
                        refine e_bipush (v := nI 18) m_X6_operand dX6_operand_212 (by decide) ?_
                        refine e_iload_n m_X6_operand dX6_operand_214 rfl rfl ?_
                        refine e_iconst (v := nI 1) m_X6_operand dX6_operand_215 (by decide) ?_
                        refine e_cvU (as := [.int (nI 18), .int (nI x1), .int (nI 1)]) hN m_X6_operand dX6_operand_216 c_RX6_106 (by decide) rfl rfl (gM_m G) rfl (Nat.le_of_ble_eq_true rfl) (Nat.le_of_ble_eq_true rfl) (by omega) (w_X6_push G (by omega)) (fun v36 s36 hN => ?_)
                        refine e_goto (t := 226) m_X6_operand dX6_operand_219 (by decide) ?_
                        exact e_ret0 m_X6_operand dX6_operand_226
                      · refine e_aload_n m_X6_operand dX6_operand_222 rfl rfl rfl ?_
                        refine e_cvU (as := []) hN m_X6_operand dX6_operand_223 c_RX6_87 (by decide) rfl rfl (gM_m G) rfl (Nat.le_of_ble_eq_true rfl) (Nat.le_of_ble_eq_true rfl) (by omega) (w_X6_error G (by omega)) (fun v37 s37 hN => ?_)
                        exact e_ret0 m_X6_operand dX6_operand_226
    · refine e_aload_n m_X6_operand dX6_operand_15 rfl rfl rfl ?_
      refine e_iload_n m_X6_operand dX6_operand_16 rfl rfl ?_
      refine e_bipush (v := nI 88) m_X6_operand dX6_operand_17 (by decide) ?_
      refine e_aload_n m_X6_operand dX6_operand_19 rfl rfl rfl ?_
      refine e_getf m_X6_operand dX6_operand_20 f_RX6_77 (gM_m G) rfl ?_
      refine e_cvN (as := [.int (nI x1), .int (nI 88), .int (nI (m_at s1))]) hN m_X6_operand dX6_operand_23 c_RX6_99 (by decide) rfl rfl (gM_m G) rfl (Nat.le_of_ble_eq_true rfl) (Nat.le_of_ble_eq_true rfl) (by omega) (w_X6_child G (by omega)) (fun v38 s38 hN => ?_)
      refine e_pop m_X6_operand dX6_operand_26 rfl ?_
      refine e_aload_n m_X6_operand dX6_operand_27 rfl rfl rfl ?_
      refine e_dup m_X6_operand dX6_operand_28 rfl ?_
      refine e_getf m_X6_operand dX6_operand_29 f_RX6_77 (gM_m G) rfl ?_
      refine e_iconst (v := nI 1) m_X6_operand dX6_operand_32 (by decide) ?_
      refine e_iaddN m_X6_operand dX6_operand_33 ?_
      refine e_putf (v := .int (nI ((m_at s38) + 1))) (h' := TM h0 (w_at s38 ((m_at s38) + 1))) m_X6_operand dX6_operand_34 f_RX6_77 (gM_m G) (Nat.le_of_ble_eq_true rfl) (fit_i rfl) rfl (hpL_set (k := 10) (by decide) (Nat.le_of_ble_eq_true rfl)) ?_
      refine e_st hN (fun s39 hN => ?_)
      refine e_goto (t := 226) m_X6_operand dX6_operand_37 (by decide) ?_
      exact e_ret0 m_X6_operand dX6_operand_226
  · refine e_iload_n m_X6_operand dX6_operand_40 rfl rfl ?_
    refine e_iconst (v := nI 1) m_X6_operand dX6_operand_41 (by decide) ?_
    refine e_ine (t := 61) (a := v1) (b := 1) hN m_X6_operand dX6_operand_42 (by decide) (fun q40 hN => ?_) (fun q40 hN => ?_)
    · refine e_aload_n m_X6_operand dX6_operand_45 rfl rfl rfl ?_
      refine e_iload_n m_X6_operand dX6_operand_46 rfl rfl ?_
      refine e_cvN (as := [.int (nI x1)]) hN m_X6_operand dX6_operand_47 c_RX6_130 (by decide) rfl rfl (gM_m G) rfl (Nat.le_of_ble_eq_true rfl) (Nat.le_of_ble_eq_true rfl) (by omega) (w_X6_name G (by omega)) (fun v41 s41 hN => ?_)
      refine e_pop m_X6_operand dX6_operand_50 rfl ?_
      refine e_aload_n m_X6_operand dX6_operand_51 rfl rfl rfl ?_
      refine e_iconst (v := nI 5) m_X6_operand dX6_operand_52 (by decide) ?_
      refine e_iload_n m_X6_operand dX6_operand_53 rfl rfl ?_
      refine e_iload_n m_X6_operand dX6_operand_54 rfl rfl ?_
      refine e_cvU (as := [.int (nI 5), .int (nI x1), .int (nI x2)]) hN m_X6_operand dX6_operand_55 c_RX6_106 (by decide) rfl rfl (gM_m G) rfl (Nat.le_of_ble_eq_true rfl) (Nat.le_of_ble_eq_true rfl) (by omega) (w_X6_push G (by omega)) (fun v42 s42 hN => ?_)
      refine e_goto (t := 226) m_X6_operand dX6_operand_58 (by decide) ?_
      exact e_ret0 m_X6_operand dX6_operand_226
    · refine e_iload_n m_X6_operand dX6_operand_61 rfl rfl ?_
      refine e_bipush (v := nI 78) m_X6_operand dX6_operand_62 (by decide) ?_
      refine e_ine (t := 114) (a := v1) (b := 78) hN m_X6_operand dX6_operand_64 (by decide) (fun q43 hN => ?_) (fun q43 hN => ?_)
      · refine e_aload_n m_X6_operand dX6_operand_67 rfl rfl rfl ?_
        refine e_iload_n m_X6_operand dX6_operand_68 rfl rfl ?_
        refine e_bipush (v := nI 89) m_X6_operand dX6_operand_69 (by decide) ?_
        refine e_aload_n m_X6_operand dX6_operand_71 rfl rfl rfl ?_
        refine e_getf m_X6_operand dX6_operand_72 f_RX6_77 (gM_m G) rfl ?_
        refine e_cvN (as := [.int (nI x1), .int (nI 89), .int (nI (m_at s1))]) hN m_X6_operand dX6_operand_75 c_RX6_99 (by decide) rfl rfl (gM_m G) rfl (Nat.le_of_ble_eq_true rfl) (Nat.le_of_ble_eq_true rfl) (by omega) (w_X6_child G (by omega)) (fun v44 s44 hN => ?_)
        refine e_istore m_X6_operand dX6_operand_78 (by decide) rfl ?_
        refine e_aload_n m_X6_operand dX6_operand_80 rfl rfl rfl ?_
        refine e_cvU (as := []) hN m_X6_operand dX6_operand_81 c_RX6_123 (by decide) rfl rfl (gM_m G) rfl (Nat.le_of_ble_eq_true rfl) (Nat.le_of_ble_eq_true rfl) (by omega) (w_X6_more G (by omega)) (fun v45 s45 hN => ?_)
        refine e_aload_n m_X6_operand dX6_operand_84 rfl rfl rfl ?_
        refine e_dup m_X6_operand dX6_operand_85 rfl ?_
        refine e_getf m_X6_operand dX6_operand_86 f_RX6_77 (gM_m G) rfl ?_
        refine e_iconst (v := nI 1) m_X6_operand dX6_operand_89 (by decide) ?_
        refine e_iaddN m_X6_operand dX6_operand_90 ?_
        refine e_putf (v := .int (nI ((m_at s45) + 1))) (h' := TM h0 (w_at s45 ((m_at s45) + 1))) m_X6_operand dX6_operand_91 f_RX6_77 (gM_m G) (Nat.le_of_ble_eq_true rfl) (fit_i rfl) rfl (hpL_set (k := 10) (by decide) (Nat.le_of_ble_eq_true rfl)) ?_
        refine e_st hN (fun s46 hN => ?_)
        refine e_aload_n m_X6_operand dX6_operand_94 rfl rfl rfl ?_
        refine e_bipush (v := nI 8) m_X6_operand dX6_operand_95 (by decide) ?_
        refine e_bipush (v := nI 79) m_X6_operand dX6_operand_97 (by decide) ?_
        refine e_iconst (v := nI 0) m_X6_operand dX6_operand_99 (by decide) ?_
        refine e_cvU (as := [.int (nI 8), .int (nI 79), .int (nI 0)]) hN m_X6_operand dX6_operand_100 c_RX6_106 (by decide) rfl rfl (gM_m G) rfl (Nat.le_of_ble_eq_true rfl) (Nat.le_of_ble_eq_true rfl) (by omega) (w_X6_push G (by omega)) (fun v47 s47 hN => ?_)
        refine e_aload_n m_X6_operand dX6_operand_103 rfl rfl rfl ?_
        refine e_iload m_X6_operand dX6_operand_104 rfl ?_
        refine e_iconst (v := nI 0) m_X6_operand dX6_operand_106 (by decide) ?_
        refine e_iconst (v := nI 1) m_X6_operand dX6_operand_107 (by decide) ?_
        refine e_cvU (as := [.int (nI v44), .int (nI 0), .int (nI 1)]) hN m_X6_operand dX6_operand_108 c_RX6_117 (by decide) rfl rfl (gM_m G) rfl (Nat.le_of_ble_eq_true rfl) (Nat.le_of_ble_eq_true rfl) (by omega) (w_X6_expression G (by omega)) (fun v48 s48 hN => ?_)
        refine e_goto (t := 226) m_X6_operand dX6_operand_111 (by decide) ?_
        exact e_ret0 m_X6_operand dX6_operand_226
      · refine e_iload_n m_X6_operand dX6_operand_114 rfl rfl ?_
        refine e_bipush (v := nI 20) m_X6_operand dX6_operand_115 (by decide) ?_
        refine e_ine (t := 168) (a := v1) (b := 20) hN m_X6_operand dX6_operand_117 (by decide) (fun q49 hN => ?_) (fun q49 hN => ?_)
        · refine e_aload_n m_X6_operand dX6_operand_120 rfl rfl rfl ?_
          refine e_iload_n m_X6_operand dX6_operand_121 rfl rfl ?_
          refine e_bipush (v := nI 29) m_X6_operand dX6_operand_122 (by decide) ?_
          refine e_aload_n m_X6_operand dX6_operand_124 rfl rfl rfl ?_
          refine e_getf m_X6_operand dX6_operand_125 f_RX6_77 (gM_m G) rfl ?_
          refine e_cvN (as := [.int (nI x1), .int (nI 29), .int (nI (m_at s1))]) hN m_X6_operand dX6_operand_128 c_RX6_99 (by decide) rfl rfl (gM_m G) rfl (Nat.le_of_ble_eq_true rfl) (Nat.le_of_ble_eq_true rfl) (by omega) (w_X6_child G (by omega)) (fun v50 s50 hN => ?_)
          refine e_istore m_X6_operand dX6_operand_131 (by decide) rfl ?_
          refine e_aload_n m_X6_operand dX6_operand_133 rfl rfl rfl ?_
          refine e_cvU (as := []) hN m_X6_operand dX6_operand_134 c_RX6_123 (by decide) rfl rfl (gM_m G) rfl (Nat.le_of_ble_eq_true rfl) (Nat.le_of_ble_eq_true rfl) (by omega) (w_X6_more G (by omega)) (fun v51 s51 hN => ?_)
          refine e_aload_n m_X6_operand dX6_operand_137 rfl rfl rfl ?_
          refine e_dup m_X6_operand dX6_operand_138 rfl ?_
          refine e_getf m_X6_operand dX6_operand_139 f_RX6_77 (gM_m G) rfl ?_
          refine e_iconst (v := nI 1) m_X6_operand dX6_operand_142 (by decide) ?_
          refine e_iaddN m_X6_operand dX6_operand_143 ?_
          refine e_putf (v := .int (nI ((m_at s51) + 1))) (h' := TM h0 (w_at s51 ((m_at s51) + 1))) m_X6_operand dX6_operand_144 f_RX6_77 (gM_m G) (Nat.le_of_ble_eq_true rfl) (fit_i rfl) rfl (hpL_set (k := 10) (by decide) (Nat.le_of_ble_eq_true rfl)) ?_
          refine e_st hN (fun s52 hN => ?_)
          refine e_aload_n m_X6_operand dX6_operand_147 rfl rfl rfl ?_
          refine e_bipush (v := nI 20) m_X6_operand dX6_operand_148 (by decide) ?_
          refine e_iload m_X6_operand dX6_operand_150 rfl ?_
          refine e_iconst (v := nI 0) m_X6_operand dX6_operand_152 (by decide) ?_
          refine e_cvU (as := [.int (nI 20), .int (nI v50), .int (nI 0)]) hN m_X6_operand dX6_operand_153 c_RX6_106 (by decide) rfl rfl (gM_m G) rfl (Nat.le_of_ble_eq_true rfl) (Nat.le_of_ble_eq_true rfl) (by omega) (w_X6_push G (by omega)) (fun v53 s53 hN => ?_)
          refine e_aload_n m_X6_operand dX6_operand_156 rfl rfl rfl ?_
          refine e_bipush (v := nI 21) m_X6_operand dX6_operand_157 (by decide) ?_
          refine e_iload m_X6_operand dX6_operand_159 rfl ?_
          refine e_iconst (v := nI 0) m_X6_operand dX6_operand_161 (by decide) ?_
          refine e_cvU (as := [.int (nI 21), .int (nI v50), .int (nI 0)]) hN m_X6_operand dX6_operand_162 c_RX6_106 (by decide) rfl rfl (gM_m G) rfl (Nat.le_of_ble_eq_true rfl) (Nat.le_of_ble_eq_true rfl) (by omega) (w_X6_push G (by omega)) (fun v54 s54 hN => ?_)
          refine e_goto (t := 226) m_X6_operand dX6_operand_165 (by decide) ?_
          exact e_ret0 m_X6_operand dX6_operand_226
        · refine e_iload_n m_X6_operand dX6_operand_168 rfl rfl ?_
          refine e_bipush (v := nI 80) m_X6_operand dX6_operand_169 (by decide) ?_
          refine e_ieq (t := 204) (a := v1) (b := 80) hN m_X6_operand dX6_operand_171 (by decide) (fun q55 hN => ?_) (fun q55 hN => ?_)
          · refine e_aload_n m_X6_operand dX6_operand_204 rfl rfl rfl ?_
            refine e_iconst (v := nI 5) m_X6_operand dX6_operand_205 (by decide) ?_
            refine e_iload_n m_X6_operand dX6_operand_206 rfl rfl ?_
            refine e_iload_n m_X6_operand dX6_operand_207 rfl rfl ?_
            refine e_cvU (as := [.int (nI 5), .int (nI x1), .int (nI x2)]) hN m_X6_operand dX6_operand_208 c_RX6_106 (by decide) rfl rfl (gM_m G) rfl (Nat.le_of_ble_eq_true rfl) (Nat.le_of_ble_eq_true rfl) (by omega) (w_X6_push G (by omega)) (fun v56 s56 hN => ?_)
            refine e_aload_n m_X6_operand dX6_operand_211 rfl rfl rfl ?_
            refine e_bipush (v := nI 18) m_X6_operand dX6_operand_212 (by decide) ?_
            refine e_iload_n m_X6_operand dX6_operand_214 rfl rfl ?_
            refine e_iconst (v := nI 1) m_X6_operand dX6_operand_215 (by decide) ?_
            refine e_cvU (as := [.int (nI 18), .int (nI x1), .int (nI 1)]) hN m_X6_operand dX6_operand_216 c_RX6_106 (by decide) rfl rfl (gM_m G) rfl (Nat.le_of_ble_eq_true rfl) (Nat.le_of_ble_eq_true rfl) (by omega) (w_X6_push G (by omega)) (fun v57 s57 hN => ?_)
            refine e_goto (t := 226) m_X6_operand dX6_operand_219 (by decide) ?_
            exact e_ret0 m_X6_operand dX6_operand_226
          · refine e_iload_n m_X6_operand dX6_operand_174 rfl rfl ?_
            refine e_bipush (v := nI 26) m_X6_operand dX6_operand_175 (by decide) ?_
            refine e_ieq (t := 204) (a := v1) (b := 26) hN m_X6_operand dX6_operand_177 (by decide) (fun q58 hN => ?_) (fun q58 hN => ?_)
            · refine e_aload_n m_X6_operand dX6_operand_204 rfl rfl rfl ?_
              refine e_iconst (v := nI 5) m_X6_operand dX6_operand_205 (by decide) ?_
              refine e_iload_n m_X6_operand dX6_operand_206 rfl rfl ?_
              refine e_iload_n m_X6_operand dX6_operand_207 rfl rfl ?_
              refine e_cvU (as := [.int (nI 5), .int (nI x1), .int (nI x2)]) hN m_X6_operand dX6_operand_208 c_RX6_106 (by decide) rfl rfl (gM_m G) rfl (Nat.le_of_ble_eq_true rfl) (Nat.le_of_ble_eq_true rfl) (by omega) (w_X6_push G (by omega)) (fun v59 s59 hN => ?_)
              refine e_aload_n m_X6_operand dX6_operand_211 rfl rfl rfl ?_
              refine e_bipush (v := nI 18) m_X6_operand dX6_operand_212 (by decide) ?_
              refine e_iload_n m_X6_operand dX6_operand_214 rfl rfl ?_
              refine e_iconst (v := nI 1) m_X6_operand dX6_operand_215 (by decide) ?_
              refine e_cvU (as := [.int (nI 18), .int (nI x1), .int (nI 1)]) hN m_X6_operand dX6_operand_216 c_RX6_106 (by decide) rfl rfl (gM_m G) rfl (Nat.le_of_ble_eq_true rfl) (Nat.le_of_ble_eq_true rfl) (by omega) (w_X6_push G (by omega)) (fun v60 s60 hN => ?_)
              refine e_goto (t := 226) m_X6_operand dX6_operand_219 (by decide) ?_
              exact e_ret0 m_X6_operand dX6_operand_226
            · refine e_iload_n m_X6_operand dX6_operand_180 rfl rfl ?_
              refine e_bipush (v := nI 12) m_X6_operand dX6_operand_181 (by decide) ?_
              refine e_ieq (t := 204) (a := v1) (b := 12) hN m_X6_operand dX6_operand_183 (by decide) (fun q61 hN => ?_) (fun q61 hN => ?_)
              · refine e_aload_n m_X6_operand dX6_operand_204 rfl rfl rfl ?_
                refine e_iconst (v := nI 5) m_X6_operand dX6_operand_205 (by decide) ?_
                refine e_iload_n m_X6_operand dX6_operand_206 rfl rfl ?_
                refine e_iload_n m_X6_operand dX6_operand_207 rfl rfl ?_
                refine e_cvU (as := [.int (nI 5), .int (nI x1), .int (nI x2)]) hN m_X6_operand dX6_operand_208 c_RX6_106 (by decide) rfl rfl (gM_m G) rfl (Nat.le_of_ble_eq_true rfl) (Nat.le_of_ble_eq_true rfl) (by omega) (w_X6_push G (by omega)) (fun v62 s62 hN => ?_)
                refine e_aload_n m_X6_operand dX6_operand_211 rfl rfl rfl ?_
                refine e_bipush (v := nI 18) m_X6_operand dX6_operand_212 (by decide) ?_
                refine e_iload_n m_X6_operand dX6_operand_214 rfl rfl ?_
                refine e_iconst (v := nI 1) m_X6_operand dX6_operand_215 (by decide) ?_
                refine e_cvU (as := [.int (nI 18), .int (nI x1), .int (nI 1)]) hN m_X6_operand dX6_operand_216 c_RX6_106 (by decide) rfl rfl (gM_m G) rfl (Nat.le_of_ble_eq_true rfl) (Nat.le_of_ble_eq_true rfl) (by omega) (w_X6_push G (by omega)) (fun v63 s63 hN => ?_)
                refine e_goto (t := 226) m_X6_operand dX6_operand_219 (by decide) ?_
                exact e_ret0 m_X6_operand dX6_operand_226
              · refine e_iload_n m_X6_operand dX6_operand_186 rfl rfl ?_
                refine e_bipush (v := nI 31) m_X6_operand dX6_operand_187 (by decide) ?_
                refine e_ieq (t := 204) (a := v1) (b := 31) hN m_X6_operand dX6_operand_189 (by decide) (fun q64 hN => ?_) (fun q64 hN => ?_)
                · refine e_aload_n m_X6_operand dX6_operand_204 rfl rfl rfl ?_
                  refine e_iconst (v := nI 5) m_X6_operand dX6_operand_205 (by decide) ?_
                  refine e_iload_n m_X6_operand dX6_operand_206 rfl rfl ?_
                  refine e_iload_n m_X6_operand dX6_operand_207 rfl rfl ?_
                  refine e_cvU (as := [.int (nI 5), .int (nI x1), .int (nI x2)]) hN m_X6_operand dX6_operand_208 c_RX6_106 (by decide) rfl rfl (gM_m G) rfl (Nat.le_of_ble_eq_true rfl) (Nat.le_of_ble_eq_true rfl) (by omega) (w_X6_push G (by omega)) (fun v65 s65 hN => ?_)
                  refine e_aload_n m_X6_operand dX6_operand_211 rfl rfl rfl ?_
                  refine e_bipush (v := nI 18) m_X6_operand dX6_operand_212 (by decide) ?_
                  refine e_iload_n m_X6_operand dX6_operand_214 rfl rfl ?_
                  refine e_iconst (v := nI 1) m_X6_operand dX6_operand_215 (by decide) ?_
                  refine e_cvU (as := [.int (nI 18), .int (nI x1), .int (nI 1)]) hN m_X6_operand dX6_operand_216 c_RX6_106 (by decide) rfl rfl (gM_m G) rfl (Nat.le_of_ble_eq_true rfl) (Nat.le_of_ble_eq_true rfl) (by omega) (w_X6_push G (by omega)) (fun v66 s66 hN => ?_)
                  refine e_goto (t := 226) m_X6_operand dX6_operand_219 (by decide) ?_
                  exact e_ret0 m_X6_operand dX6_operand_226
                · refine e_iload_n m_X6_operand dX6_operand_192 rfl rfl ?_
                  refine e_bipush (v := nI 25) m_X6_operand dX6_operand_193 (by decide) ?_
                  refine e_ieq (t := 204) (a := v1) (b := 25) hN m_X6_operand dX6_operand_195 (by decide) (fun q67 hN => ?_) (fun q67 hN => ?_)
                  · refine e_aload_n m_X6_operand dX6_operand_204 rfl rfl rfl ?_
                    refine e_iconst (v := nI 5) m_X6_operand dX6_operand_205 (by decide) ?_
                    refine e_iload_n m_X6_operand dX6_operand_206 rfl rfl ?_
                    refine e_iload_n m_X6_operand dX6_operand_207 rfl rfl ?_
                    refine e_cvU (as := [.int (nI 5), .int (nI x1), .int (nI x2)]) hN m_X6_operand dX6_operand_208 c_RX6_106 (by decide) rfl rfl (gM_m G) rfl (Nat.le_of_ble_eq_true rfl) (Nat.le_of_ble_eq_true rfl) (by omega) (w_X6_push G (by omega)) (fun v68 s68 hN => ?_)
                    refine e_aload_n m_X6_operand dX6_operand_211 rfl rfl rfl ?_
                    refine e_bipush (v := nI 18) m_X6_operand dX6_operand_212 (by decide) ?_
                    refine e_iload_n m_X6_operand dX6_operand_214 rfl rfl ?_
                    refine e_iconst (v := nI 1) m_X6_operand dX6_operand_215 (by decide) ?_
                    refine e_cvU (as := [.int (nI 18), .int (nI x1), .int (nI 1)]) hN m_X6_operand dX6_operand_216 c_RX6_106 (by decide) rfl rfl (gM_m G) rfl (Nat.le_of_ble_eq_true rfl) (Nat.le_of_ble_eq_true rfl) (by omega) (w_X6_push G (by omega)) (fun v69 s69 hN => ?_)
                    refine e_goto (t := 226) m_X6_operand dX6_operand_219 (by decide) ?_
                    exact e_ret0 m_X6_operand dX6_operand_226
                  · refine e_iload_n m_X6_operand dX6_operand_198 rfl rfl ?_
                    refine e_bipush (v := nI 64) m_X6_operand dX6_operand_199 (by decide) ?_
                    refine e_ine (t := 222) (a := v1) (b := 64) hN m_X6_operand dX6_operand_201 (by decide) (fun q70 hN => ?_) (fun q70 hN => ?_)
                    · refine e_aload_n m_X6_operand dX6_operand_204 rfl rfl rfl ?_
                      refine e_iconst (v := nI 5) m_X6_operand dX6_operand_205 (by decide) ?_
                      refine e_iload_n m_X6_operand dX6_operand_206 rfl rfl ?_
                      refine e_iload_n m_X6_operand dX6_operand_207 rfl rfl ?_
                      refine e_cvU (as := [.int (nI 5), .int (nI x1), .int (nI x2)]) hN m_X6_operand dX6_operand_208 c_RX6_106 (by decide) rfl rfl (gM_m G) rfl (Nat.le_of_ble_eq_true rfl) (Nat.le_of_ble_eq_true rfl) (by omega) (w_X6_push G (by omega)) (fun v71 s71 hN => ?_)
                      refine e_aload_n m_X6_operand dX6_operand_211 rfl rfl rfl ?_
                      refine e_bipush (v := nI 18) m_X6_operand dX6_operand_212 (by decide) ?_
                      refine e_iload_n m_X6_operand dX6_operand_214 rfl rfl ?_
                      refine e_iconst (v := nI 1) m_X6_operand dX6_operand_215 (by decide) ?_
                      refine e_cvU (as := [.int (nI 18), .int (nI x1), .int (nI 1)]) hN m_X6_operand dX6_operand_216 c_RX6_106 (by decide) rfl rfl (gM_m G) rfl (Nat.le_of_ble_eq_true rfl) (Nat.le_of_ble_eq_true rfl) (by omega) (w_X6_push G (by omega)) (fun v72 s72 hN => ?_)
                      refine e_goto (t := 226) m_X6_operand dX6_operand_219 (by decide) ?_
                      exact e_ret0 m_X6_operand dX6_operand_226
                    · refine e_aload_n m_X6_operand dX6_operand_222 rfl rfl rfl ?_
                      refine e_cvU (as := []) hN m_X6_operand dX6_operand_223 c_RX6_87 (by decide) rfl rfl (gM_m G) rfl (Nat.le_of_ble_eq_true rfl) (Nat.le_of_ble_eq_true rfl) (by omega) (w_X6_error G (by omega)) (fun v73 s73 hN => ?_)
                      exact e_ret0 m_X6_operand dX6_operand_226

def b_X6_dot  (x1 : Nat) (x2 : Nat) (s : Mm) : Rs Mm := st1 (w_at s ((m_at s) + 1)) (fun s1 => bn (b_X6_look  s1) (fun v2 s2 => ife v2 1 (bn (b_X6_wrap x1 82 (m_at s) s2) (fun v4 s4 => bn (b_X6_name v4 s4) (fun v5 s5 => bn (b_X6_push 4 x1 x2 s5) (fun v6 s6 => okR 0 s6)))) (bn (b_X6_look  s2) (fun v7 s7 => ife v7 78 (bn (b_X6_more  s7) (fun v9 s9 => st1 (w_at s9 ((m_at s9) + 1)) (fun s10 => bn (b_X6_look  s10) (fun v11 s11 => ife v11 33 (ck (x2 < 2147483648) (ifz (f_X6_has x2 2) (bn (b_X6_wrap x1 83 (m_at s) s11) (fun v15 s15 => bn (b_X6_push 4 x1 x2 s15) (fun v16 s16 => bn (b_X6_push 8 79 0 s16) (fun v17 s17 => bn (b_X6_push 18 v15 0 s17) (fun v18 s18 => okR 0 s18))))) (bn (b_X6_wrap x1 69 (m_at s11) s11) (fun v19 s19 => st1 (w_at s19 ((m_at s19) + 1)) (fun s20 => bn (b_X6_push 56 x1 0 s20) (fun v21 s21 => bn (b_X6_push 8 79 0 s21) (fun v22 s22 => okR 0 s22))))))) (bn (b_X6_wrap x1 83 (m_at s) s11) (fun v23 s23 => bn (b_X6_push 4 x1 x2 s23) (fun v24 s24 => bn (b_X6_push 8 79 0 s24) (fun v25 s25 => bn (b_X6_push 18 v23 0 s25) (fun v26 s26 => okR 0 s26))))))))) (bn (b_X6_error  s7) (fun v27 s27 => okR 0 s27))))))
theorem w_X6_dot {xs : Nat → Int32} {L : Nat} {h0 : mm_H} (G : Mg h0) {x1 : Nat} {x2 : Nat} {s : Mm} {d : Nat} (hd : 12 ≤ d) (hN : b_X6_dot  x1 x2 s ≠ none) : Rn xs L d 146 [.ref 10, .int (nI x1), .int (nI x2)] (TM h0 s) (ou eU (TM h0) (b_X6_dot  x1 x2 s)) := by
  unfold Rn
  unfold b_X6_dot at hN ⊢
  refine e_aload_n m_X6_dot dX6_dot_0 rfl rfl rfl ?_
  refine e_getf m_X6_dot dX6_dot_1 f_RX6_77 (gM_m G) rfl ?_
  refine e_istore_n m_X6_dot dX6_dot_4 rfl (by decide) rfl ?_
  refine e_aload_n m_X6_dot dX6_dot_5 rfl rfl rfl ?_
  refine e_dup m_X6_dot dX6_dot_6 rfl ?_
  refine e_getf m_X6_dot dX6_dot_7 f_RX6_77 (gM_m G) rfl ?_
  refine e_iconst (v := nI 1) m_X6_dot dX6_dot_10 (by decide) ?_
  refine e_iaddN m_X6_dot dX6_dot_11 ?_
  refine e_putf (v := .int (nI ((m_at s) + 1))) (h' := TM h0 (w_at s ((m_at s) + 1))) m_X6_dot dX6_dot_12 f_RX6_77 (gM_m G) (Nat.le_of_ble_eq_true rfl) (fit_i rfl) rfl (hpL_set (k := 10) (by decide) (Nat.le_of_ble_eq_true rfl)) ?_
  refine e_st hN (fun s1 hN => ?_)
  refine e_aload_n m_X6_dot dX6_dot_15 rfl rfl rfl ?_
  refine e_cvN (as := []) hN m_X6_dot dX6_dot_16 c_RX6_83 (by decide) rfl rfl (gM_m G) rfl (Nat.le_of_ble_eq_true rfl) (Nat.le_of_ble_eq_true rfl) (by omega) (w_X6_look G (by omega)) (fun v2 s2 hN => ?_)
  refine e_iconst (v := nI 1) m_X6_dot dX6_dot_19 (by decide) ?_
  refine e_ine (t := 48) (a := v2) (b := 1) hN m_X6_dot dX6_dot_20 (by decide) (fun q3 hN => ?_) (fun q3 hN => ?_)
  · refine e_aload_n m_X6_dot dX6_dot_23 rfl rfl rfl ?_
    refine e_iload_n m_X6_dot dX6_dot_24 rfl rfl ?_
    refine e_bipush (v := nI 82) m_X6_dot dX6_dot_25 (by decide) ?_
    refine e_iload_n m_X6_dot dX6_dot_27 rfl rfl ?_
    refine e_cvN (as := [.int (nI x1), .int (nI 82), .int (nI (m_at s))]) hN m_X6_dot dX6_dot_28 c_RX6_114 (by decide) rfl rfl (gM_m G) rfl (Nat.le_of_ble_eq_true rfl) (Nat.le_of_ble_eq_true rfl) (by omega) (w_X6_wrap G (by omega)) (fun v4 s4 hN => ?_)
    refine e_istore m_X6_dot dX6_dot_31 (by decide) rfl ?_
    refine e_aload_n m_X6_dot dX6_dot_33 rfl rfl rfl ?_
    refine e_iload m_X6_dot dX6_dot_34 rfl ?_
    refine e_cvN (as := [.int (nI v4)]) hN m_X6_dot dX6_dot_36 c_RX6_130 (by decide) rfl rfl (gM_m G) rfl (Nat.le_of_ble_eq_true rfl) (Nat.le_of_ble_eq_true rfl) (by omega) (w_X6_name G (by omega)) (fun v5 s5 hN => ?_)
    refine e_pop m_X6_dot dX6_dot_39 rfl ?_
    refine e_aload_n m_X6_dot dX6_dot_40 rfl rfl rfl ?_
    refine e_iconst (v := nI 4) m_X6_dot dX6_dot_41 (by decide) ?_
    refine e_iload_n m_X6_dot dX6_dot_42 rfl rfl ?_
    refine e_iload_n m_X6_dot dX6_dot_43 rfl rfl ?_
    refine e_cvU (as := [.int (nI 4), .int (nI x1), .int (nI x2)]) hN m_X6_dot dX6_dot_44 c_RX6_106 (by decide) rfl rfl (gM_m G) rfl (Nat.le_of_ble_eq_true rfl) (Nat.le_of_ble_eq_true rfl) (by omega) (w_X6_push G (by omega)) (fun v6 s6 hN => ?_)
    exact e_ret0 m_X6_dot dX6_dot_47
  · refine e_aload_n m_X6_dot dX6_dot_48 rfl rfl rfl ?_
    refine e_cvN (as := []) hN m_X6_dot dX6_dot_49 c_RX6_83 (by decide) rfl rfl (gM_m G) rfl (Nat.le_of_ble_eq_true rfl) (Nat.le_of_ble_eq_true rfl) (by omega) (w_X6_look G (by omega)) (fun v7 s7 hN => ?_)
    refine e_bipush (v := nI 78) m_X6_dot dX6_dot_52 (by decide) ?_
    refine e_ieq (t := 62) (a := v7) (b := 78) hN m_X6_dot dX6_dot_54 (by decide) (fun q8 hN => ?_) (fun q8 hN => ?_)
    · refine e_aload_n m_X6_dot dX6_dot_62 rfl rfl rfl ?_
      refine e_cvU (as := []) hN m_X6_dot dX6_dot_63 c_RX6_123 (by decide) rfl rfl (gM_m G) rfl (Nat.le_of_ble_eq_true rfl) (Nat.le_of_ble_eq_true rfl) (by omega) (w_X6_more G (by omega)) (fun v9 s9 hN => ?_)
      refine e_aload_n m_X6_dot dX6_dot_66 rfl rfl rfl ?_
      refine e_dup m_X6_dot dX6_dot_67 rfl ?_
      refine e_getf m_X6_dot dX6_dot_68 f_RX6_77 (gM_m G) rfl ?_
      refine e_iconst (v := nI 1) m_X6_dot dX6_dot_71 (by decide) ?_
      refine e_iaddN m_X6_dot dX6_dot_72 ?_
      refine e_putf (v := .int (nI ((m_at s9) + 1))) (h' := TM h0 (w_at s9 ((m_at s9) + 1))) m_X6_dot dX6_dot_73 f_RX6_77 (gM_m G) (Nat.le_of_ble_eq_true rfl) (fit_i rfl) rfl (hpL_set (k := 10) (by decide) (Nat.le_of_ble_eq_true rfl)) ?_
      refine e_st hN (fun s10 hN => ?_)
      refine e_aload_n m_X6_dot dX6_dot_76 rfl rfl rfl ?_
      refine e_cvN (as := []) hN m_X6_dot dX6_dot_77 c_RX6_83 (by decide) rfl rfl (gM_m G) rfl (Nat.le_of_ble_eq_true rfl) (Nat.le_of_ble_eq_true rfl) (by omega) (w_X6_look G (by omega)) (fun v11 s11 hN => ?_)
      refine e_bipush (v := nI 33) m_X6_dot dX6_dot_80 (by decide) ?_
      refine e_ine (t := 133) (a := v11) (b := 33) hN m_X6_dot dX6_dot_82 (by decide) (fun q12 hN => ?_) (fun q12 hN => ?_)
      · refine e_iload_n m_X6_dot dX6_dot_85 rfl rfl ?_
        refine e_iconst (v := nI 2) m_X6_dot dX6_dot_86 (by decide) ?_
        refine e_ck hN (fun q13 hN => ?_)
        refine e_cs (as := [_, _]) m_X6_dot dX6_dot_87 c_RX6_133 (by decide) rfl rfl (Nat.le_of_ble_eq_true rfl) (Nat.le_of_ble_eq_true rfl) (by omega) (z_X6_has q13 (by decide) (by omega)) ?_
        refine e_ifeq (t := 133) hN m_X6_dot dX6_dot_90 (by decide) (fun q14 hN => ?_) (fun q14 hN => ?_)
        · refine e_aload_n m_X6_dot dX6_dot_133 rfl rfl rfl ?_
          refine e_iload_n m_X6_dot dX6_dot_134 rfl rfl ?_
          refine e_bipush (v := nI 83) m_X6_dot dX6_dot_135 (by decide) ?_
          refine e_iload_n m_X6_dot dX6_dot_137 rfl rfl ?_
          refine e_cvN (as := [.int (nI x1), .int (nI 83), .int (nI (m_at s))]) hN m_X6_dot dX6_dot_138 c_RX6_114 (by decide) rfl rfl (gM_m G) rfl (Nat.le_of_ble_eq_true rfl) (Nat.le_of_ble_eq_true rfl) (by omega) (w_X6_wrap G (by omega)) (fun v15 s15 hN => ?_)
          refine e_istore m_X6_dot dX6_dot_141 (by decide) rfl ?_
          refine e_aload_n m_X6_dot dX6_dot_143 rfl rfl rfl ?_
          refine e_iconst (v := nI 4) m_X6_dot dX6_dot_144 (by decide) ?_
          refine e_iload_n m_X6_dot dX6_dot_145 rfl rfl ?_
          refine e_iload_n m_X6_dot dX6_dot_146 rfl rfl ?_
          refine e_cvU (as := [.int (nI 4), .int (nI x1), .int (nI x2)]) hN m_X6_dot dX6_dot_147 c_RX6_106 (by decide) rfl rfl (gM_m G) rfl (Nat.le_of_ble_eq_true rfl) (Nat.le_of_ble_eq_true rfl) (by omega) (w_X6_push G (by omega)) (fun v16 s16 hN => ?_)
          refine e_aload_n m_X6_dot dX6_dot_150 rfl rfl rfl ?_
          refine e_bipush (v := nI 8) m_X6_dot dX6_dot_151 (by decide) ?_
          refine e_bipush (v := nI 79) m_X6_dot dX6_dot_153 (by decide) ?_
          refine e_iconst (v := nI 0) m_X6_dot dX6_dot_155 (by decide) ?_
          refine e_cvU (as := [.int (nI 8), .int (nI 79), .int (nI 0)]) hN m_X6_dot dX6_dot_156 c_RX6_106 (by decide) rfl rfl (gM_m G) rfl (Nat.le_of_ble_eq_true rfl) (Nat.le_of_ble_eq_true rfl) (by omega) (w_X6_push G (by omega)) (fun v17 s17 hN => ?_)
          refine e_aload_n m_X6_dot dX6_dot_159 rfl rfl rfl ?_
          refine e_bipush (v := nI 18) m_X6_dot dX6_dot_160 (by decide) ?_
          refine e_iload m_X6_dot dX6_dot_162 rfl ?_
          refine e_iconst (v := nI 0) m_X6_dot dX6_dot_164 (by decide) ?_
          refine e_cvU (as := [.int (nI 18), .int (nI v15), .int (nI 0)]) hN m_X6_dot dX6_dot_165 c_RX6_106 (by decide) rfl rfl (gM_m G) rfl (Nat.le_of_ble_eq_true rfl) (Nat.le_of_ble_eq_true rfl) (by omega) (w_X6_push G (by omega)) (fun v18 s18 hN => ?_)
          exact e_ret0 m_X6_dot dX6_dot_168
        · refine e_aload_n m_X6_dot dX6_dot_93 rfl rfl rfl ?_
          refine e_iload_n m_X6_dot dX6_dot_94 rfl rfl ?_
          refine e_bipush (v := nI 69) m_X6_dot dX6_dot_95 (by decide) ?_
          refine e_aload_n m_X6_dot dX6_dot_97 rfl rfl rfl ?_
          refine e_getf m_X6_dot dX6_dot_98 f_RX6_77 (gM_m G) rfl ?_
          refine e_cvN (as := [.int (nI x1), .int (nI 69), .int (nI (m_at s11))]) hN m_X6_dot dX6_dot_101 c_RX6_114 (by decide) rfl rfl (gM_m G) rfl (Nat.le_of_ble_eq_true rfl) (Nat.le_of_ble_eq_true rfl) (by omega) (w_X6_wrap G (by omega)) (fun v19 s19 hN => ?_)
          refine e_pop m_X6_dot dX6_dot_104 rfl ?_
          refine e_aload_n m_X6_dot dX6_dot_105 rfl rfl rfl ?_
          refine e_dup m_X6_dot dX6_dot_106 rfl ?_
          refine e_getf m_X6_dot dX6_dot_107 f_RX6_77 (gM_m G) rfl ?_
          refine e_iconst (v := nI 1) m_X6_dot dX6_dot_110 (by decide) ?_
          refine e_iaddN m_X6_dot dX6_dot_111 ?_
          refine e_putf (v := .int (nI ((m_at s19) + 1))) (h' := TM h0 (w_at s19 ((m_at s19) + 1))) m_X6_dot dX6_dot_112 f_RX6_77 (gM_m G) (Nat.le_of_ble_eq_true rfl) (fit_i rfl) rfl (hpL_set (k := 10) (by decide) (Nat.le_of_ble_eq_true rfl)) ?_
          refine e_st hN (fun s20 hN => ?_)
          refine e_aload_n m_X6_dot dX6_dot_115 rfl rfl rfl ?_
          refine e_bipush (v := nI 56) m_X6_dot dX6_dot_116 (by decide) ?_
          refine e_iload_n m_X6_dot dX6_dot_118 rfl rfl ?_
          refine e_iconst (v := nI 0) m_X6_dot dX6_dot_119 (by decide) ?_
          refine e_cvU (as := [.int (nI 56), .int (nI x1), .int (nI 0)]) hN m_X6_dot dX6_dot_120 c_RX6_106 (by decide) rfl rfl (gM_m G) rfl (Nat.le_of_ble_eq_true rfl) (Nat.le_of_ble_eq_true rfl) (by omega) (w_X6_push G (by omega)) (fun v21 s21 hN => ?_)
          refine e_aload_n m_X6_dot dX6_dot_123 rfl rfl rfl ?_
          refine e_bipush (v := nI 8) m_X6_dot dX6_dot_124 (by decide) ?_
          refine e_bipush (v := nI 79) m_X6_dot dX6_dot_126 (by decide) ?_
          refine e_iconst (v := nI 0) m_X6_dot dX6_dot_128 (by decide) ?_
          refine e_cvU (as := [.int (nI 8), .int (nI 79), .int (nI 0)]) hN m_X6_dot dX6_dot_129 c_RX6_106 (by decide) rfl rfl (gM_m G) rfl (Nat.le_of_ble_eq_true rfl) (Nat.le_of_ble_eq_true rfl) (by omega) (w_X6_push G (by omega)) (fun v22 s22 hN => ?_)
          exact e_ret0 m_X6_dot dX6_dot_132
      · refine e_aload_n m_X6_dot dX6_dot_133 rfl rfl rfl ?_
        refine e_iload_n m_X6_dot dX6_dot_134 rfl rfl ?_
        refine e_bipush (v := nI 83) m_X6_dot dX6_dot_135 (by decide) ?_
        refine e_iload_n m_X6_dot dX6_dot_137 rfl rfl ?_
        refine e_cvN (as := [.int (nI x1), .int (nI 83), .int (nI (m_at s))]) hN m_X6_dot dX6_dot_138 c_RX6_114 (by decide) rfl rfl (gM_m G) rfl (Nat.le_of_ble_eq_true rfl) (Nat.le_of_ble_eq_true rfl) (by omega) (w_X6_wrap G (by omega)) (fun v23 s23 hN => ?_)
        refine e_istore m_X6_dot dX6_dot_141 (by decide) rfl ?_
        refine e_aload_n m_X6_dot dX6_dot_143 rfl rfl rfl ?_
        refine e_iconst (v := nI 4) m_X6_dot dX6_dot_144 (by decide) ?_
        refine e_iload_n m_X6_dot dX6_dot_145 rfl rfl ?_
        refine e_iload_n m_X6_dot dX6_dot_146 rfl rfl ?_
        refine e_cvU (as := [.int (nI 4), .int (nI x1), .int (nI x2)]) hN m_X6_dot dX6_dot_147 c_RX6_106 (by decide) rfl rfl (gM_m G) rfl (Nat.le_of_ble_eq_true rfl) (Nat.le_of_ble_eq_true rfl) (by omega) (w_X6_push G (by omega)) (fun v24 s24 hN => ?_)
        refine e_aload_n m_X6_dot dX6_dot_150 rfl rfl rfl ?_
        refine e_bipush (v := nI 8) m_X6_dot dX6_dot_151 (by decide) ?_
        refine e_bipush (v := nI 79) m_X6_dot dX6_dot_153 (by decide) ?_
        refine e_iconst (v := nI 0) m_X6_dot dX6_dot_155 (by decide) ?_
        refine e_cvU (as := [.int (nI 8), .int (nI 79), .int (nI 0)]) hN m_X6_dot dX6_dot_156 c_RX6_106 (by decide) rfl rfl (gM_m G) rfl (Nat.le_of_ble_eq_true rfl) (Nat.le_of_ble_eq_true rfl) (by omega) (w_X6_push G (by omega)) (fun v25 s25 hN => ?_)
        refine e_aload_n m_X6_dot dX6_dot_159 rfl rfl rfl ?_
        refine e_bipush (v := nI 18) m_X6_dot dX6_dot_160 (by decide) ?_
        refine e_iload m_X6_dot dX6_dot_162 rfl ?_
        refine e_iconst (v := nI 0) m_X6_dot dX6_dot_164 (by decide) ?_
        refine e_cvU (as := [.int (nI 18), .int (nI v23), .int (nI 0)]) hN m_X6_dot dX6_dot_165 c_RX6_106 (by decide) rfl rfl (gM_m G) rfl (Nat.le_of_ble_eq_true rfl) (Nat.le_of_ble_eq_true rfl) (by omega) (w_X6_push G (by omega)) (fun v26 s26 hN => ?_)
        exact e_ret0 m_X6_dot dX6_dot_168
    · refine e_aload_n m_X6_dot dX6_dot_57 rfl rfl rfl ?_
      refine e_cvU (as := []) hN m_X6_dot dX6_dot_58 c_RX6_87 (by decide) rfl rfl (gM_m G) rfl (Nat.le_of_ble_eq_true rfl) (Nat.le_of_ble_eq_true rfl) (by omega) (w_X6_error G (by omega)) (fun v27 s27 hN => ?_)
      exact e_ret0 m_X6_dot dX6_dot_61

def lp_X6_literal_101  (y5 : Nat) (s : Mm) : Rs Mm := ifz y5 (okR 0 s) (bn (b_X6_error  s) (fun v23 s23 => okR 0 s23))
theorem l_X6_literal_101 {xs : Nat → Int32} {L : Nat} {h0 : mm_H} (G : Mg h0) (y5 : Nat) (s : Mm) (d : Nat) (ls : mm_L) (hd : 12 ≤ d) (hl0 : mm_lk ls 0 = some (.ref 10)) (hl5 : mm_lk ls 5 = some (.int (nI y5))) (hN : lp_X6_literal_101  y5 s ≠ none) : Ev xs L d 150 101 ls [] (TM h0 s) 0 0 (ou eU (TM h0) (lp_X6_literal_101  y5 s)) := by
  unfold lp_X6_literal_101 at hN ⊢
  refine e_iload m_X6_literal dX6_literal_101 hl5 ?_
  refine e_ifeq (t := 110) hN m_X6_literal dX6_literal_103 (by decide) (fun q22 hN => ?_) (fun q22 hN => ?_)
  · exact e_ret0 m_X6_literal dX6_literal_110
  · refine e_aload_n m_X6_literal dX6_literal_106 rfl hl0 rfl ?_
    refine e_cvU (as := []) hN m_X6_literal dX6_literal_107 c_RX6_87 (by decide) rfl rfl (gM_m G) rfl (Nat.le_of_ble_eq_true rfl) (Nat.le_of_ble_eq_true rfl) (by omega) (w_X6_error G (by omega)) (fun v23 s23 hN => ?_)
    exact e_ret0 m_X6_literal dX6_literal_110
def lp_X6_literal_87  (y1 y5 y6 : Nat) (s : Mm) : Rs Mm := bn (b_X6_look  s) (fun v14 s14 => ife v14 82 (ifz y6 (lp_X6_literal_101   y5 s14) (bn (b_X6_wrap y1 91 (m_at s14) s14) (fun v17 s17 => bn (b_X6_more  s17) (fun v18 s18 => st1 (w_at s18 ((m_at s18) + 1)) (fun s19 => bn (b_X6_push 14 v17 0 s19) (fun v20 s20 => okR 0 s20)))))) (lp_X6_literal_101   y5 s14))
theorem l_X6_literal_87 {xs : Nat → Int32} {L : Nat} {h0 : mm_H} (G : Mg h0) (y1 y5 y6 : Nat) (s : Mm) (d : Nat) (ls : mm_L) (hd : 12 ≤ d) (hl0 : mm_lk ls 0 = some (.ref 10)) (hl1 : mm_lk ls 1 = some (.int (nI y1))) (hl5 : mm_lk ls 5 = some (.int (nI y5))) (hl6 : mm_lk ls 6 = some (.int (nI y6))) (hN : lp_X6_literal_87  y1 y5 y6 s ≠ none) : Ev xs L d 150 87 ls [] (TM h0 s) 0 0 (ou eU (TM h0) (lp_X6_literal_87  y1 y5 y6 s)) := by
  unfold lp_X6_literal_87 at hN ⊢
  refine e_aload_n m_X6_literal dX6_literal_87 rfl hl0 rfl ?_
  refine e_cvN (as := []) hN m_X6_literal dX6_literal_88 c_RX6_83 (by decide) rfl rfl (gM_m G) rfl (Nat.le_of_ble_eq_true rfl) (Nat.le_of_ble_eq_true rfl) (by omega) (w_X6_look G (by omega)) (fun v14 s14 hN => ?_)
  refine e_bipush (v := nI 82) m_X6_literal dX6_literal_91 (by decide) ?_
  refine e_ine (t := 101) (a := v14) (b := 82) hN m_X6_literal dX6_literal_93 (by decide) (fun q15 hN => ?_) (fun q15 hN => ?_)
  · refine e_iload m_X6_literal dX6_literal_96 hl6 ?_
    refine e_ifne (t := 111) hN m_X6_literal dX6_literal_98 (by decide) (fun q16 hN => ?_) (fun q16 hN => ?_)
    · exact l_X6_literal_101 G  y5 _ _ _ (by omega) hl0 hl5 hN
    · refine e_aload_n m_X6_literal dX6_literal_111 rfl hl0 rfl ?_
      refine e_iload_n m_X6_literal dX6_literal_112 rfl hl1 ?_
      refine e_bipush (v := nI 91) m_X6_literal dX6_literal_113 (by decide) ?_
      refine e_aload_n m_X6_literal dX6_literal_115 rfl hl0 rfl ?_
      refine e_getf m_X6_literal dX6_literal_116 f_RX6_77 (gM_m G) rfl ?_
      refine e_cvN (as := [.int (nI y1), .int (nI 91), .int (nI (m_at s14))]) hN m_X6_literal dX6_literal_119 c_RX6_114 (by decide) rfl rfl (gM_m G) rfl (Nat.le_of_ble_eq_true rfl) (Nat.le_of_ble_eq_true rfl) (by omega) (w_X6_wrap G (by omega)) (fun v17 s17 hN => ?_)
      refine e_istore m_X6_literal dX6_literal_122 (by decide) rfl ?_
      refine e_aload_n m_X6_literal dX6_literal_124 rfl (lk_mis (by decide) rfl hl0) rfl ?_
      refine e_cvU (as := []) hN m_X6_literal dX6_literal_125 c_RX6_123 (by decide) rfl rfl (gM_m G) rfl (Nat.le_of_ble_eq_true rfl) (Nat.le_of_ble_eq_true rfl) (by omega) (w_X6_more G (by omega)) (fun v18 s18 hN => ?_)
      refine e_aload_n m_X6_literal dX6_literal_128 rfl (lk_mis (by decide) rfl hl0) rfl ?_
      refine e_dup m_X6_literal dX6_literal_129 rfl ?_
      refine e_getf m_X6_literal dX6_literal_130 f_RX6_77 (gM_m G) rfl ?_
      refine e_iconst (v := nI 1) m_X6_literal dX6_literal_133 (by decide) ?_
      refine e_iaddN m_X6_literal dX6_literal_134 ?_
      refine e_putf (v := .int (nI ((m_at s18) + 1))) (h' := TM h0 (w_at s18 ((m_at s18) + 1))) m_X6_literal dX6_literal_135 f_RX6_77 (gM_m G) (Nat.le_of_ble_eq_true rfl) (fit_i rfl) rfl (hpL_set (k := 10) (by decide) (Nat.le_of_ble_eq_true rfl)) ?_
      refine e_st hN (fun s19 hN => ?_)
      refine e_aload_n m_X6_literal dX6_literal_138 rfl (lk_mis (by decide) rfl hl0) rfl ?_
      refine e_bipush (v := nI 14) m_X6_literal dX6_literal_139 (by decide) ?_
      refine e_iload m_X6_literal dX6_literal_141 lk_hit ?_
      refine e_iconst (v := nI 0) m_X6_literal dX6_literal_143 (by decide) ?_
      refine e_cvU (as := [.int (nI 14), .int (nI v17), .int (nI 0)]) hN m_X6_literal dX6_literal_144 c_RX6_106 (by decide) rfl rfl (gM_m G) rfl (Nat.le_of_ble_eq_true rfl) (Nat.le_of_ble_eq_true rfl) (by omega) (w_X6_push G (by omega)) (fun v20 s20 hN => ?_)
      exact e_ret0 m_X6_literal dX6_literal_147
  · exact l_X6_literal_101 G  y5 _ _ _ (by omega) hl0 hl5 hN
def lp_X6_literal_80  (y1 y5 : Nat) (s : Mm) : Rs Mm := lp_X6_literal_87   y1 y5 1 s
theorem l_X6_literal_80 {xs : Nat → Int32} {L : Nat} {h0 : mm_H} (G : Mg h0) (y1 y5 : Nat) (s : Mm) (d : Nat) (ls : mm_L) (hd : 12 ≤ d) (hl0 : mm_lk ls 0 = some (.ref 10)) (hl1 : mm_lk ls 1 = some (.int (nI y1))) (hl5 : mm_lk ls 5 = some (.int (nI y5))) (hN : lp_X6_literal_80  y1 y5 s ≠ none) : Ev xs L d 150 80 ls [] (TM h0 s) 0 0 (ou eU (TM h0) (lp_X6_literal_80  y1 y5 s)) := by
  unfold lp_X6_literal_80 at hN ⊢
  refine e_iconst (v := nI 1) m_X6_literal dX6_literal_80 (by decide) ?_
  refine e_goto (t := 85) m_X6_literal dX6_literal_81 (by decide) ?_
  refine e_istore m_X6_literal dX6_literal_85 (by decide) rfl ?_
  exact l_X6_literal_87 G  y1 y5 1 _ _ _ (by omega) (lk_mis (by decide) rfl hl0) (lk_mis (by decide) rfl hl1) (lk_mis (by decide) rfl hl5) lk_hit hN
def lp_X6_literal_73  (y1 y4 y5 : Nat) (s : Mm) : Rs Mm := ife y4 27 (lp_X6_literal_80   y1 y5 s) (lp_X6_literal_87   y1 y5 0 s)
theorem l_X6_literal_73 {xs : Nat → Int32} {L : Nat} {h0 : mm_H} (G : Mg h0) (y1 y4 y5 : Nat) (s : Mm) (d : Nat) (ls : mm_L) (hd : 12 ≤ d) (hl0 : mm_lk ls 0 = some (.ref 10)) (hl1 : mm_lk ls 1 = some (.int (nI y1))) (hl4 : mm_lk ls 4 = some (.int (nI y4))) (hl5 : mm_lk ls 5 = some (.int (nI y5))) (hN : lp_X6_literal_73  y1 y4 y5 s ≠ none) : Ev xs L d 150 73 ls [] (TM h0 s) 0 0 (ou eU (TM h0) (lp_X6_literal_73  y1 y4 y5 s)) := by
  unfold lp_X6_literal_73 at hN ⊢
  refine e_iload m_X6_literal dX6_literal_73 hl4 ?_
  refine e_bipush (v := nI 27) m_X6_literal dX6_literal_75 (by decide) ?_
  refine e_ine (t := 84) (a := y4) (b := 27) hN m_X6_literal dX6_literal_77 (by decide) (fun q21 hN => ?_) (fun q21 hN => ?_)
  · exact l_X6_literal_80 G  y1 y5 _ _ _ (by omega) hl0 hl1 hl5 hN
  · refine e_iconst (v := nI 0) m_X6_literal dX6_literal_84 (by decide) ?_
    refine e_istore m_X6_literal dX6_literal_85 (by decide) rfl ?_
    exact l_X6_literal_87 G  y1 y5 0 _ _ _ (by omega) (lk_mis (by decide) rfl hl0) (lk_mis (by decide) rfl hl1) (lk_mis (by decide) rfl hl5) lk_hit hN
def lp_X6_literal_59  (y1 y4 y5 : Nat) (s : Mm) : Rs Mm := ifl y4 20 (lp_X6_literal_73   y1 y4 y5 s) (ifl 22 y4 (lp_X6_literal_73   y1 y4 y5 s) (lp_X6_literal_80   y1 y5 s))
theorem l_X6_literal_59 {xs : Nat → Int32} {L : Nat} {h0 : mm_H} (G : Mg h0) (y1 y4 y5 : Nat) (s : Mm) (d : Nat) (ls : mm_L) (hd : 12 ≤ d) (hl0 : mm_lk ls 0 = some (.ref 10)) (hl1 : mm_lk ls 1 = some (.int (nI y1))) (hl4 : mm_lk ls 4 = some (.int (nI y4))) (hl5 : mm_lk ls 5 = some (.int (nI y5))) (hN : lp_X6_literal_59  y1 y4 y5 s ≠ none) : Ev xs L d 150 59 ls [] (TM h0 s) 0 0 (ou eU (TM h0) (lp_X6_literal_59  y1 y4 y5 s)) := by
  unfold lp_X6_literal_59 at hN ⊢
  refine e_iload m_X6_literal dX6_literal_59 hl4 ?_
  refine e_bipush (v := nI 20) m_X6_literal dX6_literal_61 (by decide) ?_
  refine e_ilt (t := 73) (a := y4) (b := 20) hN m_X6_literal dX6_literal_63 (by decide) (fun q12 hN => ?_) (fun q12 hN => ?_)
  · exact l_X6_literal_73 G  y1 y4 y5 _ _ _ (by omega) hl0 hl1 hl4 hl5 hN
  · refine e_iload m_X6_literal dX6_literal_66 hl4 ?_
    refine e_bipush (v := nI 22) m_X6_literal dX6_literal_68 (by decide) ?_
    refine e_ile (t := 80) (a := y4) (b := 22) hN m_X6_literal dX6_literal_70 (by decide) (fun q13 hN => ?_) (fun q13 hN => ?_)
    · exact l_X6_literal_73 G  y1 y4 y5 _ _ _ (by omega) hl0 hl1 hl4 hl5 hN
    · exact l_X6_literal_80 G  y1 y5 _ _ _ (by omega) hl0 hl1 hl5 hN
def lp_X6_literal_45  (y1 y2 y4 y5 : Nat) (s : Mm) : Rs Mm := ife y4 5 (ck (y2 < 2147483648) (ifz (f_X6_has y2 1) (lp_X6_literal_80   y1 y5 s) (lp_X6_literal_59   y1 y4 y5 s))) (lp_X6_literal_59   y1 y4 y5 s)
theorem l_X6_literal_45 {xs : Nat → Int32} {L : Nat} {h0 : mm_H} (G : Mg h0) (y1 y2 y4 y5 : Nat) (s : Mm) (d : Nat) (ls : mm_L) (hd : 12 ≤ d) (hl0 : mm_lk ls 0 = some (.ref 10)) (hl1 : mm_lk ls 1 = some (.int (nI y1))) (hl2 : mm_lk ls 2 = some (.int (nI y2))) (hl4 : mm_lk ls 4 = some (.int (nI y4))) (hl5 : mm_lk ls 5 = some (.int (nI y5))) (hN : lp_X6_literal_45  y1 y2 y4 y5 s ≠ none) : Ev xs L d 150 45 ls [] (TM h0 s) 0 0 (ou eU (TM h0) (lp_X6_literal_45  y1 y2 y4 y5 s)) := by
  unfold lp_X6_literal_45 at hN ⊢
  refine e_iload m_X6_literal dX6_literal_45 hl4 ?_
  refine e_iconst (v := nI 5) m_X6_literal dX6_literal_47 (by decide) ?_
  refine e_ine (t := 59) (a := y4) (b := 5) hN m_X6_literal dX6_literal_48 (by decide) (fun q9 hN => ?_) (fun q9 hN => ?_)
  · refine e_iload_n m_X6_literal dX6_literal_51 rfl hl2 ?_
    refine e_iconst (v := nI 1) m_X6_literal dX6_literal_52 (by decide) ?_
    refine e_ck hN (fun q10 hN => ?_)
    refine e_cs (as := [_, _]) m_X6_literal dX6_literal_53 c_RX6_133 (by decide) rfl rfl (Nat.le_of_ble_eq_true rfl) (Nat.le_of_ble_eq_true rfl) (by omega) (z_X6_has q10 (by decide) (by omega)) ?_
    refine e_ifeq (t := 80) hN m_X6_literal dX6_literal_56 (by decide) (fun q11 hN => ?_) (fun q11 hN => ?_)
    · exact l_X6_literal_80 G  y1 y5 _ _ _ (by omega) hl0 hl1 hl5 hN
    · exact l_X6_literal_59 G  y1 y4 y5 _ _ _ (by omega) hl0 hl1 hl4 hl5 hN
  · exact l_X6_literal_59 G  y1 y4 y5 _ _ _ (by omega) hl0 hl1 hl4 hl5 hN
def lp_X6_literal_42  (y1 y2 y4 : Nat) (s : Mm) : Rs Mm := lp_X6_literal_45   y1 y2 y4 0 s
theorem l_X6_literal_42 {xs : Nat → Int32} {L : Nat} {h0 : mm_H} (G : Mg h0) (y1 y2 y4 : Nat) (s : Mm) (d : Nat) (ls : mm_L) (hd : 12 ≤ d) (hl0 : mm_lk ls 0 = some (.ref 10)) (hl1 : mm_lk ls 1 = some (.int (nI y1))) (hl2 : mm_lk ls 2 = some (.int (nI y2))) (hl4 : mm_lk ls 4 = some (.int (nI y4))) (hN : lp_X6_literal_42  y1 y2 y4 s ≠ none) : Ev xs L d 150 42 ls [] (TM h0 s) 0 0 (ou eU (TM h0) (lp_X6_literal_42  y1 y2 y4 s)) := by
  unfold lp_X6_literal_42 at hN ⊢
  refine e_iconst (v := nI 0) m_X6_literal dX6_literal_42 (by decide) ?_
  refine e_istore m_X6_literal dX6_literal_43 (by decide) rfl ?_
  exact l_X6_literal_45 G  y1 y2 y4 0 _ _ _ (by omega) (lk_mis (by decide) rfl hl0) (lk_mis (by decide) rfl hl1) (lk_mis (by decide) rfl hl2) (lk_mis (by decide) rfl hl4) lk_hit hN
def b_X6_literal  (x1 : Nat) (x2 : Nat) (s : Mm) : Rs Mm := ck (x1 < 65536) (ck ((m_la s x1) ≠ 0) (ck (((m_la s x1) - 1) < 65536) (ife (m_wh s ((m_la s x1) - 1)) 21 (ck (((m_la s x1) - 1) < 65536) (ck ((m_fi s ((m_la s x1) - 1)) ≠ 0) (ck (((m_fi s ((m_la s x1) - 1)) - 1) < 65536) (ife (m_wh s ((m_fi s ((m_la s x1) - 1)) - 1)) 17 (lp_X6_literal_45   x1 x2 (m_wh s ((m_la s x1) - 1)) 1 s) (lp_X6_literal_42   x1 x2 (m_wh s ((m_la s x1) - 1)) s))))) (lp_X6_literal_42   x1 x2 (m_wh s ((m_la s x1) - 1)) s))))
theorem w_X6_literal {xs : Nat → Int32} {L : Nat} {h0 : mm_H} (G : Mg h0) {x1 : Nat} {x2 : Nat} {s : Mm} {d : Nat} (hd : 12 ≤ d) (hN : b_X6_literal  x1 x2 s ≠ none) : Rn xs L d 150 [.ref 10, .int (nI x1), .int (nI x2)] (TM h0 s) (ou eU (TM h0) (b_X6_literal  x1 x2 s)) := by
  unfold Rn
  unfold b_X6_literal at hN ⊢
  refine e_aload_n m_X6_literal dX6_literal_0 rfl rfl rfl ?_
  refine e_getf m_X6_literal dX6_literal_1 f_RX6_27 (gM_m G) rfl ?_
  refine e_iload_n m_X6_literal dX6_literal_4 rfl rfl ?_
  refine e_ck hN (fun q1 hN => ?_)
  refine e_aldO q1 (by decide) (Or.inl ⟨rfl, rfl⟩) m_X6_literal dX6_literal_5 (gM_la G) ?_
  refine e_istore_n m_X6_literal dX6_literal_6 rfl (by decide) rfl ?_
  refine e_aload_n m_X6_literal dX6_literal_7 rfl rfl rfl ?_
  refine e_getf m_X6_literal dX6_literal_8 f_RX6_14 (gM_m G) rfl ?_
  refine e_iload_n m_X6_literal dX6_literal_11 rfl rfl ?_
  refine e_ck hN (fun q2 hN => ?_)
  rw [oI_p q2]
  refine e_ck hN (fun q3 hN => ?_)
  refine e_aldN q3 (by decide) (Or.inl ⟨rfl, rfl⟩) m_X6_literal dX6_literal_12 (gM_wh G) ?_
  refine e_istore m_X6_literal dX6_literal_13 (by decide) rfl ?_
  refine e_iload m_X6_literal dX6_literal_15 rfl ?_
  refine e_bipush (v := nI 21) m_X6_literal dX6_literal_17 (by decide) ?_
  refine e_ine (t := 42) (a := (m_wh s ((m_la s x1) - 1))) (b := 21) hN m_X6_literal dX6_literal_19 (by decide) (fun q4 hN => ?_) (fun q4 hN => ?_)
  · refine e_aload_n m_X6_literal dX6_literal_22 rfl rfl rfl ?_
    refine e_getf m_X6_literal dX6_literal_23 f_RX6_14 (gM_m G) rfl ?_
    refine e_aload_n m_X6_literal dX6_literal_26 rfl rfl rfl ?_
    refine e_getf m_X6_literal dX6_literal_27 f_RX6_24 (gM_m G) rfl ?_
    refine e_iload_n m_X6_literal dX6_literal_30 rfl rfl ?_
    refine e_ck hN (fun q5 hN => ?_)
    refine e_aldO q5 (by decide) (Or.inl ⟨rfl, rfl⟩) m_X6_literal dX6_literal_31 (gM_fi G) ?_
    refine e_ck hN (fun q6 hN => ?_)
    rw [oI_p q6]
    refine e_ck hN (fun q7 hN => ?_)
    refine e_aldN q7 (by decide) (Or.inl ⟨rfl, rfl⟩) m_X6_literal dX6_literal_32 (gM_wh G) ?_
    refine e_bipush (v := nI 17) m_X6_literal dX6_literal_33 (by decide) ?_
    refine e_ine (t := 42) (a := (m_wh s ((m_fi s ((m_la s x1) - 1)) - 1))) (b := 17) hN m_X6_literal dX6_literal_35 (by decide) (fun q8 hN => ?_) (fun q8 hN => ?_)
    · refine e_iconst (v := nI 1) m_X6_literal dX6_literal_38 (by decide) ?_
      refine e_goto (t := 43) m_X6_literal dX6_literal_39 (by decide) ?_
      refine e_istore m_X6_literal dX6_literal_43 (by decide) rfl ?_
      exact l_X6_literal_45 G  x1 x2 (m_wh s ((m_la s x1) - 1)) 1 _ _ _ (by omega) rfl rfl rfl rfl rfl hN
    · exact l_X6_literal_42 G  x1 x2 (m_wh s ((m_la s x1) - 1)) _ _ _ (by omega) rfl rfl rfl rfl hN
  · exact l_X6_literal_42 G  x1 x2 (m_wh s ((m_la s x1) - 1)) _ _ _ (by omega) rfl rfl rfl rfl hN

def b_X6_args  (x1 : Nat) (s : Mm) : Rs Mm := bn (b_X6_look  s) (fun v1 s1 => ife v1 79 (st1 (w_at s1 ((m_at s1) + 1)) (fun s3 => ck ((m_dp s3) ≠ 0) (st1 (w_dp s3 ((m_dp s3) - 1)) (fun s5 => okR 0 s5)))) (bn (b_X6_push 10 x1 0 s1) (fun v6 s6 => bn (b_X6_expression x1 0 1 s6) (fun v7 s7 => okR 0 s7))))
theorem w_X6_args {xs : Nat → Int32} {L : Nat} {h0 : mm_H} (G : Mg h0) {x1 : Nat} {s : Mm} {d : Nat} (hd : 12 ≤ d) (hN : b_X6_args  x1 s ≠ none) : Rn xs L d 151 [.ref 10, .int (nI x1)] (TM h0 s) (ou eU (TM h0) (b_X6_args  x1 s)) := by
  unfold Rn
  unfold b_X6_args at hN ⊢
  refine e_aload_n m_X6_args dX6_args_0 rfl rfl rfl ?_
  refine e_cvN (as := []) hN m_X6_args dX6_args_1 c_RX6_83 (by decide) rfl rfl (gM_m G) rfl (Nat.le_of_ble_eq_true rfl) (Nat.le_of_ble_eq_true rfl) (by omega) (w_X6_look G (by omega)) (fun v1 s1 hN => ?_)
  refine e_bipush (v := nI 79) m_X6_args dX6_args_4 (by decide) ?_
  refine e_ine (t := 30) (a := v1) (b := 79) hN m_X6_args dX6_args_6 (by decide) (fun q2 hN => ?_) (fun q2 hN => ?_)
  · refine e_aload_n m_X6_args dX6_args_9 rfl rfl rfl ?_
    refine e_dup m_X6_args dX6_args_10 rfl ?_
    refine e_getf m_X6_args dX6_args_11 f_RX6_77 (gM_m G) rfl ?_
    refine e_iconst (v := nI 1) m_X6_args dX6_args_14 (by decide) ?_
    refine e_iaddN m_X6_args dX6_args_15 ?_
    refine e_putf (v := .int (nI ((m_at s1) + 1))) (h' := TM h0 (w_at s1 ((m_at s1) + 1))) m_X6_args dX6_args_16 f_RX6_77 (gM_m G) (Nat.le_of_ble_eq_true rfl) (fit_i rfl) rfl (hpL_set (k := 10) (by decide) (Nat.le_of_ble_eq_true rfl)) ?_
    refine e_st hN (fun s3 hN => ?_)
    refine e_aload_n m_X6_args dX6_args_19 rfl rfl rfl ?_
    refine e_dup m_X6_args dX6_args_20 rfl ?_
    refine e_getf m_X6_args dX6_args_21 f_RX6_90 (gM_m G) rfl ?_
    refine e_iconst (v := nI 1) m_X6_args dX6_args_24 (by decide) ?_
    refine e_isubO m_X6_args dX6_args_25 ?_
    refine e_ck hN (fun q4 hN => ?_)
    rw [oI_p q4]
    refine e_putf (v := .int (nI ((m_dp s3) - 1))) (h' := TM h0 (w_dp s3 ((m_dp s3) - 1))) m_X6_args dX6_args_26 f_RX6_90 (gM_m G) (Nat.le_of_ble_eq_true rfl) (fit_i rfl) rfl (hpL_set (k := 10) (by decide) (Nat.le_of_ble_eq_true rfl)) ?_
    refine e_st hN (fun s5 hN => ?_)
    exact e_ret0 m_X6_args dX6_args_29
  · refine e_aload_n m_X6_args dX6_args_30 rfl rfl rfl ?_
    refine e_bipush (v := nI 10) m_X6_args dX6_args_31 (by decide) ?_
    refine e_iload_n m_X6_args dX6_args_33 rfl rfl ?_
    refine e_iconst (v := nI 0) m_X6_args dX6_args_34 (by decide) ?_
    refine e_cvU (as := [.int (nI 10), .int (nI x1), .int (nI 0)]) hN m_X6_args dX6_args_35 c_RX6_106 (by decide) rfl rfl (gM_m G) rfl (Nat.le_of_ble_eq_true rfl) (Nat.le_of_ble_eq_true rfl) (by omega) (w_X6_push G (by omega)) (fun v6 s6 hN => ?_)
    refine e_aload_n m_X6_args dX6_args_38 rfl rfl rfl ?_
    refine e_iload_n m_X6_args dX6_args_39 rfl rfl ?_
    refine e_iconst (v := nI 0) m_X6_args dX6_args_40 (by decide) ?_
    refine e_iconst (v := nI 1) m_X6_args dX6_args_41 (by decide) ?_
    refine e_cvU (as := [.int (nI x1), .int (nI 0), .int (nI 1)]) hN m_X6_args dX6_args_42 c_RX6_117 (by decide) rfl rfl (gM_m G) rfl (Nat.le_of_ble_eq_true rfl) (Nat.le_of_ble_eq_true rfl) (by omega) (w_X6_expression G (by omega)) (fun v7 s7 hN => ?_)
    exact e_ret0 m_X6_args dX6_args_45

def b_X6_argsMore  (x1 : Nat) (s : Mm) : Rs Mm := bn (b_X6_look  s) (fun v1 s1 => ife v1 77 (bn (b_X6_child x1 17 (m_at s1) s1) (fun v3 s3 => st1 (w_at s3 ((m_at s3) + 1)) (fun s4 => bn (b_X6_look  s4) (fun v5 s5 => ife v5 84 (st1 (w_at s5 ((m_at s5) + 1)) (fun s7 => bn (b_X6_pass 79 s7) (fun v8 s8 => ck ((m_dp s8) ≠ 0) (st1 (w_dp s8 ((m_dp s8) - 1)) (fun s10 => okR 0 s10))))) (bn (b_X6_pass 79 s5) (fun v11 s11 => ck ((m_dp s11) ≠ 0) (st1 (w_dp s11 ((m_dp s11) - 1)) (fun s13 => okR 0 s13)))))))) (bn (b_X6_look  s1) (fun v14 s14 => ife v14 84 (st1 (w_at s14 ((m_at s14) + 1)) (fun s16 => bn (b_X6_push 9 x1 0 s16) (fun v17 s17 => okR 0 s17))) (bn (b_X6_pass 79 s14) (fun v18 s18 => ck ((m_dp s18) ≠ 0) (st1 (w_dp s18 ((m_dp s18) - 1)) (fun s20 => okR 0 s20)))))))
theorem w_X6_argsMore {xs : Nat → Int32} {L : Nat} {h0 : mm_H} (G : Mg h0) {x1 : Nat} {s : Mm} {d : Nat} (hd : 12 ≤ d) (hN : b_X6_argsMore  x1 s ≠ none) : Rn xs L d 152 [.ref 10, .int (nI x1)] (TM h0 s) (ou eU (TM h0) (b_X6_argsMore  x1 s)) := by
  unfold Rn
  unfold b_X6_argsMore at hN ⊢
  refine e_aload_n m_X6_argsMore dX6_argsMore_0 rfl rfl rfl ?_
  refine e_cvN (as := []) hN m_X6_argsMore dX6_argsMore_1 c_RX6_83 (by decide) rfl rfl (gM_m G) rfl (Nat.le_of_ble_eq_true rfl) (Nat.le_of_ble_eq_true rfl) (by omega) (w_X6_look G (by omega)) (fun v1 s1 hN => ?_)
  refine e_bipush (v := nI 77) m_X6_argsMore dX6_argsMore_4 (by decide) ?_
  refine e_ine (t := 69) (a := v1) (b := 77) hN m_X6_argsMore dX6_argsMore_6 (by decide) (fun q2 hN => ?_) (fun q2 hN => ?_)
  · refine e_aload_n m_X6_argsMore dX6_argsMore_9 rfl rfl rfl ?_
    refine e_iload_n m_X6_argsMore dX6_argsMore_10 rfl rfl ?_
    refine e_bipush (v := nI 17) m_X6_argsMore dX6_argsMore_11 (by decide) ?_
    refine e_aload_n m_X6_argsMore dX6_argsMore_13 rfl rfl rfl ?_
    refine e_getf m_X6_argsMore dX6_argsMore_14 f_RX6_77 (gM_m G) rfl ?_
    refine e_cvN (as := [.int (nI x1), .int (nI 17), .int (nI (m_at s1))]) hN m_X6_argsMore dX6_argsMore_17 c_RX6_99 (by decide) rfl rfl (gM_m G) rfl (Nat.le_of_ble_eq_true rfl) (Nat.le_of_ble_eq_true rfl) (by omega) (w_X6_child G (by omega)) (fun v3 s3 hN => ?_)
    refine e_pop m_X6_argsMore dX6_argsMore_20 rfl ?_
    refine e_aload_n m_X6_argsMore dX6_argsMore_21 rfl rfl rfl ?_
    refine e_dup m_X6_argsMore dX6_argsMore_22 rfl ?_
    refine e_getf m_X6_argsMore dX6_argsMore_23 f_RX6_77 (gM_m G) rfl ?_
    refine e_iconst (v := nI 1) m_X6_argsMore dX6_argsMore_26 (by decide) ?_
    refine e_iaddN m_X6_argsMore dX6_argsMore_27 ?_
    refine e_putf (v := .int (nI ((m_at s3) + 1))) (h' := TM h0 (w_at s3 ((m_at s3) + 1))) m_X6_argsMore dX6_argsMore_28 f_RX6_77 (gM_m G) (Nat.le_of_ble_eq_true rfl) (fit_i rfl) rfl (hpL_set (k := 10) (by decide) (Nat.le_of_ble_eq_true rfl)) ?_
    refine e_st hN (fun s4 hN => ?_)
    refine e_aload_n m_X6_argsMore dX6_argsMore_31 rfl rfl rfl ?_
    refine e_cvN (as := []) hN m_X6_argsMore dX6_argsMore_32 c_RX6_83 (by decide) rfl rfl (gM_m G) rfl (Nat.le_of_ble_eq_true rfl) (Nat.le_of_ble_eq_true rfl) (by omega) (w_X6_look G (by omega)) (fun v5 s5 hN => ?_)
    refine e_bipush (v := nI 84) m_X6_argsMore dX6_argsMore_35 (by decide) ?_
    refine e_ine (t := 50) (a := v5) (b := 84) hN m_X6_argsMore dX6_argsMore_37 (by decide) (fun q6 hN => ?_) (fun q6 hN => ?_)
    · refine e_aload_n m_X6_argsMore dX6_argsMore_40 rfl rfl rfl ?_
      refine e_dup m_X6_argsMore dX6_argsMore_41 rfl ?_
      refine e_getf m_X6_argsMore dX6_argsMore_42 f_RX6_77 (gM_m G) rfl ?_
      refine e_iconst (v := nI 1) m_X6_argsMore dX6_argsMore_45 (by decide) ?_
      refine e_iaddN m_X6_argsMore dX6_argsMore_46 ?_
      refine e_putf (v := .int (nI ((m_at s5) + 1))) (h' := TM h0 (w_at s5 ((m_at s5) + 1))) m_X6_argsMore dX6_argsMore_47 f_RX6_77 (gM_m G) (Nat.le_of_ble_eq_true rfl) (fit_i rfl) rfl (hpL_set (k := 10) (by decide) (Nat.le_of_ble_eq_true rfl)) ?_
      refine e_st hN (fun s7 hN => ?_)
      refine e_aload_n m_X6_argsMore dX6_argsMore_50 rfl rfl rfl ?_
      refine e_bipush (v := nI 79) m_X6_argsMore dX6_argsMore_51 (by decide) ?_
      refine e_cvU (as := [.int (nI 79)]) hN m_X6_argsMore dX6_argsMore_53 c_RX6_141 (by decide) rfl rfl (gM_m G) rfl (Nat.le_of_ble_eq_true rfl) (Nat.le_of_ble_eq_true rfl) (by omega) (w_X6_pass G (by omega)) (fun v8 s8 hN => ?_)
      refine e_aload_n m_X6_argsMore dX6_argsMore_56 rfl rfl rfl ?_
      refine e_dup m_X6_argsMore dX6_argsMore_57 rfl ?_
      refine e_getf m_X6_argsMore dX6_argsMore_58 f_RX6_90 (gM_m G) rfl ?_
      refine e_iconst (v := nI 1) m_X6_argsMore dX6_argsMore_61 (by decide) ?_
      refine e_isubO m_X6_argsMore dX6_argsMore_62 ?_
      refine e_ck hN (fun q9 hN => ?_)
      rw [oI_p q9]
      refine e_putf (v := .int (nI ((m_dp s8) - 1))) (h' := TM h0 (w_dp s8 ((m_dp s8) - 1))) m_X6_argsMore dX6_argsMore_63 f_RX6_90 (gM_m G) (Nat.le_of_ble_eq_true rfl) (fit_i rfl) rfl (hpL_set (k := 10) (by decide) (Nat.le_of_ble_eq_true rfl)) ?_
      refine e_st hN (fun s10 hN => ?_)
      refine e_goto (t := 115) m_X6_argsMore dX6_argsMore_66 (by decide) ?_
      exact e_ret0 m_X6_argsMore dX6_argsMore_115
    · refine e_aload_n m_X6_argsMore dX6_argsMore_50 rfl rfl rfl ?_
      refine e_bipush (v := nI 79) m_X6_argsMore dX6_argsMore_51 (by decide) ?_
      refine e_cvU (as := [.int (nI 79)]) hN m_X6_argsMore dX6_argsMore_53 c_RX6_141 (by decide) rfl rfl (gM_m G) rfl (Nat.le_of_ble_eq_true rfl) (Nat.le_of_ble_eq_true rfl) (by omega) (w_X6_pass G (by omega)) (fun v11 s11 hN => ?_)
      refine e_aload_n m_X6_argsMore dX6_argsMore_56 rfl rfl rfl ?_
      refine e_dup m_X6_argsMore dX6_argsMore_57 rfl ?_
      refine e_getf m_X6_argsMore dX6_argsMore_58 f_RX6_90 (gM_m G) rfl ?_
      refine e_iconst (v := nI 1) m_X6_argsMore dX6_argsMore_61 (by decide) ?_
      refine e_isubO m_X6_argsMore dX6_argsMore_62 ?_
      refine e_ck hN (fun q12 hN => ?_)
      rw [oI_p q12]
      refine e_putf (v := .int (nI ((m_dp s11) - 1))) (h' := TM h0 (w_dp s11 ((m_dp s11) - 1))) m_X6_argsMore dX6_argsMore_63 f_RX6_90 (gM_m G) (Nat.le_of_ble_eq_true rfl) (fit_i rfl) rfl (hpL_set (k := 10) (by decide) (Nat.le_of_ble_eq_true rfl)) ?_
      refine e_st hN (fun s13 hN => ?_)
      refine e_goto (t := 115) m_X6_argsMore dX6_argsMore_66 (by decide) ?_
      exact e_ret0 m_X6_argsMore dX6_argsMore_115
  · refine e_aload_n m_X6_argsMore dX6_argsMore_69 rfl rfl rfl ?_
    refine e_cvN (as := []) hN m_X6_argsMore dX6_argsMore_70 c_RX6_83 (by decide) rfl rfl (gM_m G) rfl (Nat.le_of_ble_eq_true rfl) (Nat.le_of_ble_eq_true rfl) (by omega) (w_X6_look G (by omega)) (fun v14 s14 hN => ?_)
    refine e_bipush (v := nI 84) m_X6_argsMore dX6_argsMore_73 (by decide) ?_
    refine e_ine (t := 99) (a := v14) (b := 84) hN m_X6_argsMore dX6_argsMore_75 (by decide) (fun q15 hN => ?_) (fun q15 hN => ?_)
    · refine e_aload_n m_X6_argsMore dX6_argsMore_78 rfl rfl rfl ?_
      refine e_dup m_X6_argsMore dX6_argsMore_79 rfl ?_
      refine e_getf m_X6_argsMore dX6_argsMore_80 f_RX6_77 (gM_m G) rfl ?_
      refine e_iconst (v := nI 1) m_X6_argsMore dX6_argsMore_83 (by decide) ?_
      refine e_iaddN m_X6_argsMore dX6_argsMore_84 ?_
      refine e_putf (v := .int (nI ((m_at s14) + 1))) (h' := TM h0 (w_at s14 ((m_at s14) + 1))) m_X6_argsMore dX6_argsMore_85 f_RX6_77 (gM_m G) (Nat.le_of_ble_eq_true rfl) (fit_i rfl) rfl (hpL_set (k := 10) (by decide) (Nat.le_of_ble_eq_true rfl)) ?_
      refine e_st hN (fun s16 hN => ?_)
      refine e_aload_n m_X6_argsMore dX6_argsMore_88 rfl rfl rfl ?_
      refine e_bipush (v := nI 9) m_X6_argsMore dX6_argsMore_89 (by decide) ?_
      refine e_iload_n m_X6_argsMore dX6_argsMore_91 rfl rfl ?_
      refine e_iconst (v := nI 0) m_X6_argsMore dX6_argsMore_92 (by decide) ?_
      refine e_cvU (as := [.int (nI 9), .int (nI x1), .int (nI 0)]) hN m_X6_argsMore dX6_argsMore_93 c_RX6_106 (by decide) rfl rfl (gM_m G) rfl (Nat.le_of_ble_eq_true rfl) (Nat.le_of_ble_eq_true rfl) (by omega) (w_X6_push G (by omega)) (fun v17 s17 hN => ?_)
      refine e_goto (t := 115) m_X6_argsMore dX6_argsMore_96 (by decide) ?_
      exact e_ret0 m_X6_argsMore dX6_argsMore_115
    · refine e_aload_n m_X6_argsMore dX6_argsMore_99 rfl rfl rfl ?_
      refine e_bipush (v := nI 79) m_X6_argsMore dX6_argsMore_100 (by decide) ?_
      refine e_cvU (as := [.int (nI 79)]) hN m_X6_argsMore dX6_argsMore_102 c_RX6_141 (by decide) rfl rfl (gM_m G) rfl (Nat.le_of_ble_eq_true rfl) (Nat.le_of_ble_eq_true rfl) (by omega) (w_X6_pass G (by omega)) (fun v18 s18 hN => ?_)
      refine e_aload_n m_X6_argsMore dX6_argsMore_105 rfl rfl rfl ?_
      refine e_dup m_X6_argsMore dX6_argsMore_106 rfl ?_
      refine e_getf m_X6_argsMore dX6_argsMore_107 f_RX6_90 (gM_m G) rfl ?_
      refine e_iconst (v := nI 1) m_X6_argsMore dX6_argsMore_110 (by decide) ?_
      refine e_isubO m_X6_argsMore dX6_argsMore_111 ?_
      refine e_ck hN (fun q19 hN => ?_)
      rw [oI_p q19]
      refine e_putf (v := .int (nI ((m_dp s18) - 1))) (h' := TM h0 (w_dp s18 ((m_dp s18) - 1))) m_X6_argsMore dX6_argsMore_112 f_RX6_90 (gM_m G) (Nat.le_of_ble_eq_true rfl) (fit_i rfl) rfl (hpL_set (k := 10) (by decide) (Nat.le_of_ble_eq_true rfl)) ?_
      refine e_st hN (fun s20 hN => ?_)
      exact e_ret0 m_X6_argsMore dX6_argsMore_115

def b_X6_index  (x1 : Nat) (s : Mm) : Rs Mm := bn (b_X6_look  s) (fun v1 s1 => ife v1 87 (ck (x1 < 65536) (st1 (w_wh s1 (upN (m_wh s1) x1 85)) (fun s4 => st1 (w_at s4 ((m_at s4) + 1)) (fun s5 => bn (b_X6_push 12 x1 0 s5) (fun v6 s6 => okR 0 s6))))) (bn (b_X6_pass 81 s1) (fun v7 s7 => ck ((m_dp s7) ≠ 0) (st1 (w_dp s7 ((m_dp s7) - 1)) (fun s9 => okR 0 s9)))))
theorem w_X6_index {xs : Nat → Int32} {L : Nat} {h0 : mm_H} (G : Mg h0) {x1 : Nat} {s : Mm} {d : Nat} (hd : 12 ≤ d) (hN : b_X6_index  x1 s ≠ none) : Rn xs L d 153 [.ref 10, .int (nI x1)] (TM h0 s) (ou eU (TM h0) (b_X6_index  x1 s)) := by
  unfold Rn
  unfold b_X6_index at hN ⊢
  refine e_aload_n m_X6_index dX6_index_0 rfl rfl rfl ?_
  refine e_cvN (as := []) hN m_X6_index dX6_index_1 c_RX6_83 (by decide) rfl rfl (gM_m G) rfl (Nat.le_of_ble_eq_true rfl) (Nat.le_of_ble_eq_true rfl) (by omega) (w_X6_look G (by omega)) (fun v1 s1 hN => ?_)
  refine e_bipush (v := nI 87) m_X6_index dX6_index_4 (by decide) ?_
  refine e_ine (t := 36) (a := v1) (b := 87) hN m_X6_index dX6_index_6 (by decide) (fun q2 hN => ?_) (fun q2 hN => ?_)
  · refine e_aload_n m_X6_index dX6_index_9 rfl rfl rfl ?_
    refine e_getf m_X6_index dX6_index_10 f_RX6_14 (gM_m G) rfl ?_
    refine e_iload_n m_X6_index dX6_index_13 rfl rfl ?_
    refine e_bipush (v := nI 85) m_X6_index dX6_index_14 (by decide) ?_
    refine e_ck hN (fun q3 hN => ?_)
    refine e_astN (v := 85) (h' := TM h0 (w_wh s1 (upN (m_wh s1) x1 85))) q3 (by decide) m_X6_index dX6_index_16 (gM_wh G) (hpL_set (k := 12) (by decide) (Nat.le_of_ble_eq_true rfl)) ?_
    refine e_st hN (fun s4 hN => ?_)
    refine e_aload_n m_X6_index dX6_index_17 rfl rfl rfl ?_
    refine e_dup m_X6_index dX6_index_18 rfl ?_
    refine e_getf m_X6_index dX6_index_19 f_RX6_77 (gM_m G) rfl ?_
    refine e_iconst (v := nI 1) m_X6_index dX6_index_22 (by decide) ?_
    refine e_iaddN m_X6_index dX6_index_23 ?_
    refine e_putf (v := .int (nI ((m_at s4) + 1))) (h' := TM h0 (w_at s4 ((m_at s4) + 1))) m_X6_index dX6_index_24 f_RX6_77 (gM_m G) (Nat.le_of_ble_eq_true rfl) (fit_i rfl) rfl (hpL_set (k := 10) (by decide) (Nat.le_of_ble_eq_true rfl)) ?_
    refine e_st hN (fun s5 hN => ?_)
    refine e_aload_n m_X6_index dX6_index_27 rfl rfl rfl ?_
    refine e_bipush (v := nI 12) m_X6_index dX6_index_28 (by decide) ?_
    refine e_iload_n m_X6_index dX6_index_30 rfl rfl ?_
    refine e_iconst (v := nI 0) m_X6_index dX6_index_31 (by decide) ?_
    refine e_cvU (as := [.int (nI 12), .int (nI x1), .int (nI 0)]) hN m_X6_index dX6_index_32 c_RX6_106 (by decide) rfl rfl (gM_m G) rfl (Nat.le_of_ble_eq_true rfl) (Nat.le_of_ble_eq_true rfl) (by omega) (w_X6_push G (by omega)) (fun v6 s6 hN => ?_)
    exact e_ret0 m_X6_index dX6_index_35
  · refine e_aload_n m_X6_index dX6_index_36 rfl rfl rfl ?_
    refine e_bipush (v := nI 81) m_X6_index dX6_index_37 (by decide) ?_
    refine e_cvU (as := [.int (nI 81)]) hN m_X6_index dX6_index_39 c_RX6_141 (by decide) rfl rfl (gM_m G) rfl (Nat.le_of_ble_eq_true rfl) (Nat.le_of_ble_eq_true rfl) (by omega) (w_X6_pass G (by omega)) (fun v7 s7 hN => ?_)
    refine e_aload_n m_X6_index dX6_index_42 rfl rfl rfl ?_
    refine e_dup m_X6_index dX6_index_43 rfl ?_
    refine e_getf m_X6_index dX6_index_44 f_RX6_90 (gM_m G) rfl ?_
    refine e_iconst (v := nI 1) m_X6_index dX6_index_47 (by decide) ?_
    refine e_isubO m_X6_index dX6_index_48 ?_
    refine e_ck hN (fun q8 hN => ?_)
    rw [oI_p q8]
    refine e_putf (v := .int (nI ((m_dp s7) - 1))) (h' := TM h0 (w_dp s7 ((m_dp s7) - 1))) m_X6_index dX6_index_49 f_RX6_90 (gM_m G) (Nat.le_of_ble_eq_true rfl) (fit_i rfl) rfl (hpL_set (k := 10) (by decide) (Nat.le_of_ble_eq_true rfl)) ?_
    refine e_st hN (fun s9 hN => ?_)
    exact e_ret0 m_X6_index dX6_index_52

def b_X6_sliced  (x1 : Nat) (s : Mm) : Rs Mm := bn (b_X6_look  s) (fun v1 s1 => ife v1 81 (bn (b_X6_child x1 86 (m_at s1) s1) (fun v3 s3 => st1 (w_at s3 ((m_at s3) + 1)) (fun s4 => ck ((m_dp s4) ≠ 0) (st1 (w_dp s4 ((m_dp s4) - 1)) (fun s6 => okR 0 s6))))) (bn (b_X6_push 13 x1 0 s1) (fun v7 s7 => bn (b_X6_expression x1 0 1 s7) (fun v8 s8 => okR 0 s8))))
theorem w_X6_sliced {xs : Nat → Int32} {L : Nat} {h0 : mm_H} (G : Mg h0) {x1 : Nat} {s : Mm} {d : Nat} (hd : 12 ≤ d) (hN : b_X6_sliced  x1 s ≠ none) : Rn xs L d 154 [.ref 10, .int (nI x1)] (TM h0 s) (ou eU (TM h0) (b_X6_sliced  x1 s)) := by
  unfold Rn
  unfold b_X6_sliced at hN ⊢
  refine e_aload_n m_X6_sliced dX6_sliced_0 rfl rfl rfl ?_
  refine e_cvN (as := []) hN m_X6_sliced dX6_sliced_1 c_RX6_83 (by decide) rfl rfl (gM_m G) rfl (Nat.le_of_ble_eq_true rfl) (Nat.le_of_ble_eq_true rfl) (by omega) (w_X6_look G (by omega)) (fun v1 s1 hN => ?_)
  refine e_bipush (v := nI 81) m_X6_sliced dX6_sliced_4 (by decide) ?_
  refine e_ine (t := 42) (a := v1) (b := 81) hN m_X6_sliced dX6_sliced_6 (by decide) (fun q2 hN => ?_) (fun q2 hN => ?_)
  · refine e_aload_n m_X6_sliced dX6_sliced_9 rfl rfl rfl ?_
    refine e_iload_n m_X6_sliced dX6_sliced_10 rfl rfl ?_
    refine e_bipush (v := nI 86) m_X6_sliced dX6_sliced_11 (by decide) ?_
    refine e_aload_n m_X6_sliced dX6_sliced_13 rfl rfl rfl ?_
    refine e_getf m_X6_sliced dX6_sliced_14 f_RX6_77 (gM_m G) rfl ?_
    refine e_cvN (as := [.int (nI x1), .int (nI 86), .int (nI (m_at s1))]) hN m_X6_sliced dX6_sliced_17 c_RX6_99 (by decide) rfl rfl (gM_m G) rfl (Nat.le_of_ble_eq_true rfl) (Nat.le_of_ble_eq_true rfl) (by omega) (w_X6_child G (by omega)) (fun v3 s3 hN => ?_)
    refine e_pop m_X6_sliced dX6_sliced_20 rfl ?_
    refine e_aload_n m_X6_sliced dX6_sliced_21 rfl rfl rfl ?_
    refine e_dup m_X6_sliced dX6_sliced_22 rfl ?_
    refine e_getf m_X6_sliced dX6_sliced_23 f_RX6_77 (gM_m G) rfl ?_
    refine e_iconst (v := nI 1) m_X6_sliced dX6_sliced_26 (by decide) ?_
    refine e_iaddN m_X6_sliced dX6_sliced_27 ?_
    refine e_putf (v := .int (nI ((m_at s3) + 1))) (h' := TM h0 (w_at s3 ((m_at s3) + 1))) m_X6_sliced dX6_sliced_28 f_RX6_77 (gM_m G) (Nat.le_of_ble_eq_true rfl) (fit_i rfl) rfl (hpL_set (k := 10) (by decide) (Nat.le_of_ble_eq_true rfl)) ?_
    refine e_st hN (fun s4 hN => ?_)
    refine e_aload_n m_X6_sliced dX6_sliced_31 rfl rfl rfl ?_
    refine e_dup m_X6_sliced dX6_sliced_32 rfl ?_
    refine e_getf m_X6_sliced dX6_sliced_33 f_RX6_90 (gM_m G) rfl ?_
    refine e_iconst (v := nI 1) m_X6_sliced dX6_sliced_36 (by decide) ?_
    refine e_isubO m_X6_sliced dX6_sliced_37 ?_
    refine e_ck hN (fun q5 hN => ?_)
    rw [oI_p q5]
    refine e_putf (v := .int (nI ((m_dp s4) - 1))) (h' := TM h0 (w_dp s4 ((m_dp s4) - 1))) m_X6_sliced dX6_sliced_38 f_RX6_90 (gM_m G) (Nat.le_of_ble_eq_true rfl) (fit_i rfl) rfl (hpL_set (k := 10) (by decide) (Nat.le_of_ble_eq_true rfl)) ?_
    refine e_st hN (fun s6 hN => ?_)
    exact e_ret0 m_X6_sliced dX6_sliced_41
  · refine e_aload_n m_X6_sliced dX6_sliced_42 rfl rfl rfl ?_
    refine e_bipush (v := nI 13) m_X6_sliced dX6_sliced_43 (by decide) ?_
    refine e_iload_n m_X6_sliced dX6_sliced_45 rfl rfl ?_
    refine e_iconst (v := nI 0) m_X6_sliced dX6_sliced_46 (by decide) ?_
    refine e_cvU (as := [.int (nI 13), .int (nI x1), .int (nI 0)]) hN m_X6_sliced dX6_sliced_47 c_RX6_106 (by decide) rfl rfl (gM_m G) rfl (Nat.le_of_ble_eq_true rfl) (Nat.le_of_ble_eq_true rfl) (by omega) (w_X6_push G (by omega)) (fun v7 s7 hN => ?_)
    refine e_aload_n m_X6_sliced dX6_sliced_50 rfl rfl rfl ?_
    refine e_iload_n m_X6_sliced dX6_sliced_51 rfl rfl ?_
    refine e_iconst (v := nI 0) m_X6_sliced dX6_sliced_52 (by decide) ?_
    refine e_iconst (v := nI 1) m_X6_sliced dX6_sliced_53 (by decide) ?_
    refine e_cvU (as := [.int (nI x1), .int (nI 0), .int (nI 1)]) hN m_X6_sliced dX6_sliced_54 c_RX6_117 (by decide) rfl rfl (gM_m G) rfl (Nat.le_of_ble_eq_true rfl) (Nat.le_of_ble_eq_true rfl) (by omega) (w_X6_expression G (by omega)) (fun v8 s8 hN => ?_)
    exact e_ret0 m_X6_sliced dX6_sliced_57

