/-! The reference's build, numberAll, node, child. -/
def LF6 : Nat := 10000000000
theorem oI_n (e : Nat) : oI e = nI (e + 4294967295) := by
  cases e with
  | zero => decide
  | succ n =>
    show nI n = nI (n + 1 + 4294967295)
    apply Int32.toBitVec_inj.mp
    show BitVec.ofNat 32 n = BitVec.ofNat 32 (n + 1 + 4294967295)
    apply BitVec.eq_of_toNat_eq
    rw [BitVec.toNat_ofNat, BitVec.toNat_ofNat]
    omega
theorem nI_subM (a b : Nat) : nI a - nI b = nI (a + (4294967296 - b % 4294967296)) := by
  apply Int32.toBitVec_inj.mp
  show BitVec.ofNat 32 a - BitVec.ofNat 32 b = BitVec.ofNat 32 (a + (4294967296 - b % 4294967296))
  apply BitVec.eq_of_toNat_eq
  rw [BitVec.toNat_sub, BitVec.toNat_ofNat, BitVec.toNat_ofNat, BitVec.toNat_ofNat]
  omega
theorem oI_sub {e : Nat} (h : e ≤ 4294967296) : oI 0 - oI e = nI (4294967296 - e) := by
  rw [oI_n 0, oI_n e]
  apply Int32.toBitVec_inj.mp
  show (BitVec.ofNat 32 (0 + 4294967295)) - (BitVec.ofNat 32 (e + 4294967295)) = BitVec.ofNat 32 (4294967296 - e)
  apply BitVec.eq_of_toNat_eq
  rw [BitVec.toNat_sub, BitVec.toNat_ofNat, BitVec.toNat_ofNat, BitVec.toNat_ofNat]
  omega
def b_X6_root  (x2 : Nat) (x3 : Nat) (s : Mm) : Rs Mm := ck ((m_md s) < 65536) (st1 (w_wh s (upN (m_wh s) (m_md s) x2)) (fun s2 => ck ((m_md s2) < 65536) (st1 (w_tk s2 (upN (m_tk s2) (m_md s2) x3)) (fun s4 => ck ((m_md s4) < 65536) (st1 (w_pa s4 (upN (m_pa s4) (m_md s4) 0)) (fun s6 => ck ((m_md s6) < 65536) (st1 (w_fi s6 (upN (m_fi s6) (m_md s6) 0)) (fun s8 => ck ((m_md s8) < 65536) (st1 (w_la s8 (upN (m_la s8) (m_md s8) 0)) (fun s10 => ck ((m_md s10) < 65536) (st1 (w_nx s10 (upN (m_nx s10) (m_md s10) 0)) (fun s12 => st1 (w_md s12 ((m_md s12) + 1)) (fun s13 => ck ((m_md s13) ≠ 0) (okR ((m_md s13) - 1) s13))))))))))))))
theorem w_X6_root {xs : Nat → Int32} {L : Nat} {h0 : mm_H} (G : Mg h0) {x2 : Nat} {x3 : Nat} {s : Mm} {d : Nat} (hd : 10 ≤ d) (hN : b_X6_root  x2 x3 s ≠ none) : Rn xs L d 129 [.ref 10, .int (oI 0), .int (nI x2), .int (nI x3)] (TM h0 s) (ou eN (TM h0) (b_X6_root  x2 x3 s)) := by
  unfold Rn
  unfold b_X6_root at hN ⊢
  refine e_aload_n m_X6_child dX6_child_0 rfl rfl rfl ?_
  refine e_getf m_X6_child dX6_child_1 f_RX6_14 (gM_m G) rfl ?_
  refine e_aload_n m_X6_child dX6_child_4 rfl rfl rfl ?_
  refine e_getf m_X6_child dX6_child_5 f_RX6_93 (gM_m G) rfl ?_
  refine e_iload_n m_X6_child dX6_child_8 rfl rfl ?_
  refine e_ck hN (fun q1 hN => ?_)
  refine e_astN (v := x2) (h' := TM h0 (w_wh s (upN (m_wh s) (m_md s) x2))) q1 (by decide) m_X6_child dX6_child_9 (gM_wh G) (hpL_set (k := 12) (by decide) (Nat.le_of_ble_eq_true rfl)) ?_
  refine e_st hN (fun s2 hN => ?_)
  refine e_aload_n m_X6_child dX6_child_10 rfl rfl rfl ?_
  refine e_getf m_X6_child dX6_child_11 f_RX6_18 (gM_m G) rfl ?_
  refine e_aload_n m_X6_child dX6_child_14 rfl rfl rfl ?_
  refine e_getf m_X6_child dX6_child_15 f_RX6_93 (gM_m G) rfl ?_
  refine e_iload_n m_X6_child dX6_child_18 rfl rfl ?_
  refine e_ck hN (fun q3 hN => ?_)
  refine e_astN (v := x3) (h' := TM h0 (w_tk s2 (upN (m_tk s2) (m_md s2) x3))) q3 (by decide) m_X6_child dX6_child_19 (gM_tk G) (hpL_set (k := 13) (by decide) (Nat.le_of_ble_eq_true rfl)) ?_
  refine e_st hN (fun s4 hN => ?_)
  refine e_aload_n m_X6_child dX6_child_20 rfl rfl rfl ?_
  refine e_getf m_X6_child dX6_child_21 f_RX6_21 (gM_m G) rfl ?_
  refine e_aload_n m_X6_child dX6_child_24 rfl rfl rfl ?_
  refine e_getf m_X6_child dX6_child_25 f_RX6_93 (gM_m G) rfl ?_
  refine e_iload_n m_X6_child dX6_child_28 rfl rfl ?_
  refine e_ck hN (fun q5 hN => ?_)
  refine e_astO (v := 0) (h' := TM h0 (w_pa s4 (upN (m_pa s4) (m_md s4) 0))) q5 (by decide) m_X6_child dX6_child_29 (gM_pa G) (hpL_set (k := 14) (by decide) (Nat.le_of_ble_eq_true rfl)) ?_
  refine e_st hN (fun s6 hN => ?_)
  refine e_aload_n m_X6_child dX6_child_30 rfl rfl rfl ?_
  refine e_getf m_X6_child dX6_child_31 f_RX6_24 (gM_m G) rfl ?_
  refine e_aload_n m_X6_child dX6_child_34 rfl rfl rfl ?_
  refine e_getf m_X6_child dX6_child_35 f_RX6_93 (gM_m G) rfl ?_
  refine e_iconst (v := oI 0) m_X6_child dX6_child_38 (by decide) ?_
  refine e_ck hN (fun q7 hN => ?_)
  refine e_astO (v := 0) (h' := TM h0 (w_fi s6 (upN (m_fi s6) (m_md s6) 0))) q7 (by decide) m_X6_child dX6_child_39 (gM_fi G) (hpL_set (k := 15) (by decide) (Nat.le_of_ble_eq_true rfl)) ?_
  refine e_st hN (fun s8 hN => ?_)
  refine e_aload_n m_X6_child dX6_child_40 rfl rfl rfl ?_
  refine e_getf m_X6_child dX6_child_41 f_RX6_27 (gM_m G) rfl ?_
  refine e_aload_n m_X6_child dX6_child_44 rfl rfl rfl ?_
  refine e_getf m_X6_child dX6_child_45 f_RX6_93 (gM_m G) rfl ?_
  refine e_iconst (v := oI 0) m_X6_child dX6_child_48 (by decide) ?_
  refine e_ck hN (fun q9 hN => ?_)
  refine e_astO (v := 0) (h' := TM h0 (w_la s8 (upN (m_la s8) (m_md s8) 0))) q9 (by decide) m_X6_child dX6_child_49 (gM_la G) (hpL_set (k := 16) (by decide) (Nat.le_of_ble_eq_true rfl)) ?_
  refine e_st hN (fun s10 hN => ?_)
  refine e_aload_n m_X6_child dX6_child_50 rfl rfl rfl ?_
  refine e_getf m_X6_child dX6_child_51 f_RX6_30 (gM_m G) rfl ?_
  refine e_aload_n m_X6_child dX6_child_54 rfl rfl rfl ?_
  refine e_getf m_X6_child dX6_child_55 f_RX6_93 (gM_m G) rfl ?_
  refine e_iconst (v := oI 0) m_X6_child dX6_child_58 (by decide) ?_
  refine e_ck hN (fun q11 hN => ?_)
  refine e_astO (v := 0) (h' := TM h0 (w_nx s10 (upN (m_nx s10) (m_md s10) 0))) q11 (by decide) m_X6_child dX6_child_59 (gM_nx G) (hpL_set (k := 17) (by decide) (Nat.le_of_ble_eq_true rfl)) ?_
  refine e_st hN (fun s12 hN => ?_)
  refine e_iload_n m_X6_child dX6_child_60 rfl rfl ?_
  refine e_ifT (t := 86) m_X6_child dX6_child_61 (by decide) (by decide) ?_
  refine e_iload_n m_X6_child dX6_child_86 rfl rfl ?_
  refine e_ifT (t := 105) m_X6_child dX6_child_87 (by decide) (by decide) ?_
  refine e_iload_n m_X6_child dX6_child_105 rfl rfl ?_
  refine e_ifT (t := 119) m_X6_child dX6_child_106 (by decide) (by decide) ?_
  refine e_aload_n m_X6_child dX6_child_119 rfl rfl rfl ?_
  refine e_dup m_X6_child dX6_child_120 rfl ?_
  refine e_getf m_X6_child dX6_child_121 f_RX6_93 (gM_m G) rfl ?_
  refine e_iconst (v := nI 1) m_X6_child dX6_child_124 (by decide) ?_
  refine e_iaddN m_X6_child dX6_child_125 ?_
  refine e_putf (v := .int (nI ((m_md s12) + 1))) (h' := TM h0 (w_md s12 ((m_md s12) + 1))) m_X6_child dX6_child_126 f_RX6_93 (gM_m G) (Nat.le_of_ble_eq_true rfl) (fit_i rfl) rfl (hpL_set (k := 10) (by decide) (Nat.le_of_ble_eq_true rfl)) ?_
  refine e_st hN (fun s13 hN => ?_)
  refine e_aload_n m_X6_child dX6_child_129 rfl rfl rfl ?_
  refine e_getf m_X6_child dX6_child_130 f_RX6_93 (gM_m G) rfl ?_
  refine e_iconst (v := nI 1) m_X6_child dX6_child_133 (by decide) ?_
  refine e_isubO m_X6_child dX6_child_134 ?_
  refine e_ck hN (fun q14 hN => ?_)
  rw [oI_p q14]
  exact e_reti m_X6_child dX6_child_135 (Or.inl rfl)

def lp_X6_numberAll : Nat → Nat → Nat → Mm → Rs Mm
  | 0, _, _, _ => none
  | f + 1, g, y2, s => if g = 0 then (ifz y2 (okR 0 s) (ck (y2 ≠ 0) (ck ((y2 - 1) < 65536) (st1 (w_nu s (upN (m_nu s) (y2 - 1) (m_nd s))) (fun s44 => ck (y2 ≠ 0) (ck ((m_nd s44) < 65536) (st1 (w_by s44 (upN (m_by s44) (m_nd s44) (y2 - 1))) (fun s47 => st1 (w_nd s47 ((m_nd s47) + 1)) (fun s48 => ck (y2 ≠ 0) (ck ((y2 - 1) < 65536) (st1 (w_ins s48 (upN (m_ins s48) (y2 - 1) (m_nd s48))) (fun s51 => ck (y2 ≠ 0) (ck ((y2 - 1) < 65536) (ifz (m_fi s51 (y2 - 1)) (lp_X6_numberAll f 1 y2 s51) (ck (y2 ≠ 0) (ck ((y2 - 1) < 65536) (lp_X6_numberAll f 0 (m_fi s51 (y2 - 1)) s51))))))))))))))))) else (ifz y2 (ifz y2 (lp_X6_numberAll f 0 y2 s) (ck (y2 ≠ 0) (ck ((y2 - 1) < 65536) (ck ((y2 - 1) < 65536) (st1 (w_ins s (upN (m_ins s) (y2 - 1) ((m_nd s) + (4294967296 - (m_nu s (y2 - 1)) % 4294967296)))) (fun s62 => ck (y2 ≠ 0) (ck ((y2 - 1) < 65536) (lp_X6_numberAll f 0 (m_nx s62 (y2 - 1)) s62)))))))) (ck (y2 ≠ 0) (ck ((y2 - 1) < 65536) (ifz (m_nx s (y2 - 1)) (ck (y2 ≠ 0) (ck ((y2 - 1) < 65536) (ck ((y2 - 1) < 65536) (st1 (w_ins s (upN (m_ins s) (y2 - 1) ((m_nd s) + (4294967296 - (m_nu s (y2 - 1)) % 4294967296)))) (fun s71 => ck (y2 ≠ 0) (ck ((y2 - 1) < 65536) (lp_X6_numberAll f 1 (m_pa s71 (y2 - 1)) s71))))))) (ifz y2 (lp_X6_numberAll f 0 y2 s) (ck (y2 ≠ 0) (ck ((y2 - 1) < 65536) (ck ((y2 - 1) < 65536) (st1 (w_ins s (upN (m_ins s) (y2 - 1) ((m_nd s) + (4294967296 - (m_nu s (y2 - 1)) % 4294967296)))) (fun s78 => ck (y2 ≠ 0) (ck ((y2 - 1) < 65536) (lp_X6_numberAll f 0 (m_nx s78 (y2 - 1)) s78))))))))))))
theorem l_X6_numberAll {xs : Nat → Int32} {L : Nat} {h0 : mm_H} (G : Mg h0) : ∀ (f : Nat) (y2 : Nat) (s : Mm), (∀ (d : Nat) (ls : mm_L) (hd : 12 ≤ d) (hl0 : mm_lk ls 0 = some (.ref 10)) (hl2 : mm_lk ls 2 = some (.int (oI y2))), lp_X6_numberAll f 0 y2 s ≠ none → Ev xs L d 218 2 ls [] (TM h0 s) 0 0 (ou eU (TM h0) (lp_X6_numberAll f 0 y2 s))) ∧ (∀ (d : Nat) (ls : mm_L) (hd : 12 ≤ d) (hl0 : mm_lk ls 0 = some (.ref 10)) (hl2 : mm_lk ls 2 = some (.int (oI y2))), lp_X6_numberAll f 1 y2 s ≠ none → Ev xs L d 218 65 ls [] (TM h0 s) 0 0 (ou eU (TM h0) (lp_X6_numberAll f 1 y2 s))) := by
  intro f
  induction f with
  | zero => intro y2 s; exact ⟨fun _ _ _ _ _ hN => absurd rfl hN, fun _ _ _ _ _ hN => absurd rfl hN⟩
  | succ f ih =>
    intro y2 s
    refine ⟨?_, ?_⟩
    · intro d ls hd hl0 hl2 hN
      rw [lp_X6_numberAll] at hN ⊢
      rw [if_pos rfl] at hN ⊢
      refine e_iload_n m_X6_numberAll dX6_numberAll_2 rfl hl2 ?_
      refine e_oiflt (t := 136) hN m_X6_numberAll dX6_numberAll_3 (by decide) (fun q41 hN => ?_) (fun q41 hN => ?_)
      · exact e_ret0 m_X6_numberAll dX6_numberAll_136
      · refine e_aload_n m_X6_numberAll dX6_numberAll_6 rfl hl0 rfl ?_
        refine e_getf m_X6_numberAll dX6_numberAll_7 f_RX6_33 (gM_m G) rfl ?_
        refine e_iload_n m_X6_numberAll dX6_numberAll_10 rfl hl2 ?_
        refine e_aload_n m_X6_numberAll dX6_numberAll_11 rfl hl0 rfl ?_
        refine e_getf m_X6_numberAll dX6_numberAll_12 f_RX6_366 (gM_m G) rfl ?_
        refine e_ck hN (fun q42 hN => ?_)
        rw [oI_p q42]
        refine e_ck hN (fun q43 hN => ?_)
        refine e_astN (v := (m_nd s)) (h' := TM h0 (w_nu s (upN (m_nu s) (y2 - 1) (m_nd s)))) q43 (by decide) m_X6_numberAll dX6_numberAll_15 (gM_nu G) (hpL_set (k := 18) (by decide) (Nat.le_of_ble_eq_true rfl)) ?_
        refine e_st hN (fun s44 hN => ?_)
        refine e_aload_n m_X6_numberAll dX6_numberAll_16 rfl hl0 rfl ?_
        refine e_getf m_X6_numberAll dX6_numberAll_17 f_RX6_36 (gM_m G) rfl ?_
        refine e_aload_n m_X6_numberAll dX6_numberAll_20 rfl hl0 rfl ?_
        refine e_getf m_X6_numberAll dX6_numberAll_21 f_RX6_366 (gM_m G) rfl ?_
        refine e_iload_n m_X6_numberAll dX6_numberAll_24 rfl hl2 ?_
        refine e_ck hN (fun q45 hN => ?_)
        rw [oI_p q45]
        refine e_ck hN (fun q46 hN => ?_)
        refine e_astN (v := (y2 - 1)) (h' := TM h0 (w_by s44 (upN (m_by s44) (m_nd s44) (y2 - 1)))) q46 (by decide) m_X6_numberAll dX6_numberAll_25 (gM_by G) (hpL_set (k := 19) (by decide) (Nat.le_of_ble_eq_true rfl)) ?_
        refine e_st hN (fun s47 hN => ?_)
        refine e_aload_n m_X6_numberAll dX6_numberAll_26 rfl hl0 rfl ?_
        refine e_dup m_X6_numberAll dX6_numberAll_27 rfl ?_
        refine e_getf m_X6_numberAll dX6_numberAll_28 f_RX6_366 (gM_m G) rfl ?_
        refine e_iconst (v := nI 1) m_X6_numberAll dX6_numberAll_31 (by decide) ?_
        refine e_iaddN m_X6_numberAll dX6_numberAll_32 ?_
        refine e_putf (v := .int (nI ((m_nd s47) + 1))) (h' := TM h0 (w_nd s47 ((m_nd s47) + 1))) m_X6_numberAll dX6_numberAll_33 f_RX6_366 (gM_m G) (Nat.le_of_ble_eq_true rfl) (fit_i rfl) rfl (hpL_set (k := 10) (by decide) (Nat.le_of_ble_eq_true rfl)) ?_
        refine e_st hN (fun s48 hN => ?_)
        refine e_aload_n m_X6_numberAll dX6_numberAll_36 rfl hl0 rfl ?_
        refine e_getf m_X6_numberAll dX6_numberAll_37 f_RX6_39 (gM_m G) rfl ?_
        refine e_iload_n m_X6_numberAll dX6_numberAll_40 rfl hl2 ?_
        refine e_aload_n m_X6_numberAll dX6_numberAll_41 rfl hl0 rfl ?_
        refine e_getf m_X6_numberAll dX6_numberAll_42 f_RX6_366 (gM_m G) rfl ?_
        refine e_ck hN (fun q49 hN => ?_)
        rw [oI_p q49]
        refine e_ck hN (fun q50 hN => ?_)
        refine e_astN (v := (m_nd s48)) (h' := TM h0 (w_ins s48 (upN (m_ins s48) (y2 - 1) (m_nd s48)))) q50 (by decide) m_X6_numberAll dX6_numberAll_45 (gM_ins G) (hpL_set (k := 20) (by decide) (Nat.le_of_ble_eq_true rfl)) ?_
        refine e_st hN (fun s51 hN => ?_)
        refine e_aload_n m_X6_numberAll dX6_numberAll_46 rfl hl0 rfl ?_
        refine e_getf m_X6_numberAll dX6_numberAll_47 f_RX6_24 (gM_m G) rfl ?_
        refine e_iload_n m_X6_numberAll dX6_numberAll_50 rfl hl2 ?_
        refine e_ck hN (fun q52 hN => ?_)
        rw [oI_p q52]
        refine e_ck hN (fun q53 hN => ?_)
        refine e_aldO q53 (by decide) (Or.inl ⟨rfl, rfl⟩) m_X6_numberAll dX6_numberAll_51 (gM_fi G) ?_
        refine e_oiflt (t := 65) hN m_X6_numberAll dX6_numberAll_52 (by decide) (fun q54 hN => ?_) (fun q54 hN => ?_)
        · exact (ih y2 _).2 _ _ (by omega) hl0 hl2 hN
        · refine e_aload_n m_X6_numberAll dX6_numberAll_55 rfl hl0 rfl ?_
          refine e_getf m_X6_numberAll dX6_numberAll_56 f_RX6_24 (gM_m G) rfl ?_
          refine e_iload_n m_X6_numberAll dX6_numberAll_59 rfl hl2 ?_
          refine e_ck hN (fun q55 hN => ?_)
          rw [oI_p q55]
          refine e_ck hN (fun q56 hN => ?_)
          refine e_aldO q56 (by decide) (Or.inl ⟨rfl, rfl⟩) m_X6_numberAll dX6_numberAll_60 (gM_fi G) ?_
          refine e_istore_n m_X6_numberAll dX6_numberAll_61 rfl (by decide) rfl ?_
          refine e_goto (t := 2) m_X6_numberAll dX6_numberAll_62 (by decide) ?_
          exact (ih (m_fi s51 (y2 - 1)) _).1 _ _ (by omega) (lk_mis (by decide) rfl hl0) lk_hit hN
    · intro d ls hd hl0 hl2 hN
      rw [lp_X6_numberAll] at hN ⊢
      rw [if_neg (by decide)] at hN ⊢
      refine e_iload_n m_X6_numberAll dX6_numberAll_65 rfl hl2 ?_
      refine e_oiflt (t := 105) hN m_X6_numberAll dX6_numberAll_66 (by decide) (fun q57 hN => ?_) (fun q57 hN => ?_)
      · refine e_iload_n m_X6_numberAll dX6_numberAll_105 rfl hl2 ?_
        refine e_oiflt (t := 2) hN m_X6_numberAll dX6_numberAll_106 (by decide) (fun q58 hN => ?_) (fun q58 hN => ?_)
        · exact (ih y2 _).1 _ _ (by omega) hl0 hl2 hN
        · refine e_aload_n m_X6_numberAll dX6_numberAll_109 rfl hl0 rfl ?_
          refine e_getf m_X6_numberAll dX6_numberAll_110 f_RX6_39 (gM_m G) rfl ?_
          refine e_iload_n m_X6_numberAll dX6_numberAll_113 rfl hl2 ?_
          refine e_aload_n m_X6_numberAll dX6_numberAll_114 rfl hl0 rfl ?_
          refine e_getf m_X6_numberAll dX6_numberAll_115 f_RX6_366 (gM_m G) rfl ?_
          refine e_aload_n m_X6_numberAll dX6_numberAll_118 rfl hl0 rfl ?_
          refine e_getf m_X6_numberAll dX6_numberAll_119 f_RX6_33 (gM_m G) rfl ?_
          refine e_iload_n m_X6_numberAll dX6_numberAll_122 rfl hl2 ?_
          refine e_ck hN (fun q59 hN => ?_)
          rw [oI_p q59]
          refine e_ck hN (fun q60 hN => ?_)
          refine e_aldN q60 (by decide) (Or.inl ⟨rfl, rfl⟩) m_X6_numberAll dX6_numberAll_123 (gM_nu G) ?_
          refine e_isub m_X6_numberAll dX6_numberAll_124 ?_
          rw [nI_subM]
          refine e_ck hN (fun q61 hN => ?_)
          refine e_astN (v := ((m_nd s) + (4294967296 - (m_nu s (y2 - 1)) % 4294967296))) (h' := TM h0 (w_ins s (upN (m_ins s) (y2 - 1) ((m_nd s) + (4294967296 - (m_nu s (y2 - 1)) % 4294967296))))) q61 (by decide) m_X6_numberAll dX6_numberAll_125 (gM_ins G) (hpL_set (k := 20) (by decide) (Nat.le_of_ble_eq_true rfl)) ?_
          refine e_st hN (fun s62 hN => ?_)
          refine e_aload_n m_X6_numberAll dX6_numberAll_126 rfl hl0 rfl ?_
          refine e_getf m_X6_numberAll dX6_numberAll_127 f_RX6_30 (gM_m G) rfl ?_
          refine e_iload_n m_X6_numberAll dX6_numberAll_130 rfl hl2 ?_
          refine e_ck hN (fun q63 hN => ?_)
          rw [oI_p q63]
          refine e_ck hN (fun q64 hN => ?_)
          refine e_aldO q64 (by decide) (Or.inl ⟨rfl, rfl⟩) m_X6_numberAll dX6_numberAll_131 (gM_nx G) ?_
          refine e_istore_n m_X6_numberAll dX6_numberAll_132 rfl (by decide) rfl ?_
          refine e_goto (t := 2) m_X6_numberAll dX6_numberAll_133 (by decide) ?_
          exact (ih (m_nx s62 (y2 - 1)) _).1 _ _ (by omega) (lk_mis (by decide) rfl hl0) lk_hit hN
      · refine e_aload_n m_X6_numberAll dX6_numberAll_69 rfl hl0 rfl ?_
        refine e_getf m_X6_numberAll dX6_numberAll_70 f_RX6_30 (gM_m G) rfl ?_
        refine e_iload_n m_X6_numberAll dX6_numberAll_73 rfl hl2 ?_
        refine e_ck hN (fun q65 hN => ?_)
        rw [oI_p q65]
        refine e_ck hN (fun q66 hN => ?_)
        refine e_aldO q66 (by decide) (Or.inl ⟨rfl, rfl⟩) m_X6_numberAll dX6_numberAll_74 (gM_nx G) ?_
        refine e_oifge (t := 105) hN m_X6_numberAll dX6_numberAll_75 (by decide) (fun q67 hN => ?_) (fun q67 hN => ?_)
        · refine e_aload_n m_X6_numberAll dX6_numberAll_78 rfl hl0 rfl ?_
          refine e_getf m_X6_numberAll dX6_numberAll_79 f_RX6_39 (gM_m G) rfl ?_
          refine e_iload_n m_X6_numberAll dX6_numberAll_82 rfl hl2 ?_
          refine e_aload_n m_X6_numberAll dX6_numberAll_83 rfl hl0 rfl ?_
          refine e_getf m_X6_numberAll dX6_numberAll_84 f_RX6_366 (gM_m G) rfl ?_
          refine e_aload_n m_X6_numberAll dX6_numberAll_87 rfl hl0 rfl ?_
          refine e_getf m_X6_numberAll dX6_numberAll_88 f_RX6_33 (gM_m G) rfl ?_
          refine e_iload_n m_X6_numberAll dX6_numberAll_91 rfl hl2 ?_
          refine e_ck hN (fun q68 hN => ?_)
          rw [oI_p q68]
          refine e_ck hN (fun q69 hN => ?_)
          refine e_aldN q69 (by decide) (Or.inl ⟨rfl, rfl⟩) m_X6_numberAll dX6_numberAll_92 (gM_nu G) ?_
          refine e_isub m_X6_numberAll dX6_numberAll_93 ?_
          rw [nI_subM]
          refine e_ck hN (fun q70 hN => ?_)
          refine e_astN (v := ((m_nd s) + (4294967296 - (m_nu s (y2 - 1)) % 4294967296))) (h' := TM h0 (w_ins s (upN (m_ins s) (y2 - 1) ((m_nd s) + (4294967296 - (m_nu s (y2 - 1)) % 4294967296))))) q70 (by decide) m_X6_numberAll dX6_numberAll_94 (gM_ins G) (hpL_set (k := 20) (by decide) (Nat.le_of_ble_eq_true rfl)) ?_
          refine e_st hN (fun s71 hN => ?_)
          refine e_aload_n m_X6_numberAll dX6_numberAll_95 rfl hl0 rfl ?_
          refine e_getf m_X6_numberAll dX6_numberAll_96 f_RX6_21 (gM_m G) rfl ?_
          refine e_iload_n m_X6_numberAll dX6_numberAll_99 rfl hl2 ?_
          refine e_ck hN (fun q72 hN => ?_)
          rw [oI_p q72]
          refine e_ck hN (fun q73 hN => ?_)
          refine e_aldO q73 (by decide) (Or.inl ⟨rfl, rfl⟩) m_X6_numberAll dX6_numberAll_100 (gM_pa G) ?_
          refine e_istore_n m_X6_numberAll dX6_numberAll_101 rfl (by decide) rfl ?_
          refine e_goto (t := 65) m_X6_numberAll dX6_numberAll_102 (by decide) ?_
          exact (ih (m_pa s71 (y2 - 1)) _).2 _ _ (by omega) (lk_mis (by decide) rfl hl0) lk_hit hN
        · refine e_iload_n m_X6_numberAll dX6_numberAll_105 rfl hl2 ?_
          refine e_oiflt (t := 2) hN m_X6_numberAll dX6_numberAll_106 (by decide) (fun q74 hN => ?_) (fun q74 hN => ?_)
          · exact (ih y2 _).1 _ _ (by omega) hl0 hl2 hN
          · refine e_aload_n m_X6_numberAll dX6_numberAll_109 rfl hl0 rfl ?_
            refine e_getf m_X6_numberAll dX6_numberAll_110 f_RX6_39 (gM_m G) rfl ?_
            refine e_iload_n m_X6_numberAll dX6_numberAll_113 rfl hl2 ?_
            refine e_aload_n m_X6_numberAll dX6_numberAll_114 rfl hl0 rfl ?_
            refine e_getf m_X6_numberAll dX6_numberAll_115 f_RX6_366 (gM_m G) rfl ?_
            refine e_aload_n m_X6_numberAll dX6_numberAll_118 rfl hl0 rfl ?_
            refine e_getf m_X6_numberAll dX6_numberAll_119 f_RX6_33 (gM_m G) rfl ?_
            refine e_iload_n m_X6_numberAll dX6_numberAll_122 rfl hl2 ?_
            refine e_ck hN (fun q75 hN => ?_)
            rw [oI_p q75]
            refine e_ck hN (fun q76 hN => ?_)
            refine e_aldN q76 (by decide) (Or.inl ⟨rfl, rfl⟩) m_X6_numberAll dX6_numberAll_123 (gM_nu G) ?_
            refine e_isub m_X6_numberAll dX6_numberAll_124 ?_
            rw [nI_subM]
            refine e_ck hN (fun q77 hN => ?_)
            refine e_astN (v := ((m_nd s) + (4294967296 - (m_nu s (y2 - 1)) % 4294967296))) (h' := TM h0 (w_ins s (upN (m_ins s) (y2 - 1) ((m_nd s) + (4294967296 - (m_nu s (y2 - 1)) % 4294967296))))) q77 (by decide) m_X6_numberAll dX6_numberAll_125 (gM_ins G) (hpL_set (k := 20) (by decide) (Nat.le_of_ble_eq_true rfl)) ?_
            refine e_st hN (fun s78 hN => ?_)
            refine e_aload_n m_X6_numberAll dX6_numberAll_126 rfl hl0 rfl ?_
            refine e_getf m_X6_numberAll dX6_numberAll_127 f_RX6_30 (gM_m G) rfl ?_
            refine e_iload_n m_X6_numberAll dX6_numberAll_130 rfl hl2 ?_
            refine e_ck hN (fun q79 hN => ?_)
            rw [oI_p q79]
            refine e_ck hN (fun q80 hN => ?_)
            refine e_aldO q80 (by decide) (Or.inl ⟨rfl, rfl⟩) m_X6_numberAll dX6_numberAll_131 (gM_nx G) ?_
            refine e_istore_n m_X6_numberAll dX6_numberAll_132 rfl (by decide) rfl ?_
            refine e_goto (t := 2) m_X6_numberAll dX6_numberAll_133 (by decide) ?_
            exact (ih (m_nx s78 (y2 - 1)) _).1 _ _ (by omega) (lk_mis (by decide) rfl hl0) lk_hit hN
def b_X6_numberAll  (x1 : Nat) (s : Mm) : Rs Mm := lp_X6_numberAll LF6 0 (x1 + 1) s
theorem w_X6_numberAll {xs : Nat → Int32} {L : Nat} {h0 : mm_H} (G : Mg h0) {x1 : Nat} {s : Mm} {d : Nat} (hd : 12 ≤ d) (hN : b_X6_numberAll x1 s ≠ none) : Rn xs L d 218 [.ref 10, .int (nI x1)] (TM h0 s) (ou eU (TM h0) (b_X6_numberAll x1 s)) := by
  unfold Rn
  unfold b_X6_numberAll at hN ⊢
  refine e_iload_n m_X6_numberAll dX6_numberAll_0 rfl rfl ?_
  refine e_istore_n m_X6_numberAll dX6_numberAll_1 rfl (by decide) rfl ?_
  exact (l_X6_numberAll G LF6 (x1 + 1) _).1 _ _ (by omega) rfl rfl hN

def lp_X6_node_116  : Nat → Nat → Nat → Mm → Rs Mm
  | 0, _, _, _ => none
  | f + 1, y4, y5, s => ifz y5 (okR y4 s) (ck (y5 ≠ 0) (ck ((y5 - 1) < 65536) (lp_X6_node_116  f (y4 + 1) (m_nx s (y5 - 1)) s)))
theorem l_X6_node_116 {xs : Nat → Int32} {L : Nat} {h0 : mm_H} (G : Mg h0) : ∀ (f : Nat) (y4 y5 : Nat) (s : Mm) (d : Nat) (ls : mm_L) (hd : 12 ≤ d) (hl0 : mm_lk ls 0 = some (.ref 10)) (hl4 : mm_lk ls 4 = some (.int (nI y4))) (hl5 : mm_lk ls 5 = some (.int (oI y5))), lp_X6_node_116  f y4 y5 s ≠ none → Ev xs L d 220 116 ls [] (TM h0 s) 0 0 (ou eN (TM h0) (lp_X6_node_116  f y4 y5 s)) := by
  intro f
  induction f with
  | zero => intros; rename_i hN; exact absurd rfl hN
  | succ f ih =>
    intro y4 y5 s d ls hd hl0 hl4 hl5 hN
    rw [lp_X6_node_116] at hN ⊢
    refine e_iload m_X6_node dX6_node_116 hl5 ?_
    refine e_oiflt (t := 136) hN m_X6_node dX6_node_118 (by decide) (fun q25 hN => ?_) (fun q25 hN => ?_)
    · refine e_iload m_X6_node dX6_node_136 hl4 ?_
      exact e_reti m_X6_node dX6_node_138 (Or.inl rfl)
    · refine e_iincN (n := 1) m_X6_node dX6_node_121 (by decide) hl4 rfl ?_
      refine e_aload_n m_X6_node dX6_node_124 rfl (lk_mis (by decide) rfl hl0) rfl ?_
      refine e_getf m_X6_node dX6_node_125 f_RX6_30 (gM_m G) rfl ?_
      refine e_iload m_X6_node dX6_node_128 (lk_mis (by decide) rfl hl5) ?_
      refine e_ck hN (fun q26 hN => ?_)
      rw [oI_p q26]
      refine e_ck hN (fun q27 hN => ?_)
      refine e_aldO q27 (by decide) (Or.inl ⟨rfl, rfl⟩) m_X6_node dX6_node_130 (gM_nx G) ?_
      refine e_istore m_X6_node dX6_node_131 (by decide) rfl ?_
      refine e_goto (t := 116) m_X6_node dX6_node_133 (by decide) ?_
      exact ih (y4 + 1) (m_nx s (y5 - 1)) _ _ _ (by omega) (lk_mis (by decide) rfl (lk_mis (by decide) rfl hl0)) (lk_mis (by decide) rfl lk_hit) lk_hit hN
def b_X6_node  (x1 : Nat) (x2 : Nat) (s : Mm) : Rs Mm := st1 (w_th s 0) (fun s1 => ck (x1 < 2147483648) (ifl x1 (m_nd s1) (ck (x2 < 2147483648) (ifl 4 x2 (bn (b_X6_fail  s1) (fun v6 s6 => okR v6 s6)) (ck (x1 < 65536) (ifl x2 2 (ifz x2 (ck ((m_by s1 x1) < 65536) (okR (m_wh s1 (m_by s1 x1)) s1)) (ck ((m_by s1 x1) < 65536) (okR (m_tk s1 (m_by s1 x1)) s1))) (ife x2 2 (ck ((m_by s1 x1) < 65536) (okR (m_ins s1 (m_by s1 x1)) s1)) (ife x2 4 (ck ((m_by s1 x1) < 65536) (ifz (m_pa s1 (m_by s1 x1)) (okR (0 + 4294967295) s1) (ck ((m_by s1 x1) < 65536) (ck ((m_pa s1 (m_by s1 x1)) ≠ 0) (ck (((m_pa s1 (m_by s1 x1)) - 1) < 65536) (okR (m_nu s1 ((m_pa s1 (m_by s1 x1)) - 1)) s1)))))) (ck ((m_by s1 x1) < 65536) (lp_X6_node_116  LF6 0 (m_fi s1 (m_by s1 x1)) s1)))))))) (bn (b_X6_fail  s1) (fun v21 s21 => okR v21 s21))))
theorem w_X6_node {xs : Nat → Int32} {L : Nat} {h0 : mm_H} (G : Mg h0) {x1 : Nat} {x2 : Nat} {s : Mm} {d : Nat} (hd : 12 ≤ d) (hN : b_X6_node  x1 x2 s ≠ none) : Rn xs L d 220 [.ref 10, .int (nI x1), .int (nI x2)] (TM h0 s) (ou eN (TM h0) (b_X6_node  x1 x2 s)) := by
  unfold Rn
  unfold b_X6_node at hN ⊢
  refine e_aload_n m_X6_node dX6_node_0 rfl rfl rfl ?_
  refine e_iconst (v := nI 0) m_X6_node dX6_node_1 (by decide) ?_
  refine e_putf (v := .int (nI 0)) (h' := TM h0 (w_th s 0)) m_X6_node dX6_node_2 f_RX6_64 (gM_m G) (Nat.le_of_ble_eq_true rfl) (fit_i rfl) rfl (hpL_set (k := 10) (by decide) (Nat.le_of_ble_eq_true rfl)) ?_
  refine e_st hN (fun s1 hN => ?_)
  refine e_iload_n m_X6_node dX6_node_5 rfl rfl ?_
  refine e_ck hN (fun q2 hN => ?_)
  refine e_ifF (t := 26) m_X6_node dX6_node_6 (by decide) (n_nlt q2) ?_
  refine e_iload_n m_X6_node dX6_node_9 rfl rfl ?_
  refine e_aload_n m_X6_node dX6_node_10 rfl rfl rfl ?_
  refine e_getf m_X6_node dX6_node_11 f_RX6_366 (gM_m G) rfl ?_
  refine e_ige (t := 26) (a := x1) (b := (m_nd s1)) hN m_X6_node dX6_node_14 (by decide) (fun q3 hN => ?_) (fun q3 hN => ?_)
  · refine e_iload_n m_X6_node dX6_node_17 rfl rfl ?_
    refine e_ck hN (fun q4 hN => ?_)
    refine e_ifF (t := 26) m_X6_node dX6_node_18 (by decide) (n_nlt q4) ?_
    refine e_iload_n m_X6_node dX6_node_21 rfl rfl ?_
    refine e_iconst (v := nI 4) m_X6_node dX6_node_22 (by decide) ?_
    refine e_ile (t := 31) (a := x2) (b := 4) hN m_X6_node dX6_node_23 (by decide) (fun q5 hN => ?_) (fun q5 hN => ?_)
    · refine e_aload_n m_X6_node dX6_node_26 rfl rfl rfl ?_
      refine e_cvN (as := []) hN m_X6_node dX6_node_27 c_RX6_375 (by decide) rfl rfl (gM_m G) rfl (Nat.le_of_ble_eq_true rfl) (Nat.le_of_ble_eq_true rfl) (by omega) (w_X6_fail G (by omega)) (fun v6 s6 hN => ?_)
      exact e_reti m_X6_node dX6_node_30 (Or.inl rfl)
    · refine e_aload_n m_X6_node dX6_node_31 rfl rfl rfl ?_
      refine e_getf m_X6_node dX6_node_32 f_RX6_36 (gM_m G) rfl ?_
      refine e_iload_n m_X6_node dX6_node_35 rfl rfl ?_
      refine e_ck hN (fun q7 hN => ?_)
      refine e_aldN q7 (by decide) (Or.inl ⟨rfl, rfl⟩) m_X6_node dX6_node_36 (gM_by G) ?_
      refine e_istore_n m_X6_node dX6_node_37 rfl (by decide) rfl ?_
      refine e_iload_n m_X6_node dX6_node_38 rfl rfl ?_
      refine e_iconst (v := nI 2) m_X6_node dX6_node_39 (by decide) ?_
      refine e_ige (t := 63) (a := x2) (b := 2) hN m_X6_node dX6_node_40 (by decide) (fun q8 hN => ?_) (fun q8 hN => ?_)
      · refine e_iload_n m_X6_node dX6_node_43 rfl rfl ?_
        refine e_ifne (t := 56) hN m_X6_node dX6_node_44 (by decide) (fun q9 hN => ?_) (fun q9 hN => ?_)
        · refine e_aload_n m_X6_node dX6_node_47 rfl rfl rfl ?_
          refine e_getf m_X6_node dX6_node_48 f_RX6_14 (gM_m G) rfl ?_
          refine e_iload_n m_X6_node dX6_node_51 rfl rfl ?_
          refine e_ck hN (fun q10 hN => ?_)
          refine e_aldN q10 (by decide) (Or.inl ⟨rfl, rfl⟩) m_X6_node dX6_node_52 (gM_wh G) ?_
          refine e_goto (t := 62) m_X6_node dX6_node_53 (by decide) ?_
          exact e_reti m_X6_node dX6_node_62 (Or.inl rfl)
        · refine e_aload_n m_X6_node dX6_node_56 rfl rfl rfl ?_
          refine e_getf m_X6_node dX6_node_57 f_RX6_18 (gM_m G) rfl ?_
          refine e_iload_n m_X6_node dX6_node_60 rfl rfl ?_
          refine e_ck hN (fun q11 hN => ?_)
          refine e_aldN q11 (by decide) (Or.inl ⟨rfl, rfl⟩) m_X6_node dX6_node_61 (gM_tk G) ?_
          exact e_reti m_X6_node dX6_node_62 (Or.inl rfl)
      · refine e_iload_n m_X6_node dX6_node_63 rfl rfl ?_
        refine e_iconst (v := nI 2) m_X6_node dX6_node_64 (by decide) ?_
        refine e_ine (t := 75) (a := x2) (b := 2) hN m_X6_node dX6_node_65 (by decide) (fun q12 hN => ?_) (fun q12 hN => ?_)
        · refine e_aload_n m_X6_node dX6_node_68 rfl rfl rfl ?_
          refine e_getf m_X6_node dX6_node_69 f_RX6_39 (gM_m G) rfl ?_
          refine e_iload_n m_X6_node dX6_node_72 rfl rfl ?_
          refine e_ck hN (fun q13 hN => ?_)
          refine e_aldN q13 (by decide) (Or.inl ⟨rfl, rfl⟩) m_X6_node dX6_node_73 (gM_ins G) ?_
          exact e_reti m_X6_node dX6_node_74 (Or.inl rfl)
        · refine e_iload_n m_X6_node dX6_node_75 rfl rfl ?_
          refine e_iconst (v := nI 4) m_X6_node dX6_node_76 (by decide) ?_
          refine e_ine (t := 105) (a := x2) (b := 4) hN m_X6_node dX6_node_77 (by decide) (fun q14 hN => ?_) (fun q14 hN => ?_)
          · refine e_aload_n m_X6_node dX6_node_80 rfl rfl rfl ?_
            refine e_getf m_X6_node dX6_node_81 f_RX6_21 (gM_m G) rfl ?_
            refine e_iload_n m_X6_node dX6_node_84 rfl rfl ?_
            refine e_ck hN (fun q15 hN => ?_)
            refine e_aldO q15 (by decide) (Or.inl ⟨rfl, rfl⟩) m_X6_node dX6_node_85 (gM_pa G) ?_
            refine e_oifge (t := 93) hN m_X6_node dX6_node_86 (by decide) (fun q16 hN => ?_) (fun q16 hN => ?_)
            · refine e_iconst (v := oI 0) m_X6_node dX6_node_89 (by decide) ?_
              refine e_goto (t := 104) m_X6_node dX6_node_90 (by decide) ?_
              rw [oI_n 0]
              exact e_reti m_X6_node dX6_node_104 (Or.inl rfl)
            · refine e_aload_n m_X6_node dX6_node_93 rfl rfl rfl ?_
              refine e_getf m_X6_node dX6_node_94 f_RX6_33 (gM_m G) rfl ?_
              refine e_aload_n m_X6_node dX6_node_97 rfl rfl rfl ?_
              refine e_getf m_X6_node dX6_node_98 f_RX6_21 (gM_m G) rfl ?_
              refine e_iload_n m_X6_node dX6_node_101 rfl rfl ?_
              refine e_ck hN (fun q17 hN => ?_)
              refine e_aldO q17 (by decide) (Or.inl ⟨rfl, rfl⟩) m_X6_node dX6_node_102 (gM_pa G) ?_
              refine e_ck hN (fun q18 hN => ?_)
              rw [oI_p q18]
              refine e_ck hN (fun q19 hN => ?_)
              refine e_aldN q19 (by decide) (Or.inl ⟨rfl, rfl⟩) m_X6_node dX6_node_103 (gM_nu G) ?_
              exact e_reti m_X6_node dX6_node_104 (Or.inl rfl)
          · refine e_iconst (v := nI 0) m_X6_node dX6_node_105 (by decide) ?_
            refine e_istore m_X6_node dX6_node_106 (by decide) rfl ?_
            refine e_aload_n m_X6_node dX6_node_108 rfl rfl rfl ?_
            refine e_getf m_X6_node dX6_node_109 f_RX6_24 (gM_m G) rfl ?_
            refine e_iload_n m_X6_node dX6_node_112 rfl rfl ?_
            refine e_ck hN (fun q20 hN => ?_)
            refine e_aldO q20 (by decide) (Or.inl ⟨rfl, rfl⟩) m_X6_node dX6_node_113 (gM_fi G) ?_
            refine e_istore m_X6_node dX6_node_114 (by decide) rfl ?_
            exact l_X6_node_116 G LF6 0 (m_fi s1 (m_by s1 x1)) _ _ _ (by omega) rfl rfl rfl hN
  · refine e_aload_n m_X6_node dX6_node_26 rfl rfl rfl ?_
    refine e_cvN (as := []) hN m_X6_node dX6_node_27 c_RX6_375 (by decide) rfl rfl (gM_m G) rfl (Nat.le_of_ble_eq_true rfl) (Nat.le_of_ble_eq_true rfl) (by omega) (w_X6_fail G (by omega)) (fun v21 s21 hN => ?_)
    exact e_reti m_X6_node dX6_node_30 (Or.inl rfl)

def lp_X6_child__41  : Nat → Nat → Nat → Nat → Mm → Rs Mm
  | 0, _, _, _, _ => none
  | f + 1, y2, y3, y4, s => ifl y4 y2 (ifz y3 (ifz y3 (bn (b_X6_fail  s) (fun v23 s23 => okR v23 s23)) (ck (y3 ≠ 0) (ck ((y3 - 1) < 65536) (okR (m_nu s (y3 - 1)) s)))) (ck (y3 ≠ 0) (ck ((y3 - 1) < 65536) (lp_X6_child__41  f y2 (m_nx s (y3 - 1)) (y4 + 1) s)))) (ifz y3 (bn (b_X6_fail  s) (fun v29 s29 => okR v29 s29)) (ck (y3 ≠ 0) (ck ((y3 - 1) < 65536) (okR (m_nu s (y3 - 1)) s))))
theorem l_X6_child__41 {xs : Nat → Int32} {L : Nat} {h0 : mm_H} (G : Mg h0) : ∀ (f : Nat) (y2 y3 y4 : Nat) (s : Mm) (d : Nat) (ls : mm_L) (hd : 12 ≤ d) (hl0 : mm_lk ls 0 = some (.ref 10)) (hl2 : mm_lk ls 2 = some (.int (nI y2))) (hl3 : mm_lk ls 3 = some (.int (oI y3))) (hl4 : mm_lk ls 4 = some (.int (nI y4))), lp_X6_child__41  f y2 y3 y4 s ≠ none → Ev xs L d 222 41 ls [] (TM h0 s) 0 0 (ou eN (TM h0) (lp_X6_child__41  f y2 y3 y4 s)) := by
  intro f
  induction f with
  | zero => intros; rename_i hN; exact absurd rfl hN
  | succ f ih =>
    intro y2 y3 y4 s d ls hd hl0 hl2 hl3 hl4 hN
    rw [lp_X6_child__41] at hN ⊢
    refine e_iload m_X6_child_ dX6_child__41 hl4 ?_
    refine e_iload_n m_X6_child_ dX6_child__43 rfl hl2 ?_
    refine e_ige (t := 64) (a := y4) (b := y2) hN m_X6_child_ dX6_child__44 (by decide) (fun q20 hN => ?_) (fun q20 hN => ?_)
    · refine e_iload_n m_X6_child_ dX6_child__47 rfl hl3 ?_
      refine e_oiflt (t := 64) hN m_X6_child_ dX6_child__48 (by decide) (fun q21 hN => ?_) (fun q21 hN => ?_)
      · refine e_iload_n m_X6_child_ dX6_child__64 rfl hl3 ?_
        refine e_oifge (t := 75) hN m_X6_child_ dX6_child__65 (by decide) (fun q22 hN => ?_) (fun q22 hN => ?_)
        · refine e_aload_n m_X6_child_ dX6_child__68 rfl hl0 rfl ?_
          refine e_cvN (as := []) hN m_X6_child_ dX6_child__69 c_RX6_375 (by decide) rfl rfl (gM_m G) rfl (Nat.le_of_ble_eq_true rfl) (Nat.le_of_ble_eq_true rfl) (by omega) (w_X6_fail G (by omega)) (fun v23 s23 hN => ?_)
          refine e_goto (t := 81) m_X6_child_ dX6_child__72 (by decide) ?_
          exact e_reti m_X6_child_ dX6_child__81 (Or.inl rfl)
        · refine e_aload_n m_X6_child_ dX6_child__75 rfl hl0 rfl ?_
          refine e_getf m_X6_child_ dX6_child__76 f_RX6_33 (gM_m G) rfl ?_
          refine e_iload_n m_X6_child_ dX6_child__79 rfl hl3 ?_
          refine e_ck hN (fun q24 hN => ?_)
          rw [oI_p q24]
          refine e_ck hN (fun q25 hN => ?_)
          refine e_aldN q25 (by decide) (Or.inl ⟨rfl, rfl⟩) m_X6_child_ dX6_child__80 (gM_nu G) ?_
          exact e_reti m_X6_child_ dX6_child__81 (Or.inl rfl)
      · refine e_aload_n m_X6_child_ dX6_child__51 rfl hl0 rfl ?_
        refine e_getf m_X6_child_ dX6_child__52 f_RX6_30 (gM_m G) rfl ?_
        refine e_iload_n m_X6_child_ dX6_child__55 rfl hl3 ?_
        refine e_ck hN (fun q26 hN => ?_)
        rw [oI_p q26]
        refine e_ck hN (fun q27 hN => ?_)
        refine e_aldO q27 (by decide) (Or.inl ⟨rfl, rfl⟩) m_X6_child_ dX6_child__56 (gM_nx G) ?_
        refine e_istore_n m_X6_child_ dX6_child__57 rfl (by decide) rfl ?_
        refine e_iincN (n := 1) m_X6_child_ dX6_child__58 (by decide) (lk_mis (by decide) rfl hl4) rfl ?_
        refine e_goto (t := 41) m_X6_child_ dX6_child__61 (by decide) ?_
        exact ih y2 (m_nx s (y3 - 1)) (y4 + 1) _ _ _ (by omega) (lk_mis (by decide) rfl (lk_mis (by decide) rfl hl0)) (lk_mis (by decide) rfl (lk_mis (by decide) rfl hl2)) (lk_mis (by decide) rfl lk_hit) lk_hit hN
    · refine e_iload_n m_X6_child_ dX6_child__64 rfl hl3 ?_
      refine e_oifge (t := 75) hN m_X6_child_ dX6_child__65 (by decide) (fun q28 hN => ?_) (fun q28 hN => ?_)
      · refine e_aload_n m_X6_child_ dX6_child__68 rfl hl0 rfl ?_
        refine e_cvN (as := []) hN m_X6_child_ dX6_child__69 c_RX6_375 (by decide) rfl rfl (gM_m G) rfl (Nat.le_of_ble_eq_true rfl) (Nat.le_of_ble_eq_true rfl) (by omega) (w_X6_fail G (by omega)) (fun v29 s29 hN => ?_)
        refine e_goto (t := 81) m_X6_child_ dX6_child__72 (by decide) ?_
        exact e_reti m_X6_child_ dX6_child__81 (Or.inl rfl)
      · refine e_aload_n m_X6_child_ dX6_child__75 rfl hl0 rfl ?_
        refine e_getf m_X6_child_ dX6_child__76 f_RX6_33 (gM_m G) rfl ?_
        refine e_iload_n m_X6_child_ dX6_child__79 rfl hl3 ?_
        refine e_ck hN (fun q30 hN => ?_)
        rw [oI_p q30]
        refine e_ck hN (fun q31 hN => ?_)
        refine e_aldN q31 (by decide) (Or.inl ⟨rfl, rfl⟩) m_X6_child_ dX6_child__80 (gM_nu G) ?_
        exact e_reti m_X6_child_ dX6_child__81 (Or.inl rfl)
def b_X6_child_  (x1 : Nat) (x2 : Nat) (s : Mm) : Rs Mm := st1 (w_th s 0) (fun s1 => ck (x1 < 2147483648) (ifl x1 (m_nd s1) (ck (x2 < 2147483648) (ck (x1 < 65536) (ck ((m_by s1 x1) < 65536) (lp_X6_child__41  LF6 x2 (m_fi s1 (m_by s1 x1)) 0 s1)))) (bn (b_X6_fail  s1) (fun v7 s7 => okR v7 s7))))
theorem w_X6_child_ {xs : Nat → Int32} {L : Nat} {h0 : mm_H} (G : Mg h0) {x1 : Nat} {x2 : Nat} {s : Mm} {d : Nat} (hd : 12 ≤ d) (hN : b_X6_child_  x1 x2 s ≠ none) : Rn xs L d 222 [.ref 10, .int (nI x1), .int (nI x2)] (TM h0 s) (ou eN (TM h0) (b_X6_child_  x1 x2 s)) := by
  unfold Rn
  unfold b_X6_child_ at hN ⊢
  refine e_aload_n m_X6_child_ dX6_child__0 rfl rfl rfl ?_
  refine e_iconst (v := nI 0) m_X6_child_ dX6_child__1 (by decide) ?_
  refine e_putf (v := .int (nI 0)) (h' := TM h0 (w_th s 0)) m_X6_child_ dX6_child__2 f_RX6_64 (gM_m G) (Nat.le_of_ble_eq_true rfl) (fit_i rfl) rfl (hpL_set (k := 10) (by decide) (Nat.le_of_ble_eq_true rfl)) ?_
  refine e_st hN (fun s1 hN => ?_)
  refine e_iload_n m_X6_child_ dX6_child__5 rfl rfl ?_
  refine e_ck hN (fun q2 hN => ?_)
  refine e_ifF (t := 21) m_X6_child_ dX6_child__6 (by decide) (n_nlt q2) ?_
  refine e_iload_n m_X6_child_ dX6_child__9 rfl rfl ?_
  refine e_aload_n m_X6_child_ dX6_child__10 rfl rfl rfl ?_
  refine e_getf m_X6_child_ dX6_child__11 f_RX6_366 (gM_m G) rfl ?_
  refine e_ige (t := 21) (a := x1) (b := (m_nd s1)) hN m_X6_child_ dX6_child__14 (by decide) (fun q3 hN => ?_) (fun q3 hN => ?_)
  · refine e_iload_n m_X6_child_ dX6_child__17 rfl rfl ?_
    refine e_ck hN (fun q4 hN => ?_)
    refine e_ifT (t := 26) m_X6_child_ dX6_child__18 (by decide) (n_ge q4) ?_
    refine e_aload_n m_X6_child_ dX6_child__26 rfl rfl rfl ?_
    refine e_getf m_X6_child_ dX6_child__27 f_RX6_24 (gM_m G) rfl ?_
    refine e_aload_n m_X6_child_ dX6_child__30 rfl rfl rfl ?_
    refine e_getf m_X6_child_ dX6_child__31 f_RX6_36 (gM_m G) rfl ?_
    refine e_iload_n m_X6_child_ dX6_child__34 rfl rfl ?_
    refine e_ck hN (fun q5 hN => ?_)
    refine e_aldN q5 (by decide) (Or.inl ⟨rfl, rfl⟩) m_X6_child_ dX6_child__35 (gM_by G) ?_
    refine e_ck hN (fun q6 hN => ?_)
    refine e_aldO q6 (by decide) (Or.inl ⟨rfl, rfl⟩) m_X6_child_ dX6_child__36 (gM_fi G) ?_
    refine e_istore_n m_X6_child_ dX6_child__37 rfl (by decide) rfl ?_
    refine e_iconst (v := nI 0) m_X6_child_ dX6_child__38 (by decide) ?_
    refine e_istore m_X6_child_ dX6_child__39 (by decide) rfl ?_
    exact l_X6_child__41 G LF6 x2 (m_fi s1 (m_by s1 x1)) 0 _ _ _ (by omega) rfl rfl rfl rfl hN
  · refine e_aload_n m_X6_child_ dX6_child__21 rfl rfl rfl ?_
    refine e_cvN (as := []) hN m_X6_child_ dX6_child__22 c_RX6_375 (by decide) rfl rfl (gM_m G) rfl (Nat.le_of_ble_eq_true rfl) (Nat.le_of_ble_eq_true rfl) (by omega) (w_X6_fail G (by omega)) (fun v7 s7 hN => ?_)
    exact e_reti m_X6_child_ dX6_child__25 (Or.inl rfl)

def lp_X6_build_88  : Nat → Nat → Mm → Rs Mm
  | 0, _, _ => none
  | f + 1, y1, s => ifz (m_td s) (st1 (w_ct s 0) (fun s38 => ifz (m_wr s38) (bn (b_X6_numberAll y1 s38) (fun v40 s40 => okR (m_nd s40) s40)) (ck ((m_wr s38) ≤ 4294967296) (okR (4294967296 - (m_wr s38)) s38)))) (ifz (m_wr s) (ck ((m_td s) ≠ 0) (st1 (w_td s ((m_td s) - 1)) (fun s44 => ck ((m_td s44) < 4096) (ck ((m_td s44) < 4096) (ck ((m_td s44) < 4096) (bn (b_X6_step (m_dz s44 (m_td s44)) (m_no s44 (m_td s44)) (m_tr s44 (m_td s44)) s44) (fun v48 s48 => lp_X6_build_88  f y1 s48))))))) (st1 (w_ct s 0) (fun s49 => ifz (m_wr s49) (bn (b_X6_numberAll y1 s49) (fun v51 s51 => okR (m_nd s51) s51)) (ck ((m_wr s49) ≤ 4294967296) (okR (4294967296 - (m_wr s49)) s49)))))
theorem l_X6_build_88 {xs : Nat → Int32} {L : Nat} {h0 : mm_H} (G : Mg h0) : ∀ (f : Nat) (y1 : Nat) (s : Mm) (d : Nat) (ls : mm_L) (hd : 65 ≤ d) (hl0 : mm_lk ls 0 = some (.ref 10)) (hl1 : mm_lk ls 1 = some (.int (nI y1))), lp_X6_build_88  f y1 s ≠ none → Ev xs L d 128 88 ls [] (TM h0 s) 0 0 (ou eN (TM h0) (lp_X6_build_88  f y1 s)) := by
  intro f
  induction f with
  | zero => intros; rename_i hN; exact absurd rfl hN
  | succ f ih =>
    intro y1 s d ls hd hl0 hl1 hN
    rw [lp_X6_build_88] at hN ⊢
    refine e_aload_n m_X6_build dX6_build_88 rfl hl0 rfl ?_
    refine e_getf m_X6_build dX6_build_89 f_RX6_96 (gM_m G) rfl ?_
    refine e_ifle (t := 146) hN m_X6_build dX6_build_92 (by decide) (fun q37 hN => ?_) (fun q37 hN => ?_)
    · refine e_aload_n m_X6_build dX6_build_146 rfl hl0 rfl ?_
      refine e_iconst (v := nI 0) m_X6_build dX6_build_147 (by decide) ?_
      refine e_putf (v := .int (nI 0)) (h' := TM h0 (w_ct s 0)) m_X6_build dX6_build_148 f_RX6_72 (gM_m G) (Nat.le_of_ble_eq_true rfl) (fit_i rfl) rfl (hpL_set (k := 10) (by decide) (Nat.le_of_ble_eq_true rfl)) ?_
      refine e_st hN (fun s38 hN => ?_)
      refine e_aload_n m_X6_build dX6_build_151 rfl hl0 rfl ?_
      refine e_getf m_X6_build dX6_build_152 f_RX6_80 (gM_m G) rfl ?_
      refine e_oiflt (t := 165) hN m_X6_build dX6_build_155 (by decide) (fun q39 hN => ?_) (fun q39 hN => ?_)
      · refine e_aload_n m_X6_build dX6_build_165 rfl hl0 rfl ?_
        refine e_iload_n m_X6_build dX6_build_166 rfl hl1 ?_
        refine e_cvU (as := [.int (nI y1)]) hN m_X6_build dX6_build_167 c_RX6_372 (by decide) rfl rfl (gM_m G) rfl (Nat.le_of_ble_eq_true rfl) (Nat.le_of_ble_eq_true rfl) (by omega) (w_X6_numberAll G (by omega)) (fun v40 s40 hN => ?_)
        refine e_aload_n m_X6_build dX6_build_170 rfl hl0 rfl ?_
        refine e_getf m_X6_build dX6_build_171 f_RX6_366 (gM_m G) rfl ?_
        exact e_reti m_X6_build dX6_build_174 (Or.inl rfl)
      · refine e_iconst (v := oI 0) m_X6_build dX6_build_158 (by decide) ?_
        refine e_aload_n m_X6_build dX6_build_159 rfl hl0 rfl ?_
        refine e_getf m_X6_build dX6_build_160 f_RX6_80 (gM_m G) rfl ?_
        refine e_ck hN (fun q41 hN => ?_)
        refine e_isub m_X6_build dX6_build_163 ?_
        rw [oI_sub q41]
        exact e_reti m_X6_build dX6_build_164 (Or.inl rfl)
    · refine e_aload_n m_X6_build dX6_build_95 rfl hl0 rfl ?_
      refine e_getf m_X6_build dX6_build_96 f_RX6_80 (gM_m G) rfl ?_
      refine e_oifge (t := 146) hN m_X6_build dX6_build_99 (by decide) (fun q42 hN => ?_) (fun q42 hN => ?_)
      · refine e_aload_n m_X6_build dX6_build_102 rfl hl0 rfl ?_
        refine e_dup m_X6_build dX6_build_103 rfl ?_
        refine e_getf m_X6_build dX6_build_104 f_RX6_96 (gM_m G) rfl ?_
        refine e_iconst (v := nI 1) m_X6_build dX6_build_107 (by decide) ?_
        refine e_isubO m_X6_build dX6_build_108 ?_
        refine e_ck hN (fun q43 hN => ?_)
        rw [oI_p q43]
        refine e_putf (v := .int (nI ((m_td s) - 1))) (h' := TM h0 (w_td s ((m_td s) - 1))) m_X6_build dX6_build_109 f_RX6_96 (gM_m G) (Nat.le_of_ble_eq_true rfl) (fit_i rfl) rfl (hpL_set (k := 10) (by decide) (Nat.le_of_ble_eq_true rfl)) ?_
        refine e_st hN (fun s44 hN => ?_)
        refine e_aload_n m_X6_build dX6_build_112 rfl hl0 rfl ?_
        refine e_aload_n m_X6_build dX6_build_113 rfl hl0 rfl ?_
        refine e_getf m_X6_build dX6_build_114 f_RX6_42 (gM_m G) rfl ?_
        refine e_aload_n m_X6_build dX6_build_117 rfl hl0 rfl ?_
        refine e_getf m_X6_build dX6_build_118 f_RX6_96 (gM_m G) rfl ?_
        refine e_ck hN (fun q45 hN => ?_)
        refine e_aldN q45 (by decide) (Or.inl ⟨rfl, rfl⟩) m_X6_build dX6_build_121 (gM_dz G) ?_
        refine e_aload_n m_X6_build dX6_build_122 rfl hl0 rfl ?_
        refine e_getf m_X6_build dX6_build_123 f_RX6_45 (gM_m G) rfl ?_
        refine e_aload_n m_X6_build dX6_build_126 rfl hl0 rfl ?_
        refine e_getf m_X6_build dX6_build_127 f_RX6_96 (gM_m G) rfl ?_
        refine e_ck hN (fun q46 hN => ?_)
        refine e_aldN q46 (by decide) (Or.inl ⟨rfl, rfl⟩) m_X6_build dX6_build_130 (gM_no G) ?_
        refine e_aload_n m_X6_build dX6_build_131 rfl hl0 rfl ?_
        refine e_getf m_X6_build dX6_build_132 f_RX6_48 (gM_m G) rfl ?_
        refine e_aload_n m_X6_build dX6_build_135 rfl hl0 rfl ?_
        refine e_getf m_X6_build dX6_build_136 f_RX6_96 (gM_m G) rfl ?_
        refine e_ck hN (fun q47 hN => ?_)
        refine e_aldN q47 (by decide) (Or.inl ⟨rfl, rfl⟩) m_X6_build dX6_build_139 (gM_tr G) ?_
        refine e_cvU (as := [.int (nI (m_dz s44 (m_td s44))), .int (nI (m_no s44 (m_td s44))), .int (nI (m_tr s44 (m_td s44)))]) hN m_X6_build dX6_build_140 c_RX6_369 (by decide) rfl rfl (gM_m G) rfl (Nat.le_of_ble_eq_true rfl) (Nat.le_of_ble_eq_true rfl) (by omega) (w_X6_step G (by omega)) (fun v48 s48 hN => ?_)
        refine e_goto (t := 88) m_X6_build dX6_build_143 (by decide) ?_
        exact ih y1 _ _ _ (by omega) hl0 hl1 hN
      · refine e_aload_n m_X6_build dX6_build_146 rfl hl0 rfl ?_
        refine e_iconst (v := nI 0) m_X6_build dX6_build_147 (by decide) ?_
        refine e_putf (v := .int (nI 0)) (h' := TM h0 (w_ct s 0)) m_X6_build dX6_build_148 f_RX6_72 (gM_m G) (Nat.le_of_ble_eq_true rfl) (fit_i rfl) rfl (hpL_set (k := 10) (by decide) (Nat.le_of_ble_eq_true rfl)) ?_
        refine e_st hN (fun s49 hN => ?_)
        refine e_aload_n m_X6_build dX6_build_151 rfl hl0 rfl ?_
        refine e_getf m_X6_build dX6_build_152 f_RX6_80 (gM_m G) rfl ?_
        refine e_oiflt (t := 165) hN m_X6_build dX6_build_155 (by decide) (fun q50 hN => ?_) (fun q50 hN => ?_)
        · refine e_aload_n m_X6_build dX6_build_165 rfl hl0 rfl ?_
          refine e_iload_n m_X6_build dX6_build_166 rfl hl1 ?_
          refine e_cvU (as := [.int (nI y1)]) hN m_X6_build dX6_build_167 c_RX6_372 (by decide) rfl rfl (gM_m G) rfl (Nat.le_of_ble_eq_true rfl) (Nat.le_of_ble_eq_true rfl) (by omega) (w_X6_numberAll G (by omega)) (fun v51 s51 hN => ?_)
          refine e_aload_n m_X6_build dX6_build_170 rfl hl0 rfl ?_
          refine e_getf m_X6_build dX6_build_171 f_RX6_366 (gM_m G) rfl ?_
          exact e_reti m_X6_build dX6_build_174 (Or.inl rfl)
        · refine e_iconst (v := oI 0) m_X6_build dX6_build_158 (by decide) ?_
          refine e_aload_n m_X6_build dX6_build_159 rfl hl0 rfl ?_
          refine e_getf m_X6_build dX6_build_160 f_RX6_80 (gM_m G) rfl ?_
          refine e_ck hN (fun q52 hN => ?_)
          refine e_isub m_X6_build dX6_build_163 ?_
          rw [oI_sub q52]
          exact e_reti m_X6_build dX6_build_164 (Or.inl rfl)
def b_X6_build  (s : Mm) : Rs Mm := st1 (w_th s 0) (fun s1 => st1 (w_md s1 0) (fun s2 => st1 (w_nd s2 0) (fun s3 => st1 (w_td s3 0) (fun s4 => st1 (w_at s4 0) (fun s5 => st1 (w_dp s5 0) (fun s6 => st1 (w_wr s6 0) (fun s7 => st1 (w_rw s7 0) (fun s8 => bn (b_X6_root 1 0 s8) (fun v9 s9 => bn (b_X6_pass 27 s9) (fun v10 s10 => ifz (m_wr s10) (bn (b_X6_name v9 s10) (fun v12 s12 => ifz (m_wr s12) (bn (b_X6_pass 85 s12) (fun v14 s14 => bn (b_X6_push 54 v9 0 s14) (fun v15 s15 => lp_X6_build_88  LF6 v9 s15))) (bn (b_X6_push 54 v9 0 s12) (fun v16 s16 => lp_X6_build_88  LF6 v9 s16)))) (ifz (m_wr s10) (bn (b_X6_pass 85 s10) (fun v18 s18 => bn (b_X6_push 54 v9 0 s18) (fun v19 s19 => lp_X6_build_88  LF6 v9 s19))) (bn (b_X6_push 54 v9 0 s10) (fun v20 s20 => lp_X6_build_88  LF6 v9 s20)))))))))))))
theorem w_X6_build {xs : Nat → Int32} {L : Nat} {h0 : mm_H} (G : Mg h0) {s : Mm} {d : Nat} (hd : 65 ≤ d) (hN : b_X6_build  s ≠ none) : Rn xs L d 128 [.ref 10] (TM h0 s) (ou eN (TM h0) (b_X6_build  s)) := by
  unfold Rn
  unfold b_X6_build at hN ⊢
  refine e_aload_n m_X6_build dX6_build_0 rfl rfl rfl ?_
  refine e_iconst (v := nI 0) m_X6_build dX6_build_1 (by decide) ?_
  refine e_putf (v := .int (nI 0)) (h' := TM h0 (w_th s 0)) m_X6_build dX6_build_2 f_RX6_64 (gM_m G) (Nat.le_of_ble_eq_true rfl) (fit_i rfl) rfl (hpL_set (k := 10) (by decide) (Nat.le_of_ble_eq_true rfl)) ?_
  refine e_st hN (fun s1 hN => ?_)
  refine e_aload_n m_X6_build dX6_build_5 rfl rfl rfl ?_
  refine e_iconst (v := nI 0) m_X6_build dX6_build_6 (by decide) ?_
  refine e_putf (v := .int (nI 0)) (h' := TM h0 (w_md s1 0)) m_X6_build dX6_build_7 f_RX6_93 (gM_m G) (Nat.le_of_ble_eq_true rfl) (fit_i rfl) rfl (hpL_set (k := 10) (by decide) (Nat.le_of_ble_eq_true rfl)) ?_
  refine e_st hN (fun s2 hN => ?_)
  refine e_aload_n m_X6_build dX6_build_10 rfl rfl rfl ?_
  refine e_iconst (v := nI 0) m_X6_build dX6_build_11 (by decide) ?_
  refine e_putf (v := .int (nI 0)) (h' := TM h0 (w_nd s2 0)) m_X6_build dX6_build_12 f_RX6_366 (gM_m G) (Nat.le_of_ble_eq_true rfl) (fit_i rfl) rfl (hpL_set (k := 10) (by decide) (Nat.le_of_ble_eq_true rfl)) ?_
  refine e_st hN (fun s3 hN => ?_)
  refine e_aload_n m_X6_build dX6_build_15 rfl rfl rfl ?_
  refine e_iconst (v := nI 0) m_X6_build dX6_build_16 (by decide) ?_
  refine e_putf (v := .int (nI 0)) (h' := TM h0 (w_td s3 0)) m_X6_build dX6_build_17 f_RX6_96 (gM_m G) (Nat.le_of_ble_eq_true rfl) (fit_i rfl) rfl (hpL_set (k := 10) (by decide) (Nat.le_of_ble_eq_true rfl)) ?_
  refine e_st hN (fun s4 hN => ?_)
  refine e_aload_n m_X6_build dX6_build_20 rfl rfl rfl ?_
  refine e_iconst (v := nI 0) m_X6_build dX6_build_21 (by decide) ?_
  refine e_putf (v := .int (nI 0)) (h' := TM h0 (w_at s4 0)) m_X6_build dX6_build_22 f_RX6_77 (gM_m G) (Nat.le_of_ble_eq_true rfl) (fit_i rfl) rfl (hpL_set (k := 10) (by decide) (Nat.le_of_ble_eq_true rfl)) ?_
  refine e_st hN (fun s5 hN => ?_)
  refine e_aload_n m_X6_build dX6_build_25 rfl rfl rfl ?_
  refine e_iconst (v := nI 0) m_X6_build dX6_build_26 (by decide) ?_
  refine e_putf (v := .int (nI 0)) (h' := TM h0 (w_dp s5 0)) m_X6_build dX6_build_27 f_RX6_90 (gM_m G) (Nat.le_of_ble_eq_true rfl) (fit_i rfl) rfl (hpL_set (k := 10) (by decide) (Nat.le_of_ble_eq_true rfl)) ?_
  refine e_st hN (fun s6 hN => ?_)
  refine e_aload_n m_X6_build dX6_build_30 rfl rfl rfl ?_
  refine e_iconst (v := oI 0) m_X6_build dX6_build_31 (by decide) ?_
  refine e_putf (v := .int (oI 0)) (h' := TM h0 (w_wr s6 0)) m_X6_build dX6_build_32 f_RX6_80 (gM_m G) (Nat.le_of_ble_eq_true rfl) (fit_i rfl) rfl (hpL_set (k := 10) (by decide) (Nat.le_of_ble_eq_true rfl)) ?_
  refine e_st hN (fun s7 hN => ?_)
  refine e_aload_n m_X6_build dX6_build_35 rfl rfl rfl ?_
  refine e_iconst (v := nI 0) m_X6_build dX6_build_36 (by decide) ?_
  refine e_putf (v := .int (nI 0)) (h' := TM h0 (w_rw s7 0)) m_X6_build dX6_build_37 f_RX6_156 (gM_m G) (Nat.le_of_ble_eq_true rfl) (fit_i rfl) rfl (hpL_set (k := 10) (by decide) (Nat.le_of_ble_eq_true rfl)) ?_
  refine e_st hN (fun s8 hN => ?_)
  refine e_aload_n m_X6_build dX6_build_40 rfl rfl rfl ?_
  refine e_iconst (v := oI 0) m_X6_build dX6_build_41 (by decide) ?_
  refine e_iconst (v := nI 1) m_X6_build dX6_build_42 (by decide) ?_
  refine e_iconst (v := nI 0) m_X6_build dX6_build_43 (by decide) ?_
  refine e_cvN (as := [.int (oI 0), .int (nI 1), .int (nI 0)]) hN m_X6_build dX6_build_44 c_RX6_99 (by decide) rfl rfl (gM_m G) rfl (Nat.le_of_ble_eq_true rfl) (Nat.le_of_ble_eq_true rfl) (by omega) (w_X6_root G (by omega)) (fun v9 s9 hN => ?_)
  refine e_istore_n m_X6_build dX6_build_47 rfl (by decide) rfl ?_
  refine e_aload_n m_X6_build dX6_build_48 rfl rfl rfl ?_
  refine e_bipush (v := nI 27) m_X6_build dX6_build_49 (by decide) ?_
  refine e_cvU (as := [.int (nI 27)]) hN m_X6_build dX6_build_51 c_RX6_141 (by decide) rfl rfl (gM_m G) rfl (Nat.le_of_ble_eq_true rfl) (Nat.le_of_ble_eq_true rfl) (by omega) (w_X6_pass G (by omega)) (fun v10 s10 hN => ?_)
  refine e_aload_n m_X6_build dX6_build_54 rfl rfl rfl ?_
  refine e_getf m_X6_build dX6_build_55 f_RX6_80 (gM_m G) rfl ?_
  refine e_oifge (t := 67) hN m_X6_build dX6_build_58 (by decide) (fun q11 hN => ?_) (fun q11 hN => ?_)
  · refine e_aload_n m_X6_build dX6_build_61 rfl rfl rfl ?_
    refine e_iload_n m_X6_build dX6_build_62 rfl rfl ?_
    refine e_cvN (as := [.int (nI v9)]) hN m_X6_build dX6_build_63 c_RX6_130 (by decide) rfl rfl (gM_m G) rfl (Nat.le_of_ble_eq_true rfl) (Nat.le_of_ble_eq_true rfl) (by omega) (w_X6_name G (by omega)) (fun v12 s12 hN => ?_)
    refine e_pop m_X6_build dX6_build_66 rfl ?_
    refine e_aload_n m_X6_build dX6_build_67 rfl rfl rfl ?_
    refine e_getf m_X6_build dX6_build_68 f_RX6_80 (gM_m G) rfl ?_
    refine e_oifge (t := 80) hN m_X6_build dX6_build_71 (by decide) (fun q13 hN => ?_) (fun q13 hN => ?_)
    · refine e_aload_n m_X6_build dX6_build_74 rfl rfl rfl ?_
      refine e_bipush (v := nI 85) m_X6_build dX6_build_75 (by decide) ?_
      refine e_cvU (as := [.int (nI 85)]) hN m_X6_build dX6_build_77 c_RX6_141 (by decide) rfl rfl (gM_m G) rfl (Nat.le_of_ble_eq_true rfl) (Nat.le_of_ble_eq_true rfl) (by omega) (w_X6_pass G (by omega)) (fun v14 s14 hN => ?_)
      refine e_aload_n m_X6_build dX6_build_80 rfl rfl rfl ?_
      refine e_bipush (v := nI 54) m_X6_build dX6_build_81 (by decide) ?_
      refine e_iload_n m_X6_build dX6_build_83 rfl rfl ?_
      refine e_iconst (v := nI 0) m_X6_build dX6_build_84 (by decide) ?_
      refine e_cvU (as := [.int (nI 54), .int (nI v9), .int (nI 0)]) hN m_X6_build dX6_build_85 c_RX6_106 (by decide) rfl rfl (gM_m G) rfl (Nat.le_of_ble_eq_true rfl) (Nat.le_of_ble_eq_true rfl) (by omega) (w_X6_push G (by omega)) (fun v15 s15 hN => ?_)
      exact l_X6_build_88 G LF6 v9 _ _ _ (by omega) rfl rfl hN
    · refine e_aload_n m_X6_build dX6_build_80 rfl rfl rfl ?_
      refine e_bipush (v := nI 54) m_X6_build dX6_build_81 (by decide) ?_
      refine e_iload_n m_X6_build dX6_build_83 rfl rfl ?_
      refine e_iconst (v := nI 0) m_X6_build dX6_build_84 (by decide) ?_
      refine e_cvU (as := [.int (nI 54), .int (nI v9), .int (nI 0)]) hN m_X6_build dX6_build_85 c_RX6_106 (by decide) rfl rfl (gM_m G) rfl (Nat.le_of_ble_eq_true rfl) (Nat.le_of_ble_eq_true rfl) (by omega) (w_X6_push G (by omega)) (fun v16 s16 hN => ?_)
      exact l_X6_build_88 G LF6 v9 _ _ _ (by omega) rfl rfl hN
  · refine e_aload_n m_X6_build dX6_build_67 rfl rfl rfl ?_
    refine e_getf m_X6_build dX6_build_68 f_RX6_80 (gM_m G) rfl ?_
    refine e_oifge (t := 80) hN m_X6_build dX6_build_71 (by decide) (fun q17 hN => ?_) (fun q17 hN => ?_)
    · refine e_aload_n m_X6_build dX6_build_74 rfl rfl rfl ?_
      refine e_bipush (v := nI 85) m_X6_build dX6_build_75 (by decide) ?_
      refine e_cvU (as := [.int (nI 85)]) hN m_X6_build dX6_build_77 c_RX6_141 (by decide) rfl rfl (gM_m G) rfl (Nat.le_of_ble_eq_true rfl) (Nat.le_of_ble_eq_true rfl) (by omega) (w_X6_pass G (by omega)) (fun v18 s18 hN => ?_)
      refine e_aload_n m_X6_build dX6_build_80 rfl rfl rfl ?_
      refine e_bipush (v := nI 54) m_X6_build dX6_build_81 (by decide) ?_
      refine e_iload_n m_X6_build dX6_build_83 rfl rfl ?_
      refine e_iconst (v := nI 0) m_X6_build dX6_build_84 (by decide) ?_
      refine e_cvU (as := [.int (nI 54), .int (nI v9), .int (nI 0)]) hN m_X6_build dX6_build_85 c_RX6_106 (by decide) rfl rfl (gM_m G) rfl (Nat.le_of_ble_eq_true rfl) (Nat.le_of_ble_eq_true rfl) (by omega) (w_X6_push G (by omega)) (fun v19 s19 hN => ?_)
      exact l_X6_build_88 G LF6 v9 _ _ _ (by omega) rfl rfl hN
    · refine e_aload_n m_X6_build dX6_build_80 rfl rfl rfl ?_
      refine e_bipush (v := nI 54) m_X6_build dX6_build_81 (by decide) ?_
      refine e_iload_n m_X6_build dX6_build_83 rfl rfl ?_
      refine e_iconst (v := nI 0) m_X6_build dX6_build_84 (by decide) ?_
      refine e_cvU (as := [.int (nI 54), .int (nI v9), .int (nI 0)]) hN m_X6_build dX6_build_85 c_RX6_106 (by decide) rfl rfl (gM_m G) rfl (Nat.le_of_ble_eq_true rfl) (Nat.le_of_ble_eq_true rfl) (by omega) (w_X6_push G (by omega)) (fun v20 s20 hN => ?_)
      exact l_X6_build_88 G LF6 v9 _ _ _ (by omega) rfl rfl hN
