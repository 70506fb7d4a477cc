/-! add, addAll, size, nodes, node, child of the reference. -/
theorem u_add0 {xs : Nat → Int32} {L d : Nat} {h0 : mm_H} {s : Mm} {x : Int32} (G : Mg h0) (hx : exB x = 0) (hd : 2 ≤ d) : Rn xs L d 124 [.ref 10, .int x] (TM h0 s) (.inl (some (.int 0)), TM h0 (w_th s 0), 0, 0) := by
  unfold Rn
  refine e_aload_n m_X6_add dX6_add_0 rfl rfl rfl ?_
  refine e_iconst (v := nI 0) m_X6_add dX6_add_1 (by decide) ?_
  refine e_putf (h' := TM h0 (w_th s 0)) m_X6_add dX6_add_2 f_RX6_64 (gM_m G) (Nat.le_of_ble_eq_true rfl) (fit_i rfl) rfl (hpL_set (k := 10) (by decide) (Nat.le_of_ble_eq_true rfl)) ?_
  refine e_iload_n m_X6_add dX6_add_5 rfl rfl ?_
  refine e_cs (as := [.int x]) m_X6_add dX6_add_6 c_RX6_68 (by decide) rfl rfl (Nat.le_of_ble_eq_true rfl) (Nat.le_of_ble_eq_true rfl) hd t_isKind ?_
  refine e_ifT (t := 22) m_X6_add dX6_add_9 (by decide) (by rw [hx]; rfl) ?_
  refine e_iconst (v := 0) m_X6_add dX6_add_22 (by decide) ?_
  exact e_reti m_X6_add dX6_add_23 (Or.inr ⟨rfl, by decide⟩)
theorem u_add1 {xs : Nat → Int32} {L d : Nat} {h0 : mm_H} {s : Mm} {v : Nat} (G : Mg h0) (hx : exB (nI v) ≠ 0) (hv : v < 128) (hc : m_ct s < 16384) (hd : 2 ≤ d) : Rn xs L d 124 [.ref 10, .int (nI v)] (TM h0 s) (.inl (some (.int 1)), TM h0 (w_ct (w_kd (w_th s 0) (upN (m_kd s) (m_ct s) v)) (m_ct s + 1)), 0, 0) := by
  unfold Rn
  refine e_aload_n m_X6_add dX6_add_0 rfl rfl rfl ?_
  refine e_iconst (v := nI 0) m_X6_add dX6_add_1 (by decide) ?_
  refine e_putf (h' := TM h0 (w_th s 0)) m_X6_add dX6_add_2 f_RX6_64 (gM_m G) (Nat.le_of_ble_eq_true rfl) (fit_i rfl) rfl (hpL_set (k := 10) (by decide) (Nat.le_of_ble_eq_true rfl)) ?_
  refine e_iload_n m_X6_add dX6_add_5 rfl rfl ?_
  refine e_cs (as := [.int (nI v)]) m_X6_add dX6_add_6 c_RX6_68 (by decide) rfl rfl (Nat.le_of_ble_eq_true rfl) (Nat.le_of_ble_eq_true rfl) hd t_isKind ?_
  refine e_ifF (t := 22) m_X6_add dX6_add_9 (by decide) (decide_eq_false hx) ?_
  refine e_aload_n m_X6_add dX6_add_12 rfl rfl rfl ?_
  refine e_getf m_X6_add dX6_add_13 f_RX6_72 (gM_m G) rfl ?_
  refine e_sipush (v := nI 16384) m_X6_add dX6_add_16 (by decide) ?_
  refine e_icT (t := 24) m_X6_add dX6_add_19 (by decide) (decide_eq_true (fun h9 => absurd ((nI_eq (show m_ct s < 2147483648 by omega) (by decide : 16384 < 2147483648)).mp h9) (by omega))) ?_
  refine e_aload_n m_X6_add dX6_add_24 rfl rfl rfl ?_
  refine e_getf m_X6_add dX6_add_25 f_RX6_7 (gM_m G) rfl ?_
  refine e_aload_n m_X6_add dX6_add_28 rfl rfl rfl ?_
  refine e_getf m_X6_add dX6_add_29 f_RX6_72 (gM_m G) rfl ?_
  refine e_iload_n m_X6_add dX6_add_32 rfl rfl ?_
  refine e_i2b m_X6_add dX6_add_33 ?_
  refine e_iast (h' := TM h0 (w_kd (w_th s 0) (upN (m_kd s) (m_ct s) v))) (Or.inr ⟨rfl, Or.inl rfl⟩) m_X6_add dX6_add_34 (gM_kd G) (nI_in (show m_ct s < 16385 by omega) (by decide)) (by rw [up_rB hv (show m_ct s < 2147483648 by omega)]; exact (hpL_set (k := 11) (by decide) (Nat.le_of_ble_eq_true rfl))) ?_
  refine e_aload_n m_X6_add dX6_add_35 rfl rfl rfl ?_
  refine e_dup m_X6_add dX6_add_36 rfl ?_
  refine e_getf m_X6_add dX6_add_37 f_RX6_72 (gM_m G) rfl ?_
  refine e_iconst (v := 1) m_X6_add dX6_add_40 (by decide) ?_
  refine e_iadd m_X6_add dX6_add_41 ?_
  refine e_rw (st' := [.int (nI (m_ct s + 1)), .ref 10]) (by rw [← nI_s1] <;> rfl) ?_
  refine e_putf (h' := TM h0 (w_ct (w_kd (w_th s 0) (upN (m_kd s) (m_ct s) v)) (m_ct s + 1))) m_X6_add dX6_add_42 f_RX6_72 (gM_m G) (Nat.le_of_ble_eq_true rfl) (fit_i rfl) rfl (hpL_set (k := 10) (by decide) (Nat.le_of_ble_eq_true rfl)) ?_
  refine e_iconst (v := 1) m_X6_add dX6_add_45 (by decide) ?_
  exact e_reti m_X6_add dX6_add_46 (Or.inr ⟨rfl, by decide⟩)
theorem u_appl {xs : Nat → Int32} {L d : Nat} {h0 : mm_H} {s : Mm} {w : Int64} (G : Mg h0) (hd : 2 ≤ d) : ∀ n, n ≤ 8 → kb w n → ∀ (c : Nat) (ks : Nat → Nat) (ls : mm_L) (hl0 : mm_lk ls 0 = some (.ref 10)) (hl1 : mm_lk ls 1 = some (.long w)) (hl4 : mm_lk ls 4 = some (.int (kk n))), c + n ≤ 16384 → Ev xs L d 126 82 ls [] (TM h0 (w_ct (w_kd s ks) c)) 0 0 (.inl (some (.int 1)), TM h0 (w_ct (w_kd s (ap w n (c, ks)).2) (ap w n (c, ks)).1), 0, 0) := by
  intro n
  induction n with
  | zero =>
    intro _ _ c ks ls hl0 hl1 hl4 _
    refine e_iload m_X6_addAll dX6_addAll_82 hl4 ?_
    refine e_ifT (t := 137) m_X6_addAll dX6_addAll_84 (by decide) (by decide) ?_
    refine e_iconst (v := 1) m_X6_addAll dX6_addAll_137 (by decide) ?_
    exact e_reti m_X6_addAll dX6_addAll_138 (Or.inr ⟨rfl, by decide⟩)
  | succ n ih =>
    intro hn hk c ks ls hl0 hl1 hl4 hj
    have hkn : kb w n := fun k q => hk k (by omega)
    rw [ap]
    by_cases hb : bC w (sh (n + 1)) = 0
    · rw [if_pos hb]
      have K := ih (by omega) hkn c ks (mm_s1 (mm_s1 ls 5 (.int (bC w (sh (n + 1))))) 4 (.int (kk n))) (lk_mis (by decide) rfl (lk_mis (by decide) rfl hl0)) (lk_mis2 (by decide) (by decide) (lk_mis2 (by decide) (by decide) hl1)) lk_hit (by omega)
      refine e_iload m_X6_addAll dX6_addAll_82 hl4 ?_
      refine e_ifF (t := 137) m_X6_addAll dX6_addAll_84 (by decide) (kk_nn n (by omega)) ?_
      refine e_lload_n m_X6_addAll dX6_addAll_87 rfl hl1 ?_
      refine e_bipush (v := 8) m_X6_addAll dX6_addAll_88 (by decide) ?_
      refine e_iload m_X6_addAll dX6_addAll_90 hl4 ?_
      refine e_imul m_X6_addAll dX6_addAll_92 ?_
      refine e_lshr m_X6_addAll dX6_addAll_93 ?_
      refine z_ldc2 m_X6_addAll.z dX6_addAll_94 j_RX6_75 ?_
      refine e_land m_X6_addAll dX6_addAll_97 ?_
      refine e_l2i m_X6_addAll dX6_addAll_98 ?_
      refine e_rw (st' := [.int (bC w (sh (n + 1)))]) (by rw [← bRC w n (by omega)]; rfl) ?_
      refine e_istore (ls' := mm_s1 ls 5 (.int (bC w (sh (n + 1))))) m_X6_addAll dX6_addAll_99 (by decide) rfl ?_
      refine e_iload m_X6_addAll dX6_addAll_101 lk_hit ?_
      refine e_ifF (t := 109) m_X6_addAll dX6_addAll_103 (by decide) (decide_eq_false (fun q => q hb)) ?_
      refine e_goto (t := 131) m_X6_addAll dX6_addAll_106 (by decide) ?_
      refine e_iinc m_X6_addAll dX6_addAll_131 (by decide) (lk_mis (by decide) rfl hl4) (kk_dn n (by omega)) rfl ?_
      refine e_goto (t := 82) m_X6_addAll dX6_addAll_134 (by decide) ?_
      exact K
    · rw [if_neg hb]
      obtain ⟨b1, b2, b3⟩ := byte_nat ((hk n (by omega)).resolve_left hb)
      have K := ih (by omega) hkn (c + 1) (upN ks c (bC w (sh (n + 1))).toInt.toNat) (mm_s1 (mm_s1 ls 5 (.int (bC w (sh (n + 1))))) 4 (.int (kk n))) (lk_mis (by decide) rfl (lk_mis (by decide) rfl hl0)) (lk_mis2 (by decide) (by decide) (lk_mis2 (by decide) (by decide) hl1)) lk_hit (by omega)
      refine e_iload m_X6_addAll dX6_addAll_82 hl4 ?_
      refine e_ifF (t := 137) m_X6_addAll dX6_addAll_84 (by decide) (kk_nn n (by omega)) ?_
      refine e_lload_n m_X6_addAll dX6_addAll_87 rfl hl1 ?_
      refine e_bipush (v := 8) m_X6_addAll dX6_addAll_88 (by decide) ?_
      refine e_iload m_X6_addAll dX6_addAll_90 hl4 ?_
      refine e_imul m_X6_addAll dX6_addAll_92 ?_
      refine e_lshr m_X6_addAll dX6_addAll_93 ?_
      refine z_ldc2 m_X6_addAll.z dX6_addAll_94 j_RX6_75 ?_
      refine e_land m_X6_addAll dX6_addAll_97 ?_
      refine e_l2i m_X6_addAll dX6_addAll_98 ?_
      refine e_rw (st' := [.int (bC w (sh (n + 1)))]) (by rw [← bRC w n (by omega)]; rfl) ?_
      refine e_istore (ls' := mm_s1 ls 5 (.int (bC w (sh (n + 1))))) m_X6_addAll dX6_addAll_99 (by decide) rfl ?_
      refine e_iload m_X6_addAll dX6_addAll_101 lk_hit ?_
      refine e_ifT (t := 109) m_X6_addAll dX6_addAll_103 (by decide) (decide_eq_true hb) ?_
      refine e_aload_n m_X6_addAll dX6_addAll_109 rfl (lk_mis (by decide) rfl hl0) rfl ?_
      refine e_getf m_X6_addAll dX6_addAll_110 f_RX6_7 (gM_m G) rfl ?_
      refine e_aload_n m_X6_addAll dX6_addAll_113 rfl (lk_mis (by decide) rfl hl0) rfl ?_
      refine e_getf m_X6_addAll dX6_addAll_114 f_RX6_72 (gM_m G) rfl ?_
      refine e_iload m_X6_addAll dX6_addAll_117 lk_hit ?_
      refine e_i2b m_X6_addAll dX6_addAll_119 ?_
      refine e_iast (h' := TM h0 (w_ct (w_kd s (upN ks c (bC w (sh (n + 1))).toInt.toNat)) c)) (Or.inr ⟨rfl, Or.inl rfl⟩) m_X6_addAll dX6_addAll_120 (gM_kd G) (nI_in (show c < 16385 by omega) (by decide)) (by
        have hu := up_rB (f := ks) b2 (show c < 2147483648 by omega)
        rw [← b3] at hu
        rw [show upd (rN (m_kd (w_ct (w_kd s ks) c))) (nI (m_ct (w_ct (w_kd s ks) c))).toNatClampNeg (vp_nar (mm_ty 1) (bC w (sh (n + 1))).toInt8.toInt32) = rN (upN ks c (bC w (sh (n + 1))).toInt.toNat) from hu]
        exact (hpL_set (k := 11) (by decide) (Nat.le_of_ble_eq_true rfl))) ?_
      refine e_aload_n m_X6_addAll dX6_addAll_121 rfl (lk_mis (by decide) rfl hl0) rfl ?_
      refine e_dup m_X6_addAll dX6_addAll_122 rfl ?_
      refine e_getf m_X6_addAll dX6_addAll_123 f_RX6_72 (gM_m G) rfl ?_
      refine e_iconst (v := 1) m_X6_addAll dX6_addAll_126 (by decide) ?_
      refine e_iadd m_X6_addAll dX6_addAll_127 ?_
      refine e_rw (st' := [.int (nI (c + 1)), .ref 10]) (by rw [← nI_s1] <;> rfl) ?_
      refine e_putf (h' := TM h0 (w_ct (w_kd s (upN ks c (bC w (sh (n + 1))).toInt.toNat)) (c + 1))) m_X6_addAll dX6_addAll_128 f_RX6_72 (gM_m G) (Nat.le_of_ble_eq_true rfl) (fit_i rfl) rfl (hpL_set (k := 10) (by decide) (Nat.le_of_ble_eq_true rfl)) ?_
      refine e_iinc m_X6_addAll dX6_addAll_131 (by decide) (lk_mis (by decide) rfl hl4) (kk_dn n (by omega)) rfl ?_
      refine e_goto (t := 82) m_X6_addAll dX6_addAll_134 (by decide) ?_
      exact K
theorem u_addAll0 {xs : Nat → Int32} {L d : Nat} {h0 : mm_H} {s : Mm} {w : Int64} (G : Mg h0) (hd : 2 ≤ d) (hs : sc w 8 0 = none) : Rn xs L d 126 [.ref 10, .long w] (TM h0 s) (.inl (some (.int 0)), TM h0 (w_th s 0), 0, 0) := by
  unfold Rn
  refine e_aload_n m_X6_addAll dX6_addAll_0 rfl rfl rfl ?_
  refine e_iconst (v := nI 0) m_X6_addAll dX6_addAll_1 (by decide) ?_
  refine e_putf (h' := TM h0 (w_th s 0)) m_X6_addAll dX6_addAll_2 f_RX6_64 (gM_m G) (Nat.le_of_ble_eq_true rfl) (fit_i rfl) rfl (hpL_set (k := 10) (by decide) (Nat.le_of_ble_eq_true rfl)) ?_
  refine e_iconst (v := nI 0) m_X6_addAll dX6_addAll_5 (by decide) ?_
  refine e_istore_n m_X6_addAll dX6_addAll_6 rfl (by decide) rfl ?_
  refine e_bipush (v := kk 8) m_X6_addAll dX6_addAll_7 (by decide) ?_
  refine e_istore m_X6_addAll dX6_addAll_9 (by decide) rfl ?_
  exact u_scanN hd 8 (by omega) 0 _ rfl rfl rfl rfl hs
theorem u_addAll1 {xs : Nat → Int32} {L d : Nat} {h0 : mm_H} {s : Mm} {w : Int64} {r : Nat} (G : Mg h0) (hd : 2 ≤ d) (hs : sc w 8 0 = some r) (hc : m_ct s + 8 ≤ 16384) : Rn xs L d 126 [.ref 10, .long w] (TM h0 s) (.inl (some (.int 1)), TM h0 (w_ct (w_kd (w_th s 0) (ap w 8 (m_ct s, m_kd s)).2) (ap w 8 (m_ct s, m_kd s)).1), 0, 0) := by
  have hr := sc_le w 8 0 r hs
  obtain ⟨ls', g0, g1, g3, K⟩ := u_scanS (xs := xs) (L := L) (h := TM h0 (w_th s 0)) hd 8 (by omega) 0 r [(4, .int (kk 8)), (3, .int (nI 0)), (0, .ref 10), (1, .long w)] rfl rfl rfl rfl hs
  have K2 := u_appl (xs := xs) (L := L) (s := w_th s 0) G hd 8 (by omega) (sc_kb w 8 0 r hs) (m_ct s) (m_kd s) (mm_s1 ls' 4 (.int (kk 8))) (lk_mis (by decide) rfl g0) (lk_mis2 (by decide) (by decide) g1) lk_hit hc
  unfold Rn
  refine e_aload_n m_X6_addAll dX6_addAll_0 rfl rfl rfl ?_
  refine e_iconst (v := nI 0) m_X6_addAll dX6_addAll_1 (by decide) ?_
  refine e_putf (h' := TM h0 (w_th s 0)) m_X6_addAll dX6_addAll_2 f_RX6_64 (gM_m G) (Nat.le_of_ble_eq_true rfl) (fit_i rfl) rfl (hpL_set (k := 10) (by decide) (Nat.le_of_ble_eq_true rfl)) ?_
  refine e_iconst (v := nI 0) m_X6_addAll dX6_addAll_5 (by decide) ?_
  refine e_istore_n m_X6_addAll dX6_addAll_6 rfl (by decide) rfl ?_
  refine e_bipush (v := kk 8) m_X6_addAll dX6_addAll_7 (by decide) ?_
  refine e_istore m_X6_addAll dX6_addAll_9 (by decide) rfl ?_
  refine K _ ?_
  refine e_aload_n m_X6_addAll dX6_addAll_64 rfl g0 rfl ?_
  refine e_getf m_X6_addAll dX6_addAll_65 f_RX6_72 (gM_m G) rfl ?_
  refine e_iload_n m_X6_addAll dX6_addAll_68 rfl g3 ?_
  refine e_iaddN m_X6_addAll dX6_addAll_69 ?_
  refine e_sipush (v := nI 16384) m_X6_addAll dX6_addAll_70 (by decide) ?_
  refine e_icT (t := 78) m_X6_addAll dX6_addAll_73 (by decide) (decide_eq_true (by rw [nI_leI (show m_ct s + r < 2147483648 by omega) (by decide)]; show m_ct s + r ≤ 16384; omega)) ?_
  refine e_bipush (v := kk 8) m_X6_addAll dX6_addAll_78 (by decide) ?_
  refine e_istore m_X6_addAll dX6_addAll_80 (by decide) rfl ?_
  exact K2
