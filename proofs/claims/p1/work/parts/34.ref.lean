/-! addAll of the reference. -/
theorem u_scanN {xs : Nat → Int32} {L d : Nat} {h : mm_H} {w : Int64} (hd : 2 ≤ d) : ∀ n, n ≤ 8 → ∀ (m : Nat) (ls : mm_L) (hl0 : mm_lk ls 0 = some (.ref 10)) (hl1 : mm_lk ls 1 = some (.long w)) (hl3 : mm_lk ls 3 = some (.int (nI m))) (hl4 : mm_lk ls 4 = some (.int (kk n))), sc w n m = none → Ev xs L d 127 11 ls [] h 0 0 (.inl (some (.int 0)), h, 0, 0) := by
  intro n
  induction n with
  | zero => intro _ m ls _ _ _ _ hs; cases hs
  | succ n ih =>
    intro hn m ls hl0 hl1 hl3 hl4 hs
    rw [sc] at hs
    refine e_iload m_X6_addAll dX6_addAll_11 hl4 ?_
    refine e_ifF (t := 64) m_X6_addAll dX6_addAll_13 (by decide) (kk_nn n (by omega)) ?_
    refine e_lload_n m_X6_addAll dX6_addAll_16 rfl hl1 ?_
    refine e_bipush (v := 8) m_X6_addAll dX6_addAll_17 (by decide) ?_
    refine e_iload m_X6_addAll dX6_addAll_19 hl4 ?_
    refine e_imul m_X6_addAll dX6_addAll_21 ?_
    refine e_lshr m_X6_addAll dX6_addAll_22 ?_
    refine z_ldc2 m_X6_addAll.z dX6_addAll_23 j_RX6_75 ?_
    refine e_land m_X6_addAll dX6_addAll_26 ?_
    refine e_l2i m_X6_addAll dX6_addAll_27 ?_
    refine e_rw (st' := [.int (bC w (sh (n + 1)))]) (by rw [← bRC w n (by omega)]; rfl) ?_
    refine e_istore (ls' := mm_s1 ls 5 (.int (bC w (sh (n + 1))))) m_X6_addAll dX6_addAll_28 (by decide) rfl ?_
    refine e_iload m_X6_addAll dX6_addAll_30 lk_hit ?_
    by_cases hb : bC w (sh (n + 1)) = 0
    · rw [if_pos hb] at hs
      refine e_ifT (t := 45) m_X6_addAll dX6_addAll_32 (by decide) (decide_eq_true hb) ?_
      refine e_iload_n m_X6_addAll dX6_addAll_45 rfl (lk_mis (by decide) rfl hl3) ?_
      refine e_iload m_X6_addAll dX6_addAll_46 lk_hit ?_
      refine e_ifF (t := 55) m_X6_addAll dX6_addAll_48 (by decide) (decide_eq_false (fun q => q hb)) ?_
      refine e_iconst (v := 0) m_X6_addAll dX6_addAll_51 (by decide) ?_
      refine e_goto (t := 56) m_X6_addAll dX6_addAll_52 (by decide) ?_
      refine e_iadd m_X6_addAll dX6_addAll_56 ?_
      refine e_rw (st' := [.int (nI m)]) (by rw [Int32.add_zero]) ?_
      refine e_istore_n m_X6_addAll dX6_addAll_57 rfl (by decide) rfl ?_
      refine e_iinc m_X6_addAll dX6_addAll_58 (by decide) (lk_mis (by decide) rfl (lk_mis (by decide) rfl hl4)) (kk_dn n (by omega)) rfl ?_
      refine e_goto (t := 11) m_X6_addAll dX6_addAll_61 (by decide) ?_
      exact ih (by omega) m _ (lk_mis (by decide) rfl (lk_mis (by decide) rfl (lk_mis (by decide) rfl hl0))) (lk_mis2 (by decide) (by decide) (lk_mis2 (by decide) (by decide) (lk_mis2 (by decide) (by decide) hl1))) (lk_mis (by decide) rfl lk_hit) lk_hit hs
    · rw [if_neg hb] at hs
      by_cases hx : exB (bC w (sh (n + 1))) = 0
      · refine e_ifF (t := 45) m_X6_addAll dX6_addAll_32 (by decide) (decide_eq_false hb) ?_
        refine e_iload m_X6_addAll dX6_addAll_35 lk_hit ?_
        refine e_cs (as := [_]) m_X6_addAll dX6_addAll_37 c_RX6_68 (by decide) rfl rfl (Nat.le_of_ble_eq_true rfl) (Nat.le_of_ble_eq_true rfl) hd t_isKind ?_
        refine e_ifF (t := 45) m_X6_addAll dX6_addAll_40 (by decide) (decide_eq_false (fun q => q hx)) ?_
        refine e_iconst (v := 0) m_X6_addAll dX6_addAll_43 (by decide) ?_
        exact e_reti m_X6_addAll dX6_addAll_44 (Or.inr ⟨rfl, by decide⟩)
      · rw [if_neg hx] at hs
        refine e_ifF (t := 45) m_X6_addAll dX6_addAll_32 (by decide) (decide_eq_false hb) ?_
        refine e_iload m_X6_addAll dX6_addAll_35 lk_hit ?_
        refine e_cs (as := [_]) m_X6_addAll dX6_addAll_37 c_RX6_68 (by decide) rfl rfl (Nat.le_of_ble_eq_true rfl) (Nat.le_of_ble_eq_true rfl) hd t_isKind ?_
        refine e_ifT (t := 45) m_X6_addAll dX6_addAll_40 (by decide) (decide_eq_true hx) ?_
        refine e_iload_n m_X6_addAll dX6_addAll_45 rfl (lk_mis (by decide) rfl hl3) ?_
        refine e_iload m_X6_addAll dX6_addAll_46 lk_hit ?_
        refine e_ifT (t := 55) m_X6_addAll dX6_addAll_48 (by decide) (decide_eq_true hb) ?_
        refine e_iconst (v := 1) m_X6_addAll dX6_addAll_55 (by decide) ?_
        refine e_iadd m_X6_addAll dX6_addAll_56 ?_
        refine e_rw (st' := [.int (nI (m + 1))]) (by rw [nI_succ] <;> rfl) ?_
        refine e_istore_n m_X6_addAll dX6_addAll_57 rfl (by decide) rfl ?_
        refine e_iinc m_X6_addAll dX6_addAll_58 (by decide) (lk_mis (by decide) rfl (lk_mis (by decide) rfl hl4)) (kk_dn n (by omega)) rfl ?_
        refine e_goto (t := 11) m_X6_addAll dX6_addAll_61 (by decide) ?_
        exact ih (by omega) (m + 1) _ (lk_mis (by decide) rfl (lk_mis (by decide) rfl (lk_mis (by decide) rfl hl0))) (lk_mis2 (by decide) (by decide) (lk_mis2 (by decide) (by decide) (lk_mis2 (by decide) (by decide) hl1))) (lk_mis (by decide) rfl lk_hit) lk_hit hs
theorem u_scanS {xs : Nat → Int32} {L d : Nat} {h : mm_H} {w : Int64} (hd : 2 ≤ d) : ∀ n, n ≤ 8 → ∀ (m r : Nat) (ls : mm_L) (hl0 : mm_lk ls 0 = some (.ref 10)) (hl1 : mm_lk ls 1 = some (.long w)) (hl3 : mm_lk ls 3 = some (.int (nI m))) (hl4 : mm_lk ls 4 = some (.int (kk n))), sc w n m = some r → ∃ ls' : mm_L, mm_lk ls' 0 = some (.ref 10) ∧ mm_lk ls' 1 = some (.long w) ∧ mm_lk ls' 3 = some (.int (nI r)) ∧ ∀ o, Ev xs L d 127 64 ls' [] h 0 0 o → Ev xs L d 127 11 ls [] h 0 0 o := by
  intro n
  induction n with
  | zero =>
    intro _ m r ls hl0 hl1 hl3 hl4 hs
    cases hs
    refine ⟨ls, hl0, hl1, hl3, fun o K => ?_⟩
    refine e_iload m_X6_addAll dX6_addAll_11 hl4 ?_
    exact e_ifT (t := 64) m_X6_addAll dX6_addAll_13 (by decide) (by decide) K
  | succ n ih =>
    intro hn m r ls hl0 hl1 hl3 hl4 hs
    rw [sc] at hs
    by_cases hb : bC w (sh (n + 1)) = 0
    · rw [if_pos hb] at hs
      obtain ⟨ls', g0, g1, g3, K⟩ := ih (by omega) m r (mm_s1 (mm_s1 (mm_s1 ls 5 (.int (bC w (sh (n + 1))))) 3 (.int (nI m))) 4 (.int (kk n))) (lk_mis (by decide) rfl (lk_mis (by decide) rfl (lk_mis (by decide) rfl hl0))) (lk_mis2 (by decide) (by decide) (lk_mis2 (by decide) (by decide) (lk_mis2 (by decide) (by decide) hl1))) (lk_mis (by decide) rfl lk_hit) lk_hit hs
      refine ⟨ls', g0, g1, g3, fun o k => ?_⟩
      refine e_iload m_X6_addAll dX6_addAll_11 hl4 ?_
      refine e_ifF (t := 64) m_X6_addAll dX6_addAll_13 (by decide) (kk_nn n (by omega)) ?_
      refine e_lload_n m_X6_addAll dX6_addAll_16 rfl hl1 ?_
      refine e_bipush (v := 8) m_X6_addAll dX6_addAll_17 (by decide) ?_
      refine e_iload m_X6_addAll dX6_addAll_19 hl4 ?_
      refine e_imul m_X6_addAll dX6_addAll_21 ?_
      refine e_lshr m_X6_addAll dX6_addAll_22 ?_
      refine z_ldc2 m_X6_addAll.z dX6_addAll_23 j_RX6_75 ?_
      refine e_land m_X6_addAll dX6_addAll_26 ?_
      refine e_l2i m_X6_addAll dX6_addAll_27 ?_
      refine e_rw (st' := [.int (bC w (sh (n + 1)))]) (by rw [← bRC w n (by omega)]; rfl) ?_
      refine e_istore (ls' := mm_s1 ls 5 (.int (bC w (sh (n + 1))))) m_X6_addAll dX6_addAll_28 (by decide) rfl ?_
      refine e_iload m_X6_addAll dX6_addAll_30 lk_hit ?_
      refine e_ifT (t := 45) m_X6_addAll dX6_addAll_32 (by decide) (decide_eq_true hb) ?_
      refine e_iload_n m_X6_addAll dX6_addAll_45 rfl (lk_mis (by decide) rfl hl3) ?_
      refine e_iload m_X6_addAll dX6_addAll_46 lk_hit ?_
      refine e_ifF (t := 55) m_X6_addAll dX6_addAll_48 (by decide) (decide_eq_false (fun q => q hb)) ?_
      refine e_iconst (v := 0) m_X6_addAll dX6_addAll_51 (by decide) ?_
      refine e_goto (t := 56) m_X6_addAll dX6_addAll_52 (by decide) ?_
      refine e_iadd m_X6_addAll dX6_addAll_56 ?_
      refine e_rw (st' := [.int (nI m)]) (by rw [Int32.add_zero]) ?_
      refine e_istore_n m_X6_addAll dX6_addAll_57 rfl (by decide) rfl ?_
      refine e_iinc m_X6_addAll dX6_addAll_58 (by decide) (lk_mis (by decide) rfl (lk_mis (by decide) rfl hl4)) (kk_dn n (by omega)) rfl ?_
      refine e_goto (t := 11) m_X6_addAll dX6_addAll_61 (by decide) ?_
      exact K o k
    · rw [if_neg hb] at hs
      by_cases hx : exB (bC w (sh (n + 1))) = 0
      · rw [if_pos hx] at hs; cases hs
      · rw [if_neg hx] at hs
        obtain ⟨ls', g0, g1, g3, K⟩ := ih (by omega) (m + 1) r (mm_s1 (mm_s1 (mm_s1 ls 5 (.int (bC w (sh (n + 1))))) 3 (.int (nI (m + 1)))) 4 (.int (kk n))) (lk_mis (by decide) rfl (lk_mis (by decide) rfl (lk_mis (by decide) rfl hl0))) (lk_mis2 (by decide) (by decide) (lk_mis2 (by decide) (by decide) (lk_mis2 (by decide) (by decide) hl1))) (lk_mis (by decide) rfl lk_hit) lk_hit hs
        refine ⟨ls', g0, g1, g3, fun o k => ?_⟩
        refine e_iload m_X6_addAll dX6_addAll_11 hl4 ?_
        refine e_ifF (t := 64) m_X6_addAll dX6_addAll_13 (by decide) (kk_nn n (by omega)) ?_
        refine e_lload_n m_X6_addAll dX6_addAll_16 rfl hl1 ?_
        refine e_bipush (v := 8) m_X6_addAll dX6_addAll_17 (by decide) ?_
        refine e_iload m_X6_addAll dX6_addAll_19 hl4 ?_
        refine e_imul m_X6_addAll dX6_addAll_21 ?_
        refine e_lshr m_X6_addAll dX6_addAll_22 ?_
        refine z_ldc2 m_X6_addAll.z dX6_addAll_23 j_RX6_75 ?_
        refine e_land m_X6_addAll dX6_addAll_26 ?_
        refine e_l2i m_X6_addAll dX6_addAll_27 ?_
        refine e_rw (st' := [.int (bC w (sh (n + 1)))]) (by rw [← bRC w n (by omega)]; rfl) ?_
        refine e_istore (ls' := mm_s1 ls 5 (.int (bC w (sh (n + 1))))) m_X6_addAll dX6_addAll_28 (by decide) rfl ?_
        refine e_iload m_X6_addAll dX6_addAll_30 lk_hit ?_
        refine e_ifF (t := 45) m_X6_addAll dX6_addAll_32 (by decide) (decide_eq_false hb) ?_
        refine e_iload m_X6_addAll dX6_addAll_35 lk_hit ?_
        refine e_cs (as := [_]) m_X6_addAll dX6_addAll_37 c_RX6_68 (by decide) rfl rfl (Nat.le_of_ble_eq_true rfl) (Nat.le_of_ble_eq_true rfl) hd t_isKind ?_
        refine e_ifT (t := 45) m_X6_addAll dX6_addAll_40 (by decide) (decide_eq_true hx) ?_
        refine e_iload_n m_X6_addAll dX6_addAll_45 rfl (lk_mis (by decide) rfl hl3) ?_
        refine e_iload m_X6_addAll dX6_addAll_46 lk_hit ?_
        refine e_ifT (t := 55) m_X6_addAll dX6_addAll_48 (by decide) (decide_eq_true hb) ?_
        refine e_iconst (v := 1) m_X6_addAll dX6_addAll_55 (by decide) ?_
        refine e_iadd m_X6_addAll dX6_addAll_56 ?_
        refine e_rw (st' := [.int (nI (m + 1))]) (by rw [nI_succ] <;> rfl) ?_
        refine e_istore_n m_X6_addAll dX6_addAll_57 rfl (by decide) rfl ?_
        refine e_iinc m_X6_addAll dX6_addAll_58 (by decide) (lk_mis (by decide) rfl (lk_mis (by decide) rfl hl4)) (kk_dn n (by omega)) rfl ?_
        refine e_goto (t := 11) m_X6_addAll dX6_addAll_61 (by decide) ?_
        exact K o k
theorem u_appl {xs : Nat → Int32} {L d : Nat} {cnt us nb th md nd td at' dp wr rw : Int32} {kf fW fT fP fF fL fN gD gN gT : Nat → Int32} {t : mm_H} {w : Int64} (hd : 2 ≤ d) : ∀ n, n ≤ 8 → ∀ (j : Nat) (kg : Nat → Int32) (ls : mm_L) (hl0 : mm_lk ls 0 = some (.ref 10)) (hl1 : mm_lk ls 1 = some (.long w)) (hl4 : mm_lk ls 4 = some (.int (kk n))), j + n ≤ 8 → ∃ (j2 : Nat) (kg2 : Nat → Int32), Ev xs L d 127 82 ls [] (qh cnt kf us nb th (nI j) md nd td at' dp wr rw kg fW fT fP fF fL fN gD gN gT t) 0 0 (.inl (some (.int 1)), qh cnt kf us nb th (nI j2) md nd td at' dp wr rw kg2 fW fT fP fF fL fN gD gN gT t, 0, 0) := by
  intro n
  induction n with
  | zero =>
    intro _ j kg ls hl0 hl1 hl4 _
    refine ⟨j, kg, ?_⟩
    refine e_iload m_X6_addAll dX6_addAll_82 hl4 ?_
    refine e_ifT (t := 137) m_X6_addAll dX6_addAll_84 (by decide) (by decide) ?_
    refine e_iconst (v := 1) m_X6_addAll dX6_addAll_137 (by decide) ?_
    exact e_reti m_X6_addAll dX6_addAll_138 (Or.inr ⟨rfl, by decide⟩)
  | succ n ih =>
    intro hn j kg ls hl0 hl1 hl4 hj
    by_cases hb : bC w (sh (n + 1)) = 0
    · obtain ⟨j2, kg2, K⟩ := ih (by omega) j kg (mm_s1 (mm_s1 ls 5 (.int (bC w (sh (n + 1))))) 4 (.int (kk n))) (lk_mis (by decide) rfl (lk_mis (by decide) rfl hl0)) (lk_mis2 (by decide) (by decide) (lk_mis2 (by decide) (by decide) hl1)) lk_hit (by omega)
      refine ⟨j2, kg2, ?_⟩
      refine e_iload m_X6_addAll dX6_addAll_82 hl4 ?_
      refine e_ifF (t := 137) m_X6_addAll dX6_addAll_84 (by decide) (kk_nn n (by omega)) ?_
      refine e_lload_n m_X6_addAll dX6_addAll_87 rfl hl1 ?_
      refine e_bipush (v := 8) m_X6_addAll dX6_addAll_88 (by decide) ?_
      refine e_iload m_X6_addAll dX6_addAll_90 hl4 ?_
      refine e_imul m_X6_addAll dX6_addAll_92 ?_
      refine e_lshr m_X6_addAll dX6_addAll_93 ?_
      refine z_ldc2 m_X6_addAll.z dX6_addAll_94 j_RX6_75 ?_
      refine e_land m_X6_addAll dX6_addAll_97 ?_
      refine e_l2i m_X6_addAll dX6_addAll_98 ?_
      refine e_rw (st' := [.int (bC w (sh (n + 1)))]) (by rw [← bRC w n (by omega)]; rfl) ?_
      refine e_istore (ls' := mm_s1 ls 5 (.int (bC w (sh (n + 1))))) m_X6_addAll dX6_addAll_99 (by decide) rfl ?_
      refine e_iload m_X6_addAll dX6_addAll_101 lk_hit ?_
      refine e_ifF (t := 109) m_X6_addAll dX6_addAll_103 (by decide) (decide_eq_false (fun q => q hb)) ?_
      refine e_goto (t := 131) m_X6_addAll dX6_addAll_106 (by decide) ?_
      refine e_iinc m_X6_addAll dX6_addAll_131 (by decide) (lk_mis (by decide) rfl hl4) (kk_dn n (by omega)) rfl ?_
      refine e_goto (t := 82) m_X6_addAll dX6_addAll_134 (by decide) ?_
      exact K
    · obtain ⟨j2, kg2, K⟩ := ih (by omega) (j + 1) (upd kg (nI j).toNatClampNeg (vp_nar (mm_ty 1) (bC w (sh (n + 1))).toInt8.toInt32)) (mm_s1 (mm_s1 ls 5 (.int (bC w (sh (n + 1))))) 4 (.int (kk n))) (lk_mis (by decide) rfl (lk_mis (by decide) rfl hl0)) (lk_mis2 (by decide) (by decide) (lk_mis2 (by decide) (by decide) hl1)) lk_hit (by omega)
      refine ⟨j2, kg2, ?_⟩
      refine e_iload m_X6_addAll dX6_addAll_82 hl4 ?_
      refine e_ifF (t := 137) m_X6_addAll dX6_addAll_84 (by decide) (kk_nn n (by omega)) ?_
      refine e_lload_n m_X6_addAll dX6_addAll_87 rfl hl1 ?_
      refine e_bipush (v := 8) m_X6_addAll dX6_addAll_88 (by decide) ?_
      refine e_iload m_X6_addAll dX6_addAll_90 hl4 ?_
      refine e_imul m_X6_addAll dX6_addAll_92 ?_
      refine e_lshr m_X6_addAll dX6_addAll_93 ?_
      refine z_ldc2 m_X6_addAll.z dX6_addAll_94 j_RX6_75 ?_
      refine e_land m_X6_addAll dX6_addAll_97 ?_
      refine e_l2i m_X6_addAll dX6_addAll_98 ?_
      refine e_rw (st' := [.int (bC w (sh (n + 1)))]) (by rw [← bRC w n (by omega)]; rfl) ?_
      refine e_istore (ls' := mm_s1 ls 5 (.int (bC w (sh (n + 1))))) m_X6_addAll dX6_addAll_99 (by decide) rfl ?_
      refine e_iload m_X6_addAll dX6_addAll_101 lk_hit ?_
      refine e_ifT (t := 109) m_X6_addAll dX6_addAll_103 (by decide) (decide_eq_true hb) ?_
      refine e_aload_n m_X6_addAll dX6_addAll_109 rfl (lk_mis (by decide) rfl hl0) rfl ?_
      refine e_getf m_X6_addAll dX6_addAll_110 f_RX6_7 qg10 rfl ?_
      refine e_aload_n m_X6_addAll dX6_addAll_113 rfl (lk_mis (by decide) rfl hl0) rfl ?_
      refine e_getf m_X6_addAll dX6_addAll_114 f_RX6_72 qg10 rfl ?_
      refine e_iload m_X6_addAll dX6_addAll_117 lk_hit ?_
      refine e_i2b m_X6_addAll dX6_addAll_119 ?_
      refine e_iast (h' := qh cnt kf us nb th (nI j) md nd td at' dp wr rw (upd kg (nI j).toNatClampNeg (vp_nar (mm_ty 1) (bC w (sh (n + 1))).toInt8.toInt32)) fW fT fP fF fL fN gD gN gT t) (Or.inr ⟨rfl, Or.inl rfl⟩) m_X6_addAll dX6_addAll_120 qg11 (nI_in (by omega) (by decide)) rfl ?_
      refine e_aload_n m_X6_addAll dX6_addAll_121 rfl (lk_mis (by decide) rfl hl0) rfl ?_
      refine e_dup m_X6_addAll dX6_addAll_122 rfl ?_
      refine e_getf m_X6_addAll dX6_addAll_123 f_RX6_72 qg10 rfl ?_
      refine e_iconst (v := 1) m_X6_addAll dX6_addAll_126 (by decide) ?_
      refine e_iadd m_X6_addAll dX6_addAll_127 ?_
      refine e_rw (st' := [.int (nI (j + 1)), .ref 10]) (by rw [nI_succ] <;> rfl) ?_
      refine e_putf (h' := qh cnt kf us nb th (nI (j + 1)) md nd td at' dp wr rw (upd kg (nI j).toNatClampNeg (vp_nar (mm_ty 1) (bC w (sh (n + 1))).toInt8.toInt32)) fW fT fP fF fL fN gD gN gT t) m_X6_addAll dX6_addAll_128 f_RX6_72 qg10 (Nat.le_of_ble_eq_true rfl) (fit_i rfl) rfl rfl ?_
      refine e_iinc m_X6_addAll dX6_addAll_131 (by decide) (lk_mis (by decide) rfl hl4) (kk_dn n (by omega)) rfl ?_
      refine e_goto (t := 82) m_X6_addAll dX6_addAll_134 (by decide) ?_
      exact K
theorem u_addAll0 {xs : Nat → Int32} {L d : Nat} {kg : Nat → Int32} {cnt us nb th md nd td at' dp wr rw : Int32} {kf fW fT fP fF fL fN gD gN gT : Nat → Int32} {t : mm_H} {w : Int64} (hd : 2 ≤ d) (hs : sc w 8 0 = none) : Rn xs L d 127 [.ref 10, .long w] (qh cnt kf us nb th (nI 0) md nd td at' dp wr rw kg fW fT fP fF fL fN gD gN gT t) (.inl (some (.int 0)), qh cnt kf us nb 0 (nI 0) md nd td at' dp wr rw kg fW fT fP fF fL fN gD gN gT t, 0, 0) := by
  unfold Rn
  refine e_aload_n m_X6_addAll dX6_addAll_0 rfl rfl rfl ?_
  refine e_iconst (v := 0) m_X6_addAll dX6_addAll_1 (by decide) ?_
  refine e_putf (h' := qh cnt kf us nb 0 (nI 0) md nd td at' dp wr rw kg fW fT fP fF fL fN gD gN gT t) m_X6_addAll dX6_addAll_2 f_RX6_64 qg10 (Nat.le_of_ble_eq_true rfl) (fit_i rfl) rfl rfl ?_
  refine e_iconst (v := nI 0) m_X6_addAll dX6_addAll_5 (by decide) ?_
  refine e_istore_n m_X6_addAll dX6_addAll_6 rfl (by decide) rfl ?_
  refine e_bipush (v := kk 8) m_X6_addAll dX6_addAll_7 (by decide) ?_
  refine e_istore m_X6_addAll dX6_addAll_9 (by decide) rfl ?_
  exact u_scanN hd 8 (by omega) 0 _ rfl rfl rfl rfl hs
theorem u_addAll1 {xs : Nat → Int32} {L d : Nat} {kg : Nat → Int32} {cnt us nb th md nd td at' dp wr rw : Int32} {kf fW fT fP fF fL fN gD gN gT : Nat → Int32} {t : mm_H} {w : Int64} {r : Nat} (hd : 2 ≤ d) (hs : sc w 8 0 = some r) : ∃ (j2 : Nat) (kg2 : Nat → Int32), Rn xs L d 127 [.ref 10, .long w] (qh cnt kf us nb th (nI 0) md nd td at' dp wr rw kg fW fT fP fF fL fN gD gN gT t) (.inl (some (.int 1)), qh cnt kf us nb 0 (nI j2) md nd td at' dp wr rw kg2 fW fT fP fF fL fN gD gN gT t, 0, 0) := by
  have hr := sc_le w 8 0 r hs
  obtain ⟨ls', g0, g1, g3, K⟩ := u_scanS (xs := xs) (L := L) (h := qh cnt kf us nb 0 (nI 0) md nd td at' dp wr rw kg fW fT fP fF fL fN gD gN gT t) hd 8 (by omega) 0 r [(4, .int (kk 8)), (3, .int (nI 0)), (0, .ref 10), (1, .long w)] rfl rfl rfl rfl hs
  obtain ⟨j2, kg2, K2⟩ := u_appl (xs := xs) (L := L) (cnt := cnt) (us := us) (nb := nb) (th := 0) (md := md) (nd := nd) (td := td) (at' := at') (dp := dp) (wr := wr) (rw := rw) (kf := kf) (fW := fW) (fT := fT) (fP := fP) (fF := fF) (fL := fL) (fN := fN) (gD := gD) (gN := gN) (gT := gT) (t := t) hd 8 (by omega) 0 kg (mm_s1 ls' 4 (.int (kk 8))) (lk_mis (by decide) rfl g0) (lk_mis2 (by decide) (by decide) g1) lk_hit (by omega)
  refine ⟨j2, kg2, ?_⟩
  unfold Rn
  refine e_aload_n m_X6_addAll dX6_addAll_0 rfl rfl rfl ?_
  refine e_iconst (v := 0) m_X6_addAll dX6_addAll_1 (by decide) ?_
  refine e_putf (h' := qh cnt kf us nb 0 (nI 0) md nd td at' dp wr rw kg fW fT fP fF fL fN gD gN gT t) m_X6_addAll dX6_addAll_2 f_RX6_64 qg10 (Nat.le_of_ble_eq_true rfl) (fit_i rfl) rfl rfl ?_
  refine e_iconst (v := nI 0) m_X6_addAll dX6_addAll_5 (by decide) ?_
  refine e_istore_n m_X6_addAll dX6_addAll_6 rfl (by decide) rfl ?_
  refine e_bipush (v := kk 8) m_X6_addAll dX6_addAll_7 (by decide) ?_
  refine e_istore m_X6_addAll dX6_addAll_9 (by decide) rfl ?_
  refine K _ ?_
  refine e_aload_n m_X6_addAll dX6_addAll_64 rfl g0 rfl ?_
  refine e_getf m_X6_addAll dX6_addAll_65 f_RX6_72 qg10 rfl ?_
  refine e_iload_n m_X6_addAll dX6_addAll_68 rfl g3 ?_
  refine e_iadd m_X6_addAll dX6_addAll_69 ?_
  refine e_rw (st' := [.int (nI r)]) (by rw [nI_0, Int32.zero_add]) ?_
  refine e_sipush (v := nI 16384) m_X6_addAll dX6_addAll_70 (by decide) ?_
  refine e_icT (t := 78) m_X6_addAll dX6_addAll_73 (by decide) (decide_eq_true (by rw [nI_leI (by omega) (by decide)]; omega)) ?_
  refine e_bipush (v := kk 8) m_X6_addAll dX6_addAll_78 (by decide) ?_
  refine e_istore m_X6_addAll dX6_addAll_80 (by decide) rfl ?_
  exact K2
