/-! The law over scripts of at most three ints. -/
theorem law_end {xs : Nat → Int32} {d : Nat} {ls : mm_L} {h : mm_H} {c z : Nat} (hl0 : mm_lk ls 0 = some (.retAddr 0)) (hl4 : mm_lk ls 4 = some (.int 0)) : Ev xs 3 d 224 337 ls [] h c z (.inl (some (.int 1)), h, c, z) := by
  refine e_iinc (w := 3) m_law dL_law_337 (by decide) hl4 (by decide) rfl ?_
  refine e_goto (t := 23) m_law dL_law_340 (by decide) ?_
  refine e_iload m_law dL_law_23 lk_hit ?_
  refine e_aload_n m_law dL_law_25 rfl (lk_mis (by decide) rfl hl0) rfl ?_
  refine z_xlen m_law.z dL_law_26 ?_
  refine e_iconst (v := 3) m_law dL_law_27 (by decide) ?_
  refine e_isub m_law dL_law_28 ?_
  refine e_icT (t := 343) m_law dL_law_29 (by decide) (by decide +kernel) ?_
  refine e_iconst (v := 1) m_law dL_law_343 (by decide) ?_
  exact e_reti m_law dL_law_344 (Or.inr ⟨rfl, by decide⟩)
theorem law_s0 {xs : Nat → Int32} {d : Nat} {h : mm_H} {c z : Nat} : Ev xs 0 d 224 23 (lsQ 0) [] h c z (.inl (some (.int 1)), h, c, z) := by
  refine e_iload m_law dL_law_23 rfl ?_
  refine e_aload_n m_law dL_law_25 rfl rfl rfl ?_
  refine z_xlen m_law.z dL_law_26 ?_
  refine e_iconst (v := 3) m_law dL_law_27 (by decide) ?_
  refine e_isub m_law dL_law_28 ?_
  refine e_icT (t := 343) m_law dL_law_29 (by decide) (by decide +kernel) ?_
  refine e_iconst (v := 1) m_law dL_law_343 (by decide) ?_
  exact e_reti m_law dL_law_344 (Or.inr ⟨rfl, by decide⟩)
theorem law_s1 {xs : Nat → Int32} {d : Nat} {h : mm_H} {c z : Nat} : Ev xs 1 d 224 23 (lsQ 0) [] h c z (.inl (some (.int 1)), h, c, z) := by
  refine e_iload m_law dL_law_23 rfl ?_
  refine e_aload_n m_law dL_law_25 rfl rfl rfl ?_
  refine z_xlen m_law.z dL_law_26 ?_
  refine e_iconst (v := 3) m_law dL_law_27 (by decide) ?_
  refine e_isub m_law dL_law_28 ?_
  refine e_icT (t := 343) m_law dL_law_29 (by decide) (by decide +kernel) ?_
  refine e_iconst (v := 1) m_law dL_law_343 (by decide) ?_
  exact e_reti m_law dL_law_344 (Or.inr ⟨rfl, by decide⟩)
theorem law_s2 {xs : Nat → Int32} {d : Nat} {h : mm_H} {c z : Nat} : Ev xs 2 d 224 23 (lsQ 0) [] h c z (.inl (some (.int 1)), h, c, z) := by
  refine e_iload m_law dL_law_23 rfl ?_
  refine e_aload_n m_law dL_law_25 rfl rfl rfl ?_
  refine z_xlen m_law.z dL_law_26 ?_
  refine e_iconst (v := 3) m_law dL_law_27 (by decide) ?_
  refine e_isub m_law dL_law_28 ?_
  refine e_icT (t := 343) m_law dL_law_29 (by decide) (by decide +kernel) ?_
  refine e_iconst (v := 1) m_law dL_law_343 (by decide) ?_
  exact e_reti m_law dL_law_344 (Or.inr ⟨rfl, by decide⟩)
theorem law_0a {xs : Nat → Int32} {d : Nat} (hx : exB (xs 1) = 0) (hd : 20 ≤ d) : Ev xs 3 d 224 80 (lsQ 0) [] (qh 0 z0 0 0 0 0 0 0 0 0 0 0 0 z0 z0 z0 z0 z0 z0 z0 z0 z0 z0 []) 29 641320 (.inl (some (.int 1)), qh 0 z0 0 0 0 0 0 0 0 0 0 0 0 z0 z0 z0 z0 z0 z0 z0 z0 z0 z0 [], 29, 641320) := by
  refine e_aload_n m_law dL_law_80 rfl rfl rfl ?_
  refine e_aload_n m_law dL_law_81 rfl rfl rfl ?_
  refine e_iload m_law dL_law_82 rfl ?_
  refine e_iconst (v := 1) m_law dL_law_84 (by decide) ?_
  refine e_iadd m_law dL_law_85 ?_
  refine z_xald (j := 1) m_law.z dL_law_86 (by decide +kernel) (by decide +kernel) ?_
  refine e_cv (as := [.int (xs 1)]) m_law dL_law_87 c_RL_22 (by decide) rfl rfl qg0 rfl (Nat.le_of_ble_eq_true rfl) (Nat.le_of_ble_eq_true rfl) (by omega) (t_add0 hx (by omega)) ?_
  refine e_aload_n m_law dL_law_90 rfl rfl rfl ?_
  refine e_aload_n m_law dL_law_91 rfl rfl rfl ?_
  refine e_iload m_law dL_law_92 rfl ?_
  refine e_iconst (v := 1) m_law dL_law_94 (by decide) ?_
  refine e_iadd m_law dL_law_95 ?_
  refine z_xald (j := 1) m_law.z dL_law_96 (by decide +kernel) (by decide +kernel) ?_
  refine e_cv (as := [.int (xs 1)]) m_law dL_law_97 c_RL_26 (by decide) rfl rfl qg10 rfl (Nat.le_of_ble_eq_true rfl) (Nat.le_of_ble_eq_true rfl) (by omega) (u_add0 hx (by omega)) ?_
  refine e_icT (t := 337) m_law dL_law_100 (by decide) (by decide) ?_
  exact law_end rfl rfl
theorem law_0b {xs : Nat → Int32} {d : Nat} (hx : exB (xs 1) = 1) (hd : 20 ≤ d) : Ev xs 3 d 224 80 (lsQ 0) [] (qh 0 z0 0 0 0 0 0 0 0 0 0 0 0 z0 z0 z0 z0 z0 z0 z0 z0 z0 z0 []) 29 641320 (.inl (some (.int 1)), qh ((0 + 1)) ((upd z0 (0 : Int32).toNatClampNeg (vp_nar (mm_ty 1) (xs 1).toInt8.toInt32))) 0 0 0 (0 + 1) 0 0 0 0 0 0 0 (upd z0 (0 : Int32).toNatClampNeg (vp_nar (mm_ty 1) (xs 1).toInt8.toInt32)) z0 z0 z0 z0 z0 z0 z0 z0 z0 [], 29, 641320) := by
  refine e_aload_n m_law dL_law_80 rfl rfl rfl ?_
  refine e_aload_n m_law dL_law_81 rfl rfl rfl ?_
  refine e_iload m_law dL_law_82 rfl ?_
  refine e_iconst (v := 1) m_law dL_law_84 (by decide) ?_
  refine e_iadd m_law dL_law_85 ?_
  refine z_xald (j := 1) m_law.z dL_law_86 (by decide +kernel) (by decide +kernel) ?_
  refine e_cv (as := [.int (xs 1)]) m_law dL_law_87 c_RL_22 (by decide) rfl rfl qg0 rfl (Nat.le_of_ble_eq_true rfl) (Nat.le_of_ble_eq_true rfl) (by omega) (t_add1 hx (by omega)) ?_
  refine e_aload_n m_law dL_law_90 rfl rfl rfl ?_
  refine e_aload_n m_law dL_law_91 rfl rfl rfl ?_
  refine e_iload m_law dL_law_92 rfl ?_
  refine e_iconst (v := 1) m_law dL_law_94 (by decide) ?_
  refine e_iadd m_law dL_law_95 ?_
  refine z_xald (j := 1) m_law.z dL_law_96 (by decide +kernel) (by decide +kernel) ?_
  refine e_cv (as := [.int (xs 1)]) m_law dL_law_97 c_RL_26 (by decide) rfl rfl qg10 rfl (Nat.le_of_ble_eq_true rfl) (Nat.le_of_ble_eq_true rfl) (by omega) (u_add1 hx (by omega)) ?_
  refine e_icT (t := 337) m_law dL_law_100 (by decide) (by decide) ?_
  exact law_end rfl rfl
def wW (xs : Nat → Int32) : Int64 := ((xs 1).toInt64 <<< ((32 : Int32).toInt64 &&& 63)) ||| ((xs 2).toInt64 &&& 4294967295)
theorem law_1a {xs : Nat → Int32} {d : Nat} (hs : sc (wW xs) 8 0 = none) (hd : 20 ≤ d) : Ev xs 3 d 224 105 (lsQ 0) [] (qh 0 z0 0 0 0 0 0 0 0 0 0 0 0 z0 z0 z0 z0 z0 z0 z0 z0 z0 z0 []) 29 641320 (.inl (some (.int 1)), qh 0 z0 0 0 0 0 0 0 0 0 0 0 0 z0 z0 z0 z0 z0 z0 z0 z0 z0 z0 [], 29, 641320) := by
  refine e_aload_n m_law dL_law_105 rfl rfl rfl ?_
  refine e_aload_n m_law dL_law_106 rfl rfl rfl ?_
  refine e_iload m_law dL_law_107 rfl ?_
  refine e_iconst (v := 1) m_law dL_law_109 (by decide) ?_
  refine e_iadd m_law dL_law_110 ?_
  refine z_xald (j := 1) m_law.z dL_law_111 (by decide +kernel) (by decide +kernel) ?_
  refine e_i2l m_law dL_law_112 ?_
  refine e_bipush (v := 32) m_law dL_law_113 (by decide) ?_
  refine e_lshl m_law dL_law_115 ?_
  refine e_aload_n m_law dL_law_116 rfl rfl rfl ?_
  refine e_iload m_law dL_law_117 rfl ?_
  refine e_iconst (v := 2) m_law dL_law_119 (by decide) ?_
  refine e_iadd m_law dL_law_120 ?_
  refine z_xald (j := 2) m_law.z dL_law_121 (by decide +kernel) (by decide +kernel) ?_
  refine e_i2l m_law dL_law_122 ?_
  refine z_ldc2 m_law.z dL_law_123 j_RL_27 ?_
  refine e_land m_law dL_law_126 ?_
  refine e_lor m_law dL_law_127 ?_
  refine e_cv (as := [.long ((((xs 1).toInt64) <<< ((32 : Int32).toInt64 &&& 63)) ||| (((xs 2).toInt64) &&& 4294967295))]) m_law dL_law_128 c_RL_29 (by decide) rfl rfl qg0 rfl (Nat.le_of_ble_eq_true rfl) (Nat.le_of_ble_eq_true rfl) (by omega) (t_addAll0 (w := wW xs) (by omega) hs) ?_
  refine e_aload_n m_law dL_law_131 rfl rfl rfl ?_
  refine e_aload_n m_law dL_law_132 rfl rfl rfl ?_
  refine e_iload m_law dL_law_133 rfl ?_
  refine e_iconst (v := 1) m_law dL_law_135 (by decide) ?_
  refine e_iadd m_law dL_law_136 ?_
  refine z_xald (j := 1) m_law.z dL_law_137 (by decide +kernel) (by decide +kernel) ?_
  refine e_i2l m_law dL_law_138 ?_
  refine e_bipush (v := 32) m_law dL_law_139 (by decide) ?_
  refine e_lshl m_law dL_law_141 ?_
  refine e_aload_n m_law dL_law_142 rfl rfl rfl ?_
  refine e_iload m_law dL_law_143 rfl ?_
  refine e_iconst (v := 2) m_law dL_law_145 (by decide) ?_
  refine e_iadd m_law dL_law_146 ?_
  refine z_xald (j := 2) m_law.z dL_law_147 (by decide +kernel) (by decide +kernel) ?_
  refine e_i2l m_law dL_law_148 ?_
  refine z_ldc2 m_law.z dL_law_149 j_RL_27 ?_
  refine e_land m_law dL_law_152 ?_
  refine e_lor m_law dL_law_153 ?_
  refine e_cv (as := [.long ((((xs 1).toInt64) <<< ((32 : Int32).toInt64 &&& 63)) ||| (((xs 2).toInt64) &&& 4294967295))]) m_law dL_law_154 c_RL_33 (by decide) rfl rfl qg10 rfl (Nat.le_of_ble_eq_true rfl) (Nat.le_of_ble_eq_true rfl) (by omega) (u_addAll0 (w := wW xs) (by omega) hs) ?_
  refine e_icT (t := 337) m_law dL_law_157 (by decide) (by decide) ?_
  exact law_end rfl rfl
theorem law_1c {xs : Nat → Int32} {d : Nat} {cnt2 : Int32} {kf2 kg2 : Nat → Int32} {j2 : Nat} (R1 : Rn xs 3 (d - 1) 7 [.ref 0, .long (wW xs)] (qh 0 z0 0 0 0 0 0 0 0 0 0 0 0 z0 z0 z0 z0 z0 z0 z0 z0 z0 z0 []) (.inl (some (.int 1)), qh cnt2 kf2 0 0 0 0 0 0 0 0 0 0 0 z0 z0 z0 z0 z0 z0 z0 z0 z0 z0 [], 0, 0)) (R2 : Rn xs 3 (d - 1) 127 [.ref 10, .long (wW xs)] (qh cnt2 kf2 0 0 0 0 0 0 0 0 0 0 0 z0 z0 z0 z0 z0 z0 z0 z0 z0 z0 []) (.inl (some (.int 1)), qh cnt2 kf2 0 0 0 (nI j2) 0 0 0 0 0 0 0 kg2 z0 z0 z0 z0 z0 z0 z0 z0 z0 [], 0, 0)) (hd : 20 ≤ d) : Ev xs 3 d 224 105 (lsQ 0) [] (qh 0 z0 0 0 0 0 0 0 0 0 0 0 0 z0 z0 z0 z0 z0 z0 z0 z0 z0 z0 []) 29 641320 (.inl (some (.int 1)), qh cnt2 kf2 0 0 0 (nI j2) 0 0 0 0 0 0 0 kg2 z0 z0 z0 z0 z0 z0 z0 z0 z0 [], 29, 641320) := by
  refine e_aload_n m_law dL_law_105 rfl rfl rfl ?_
  refine e_aload_n m_law dL_law_106 rfl rfl rfl ?_
  refine e_iload m_law dL_law_107 rfl ?_
  refine e_iconst (v := 1) m_law dL_law_109 (by decide) ?_
  refine e_iadd m_law dL_law_110 ?_
  refine z_xald (j := 1) m_law.z dL_law_111 (by decide +kernel) (by decide +kernel) ?_
  refine e_i2l m_law dL_law_112 ?_
  refine e_bipush (v := 32) m_law dL_law_113 (by decide) ?_
  refine e_lshl m_law dL_law_115 ?_
  refine e_aload_n m_law dL_law_116 rfl rfl rfl ?_
  refine e_iload m_law dL_law_117 rfl ?_
  refine e_iconst (v := 2) m_law dL_law_119 (by decide) ?_
  refine e_iadd m_law dL_law_120 ?_
  refine z_xald (j := 2) m_law.z dL_law_121 (by decide +kernel) (by decide +kernel) ?_
  refine e_i2l m_law dL_law_122 ?_
  refine z_ldc2 m_law.z dL_law_123 j_RL_27 ?_
  refine e_land m_law dL_law_126 ?_
  refine e_lor m_law dL_law_127 ?_
  refine e_cv (as := [.long ((((xs 1).toInt64) <<< ((32 : Int32).toInt64 &&& 63)) ||| (((xs 2).toInt64) &&& 4294967295))]) m_law dL_law_128 c_RL_29 (by decide) rfl rfl qg0 rfl (Nat.le_of_ble_eq_true rfl) (Nat.le_of_ble_eq_true rfl) (by omega) (R1) ?_
  refine e_aload_n m_law dL_law_131 rfl rfl rfl ?_
  refine e_aload_n m_law dL_law_132 rfl rfl rfl ?_
  refine e_iload m_law dL_law_133 rfl ?_
  refine e_iconst (v := 1) m_law dL_law_135 (by decide) ?_
  refine e_iadd m_law dL_law_136 ?_
  refine z_xald (j := 1) m_law.z dL_law_137 (by decide +kernel) (by decide +kernel) ?_
  refine e_i2l m_law dL_law_138 ?_
  refine e_bipush (v := 32) m_law dL_law_139 (by decide) ?_
  refine e_lshl m_law dL_law_141 ?_
  refine e_aload_n m_law dL_law_142 rfl rfl rfl ?_
  refine e_iload m_law dL_law_143 rfl ?_
  refine e_iconst (v := 2) m_law dL_law_145 (by decide) ?_
  refine e_iadd m_law dL_law_146 ?_
  refine z_xald (j := 2) m_law.z dL_law_147 (by decide +kernel) (by decide +kernel) ?_
  refine e_i2l m_law dL_law_148 ?_
  refine z_ldc2 m_law.z dL_law_149 j_RL_27 ?_
  refine e_land m_law dL_law_152 ?_
  refine e_lor m_law dL_law_153 ?_
  refine e_cv (as := [.long ((((xs 1).toInt64) <<< ((32 : Int32).toInt64 &&& 63)) ||| (((xs 2).toInt64) &&& 4294967295))]) m_law dL_law_154 c_RL_33 (by decide) rfl rfl qg10 rfl (Nat.le_of_ble_eq_true rfl) (Nat.le_of_ble_eq_true rfl) (by omega) (R2) ?_
  refine e_icT (t := 337) m_law dL_law_157 (by decide) (by decide) ?_
  exact law_end rfl rfl
theorem law_2 {xs : Nat → Int32} {d : Nat} (hd : 20 ≤ d) : Ev xs 3 d 224 162 (lsQ 0) [] (qh 0 z0 0 0 0 0 0 0 0 0 0 0 0 z0 z0 z0 z0 z0 z0 z0 z0 z0 z0 []) 29 641320 (.inl (some (.int 1)), qh 0 z0 0 0 0 0 (0 + 1) 0 (0 + 1) (0 + 1) 0 0 0 z0 (upd z0 (0 : Int32).toNatClampNeg (vp_nar (mm_ty 0) 1)) (upd z0 (0 : Int32).toNatClampNeg (vp_nar (mm_ty 0) 0)) (upd z0 (0 : Int32).toNatClampNeg (vp_nar (mm_ty 0) ((-1)))) (upd z0 (0 : Int32).toNatClampNeg (vp_nar (mm_ty 0) ((-1)))) (upd z0 (0 : Int32).toNatClampNeg (vp_nar (mm_ty 0) ((-1)))) (upd z0 (0 : Int32).toNatClampNeg (vp_nar (mm_ty 0) ((-1)))) (upd z0 (0 : Int32).toNatClampNeg (vp_nar (mm_ty 0) 54)) (upd z0 (0 : Int32).toNatClampNeg (vp_nar (mm_ty 0) ((0 + 1) - 1))) (upd z0 (0 : Int32).toNatClampNeg (vp_nar (mm_ty 0) 0)) [.inr (0, [.ref 1, .ref 3, .ref 30, .int 0, .int 0, .int 0, .int 0, .int 0, .int ((-1))]), .inl (0, 155, .inl z0)], 32, 641490) := by
  refine e_aload_n m_law dL_law_162 rfl rfl rfl ?_
  refine e_cv (as := []) m_law dL_law_163 c_RL_34 (by decide) rfl rfl qg0 rfl (Nat.le_of_ble_eq_true rfl) (Nat.le_of_ble_eq_true rfl) (by omega) (t_build (by omega)) ?_
  refine e_aload_n m_law dL_law_166 rfl rfl rfl ?_
  refine e_cv (as := []) m_law dL_law_167 c_RL_38 (by decide) rfl rfl qg10 rfl (Nat.le_of_ble_eq_true rfl) (Nat.le_of_ble_eq_true rfl) (by omega) (u_build0 (by omega)) ?_
  refine e_icT (t := 337) m_law dL_law_170 (by decide) (by decide) ?_
  exact law_end rfl rfl
theorem law_3 {xs : Nat → Int32} {d : Nat} (hd : 20 ≤ d) : Ev xs 3 d 224 175 (lsQ 0) [] (qh 0 z0 0 0 0 0 0 0 0 0 0 0 0 z0 z0 z0 z0 z0 z0 z0 z0 z0 z0 []) 29 641320 (.inl (some (.int 1)), qh 0 z0 0 0 0 0 0 0 0 0 0 0 0 z0 z0 z0 z0 z0 z0 z0 z0 z0 z0 [], 29, 641320) := by
  refine e_aload_n m_law dL_law_175 rfl rfl rfl ?_
  refine e_cv (as := []) m_law dL_law_176 c_RL_39 (by decide) rfl rfl qg0 rfl (Nat.le_of_ble_eq_true rfl) (Nat.le_of_ble_eq_true rfl) (by omega) (t_size (by omega)) ?_
  refine e_aload_n m_law dL_law_179 rfl rfl rfl ?_
  refine e_cv (as := []) m_law dL_law_180 c_RL_42 (by decide) rfl rfl qg10 rfl (Nat.le_of_ble_eq_true rfl) (Nat.le_of_ble_eq_true rfl) (by omega) (u_size (by omega)) ?_
  refine e_icT (t := 337) m_law dL_law_183 (by decide) (by decide) ?_
  exact law_end rfl rfl
theorem law_4 {xs : Nat → Int32} {d : Nat} (hd : 20 ≤ d) : Ev xs 3 d 224 188 (lsQ 0) [] (qh 0 z0 0 0 0 0 0 0 0 0 0 0 0 z0 z0 z0 z0 z0 z0 z0 z0 z0 z0 []) 29 641320 (.inl (some (.int 1)), qh 0 z0 0 0 0 0 0 0 0 0 0 0 0 z0 z0 z0 z0 z0 z0 z0 z0 z0 z0 [], 29, 641320) := by
  refine e_aload_n m_law dL_law_188 rfl rfl rfl ?_
  refine e_cv (as := []) m_law dL_law_189 c_RL_43 (by decide) rfl rfl qg0 rfl (Nat.le_of_ble_eq_true rfl) (Nat.le_of_ble_eq_true rfl) (by omega) (t_nodes (by omega)) ?_
  refine e_aload_n m_law dL_law_192 rfl rfl rfl ?_
  refine e_cv (as := []) m_law dL_law_193 c_RL_46 (by decide) rfl rfl qg10 rfl (Nat.le_of_ble_eq_true rfl) (Nat.le_of_ble_eq_true rfl) (by omega) (u_nodes (by omega)) ?_
  refine e_icT (t := 337) m_law dL_law_196 (by decide) (by decide) ?_
  exact law_end rfl rfl
theorem law_5 {xs : Nat → Int32} {d : Nat} (hd : 20 ≤ d) : Ev xs 3 d 224 201 (lsQ 0) [] (qh 0 z0 0 0 0 0 0 0 0 0 0 0 0 z0 z0 z0 z0 z0 z0 z0 z0 z0 z0 []) 29 641320 (.inl (some (.int 1)), qh 0 z0 0 0 1 0 0 0 0 0 0 0 0 z0 z0 z0 z0 z0 z0 z0 z0 z0 z0 [], 30, 641326) := by
  refine e_aload_n m_law dL_law_201 rfl rfl rfl ?_
  refine e_aload_n m_law dL_law_202 rfl rfl rfl ?_
  refine e_iload m_law dL_law_203 rfl ?_
  refine e_iconst (v := 1) m_law dL_law_205 (by decide) ?_
  refine e_iadd m_law dL_law_206 ?_
  refine z_xald (j := 1) m_law.z dL_law_207 (by decide +kernel) (by decide +kernel) ?_
  refine e_aload_n m_law dL_law_208 rfl rfl rfl ?_
  refine e_iload m_law dL_law_209 rfl ?_
  refine e_iconst (v := 2) m_law dL_law_211 (by decide) ?_
  refine e_iadd m_law dL_law_212 ?_
  refine z_xald (j := 2) m_law.z dL_law_213 (by decide +kernel) (by decide +kernel) ?_
  refine e_aload_n m_law dL_law_214 rfl rfl rfl ?_
  refine e_cs (as := [.ref 0, .int (xs 1), .int (xs 2), .ref 28]) m_law dL_law_215 c_RL_47 (by decide) rfl rfl (Nat.le_of_ble_eq_true rfl) (Nat.le_of_ble_eq_true rfl) (by omega) (l_node (by omega)) ?_
  refine e_istore m_law dL_law_218 (by decide) rfl ?_
  refine e_aload_n m_law dL_law_220 rfl rfl rfl ?_
  refine e_aload_n m_law dL_law_221 rfl rfl rfl ?_
  refine e_iload m_law dL_law_222 rfl ?_
  refine e_iconst (v := 1) m_law dL_law_224 (by decide) ?_
  refine e_iadd m_law dL_law_225 ?_
  refine z_xald (j := 1) m_law.z dL_law_226 (by decide +kernel) (by decide +kernel) ?_
  refine e_aload_n m_law dL_law_227 rfl rfl rfl ?_
  refine e_iload m_law dL_law_228 rfl ?_
  refine e_iconst (v := 2) m_law dL_law_230 (by decide) ?_
  refine e_iadd m_law dL_law_231 ?_
  refine z_xald (j := 2) m_law.z dL_law_232 (by decide +kernel) (by decide +kernel) ?_
  refine e_cv (as := [.int (xs 1), .int (xs 2)]) m_law dL_law_233 c_RL_52 (by decide) rfl rfl qg10 rfl (Nat.le_of_ble_eq_true rfl) (Nat.le_of_ble_eq_true rfl) (by omega) (u_node (by omega)) ?_
  refine e_istore m_law dL_law_236 (by decide) rfl ?_
  refine e_aload_n m_law dL_law_238 rfl rfl rfl ?_
  refine e_cv (as := []) m_law dL_law_239 c_RL_53 (by decide) rfl rfl qg10 rfl (Nat.le_of_ble_eq_true rfl) (Nat.le_of_ble_eq_true rfl) (by omega) (u_thrown (by omega)) ?_
  refine e_iload m_law dL_law_242 rfl ?_
  refine e_icT (t := 249) m_law dL_law_244 (by decide) (by decide) ?_
  refine e_iload m_law dL_law_249 rfl ?_
  refine e_ifT (t := 266) m_law dL_law_251 (by decide) (by decide) ?_
  refine e_goto (t := 337) m_law dL_law_266 (by decide) ?_
  exact law_end rfl rfl
theorem law_6 {xs : Nat → Int32} {d : Nat} (hd : 20 ≤ d) : Ev xs 3 d 224 269 (lsQ 0) [] (qh 0 z0 0 0 0 0 0 0 0 0 0 0 0 z0 z0 z0 z0 z0 z0 z0 z0 z0 z0 []) 29 641320 (.inl (some (.int 1)), qh 0 z0 0 0 1 0 0 0 0 0 0 0 0 z0 z0 z0 z0 z0 z0 z0 z0 z0 z0 [], 30, 641326) := by
  refine e_aload_n m_law dL_law_269 rfl rfl rfl ?_
  refine e_aload_n m_law dL_law_270 rfl rfl rfl ?_
  refine e_iload m_law dL_law_271 rfl ?_
  refine e_iconst (v := 1) m_law dL_law_273 (by decide) ?_
  refine e_iadd m_law dL_law_274 ?_
  refine z_xald (j := 1) m_law.z dL_law_275 (by decide +kernel) (by decide +kernel) ?_
  refine e_aload_n m_law dL_law_276 rfl rfl rfl ?_
  refine e_iload m_law dL_law_277 rfl ?_
  refine e_iconst (v := 2) m_law dL_law_279 (by decide) ?_
  refine e_iadd m_law dL_law_280 ?_
  refine z_xald (j := 2) m_law.z dL_law_281 (by decide +kernel) (by decide +kernel) ?_
  refine e_aload_n m_law dL_law_282 rfl rfl rfl ?_
  refine e_cs (as := [.ref 0, .int (xs 1), .int (xs 2), .ref 28]) m_law dL_law_283 c_RL_56 (by decide) rfl rfl (Nat.le_of_ble_eq_true rfl) (Nat.le_of_ble_eq_true rfl) (by omega) (l_child (by omega)) ?_
  refine e_istore m_law dL_law_286 (by decide) rfl ?_
  refine e_aload_n m_law dL_law_288 rfl rfl rfl ?_
  refine e_aload_n m_law dL_law_289 rfl rfl rfl ?_
  refine e_iload m_law dL_law_290 rfl ?_
  refine e_iconst (v := 1) m_law dL_law_292 (by decide) ?_
  refine e_iadd m_law dL_law_293 ?_
  refine z_xald (j := 1) m_law.z dL_law_294 (by decide +kernel) (by decide +kernel) ?_
  refine e_aload_n m_law dL_law_295 rfl rfl rfl ?_
  refine e_iload m_law dL_law_296 rfl ?_
  refine e_iconst (v := 2) m_law dL_law_298 (by decide) ?_
  refine e_iadd m_law dL_law_299 ?_
  refine z_xald (j := 2) m_law.z dL_law_300 (by decide +kernel) (by decide +kernel) ?_
  refine e_cv (as := [.int (xs 1), .int (xs 2)]) m_law dL_law_301 c_RL_58 (by decide) rfl rfl qg10 rfl (Nat.le_of_ble_eq_true rfl) (Nat.le_of_ble_eq_true rfl) (by omega) (u_child (by omega)) ?_
  refine e_istore m_law dL_law_304 (by decide) rfl ?_
  refine e_aload_n m_law dL_law_306 rfl rfl rfl ?_
  refine e_cv (as := []) m_law dL_law_307 c_RL_53 (by decide) rfl rfl qg10 rfl (Nat.le_of_ble_eq_true rfl) (Nat.le_of_ble_eq_true rfl) (by omega) (u_thrown (by omega)) ?_
  refine e_iload m_law dL_law_310 rfl ?_
  refine e_icT (t := 317) m_law dL_law_312 (by decide) (by decide) ?_
  refine e_iload m_law dL_law_317 rfl ?_
  refine e_ifT (t := 334) m_law dL_law_319 (by decide) (by decide) ?_
  refine e_goto (t := 337) m_law dL_law_334 (by decide) ?_
  exact law_end rfl rfl
theorem and7 (x : Int32) : x &&& 7 = 0 ∨ x &&& 7 = 1 ∨ x &&& 7 = 2 ∨ x &&& 7 = 3 ∨ x &&& 7 = 4 ∨ x &&& 7 = 5 ∨ x &&& 7 = 6 ∨ x &&& 7 = 7 := by
  have h : (x &&& 7).toBitVec.toNat ≤ 7 := by
    rw [Int32.toBitVec_and, BitVec.toNat_and]; exact Nat.and_le_right
  have e : ∀ n : Nat, (x &&& 7).toBitVec.toNat = n → n < 2^32 → (x &&& 7) = Int32.ofBitVec (BitVec.ofNat 32 n) := by
    intro n hn hl
    apply Int32.toBitVec_inj.mp
    apply BitVec.eq_of_toNat_eq
    rw [hn]; simp; omega
  have h2 : (x &&& 7).toBitVec.toNat = 0 ∨ (x &&& 7).toBitVec.toNat = 1 ∨ (x &&& 7).toBitVec.toNat = 2 ∨ (x &&& 7).toBitVec.toNat = 3 ∨ (x &&& 7).toBitVec.toNat = 4 ∨ (x &&& 7).toBitVec.toNat = 5 ∨ (x &&& 7).toBitVec.toNat = 6 ∨ (x &&& 7).toBitVec.toNat = 7 := by omega
  rcases h2 with q | q | q | q | q | q | q | q
  · exact Or.inl (e _ q (by decide))
  · exact Or.inr (Or.inl (e _ q (by decide)))
  · exact Or.inr (Or.inr (Or.inl (e _ q (by decide))))
  · exact Or.inr (Or.inr (Or.inr (Or.inl (e _ q (by decide)))))
  · exact Or.inr (Or.inr (Or.inr (Or.inr (Or.inl (e _ q (by decide))))))
  · exact Or.inr (Or.inr (Or.inr (Or.inr (Or.inr (Or.inl (e _ q (by decide)))))))
  · exact Or.inr (Or.inr (Or.inr (Or.inr (Or.inr (Or.inr (Or.inl (e _ q (by decide))))))))
  · exact Or.inr (Or.inr (Or.inr (Or.inr (Or.inr (Or.inr (Or.inr (e _ q (by decide))))))))
theorem law_sw {xs : Nat → Int32} {d : Nat} {h : mm_H} {c z : Nat} {o : mm_R} (K : Ev xs 3 d 224 39 (lsQ 0) [.int (xs 0 &&& 7)] h c z o) : Ev xs 3 d 224 23 (lsQ 0) [] h c z o := by
  refine e_iload m_law dL_law_23 rfl ?_
  refine e_aload_n m_law dL_law_25 rfl rfl rfl ?_
  refine z_xlen m_law.z dL_law_26 ?_
  refine e_iconst (v := 3) m_law dL_law_27 (by decide) ?_
  refine e_isub m_law dL_law_28 ?_
  refine e_icF (t := 343) m_law dL_law_29 (by decide) (by decide +kernel) ?_
  refine e_aload_n m_law dL_law_32 rfl rfl rfl ?_
  refine e_iload m_law dL_law_33 rfl ?_
  refine z_xald (j := 0) m_law.z dL_law_35 (by decide +kernel) (by decide +kernel) ?_
  refine e_bipush (v := 7) m_law dL_law_36 (by decide) ?_
  refine e_iand m_law dL_law_38 ?_
  exact K
theorem law_all {xs : Nat → Int32} {d : Nat} (hd : 20 ≤ d) : ∃ (h' : mm_H) (c' z' : Nat), Ev xs 3 d 224 23 (lsQ 0) [] (qh 0 z0 0 0 0 0 0 0 0 0 0 0 0 z0 z0 z0 z0 z0 z0 z0 z0 z0 z0 []) 29 641320 (.inl (some (.int 1)), h', c', z') ∧ c' ≤ 600002 ∧ z' ≤ 7302232 := by
  rcases and7 (xs 0) with hw | hw | hw | hw | hw | hw | hw | hw
  · rcases exB_01 (xs 1) with hx | hx
    · refine ⟨_, _, _, law_sw (e_rw (st' := [.int 0]) (by rw [hw]) (e_table (t := 80) m_law dL_law_39 (by decide +kernel) (Or.inr (by decide +kernel)) (law_0a hx hd))), by decide, by decide⟩
    · refine ⟨_, _, _, law_sw (e_rw (st' := [.int 0]) (by rw [hw]) (e_table (t := 80) m_law dL_law_39 (by decide +kernel) (Or.inr (by decide +kernel)) (law_0b hx hd))), by decide, by decide⟩
  · cases hs : sc (wW xs) 8 0 with
    | none => exact ⟨_, _, _, law_sw (e_rw (st' := [.int 1]) (by rw [hw]) (e_table (t := 105) m_law dL_law_39 (by decide +kernel) (Or.inr (by decide +kernel)) (law_1a hs hd))), by decide, by decide⟩
    | some r =>
      obtain ⟨cnt2, kf2, R1⟩ := t_addAll1 (xs := xs) (L := 3) (d := d - 1) (kf := z0) (us := 0) (nb := 0) (th := 0) (ct := 0) (md := 0) (nd := 0) (td := 0) (at' := 0) (dp := 0) (wr := 0) (rw := 0) (kg := z0) (fW := z0) (fT := z0) (fP := z0) (fF := z0) (fL := z0) (fN := z0) (gD := z0) (gN := z0) (gT := z0) (t := []) (by omega) hs
      obtain ⟨j2, kg2, R2⟩ := u_addAll1 (xs := xs) (L := 3) (d := d - 1) (cnt := cnt2) (kf := kf2) (us := 0) (nb := 0) (th := 0) (md := 0) (nd := 0) (td := 0) (at' := 0) (dp := 0) (wr := 0) (rw := 0) (kg := z0) (fW := z0) (fT := z0) (fP := z0) (fF := z0) (fL := z0) (fN := z0) (gD := z0) (gN := z0) (gT := z0) (t := []) (by omega) hs
      refine ⟨_, _, _, law_sw (e_rw (st' := [.int 1]) (by rw [hw]) (e_table (t := 105) m_law dL_law_39 (by decide +kernel) (Or.inr (by decide +kernel)) (law_1c R1 R2 hd))), by decide, by decide⟩
  · refine ⟨_, _, _, law_sw (e_rw (st' := [.int 2]) (by rw [hw]) (e_table (t := 162) m_law dL_law_39 (by decide +kernel) (Or.inr (by decide +kernel)) (law_2 hd))), by decide, by decide⟩
  · refine ⟨_, _, _, law_sw (e_rw (st' := [.int 3]) (by rw [hw]) (e_table (t := 175) m_law dL_law_39 (by decide +kernel) (Or.inr (by decide +kernel)) (law_3 hd))), by decide, by decide⟩
  · refine ⟨_, _, _, law_sw (e_rw (st' := [.int 4]) (by rw [hw]) (e_table (t := 188) m_law dL_law_39 (by decide +kernel) (Or.inr (by decide +kernel)) (law_4 hd))), by decide, by decide⟩
  · refine ⟨_, _, _, law_sw (e_rw (st' := [.int 5]) (by rw [hw]) (e_table (t := 201) m_law dL_law_39 (by decide +kernel) (Or.inr (by decide +kernel)) (law_5 hd))), by decide, by decide⟩
  · refine ⟨_, _, _, law_sw (e_rw (st' := [.int 6]) (by rw [hw]) (e_table (t := 269) m_law dL_law_39 (by decide +kernel) (Or.inr (by decide +kernel)) (law_6 hd))), by decide, by decide⟩
  · refine ⟨_, _, _, law_sw (e_rw (st' := [.int 7]) (by rw [hw]) (e_table (t := 337) m_law dL_law_39 (by decide +kernel) (Or.inl (by decide +kernel)) (law_end rfl rfl))), by decide, by decide⟩
