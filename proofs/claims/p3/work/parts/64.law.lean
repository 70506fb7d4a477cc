/-! The law. -/
theorem and7 (x : Int32) : x &&& 7 = 0 ∨ x &&& 7 = 1 ∨ x &&& 7 = 2 ∨ x &&& 7 = 3 ∨ x &&& 7 = 4 ∨ x &&& 7 = 5 ∨ x &&& 7 = 6 ∨ x &&& 7 = 7 := by
  have h : (x &&& 7).toBitVec.toNat ≤ 7 := by
    rw [Int32.toBitVec_and, BitVec.toNat_and]; exact Nat.and_le_right
  have e : ∀ n : Nat, (x &&& 7).toBitVec.toNat = n → n < 2^32 → (x &&& 7) = Int32.ofBitVec (BitVec.ofNat 32 n) := by
    intro n hn hl
    apply Int32.toBitVec_inj.mp
    apply BitVec.eq_of_toNat_eq
    rw [hn]; simp; omega
  have h2 : (x &&& 7).toBitVec.toNat = 0 ∨ (x &&& 7).toBitVec.toNat = 1 ∨ (x &&& 7).toBitVec.toNat = 2 ∨ (x &&& 7).toBitVec.toNat = 3 ∨ (x &&& 7).toBitVec.toNat = 4 ∨ (x &&& 7).toBitVec.toNat = 5 ∨ (x &&& 7).toBitVec.toNat = 6 ∨ (x &&& 7).toBitVec.toNat = 7 := by omega
  rcases h2 with q | q | q | q | q | q | q | q
  · exact Or.inl (e _ q (by decide))
  · exact Or.inr (Or.inl (e _ q (by decide)))
  · exact Or.inr (Or.inr (Or.inl (e _ q (by decide))))
  · exact Or.inr (Or.inr (Or.inr (Or.inl (e _ q (by decide)))))
  · exact Or.inr (Or.inr (Or.inr (Or.inr (Or.inl (e _ q (by decide))))))
  · exact Or.inr (Or.inr (Or.inr (Or.inr (Or.inr (Or.inl (e _ q (by decide)))))))
  · exact Or.inr (Or.inr (Or.inr (Or.inr (Or.inr (Or.inr (Or.inl (e _ q (by decide))))))))
  · exact Or.inr (Or.inr (Or.inr (Or.inr (Or.inr (Or.inr (Or.inr (e _ q (by decide))))))))
theorem gt_no {L j : Nat} (hL : L ≤ 1536) (h : 3 * j + 3 ≤ L) : mm_cond .gt (nI (3 * j)) (Int32.ofNat L - nI 3) = false := by
  rw [show Int32.ofNat L = nI L from rfl, nI_sub (by omega)]
  exact decide_eq_false (by rw [nI_ltI (by omega) (by omega)]; omega)
theorem gt_yes {L j : Nat} (hL : L ≤ 1536) (h : ¬ 3 * j + 3 ≤ L) (h2 : 3 * j ≤ L) : mm_cond .gt (nI (3 * j)) (Int32.ofNat L - nI 3) = true := by
  by_cases q : 3 ≤ L
  · rw [show Int32.ofNat L = nI L from rfl, nI_sub (by omega)]
    exact decide_eq_true (by rw [nI_ltI (by omega) (by omega)]; omega)
  · have h3 : j = 0 := by omega
    subst h3
    have h4 : L = 0 ∨ L = 1 ∨ L = 2 := by omega
    rcases h4 with rfl | rfl | rfl
    · decide +kernel
    · decide +kernel
    · decide +kernel
theorem law_loop {xs : Nat → Int32} {L : Nat} (hL : L ≤ 1536) : ∀ (n j c N : Nat) (h : mm_H) (ls : mm_L) (C Z : Nat), 3 * j ≤ L → L < 3 * j + n → Gi h c N → c ≤ 8 * j → ∀ (hl0 : mm_lk ls 0 = some (.retAddr 0)) (hl1 : mm_lk ls 1 = some (.ref 0)) (hl2 : mm_lk ls 2 = some (.ref 10)) (hl3 : mm_lk ls 3 = some (.ref 28)) (hl4 : mm_lk ls 4 = some (.int (nI (3 * j)))), Es xs L 2048 223 23 ls [] h C Z (fun o => ∃ (h' : mm_H) (C' Z' : Nat), o = (.inl (some (.int 1)), h', C', Z') ∧ C' ≤ C + 10 * (513 - j) ∧ Z' + 12 * N ≤ Z + 240000 + 210 * (513 - j)) := by
  intro n
  induction n with
  | zero => intro j c N h ls C Z h1 h2; omega
  | succ n ih =>
    intro j c N h ls C Z hj1 hj2 G hcj hl0 hl1 hl2 hl3 hl4
    have hNN : N ≤ 20000 := by
      obtain ⟨a, us, nb, ks, f1, f2, f3, f4, f5, f6, s, g, C9, h4, hl, hN, hN2, -⟩ := G
      exact hN2
    refine Es.via (fun o K => e_iload m_law dL_law_23 hl4 K) ?_
    refine Es.via (fun o K => e_aload_n m_law dL_law_25 rfl hl0 rfl K) ?_
    refine Es.via (fun o K => z_xlen m_law.z dL_law_26 K) ?_
    refine Es.via (fun o K => e_iconst (v := nI 3) m_law dL_law_27 (by decide) K) ?_
    refine Es.via (fun o K => e_isub m_law dL_law_28 K) ?_
    by_cases q : 3 * j + 3 ≤ L
    · refine Es.via (fun o K => e_icF (t := 287) m_law dL_law_29 (by decide) (gt_no hL q) K) ?_
      have hc : c ≤ 4096 := by omega
      have next : ∀ (h2 : mm_H) (c2 N2 : Nat) (ls2 : mm_L) (C2 Z2 : Nat), Gi h2 c2 N2 → c2 ≤ c + 8 → C2 ≤ C + 10 → Z2 + 12 * N ≤ Z + 12 * N2 + 210 → mm_lk ls2 0 = some (.retAddr 0) → mm_lk ls2 1 = some (.ref 0) → mm_lk ls2 2 = some (.ref 10) → mm_lk ls2 3 = some (.ref 28) → mm_lk ls2 4 = some (.int (nI (3 * j))) → Es xs L 2048 223 281 ls2 [] h2 C2 Z2 (fun o => ∃ (h' : mm_H) (C' Z' : Nat), o = (.inl (some (.int 1)), h', C', Z') ∧ C' ≤ C + 10 * (513 - j) ∧ Z' + 12 * N ≤ Z + 240000 + 210 * (513 - j)) := by
        intro h2 c2 N2 ls2 C2 Z2 G2 d1 d2 d3 k0 k1 k2 k3 k4
        refine Es.via (fun o K => e_iincN (n := 3) m_law dL_law_281 (by decide) k4 rfl K) ?_
        refine Es.via (fun o K => e_goto (t := 23) m_law dL_law_284 (by decide) K) ?_
        refine Es.imp (ih (j + 1) c2 N2 h2 _ C2 Z2 (by omega) (by omega) G2 (by omega) (lk_mis (by decide) rfl k0) (lk_mis (by decide) rfl k1) (lk_mis (by decide) rfl k2) (lk_mis (by decide) rfl k3) (by rw [show 3 * (j + 1) = 3 * j + 3 by omega]; exact lk_hit)) (fun o w => ?_)
        obtain ⟨h', C', Z', rfl, w1, w2⟩ := w
        exact ⟨h', C', Z', rfl, by omega, by omega⟩
      refine Es.via (fun o K => e_aload_n m_law dL_law_32 rfl hl0 rfl K) ?_
      refine Es.via (fun o K => e_iload m_law dL_law_33 hl4 K) ?_
      refine Es.via (fun o K => z_xald (j := 3 * j) m_law.z dL_law_35 (nI_clamp (by omega)) (by rw [nI_clamp (by omega)]; exact fun q => q.elim (nI_pos (by omega)) (by omega)) K) ?_
      refine Es.via (fun o K => e_bipush (v := 7) m_law dL_law_36 (by decide) K) ?_
      refine Es.via (fun o K => e_iand m_law dL_law_38 K) ?_
      rcases and7 (xs (3 * j)) with hw | hw | hw | hw | hw | hw | hw | hw
      · refine Es.via (fun o K => e_rw (st' := [.int 0]) (by rw [hw]) (e_table (t := 80) m_law dL_law_39 (by decide +kernel) (Or.inr (by decide +kernel)) K)) ?_
        refine Es.via (fun o K => e_aload_n m_law dL_law_80 rfl hl1 rfl K) ?_
        refine Es.via (fun o K => e_aload_n m_law dL_law_81 rfl hl0 rfl K) ?_
        refine Es.via (fun o K => e_iload m_law dL_law_82 hl4 K) ?_
        refine Es.via (fun o K => e_iconst (v := nI 1) m_law dL_law_84 (by decide) K) ?_
        refine Es.via (fun o K => e_iaddN m_law dL_law_85 K) ?_
        refine Es.via (fun o K => z_xald (j := 3 * j + 1) m_law.z dL_law_86 (nI_clamp (by omega)) (by rw [nI_clamp (by omega)]; exact fun q => q.elim (nI_pos (by omega)) (by omega)) K) ?_
        obtain ⟨v1, v2, h1, h2, c2, N2, cc, zz, fs, R1, R2, hs, G2, b1, b2, b3, q10⟩ := g_add (x := xs (3 * j + 1)) (xs := xs) (L := L) (d := 2048 - 1) G hc (by decide)
        refine Es.via (fun o K => e_cv (as := [.int (xs (3 * j + 1))]) m_law dL_law_87 c_RL_22 (by decide) rfl rfl G.c0 rfl (Nat.le_of_ble_eq_true rfl) (Nat.le_of_ble_eq_true rfl) (by decide) R1 K) ?_
        refine Es.via (fun o K => e_pop m_law dL_law_90 rfl K) ?_
        refine Es.via (fun o K => e_aload_n m_law dL_law_91 rfl hl2 rfl K) ?_
        refine Es.via (fun o K => e_aload_n m_law dL_law_92 rfl hl0 rfl K) ?_
        refine Es.via (fun o K => e_iload m_law dL_law_93 hl4 K) ?_
        refine Es.via (fun o K => e_iconst (v := nI 1) m_law dL_law_95 (by decide) K) ?_
        refine Es.via (fun o K => e_iaddN m_law dL_law_96 K) ?_
        refine Es.via (fun o K => z_xald (j := 3 * j + 1) m_law.z dL_law_97 (nI_clamp (by omega)) (by rw [nI_clamp (by omega)]; exact fun q => q.elim (nI_pos (by omega)) (by omega)) K) ?_
        refine Es.via (fun o K => e_cv (as := [.int (xs (3 * j + 1))]) m_law dL_law_98 c_RL_26 (by decide) rfl rfl q10 rfl (Nat.le_of_ble_eq_true rfl) (Nat.le_of_ble_eq_true rfl) (by decide) R2 K) ?_
        refine Es.via (fun o K => e_pop m_law dL_law_101 rfl K) ?_
        refine Es.via (fun o K => e_goto (t := 281) m_law dL_law_102 (by decide) K) ?_
        exact next _ _ _ _ _ _ G2 b1 (by omega) (by omega) hl0 hl1 hl2 hl3 hl4
      · refine Es.via (fun o K => e_rw (st' := [.int 1]) (by rw [hw]) (e_table (t := 105) m_law dL_law_39 (by decide +kernel) (Or.inr (by decide +kernel)) K)) ?_
        refine Es.via (fun o K => e_aload_n m_law dL_law_105 rfl hl1 rfl K) ?_
        refine Es.via (fun o K => e_aload_n m_law dL_law_106 rfl hl0 rfl K) ?_
        refine Es.via (fun o K => e_iload m_law dL_law_107 hl4 K) ?_
        refine Es.via (fun o K => e_iconst (v := nI 1) m_law dL_law_109 (by decide) K) ?_
        refine Es.via (fun o K => e_iaddN m_law dL_law_110 K) ?_
        refine Es.via (fun o K => z_xald (j := 3 * j + 1) m_law.z dL_law_111 (nI_clamp (by omega)) (by rw [nI_clamp (by omega)]; exact fun q => q.elim (nI_pos (by omega)) (by omega)) K) ?_
        refine Es.via (fun o K => e_i2l m_law dL_law_112 K) ?_
        refine Es.via (fun o K => e_bipush (v := 32) m_law dL_law_113 (by decide) K) ?_
        refine Es.via (fun o K => e_lshl m_law dL_law_115 K) ?_
        refine Es.via (fun o K => e_aload_n m_law dL_law_116 rfl hl0 rfl K) ?_
        refine Es.via (fun o K => e_iload m_law dL_law_117 hl4 K) ?_
        refine Es.via (fun o K => e_iconst (v := nI 2) m_law dL_law_119 (by decide) K) ?_
        refine Es.via (fun o K => e_iaddN m_law dL_law_120 K) ?_
        refine Es.via (fun o K => z_xald (j := 3 * j + 2) m_law.z dL_law_121 (nI_clamp (by omega)) (by rw [nI_clamp (by omega)]; exact fun q => q.elim (nI_pos (by omega)) (by omega)) K) ?_
        refine Es.via (fun o K => e_i2l m_law dL_law_122 K) ?_
        refine Es.via (fun o K => z_ldc2 m_law.z dL_law_123 j_RL_27 K) ?_
        refine Es.via (fun o K => e_land m_law dL_law_126 K) ?_
        refine Es.via (fun o K => e_lor m_law dL_law_127 K) ?_
        obtain ⟨v1, v2, h1, h2, c2, N2, cc, zz, fs, R1, R2, hs, G2, b1, b2, b3, q10⟩ := g_addAll (w := (((xs (3 * j + 1)).toInt64 <<< ((32 : Int32).toInt64 &&& 63)) ||| ((xs (3 * j + 2)).toInt64 &&& 4294967295))) (xs := xs) (L := L) (d := 2048 - 1) G hc (by decide)
        refine Es.via (fun o K => e_cv (as := [.long ((((xs (3 * j + 1)).toInt64 <<< ((32 : Int32).toInt64 &&& 63)) ||| ((xs (3 * j + 2)).toInt64 &&& 4294967295)))]) m_law dL_law_128 c_RL_29 (by decide) rfl rfl G.c0 rfl (Nat.le_of_ble_eq_true rfl) (Nat.le_of_ble_eq_true rfl) (by decide) R1 K) ?_
        refine Es.via (fun o K => e_aload_n m_law dL_law_131 rfl hl2 rfl K) ?_
        refine Es.via (fun o K => e_aload_n m_law dL_law_132 rfl hl0 rfl K) ?_
        refine Es.via (fun o K => e_iload m_law dL_law_133 hl4 K) ?_
        refine Es.via (fun o K => e_iconst (v := nI 1) m_law dL_law_135 (by decide) K) ?_
        refine Es.via (fun o K => e_iaddN m_law dL_law_136 K) ?_
        refine Es.via (fun o K => z_xald (j := 3 * j + 1) m_law.z dL_law_137 (nI_clamp (by omega)) (by rw [nI_clamp (by omega)]; exact fun q => q.elim (nI_pos (by omega)) (by omega)) K) ?_
        refine Es.via (fun o K => e_i2l m_law dL_law_138 K) ?_
        refine Es.via (fun o K => e_bipush (v := 32) m_law dL_law_139 (by decide) K) ?_
        refine Es.via (fun o K => e_lshl m_law dL_law_141 K) ?_
        refine Es.via (fun o K => e_aload_n m_law dL_law_142 rfl hl0 rfl K) ?_
        refine Es.via (fun o K => e_iload m_law dL_law_143 hl4 K) ?_
        refine Es.via (fun o K => e_iconst (v := nI 2) m_law dL_law_145 (by decide) K) ?_
        refine Es.via (fun o K => e_iaddN m_law dL_law_146 K) ?_
        refine Es.via (fun o K => z_xald (j := 3 * j + 2) m_law.z dL_law_147 (nI_clamp (by omega)) (by rw [nI_clamp (by omega)]; exact fun q => q.elim (nI_pos (by omega)) (by omega)) K) ?_
        refine Es.via (fun o K => e_i2l m_law dL_law_148 K) ?_
        refine Es.via (fun o K => z_ldc2 m_law.z dL_law_149 j_RL_27 K) ?_
        refine Es.via (fun o K => e_land m_law dL_law_152 K) ?_
        refine Es.via (fun o K => e_lor m_law dL_law_153 K) ?_
        refine Es.via (fun o K => e_cv (as := [.long ((((xs (3 * j + 1)).toInt64 <<< ((32 : Int32).toInt64 &&& 63)) ||| ((xs (3 * j + 2)).toInt64 &&& 4294967295)))]) m_law dL_law_154 c_RL_33 (by decide) rfl rfl q10 rfl (Nat.le_of_ble_eq_true rfl) (Nat.le_of_ble_eq_true rfl) (by decide) R2 K) ?_
        refine Es.via (fun o K => e_icT (t := 281) m_law dL_law_157 (by decide) (decide_eq_true (hs rfl)) K) ?_
        exact next _ _ _ _ _ _ G2 b1 (by omega) (by omega) hl0 hl1 hl2 hl3 hl4
      · refine Es.via (fun o K => e_rw (st' := [.int 2]) (by rw [hw]) (e_table (t := 162) m_law dL_law_39 (by decide +kernel) (Or.inr (by decide +kernel)) K)) ?_
        refine Es.via (fun o K => e_aload_n m_law dL_law_162 rfl hl1 rfl K) ?_
        obtain ⟨v1, v2, h1, h2, c2, N2, cc, zz, fs, R1, R2, hs, G2, b1, b2, b3, q10⟩ := g_build (xs := xs) (L := L) (d := 2048 - 1) G hc (by decide)
        refine Es.via (fun o K => e_cv (as := []) m_law dL_law_163 c_RL_34 (by decide) rfl rfl G.c0 rfl (Nat.le_of_ble_eq_true rfl) (Nat.le_of_ble_eq_true rfl) (by decide) R1 K) ?_
        refine Es.via (fun o K => e_pop m_law dL_law_166 rfl K) ?_
        refine Es.via (fun o K => e_aload_n m_law dL_law_167 rfl hl2 rfl K) ?_
        refine Es.via (fun o K => e_cv (as := []) m_law dL_law_168 c_RL_38 (by decide) rfl rfl q10 rfl (Nat.le_of_ble_eq_true rfl) (Nat.le_of_ble_eq_true rfl) (by decide) R2 K) ?_
        refine Es.via (fun o K => e_pop m_law dL_law_171 rfl K) ?_
        refine Es.via (fun o K => e_goto (t := 281) m_law dL_law_172 (by decide) K) ?_
        exact next _ _ _ _ _ _ G2 b1 (by omega) (by omega) hl0 hl1 hl2 hl3 hl4
      · refine Es.via (fun o K => e_rw (st' := [.int 3]) (by rw [hw]) (e_table (t := 175) m_law dL_law_39 (by decide +kernel) (Or.inr (by decide +kernel)) K)) ?_
        refine Es.via (fun o K => e_aload_n m_law dL_law_175 rfl hl1 rfl K) ?_
        obtain ⟨v1, v2, h1, h2, c2, N2, cc, zz, fs, R1, R2, hs, G2, b1, b2, b3, q10⟩ := g_size (xs := xs) (L := L) (d := 2048 - 1) G hc (by decide)
        refine Es.via (fun o K => e_cv (as := []) m_law dL_law_176 c_RL_39 (by decide) rfl rfl G.c0 rfl (Nat.le_of_ble_eq_true rfl) (Nat.le_of_ble_eq_true rfl) (by decide) R1 K) ?_
        refine Es.via (fun o K => e_pop m_law dL_law_179 rfl K) ?_
        refine Es.via (fun o K => e_aload_n m_law dL_law_180 rfl hl2 rfl K) ?_
        refine Es.via (fun o K => e_cv (as := []) m_law dL_law_181 c_RL_42 (by decide) rfl rfl q10 rfl (Nat.le_of_ble_eq_true rfl) (Nat.le_of_ble_eq_true rfl) (by decide) R2 K) ?_
        refine Es.via (fun o K => e_pop m_law dL_law_184 rfl K) ?_
        refine Es.via (fun o K => e_goto (t := 281) m_law dL_law_185 (by decide) K) ?_
        exact next _ _ _ _ _ _ G2 b1 (by omega) (by omega) hl0 hl1 hl2 hl3 hl4
      · refine Es.via (fun o K => e_rw (st' := [.int 4]) (by rw [hw]) (e_table (t := 188) m_law dL_law_39 (by decide +kernel) (Or.inr (by decide +kernel)) K)) ?_
        refine Es.via (fun o K => e_aload_n m_law dL_law_188 rfl hl1 rfl K) ?_
        obtain ⟨v1, v2, h1, h2, c2, N2, cc, zz, fs, R1, R2, hs, G2, b1, b2, b3, q10⟩ := g_nodes (xs := xs) (L := L) (d := 2048 - 1) G hc (by decide)
        refine Es.via (fun o K => e_cv (as := []) m_law dL_law_189 c_RL_43 (by decide) rfl rfl G.c0 rfl (Nat.le_of_ble_eq_true rfl) (Nat.le_of_ble_eq_true rfl) (by decide) R1 K) ?_
        refine Es.via (fun o K => e_pop m_law dL_law_192 rfl K) ?_
        refine Es.via (fun o K => e_aload_n m_law dL_law_193 rfl hl2 rfl K) ?_
        refine Es.via (fun o K => e_cv (as := []) m_law dL_law_194 c_RL_46 (by decide) rfl rfl q10 rfl (Nat.le_of_ble_eq_true rfl) (Nat.le_of_ble_eq_true rfl) (by decide) R2 K) ?_
        refine Es.via (fun o K => e_pop m_law dL_law_197 rfl K) ?_
        refine Es.via (fun o K => e_goto (t := 281) m_law dL_law_198 (by decide) K) ?_
        exact next _ _ _ _ _ _ G2 b1 (by omega) (by omega) hl0 hl1 hl2 hl3 hl4
      · refine Es.via (fun o K => e_rw (st' := [.int 5]) (by rw [hw]) (e_table (t := 201) m_law dL_law_39 (by decide +kernel) (Or.inr (by decide +kernel)) K)) ?_
        refine Es.via (fun o K => e_aload_n m_law dL_law_201 rfl hl1 rfl K) ?_
        refine Es.via (fun o K => e_aload_n m_law dL_law_202 rfl hl0 rfl K) ?_
        refine Es.via (fun o K => e_iload m_law dL_law_203 hl4 K) ?_
        refine Es.via (fun o K => e_iconst (v := nI 1) m_law dL_law_205 (by decide) K) ?_
        refine Es.via (fun o K => e_iaddN m_law dL_law_206 K) ?_
        refine Es.via (fun o K => z_xald (j := 3 * j + 1) m_law.z dL_law_207 (nI_clamp (by omega)) (by rw [nI_clamp (by omega)]; exact fun q => q.elim (nI_pos (by omega)) (by omega)) K) ?_
        refine Es.via (fun o K => e_aload_n m_law dL_law_208 rfl hl0 rfl K) ?_
        refine Es.via (fun o K => e_iload m_law dL_law_209 hl4 K) ?_
        refine Es.via (fun o K => e_iconst (v := nI 2) m_law dL_law_211 (by decide) K) ?_
        refine Es.via (fun o K => e_iaddN m_law dL_law_212 K) ?_
        refine Es.via (fun o K => z_xald (j := 3 * j + 2) m_law.z dL_law_213 (nI_clamp (by omega)) (by rw [nI_clamp (by omega)]; exact fun q => q.elim (nI_pos (by omega)) (by omega)) K) ?_
        refine Es.via (fun o K => e_aload_n m_law dL_law_214 rfl hl3 rfl K) ?_
        obtain ⟨v1, v2, h1, h2, c2, N2, cc, zz, fs, R1, R2, hs, G2, b1, b2, b3, q10⟩ := g_node (x := xs (3 * j + 1)) (w := xs (3 * j + 2)) (xs := xs) (L := L) (d := 2048 - 1) G hc (by decide)
        refine Es.via (fun o K => e_cs (as := [.ref 0, .int (xs (3 * j + 1)), .int (xs (3 * j + 2)), .ref 28]) m_law dL_law_215 c_RL_47 (by decide) rfl rfl (Nat.le_of_ble_eq_true rfl) (Nat.le_of_ble_eq_true rfl) (by decide) R1 K) ?_
        refine Es.via (fun o K => e_istore m_law dL_law_218 (by decide) rfl K) ?_
        refine Es.via (fun o K => e_aload_n m_law dL_law_220 rfl (lk_mis (by decide) rfl hl2) rfl K) ?_
        refine Es.via (fun o K => e_aload_n m_law dL_law_221 rfl (lk_mis (by decide) rfl hl0) rfl K) ?_
        refine Es.via (fun o K => e_iload m_law dL_law_222 (lk_mis (by decide) rfl hl4) K) ?_
        refine Es.via (fun o K => e_iconst (v := nI 1) m_law dL_law_224 (by decide) K) ?_
        refine Es.via (fun o K => e_iaddN m_law dL_law_225 K) ?_
        refine Es.via (fun o K => z_xald (j := 3 * j + 1) m_law.z dL_law_226 (nI_clamp (by omega)) (by rw [nI_clamp (by omega)]; exact fun q => q.elim (nI_pos (by omega)) (by omega)) K) ?_
        refine Es.via (fun o K => e_aload_n m_law dL_law_227 rfl (lk_mis (by decide) rfl hl0) rfl K) ?_
        refine Es.via (fun o K => e_iload m_law dL_law_228 (lk_mis (by decide) rfl hl4) K) ?_
        refine Es.via (fun o K => e_iconst (v := nI 2) m_law dL_law_230 (by decide) K) ?_
        refine Es.via (fun o K => e_iaddN m_law dL_law_231 K) ?_
        refine Es.via (fun o K => z_xald (j := 3 * j + 2) m_law.z dL_law_232 (nI_clamp (by omega)) (by rw [nI_clamp (by omega)]; exact fun q => q.elim (nI_pos (by omega)) (by omega)) K) ?_
        refine Es.via (fun o K => e_cv (as := [.int (xs (3 * j + 1)), .int (xs (3 * j + 2))]) m_law dL_law_233 c_RL_52 (by decide) rfl rfl q10 rfl (Nat.le_of_ble_eq_true rfl) (Nat.le_of_ble_eq_true rfl) (by decide) R2 K) ?_
        refine Es.via (fun o K => e_istore m_law dL_law_236 (by decide) rfl K) ?_
        refine Es.via (fun o K => e_goto (t := 281) m_law dL_law_238 (by decide) K) ?_
        exact next _ _ _ _ _ _ G2 b1 (by omega) (by omega) (lk_mis (by decide) rfl (lk_mis (by decide) rfl hl0)) (lk_mis (by decide) rfl (lk_mis (by decide) rfl hl1)) (lk_mis (by decide) rfl (lk_mis (by decide) rfl hl2)) (lk_mis (by decide) rfl (lk_mis (by decide) rfl hl3)) (lk_mis (by decide) rfl (lk_mis (by decide) rfl hl4))
      · refine Es.via (fun o K => e_rw (st' := [.int 6]) (by rw [hw]) (e_table (t := 241) m_law dL_law_39 (by decide +kernel) (Or.inr (by decide +kernel)) K)) ?_
        refine Es.via (fun o K => e_aload_n m_law dL_law_241 rfl hl1 rfl K) ?_
        refine Es.via (fun o K => e_aload_n m_law dL_law_242 rfl hl0 rfl K) ?_
        refine Es.via (fun o K => e_iload m_law dL_law_243 hl4 K) ?_
        refine Es.via (fun o K => e_iconst (v := nI 1) m_law dL_law_245 (by decide) K) ?_
        refine Es.via (fun o K => e_iaddN m_law dL_law_246 K) ?_
        refine Es.via (fun o K => z_xald (j := 3 * j + 1) m_law.z dL_law_247 (nI_clamp (by omega)) (by rw [nI_clamp (by omega)]; exact fun q => q.elim (nI_pos (by omega)) (by omega)) K) ?_
        refine Es.via (fun o K => e_aload_n m_law dL_law_248 rfl hl0 rfl K) ?_
        refine Es.via (fun o K => e_iload m_law dL_law_249 hl4 K) ?_
        refine Es.via (fun o K => e_iconst (v := nI 2) m_law dL_law_251 (by decide) K) ?_
        refine Es.via (fun o K => e_iaddN m_law dL_law_252 K) ?_
        refine Es.via (fun o K => z_xald (j := 3 * j + 2) m_law.z dL_law_253 (nI_clamp (by omega)) (by rw [nI_clamp (by omega)]; exact fun q => q.elim (nI_pos (by omega)) (by omega)) K) ?_
        refine Es.via (fun o K => e_aload_n m_law dL_law_254 rfl hl3 rfl K) ?_
        obtain ⟨v1, v2, h1, h2, c2, N2, cc, zz, fs, R1, R2, hs, G2, b1, b2, b3, q10⟩ := g_child (x := xs (3 * j + 1)) (w := xs (3 * j + 2)) (xs := xs) (L := L) (d := 2048 - 1) G hc (by decide)
        refine Es.via (fun o K => e_cs (as := [.ref 0, .int (xs (3 * j + 1)), .int (xs (3 * j + 2)), .ref 28]) m_law dL_law_255 c_RL_53 (by decide) rfl rfl (Nat.le_of_ble_eq_true rfl) (Nat.le_of_ble_eq_true rfl) (by decide) R1 K) ?_
        refine Es.via (fun o K => e_istore m_law dL_law_258 (by decide) rfl K) ?_
        refine Es.via (fun o K => e_aload_n m_law dL_law_260 rfl (lk_mis (by decide) rfl hl2) rfl K) ?_
        refine Es.via (fun o K => e_aload_n m_law dL_law_261 rfl (lk_mis (by decide) rfl hl0) rfl K) ?_
        refine Es.via (fun o K => e_iload m_law dL_law_262 (lk_mis (by decide) rfl hl4) K) ?_
        refine Es.via (fun o K => e_iconst (v := nI 1) m_law dL_law_264 (by decide) K) ?_
        refine Es.via (fun o K => e_iaddN m_law dL_law_265 K) ?_
        refine Es.via (fun o K => z_xald (j := 3 * j + 1) m_law.z dL_law_266 (nI_clamp (by omega)) (by rw [nI_clamp (by omega)]; exact fun q => q.elim (nI_pos (by omega)) (by omega)) K) ?_
        refine Es.via (fun o K => e_aload_n m_law dL_law_267 rfl (lk_mis (by decide) rfl hl0) rfl K) ?_
        refine Es.via (fun o K => e_iload m_law dL_law_268 (lk_mis (by decide) rfl hl4) K) ?_
        refine Es.via (fun o K => e_iconst (v := nI 2) m_law dL_law_270 (by decide) K) ?_
        refine Es.via (fun o K => e_iaddN m_law dL_law_271 K) ?_
        refine Es.via (fun o K => z_xald (j := 3 * j + 2) m_law.z dL_law_272 (nI_clamp (by omega)) (by rw [nI_clamp (by omega)]; exact fun q => q.elim (nI_pos (by omega)) (by omega)) K) ?_
        refine Es.via (fun o K => e_cv (as := [.int (xs (3 * j + 1)), .int (xs (3 * j + 2))]) m_law dL_law_273 c_RL_55 (by decide) rfl rfl q10 rfl (Nat.le_of_ble_eq_true rfl) (Nat.le_of_ble_eq_true rfl) (by decide) R2 K) ?_
        refine Es.via (fun o K => e_istore m_law dL_law_276 (by decide) rfl K) ?_
        refine Es.via (fun o K => e_goto (t := 281) m_law dL_law_278 (by decide) K) ?_
        exact next _ _ _ _ _ _ G2 b1 (by omega) (by omega) (lk_mis (by decide) rfl (lk_mis (by decide) rfl hl0)) (lk_mis (by decide) rfl (lk_mis (by decide) rfl hl1)) (lk_mis (by decide) rfl (lk_mis (by decide) rfl hl2)) (lk_mis (by decide) rfl (lk_mis (by decide) rfl hl3)) (lk_mis (by decide) rfl (lk_mis (by decide) rfl hl4))
      · refine Es.via (fun o K => e_rw (st' := [.int 7]) (by rw [hw]) (e_table (t := 281) m_law dL_law_39 (by decide +kernel) (Or.inl (by decide +kernel)) K)) ?_
        exact next _ _ _ _ _ _ G (by omega) (by omega) (by omega) hl0 hl1 hl2 hl3 hl4
    · refine Es.via (fun o K => e_icT (t := 287) m_law dL_law_29 (by decide) (gt_yes hL q hj1) K) ?_
      refine Es.via (fun o K => e_iconst (v := 1) m_law dL_law_287 (by decide) K) ?_
      exact ⟨_, e_reti m_law dL_law_288 (Or.inr ⟨rfl, by decide⟩), _, _, _, rfl, by omega, by omega⟩
/-- the reference as its constructor leaves it -/
def sm0 : Mm := (0, 0, 0, 0, 0, 0, 0, 1, 0, (fun _ => 0), (fun _ => 0), (fun _ => 0), (fun _ => 1), (fun _ => 1), (fun _ => 1), (fun _ => 1), (fun _ => 0), (fun _ => 0), (fun _ => 0), (fun _ => 0), (fun _ => 0), (fun _ => 0), (fun _ => 0), (fun _ => 0), (fun _ => 0), (fun _ => 0))
theorem tm0 : TM hq0 sm0 = hq0 := rfl
theorem gi0 : Gi hq0 0 1024 := by
  refine ⟨4, 0, 0, fun _ => 0, z0, z0, z0, z0, z0, z0, sm0, fun _ => 0, Ck_of rfl rfl rfl rfl rfl rfl rfl rfl rfl rfl, Or.inl rfl, by decide, by decide, by decide, fun _ => show (0 : Nat) < 128 by decide, tm0, rfl, ⟨Nat.zero_le _, fun i hi => absurd hi (Nat.not_lt_zero _)⟩, ⟨fun k => ⟨show (0 : Nat) < 2 by decide, show (0 : Nat) < 2 by decide, show (0 : Nat) < 2 by decide⟩, fun k => show (0 : Nat) < 256 by decide, Or.inl rfl⟩, rfl⟩
