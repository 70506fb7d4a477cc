/-! The law at that script, over the small machine: it returns 0. -/
/-- the reference with its tokens, before its first build -/
def sX (p : Nat × (Nat → Nat)) : Mm := (0, p.1, 0, 0, 0, 0, 0, 1, 0, p.2, (fun _ => 0), (fun _ => 0), (fun _ => 1), (fun _ => 1), (fun _ => 1), (fun _ => 1), (fun _ => 0), (fun _ => 0), (fun _ => 0), (fun _ => 0), (fun _ => 0), (fun _ => 0), (fun _ => 0), (fun _ => 0), (fun _ => 0), (fun _ => 0))
/-- both with the same tokens, before the first build -/
def Gx (h : mm_H) (p : Nat × (Nat → Nat)) : Prop := Ck h 4 1024 (nI p.1) 0 0 (rN p.2) z0 z0 z0 z0 z0 z0 ∧ 29 ≤ h.length ∧ TM h (sX p) = h
theorem gx0 : Gx hq0 (0, fun _ => 0) := ⟨Ck_of rfl rfl rfl rfl rfl rfl rfl rfl rfl rfl, by decide, rfl⟩
theorem gx_addAll {xs : Nat → Int32} {L d : Nat} {h : mm_H} {p : Nat × (Nat → Nat)} {w : Int64} {r : Nat} (G : Gx h p) (hs : sc w 8 0 = some r) (hc : p.1 ≤ 4096) (hd : 100 ≤ d) : ∃ (h1 h2 : mm_H) (fs : List Value), Rn xs L d 7 [.ref 0, .long w] h (.inl (some (.int 1)), h1, 0, 0) ∧ Rn xs L d 127 [.ref 10, .long w] h1 (.inl (some (.int 1)), h2, 0, 0) ∧ Gx h2 (ap w 8 p) ∧ h[0]? = some (.inr (3, [.ref 1, .ref 3])) ∧ h1[10]? = some (.inr (4, fs)) := by
  obtain ⟨C, hl, e⟩ := G
  have hK := Ck_hk C (by omega) (by omega)
  have R1 := t_addAll1 (xs := xs) (L := L) (d := d) (h0 := h) (a := 4) (N := 1024) (us := 0) (nb := 0) (f1 := z0) (f2 := z0) (f3 := z0) (f4 := z0) (f5 := z0) (f6 := z0) (c := p.1) (ks := p.2) hK (by omega) hs (by omega)
  rw [HK_eq C] at R1
  generalize hh : HK h 4 1024 (nI (ap w 8 (p.1, p.2)).1) 0 0 (rN (ap w 8 (p.1, p.2)).2) z0 z0 z0 z0 z0 z0 = h1 at R1
  have C1 : Ck h1 4 1024 (nI (ap w 8 p).1) 0 0 (rN (ap w 8 p).2) z0 z0 z0 z0 z0 z0 := by rw [← hh]; exact Ck_HK hK
  have l1 : 29 ≤ h1.length := by rw [← hh, HK_len]; exact hl
  have fr : ∀ k, 10 ≤ k → k < 29 → h1[k]? = h[k]? := fun k k1 k2 => by rw [← hh]; exact HK_fr (by omega)
  have e1 := Pm_fr e hl fr
  have R2 := u_addAll1 (xs := xs) (L := L) (d := d) (h0 := h1) (s := sX p) (by unfold Mg; omega) (by omega) hs (show p.1 + 8 ≤ 16384 by omega)
  rw [e1] at R2
  obtain ⟨fs, q10⟩ := TM_10 e1 l1
  have eS : w_ct (w_kd (w_th (sX p) 0) (ap w 8 (m_ct (sX p), m_kd (sX p))).2) (ap w 8 (m_ct (sX p), m_kd (sX p))).1 = sX (ap w 8 p) := rfl
  rw [eS] at R2
  exact ⟨h1, TM h1 (sX (ap w 8 p)), fs, R1, R2, ⟨Ck_TM C1 (Or.inl rfl), by rw [TM_len]; exact l1, Pm_id l1⟩, (C.of4 (by omega)).1, q10⟩
/-- the script -/
def rf_l : List Int32 := [1, 453072148, 21909330, 1, 387206735, 1375818323, 1, 1397641042, 1397970176, 2, 0, 0, 5, 0, 0]
def rf_x : Nat → Int32 := fun j => rf_l.getD j 0
def wF (a b : Int32) : Int64 := (a.toInt64 <<< ((32 : Int32).toInt64 &&& 63)) ||| (b.toInt64 &&& 4294967295)
def rf_0 : Nat × (Nat → Nat) := (0, fun _ => 0)
def rf_1 : Nat × (Nat → Nat) := ap (wF 453072148 21909330) 8 rf_0
theorem rf_s1 : sc (wF 453072148 21909330) 8 0 = some 8 := by decide +kernel
theorem rf_c1 : rf_1.1 = 8 := by decide +kernel
theorem rf_b1 : ∀ i, rf_1.2 i < 128 := ap_lt _ 8 _ (sc_kb _ 8 0 8 rf_s1) (fun _ => show (0 : Nat) < 128 by decide)
def rf_2 : Nat × (Nat → Nat) := ap (wF 387206735 1375818323) 8 rf_1
theorem rf_s2 : sc (wF 387206735 1375818323) 8 0 = some 8 := by decide +kernel
theorem rf_c2 : rf_2.1 = 16 := by decide +kernel
theorem rf_b2 : ∀ i, rf_2.2 i < 128 := ap_lt _ 8 _ (sc_kb _ 8 0 8 rf_s2) rf_b1
def rf_3 : Nat × (Nat → Nat) := ap (wF 1397641042 1397970176) 8 rf_2
theorem rf_s3 : sc (wF 1397641042 1397970176) 8 0 = some 7 := by decide +kernel
theorem rf_c3 : rf_3.1 = 23 := by decide +kernel
theorem rf_b3 : ∀ i, rf_3.2 i < 128 := ap_lt _ 8 _ (sc_kb _ 8 0 7 rf_s3) rf_b2
def rf_oC (r : Rs Ss) : Nat := match r with
  | some (.inr s) => 1000 + s_at s + 1000000 * s_nb s
  | some (.inl _) => 2
  | none => 1
theorem rf_oC_of {r : Rs Ss} (h : rf_oC r = 1014) : ∃ s', r = some (.inr s') ∧ s_at s' = 14 ∧ s_nb s' = 0 := by
  match r with
  | some (.inr s) =>
    have h : 1000 + s_at s + 1000000 * s_nb s = 1014 := h
    exact ⟨s, rfl, by omega, by omega⟩
  | some (.inl _) => have h : (2 : Nat) = 1014 := h; omega
  | none => have h : (1 : Nat) = 1014 := h; omega
/-- what the class's parser says of these tokens: the error is token 14 -/
theorem rf_evC : rf_oC (Pf (kA 23 rf_3.2) 1024 500 14 0 0 (s00 z0 z0 z0 z0 z0 z0)) = 1014 := by decide +kernel
def rf_oN (r : Rs Mm) : Nat := match r with
  | some (.inr _) => 4
  | some (.inl (_, s)) => 1000 + m_th s
  | none => 3
def rf_oM (r : Rs Mm) : Nat := match r with
  | some (.inr _) => 2
  | some (.inl (_, s)) => rf_oN (b_X6_node 0 0 s)
  | none => 1
theorem rf_oN_of {r : Rs Mm} (h : rf_oN r = 1000) : ∃ v s', r = some (.inl (v, s')) ∧ m_th s' = 0 := by
  match r with
  | some (.inl (v, s)) => have h : 1000 + m_th s = 1000 := h; exact ⟨v, s, rfl, by omega⟩
  | some (.inr _) => have h : (4 : Nat) = 1000 := h; omega
  | none => have h : (3 : Nat) = 1000 := h; omega
theorem rf_oM_of {r : Rs Mm} (h : rf_oM r = 1000) : ∃ v s' v2 s2, r = some (.inl (v, s')) ∧ b_X6_node 0 0 s' = some (.inl (v2, s2)) ∧ m_th s2 = 0 := by
  match r with
  | some (.inl (v, s)) =>
    obtain ⟨v2, s2, h1, h2⟩ := rf_oN_of (r := b_X6_node 0 0 s) h
    exact ⟨v, s, v2, s2, rfl, h1, h2⟩
  | some (.inr _) => have h : (2 : Nat) = 1000 := h; omega
  | none => have h : (1 : Nat) = 1000 := h; omega
/-- the reference has that node, or child, then -/
theorem rf_evM : rf_oM (b_X6_build (sX rf_3)) = 1000 := by decide +kernel
theorem rf_gt {j : Nat} (h : 3 * j + 3 ≤ 15) : mm_cond .gt (nI (3 * j)) (Int32.ofNat 15 - nI 3) = false := by
  rw [show Int32.ofNat 15 = nI 15 from rfl, nI_sub (by omega)]
  exact decide_eq_false (by rw [nI_ltI (by omega) (by omega)]; omega)
theorem rf_in {k : Nat} (h : k < 15) : ¬ (nI k < 0 ∨ 15 ≤ (nI k).toNatClampNeg) := by
  rw [nI_clamp (by omega)]; exact fun q => q.elim (nI_pos (by omega)) (by omega)
/-- one round of the law's loop over addAll -/
theorem rf_it {j : Nat} {h : mm_H} {p : Nat × (Nat → Nat)} {ls : mm_L} {C Z r : Nat} {Q : mm_R → Prop} (hj : 3 * j + 3 ≤ 15) (h7 : rf_x (3 * j) &&& 7 = 1) (hs : sc (wF (rf_x (3 * j + 1)) (rf_x (3 * j + 2))) 8 0 = some r) (G : Gx h p) (hp : p.1 ≤ 4096) (hl0 : mm_lk ls 0 = some (.retAddr 0)) (hl1 : mm_lk ls 1 = some (.ref 0)) (hl2 : mm_lk ls 2 = some (.ref 10)) (hl3 : mm_lk ls 3 = some (.ref 28)) (hl4 : mm_lk ls 4 = some (.int (nI (3 * j))))
    (next : ∀ (h2 : mm_H) (ls2 : mm_L), Gx h2 (ap (wF (rf_x (3 * j + 1)) (rf_x (3 * j + 2))) 8 p) → mm_lk ls2 0 = some (.retAddr 0) → mm_lk ls2 1 = some (.ref 0) → mm_lk ls2 2 = some (.ref 10) → mm_lk ls2 3 = some (.ref 28) → mm_lk ls2 4 = some (.int (nI (3 * (j + 1)))) → Es rf_x 15 2048 224 23 ls2 [] h2 C Z Q) : Es rf_x 15 2048 224 23 ls [] h C Z Q := by
  obtain ⟨h1, h2, fs, R1, R2, G2, q0, q10⟩ := gx_addAll (xs := rf_x) (L := 15) (d := 2048 - 1) G hs hp (by decide)
  refine Es.via (fun o K => e_iload m_law dL_law_23 hl4 K) ?_
  refine Es.via (fun o K => e_aload_n m_law dL_law_25 rfl hl0 rfl K) ?_
  refine Es.via (fun o K => z_xlen m_law.z dL_law_26 K) ?_
  refine Es.via (fun o K => e_iconst (v := nI 3) m_law dL_law_27 (by decide) K) ?_
  refine Es.via (fun o K => e_isub m_law dL_law_28 K) ?_
  refine Es.via (fun o K => e_icF (t := 315) m_law dL_law_29 (by decide) (rf_gt (j := j) (by omega)) K) ?_
  refine Es.via (fun o K => e_aload_n m_law dL_law_32 rfl hl0 rfl K) ?_
  refine Es.via (fun o K => e_iload m_law dL_law_33 hl4 K) ?_
  refine Es.via (fun o K => z_xald (j := 3 * j) m_law.z dL_law_35 (nI_clamp (by omega)) (rf_in (by omega)) K) ?_
  refine Es.via (fun o K => e_bipush (v := 7) m_law dL_law_36 (by decide) K) ?_
  refine Es.via (fun o K => e_iand m_law dL_law_38 K) ?_
  refine Es.via (fun o K => e_rw (st' := [.int 1]) (by rw [h7]) (e_table (t := 105) m_law dL_law_39 (by decide +kernel) (Or.inr (by decide +kernel)) K)) ?_
  refine Es.via (fun o K => e_aload_n m_law dL_law_105 rfl hl1 rfl K) ?_
  refine Es.via (fun o K => e_aload_n m_law dL_law_106 rfl hl0 rfl K) ?_
  refine Es.via (fun o K => e_iload m_law dL_law_107 hl4 K) ?_
  refine Es.via (fun o K => e_iconst (v := nI 1) m_law dL_law_109 (by decide) K) ?_
  refine Es.via (fun o K => e_iaddN m_law dL_law_110 K) ?_
  refine Es.via (fun o K => z_xald (j := 3 * j + 1) m_law.z dL_law_111 (nI_clamp (by omega)) (rf_in (by omega)) K) ?_
  refine Es.via (fun o K => e_i2l m_law dL_law_112 K) ?_
  refine Es.via (fun o K => e_bipush (v := 32) m_law dL_law_113 (by decide) K) ?_
  refine Es.via (fun o K => e_lshl m_law dL_law_115 K) ?_
  refine Es.via (fun o K => e_aload_n m_law dL_law_116 rfl hl0 rfl K) ?_
  refine Es.via (fun o K => e_iload m_law dL_law_117 hl4 K) ?_
  refine Es.via (fun o K => e_iconst (v := nI 2) m_law dL_law_119 (by decide) K) ?_
  refine Es.via (fun o K => e_iaddN m_law dL_law_120 K) ?_
  refine Es.via (fun o K => z_xald (j := 3 * j + 2) m_law.z dL_law_121 (nI_clamp (by omega)) (rf_in (by omega)) K) ?_
  refine Es.via (fun o K => e_i2l m_law dL_law_122 K) ?_
  refine Es.via (fun o K => z_ldc2 m_law.z dL_law_123 j_RL_27 K) ?_
  refine Es.via (fun o K => e_land m_law dL_law_126 K) ?_
  refine Es.via (fun o K => e_lor m_law dL_law_127 K) ?_
  refine Es.via (fun o K => e_cv (as := [.long (wF (rf_x (3 * j + 1)) (rf_x (3 * j + 2)))]) m_law dL_law_128 c_RL_29 (by decide) rfl rfl q0 rfl (Nat.le_of_ble_eq_true rfl) (Nat.le_of_ble_eq_true rfl) (by decide) R1 K) ?_
  refine Es.via (fun o K => e_pop m_law dL_law_131 rfl K) ?_
  refine Es.via (fun o K => e_aload_n m_law dL_law_132 rfl hl2 rfl K) ?_
  refine Es.via (fun o K => e_aload_n m_law dL_law_133 rfl hl0 rfl K) ?_
  refine Es.via (fun o K => e_iload m_law dL_law_134 hl4 K) ?_
  refine Es.via (fun o K => e_iconst (v := nI 1) m_law dL_law_136 (by decide) K) ?_
  refine Es.via (fun o K => e_iaddN m_law dL_law_137 K) ?_
  refine Es.via (fun o K => z_xald (j := 3 * j + 1) m_law.z dL_law_138 (nI_clamp (by omega)) (rf_in (by omega)) K) ?_
  refine Es.via (fun o K => e_i2l m_law dL_law_139 K) ?_
  refine Es.via (fun o K => e_bipush (v := 32) m_law dL_law_140 (by decide) K) ?_
  refine Es.via (fun o K => e_lshl m_law dL_law_142 K) ?_
  refine Es.via (fun o K => e_aload_n m_law dL_law_143 rfl hl0 rfl K) ?_
  refine Es.via (fun o K => e_iload m_law dL_law_144 hl4 K) ?_
  refine Es.via (fun o K => e_iconst (v := nI 2) m_law dL_law_146 (by decide) K) ?_
  refine Es.via (fun o K => e_iaddN m_law dL_law_147 K) ?_
  refine Es.via (fun o K => z_xald (j := 3 * j + 2) m_law.z dL_law_148 (nI_clamp (by omega)) (rf_in (by omega)) K) ?_
  refine Es.via (fun o K => e_i2l m_law dL_law_149 K) ?_
  refine Es.via (fun o K => z_ldc2 m_law.z dL_law_150 j_RL_27 K) ?_
  refine Es.via (fun o K => e_land m_law dL_law_153 K) ?_
  refine Es.via (fun o K => e_lor m_law dL_law_154 K) ?_
  refine Es.via (fun o K => e_cv (as := [.long (wF (rf_x (3 * j + 1)) (rf_x (3 * j + 2)))]) m_law dL_law_155 c_RL_33 (by decide) rfl rfl q10 rfl (Nat.le_of_ble_eq_true rfl) (Nat.le_of_ble_eq_true rfl) (by decide) R2 K) ?_
  refine Es.via (fun o K => e_pop m_law dL_law_158 rfl K) ?_
  refine Es.via (fun o K => e_goto (t := 309) m_law dL_law_159 (by decide) K) ?_
  refine Es.via (fun o K => e_iincN (n := 3) m_law dL_law_309 (by decide) hl4 rfl K) ?_
  refine Es.via (fun o K => e_goto (t := 23) m_law dL_law_312 (by decide) K) ?_
  exact next _ _ G2 (lk_mis (by decide) rfl hl0) (lk_mis (by decide) rfl hl1) (lk_mis (by decide) rfl hl2) (lk_mis (by decide) rfl hl3) (by rw [show 3 * (j + 1) = 3 * j + 3 by omega]; exact lk_hit)
/-- the law at its build -/
theorem rf_bld {h : mm_H} {ls : mm_L} {C Z : Nat} {P : mm_R → Prop} (G : Gx h rf_3) (hl0 : mm_lk ls 0 = some (.retAddr 0)) (hl1 : mm_lk ls 1 = some (.ref 0)) (hl2 : mm_lk ls 2 = some (.ref 10)) (hl3 : mm_lk ls 3 = some (.ref 28)) (hl4 : mm_lk ls 4 = some (.int (nI (3 * 3))))
    (next : ∀ (h2 : mm_H) (ls2 : mm_L) (C2 Z2 : Nat) (t' : Mm) (us' : Int32) (kf f1 f2 f3 f4 f5 f6 : Nat → Int32), Ck h2 4 1024 (nI 0) us' (nI 0) kf f1 f2 f3 f4 f5 f6 → 29 ≤ h2.length → TM h2 t' = h2 → (∃ v2 s2, b_X6_node 0 0 t' = some (.inl (v2, s2)) ∧ m_th s2 = 0) → C2 ≤ C + 10 → Z2 ≤ Z + 200 → mm_lk ls2 0 = some (.retAddr 0) → mm_lk ls2 1 = some (.ref 0) → mm_lk ls2 2 = some (.ref 10) → mm_lk ls2 3 = some (.ref 28) → mm_lk ls2 4 = some (.int (nI (3 * (3 + 1)))) → Es rf_x 15 2048 224 23 ls2 [] h2 C2 Z2 P) : Es rf_x 15 2048 224 23 ls [] h C Z P := by
  obtain ⟨CC, hl, e⟩ := G
  rw [rf_c3] at CC
  obtain ⟨s', hr, hat, hnb⟩ := rf_oC_of rf_evC
  obtain ⟨_, R1, h1, cc, zz, rfl, w1, w2, l1, fr, us', kf, f1, f2, f3, f4, f5, f6, C1⟩ := t_buildX (xs := rf_x) (L := 15) (d := 2048 - 1) CC hl (by decide) (by decide) rf_b3 (by decide) hr hat hnb
  have e1 := Pm_fr e hl fr
  obtain ⟨v', t', v2, s2, hM, hN2, hth⟩ := rf_oM_of rf_evM
  have R2 := w_X6_build (xs := rf_x) (L := 15) (h0 := h1) (s := sX rf_3) (d := 2048 - 1) (by unfold Mg; omega) (by decide) (by rw [hM]; exact fun q => by cases q)
  rw [e1, hM] at R2
  obtain ⟨fs, q10⟩ := TM_10 e1 l1
  refine Es.via (fun o K => e_iload m_law dL_law_23 hl4 K) ?_
  refine Es.via (fun o K => e_aload_n m_law dL_law_25 rfl hl0 rfl K) ?_
  refine Es.via (fun o K => z_xlen m_law.z dL_law_26 K) ?_
  refine Es.via (fun o K => e_iconst (v := nI 3) m_law dL_law_27 (by decide) K) ?_
  refine Es.via (fun o K => e_isub m_law dL_law_28 K) ?_
  refine Es.via (fun o K => e_icF (t := 315) m_law dL_law_29 (by decide) (rf_gt (j := 3) (by omega)) K) ?_
  refine Es.via (fun o K => e_aload_n m_law dL_law_32 rfl hl0 rfl K) ?_
  refine Es.via (fun o K => e_iload m_law dL_law_33 hl4 K) ?_
  refine Es.via (fun o K => z_xald (j := 3 * 3) m_law.z dL_law_35 (nI_clamp (by omega)) (rf_in (by omega)) K) ?_
  refine Es.via (fun o K => e_bipush (v := 7) m_law dL_law_36 (by decide) K) ?_
  refine Es.via (fun o K => e_iand m_law dL_law_38 K) ?_
  refine Es.via (fun o K => e_rw (st' := [.int 2]) (by rw [show rf_x (3 * 3) &&& 7 = 2 by decide +kernel]) (e_table (t := 162) m_law dL_law_39 (by decide +kernel) (Or.inr (by decide +kernel)) K)) ?_
  refine Es.via (fun o K => e_aload_n m_law dL_law_162 rfl hl1 rfl K) ?_
  refine Es.via (fun o K => e_cv (as := []) m_law dL_law_163 c_RL_34 (by decide) rfl rfl (CC.of4 (by decide)).1 rfl (Nat.le_of_ble_eq_true rfl) (Nat.le_of_ble_eq_true rfl) (by decide) R1 K) ?_
  refine Es.via (fun o K => e_pop m_law dL_law_166 rfl K) ?_
  refine Es.via (fun o K => e_aload_n m_law dL_law_167 rfl hl2 rfl K) ?_
  refine Es.via (fun o K => e_cv (as := []) m_law dL_law_168 c_RL_38 (by decide) rfl rfl q10 rfl (Nat.le_of_ble_eq_true rfl) (Nat.le_of_ble_eq_true rfl) (by decide) R2 K) ?_
  refine Es.via (fun o K => e_pop m_law dL_law_171 rfl K) ?_
  refine Es.via (fun o K => e_goto (t := 309) m_law dL_law_172 (by decide) K) ?_
  refine Es.via (fun o K => e_iincN (n := 3) m_law dL_law_309 (by decide) hl4 rfl K) ?_
  refine Es.via (fun o K => e_goto (t := 23) m_law dL_law_312 (by decide) K) ?_
  exact next _ _ _ _ t' us' kf f1 f2 f3 f4 f5 f6 (Ck_TM C1 (Or.inl rfl)) (by rw [TM_len]; exact l1) (Pm_id l1) ⟨v2, s2, hN2, hth⟩ (by omega) (by omega) (lk_mis (by decide) rfl hl0) (lk_mis (by decide) rfl hl1) (lk_mis (by decide) rfl hl2) (lk_mis (by decide) rfl hl3) (by rw [show 3 * (3 + 1) = 3 * 3 + 3 by omega]; exact lk_hit)
/-- the law at its last call: the answers differ -/
theorem rf_last {h : mm_H} {ls : mm_L} {C Z : Nat} {t' : Mm} {us' : Int32} {kf f1 f2 f3 f4 f5 f6 : Nat → Int32} (CC : Ck h 4 1024 (nI 0) us' (nI 0) kf f1 f2 f3 f4 f5 f6) (hl : 29 ≤ h.length) (e : TM h t' = h) (hN : ∃ v2 s2, b_X6_node 0 0 t' = some (.inl (v2, s2)) ∧ m_th s2 = 0) (hl0 : mm_lk ls 0 = some (.retAddr 0)) (hl1 : mm_lk ls 1 = some (.ref 0)) (hl2 : mm_lk ls 2 = some (.ref 10)) (hl3 : mm_lk ls 3 = some (.ref 28)) (hl4 : mm_lk ls 4 = some (.int (nI (3 * (3 + 1))))) : Es rf_x 15 2048 224 23 ls [] h C Z (fun o => ∃ (h' : mm_H) (C' Z' : Nat), o = (.inl (some (.int 0)), h', C', Z') ∧ C' ≤ C + 10 ∧ Z' ≤ Z + 100) := by
  obtain ⟨fs, q10⟩ := TM_10 e hl
  obtain ⟨c0, c1, c2, c3⟩ := CC.of4 (by decide)
  obtain ⟨cc, zz, R1, w1, w2⟩ := t_LnodeX (xs := rf_x) (L := 15) (d := 2048 - 1) CC (by decide)
  obtain ⟨v2, s2, hN2, hth⟩ := hN
  have R2 := w_X6_node (xs := rf_x) (L := 15) (h0 := h) (x1 := 0) (x2 := 0) (s := t') (d := 2048 - 1) (by unfold Mg; omega) (by decide) (by rw [hN2]; exact fun q => by cases q)
  rw [e, hN2] at R2
  have l2 : 29 ≤ (TM h s2).length := by rw [TM_len]; exact hl
  have e2 : TM (TM h s2) s2 = TM h s2 := Pm_id hl
  obtain ⟨fs2, q11⟩ := TM_10 e2 l2
  have R3 : Rn rf_x 15 (2048 - 1) 124 [.ref 10] (TM h s2) (.inl (some (.int (nI (m_th s2)))), TM h s2, 0, 0) := w_X6_thrown (by unfold Mg; omega) (by decide) (fun h => by cases h)
  rw [hth] at R3
  refine Es.via (fun o K => e_iload m_law dL_law_23 hl4 K) ?_
  refine Es.via (fun o K => e_aload_n m_law dL_law_25 rfl hl0 rfl K) ?_
  refine Es.via (fun o K => z_xlen m_law.z dL_law_26 K) ?_
  refine Es.via (fun o K => e_iconst (v := nI 3) m_law dL_law_27 (by decide) K) ?_
  refine Es.via (fun o K => e_isub m_law dL_law_28 K) ?_
  refine Es.via (fun o K => e_icF (t := 315) m_law dL_law_29 (by decide) (rf_gt (j := (3 + 1)) (by omega)) K) ?_
  refine Es.via (fun o K => e_aload_n m_law dL_law_32 rfl hl0 rfl K) ?_
  refine Es.via (fun o K => e_iload m_law dL_law_33 hl4 K) ?_
  refine Es.via (fun o K => z_xald (j := 3 * (3 + 1)) m_law.z dL_law_35 (nI_clamp (by omega)) (rf_in (by omega)) K) ?_
  refine Es.via (fun o K => e_bipush (v := 7) m_law dL_law_36 (by decide) K) ?_
  refine Es.via (fun o K => e_iand m_law dL_law_38 K) ?_
  refine Es.via (fun o K => e_rw (st' := [.int 5]) (by rw [show rf_x (3 * (3 + 1)) &&& 7 = 5 by decide +kernel]) (e_table (t := 201) m_law dL_law_39 (by decide +kernel) (Or.inr (by decide +kernel)) K)) ?_
  refine Es.via (fun o K => e_aload_n m_law dL_law_201 rfl hl1 rfl K) ?_
  refine Es.via (fun o K => e_aload_n m_law dL_law_202 rfl hl0 rfl K) ?_
  refine Es.via (fun o K => e_iload m_law dL_law_203 hl4 K) ?_
  refine Es.via (fun o K => e_iconst (v := nI 1) m_law dL_law_205 (by decide) K) ?_
  refine Es.via (fun o K => e_iaddN m_law dL_law_206 K) ?_
  refine Es.via (fun o K => z_xald (j := 3 * (3 + 1) + 1) m_law.z dL_law_207 (nI_clamp (by omega)) (rf_in (by omega)) K) ?_
  refine Es.via (fun o K => e_aload_n m_law dL_law_208 rfl hl0 rfl K) ?_
  refine Es.via (fun o K => e_iload m_law dL_law_209 hl4 K) ?_
  refine Es.via (fun o K => e_iconst (v := nI 2) m_law dL_law_211 (by decide) K) ?_
  refine Es.via (fun o K => e_iaddN m_law dL_law_212 K) ?_
  refine Es.via (fun o K => z_xald (j := 3 * (3 + 1) + 2) m_law.z dL_law_213 (nI_clamp (by omega)) (rf_in (by omega)) K) ?_
  refine Es.via (fun o K => e_aload_n m_law dL_law_214 rfl hl3 rfl K) ?_
  refine Es.via (fun o K => e_cs (as := [.ref 0, .int (rf_x (3 * (3 + 1) + 1)), .int (rf_x (3 * (3 + 1) + 2)), .ref 28]) m_law dL_law_215 c_RL_47 (by decide) rfl rfl (Nat.le_of_ble_eq_true rfl) (Nat.le_of_ble_eq_true rfl) (by decide) R1 K) ?_
  refine Es.via (fun o K => e_istore m_law dL_law_218 (by decide) rfl K) ?_
  refine Es.via (fun o K => e_aload_n m_law dL_law_220 rfl (lk_mis (by decide) rfl hl2) rfl K) ?_
  refine Es.via (fun o K => e_aload_n m_law dL_law_221 rfl (lk_mis (by decide) rfl hl0) rfl K) ?_
  refine Es.via (fun o K => e_iload m_law dL_law_222 (lk_mis (by decide) rfl hl4) K) ?_
  refine Es.via (fun o K => e_iconst (v := nI 1) m_law dL_law_224 (by decide) K) ?_
  refine Es.via (fun o K => e_iaddN m_law dL_law_225 K) ?_
  refine Es.via (fun o K => z_xald (j := 3 * (3 + 1) + 1) m_law.z dL_law_226 (nI_clamp (by omega)) (rf_in (by omega)) K) ?_
  refine Es.via (fun o K => e_aload_n m_law dL_law_227 rfl (lk_mis (by decide) rfl hl0) rfl K) ?_
  refine Es.via (fun o K => e_iload m_law dL_law_228 (lk_mis (by decide) rfl hl4) K) ?_
  refine Es.via (fun o K => e_iconst (v := nI 2) m_law dL_law_230 (by decide) K) ?_
  refine Es.via (fun o K => e_iaddN m_law dL_law_231 K) ?_
  refine Es.via (fun o K => z_xald (j := 3 * (3 + 1) + 2) m_law.z dL_law_232 (nI_clamp (by omega)) (rf_in (by omega)) K) ?_
  refine Es.via (fun o K => e_cv (as := [.int (rf_x (3 * (3 + 1) + 1)), .int (rf_x (3 * (3 + 1) + 2))]) m_law dL_law_233 c_RL_52 (by decide) rfl rfl q10 rfl (Nat.le_of_ble_eq_true rfl) (Nat.le_of_ble_eq_true rfl) (by decide) R2 K) ?_
  refine Es.via (fun o K => e_istore m_law dL_law_236 (by decide) rfl K) ?_
  refine Es.via (fun o K => e_aload_n m_law dL_law_238 rfl (lk_mis (by decide) rfl (lk_mis (by decide) rfl hl2)) rfl K) ?_
  refine Es.via (fun o K => e_cv (as := []) m_law dL_law_239 c_RL_53 (by decide) rfl rfl q11 rfl (Nat.le_of_ble_eq_true rfl) (Nat.le_of_ble_eq_true rfl) (by decide) R3 K) ?_
  refine Es.via (fun o K => e_iload m_law dL_law_242 (lk_mis (by decide) rfl lk_hit) K) ?_
  refine Es.via (fun o K => e_icF (t := 249) m_law dL_law_244 (by decide) (by decide +kernel) K) ?_
  refine Es.via (fun o K => e_iconst (v := 0) m_law dL_law_247 (by decide) K) ?_
  exact ⟨_, e_reti m_law dL_law_248 (Or.inr ⟨rfl, by decide⟩), _, _, _, rfl, by omega, by omega⟩
/-- the small machine at the script: the law returns 0 -/
theorem rf_run : ∃ (n : Nat) (h' : mm_H) (c' z' : Nat), mm_ev rf_x 15 n 2048 224 0 [(0, .retAddr 0)] [] [] 0 0 = some (.inl (some (.int 0)), h', c', z') ∧ c' ≤ 601024 ∧ z' ≤ 7293034 := by
  have S : Es rf_x 15 2048 224 23 (lsQ 0) [] hq0 29 641320 (fun o => ∃ (h' : mm_H) (C' Z' : Nat), o = (.inl (some (.int 0)), h', C', Z') ∧ C' ≤ 1000 ∧ Z' ≤ 700000) := by
    refine rf_it (j := 0) (p := rf_0) (r := 8) (by decide) (by decide +kernel) rf_s1 gx0 (by decide) rfl rfl rfl rfl rfl (fun h0 ls0 G0 k00 k01 k02 k03 k04 => ?_)
    refine rf_it (j := 1) (p := rf_1) (r := 8) (by decide) (by decide +kernel) rf_s2 G0 (by rw [rf_c1]; decide) k00 k01 k02 k03 k04 (fun h1 ls1 G1 k10 k11 k12 k13 k14 => ?_)
    refine rf_it (j := 2) (p := rf_2) (r := 7) (by decide) (by decide +kernel) rf_s3 G1 (by rw [rf_c2]; decide) k10 k11 k12 k13 k14 (fun h2 ls2 G2 k20 k21 k22 k23 k24 => ?_)
    refine rf_bld G2 k20 k21 k22 k23 k24 (fun h9 ls9 C9 Z9 t9 us9 kf f1 f2 f3 f4 f5 f6 CC hl e hp w1 w2 m0 m1 m2 m3 m4 => ?_)
    exact Es.imp (rf_last CC hl e hp m0 m1 m2 m3 m4) (fun o q => by obtain ⟨h', C', Z', rfl, q1, q2⟩ := q; exact ⟨h', C', Z', rfl, by omega, by omega⟩)
  obtain ⟨_, K, h', c', z', rfl, hc, hz⟩ := S
  obtain ⟨n, e⟩ := k_law (by decide) K
  exact ⟨n, h', c', z', e, by omega, by omega⟩
