/-! What holds between two calls of the law; each call keeps it. -/
theorem cM_len {s : Mm} : (cM s).length = 18 := rfl
theorem sL_in {s : Mm} {k : Nat} {e : mm_E} (h : sL (cM s) k = some e) : 10 ≤ k ∧ k < 28 := by
  unfold sL at h
  by_cases q : k < 10
  · rw [if_pos q] at h; cases h
  · rw [if_neg q] at h
    have h9 := List.getElem?_eq_some_iff.mp h
    obtain ⟨h7, -⟩ := h9
    rw [cM_len] at h7
    omega
theorem sL_out {s : Mm} {k : Nat} (h : ¬ (10 ≤ k ∧ k < 28)) : sL (cM s) k = none := by
  cases q : sL (cM s) k with
  | none => rfl
  | some e => exact absurd (sL_in q) h
theorem TM_fr {h : mm_H} {s : Mm} {k : Nat} (hk : ¬ (10 ≤ k ∧ k < 28)) : (TM h s)[k]? = h[k]? := hp_get0 (sL_out hk)
theorem TM_len {h : mm_H} {s : Mm} : (TM h s).length = h.length := hp_len
theorem Pm_fr {h h' : mm_H} {s : Mm} (e : TM h s = h) (hl : 29 ≤ h.length) (fr : ∀ k, 10 ≤ k → k < 29 → h'[k]? = h[k]?) : TM h' s = h' := hp_eq (fun k x hs => by
  have h9 := sL_in hs
  rw [fr k h9.1 (by omega)]
  have h8 : (TM h s)[k]? = some x := hp_get (by omega) hs
  rw [e] at h8
  exact h8)
theorem Pm_id {h : mm_H} {s : Mm} (hl : 29 ≤ h.length) : TM (TM h s) s = TM h s := hp_eq (fun k x hs => hp_get (by have := sL_in hs; omega) hs)
theorem Ck_TM {h : mm_H} {s : Mm} {a N : Nat} {cnt us nb : Int32} {kf f1 f2 f3 f4 f5 f6 : Nat → Int32} (C : Ck h a N cnt us nb kf f1 f2 f3 f4 f5 f6) (h4 : a = 4 ∨ 29 ≤ a) : Ck (TM h s) a N cnt us nb kf f1 f2 f3 f4 f5 f6 := fun k e hs => by
  have h9 := sK_len hs
  rw [TM_fr (by omega)]
  exact C k e hs
/-- what holds of the heap between two calls: c tokens, rows of N -/
def Gi (h : mm_H) (c N : Nat) : Prop := ∃ (a : Nat) (us nb : Int32) (ks : Nat → Nat) (f1 f2 f3 f4 f5 f6 : Nat → Int32) (s : Mm) (g : Nat → Int64), Ck h a N (nI c) us nb (rN ks) f1 f2 f3 f4 f5 f6 ∧ (a = 4 ∨ 29 ≤ a) ∧ 29 ≤ h.length ∧ 0 < N ∧ N ≤ 20000 ∧ (∀ i, ks i < 128) ∧ TM h s = h ∧ m_ct s = c ∧ Tk s ∧ Fin6 s ∧ h[28]? = some (.inl (3, 1, .inr (.inl g)))
theorem Gi.c0 {h : mm_H} {c N : Nat} (G : Gi h c N) : h[0]? = some (.inr (3, [.ref 1, .ref 3])) := by
  obtain ⟨a, us, nb, ks, f1, f2, f3, f4, f5, f6, s, g, C, h4, -⟩ := G
  exact (C.of4 (by omega)).1
/-- a call of the class, then the same of the reference -/
def Gc (xs : Nat → Int32) (L d m1 m2 : Nat) (as1 as2 : List Value) (h : mm_H) (c N : Nat) (same : Bool) : Prop := ∃ (v1 v2 : Int32) (h1 h2 : mm_H) (c' N' cc zz : Nat) (fs : List Value), Rn xs L d m1 as1 h (.inl (some (.int v1)), h1, cc, zz) ∧ Rn xs L d m2 as2 h1 (.inl (some (.int v2)), h2, 0, 0) ∧ (same = true → v1 = v2) ∧ Gi h2 c' N' ∧ c' ≤ c + 8 ∧ cc ≤ 10 ∧ zz + 12 * N ≤ 12 * N' + 210 ∧ h1[10]? = some (.inr (4, fs))
theorem TM_10 {h : mm_H} {s : Mm} (e : TM h s = h) (hl : 29 ≤ h.length) : ∃ fs, h[10]? = some (.inr (4, fs)) := by
  have h9 := gM_m (h0 := h) (s := s) (by unfold Mg; omega)
  rw [e] at h9
  exact ⟨_, h9⟩
section CALLS
variable {xs : Nat → Int32} {L d : Nat} {h : mm_H} {c N : Nat}
/-- the reference's part, behind a class that left the reference's cells -/
theorem Gc_mk {m1 m2 : Nat} {as1 as2 : List Value} {same : Bool} {s : Mm} {v1 v2 us nb : Int32} {h1 : mm_H} {a N' c' cc zz : Nat} {ks : Nat → Nat} {f1 f2 f3 f4 f5 f6 : Nat → Int32} {s' : Mm} {g g' : Nat → Int64} (hl : 29 ≤ h.length) (e : TM h s = h) (hg : h[28]? = some (.inl (3, 1, .inr (.inl g))))
    (R1 : Rn xs L d m1 as1 h (.inl (some (.int v1)), h1, cc, zz)) (C : Ck h1 a N' (nI c') us nb (rN ks) f1 f2 f3 f4 f5 f6) (h4 : a = 4 ∨ 29 ≤ a) (hl1 : 29 ≤ h1.length) (hN : 0 < N') (hN2 : N' ≤ 20000) (hks : ∀ i, ks i < 128) (fr : ∀ k, 10 ≤ k → k < 28 → h1[k]? = h[k]?) (hg1 : h1[28]? = some (.inl (3, 1, .inr (.inl g'))))
    (R2 : Rn xs L d m2 as2 (TM h1 s) (.inl (some (.int v2)), TM h1 s', 0, 0)) (hs : same = true → v1 = v2) (hct : m_ct s' = c') (hT : Tk s') (hF : Fin6 s') (hc : c' ≤ c + 8) (hcc : cc ≤ 10) (hzz : zz + 12 * N ≤ 12 * N' + 210) : Gc xs L d m1 m2 as1 as2 h c N same := by
  have e1 : TM h1 s = h1 := hp_eq (fun k x hs => by
    have h9 := sL_in hs
    rw [fr k h9.1 h9.2]
    have h8 : (TM h s)[k]? = some x := hp_get (by omega) hs
    rw [e] at h8
    exact h8)
  rw [e1] at R2
  obtain ⟨fs, q10⟩ := TM_10 e1 hl1
  refine ⟨v1, v2, h1, TM h1 s', c', N', cc, zz, fs, R1, R2, hs, ⟨a, us, nb, ks, f1, f2, f3, f4, f5, f6, s', g', Ck_TM C h4, h4, by rw [TM_len]; exact hl1, hN, hN2, hks, Pm_id hl1, hct, hT, hF, ?_⟩, hc, hcc, hzz, q10⟩
  rw [TM_fr (by omega)]; exact hg1
theorem g_add {x : Int32} (G : Gi h c N) (hc : c ≤ 4096) (hd : 100 ≤ d) : Gc xs L d 3 124 [.ref 0, .int x] [.ref 10, .int x] h c N true := by
  obtain ⟨a, us, nb, ks, f1, f2, f3, f4, f5, f6, s, g, C, h4, hl, hN, hN2, hks, e, hct, hT, hF, hg⟩ := G
  have hK := Ck_hk C (by omega) (by omega)
  have e0 := HK_eq C
  have fr : ∀ cnt' kf', ∀ k, 10 ≤ k → k < 29 → (HK h a N cnt' us nb kf' f1 f2 f3 f4 f5 f6)[k]? = h[k]? := fun _ _ k k1 k2 => HK_fr (by omega)
  have lh : ∀ cnt' kf', 29 ≤ (HK h a N cnt' us nb kf' f1 f2 f3 f4 f5 f6).length := fun _ _ => by rw [HK_len]; exact hl
  by_cases hx : exB x = 0
  · have R1 := t_add0 (xs := xs) (L := L) (d := d) (h0 := h) (a := a) (N := N) (us := us) (nb := nb) (f1 := f1) (f2 := f2) (f3 := f3) (f4 := f4) (f5 := f5) (f6 := f6) (c := c) (ks := ks) hx (by omega)
    rw [e0] at R1
    exact Gc_mk hl e hg R1 C h4 hl hN hN2 hks (fun k _ _ => rfl) hg (u_add0 (by unfold Mg; omega) hx (by omega)) (fun _ => rfl) hct hT hF (by omega) (by omega) (by omega)
  · obtain ⟨v, v0, v1, rfl⟩ := ex_nat hx
    have R1 := t_add1 (xs := xs) (L := L) (d := d) (h0 := h) (a := a) (N := N) (us := us) (nb := nb) (f1 := f1) (f2 := f2) (f3 := f3) (f4 := f4) (f5 := f5) (f6 := f6) (c := c) (ks := ks) hK hx v1 (by omega) (by omega)
    rw [e0] at R1
    refine Gc_mk hl e hg R1 (Ck_HK hK) h4 (lh _ _) hN hN2 (fun i => ?_) (fun k k1 k2 => fr _ _ k k1 (by omega)) (by rw [fr _ _ 28 (by omega) (by omega)]; exact hg) (u_add1 (by unfold Mg; exact Nat.le_trans (by decide) (lh _ _)) hx v1 (by omega) (by omega)) (fun _ => rfl) (show m_ct s + 1 = c + 1 by omega) ⟨show m_ct s + 1 ≤ 16384 by omega, fun i hi => ?_⟩ hF (by omega) (by omega) (by omega)
    · unfold upN; split
      · exact v1
      · exact hks i
    · have hi : i < m_ct s + 1 := hi
      show upN (m_kd s) (m_ct s) v i ≠ 0 ∧ upN (m_kd s) (m_ct s) v i < 128
      unfold upN; split
      · exact ⟨by omega, v1⟩
      · exact hT.2 i (by omega)
theorem g_addAll {w : Int64} (G : Gi h c N) (hc : c ≤ 4096) (hd : 100 ≤ d) : Gc xs L d 7 126 [.ref 0, .long w] [.ref 10, .long w] h c N true := by
  obtain ⟨a, us, nb, ks, f1, f2, f3, f4, f5, f6, s, g, C, h4, hl, hN, hN2, hks, e, hct, hT, hF, hg⟩ := G
  have hK := Ck_hk C (by omega) (by omega)
  have e0 := HK_eq C
  have fr : ∀ cnt' kf', ∀ k, 10 ≤ k → k < 29 → (HK h a N cnt' us nb kf' f1 f2 f3 f4 f5 f6)[k]? = h[k]? := fun _ _ k k1 k2 => HK_fr (by omega)
  have lh : ∀ cnt' kf', 29 ≤ (HK h a N cnt' us nb kf' f1 f2 f3 f4 f5 f6).length := fun _ _ => by rw [HK_len]; exact hl
  cases hs : sc w 8 0 with
  | none => exact Gc_mk hl e hg (t_addAll0 (by omega) hs) C h4 hl hN hN2 hks (fun k _ _ => rfl) hg (u_addAll0 (by unfold Mg; omega) (by omega) hs) (fun _ => rfl) hct hT hF (by omega) (by omega) (by omega)
  | some r =>
    have hk := sc_kb w 8 0 r hs
    have R1 := t_addAll1 (xs := xs) (L := L) (d := d) (h0 := h) (a := a) (N := N) (us := us) (nb := nb) (f1 := f1) (f2 := f2) (f3 := f3) (f4 := f4) (f5 := f5) (f6 := f6) (c := c) (ks := ks) hK (by omega) hs (by omega)
    rw [e0] at R1
    have l1 := ap_le w 8 (c, ks)
    have l2 := ap_fst w 8 (m_ct s, m_kd s) (c, ks) hct
    have l3 : (c, ks).1 = c := rfl
    rw [l3] at l1
    exact Gc_mk hl e hg R1 (Ck_HK hK) h4 (lh _ _) hN hN2 (ap_lt w 8 (c, ks) hk hks) (fun k k1 k2 => fr _ _ k k1 (by omega)) (by rw [fr _ _ 28 (by omega) (by omega)]; exact hg) (u_addAll1 (by unfold Mg; exact Nat.le_trans (by decide) (lh _ _)) (by omega) hs (by omega)) (fun _ => rfl) l2 ⟨show (ap w 8 (m_ct s, m_kd s)).1 ≤ 16384 by omega, ap_nz w 8 (m_ct s, m_kd s) hk hT.2⟩ hF l1.1 (by omega) (by omega)
theorem g_build (G : Gi h c N) (hc : c ≤ 4096) (hd : 700 ≤ d) : Gc xs L d 9 128 [.ref 0] [.ref 10] h c N false := by
  obtain ⟨a, us, nb, ks, f1, f2, f3, f4, f5, f6, s, g, C, h4, hl, hN, hN2, hks, e, hct, hT, hF, hg⟩ := G
  obtain ⟨_, R1, v, us', nb', g1, g2, g3, g4, g5, g6, h', a', N', cc, zz, rfl, C', h4', n1, n2, n3, n4, n5, fr⟩ := t_build (xs := xs) (L := L) (d := d) C h4 hl hc hN hN2 hks (by omega)
  have e1 := Pm_fr e hl fr
  obtain ⟨v2, s', R2, F2, ct2⟩ := u_build (xs := xs) (L := L) (d := d) (h0 := h') (s := s) (by unfold Mg; omega) hT (by omega) hF (by omega)
  exact Gc_mk hl e hg R1 C' h4' (by omega) n1 n2 hks (fun k k1 k2 => fr k k1 (by omega)) (by rw [fr 28 (by omega) (by omega)]; exact hg) R2 (fun q => by cases q) ct2 ⟨by omega, fun i hi => by omega⟩ F2 (by omega) (by omega) (by omega)
theorem g_size (G : Gi h c N) (hc : c ≤ 4096) (hd : 100 ≤ d) : Gc xs L d 113 127 [.ref 0] [.ref 10] h c N true := by
  obtain ⟨a, us, nb, ks, f1, f2, f3, f4, f5, f6, s, g, C, h4, hl, hN, hN2, hks, e, hct, hT, hF, hg⟩ := G
  have hK := Ck_hk C (by omega) (by omega)
  have e0 := HK_eq C
  obtain ⟨_, R1, rfl⟩ := t_size (xs := xs) (L := L) (d := d) (cnt := nI c) (us := us) (nb := nb) (kf := rN ks) (f1 := f1) (f2 := f2) (f3 := f3) (f4 := f4) (f5 := f5) (f6 := f6) hK (by omega)
  rw [e0] at R1
  have R2 := u_size (xs := xs) (L := L) (d := d) (h0 := h) (s := s) (by unfold Mg; omega) (by omega)
  exact Gc_mk hl e hg R1 C h4 hl hN hN2 hks (fun k _ _ => rfl) hg R2 (fun _ => by rw [hct]) hct hT hF (by omega) (by omega) (by omega)
theorem g_nodes (G : Gi h c N) (hc : c ≤ 4096) (hd : 100 ≤ d) : Gc xs L d 114 219 [.ref 0] [.ref 10] h c N false := by
  obtain ⟨a, us, nb, ks, f1, f2, f3, f4, f5, f6, s, g, C, h4, hl, hN, hN2, hks, e, hct, hT, hF, hg⟩ := G
  have hK := Ck_hk C (by omega) (by omega)
  have e0 := HK_eq C
  obtain ⟨_, R1, v, rfl⟩ := t_nodes (xs := xs) (L := L) (d := d) (cnt := nI c) (us := us) (nb := nb) (kf := rN ks) (f1 := f1) (f2 := f2) (f3 := f3) (f4 := f4) (f5 := f5) (f6 := f6) hK (by omega)
  rw [e0] at R1
  exact Gc_mk hl e hg R1 C h4 hl hN hN2 hks (fun k _ _ => rfl) hg (u_nodes (by unfold Mg; omega) (by omega)) (fun q => by cases q) hct hT hF (by omega) (by omega) (by omega)
theorem z_last {mi pc : Nat} {ls : mm_L} {st : List Value} {cc zz : Nat} {o : mm_R} {own nm : String} {code : ByteArray} {nL : Nat} {rt : Option FieldType} {a n : Nat} {f : Nat → Int64} {v : Int64} {i : Int32} {h' : mm_H} (hm : Iz mi own code nL rt nm) (hd : decode code pc = .ok (.lastore, 1)) (hc : h[a]? = some (.inl (3, n, .inr (.inl f)))) (hi : ¬ (i < 0 ∨ n ≤ i.toNatClampNeg)) (hh : h.set a (.inl (3, n, .inr (.inl (vp_updL f i.toNatClampNeg v)))) = h') (K : Ev xs L d mi (pc + 1) ls st h' cc zz o) : Ev xs L d mi pc ls (.long v :: .int i :: .ref a :: st) h cc zz o := by
  obtain ⟨me, h1, rfl, rfl, rfl, rfl, rfl⟩ := hm
  subst hh
  refine Ev.act h1 hd ?_ K
  simp only [mm_act, if_true, mm_ast, hc]
  rw [if_pos ⟨rfl, trivial, hi⟩]
  rfl
theorem t_Lnode {x w : Int32} {a : Nat} {us nb : Int32} {kf f1 f2 f3 f4 f5 f6 : Nat → Int32} {cnt : Int32} {g : Nat → Int64} (C : Ck h a N cnt us nb kf f1 f2 f3 f4 f5 f6) (h4 : a = 4 ∨ 29 ≤ a) (hl : 29 ≤ h.length) (hN2 : N ≤ 20000) (hg : h[28]? = some (.inl (3, 1, .inr (.inl g)))) (hd : 100 ≤ d) : ∃ (v : Int32) (h1 : mm_H) (g' : Nat → Int64) (cc zz : Nat), Rn xs L d 115 [.ref 0, .int x, .int w, .ref 28] h (.inl (some (.int v)), h1, cc, zz) ∧ cc ≤ 1 ∧ zz ≤ 6 ∧ h1.length = h.length ∧ (∀ k, k ≠ 28 → h1[k]? = h[k]?) ∧ h1[28]? = some (.inl (3, 1, .inr (.inl g'))) := by
  have hK := Ck_hk C (by omega) (by omega)
  have e0 := HK_eq C
  have E := t_node (xs := xs) (L := L) (d := d - 1) (x := x) (w := w) (cnt := cnt) (us := us) (nb := nb) (kf := kf) (f1 := f1) (f2 := f2) (f3 := f3) (f4 := f4) (f5 := f5) (f6 := f6) hK (by omega)
  obtain ⟨c0, -, -, -⟩ := C.of4 (by omega)
  have M : Es xs L d 115 0 (lv_args 0 [.ref 0, .int x, .int w, .ref 28]) [] h 0 0 (fun o => ∃ (v : Int32) (h1 : mm_H) (g' : Nat → Int64) (cc zz : Nat), o = (.inl (some (.int v)), h1, cc, zz) ∧ cc ≤ 1 ∧ zz ≤ 6 ∧ h1.length = h.length ∧ (∀ k, k ≠ 28 → h1[k]? = h[k]?) ∧ h1[28]? = some (.inl (3, 1, .inr (.inl g')))) := by
    refine Es.via (fun o K => z_aload_n y_L_node dL_node_0 rfl rfl rfl K) ?_
    refine Es.via (fun o K => z_iconst (v := 0) y_L_node dL_node_1 (by decide) K) ?_
    refine Es.via (fun o K => z_aload_n y_L_node dL_node_2 rfl rfl rfl K) ?_
    refine Es.via (fun o K => z_iload_n y_L_node dL_node_3 rfl rfl K) ?_
    refine Es.via (fun o K => z_iload_n y_L_node dL_node_4 rfl rfl K) ?_
    obtain ⟨_, R, ⟨v, rfl⟩ | rfl⟩ := E
    · rw [e0] at R
      refine Es.via (fun o K => z_cv (as := [.int x, .int w]) y_L_node dL_node_5 c_RL_7 (by decide) rfl rfl c0 rfl (Nat.le_of_ble_eq_true rfl) (Nat.le_of_ble_eq_true rfl) (by omega) R K) ?_
      refine Es.via (fun o K => z_i2l y_L_node dL_node_8 K) ?_
      refine Es.via (fun o K => z_last y_L_node dL_node_9 hg (by decide +kernel) rfl K) ?_
      refine Es.via (fun o K => z_goto (t := 17) y_L_node dL_node_10 (by decide) K) ?_
      refine Es.via (fun o K => z_iconst (v := 0) y_L_node dL_node_17 (by decide) K) ?_
      refine ⟨_, z_reti y_L_node dL_node_18 (Or.inl rfl), _, _, vp_updL g (0 : Int32).toNatClampNeg v.toInt64, _, _, rfl, by omega, by omega, List.length_set, fun k hk => ?_, ?_⟩
      · rw [List.getElem?_set, if_neg (by omega)]
      · rw [List.getElem?_set, if_pos rfl, if_pos (by omega)]
    · rw [e0] at R
      refine Es.via (fun o K => z_cvC (pc' := 15) (k := 4) (as := [.int x, .int w]) (rfl : mm_all[115]? = some _) dL_node_5 c_RL_7 (by decide) rfl rfl c0 rfl (Nat.le_of_ble_eq_true rfl) (Nat.le_of_ble_eq_true rfl) (by omega) (by decide) (by decide +kernel) R K) ?_
      refine Es.via (fun o K => z_iconst (v := 1) y_L_node dL_node_15 (by decide) K) ?_
      exact ⟨_, z_reti y_L_node dL_node_16 (Or.inl rfl), _, _, g, _, _, rfl, by omega, by omega, rfl, fun k _ => rfl, hg⟩
  obtain ⟨_, R, v, h1, g', cc, zz, rfl, q⟩ := M
  exact ⟨v, h1, g', cc, zz, R, q⟩
theorem g_node {x w : Int32} (G : Gi h c N) (hc : c ≤ 4096) (hd : 100 ≤ d) : Gc xs L d 115 220 [.ref 0, .int x, .int w, .ref 28] [.ref 10, .int x, .int w] h c N false := by
  obtain ⟨a, us, nb, ks, f1, f2, f3, f4, f5, f6, s, g, C, h4, hl, hN, hN2, hks, e, hct, hT, hF, hg⟩ := G
  obtain ⟨v, h1, g', cc, zz, R1, q1, q2, q3, q4, q5⟩ := t_Lnode (xs := xs) (L := L) (d := d) (x := x) (w := w) C h4 hl hN2 hg hd
  have C1 : Ck h1 a N (nI c) us nb (rN ks) f1 f2 f3 f4 f5 f6 := fun k x hs => by
    have h9 := sK_len hs
    rw [q4 k (by omega)]
    exact C k x hs
  obtain ⟨_, R2, v2, s', rfl, F2, ct2, kd2⟩ := u_node (xs := xs) (L := L) (d := d) (h0 := h1) (s := s) (x := x) (w := w) (by unfold Mg; omega) hF (by omega)
  exact Gc_mk hl e hg R1 C1 h4 (by omega) hN hN2 hks (fun k k1 k2 => q4 k (by omega)) q5 R2 (fun q => by cases q) (by rw [ct2]; exact hct) ⟨by rw [ct2]; exact hT.1, fun i hi => by rw [kd2]; exact hT.2 i (by rw [ct2] at hi; exact hi)⟩ F2 (by omega) (by omega) (by omega)
theorem t_Lchild {x w : Int32} {a : Nat} {us nb : Int32} {kf f1 f2 f3 f4 f5 f6 : Nat → Int32} {cnt : Int32} {g : Nat → Int64} (C : Ck h a N cnt us nb kf f1 f2 f3 f4 f5 f6) (h4 : a = 4 ∨ 29 ≤ a) (hl : 29 ≤ h.length) (hN2 : N ≤ 20000) (hg : h[28]? = some (.inl (3, 1, .inr (.inl g)))) (hd : 100 ≤ d) : ∃ (v : Int32) (h1 : mm_H) (g' : Nat → Int64) (cc zz : Nat), Rn xs L d 121 [.ref 0, .int x, .int w, .ref 28] h (.inl (some (.int v)), h1, cc, zz) ∧ cc ≤ 1 ∧ zz ≤ 6 ∧ h1.length = h.length ∧ (∀ k, k ≠ 28 → h1[k]? = h[k]?) ∧ h1[28]? = some (.inl (3, 1, .inr (.inl g'))) := by
  have hK := Ck_hk C (by omega) (by omega)
  have e0 := HK_eq C
  have E := t_child (xs := xs) (L := L) (d := d - 1) (x := x) (w := w) (cnt := cnt) (us := us) (nb := nb) (kf := kf) (f1 := f1) (f2 := f2) (f3 := f3) (f4 := f4) (f5 := f5) (f6 := f6) hK (by omega)
  obtain ⟨c0, -, -, -⟩ := C.of4 (by omega)
  have M : Es xs L d 121 0 (lv_args 0 [.ref 0, .int x, .int w, .ref 28]) [] h 0 0 (fun o => ∃ (v : Int32) (h1 : mm_H) (g' : Nat → Int64) (cc zz : Nat), o = (.inl (some (.int v)), h1, cc, zz) ∧ cc ≤ 1 ∧ zz ≤ 6 ∧ h1.length = h.length ∧ (∀ k, k ≠ 28 → h1[k]? = h[k]?) ∧ h1[28]? = some (.inl (3, 1, .inr (.inl g')))) := by
    refine Es.via (fun o K => z_aload_n y_L_child dL_child_0 rfl rfl rfl K) ?_
    refine Es.via (fun o K => z_iconst (v := 0) y_L_child dL_child_1 (by decide) K) ?_
    refine Es.via (fun o K => z_aload_n y_L_child dL_child_2 rfl rfl rfl K) ?_
    refine Es.via (fun o K => z_iload_n y_L_child dL_child_3 rfl rfl K) ?_
    refine Es.via (fun o K => z_iload_n y_L_child dL_child_4 rfl rfl K) ?_
    obtain ⟨_, R, ⟨v, rfl⟩ | rfl⟩ := E
    · rw [e0] at R
      refine Es.via (fun o K => z_cv (as := [.int x, .int w]) y_L_child dL_child_5 c_RL_15 (by decide) rfl rfl c0 rfl (Nat.le_of_ble_eq_true rfl) (Nat.le_of_ble_eq_true rfl) (by omega) R K) ?_
      refine Es.via (fun o K => z_i2l y_L_child dL_child_8 K) ?_
      refine Es.via (fun o K => z_last y_L_child dL_child_9 hg (by decide +kernel) rfl K) ?_
      refine Es.via (fun o K => z_goto (t := 17) y_L_child dL_child_10 (by decide) K) ?_
      refine Es.via (fun o K => z_iconst (v := 0) y_L_child dL_child_17 (by decide) K) ?_
      refine ⟨_, z_reti y_L_child dL_child_18 (Or.inl rfl), _, _, vp_updL g (0 : Int32).toNatClampNeg v.toInt64, _, _, rfl, by omega, by omega, List.length_set, fun k hk => ?_, ?_⟩
      · rw [List.getElem?_set, if_neg (by omega)]
      · rw [List.getElem?_set, if_pos rfl, if_pos (by omega)]
    · rw [e0] at R
      refine Es.via (fun o K => z_cvC (pc' := 15) (k := 4) (as := [.int x, .int w]) (rfl : mm_all[121]? = some _) dL_child_5 c_RL_15 (by decide) rfl rfl c0 rfl (Nat.le_of_ble_eq_true rfl) (Nat.le_of_ble_eq_true rfl) (by omega) (by decide) (by decide +kernel) R K) ?_
      refine Es.via (fun o K => z_iconst (v := 1) y_L_child dL_child_15 (by decide) K) ?_
      exact ⟨_, z_reti y_L_child dL_child_16 (Or.inl rfl), _, _, g, _, _, rfl, by omega, by omega, rfl, fun k _ => rfl, hg⟩
  obtain ⟨_, R, v, h1, g', cc, zz, rfl, q⟩ := M
  exact ⟨v, h1, g', cc, zz, R, q⟩
theorem g_child {x w : Int32} (G : Gi h c N) (hc : c ≤ 4096) (hd : 100 ≤ d) : Gc xs L d 121 222 [.ref 0, .int x, .int w, .ref 28] [.ref 10, .int x, .int w] h c N false := by
  obtain ⟨a, us, nb, ks, f1, f2, f3, f4, f5, f6, s, g, C, h4, hl, hN, hN2, hks, e, hct, hT, hF, hg⟩ := G
  obtain ⟨v, h1, g', cc, zz, R1, q1, q2, q3, q4, q5⟩ := t_Lchild (xs := xs) (L := L) (d := d) (x := x) (w := w) C h4 hl hN2 hg hd
  have C1 : Ck h1 a N (nI c) us nb (rN ks) f1 f2 f3 f4 f5 f6 := fun k x hs => by
    have h9 := sK_len hs
    rw [q4 k (by omega)]
    exact C k x hs
  obtain ⟨_, R2, v2, s', rfl, F2, ct2, kd2⟩ := u_child (xs := xs) (L := L) (d := d) (h0 := h1) (s := s) (x := x) (w := w) (by unfold Mg; omega) hF (by omega)
  exact Gc_mk hl e hg R1 C1 h4 (by omega) hN hN2 hks (fun k k1 k2 => q4 k (by omega)) q5 R2 (fun q => by cases q) (by rw [ct2]; exact hct) ⟨by rw [ct2]; exact hT.1, fun i hi => by rw [kd2]; exact hT.2 i (by rw [ct2] at hi; exact hi)⟩ F2 (by omega) (by omega) (by omega)
end CALLS
