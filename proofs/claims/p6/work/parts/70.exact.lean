/-! The calls at the script at which the statement is false, exactly. -/
theorem cM_len {s : Mm} : (cM s).length = 18 := rfl
theorem sL_in {s : Mm} {k : Nat} {e : mm_E} (h : sL (cM s) k = some e) : 10 ≤ k ∧ k < 28 := by
  unfold sL at h
  by_cases q : k < 10
  · rw [if_pos q] at h; cases h
  · rw [if_neg q] at h
    have h9 := List.getElem?_eq_some_iff.mp h
    obtain ⟨h7, -⟩ := h9
    rw [cM_len] at h7
    omega
theorem sL_out {s : Mm} {k : Nat} (h : ¬ (10 ≤ k ∧ k < 28)) : sL (cM s) k = none := by
  cases q : sL (cM s) k with
  | none => rfl
  | some e => exact absurd (sL_in q) h
theorem TM_fr {h : mm_H} {s : Mm} {k : Nat} (hk : ¬ (10 ≤ k ∧ k < 28)) : (TM h s)[k]? = h[k]? := hp_get0 (sL_out hk)
theorem TM_len {h : mm_H} {s : Mm} : (TM h s).length = h.length := hp_len
theorem Pm_fr {h h' : mm_H} {s : Mm} (e : TM h s = h) (hl : 29 ≤ h.length) (fr : ∀ k, 10 ≤ k → k < 29 → h'[k]? = h[k]?) : TM h' s = h' := hp_eq (fun k x hs => by
  have h9 := sL_in hs
  rw [fr k h9.1 (by omega)]
  have h8 : (TM h s)[k]? = some x := hp_get (by omega) hs
  rw [e] at h8
  exact h8)
theorem Pm_id {h : mm_H} {s : Mm} (hl : 29 ≤ h.length) : TM (TM h s) s = TM h s := hp_eq (fun k x hs => hp_get (by have := sL_in hs; omega) hs)
theorem Ck_TM {h : mm_H} {s : Mm} {a N : Nat} {cnt us nb : Int32} {kf f1 f2 f3 f4 f5 f6 : Nat → Int32} (C : Ck h a N cnt us nb kf f1 f2 f3 f4 f5 f6) (h4 : a = 4 ∨ 29 ≤ a) : Ck (TM h s) a N cnt us nb kf f1 f2 f3 f4 f5 f6 := fun k e hs => by
  have h9 := sK_len hs
  rw [TM_fr (by omega)]
  exact C k e hs
theorem TM_10 {h : mm_H} {s : Mm} (e : TM h s = h) (hl : 29 ≤ h.length) : ∃ fs, h[10]? = some (.inr (4, fs)) := by
  have h9 := gM_m (h0 := h) (s := s) (by unfold Mg; omega)
  rw [e] at h9
  exact ⟨_, h9⟩
theorem t_btailE {xs : Nat → Int32} {L d : Nat} {T : mm_H} {a N c c9 z9 : Nat} {us nb x : Int32} {kf f1 f2 f3 f4 f5 f6 : Nat → Int32} {ls : mm_L} (hl0 : mm_lk ls 0 = some (.ref 0)) (hl2 : mm_lk ls 2 = some (.int x)) (C : Ck T a N (nI c) us nb kf f1 f2 f3 f4 f5 f6) (h4 : a = 4 ∨ 29 ≤ a) (hN : N ≤ 20000) (q : mm_cond .eq x (-1) = false) : Es xs L d 9 45 ls [] T c9 z9 (fun o => ∃ h' : mm_H, o = (.inl (some (.int (-1 - x))), h', c9, z9) ∧ Ck h' a N (nI 0) us nb kf f1 f2 f3 f4 f5 f6 ∧ h'.length = T.length ∧ ∀ k, 10 ≤ k → k < 29 → h'[k]? = T[k]?) := by
  have hK := Ck_hk C (by omega) (by omega)
  have e0 := HK_eq C
  refine Es.via (h' := HK T a N (nI c) us nb kf f1 f2 f3 f4 f5 f6) (fun o K => by rw [← e0]; exact K) ?_
  refine Es.via (fun o K => z_aload_n y_X5_build dX5_build_45 rfl hl0 rfl K) ?_
  refine Es.via (fun o K => z_getf y_X5_build dX5_build_46 f_RX5_10 (gK_0 hK) rfl K) ?_
  refine Es.via (fun o K => z_iconst (v := nI 0) y_X5_build dX5_build_49 (by decide) K) ?_
  refine Es.via (fun o K => z_putf (h' := HK T a N (nI 0) us nb kf f1 f2 f3 f4 f5 f6) y_X5_build dX5_build_50 f_RX5_40 (gK_1 hK) (Nat.le_of_ble_eq_true rfl) (fit_i rfl) rfl (sK_1 hK) K) ?_
  refine Es.via (fun o K => z_iload_n y_X5_build dX5_build_53 rfl hl2 K) ?_
  refine Es.via (fun o K => z_iconst (v := -1) y_X5_build dX5_build_54 (by decide) K) ?_
  refine Es.via (fun o K => z_icmp (t := 62) y_X5_build dX5_build_55 (by decide) (fun q9 => absurd (q9.symm.trans q) (by decide)) (fun _ => K)) ?_
  refine Es.via (fun o K => z_iconst (v := -1) y_X5_build dX5_build_58 (by decide) K) ?_
  refine Es.via (fun o K => z_iload_n y_X5_build dX5_build_59 rfl hl2 K) ?_
  refine Es.via (fun o K => z_isub y_X5_build dX5_build_60 K) ?_
  exact ⟨_, z_reti y_X5_build dX5_build_61 (Or.inl rfl), _, rfl, Ck_HK hK, HK_len, fun k k1 k2 => HK_fr (by omega)⟩
theorem t_beginX {xs : Nat → Int32} {L d : Nat} {h : mm_H} {a N c : Nat} {us nb : Int32} {kf f1 f2 f3 f4 f5 f6 : Nat → Int32} (C : Ck h a N (nI c) us nb kf f1 f2 f3 f4 f5 f6) (h4 : a = 4 ∨ 29 ≤ a) (hN : N ≤ 20000) (q : 2 * c ≤ N) : Es xs L d 10 0 (lv_args 0 [.ref 3, .int (nI c)]) [] h 0 0 (fun o => ∃ h1 : mm_H, o = (.inl none, h1, 0, 0) ∧ Ck h1 a N (nI c) 0 0 kf f1 f2 f3 f4 f5 f6 ∧ h1.length = h.length ∧ ∀ k, 10 ≤ k → k < 29 → h1[k]? = h[k]?) := by
  have hK := Ck_hk C (by omega) (by omega)
  have e0 := HK_eq C
  refine Es.via (h' := HK h a N (nI c) us nb kf f1 f2 f3 f4 f5 f6) (fun o K => by rw [← e0]; exact K) ?_
  refine Es.via (fun o K => e_aload_n m_X3_beginFor dX3_beginFor_0 rfl rfl rfl K) ?_
  refine Es.via (fun o K => e_iconst (v := 0) m_X3_beginFor dX3_beginFor_1 (by decide) K) ?_
  refine Es.via (fun o K => e_putf (h' := HK h a N (nI c) 0 nb kf f1 f2 f3 f4 f5 f6) m_X3_beginFor dX3_beginFor_2 f_RX3_30 (gK_3 hK) (Nat.le_of_ble_eq_true rfl) (fit_i rfl) rfl (sK_3 hK) K) ?_
  refine Es.via (fun o K => e_aload_n m_X3_beginFor dX3_beginFor_5 rfl rfl rfl K) ?_
  refine Es.via (fun o K => e_iconst (v := 0) m_X3_beginFor dX3_beginFor_6 (by decide) K) ?_
  refine Es.via (fun o K => e_putf (h' := HK h a N (nI c) 0 0 kf f1 f2 f3 f4 f5 f6) m_X3_beginFor dX3_beginFor_7 f_RX3_34 (gK_3 hK) (Nat.le_of_ble_eq_true rfl) (fit_i rfl) rfl (sK_3 hK) K) ?_
  refine Es.via (fun o K => e_iconst (v := 2) m_X3_beginFor dX3_beginFor_10 (by decide) K) ?_
  refine Es.via (fun o K => e_iload_n m_X3_beginFor dX3_beginFor_11 rfl rfl K) ?_
  refine Es.via (fun o K => e_imul m_X3_beginFor dX3_beginFor_12 K) ?_
  rw [nI_two]
  refine Es.via (fun o K => e_istore_n m_X3_beginFor dX3_beginFor_13 rfl (by decide) rfl K) ?_
  refine Es.via (fun o K => e_iload_n m_X3_beginFor dX3_beginFor_14 rfl rfl K) ?_
  refine Es.via (fun o K => e_aload_n m_X3_beginFor dX3_beginFor_15 rfl rfl rfl K) ?_
  refine Es.via (fun o K => e_getf m_X3_beginFor dX3_beginFor_16 f_RX3_11 (gK_3 hK) rfl K) ?_
  refine Es.via (fun o K => e_alen m_X3_beginFor dX3_beginFor_19 (gK_r1 hK) (by decide) K) ?_
  rw [show Int32.ofNat N = nI N from rfl]
  have fr0 : ∀ k, 10 ≤ k → k < 29 → (HK h a N (nI c) 0 0 kf f1 f2 f3 f4 f5 f6)[k]? = h[k]? := fun k k1 k2 => HK_fr (by omega)
  refine Es.via (fun o K => e_icT (t := 38) m_X3_beginFor dX3_beginFor_20 (by decide) (decide_eq_true (by rw [nI_leI (by omega) (by omega)]; exact q)) K) ?_
  exact ⟨_, e_ret0 m_X3_beginFor dX3_beginFor_38, _, rfl, Ck_HK hK, HK_len, fr0⟩
theorem t_buildX {xs : Nat → Int32} {L d : Nat} {h : mm_H} {c : Nat} {us nb : Int32} {ks : Nat → Nat} {s' : Ss} (C : Ck h 4 1024 (nI c) us nb (rN ks) z0 z0 z0 z0 z0 z0) (hl : 29 ≤ h.length) (hc : c ≤ 4096) (hq : 2 * c ≤ 1024) (hks : ∀ i, ks i < 128) (hd : 600 ≤ d) (hr : Pf (kA c ks) 1024 500 14 0 0 (s00 z0 z0 z0 z0 z0 z0) = some (.inr s')) (hat : s_at s' = 14) (hnb : s_nb s' = 0) : Es xs L d 9 0 (lv_args 0 [.ref 0]) [] h 0 0 (fun o => ∃ (h' : mm_H) (cc zz : Nat), o = (.inl (some (.int (-1 - nI 14))), h', cc, zz) ∧ cc ≤ 9 ∧ zz ≤ 200 ∧ 29 ≤ h'.length ∧ (∀ k, 10 ≤ k → k < 29 → h'[k]? = h[k]?) ∧ ∃ (us' : Int32) (kf f1 f2 f3 f4 f5 f6 : Nat → Int32), Ck h' 4 1024 (nI 0) us' (nI 0) kf f1 f2 f3 f4 f5 f6) := by
  obtain ⟨c0, c1, c2, c3⟩ := C.of4 (by omega)
  refine Es.via (fun o K => z_aload_n y_X5_build dX5_build_0 rfl rfl rfl K) ?_
  refine Es.via (fun o K => z_getf y_X5_build dX5_build_1 f_RX5_19 c0 rfl K) ?_
  refine Es.via (fun o K => z_aload_n y_X5_build dX5_build_4 rfl rfl rfl K) ?_
  refine Es.via (fun o K => z_getf y_X5_build dX5_build_5 f_RX5_10 c0 rfl K) ?_
  refine Es.via (fun o K => z_getf y_X5_build dX5_build_8 f_RX5_40 c1 rfl K) ?_
  obtain ⟨_, R, h1, rfl, C1, b7, b8⟩ := t_beginX (xs := xs) (L := L) (d := d - 1) C (Or.inl rfl) (by decide) hq
  refine Es.via (fun o K => z_cv (as := [.int (nI c)]) y_X5_build dX5_build_11 c_RX5_44 (by decide) rfl rfl c3 rfl (Nat.le_of_ble_eq_true rfl) (Nat.le_of_ble_eq_true rfl) (by omega) R K) ?_
  obtain ⟨p, hp⟩ : ∃ p, h1.length = p := ⟨_, rfl⟩
  have hK1 := Ck_hk C1 (by omega) (by omega)
  have h4 := hK1.2.1
  have CA := Ck_app (l := [.inr (0, mm_fresh 0 9)]) C1 h4 (by omega)
  refine Es.via (fun o K => z_new (p := p) (h' := h1 ++ [.inr (0, mm_fresh 0 9)]) y_X5_build dX5_build_14 n_RX5_47 rfl hp rfl K) ?_
  refine Es.via (fun o K => z_dup y_X5_build dX5_build_17 rfl K) ?_
  refine Es.via (fun o K => z_aload_n y_X5_build dX5_build_18 rfl rfl rfl K) ?_
  refine Es.via (fun o K => z_getf y_X5_build dX5_build_19 f_RX5_10 (CA.of4 (by omega)).1 rfl K) ?_
  refine Es.via (fun o K => z_aload_n y_X5_build dX5_build_22 rfl rfl rfl K) ?_
  refine Es.via (fun o K => z_getf y_X5_build dX5_build_23 f_RX5_19 (CA.of4 (by omega)).1 rfl K) ?_
  have RI := t_pinit (xs := xs) (L := L) (d := d - 1) C1 (by omega) h4 hp (by omega) (by omega)
  refine Es.via (fun o K => z_csp (as := [.ref 1, .ref 3]) y_X5_build dX5_build_26 c_RX5_49 (by decide) rfl rfl (ap_get hp) rfl (Nat.le_of_ble_eq_true rfl) (Nat.le_of_ble_eq_true rfl) (by omega) RI K) ?_
  refine Es.via (fun o K => z_astore_n y_X5_build dX5_build_29 rfl (by decide) rfl K) ?_
  refine Es.via (fun o K => z_iconst (v := -1) y_X5_build dX5_build_30 (by decide) K) ?_
  refine Es.via (fun o K => z_istore_n y_X5_build dX5_build_31 rfl (by decide) rfl K) ?_
  refine Es.via (fun o K => z_aload_n y_X5_build dX5_build_32 rfl rfl rfl K) ?_
  -- the parser's heap
  generalize hh2 : h1 ++ [.inr (0, [.ref 1, .ref 3, .ref (p + 1), .int 0, .int 0, .int (nI (kA c ks 0)), .int 0, .int 0, .int (-1)]), .inl (0, 155, .inl z0)] = h2
  have C2 : Ck h2 4 1024 (nI c) 0 0 (rN ks) z0 z0 z0 z0 z0 z0 := by rw [← hh2]; exact Ck_app C1 h4 (by omega)
  have l2 : h2.length = p + 2 := by rw [← hh2, List.length_append, hp]; rfl
  have gp : h2[p]? = some (.inr (0, [.ref 1, .ref 3, .ref (p + 1), .int 0, .int 0, .int (nI (kA c ks 0)), .int 0, .int 0, .int (-1)])) := by rw [← hh2]; exact ap_get hp
  have gw : h2[p + 1]? = some (.inl (0, 155, .inl z0)) := by rw [← hh2]; exact ap_get1 hp
  have fr2 : ∀ k, 10 ≤ k → k < 29 → h2[k]? = h1[k]? := fun k k1 k2 => by rw [← hh2, List.getElem?_append_left (by omega)]
  have hHy : Hy h2 4 p := ⟨by omega, by omega, by omega⟩
  have G : Cg h2 4 p 1024 c ks := ⟨hHy, by omega, by omega, hks⟩
  have eT : TC h2 4 p 1024 c ks (s00 z0 z0 z0 z0 z0 z0) = h2 := by
    have q := HC_eq (wc := 0) (at' := 0) (kd := nI (kA c ks 0)) (op := 0) (ih := 0) (gw := -1) (wf := z0) gp gw C2 (by omega) (by omega)
    unfold TC s00
    rw [rN_ex, rO_ex]
    exact q
  have RF := (pc_all (xs := xs) (L := L) G 500).1 (s00 z0 z0 z0 z0 z0 z0) (d - 1) (by omega) (by rw [hr]; exact fun q9 => by cases q9)
  rw [eT] at RF
  -- how it ended
  have fin : ∀ (s' : Ss), Ck (TC h2 4 p 1024 c ks s') 4 1024 (nI c) (nI (s_us s')) (nI (s_nb s')) (rN ks) (rN (s_r1 s')) (rN (s_r2 s')) (rN (s_r3 s')) (rN (s_r4 s')) (rN (s_r5 s')) (rO (s_r6 s')) := fun s' => Ck_HC hHy (by omega) (C2.of4 (by omega)).1
  have frT : ∀ (s' : Ss) k, 10 ≤ k → k < 29 → (TC h2 4 p 1024 c ks s')[k]? = h[k]? := fun s' k k1 k2 => by
    show (HC h2 4 p _ _ _ _ _ _ _ _ _ _ _ _ _ _ _ _ _ _)[k]? = _
    rw [HC_fr (Or.inl rfl) (by omega) k1 k2, fr2 k k1 k2, b8 k k1 k2]
  have lT : ∀ (s' : Ss), (TC h2 4 p 1024 c ks s').length = p + 2 := fun s' => by
    show (HC h2 4 p _ _ _ _ _ _ _ _ _ _ _ _ _ _ _ _ _ _).length = _
    unfold HC
    rw [hp_len, l2]
  rw [hr] at RF
  refine Es.via (fun o K => z_cvC (pc' := 40) (k := 3) (as := []) (rfl : mm_all[9]? = some _) dX5_build_33 c_RX5_52 (by decide) rfl rfl gp rfl (Nat.le_of_ble_eq_true rfl) (Nat.le_of_ble_eq_true rfl) (by omega) (by decide) (by decide +kernel) RF K) ?_
  refine Es.via (fun o K => z_aload_n y_X5_build dX5_build_40 rfl rfl rfl K) ?_
  refine Es.via (fun o K => z_getf y_X5_build dX5_build_41 f_RX5_57 (gC_p hHy) rfl K) ?_
  refine Es.via (fun o K => z_istore_n y_X5_build dX5_build_44 rfl (by decide) rfl K) ?_
  refine Es.imp (t_btailE rfl rfl (fin s') (Or.inl rfl) (by decide) (by rw [hat]; decide)) (fun o q => ?_)
  obtain ⟨h', rfl, q1, q2, q3⟩ := q
  rw [hnb] at q1
  exact ⟨h', _, _, by rw [hat], by decide, by decide, by rw [q2, lT]; omega, fun k k1 k2 => by rw [q3 k k1 k2, frT s' k k1 k2], _, _, _, _, _, _, _, _, q1⟩
