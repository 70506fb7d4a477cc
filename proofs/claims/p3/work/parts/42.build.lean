/-! build of the class. -/
theorem rN_ex (f : Nat → Int32) : rN (fun i => (f i).toBitVec.toNat) = f := by
  funext i
  apply Int32.toBitVec_inj.mp
  show BitVec.ofNat 32 (f i).toBitVec.toNat = (f i).toBitVec
  apply BitVec.eq_of_toNat_eq
  rw [BitVec.toNat_ofNat]
  exact Nat.mod_eq_of_lt (f i).toBitVec.isLt
theorem rO_ex (f : Nat → Int32) : rO (fun i => (f i).toBitVec.toNat + 1) = f := rN_ex f
section BLD
variable {h h1 : mm_H} {a N p : Nat} {cnt us nb wc at' kd op ih gw : Int32} {wf kf f1 f2 f3 f4 f5 f6 : Nat → Int32}
theorem HC_eq (cp : h[p]? = some (.inr (0, [.ref 1, .ref 3, .ref (p + 1), .int wc, .int at', .int kd, .int op, .int ih, .int gw]))) (cw : h[p + 1]? = some (.inl (0, 155, .inl wf))) (C : Ck h a N cnt us nb kf f1 f2 f3 f4 f5 f6) (h4 : 4 ≤ a) (hp : a + 6 ≤ p) : HC h a p wc at' kd op ih gw us nb cnt N wf kf f1 f2 f3 f4 f5 f6 = h := by
  refine hp_eq (fun k e hs => ?_)
  obtain ⟨-, c1, c2, c3⟩ := C.of4 h4
  by_cases q1 : k = p
  · subst q1
    unfold sC at hs
    rw [if_pos rfl] at hs
    rw [← hs]; exact cp
  · by_cases q2 : k = p + 1
    · subst q2
      unfold sC at hs
      rw [if_neg q1, if_pos rfl] at hs
      rw [← hs]; exact cw
    · refine C k e ?_
      unfold sC at hs
      rw [if_neg q1, if_neg q2] at hs
      unfold sK
      by_cases q0 : k = 0
      · subst q0
        rw [if_neg (by omega), if_neg (by omega), if_neg (by omega), if_neg (by omega), if_neg (by omega), if_neg (by omega), if_neg (by omega), if_neg (by omega), if_neg (by omega)] at hs
        cases hs
      · rw [if_neg q0]; exact hs
theorem HC_fr {k : Nat} (h4 : a = 4 ∨ 29 ≤ a) (hp : 29 ≤ p) (k1 : 10 ≤ k) (k2 : k < 29) : (HC h a p wc at' kd op ih gw us nb cnt N wf kf f1 f2 f3 f4 f5 f6)[k]? = h[k]? := by
  refine hp_get0 ?_
  unfold sC
  rw [if_neg (by omega), if_neg (by omega), if_neg (by omega), if_neg (by omega), if_neg (by omega), if_neg (by omega), if_neg (by omega), if_neg (by omega), if_neg (by omega), if_neg (by omega), if_neg (by omega)]
theorem HC_0 (h4 : 4 ≤ a) (hp : 29 ≤ p) : (HC h a p wc at' kd op ih gw us nb cnt N wf kf f1 f2 f3 f4 f5 f6)[0]? = h[0]? := by
  refine hp_get0 ?_
  unfold sC
  rw [if_neg (by omega), if_neg (by omega), if_neg (by omega), if_neg (by omega), if_neg (by omega), if_neg (by omega), if_neg (by omega), if_neg (by omega), if_neg (by omega), if_neg (by omega), if_neg (by omega)]
theorem Ck_HC (H : Hy h a p) (hp : 29 ≤ p) (c0 : h[0]? = some (.inr (3, [.ref 1, .ref 3]))) : Ck (HC h a p wc at' kd op ih gw us nb cnt N wf kf f1 f2 f3 f4 f5 f6) a N cnt us nb kf f1 f2 f3 f4 f5 f6 :=
  Ck_of (by rw [HC_0 H.1 hp]; exact c0) (gC_t H) (gC_k H) (gC_r H) (gC_1 H) (gC_2 H) (gC_3 H) (gC_4 H) (gC_5 H) (gC_6 H)
theorem ap_set1 {x y : mm_E} (hp : h.length = p) : (h ++ [x]).set p y = h ++ [y] := by
  subst hp
  rw [List.set_append_right _ _ (Nat.le_refl _), Nat.sub_self]
  rfl
theorem ap_set2 {x y r : mm_E} (hp : h.length = p) : (h ++ [x, r]).set p y = h ++ [y, r] := by
  subst hp
  rw [List.set_append_right _ _ (Nat.le_refl _), Nat.sub_self]
  rfl
theorem ap_get {x : mm_E} {l : List mm_E} (hp : h.length = p) : (h ++ x :: l)[p]? = some x := by
  subst hp
  rw [List.getElem?_append_right (Nat.le_refl _), Nat.sub_self]
  rfl
theorem ap_get1 {x y : mm_E} {l : List mm_E} (hp : h.length = p) : (h ++ x :: y :: l)[p + 1]? = some y := by
  subst hp
  rw [List.getElem?_append_right (Nat.le_add_right _ 1), Nat.add_sub_cancel_left]
  rfl
theorem Ck_app {l : List mm_E} (C : Ck h a N cnt us nb kf f1 f2 f3 f4 f5 f6) (ha : a + 6 ≤ h.length) (h4 : 4 ≤ a) : Ck (h ++ l) a N cnt us nb kf f1 f2 f3 f4 f5 f6 := fun k e hs => by
  have h9 := sK_len hs
  rw [List.getElem?_append_left (by omega)]
  exact C k e hs
end BLD
theorem fit_p0 {q : Nat} : mm_fits 0 0 (.ref q) = true := by
  simp only [mm_fits, Bool.and_eq_true, decide_eq_true_eq]
  exact ⟨rfl, rfl⟩
theorem fit_p1 {q : Nat} : mm_fits 0 1 (.ref q) = true := by
  simp only [mm_fits, Bool.and_eq_true, decide_eq_true_eq]
  exact ⟨rfl, rfl⟩
theorem fit_p {q : Nat} : mm_fits 0 2 (.ref q) = true := by
  simp only [mm_fits, Bool.and_eq_true, decide_eq_true_eq]
  exact ⟨rfl, rfl⟩
theorem t_pinit {xs : Nat → Int32} {L d : Nat} {h : mm_H} {a N c p : Nat} {us nb : Int32} {ks : Nat → Nat} {f1 f2 f3 f4 f5 f6 : Nat → Int32} (C : Ck h a N (nI c) us nb (rN ks) f1 f2 f3 f4 f5 f6) (h4 : 4 ≤ a) (ha : a + 6 ≤ h.length) (hp : h.length = p) (hc : c ≤ 16384) (hd : 2 ≤ d) : Rn xs L d 12 [.ref p, .ref 1, .ref 3] (h ++ [.inr (0, mm_fresh 0 9)]) (.inl none, h ++ [.inr (0, [.ref 1, .ref 3, .ref (p + 1), .int 0, .int 0, .int (nI (kA c ks 0)), .int 0, .int 0, .int (-1)]), .inl (0, 155, .inl z0)], 1, 155) := by
  have e9 : (.inr (0, mm_fresh 0 9) : mm_E) = .inr (0, [.null, .null, .null, .int 0, .int 0, .int 0, .int 0, .int 0, .int 0]) := rfl
  rw [e9]
  unfold Rn
  refine e_aload_n m_X1_init dX1_init_0 rfl rfl rfl ?_
  refine z_obj m_X1_init.z dX1_init_1 o_RX1_5 (Nat.le_of_ble_eq_true rfl) ?_
  refine e_aload_n m_X1_init dX1_init_4 rfl rfl rfl ?_
  refine e_aload_n m_X1_init dX1_init_5 rfl rfl rfl ?_
  refine e_putF (h' := h ++ [.inr (0, [.ref 1, .null, .null, .int 0, .int 0, .int 0, .int 0, .int 0, .int 0])]) m_X1_init dX1_init_6 f_RX1_11 (ap_get hp) (Nat.le_of_ble_eq_true rfl) fit_p0 rfl rfl (ap_set1 hp) ?_
  refine e_aload_n m_X1_init dX1_init_9 rfl rfl rfl ?_
  refine e_aload_n m_X1_init dX1_init_10 rfl rfl rfl ?_
  refine e_putF (h' := h ++ [.inr (0, [.ref 1, .ref 3, .null, .int 0, .int 0, .int 0, .int 0, .int 0, .int 0])]) m_X1_init dX1_init_11 f_RX1_17 (ap_get hp) (Nat.le_of_ble_eq_true rfl) fit_p1 rfl rfl (ap_set1 hp) ?_
  refine e_aload_n m_X1_init dX1_init_14 rfl rfl rfl ?_
  refine e_sipush (v := 155) m_X1_init dX1_init_15 (by decide) ?_
  refine z_newa (n := 155) (p := p + 1) (h' := h ++ [.inr (0, [.ref 1, .ref 3, .null, .int 0, .int 0, .int 0, .int 0, .int 0, .int 0]), .inl (0, 155, .inl z0)]) m_X1_init.z dX1_init_18 rfl (by decide +kernel) (by decide +kernel) (by rw [List.length_append, hp]; rfl) (by rw [List.append_assoc]; rfl) ?_
  refine e_putF (h' := h ++ [.inr (0, [.ref 1, .ref 3, .ref (p + 1), .int 0, .int 0, .int 0, .int 0, .int 0, .int 0]), .inl (0, 155, .inl z0)]) m_X1_init dX1_init_20 f_RX1_21 (ap_get hp) (Nat.le_of_ble_eq_true rfl) fit_p rfl rfl (ap_set2 hp) ?_
  refine e_aload_n m_X1_init dX1_init_23 rfl rfl rfl ?_
  refine e_iconst (v := (-1)) m_X1_init dX1_init_24 (by decide) ?_
  refine e_putf (h' := h ++ [.inr (0, [.ref 1, .ref 3, .ref (p + 1), .int 0, .int 0, .int 0, .int 0, .int 0, .int (-1)]), .inl (0, 155, .inl z0)]) m_X1_init dX1_init_25 f_RX1_25 (ap_get hp) (Nat.le_of_ble_eq_true rfl) (fit_i rfl) rfl (ap_set2 hp) ?_
  refine e_aload_n m_X1_init dX1_init_28 rfl rfl rfl ?_
  refine e_aload_n m_X1_init dX1_init_29 rfl rfl rfl ?_
  refine e_iconst (v := nI 0) m_X1_init dX1_init_30 (by decide) ?_
  have CA := Ck_app (l := [.inr (0, [.ref 1, .ref 3, .ref (p + 1), .int 0, .int 0, .int 0, .int 0, .int 0, .int (-1)]), .inl (0, 155, .inl z0)]) C ha h4
  have hH : Hy (h ++ [.inr (0, [.ref 1, .ref 3, .ref (p + 1), .int 0, .int 0, .int 0, .int 0, .int 0, .int (-1)]), .inl (0, 155, .inl z0)]) a p := ⟨h4, by omega, by rw [List.length_append, hp]; exact Nat.lt_succ_self _⟩
  have eH := HC_eq (wc := 0) (at' := 0) (kd := 0) (op := 0) (ih := 0) (gw := -1) (wf := z0) (ap_get hp) (ap_get1 hp) CA h4 (by omega)
  have R := r_kindAt (xs := xs) (L := L) (d := d - 1) (i := nI 0) (wc := 0) (at2 := 0) (kd := 0) (op := 0) (ih := 0) (gw := -1) (wf := z0) (cnt := nI c) (us := us) (nb := nb) (N := N) (kf := rN ks) (f1 := f1) (f2 := f2) (f3 := f3) (f4 := f4) (f5 := f5) (f6 := f6) hH (by omega)
  rw [eH, kAt_kA hc (by decide)] at R
  refine e_cv (as := [.int (nI 0)]) m_X1_init dX1_init_31 c_RX1_29 (by decide) rfl rfl (CA.of4 h4).2.1 rfl (Nat.le_of_ble_eq_true rfl) (Nat.le_of_ble_eq_true rfl) (by omega) R ?_
  refine e_putf (h' := h ++ [.inr (0, [.ref 1, .ref 3, .ref (p + 1), .int 0, .int 0, .int (nI (kA c ks 0)), .int 0, .int 0, .int (-1)]), .inl (0, 155, .inl z0)]) m_X1_init dX1_init_34 f_RX1_33 (ap_get hp) (Nat.le_of_ble_eq_true rfl) (fit_i rfl) rfl (ap_set2 hp) ?_
  exact e_ret0 m_X1_init dX1_init_37
/-- the end of build -/
theorem t_btail {xs : Nat → Int32} {L d : Nat} {T : mm_H} {a N c c9 z9 : Nat} {us nb x : Int32} {kf f1 f2 f3 f4 f5 f6 : Nat → Int32} {ls : mm_L} (hl0 : mm_lk ls 0 = some (.ref 0)) (hl2 : mm_lk ls 2 = some (.int x)) (C : Ck T a N (nI c) us nb kf f1 f2 f3 f4 f5 f6) (h4 : a = 4 ∨ 29 ≤ a) (hN0 : 0 < N) (hN : N ≤ 20000) (hd : 20 ≤ d) : Es xs L d 9 45 ls [] T c9 z9 (fun o => ∃ (v nb' : Int32) (g5 g6 : Nat → Int32) (h' : mm_H), o = (.inl (some (.int v)), h', c9, z9) ∧ Ck h' a N (nI 0) us nb' kf f1 f2 f3 f4 g5 g6 ∧ h'.length = T.length ∧ ∀ k, 10 ≤ k → k < 29 → h'[k]? = T[k]?) := by
  have hK := Ck_hk C (by omega) (by omega)
  have e0 := HK_eq C
  refine Es.via (h' := HK T a N (nI c) us nb kf f1 f2 f3 f4 f5 f6) (fun o K => by rw [← e0]; exact K) ?_
  refine Es.via (fun o K => z_aload_n y_X5_build dX5_build_45 rfl hl0 rfl K) ?_
  refine Es.via (fun o K => z_getf y_X5_build dX5_build_46 f_RX5_10 (gK_0 hK) rfl K) ?_
  refine Es.via (fun o K => z_iconst (v := nI 0) y_X5_build dX5_build_49 (by decide) K) ?_
  refine Es.via (fun o K => z_putf (h' := HK T a N (nI 0) us nb kf f1 f2 f3 f4 f5 f6) y_X5_build dX5_build_50 f_RX5_40 (gK_1 hK) (Nat.le_of_ble_eq_true rfl) (fit_i rfl) rfl (sK_1 hK) K) ?_
  refine Es.via (fun o K => z_iload_n y_X5_build dX5_build_53 rfl hl2 K) ?_
  refine Es.via (fun o K => z_iconst (v := -1) y_X5_build dX5_build_54 (by decide) K) ?_
  rcases Bool.eq_false_or_eq_true (mm_cond .eq x (-1)) with q | q
  · refine Es.via (fun o K => z_icmp (t := 62) y_X5_build dX5_build_55 (by decide) (fun _ => K) (fun q9 => absurd (q9.symm.trans q) (by decide))) ?_
    refine Es.via (fun o K => z_aload_n y_X5_build dX5_build_62 rfl hl0 rfl K) ?_
    refine Es.via (fun o K => z_getf y_X5_build dX5_build_63 f_RX5_19 (gK_0 hK) rfl K) ?_
    obtain ⟨_, R, nb', g5, g6, rfl⟩ := t_number (xs := xs) (L := L) (d := d - 1) (cnt := nI 0) (us := us) (nb := nb) (kf := kf) (f1 := f1) (f2 := f2) (f3 := f3) (f4 := f4) (f5 := f5) (f6 := f6) hK hN0 (by omega)
    refine Es.via (fun o K => z_cv (as := []) y_X5_build dX5_build_66 c_RX5_60 (by decide) rfl rfl (gK_3 hK) rfl (Nat.le_of_ble_eq_true rfl) (Nat.le_of_ble_eq_true rfl) (by omega) R K) ?_
    refine Es.via (fun o K => z_aload_n y_X5_build dX5_build_69 rfl hl0 rfl K) ?_
    refine Es.via (fun o K => z_getf y_X5_build dX5_build_70 f_RX5_19 (gK_0 hK) rfl K) ?_
    refine Es.via (fun o K => z_getf y_X5_build dX5_build_73 f_RX5_63 (gK_3 hK) rfl K) ?_
    exact ⟨_, z_reti y_X5_build dX5_build_76 (Or.inl rfl), _, nb', g5, g6, _, rfl, Ck_HK hK, HK_len, fun k k1 k2 => HK_fr (by omega)⟩
  · refine Es.via (fun o K => z_icmp (t := 62) y_X5_build dX5_build_55 (by decide) (fun q9 => absurd (q9.symm.trans q) (by decide)) (fun _ => K)) ?_
    refine Es.via (fun o K => z_iconst (v := -1) y_X5_build dX5_build_58 (by decide) K) ?_
    refine Es.via (fun o K => z_iload_n y_X5_build dX5_build_59 rfl hl2 K) ?_
    refine Es.via (fun o K => z_isub y_X5_build dX5_build_60 K) ?_
    exact ⟨_, z_reti y_X5_build dX5_build_61 (Or.inl rfl), _, nb, f5, f6, _, rfl, Ck_HK hK, HK_len, fun k k1 k2 => HK_fr (by omega)⟩
/-- the parser at its beginning -/
def s00 (f1 f2 f3 f4 f5 f6 : Nat → Int32) : Ss := (0, 0, 0, 0, 0, 0, 0, (fun _ => 0), (fun i => (f1 i).toBitVec.toNat), (fun i => (f2 i).toBitVec.toNat), (fun i => (f3 i).toBitVec.toNat), (fun i => (f4 i).toBitVec.toNat), (fun i => (f5 i).toBitVec.toNat), (fun i => (f6 i).toBitVec.toNat + 1))
theorem t_build {xs : Nat → Int32} {L d : Nat} {h : mm_H} {a N c : Nat} {us nb : Int32} {ks : Nat → Nat} {f1 f2 f3 f4 f5 f6 : Nat → Int32} (C : Ck h a N (nI c) us nb (rN ks) f1 f2 f3 f4 f5 f6) (h4 : a = 4 ∨ 29 ≤ a) (hl : 29 ≤ h.length) (hc : c ≤ 4096) (hN0 : 0 < N) (hN : N ≤ 20000) (hks : ∀ i, ks i < 128) (hd : 600 ≤ d) : Es xs L d 9 0 (lv_args 0 [.ref 0]) [] h 0 0 (fun o => ∃ (v us' nb' : Int32) (g1 g2 g3 g4 g5 g6 : Nat → Int32) (h' : mm_H) (a' N' cc zz : Nat), o = (.inl (some (.int v)), h', cc, zz) ∧ Ck h' a' N' (nI 0) us' nb' (rN ks) g1 g2 g3 g4 g5 g6 ∧ (a' = 4 ∨ 29 ≤ a') ∧ 0 < N' ∧ N' ≤ 20000 ∧ cc ≤ 9 ∧ zz + 12 * N ≤ 12 * N' + 200 ∧ h.length ≤ h'.length ∧ ∀ k, 10 ≤ k → k < 29 → h'[k]? = h[k]?) := by
  obtain ⟨c0, c1, c2, c3⟩ := C.of4 (by omega)
  refine Es.via (fun o K => z_aload_n y_X5_build dX5_build_0 rfl rfl rfl K) ?_
  refine Es.via (fun o K => z_getf y_X5_build dX5_build_1 f_RX5_19 c0 rfl K) ?_
  refine Es.via (fun o K => z_aload_n y_X5_build dX5_build_4 rfl rfl rfl K) ?_
  refine Es.via (fun o K => z_getf y_X5_build dX5_build_5 f_RX5_10 c0 rfl K) ?_
  refine Es.via (fun o K => z_getf y_X5_build dX5_build_8 f_RX5_40 c1 rfl K) ?_
  obtain ⟨_, R, h1, a1, N1, cc, zz, rfl, g1, g2, g3, g4, g5, g6, C1, b1, b2, b3, b4, b5, b6, b7, b8⟩ := t_beginFor (xs := xs) (L := L) (d := d - 1) C h4 hl hc hN0 hN (by omega)
  refine Es.via (fun o K => z_cv (as := [.int (nI c)]) y_X5_build dX5_build_11 c_RX5_44 (by decide) rfl rfl c3 rfl (Nat.le_of_ble_eq_true rfl) (Nat.le_of_ble_eq_true rfl) (by omega) R K) ?_
  obtain ⟨p, hp⟩ : ∃ p, h1.length = p := ⟨_, rfl⟩
  have hK1 := Ck_hk C1 (by omega) (by omega)
  have ha1 := hK1.2.1
  have CA := Ck_app (l := [.inr (0, mm_fresh 0 9)]) C1 ha1 (by omega)
  refine Es.via (fun o K => z_new (p := p) (h' := h1 ++ [.inr (0, mm_fresh 0 9)]) y_X5_build dX5_build_14 n_RX5_47 rfl hp rfl K) ?_
  refine Es.via (fun o K => z_dup y_X5_build dX5_build_17 rfl K) ?_
  refine Es.via (fun o K => z_aload_n y_X5_build dX5_build_18 rfl rfl rfl K) ?_
  refine Es.via (fun o K => z_getf y_X5_build dX5_build_19 f_RX5_10 (CA.of4 (by omega)).1 rfl K) ?_
  refine Es.via (fun o K => z_aload_n y_X5_build dX5_build_22 rfl rfl rfl K) ?_
  refine Es.via (fun o K => z_getf y_X5_build dX5_build_23 f_RX5_19 (CA.of4 (by omega)).1 rfl K) ?_
  have RI := t_pinit (xs := xs) (L := L) (d := d - 1) C1 (by omega) ha1 hp (by omega) (by omega)
  refine Es.via (fun o K => z_csp (as := [.ref 1, .ref 3]) y_X5_build dX5_build_26 c_RX5_49 (by decide) rfl rfl (ap_get hp) rfl (Nat.le_of_ble_eq_true rfl) (Nat.le_of_ble_eq_true rfl) (by omega) RI K) ?_
  refine Es.via (fun o K => z_astore_n y_X5_build dX5_build_29 rfl (by decide) rfl K) ?_
  refine Es.via (fun o K => z_iconst (v := -1) y_X5_build dX5_build_30 (by decide) K) ?_
  refine Es.via (fun o K => z_istore_n y_X5_build dX5_build_31 rfl (by decide) rfl K) ?_
  refine Es.via (fun o K => z_aload_n y_X5_build dX5_build_32 rfl rfl rfl K) ?_
  -- the parser's heap
  generalize hh2 : h1 ++ [.inr (0, [.ref 1, .ref 3, .ref (p + 1), .int 0, .int 0, .int (nI (kA c ks 0)), .int 0, .int 0, .int (-1)]), .inl (0, 155, .inl z0)] = h2
  have C2 : Ck h2 a1 N1 (nI c) 0 0 (rN ks) g1 g2 g3 g4 g5 g6 := by rw [← hh2]; exact Ck_app C1 ha1 (by omega)
  have l2 : h2.length = p + 2 := by rw [← hh2, List.length_append, hp]; rfl
  have gp : h2[p]? = some (.inr (0, [.ref 1, .ref 3, .ref (p + 1), .int 0, .int 0, .int (nI (kA c ks 0)), .int 0, .int 0, .int (-1)])) := by rw [← hh2]; exact ap_get hp
  have gw : h2[p + 1]? = some (.inl (0, 155, .inl z0)) := by rw [← hh2]; exact ap_get1 hp
  have fr2 : ∀ k, 10 ≤ k → k < 29 → h2[k]? = h1[k]? := fun k k1 k2 => by rw [← hh2, List.getElem?_append_left (by omega)]
  have hHy : Hy h2 a1 p := ⟨by omega, by omega, by omega⟩
  have G : Cg h2 a1 p N1 c ks := ⟨hHy, by omega, by omega, hks⟩
  have eT : TC h2 a1 p N1 c ks (s00 g1 g2 g3 g4 g5 g6) = h2 := by
    have q := HC_eq (wc := 0) (at' := 0) (kd := nI (kA c ks 0)) (op := 0) (ih := 0) (gw := -1) (wf := z0) gp gw C2 (by omega) (by omega)
    unfold TC s00
    rw [rN_ex, rN_ex, rN_ex, rN_ex, rN_ex, rO_ex]
    exact q
  have hiv : Iv c N1 (s00 g1 g2 g3 g4 g5 g6) := ⟨Nat.zero_le _, Nat.zero_le _, (show 0 < 2 by decide), Nat.zero_le _, Nat.zero_le _, Nat.zero_le _, fun _ => Nat.zero_le _, fun i hi => absurd hi (Nat.not_lt_zero _)⟩
  have hkg : Kg c N1 (kA c ks) := by
    refine ⟨by omega, by omega, fun i => ?_, fun i hi => ?_⟩
    · unfold kA; split
      · exact hks i
      · decide
    · unfold kA at hi
      by_cases q : i < c
      · exact q
      · rw [if_neg q] at hi; exact absurd rfl hi
  have hOk := Sp_all hkg 500 14 (by decide) 0 0 (s00 g1 g2 g3 g4 g5 g6) hiv (fun q => by cases q) (fun q => by cases q) (by decide) (by decide) (show 10 + 16 * (30 - 0) < 500 by decide)
  have RF := (pc_all (xs := xs) (L := L) G 500).1 (s00 g1 g2 g3 g4 g5 g6) (d - 1) (by omega) (Ok_nn hOk)
  rw [eT] at RF
  -- how it ended
  have fin : ∀ (s' : Ss), Ck (TC h2 a1 p N1 c ks s') a1 N1 (nI c) (nI (s_us s')) (nI (s_nb s')) (rN ks) (rN (s_r1 s')) (rN (s_r2 s')) (rN (s_r3 s')) (rN (s_r4 s')) (rN (s_r5 s')) (rO (s_r6 s')) := fun s' => Ck_HC hHy (by omega) (C2.of4 (by omega)).1
  have frT : ∀ (s' : Ss) k, 10 ≤ k → k < 29 → (TC h2 a1 p N1 c ks s')[k]? = h[k]? := fun s' k k1 k2 => by
    show (HC h2 a1 p _ _ _ _ _ _ _ _ _ _ _ _ _ _ _ _ _ _)[k]? = _
    rw [HC_fr b1 (by omega) k1 k2, fr2 k k1 k2, b8 k k1 k2]
  have lT : ∀ (s' : Ss), (TC h2 a1 p N1 c ks s').length = p + 2 := fun s' => by
    show (HC h2 a1 p _ _ _ _ _ _ _ _ _ _ _ _ _ _ _ _ _ _).length = _
    unfold HC
    rw [hp_len, l2]
  match hr : Pf (kA c ks) N1 500 14 0 0 (s00 g1 g2 g3 g4 g5 g6) with
  | none => rw [hr] at hOk; exact absurd hOk (fun q => q)
  | some (.inl (v, s')) =>
    rw [hr] at RF
    refine Es.via (fun o K => z_cv (as := []) y_X5_build dX5_build_33 c_RX5_52 (by decide) rfl rfl gp rfl (Nat.le_of_ble_eq_true rfl) (Nat.le_of_ble_eq_true rfl) (by omega) RF K) ?_
    refine Es.via (fun o K => z_goto (t := 45) y_X5_build dX5_build_36 (by decide) K) ?_
    refine Es.imp (t_btail rfl rfl (fin s') b1 b2 b3 (by omega)) (fun o q => ?_)
    obtain ⟨v', nb', g5', g6', h', rfl, q1, q2, q3⟩ := q
    exact ⟨v', _, nb', _, _, _, _, g5', g6', h', a1, N1, _, _, rfl, q1, b1, b2, b3, by omega, by omega, by rw [q2, lT]; omega, fun k k1 k2 => by rw [q3 k k1 k2, frT s' k k1 k2]⟩
  | some (.inr s') =>
    rw [hr] at RF
    refine Es.via (fun o K => z_cvC (pc' := 40) (k := 3) (as := []) (rfl : mm_all[9]? = some _) dX5_build_33 c_RX5_52 (by decide) rfl rfl gp rfl (Nat.le_of_ble_eq_true rfl) (Nat.le_of_ble_eq_true rfl) (by omega) (by decide) (by decide +kernel) RF K) ?_
    refine Es.via (fun o K => z_aload_n y_X5_build dX5_build_40 rfl rfl rfl K) ?_
    refine Es.via (fun o K => z_getf y_X5_build dX5_build_41 f_RX5_57 (gC_p hHy) rfl K) ?_
    refine Es.via (fun o K => z_istore_n y_X5_build dX5_build_44 rfl (by decide) rfl K) ?_
    refine Es.imp (t_btail rfl rfl (fin s') b1 b2 b3 (by omega)) (fun o q => ?_)
    obtain ⟨v', nb', g5', g6', h', rfl, q1, q2, q3⟩ := q
    exact ⟨v', _, nb', _, _, _, _, g5', g6', h', a1, N1, _, _, rfl, q1, b1, b2, b3, by omega, by omega, by rw [q2, lT]; omega, fun k k1 k2 => by rw [q3 k k1 k2, frT s' k k1 k2]⟩
