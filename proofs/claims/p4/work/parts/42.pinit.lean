/-! build of the class. -/
theorem rN_ex (f : Nat → Int32) : rN (fun i => (f i).toBitVec.toNat) = f := by
  funext i
  apply Int32.toBitVec_inj.mp
  show BitVec.ofNat 32 (f i).toBitVec.toNat = (f i).toBitVec
  apply BitVec.eq_of_toNat_eq
  rw [BitVec.toNat_ofNat]
  exact Nat.mod_eq_of_lt (f i).toBitVec.isLt
theorem rO_ex (f : Nat → Int32) : rO (fun i => (f i).toBitVec.toNat + 1) = f := rN_ex f
section BLD
variable {h h1 : mm_H} {a N p : Nat} {cnt us nb wc at' kd op ih gw : Int32} {wf kf f1 f2 f3 f4 f5 f6 : Nat → Int32}
theorem HC_eq (cp : h[p]? = some (.inr (0, [.ref 1, .ref 3, .ref (p + 1), .int wc, .int at', .int kd, .int op, .int ih, .int gw]))) (cw : h[p + 1]? = some (.inl (0, 155, .inl wf))) (C : Ck h a N cnt us nb kf f1 f2 f3 f4 f5 f6) (h4 : 4 ≤ a) (hp : a + 6 ≤ p) : HC h a p wc at' kd op ih gw us nb cnt N wf kf f1 f2 f3 f4 f5 f6 = h := by
  refine hp_eq (fun k e hs => ?_)
  obtain ⟨-, c1, c2, c3⟩ := C.of4 h4
  by_cases q1 : k = p
  · subst q1
    unfold sC at hs
    rw [if_pos rfl] at hs
    rw [← hs]; exact cp
  · by_cases q2 : k = p + 1
    · subst q2
      unfold sC at hs
      rw [if_neg q1, if_pos rfl] at hs
      rw [← hs]; exact cw
    · refine C k e ?_
      unfold sC at hs
      rw [if_neg q1, if_neg q2] at hs
      unfold sK
      by_cases q0 : k = 0
      · subst q0
        rw [if_neg (by omega), if_neg (by omega), if_neg (by omega), if_neg (by omega), if_neg (by omega), if_neg (by omega), if_neg (by omega), if_neg (by omega), if_neg (by omega)] at hs
        cases hs
      · rw [if_neg q0]; exact hs
theorem HC_fr {k : Nat} (h4 : a = 4 ∨ 29 ≤ a) (hp : 29 ≤ p) (k1 : 10 ≤ k) (k2 : k < 29) : (HC h a p wc at' kd op ih gw us nb cnt N wf kf f1 f2 f3 f4 f5 f6)[k]? = h[k]? := by
  refine hp_get0 ?_
  unfold sC
  rw [if_neg (by omega), if_neg (by omega), if_neg (by omega), if_neg (by omega), if_neg (by omega), if_neg (by omega), if_neg (by omega), if_neg (by omega), if_neg (by omega), if_neg (by omega), if_neg (by omega)]
theorem HC_0 (h4 : 4 ≤ a) (hp : 29 ≤ p) : (HC h a p wc at' kd op ih gw us nb cnt N wf kf f1 f2 f3 f4 f5 f6)[0]? = h[0]? := by
  refine hp_get0 ?_
  unfold sC
  rw [if_neg (by omega), if_neg (by omega), if_neg (by omega), if_neg (by omega), if_neg (by omega), if_neg (by omega), if_neg (by omega), if_neg (by omega), if_neg (by omega), if_neg (by omega), if_neg (by omega)]
theorem Ck_HC (H : Hy h a p) (hp : 29 ≤ p) (c0 : h[0]? = some (.inr (3, [.ref 1, .ref 3]))) : Ck (HC h a p wc at' kd op ih gw us nb cnt N wf kf f1 f2 f3 f4 f5 f6) a N cnt us nb kf f1 f2 f3 f4 f5 f6 :=
  Ck_of (by rw [HC_0 H.1 hp]; exact c0) (gC_t H) (gC_k H) (gC_r H) (gC_1 H) (gC_2 H) (gC_3 H) (gC_4 H) (gC_5 H) (gC_6 H)
theorem ap_set1 {x y : mm_E} (hp : h.length = p) : (h ++ [x]).set p y = h ++ [y] := by
  subst hp
  rw [List.set_append_right _ _ (Nat.le_refl _), Nat.sub_self]
  rfl
theorem ap_set2 {x y r : mm_E} (hp : h.length = p) : (h ++ [x, r]).set p y = h ++ [y, r] := by
  subst hp
  rw [List.set_append_right _ _ (Nat.le_refl _), Nat.sub_self]
  rfl
theorem ap_get {x : mm_E} {l : List mm_E} (hp : h.length = p) : (h ++ x :: l)[p]? = some x := by
  subst hp
  rw [List.getElem?_append_right (Nat.le_refl _), Nat.sub_self]
  rfl
theorem ap_get1 {x y : mm_E} {l : List mm_E} (hp : h.length = p) : (h ++ x :: y :: l)[p + 1]? = some y := by
  subst hp
  rw [List.getElem?_append_right (Nat.le_add_right _ 1), Nat.add_sub_cancel_left]
  rfl
theorem Ck_app {l : List mm_E} (C : Ck h a N cnt us nb kf f1 f2 f3 f4 f5 f6) (ha : a + 6 ≤ h.length) (h4 : 4 ≤ a) : Ck (h ++ l) a N cnt us nb kf f1 f2 f3 f4 f5 f6 := fun k e hs => by
  have h9 := sK_len hs
  rw [List.getElem?_append_left (by omega)]
  exact C k e hs
end BLD
theorem fit_p0 {q : Nat} : mm_fits 0 0 (.ref q) = true := by
  simp only [mm_fits, Bool.and_eq_true, decide_eq_true_eq]
  exact ⟨rfl, rfl⟩
theorem fit_p1 {q : Nat} : mm_fits 0 1 (.ref q) = true := by
  simp only [mm_fits, Bool.and_eq_true, decide_eq_true_eq]
  exact ⟨rfl, rfl⟩
theorem fit_p {q : Nat} : mm_fits 0 2 (.ref q) = true := by
  simp only [mm_fits, Bool.and_eq_true, decide_eq_true_eq]
  exact ⟨rfl, rfl⟩
theorem t_pinit {xs : Nat → Int32} {L d : Nat} {h : mm_H} {a N c p : Nat} {us nb : Int32} {ks : Nat → Nat} {f1 f2 f3 f4 f5 f6 : Nat → Int32} (C : Ck h a N (nI c) us nb (rN ks) f1 f2 f3 f4 f5 f6) (h4 : 4 ≤ a) (ha : a + 6 ≤ h.length) (hp : h.length = p) (hc : c ≤ 16384) (hd : 2 ≤ d) : Rn xs L d 12 [.ref p, .ref 1, .ref 3] (h ++ [.inr (0, mm_fresh 0 9)]) (.inl none, h ++ [.inr (0, [.ref 1, .ref 3, .ref (p + 1), .int 0, .int 0, .int (nI (kA c ks 0)), .int 0, .int 0, .int (-1)]), .inl (0, 155, .inl z0)], 1, 155) := by
  have e9 : (.inr (0, mm_fresh 0 9) : mm_E) = .inr (0, [.null, .null, .null, .int 0, .int 0, .int 0, .int 0, .int 0, .int 0]) := rfl
  rw [e9]
  unfold Rn
  refine e_aload_n m_X1_init dX1_init_0 rfl rfl rfl ?_
  refine z_obj m_X1_init.z dX1_init_1 o_RX1_5 (Nat.le_of_ble_eq_true rfl) ?_
  refine e_aload_n m_X1_init dX1_init_4 rfl rfl rfl ?_
  refine e_aload_n m_X1_init dX1_init_5 rfl rfl rfl ?_
  refine e_putF (h' := h ++ [.inr (0, [.ref 1, .null, .null, .int 0, .int 0, .int 0, .int 0, .int 0, .int 0])]) m_X1_init dX1_init_6 f_RX1_11 (ap_get hp) (Nat.le_of_ble_eq_true rfl) fit_p0 rfl rfl (ap_set1 hp) ?_
  refine e_aload_n m_X1_init dX1_init_9 rfl rfl rfl ?_
  refine e_aload_n m_X1_init dX1_init_10 rfl rfl rfl ?_
  refine e_putF (h' := h ++ [.inr (0, [.ref 1, .ref 3, .null, .int 0, .int 0, .int 0, .int 0, .int 0, .int 0])]) m_X1_init dX1_init_11 f_RX1_17 (ap_get hp) (Nat.le_of_ble_eq_true rfl) fit_p1 rfl rfl (ap_set1 hp) ?_
  refine e_aload_n m_X1_init dX1_init_14 rfl rfl rfl ?_
  refine e_sipush (v := 155) m_X1_init dX1_init_15 (by decide) ?_
  refine z_newa (n := 155) (p := p + 1) (h' := h ++ [.inr (0, [.ref 1, .ref 3, .null, .int 0, .int 0, .int 0, .int 0, .int 0, .int 0]), .inl (0, 155, .inl z0)]) m_X1_init.z dX1_init_18 rfl (by decide +kernel) (by decide +kernel) (by rw [List.length_append, hp]; rfl) (by rw [List.append_assoc]; rfl) ?_
  refine e_putF (h' := h ++ [.inr (0, [.ref 1, .ref 3, .ref (p + 1), .int 0, .int 0, .int 0, .int 0, .int 0, .int 0]), .inl (0, 155, .inl z0)]) m_X1_init dX1_init_20 f_RX1_21 (ap_get hp) (Nat.le_of_ble_eq_true rfl) fit_p rfl rfl (ap_set2 hp) ?_
  refine e_aload_n m_X1_init dX1_init_23 rfl rfl rfl ?_
  refine e_iconst (v := (-1)) m_X1_init dX1_init_24 (by decide) ?_
  refine e_putf (h' := h ++ [.inr (0, [.ref 1, .ref 3, .ref (p + 1), .int 0, .int 0, .int 0, .int 0, .int 0, .int (-1)]), .inl (0, 155, .inl z0)]) m_X1_init dX1_init_25 f_RX1_25 (ap_get hp) (Nat.le_of_ble_eq_true rfl) (fit_i rfl) rfl (ap_set2 hp) ?_
  refine e_aload_n m_X1_init dX1_init_28 rfl rfl rfl ?_
  refine e_aload_n m_X1_init dX1_init_29 rfl rfl rfl ?_
  refine e_iconst (v := nI 0) m_X1_init dX1_init_30 (by decide) ?_
  have CA := Ck_app (l := [.inr (0, [.ref 1, .ref 3, .ref (p + 1), .int 0, .int 0, .int 0, .int 0, .int 0, .int (-1)]), .inl (0, 155, .inl z0)]) C ha h4
  have hH : Hy (h ++ [.inr (0, [.ref 1, .ref 3, .ref (p + 1), .int 0, .int 0, .int 0, .int 0, .int 0, .int (-1)]), .inl (0, 155, .inl z0)]) a p := ⟨h4, by omega, by rw [List.length_append, hp]; exact Nat.lt_succ_self _⟩
  have eH := HC_eq (wc := 0) (at' := 0) (kd := 0) (op := 0) (ih := 0) (gw := -1) (wf := z0) (ap_get hp) (ap_get1 hp) CA h4 (by omega)
  have R := r_kindAt (xs := xs) (L := L) (d := d - 1) (i := nI 0) (wc := 0) (at2 := 0) (kd := 0) (op := 0) (ih := 0) (gw := -1) (wf := z0) (cnt := nI c) (us := us) (nb := nb) (N := N) (kf := rN ks) (f1 := f1) (f2 := f2) (f3 := f3) (f4 := f4) (f5 := f5) (f6 := f6) hH (by omega)
  rw [eH, kAt_kA hc (by decide)] at R
  refine e_cv (as := [.int (nI 0)]) m_X1_init dX1_init_31 c_RX1_29 (by decide) rfl rfl (CA.of4 h4).2.1 rfl (Nat.le_of_ble_eq_true rfl) (Nat.le_of_ble_eq_true rfl) (by omega) R ?_
  refine e_putf (h' := h ++ [.inr (0, [.ref 1, .ref 3, .ref (p + 1), .int 0, .int 0, .int (nI (kA c ks 0)), .int 0, .int 0, .int (-1)]), .inl (0, 155, .inl z0)]) m_X1_init dX1_init_34 f_RX1_33 (ap_get hp) (Nat.le_of_ble_eq_true rfl) (fit_i rfl) rfl (ap_set2 hp) ?_
  exact e_ret0 m_X1_init dX1_init_37
/-- the parser at its beginning -/
def s00 (f1 f2 f3 f4 f5 f6 : Nat → Int32) : Ss := (0, 0, 0, 0, 0, 0, 0, (fun _ => 0), (fun i => (f1 i).toBitVec.toNat), (fun i => (f2 i).toBitVec.toNat), (fun i => (f3 i).toBitVec.toNat), (fun i => (f4 i).toBitVec.toNat), (fun i => (f5 i).toBitVec.toNat), (fun i => (f6 i).toBitVec.toNat + 1))
