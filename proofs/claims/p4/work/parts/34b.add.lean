/-! add and addAll. -/
theorem nI_s1 (c : Nat) : nI c + 1 = nI (c + 1) := (nI_succ c).symm
theorem ex_nat {x : Int32} (h : exB x ≠ 0) : ∃ v, 0 < v ∧ v < 128 ∧ x = nI v := by
  have h1 : ¬ x < 1 := fun q => h (by
    unfold exB exA exC
    rw [if_pos q, if_pos (Int32.lt_trans q (by decide)), if_pos (Int32.lt_trans q (by decide))])
  have h2 : ¬ 87 < x := fun q => h (by
    unfold exB exA exC
    rw [if_neg h1, if_neg (Int32.not_le.mpr (Int32.lt_trans (by decide) q)), if_neg (Int32.not_lt.mpr (Int32.le_of_lt (Int32.lt_trans (by decide) q))), if_neg (Int32.not_le.mpr (Int32.lt_trans (by decide) q)), if_neg (Int32.not_lt.mpr (Int32.le_of_lt (Int32.lt_trans (by decide) q))), if_pos q])
  have h3 := Int32.le_iff_toInt_le.mp (Int32.not_lt.mp h1)
  have h4 := Int32.le_iff_toInt_le.mp (Int32.not_lt.mp h2)
  rw [show (1 : Int32).toInt = 1 from rfl] at h3
  rw [show (87 : Int32).toInt = 87 from rfl] at h4
  refine ⟨x.toInt.toNat, by omega, by omega, Int32.toInt_inj.mp ?_⟩
  rw [nI_toInt (by omega)]
  omega
theorem nar1 : ∀ v, v < 128 → vp_nar (mm_ty 1) ((nI v).toInt8.toInt32) = nI v := by decide +kernel
theorem up_rB {f : Nat → Nat} {i v : Nat} (hb : v < 128) (hi : i < 2147483648) : upd (rN f) (nI i).toNatClampNeg (vp_nar (mm_ty 1) ((nI v).toInt8.toInt32)) = rN (upN f i v) := by
  rw [nI_clamp hi, nar1 v hb]
  funext j
  unfold rN upN upd
  by_cases h : j = i
  · rw [if_pos h, if_pos h]
  · rw [if_neg h, if_neg h]
/-- what a word of eight adds -/
def ap (w : Int64) : Nat → Nat × (Nat → Nat) → Nat × (Nat → Nat)
  | 0, p => p
  | n + 1, p => if bC w (sh (n + 1)) = 0 then ap w n p else ap w n (p.1 + 1, upN p.2 p.1 (bC w (sh (n + 1))).toInt.toNat)
/-- each byte that is not 0 is a kind -/
def kb (w : Int64) (n : Nat) : Prop := ∀ k, k < n → bC w (sh (k + 1)) = 0 ∨ exB (bC w (sh (k + 1))) ≠ 0
theorem sc_kb (w : Int64) : ∀ n m r, sc w n m = some r → kb w n := by
  intro n
  induction n with
  | zero => intro m r _ k hk; omega
  | succ n ih =>
    intro m r h k hk
    rw [sc] at h
    by_cases hb : bC w (sh (n + 1)) = 0
    · rw [if_pos hb] at h
      by_cases e : k = n
      · rw [e]; exact Or.inl hb
      · exact ih _ _ h k (by omega)
    · rw [if_neg hb] at h
      by_cases hx : exB (bC w (sh (n + 1))) = 0
      · rw [if_pos hx] at h; cases h
      · rw [if_neg hx] at h
        by_cases e : k = n
        · rw [e]; exact Or.inr hx
        · exact ih _ _ h k (by omega)
theorem ap_fst (w : Int64) : ∀ n (p q : Nat × (Nat → Nat)), p.1 = q.1 → (ap w n p).1 = (ap w n q).1 := by
  intro n
  induction n with
  | zero => intro p q h; exact h
  | succ n ih =>
    intro p q h
    rw [ap, ap]
    split
    · exact ih _ _ h
    · exact ih _ _ (by rw [h])
theorem ap_le (w : Int64) : ∀ n (p : Nat × (Nat → Nat)), (ap w n p).1 ≤ p.1 + n ∧ p.1 ≤ (ap w n p).1 := by
  intro n
  induction n with
  | zero => intro p; exact ⟨Nat.le_refl _, Nat.le_refl _⟩
  | succ n ih =>
    intro p
    rw [ap]
    split
    · have := ih p; omega
    · have := ih (p.1 + 1, upN p.2 p.1 (bC w (sh (n + 1))).toInt.toNat)
      have e : (p.1 + 1, upN p.2 p.1 (bC w (sh (n + 1))).toInt.toNat).1 = p.1 + 1 := rfl
      rw [e] at this
      omega
theorem byte_nat {x : Int32} (h : exB x ≠ 0) : 0 < x.toInt.toNat ∧ x.toInt.toNat < 128 ∧ x = nI x.toInt.toNat := by
  obtain ⟨v, h1, h2, rfl⟩ := ex_nat h
  rw [nI_toInt (by omega)]
  exact ⟨by omega, by omega, rfl⟩
theorem ap_lt (w : Int64) : ∀ n (p : Nat × (Nat → Nat)), kb w n → (∀ i, p.2 i < 128) → ∀ i, (ap w n p).2 i < 128 := by
  intro n
  induction n with
  | zero => intro p _ h; exact h
  | succ n ih =>
    intro p hk h
    rw [ap]
    split
    · exact ih p (fun k q => hk k (by omega)) h
    · rename_i hb
      refine ih _ (fun k q => hk k (by omega)) (fun i => ?_)
      show upN p.2 p.1 _ i < 128
      unfold upN
      split
      · exact (byte_nat ((hk n (by omega)).resolve_left hb)).2.1
      · exact h i
theorem ap_nz (w : Int64) : ∀ n (p : Nat × (Nat → Nat)), kb w n → (∀ i, i < p.1 → p.2 i ≠ 0 ∧ p.2 i < 128) → ∀ i, i < (ap w n p).1 → (ap w n p).2 i ≠ 0 ∧ (ap w n p).2 i < 128 := by
  intro n
  induction n with
  | zero => intro p _ h; exact h
  | succ n ih =>
    intro p hk h
    rw [ap]
    split
    · exact ih p (fun k q => hk k (by omega)) h
    · rename_i hb
      refine ih _ (fun k q => hk k (by omega)) (fun i hi => ?_)
      have hi : i < p.1 + 1 := hi
      show upN p.2 p.1 _ i ≠ 0 ∧ upN p.2 p.1 _ i < 128
      unfold upN
      split
      · have := byte_nat ((hk n (by omega)).resolve_left hb)
        exact ⟨by omega, this.2.1⟩
      · exact h i (by omega)
theorem t_room {xs : Nat → Int32} {L d : Nat} {h0 : mm_H} {a N : Nat} {us nb : Int32} {f1 f2 f3 f4 f5 f6 : Nat → Int32} {c m : Nat} {ks : Nat → Nat} (hK : Hk h0 a N) (hc : c + m ≤ 16384) (hd : 1 ≤ d) : Rn xs L d 5 [.ref 1, .int (nI m)] (HK h0 a N (nI c) us nb (rN ks) f1 f2 f3 f4 f5 f6) (.inl (some (.int 1)), HK h0 a N (nI c) us nb (rN ks) f1 f2 f3 f4 f5 f6, 0, 0) := by
  have hm : mm_cond .gt (nI m) (16384 - nI c) = false := decide_eq_false (by rw [show (16384 : Int32) - nI c = nI (16384 - c) from nI_sub (a := 16384) (by omega), nI_ltI (by omega) (by omega)]; omega)
  have E : Es xs L d 5 0 (lv_args 0 [.ref 1, .int (nI m)]) [] (HK h0 a N (nI c) us nb (rN ks) f1 f2 f3 f4 f5 f6) 0 0 (fun o => o = (.inl (some (.int 1)), HK h0 a N (nI c) us nb (rN ks) f1 f2 f3 f4 f5 f6, 0, 0)) := by
    refine Es.via (fun o K => e_iload_n m_X2_haveRoomFor dX2_haveRoomFor_0 rfl rfl K) ?_
    refine Es.via (fun o K => e_sipush (v := 16384) m_X2_haveRoomFor dX2_haveRoomFor_1 (by decide) K) ?_
    refine Es.via (fun o K => e_aload_n m_X2_haveRoomFor dX2_haveRoomFor_4 rfl rfl rfl K) ?_
    refine Es.via (fun o K => e_getf m_X2_haveRoomFor dX2_haveRoomFor_5 f_RX2_13 (gK_1 hK) rfl K) ?_
    refine Es.via (fun o K => e_isub m_X2_haveRoomFor dX2_haveRoomFor_8 K) ?_
    refine Es.via (fun o K => e_icF (t := 16) m_X2_haveRoomFor dX2_haveRoomFor_9 (by decide) hm K) ?_
    refine Es.via (fun o K => e_iconst (v := 1) m_X2_haveRoomFor dX2_haveRoomFor_12 (by decide) K) ?_
    refine Es.via (fun o K => e_goto (t := 17) m_X2_haveRoomFor dX2_haveRoomFor_13 (by decide) K) ?_
    exact ⟨_, e_reti m_X2_haveRoomFor dX2_haveRoomFor_17 (Or.inr ⟨rfl, by decide⟩), rfl⟩
  obtain ⟨_, h1, rfl⟩ := E
  exact h1
theorem t_append {xs : Nat → Int32} {L d : Nat} {h0 : mm_H} {a N : Nat} {us nb : Int32} {f1 f2 f3 f4 f5 f6 : Nat → Int32} {c v : Nat} {ks : Nat → Nat} (hK : Hk h0 a N) (hc : c < 16384) (hv : v < 128) (hd : 1 ≤ d) : Rn xs L d 6 [.ref 1, .int (nI v)] (HK h0 a N (nI c) us nb (rN ks) f1 f2 f3 f4 f5 f6) (.inl none, HK h0 a N (nI (c + 1)) us nb (rN (upN ks c v)) f1 f2 f3 f4 f5 f6, 0, 0) := by
  have q16 : mm_cond .ge (nI c) (Int32.ofNat 16384) = false := decide_eq_false (by rw [show Int32.ofNat 16384 = nI 16384 from rfl, nI_leI (by decide) (by omega)]; omega)
  unfold Rn
  refine e_aload_n m_X2_append dX2_append_0 rfl rfl rfl ?_
  refine e_getf m_X2_append dX2_append_1 f_RX2_13 (gK_1 hK) rfl ?_
  refine e_ifF (t := 40) m_X2_append dX2_append_4 (by decide) (n_nlt (by omega)) ?_
  refine e_aload_n m_X2_append dX2_append_7 rfl rfl rfl ?_
  refine e_getf m_X2_append dX2_append_8 f_RX2_13 (gK_1 hK) rfl ?_
  refine e_aload_n m_X2_append dX2_append_11 rfl rfl rfl ?_
  refine e_getf m_X2_append dX2_append_12 f_RX2_9 (gK_1 hK) rfl ?_
  refine e_alen m_X2_append dX2_append_15 (gK_2 hK) (by decide) ?_
  refine e_icF (t := 40) m_X2_append dX2_append_16 (by decide) q16 ?_
  refine e_aload_n m_X2_append dX2_append_19 rfl rfl rfl ?_
  refine e_getf m_X2_append dX2_append_20 f_RX2_9 (gK_1 hK) rfl ?_
  refine e_aload_n m_X2_append dX2_append_23 rfl rfl rfl ?_
  refine e_getf m_X2_append dX2_append_24 f_RX2_13 (gK_1 hK) rfl ?_
  refine e_iload_n m_X2_append dX2_append_27 rfl rfl ?_
  refine e_i2b m_X2_append dX2_append_28 ?_
  refine e_iast (h' := HK h0 a N (nI c) us nb (rN (upN ks c v)) f1 f2 f3 f4 f5 f6) (Or.inr ⟨rfl, Or.inl rfl⟩) m_X2_append dX2_append_29 (gK_2 hK) (nI_in hc (by decide)) (by rw [up_rB hv (by omega)]; exact sK_2 hK) ?_
  refine e_aload_n m_X2_append dX2_append_30 rfl rfl rfl ?_
  refine e_dup m_X2_append dX2_append_31 rfl ?_
  refine e_getf m_X2_append dX2_append_32 f_RX2_13 (gK_1 hK) rfl ?_
  refine e_iconst (v := 1) m_X2_append dX2_append_35 (by decide) ?_
  refine e_iadd m_X2_append dX2_append_36 ?_
  refine e_putf (h' := HK h0 a N (nI (c + 1)) us nb (rN (upN ks c v)) f1 f2 f3 f4 f5 f6) m_X2_append dX2_append_37 f_RX2_13 (gK_1 hK) (Nat.le_of_ble_eq_true rfl) (fit_i rfl) rfl (by rw [nI_s1]; exact sK_1 hK) ?_
  exact e_ret0 m_X2_append dX2_append_40
theorem t_add0 {xs : Nat → Int32} {L d : Nat} {h0 : mm_H} {a N : Nat} {us nb : Int32} {f1 f2 f3 f4 f5 f6 : Nat → Int32} {c : Nat} {ks : Nat → Nat} {x : Int32} (hx : exB x = 0) (hd : 2 ≤ d) : Rn xs L d 3 [.ref 0, .int x] (HK h0 a N (nI c) us nb (rN ks) f1 f2 f3 f4 f5 f6) (.inl (some (.int 0)), HK h0 a N (nI c) us nb (rN ks) f1 f2 f3 f4 f5 f6, 0, 0) := by
  unfold Rn
  refine e_iload_n m_X5_add dX5_add_0 rfl rfl ?_
  refine e_cs (as := [.int x]) m_X5_add dX5_add_1 c_RX5_23 (by decide) rfl rfl (Nat.le_of_ble_eq_true rfl) (Nat.le_of_ble_eq_true rfl) hd t_exists ?_
  refine e_ifT (t := 18) m_X5_add dX5_add_4 (by decide) (by rw [hx]; rfl) ?_
  refine e_iconst (v := 0) m_X5_add dX5_add_18 (by decide) ?_
  exact e_reti m_X5_add dX5_add_19 (Or.inr ⟨rfl, by decide⟩)
theorem t_add1 {xs : Nat → Int32} {L d : Nat} {h0 : mm_H} {a N : Nat} {us nb : Int32} {f1 f2 f3 f4 f5 f6 : Nat → Int32} {c v : Nat} {ks : Nat → Nat} (hK : Hk h0 a N) (hx : exB (nI v) ≠ 0) (hv : v < 128) (hc : c < 16384) (hd : 2 ≤ d) : Rn xs L d 3 [.ref 0, .int (nI v)] (HK h0 a N (nI c) us nb (rN ks) f1 f2 f3 f4 f5 f6) (.inl (some (.int 1)), HK h0 a N (nI (c + 1)) us nb (rN (upN ks c v)) f1 f2 f3 f4 f5 f6, 0, 0) := by
  unfold Rn
  refine e_iload_n m_X5_add dX5_add_0 rfl rfl ?_
  refine e_cs (as := [.int (nI v)]) m_X5_add dX5_add_1 c_RX5_23 (by decide) rfl rfl (Nat.le_of_ble_eq_true rfl) (Nat.le_of_ble_eq_true rfl) hd t_exists ?_
  refine e_ifF (t := 18) m_X5_add dX5_add_4 (by decide) (decide_eq_false hx) ?_
  refine e_aload_n m_X5_add dX5_add_7 rfl rfl rfl ?_
  refine e_getf m_X5_add dX5_add_8 f_RX5_10 (gK_0 hK) rfl ?_
  refine e_iconst (v := nI 1) m_X5_add dX5_add_11 (by decide) ?_
  refine e_cv (as := [.int (nI 1)]) m_X5_add dX5_add_12 c_RX5_29 (by decide) rfl rfl (gK_1 hK) rfl (Nat.le_of_ble_eq_true rfl) (Nat.le_of_ble_eq_true rfl) hd (t_room hK (by omega) (by omega)) ?_
  refine e_ifT (t := 20) m_X5_add dX5_add_15 (by decide) (by decide) ?_
  refine e_aload_n m_X5_add dX5_add_20 rfl rfl rfl ?_
  refine e_getf m_X5_add dX5_add_21 f_RX5_10 (gK_0 hK) rfl ?_
  refine e_iload_n m_X5_add dX5_add_24 rfl rfl ?_
  refine e_cv (as := [.int (nI v)]) m_X5_add dX5_add_25 c_RX5_32 (by decide) rfl rfl (gK_1 hK) rfl (Nat.le_of_ble_eq_true rfl) (Nat.le_of_ble_eq_true rfl) hd (t_append hK hc hv (by omega)) ?_
  refine e_iconst (v := 1) m_X5_add dX5_add_28 (by decide) ?_
  exact e_reti m_X5_add dX5_add_29 (Or.inr ⟨rfl, by decide⟩)
theorem t_appl {xs : Nat → Int32} {L d : Nat} {h0 : mm_H} {a N : Nat} {us nb : Int32} {f1 f2 f3 f4 f5 f6 : Nat → Int32} {w : Int64} (hK : Hk h0 a N) (hd : 2 ≤ d) : ∀ n, n ≤ 8 → kb w n → ∀ (c : Nat) (ks : Nat → Nat) (ls : mm_L) (hl0 : mm_lk ls 0 = some (.ref 0)) (hl1 : mm_lk ls 1 = some (.long w)) (hl4 : mm_lk ls 4 = some (.int (sh n))), c + n ≤ 16384 → Ev xs L d 7 60 ls [] (HK h0 a N (nI c) us nb (rN ks) f1 f2 f3 f4 f5 f6) 0 0 (.inl (some (.int 1)), HK h0 a N (nI (ap w (n) (c, ks)).1) us nb (rN (ap w (n) (c, ks)).2) f1 f2 f3 f4 f5 f6, 0, 0) := by
  intro n
  induction n with
  | zero =>
    intro _ _ c ks ls hl0 hl1 hl4 _
    refine e_iload m_X5_addAll dX5_addAll_60 hl4 ?_
    refine e_ifT (t := 93) m_X5_addAll dX5_addAll_62 (by decide) (by decide) ?_
    refine e_iconst (v := 1) m_X5_addAll dX5_addAll_93 (by decide) ?_
    exact e_reti m_X5_addAll dX5_addAll_94 (Or.inr ⟨rfl, by decide⟩)
  | succ n ih =>
    intro hn hk c ks ls hl0 hl1 hl4 hc
    have hkn : kb w n := fun k q => hk k (by omega)
    rw [ap]
    by_cases hb : bC w (sh (n + 1)) = 0
    · rw [if_pos hb]
      have K := ih (by omega) hkn c ks (mm_s1 (mm_s1 ls 5 (.int (bC w (sh (n + 1))))) 4 (.int (sh n))) (lk_mis (by decide) rfl (lk_mis (by decide) rfl hl0)) (lk_mis2 (by decide) (by decide) (lk_mis2 (by decide) (by decide) hl1)) lk_hit (by omega)
      refine e_iload m_X5_addAll dX5_addAll_60 hl4 ?_
      refine e_ifF (t := 93) m_X5_addAll dX5_addAll_62 (by decide) (sh_nn n (by omega)) ?_
      refine e_lload_n m_X5_addAll dX5_addAll_65 rfl hl1 ?_
      refine e_iload m_X5_addAll dX5_addAll_66 hl4 ?_
      refine e_cs (as := [.long w, .int (sh (n + 1))]) m_X5_addAll dX5_addAll_68 c_RX5_36 (by decide) rfl rfl (Nat.le_of_ble_eq_true rfl) (Nat.le_of_ble_eq_true rfl) hd t_byteOf ?_
      refine e_istore (ls' := mm_s1 ls 5 (.int (bC w (sh (n + 1))))) m_X5_addAll dX5_addAll_71 (by decide) rfl ?_
      refine e_iload m_X5_addAll dX5_addAll_73 lk_hit ?_
      refine e_ifT (t := 87) m_X5_addAll dX5_addAll_75 (by decide) (decide_eq_true hb) ?_
      refine e_iinc m_X5_addAll dX5_addAll_87 (by decide) (lk_mis (by decide) rfl hl4) (sh_dn n (by omega)) rfl ?_
      refine e_goto (t := 60) m_X5_addAll dX5_addAll_90 (by decide) ?_
      exact K
    · rw [if_neg hb]
      obtain ⟨b1, b2, b3⟩ := byte_nat ((hk n (by omega)).resolve_left hb)
      have K := ih (by omega) hkn (c + 1) (upN ks c (bC w (sh (n + 1))).toInt.toNat) (mm_s1 (mm_s1 ls 5 (.int (bC w (sh (n + 1))))) 4 (.int (sh n))) (lk_mis (by decide) rfl (lk_mis (by decide) rfl hl0)) (lk_mis2 (by decide) (by decide) (lk_mis2 (by decide) (by decide) hl1)) lk_hit (by omega)
      have R := t_append (xs := xs) (L := L) (d := d - 1) (h0 := h0) (a := a) (N := N) (us := us) (nb := nb) (f1 := f1) (f2 := f2) (f3 := f3) (f4 := f4) (f5 := f5) (f6 := f6) (ks := ks) hK (show c < 16384 by omega) b2 (by omega)
      rw [← b3] at R
      refine e_iload m_X5_addAll dX5_addAll_60 hl4 ?_
      refine e_ifF (t := 93) m_X5_addAll dX5_addAll_62 (by decide) (sh_nn n (by omega)) ?_
      refine e_lload_n m_X5_addAll dX5_addAll_65 rfl hl1 ?_
      refine e_iload m_X5_addAll dX5_addAll_66 hl4 ?_
      refine e_cs (as := [.long w, .int (sh (n + 1))]) m_X5_addAll dX5_addAll_68 c_RX5_36 (by decide) rfl rfl (Nat.le_of_ble_eq_true rfl) (Nat.le_of_ble_eq_true rfl) hd t_byteOf ?_
      refine e_istore (ls' := mm_s1 ls 5 (.int (bC w (sh (n + 1))))) m_X5_addAll dX5_addAll_71 (by decide) rfl ?_
      refine e_iload m_X5_addAll dX5_addAll_73 lk_hit ?_
      refine e_ifF (t := 87) m_X5_addAll dX5_addAll_75 (by decide) (decide_eq_false hb) ?_
      refine e_aload_n m_X5_addAll dX5_addAll_78 rfl (lk_mis (by decide) rfl hl0) rfl ?_
      refine e_getf m_X5_addAll dX5_addAll_79 f_RX5_10 (gK_0 hK) rfl ?_
      refine e_iload m_X5_addAll dX5_addAll_82 lk_hit ?_
      refine e_cv (as := [_]) m_X5_addAll dX5_addAll_84 c_RX5_32 (by decide) rfl rfl (gK_1 hK) rfl (Nat.le_of_ble_eq_true rfl) (Nat.le_of_ble_eq_true rfl) hd R ?_
      refine e_iinc m_X5_addAll dX5_addAll_87 (by decide) (lk_mis (by decide) rfl hl4) (sh_dn n (by omega)) rfl ?_
      refine e_goto (t := 60) m_X5_addAll dX5_addAll_90 (by decide) ?_
      exact K
theorem t_addAll0 {xs : Nat → Int32} {L d : Nat} {h : mm_H} {w : Int64} (hd : 2 ≤ d) (hs : sc w 8 0 = none) : Rn xs L d 7 [.ref 0, .long w] h (.inl (some (.int 0)), h, 0, 0) := by
  unfold Rn
  refine e_iconst (v := nI 0) m_X5_addAll dX5_addAll_0 (by decide) ?_
  refine e_istore_n m_X5_addAll dX5_addAll_1 rfl (by decide) rfl ?_
  refine e_bipush (v := sh 8) m_X5_addAll dX5_addAll_2 (by decide) ?_
  refine e_istore m_X5_addAll dX5_addAll_4 (by decide) rfl ?_
  exact t_scanN hd 8 (by omega) 0 _ rfl rfl rfl rfl hs
theorem t_addAll1 {xs : Nat → Int32} {L d : Nat} {h0 : mm_H} {a N : Nat} {us nb : Int32} {f1 f2 f3 f4 f5 f6 : Nat → Int32} {c : Nat} {ks : Nat → Nat} {w : Int64} {r : Nat} (hK : Hk h0 a N) (hd : 2 ≤ d) (hs : sc w 8 0 = some r) (hc : c + 8 ≤ 16384) : Rn xs L d 7 [.ref 0, .long w] (HK h0 a N (nI c) us nb (rN ks) f1 f2 f3 f4 f5 f6) (.inl (some (.int 1)), HK h0 a N (nI (ap w 8 (c, ks)).1) us nb (rN (ap w 8 (c, ks)).2) f1 f2 f3 f4 f5 f6, 0, 0) := by
  have hr := sc_le w 8 0 r hs
  obtain ⟨ls', g0, g1, g3, K⟩ := t_scanS (xs := xs) (L := L) (h := HK h0 a N (nI c) us nb (rN ks) f1 f2 f3 f4 f5 f6) hd 8 (by omega) 0 r [(4, .int (sh 8)), (3, .int (nI 0)), (0, .ref 0), (1, .long w)] rfl rfl rfl rfl hs
  have K2 := t_appl (xs := xs) (L := L) (us := us) (nb := nb) (f1 := f1) (f2 := f2) (f3 := f3) (f4 := f4) (f5 := f5) (f6 := f6) hK hd 8 (by omega) (sc_kb w 8 0 r hs) c ks (mm_s1 ls' 4 (.int (sh 8))) (lk_mis (by decide) rfl g0) (lk_mis2 (by decide) (by decide) g1) lk_hit hc
  unfold Rn
  refine e_iconst (v := nI 0) m_X5_addAll dX5_addAll_0 (by decide) ?_
  refine e_istore_n m_X5_addAll dX5_addAll_1 rfl (by decide) rfl ?_
  refine e_bipush (v := sh 8) m_X5_addAll dX5_addAll_2 (by decide) ?_
  refine e_istore m_X5_addAll dX5_addAll_4 (by decide) rfl ?_
  refine K _ ?_
  refine e_aload_n m_X5_addAll dX5_addAll_43 rfl g0 rfl ?_
  refine e_getf m_X5_addAll dX5_addAll_44 f_RX5_10 (gK_0 hK) rfl ?_
  refine e_iload_n m_X5_addAll dX5_addAll_47 rfl g3 ?_
  refine e_cv (as := [_]) m_X5_addAll dX5_addAll_48 c_RX5_29 (by decide) rfl rfl (gK_1 hK) rfl (Nat.le_of_ble_eq_true rfl) (Nat.le_of_ble_eq_true rfl) hd (t_room hK (by omega) (by omega)) ?_
  refine e_ifT (t := 56) m_X5_addAll dX5_addAll_51 (by decide) (by decide) ?_
  refine e_bipush (v := sh 8) m_X5_addAll dX5_addAll_56 (by decide) ?_
  refine e_istore m_X5_addAll dX5_addAll_58 (by decide) rfl ?_
  exact K2
