/-! The parser's small methods. -/
/-- the kind of the token i; 0 behind the last one -/
def kAt (cnt : Int32) (kf : Nat → Int32) (i : Int32) : Int32 := if i < 0 then 0 else if cnt ≤ i then 0 else if Int32.ofNat 16384 ≤ i then 0 else kf i.toNatClampNeg
theorem in_of {i : Int32} {n : Nat} (hn : n < 2 ^ 31) (h0 : ¬ i < 0) (h1 : ¬ Int32.ofNat n ≤ i) : vp_in i n := by
  rintro (h | h)
  · exact h0 h
  · obtain ⟨j, hj, rfl⟩ := nI_of h0
    rw [nI_clamp hj] at h
    exact h1 (nI_le h hj)
theorem r_kindAt {xs : Nat → Int32} {L d : Nat} {h0 : mm_H} {a p N : Nat} {wc at2 kd op ih gw us nb cnt : Int32} {wf kf f1 f2 f3 f4 f5 f6 : Nat → Int32} {i : Int32} (H : Hy h0 a p) (hd : 1 ≤ d) : Rn xs L d 13 [.ref 1, .int i] (HC h0 a p wc at2 kd op ih gw us nb cnt N wf kf f1 f2 f3 f4 f5 f6) (.inl (some (.int (kAt cnt kf i))), (HC h0 a p wc at2 kd op ih gw us nb cnt N wf kf f1 f2 f3 f4 f5 f6), 0, 0) := by
  unfold Rn
  refine e_iload_n m_X2_kindAt dX2_kindAt_0 rfl rfl ?_
  refine e_if (t := 30) m_X2_kindAt dX2_kindAt_1 (by decide) (fun q1 => ?_) (fun q1 => ?_)
  · have q1 := c_lt q1
    refine e_iconst (v := 0) m_X2_kindAt dX2_kindAt_30 (by decide) ?_
    unfold kAt
    rw [if_pos q1]
    exact e_reti m_X2_kindAt dX2_kindAt_31 (Or.inl rfl)
  · have q1 := c_lt' q1
    refine e_iload_n m_X2_kindAt dX2_kindAt_4 rfl rfl ?_
    refine e_aload_n m_X2_kindAt dX2_kindAt_5 rfl rfl rfl ?_
    refine e_getf m_X2_kindAt dX2_kindAt_6 f_RX2_13 (gC_t H) rfl ?_
    refine e_icmp (t := 30) m_X2_kindAt dX2_kindAt_9 (by decide) (fun q2 => ?_) (fun q2 => ?_)
    · have q2 := c_ge q2
      refine e_iconst (v := 0) m_X2_kindAt dX2_kindAt_30 (by decide) ?_
      unfold kAt
      rw [if_neg q1]
      rw [if_pos q2]
      exact e_reti m_X2_kindAt dX2_kindAt_31 (Or.inl rfl)
    · have q2 := c_ge' q2
      refine e_iload_n m_X2_kindAt dX2_kindAt_12 rfl rfl ?_
      refine e_aload_n m_X2_kindAt dX2_kindAt_13 rfl rfl rfl ?_
      refine e_getf m_X2_kindAt dX2_kindAt_14 f_RX2_9 (gC_t H) rfl ?_
      refine e_alen m_X2_kindAt dX2_kindAt_17 (gC_k H) (by decide) ?_
      refine e_icmp (t := 30) m_X2_kindAt dX2_kindAt_18 (by decide) (fun q3 => ?_) (fun q3 => ?_)
      · have q3 := c_ge q3
        refine e_iconst (v := 0) m_X2_kindAt dX2_kindAt_30 (by decide) ?_
        unfold kAt
        rw [if_neg q1]
        rw [if_neg q2]
        rw [if_pos q3]
        exact e_reti m_X2_kindAt dX2_kindAt_31 (Or.inl rfl)
      · have q3 := c_ge' q3
        refine e_aload_n m_X2_kindAt dX2_kindAt_21 rfl rfl rfl ?_
        refine e_getf m_X2_kindAt dX2_kindAt_22 f_RX2_9 (gC_t H) rfl ?_
        refine e_iload_n m_X2_kindAt dX2_kindAt_25 rfl rfl ?_
        refine e_iald (Or.inr ⟨rfl, Or.inl rfl⟩) m_X2_kindAt dX2_kindAt_26 (gC_k H) (in_of (by decide) q1 q3) ?_
        refine e_goto (t := 31) m_X2_kindAt dX2_kindAt_27 (by decide) ?_
        unfold kAt
        rw [if_neg q1]
        rw [if_neg q2]
        rw [if_neg q3]
        exact e_reti m_X2_kindAt dX2_kindAt_31 (Or.inl rfl)

theorem r_sees {xs : Nat → Int32} {L d : Nat} {h0 : mm_H} {a p N : Nat} {wc at2 kd op ih gw us nb cnt : Int32} {wf kf f1 f2 f3 f4 f5 f6 : Nat → Int32} {x : Int32} (H : Hy h0 a p) (hd : 1 ≤ d) : Rn xs L d 16 [.ref p, .int x] (HC h0 a p wc at2 kd op ih gw us nb cnt N wf kf f1 f2 f3 f4 f5 f6) (.inl (some (.int (if kd = x then 1 else 0))), (HC h0 a p wc at2 kd op ih gw us nb cnt N wf kf f1 f2 f3 f4 f5 f6), 0, 0) := by
  unfold Rn
  refine e_aload_n m_X1_sees dX1_sees_0 rfl rfl rfl ?_
  refine e_getf m_X1_sees dX1_sees_1 f_RX1_33 (gC_p H) rfl ?_
  refine e_iload_n m_X1_sees dX1_sees_4 rfl rfl ?_
  refine e_icmp (t := 12) m_X1_sees dX1_sees_5 (by decide) (fun q1 => ?_) (fun q1 => ?_)
  · have q1 := c_ne q1
    refine e_iconst (v := 0) m_X1_sees dX1_sees_12 (by decide) ?_
    rw [if_neg q1]
    exact e_reti m_X1_sees dX1_sees_13 (Or.inr ⟨rfl, Or.inl rfl⟩)
  · have q1 := c_ne' q1
    refine e_iconst (v := 1) m_X1_sees dX1_sees_8 (by decide) ?_
    refine e_goto (t := 13) m_X1_sees dX1_sees_9 (by decide) ?_
    rw [if_pos q1]
    exact e_reti m_X1_sees dX1_sees_13 (Or.inr ⟨rfl, Or.inr rfl⟩)

theorem r_nextKind {xs : Nat → Int32} {L d : Nat} {h0 : mm_H} {a p N : Nat} {wc at2 kd op ih gw us nb cnt : Int32} {wf kf f1 f2 f3 f4 f5 f6 : Nat → Int32} (H : Hy h0 a p) (hd : 2 ≤ d) : Rn xs L d 32 [.ref p] (HC h0 a p wc at2 kd op ih gw us nb cnt N wf kf f1 f2 f3 f4 f5 f6) (.inl (some (.int (kAt cnt kf (at2 + 1)))), (HC h0 a p wc at2 kd op ih gw us nb cnt N wf kf f1 f2 f3 f4 f5 f6), 0, 0) := by
  unfold Rn
  refine e_aload_n m_X1_nextKind dX1_nextKind_0 rfl rfl rfl ?_
  refine e_getf m_X1_nextKind dX1_nextKind_1 f_RX1_11 (gC_p H) rfl ?_
  refine e_aload_n m_X1_nextKind dX1_nextKind_4 rfl rfl rfl ?_
  refine e_getf m_X1_nextKind dX1_nextKind_5 f_RX1_43 (gC_p H) rfl ?_
  refine e_iconst (v := 1) m_X1_nextKind dX1_nextKind_8 (by decide) ?_
  refine e_iadd m_X1_nextKind dX1_nextKind_9 ?_
  refine e_cv (as := [_]) m_X1_nextKind dX1_nextKind_10 c_RX1_29 (by decide) rfl rfl (gC_t H) rfl (Nat.le_of_ble_eq_true rfl) (Nat.le_of_ble_eq_true rfl) (by omega) (r_kindAt H (by omega)) ?_
  exact e_reti m_X1_nextKind dX1_nextKind_13 (Or.inl rfl)

theorem r_take {xs : Nat → Int32} {L d : Nat} {h0 : mm_H} {a p N : Nat} {wc at2 kd op ih gw us nb cnt : Int32} {wf kf f1 f2 f3 f4 f5 f6 : Nat → Int32} (H : Hy h0 a p) (hd : 2 ≤ d) : Rn xs L d 18 [.ref p] (HC h0 a p wc at2 kd op ih gw us nb cnt N wf kf f1 f2 f3 f4 f5 f6) (.inl (some (.int at2)), (HC h0 a p wc (at2 + 1) (kAt cnt kf (at2 + 1)) op ih gw us nb cnt N wf kf f1 f2 f3 f4 f5 f6), 0, 0) := by
  unfold Rn
  refine e_aload_n m_X1_take dX1_take_0 rfl rfl rfl ?_
  refine e_getf m_X1_take dX1_take_1 f_RX1_43 (gC_p H) rfl ?_
  refine e_istore_n m_X1_take dX1_take_4 rfl (by decide) rfl ?_
  refine e_aload_n m_X1_take dX1_take_5 rfl rfl rfl ?_
  refine e_dup m_X1_take dX1_take_6 rfl ?_
  refine e_getf m_X1_take dX1_take_7 f_RX1_43 (gC_p H) rfl ?_
  refine e_iconst (v := 1) m_X1_take dX1_take_10 (by decide) ?_
  refine e_iadd m_X1_take dX1_take_11 ?_
  refine e_putf m_X1_take dX1_take_12 f_RX1_43 (gC_p H) (Nat.le_of_ble_eq_true rfl) (fit_i rfl) rfl (sC_p H) ?_
  refine e_aload_n m_X1_take dX1_take_15 rfl rfl rfl ?_
  refine e_aload_n m_X1_take dX1_take_16 rfl rfl rfl ?_
  refine e_getf m_X1_take dX1_take_17 f_RX1_11 (gC_p H) rfl ?_
  refine e_aload_n m_X1_take dX1_take_20 rfl rfl rfl ?_
  refine e_getf m_X1_take dX1_take_21 f_RX1_43 (gC_p H) rfl ?_
  refine e_cv (as := [_]) m_X1_take dX1_take_24 c_RX1_29 (by decide) rfl rfl (gC_t H) rfl (Nat.le_of_ble_eq_true rfl) (Nat.le_of_ble_eq_true rfl) (by omega) (r_kindAt H (by omega)) ?_
  refine e_putf m_X1_take dX1_take_27 f_RX1_33 (gC_p H) (Nat.le_of_ble_eq_true rfl) (fit_i rfl) rfl (sC_p H) ?_
  refine e_iload_n m_X1_take dX1_take_30 rfl rfl ?_
  exact e_reti m_X1_take dX1_take_31 (Or.inl rfl)

theorem r_closePart {xs : Nat → Int32} {L d : Nat} {h0 : mm_H} {a p N : Nat} {wc at2 kd op ih gw us nb cnt : Int32} {wf kf f1 f2 f3 f4 f5 f6 : Nat → Int32} (H : Hy h0 a p) (hd : 1 ≤ d) : Rn xs L d 41 [.ref p] (HC h0 a p wc at2 kd op ih gw us nb cnt N wf kf f1 f2 f3 f4 f5 f6) (.inl none, (HC h0 a p wc at2 kd (op - 1) ih gw us nb cnt N wf kf f1 f2 f3 f4 f5 f6), 0, 0) := by
  unfold Rn
  refine e_aload_n m_X1_closePart dX1_closePart_0 rfl rfl rfl ?_
  refine e_dup m_X1_closePart dX1_closePart_1 rfl ?_
  refine e_getf m_X1_closePart dX1_closePart_2 f_RX1_57 (gC_p H) rfl ?_
  refine e_iconst (v := 1) m_X1_closePart dX1_closePart_5 (by decide) ?_
  refine e_isub m_X1_closePart dX1_closePart_6 ?_
  refine e_putf m_X1_closePart dX1_closePart_7 f_RX1_57 (gC_p H) (Nat.le_of_ble_eq_true rfl) (fit_i rfl) rfl (sC_p H) ?_
  exact e_ret0 m_X1_closePart dX1_closePart_10

theorem b_f {P : Prop} [Decidable P] (h : (if P then (1 : Int32) else 0) = 0) : ¬ P := fun hp => by rw [if_pos hp] at h; exact absurd h (by decide)
theorem b_t {P : Prop} [Decidable P] (h : ¬ (if P then (1 : Int32) else 0) = 0) : P := by
  by_cases hp : P
  · exact hp
  · rw [if_neg hp] at h; exact absurd rfl h
/-- 'throw new E(text)' -/
theorem e_thr {xs : Nat → Int32} {L d mi pc : Nat} {ls : mm_L} {st : List Value} {h : mm_H} {c z : Nat} {own nm : String} {cc : ByteArray} {nL : Nat} {rt : Option FieldType} {ix si ic i ps : Nat} {E ow : String} (hm : Is mi own cc nL rt nm) (d0 : decode cc pc = .ok (.new ix, 3)) (hN : mm_N own ix = none) (hX : mm_X own ix = some (ow, i, E, ps)) (d3 : decode cc (pc + 3) = .ok (.dup, 1)) (d4 : decode cc (pc + 4) = .ok (.ldc si, 2)) (d6 : decode cc (pc + 6) = .ok (.invokespecial ic, 3)) (d9 : decode cc (pc + 9) = .ok (.athrow, 1))
    (hin : (own, ix, E, si, ic) ∈ [(RX1, 36, "java/lang/IllegalStateException", 38, 40), (RX5, 69, "java/util/NoSuchElementException", 71, 73), (RX5, 69, "java/util/NoSuchElementException", 92, 73), (RX5, 69, "java/util/NoSuchElementException", 94, 73)]) (hs : (st.map fun v => v.category).sum ≤ 8) (hd : 8 ≤ d) : Ev xs L d mi pc ls st h c z (.inr E, h, c + 1, z + 6) := by
  obtain ⟨me, q1, rfl, rfl, rfl, rfl, rfl, q7⟩ := hm
  refine ⟨1, ?_⟩
  have ha : mm_act me xs L (.new ix) 3 pc ls st h c z = some (.inr (.inr (.inl E))) := by
    simp only [mm_act, if_true, mm_new, hN, hX, d3, d4, d6, d9]
    rw [if_pos ⟨q7, hs, hin⟩]
  unfold mm_ev
  simp only [q1, d0, ha]
  rw [if_neg (by omega)]
theorem r_refuse {xs : Nat → Int32} {L d : Nat} {h0 : mm_H} {a p N : Nat} {wc at2 kd op ih gw us nb cnt : Int32} {wf kf f1 f2 f3 f4 f5 f6 : Nat → Int32} (hd : 8 ≤ d) : Rn xs L d 17 [.ref p] (HC h0 a p wc at2 kd op ih gw us nb cnt N wf kf f1 f2 f3 f4 f5 f6) (.inr mm_ISE, (HC h0 a p wc at2 kd op ih gw us nb cnt N wf kf f1 f2 f3 f4 f5 f6), 1, 6) := by
  unfold Rn
  exact e_thr m_X1_refuse dX1_refuse_0 (by decide +kernel) (by decide +kernel : mm_X RX1 36 = some (RX1, 36, mm_ISE, 356)) dX1_refuse_3 dX1_refuse_4 dX1_refuse_6 dX1_refuse_9 List.mem_cons_self (Nat.zero_le _) hd
-- accept branches at [7]
theorem r_accept_t {xs : Nat → Int32} {L d : Nat} {h0 : mm_H} {a p N : Nat} {wc at2 kd op ih gw us nb cnt : Int32} {wf kf f1 f2 f3 f4 f5 f6 : Nat → Int32} {x : Int32} (H : Hy h0 a p) (hd : 3 ≤ d) (hx : kd = x) : Rn xs L d 39 [.ref p, .int x] (HC h0 a p wc at2 kd op ih gw us nb cnt N wf kf f1 f2 f3 f4 f5 f6) (.inl (some (.int 1)), (HC h0 a p wc (at2 + 1) (kAt cnt kf (at2 + 1)) op ih gw us nb cnt N wf kf f1 f2 f3 f4 f5 f6), 0, 0) := by
  unfold Rn
  refine e_aload_n m_X1_accept dX1_accept_0 rfl rfl rfl ?_
  refine e_iload_n m_X1_accept dX1_accept_1 rfl rfl ?_
  refine e_cv (as := [_]) m_X1_accept dX1_accept_2 c_RX1_46 (by decide) rfl rfl (gC_p H) rfl (Nat.le_of_ble_eq_true rfl) (Nat.le_of_ble_eq_true rfl) (by omega) (r_sees H (by omega)) ?_
  refine e_istore_n m_X1_accept dX1_accept_5 rfl (by decide) rfl ?_
  refine e_iload_n m_X1_accept dX1_accept_6 rfl rfl ?_
  refine e_if (t := 15) m_X1_accept dX1_accept_7 (by decide) (fun q1 => ?_) (fun q1 => ?_)
  · have q1 := b_f (c_eq q1)
    exact absurd hx q1
  · have q1 := b_t (c_eq' q1)
    refine e_aload_n m_X1_accept dX1_accept_10 rfl rfl rfl ?_
    refine e_cv (as := []) m_X1_accept dX1_accept_11 c_RX1_50 (by decide) rfl rfl (gC_p H) rfl (Nat.le_of_ble_eq_true rfl) (Nat.le_of_ble_eq_true rfl) (by omega) (r_take H (by omega)) ?_
    refine e_pop m_X1_accept dX1_accept_14 rfl ?_
    refine e_iload_n m_X1_accept dX1_accept_15 rfl rfl ?_
    rw [if_pos hx]
    exact e_reti m_X1_accept dX1_accept_16 (Or.inr ⟨rfl, Or.inr rfl⟩)

theorem r_accept_f {xs : Nat → Int32} {L d : Nat} {h0 : mm_H} {a p N : Nat} {wc at2 kd op ih gw us nb cnt : Int32} {wf kf f1 f2 f3 f4 f5 f6 : Nat → Int32} {x : Int32} (H : Hy h0 a p) (hd : 3 ≤ d) (hx : ¬ kd = x) : Rn xs L d 39 [.ref p, .int x] (HC h0 a p wc at2 kd op ih gw us nb cnt N wf kf f1 f2 f3 f4 f5 f6) (.inl (some (.int 0)), (HC h0 a p wc at2 kd op ih gw us nb cnt N wf kf f1 f2 f3 f4 f5 f6), 0, 0) := by
  unfold Rn
  refine e_aload_n m_X1_accept dX1_accept_0 rfl rfl rfl ?_
  refine e_iload_n m_X1_accept dX1_accept_1 rfl rfl ?_
  refine e_cv (as := [_]) m_X1_accept dX1_accept_2 c_RX1_46 (by decide) rfl rfl (gC_p H) rfl (Nat.le_of_ble_eq_true rfl) (Nat.le_of_ble_eq_true rfl) (by omega) (r_sees H (by omega)) ?_
  refine e_istore_n m_X1_accept dX1_accept_5 rfl (by decide) rfl ?_
  refine e_iload_n m_X1_accept dX1_accept_6 rfl rfl ?_
  refine e_if (t := 15) m_X1_accept dX1_accept_7 (by decide) (fun q1 => ?_) (fun q1 => ?_)
  · have q1 := b_f (c_eq q1)
    refine e_iload_n m_X1_accept dX1_accept_15 rfl rfl ?_
    rw [if_neg hx]
    exact e_reti m_X1_accept dX1_accept_16 (Or.inr ⟨rfl, Or.inl rfl⟩)
  · have q1 := b_t (c_eq' q1)
    exact absurd q1 hx

theorem r_expect_t {xs : Nat → Int32} {L d : Nat} {h0 : mm_H} {a p N : Nat} {wc at2 kd op ih gw us nb cnt : Int32} {wf kf f1 f2 f3 f4 f5 f6 : Nat → Int32} {x : Int32} (H : Hy h0 a p) (hd : 3 ≤ d) (hx : kd = x) : Rn xs L d 15 [.ref p, .int x] (HC h0 a p wc at2 kd op ih gw us nb cnt N wf kf f1 f2 f3 f4 f5 f6) (.inl (some (.int at2)), (HC h0 a p wc (at2 + 1) (kAt cnt kf (at2 + 1)) op ih gw us nb cnt N wf kf f1 f2 f3 f4 f5 f6), 0, 0) := by
  unfold Rn
  refine e_aload_n m_X1_expect dX1_expect_0 rfl rfl rfl ?_
  refine e_iload_n m_X1_expect dX1_expect_1 rfl rfl ?_
  refine e_cv (as := [_]) m_X1_expect dX1_expect_2 c_RX1_46 (by decide) rfl rfl (gC_p H) rfl (Nat.le_of_ble_eq_true rfl) (Nat.le_of_ble_eq_true rfl) (by omega) (r_sees H (by omega)) ?_
  refine e_if (t := 12) m_X1_expect dX1_expect_5 (by decide) (fun q1 => ?_) (fun q1 => ?_)
  · have q1 := b_t (c_ne q1)
    refine e_aload_n m_X1_expect dX1_expect_12 rfl rfl rfl ?_
    refine e_cv (as := []) m_X1_expect dX1_expect_13 c_RX1_50 (by decide) rfl rfl (gC_p H) rfl (Nat.le_of_ble_eq_true rfl) (Nat.le_of_ble_eq_true rfl) (by omega) (r_take H (by omega)) ?_
    exact e_reti m_X1_expect dX1_expect_16 (Or.inl rfl)
  · have q1 := b_f (c_ne' q1)
    exact absurd hx q1

theorem r_expect_x {xs : Nat → Int32} {L d : Nat} {h0 : mm_H} {a p N : Nat} {wc at2 kd op ih gw us nb cnt : Int32} {wf kf f1 f2 f3 f4 f5 f6 : Nat → Int32} {x : Int32} (H : Hy h0 a p) (hd : 9 ≤ d) (hx : ¬ kd = x) : Rn xs L d 15 [.ref p, .int x] (HC h0 a p wc at2 kd op ih gw us nb cnt N wf kf f1 f2 f3 f4 f5 f6) (.inr mm_ISE, (HC h0 a p wc at2 kd op ih gw us nb cnt N wf kf f1 f2 f3 f4 f5 f6), 1, 6) := by
  unfold Rn
  refine e_aload_n m_X1_expect dX1_expect_0 rfl rfl rfl ?_
  refine e_iload_n m_X1_expect dX1_expect_1 rfl rfl ?_
  refine e_cv (as := [_]) m_X1_expect dX1_expect_2 c_RX1_46 (by decide) rfl rfl (gC_p H) rfl (Nat.le_of_ble_eq_true rfl) (Nat.le_of_ble_eq_true rfl) (by omega) (r_sees H (by omega)) ?_
  refine e_if (t := 12) m_X1_expect dX1_expect_5 (by decide) (fun q1 => ?_) (fun q1 => ?_)
  · have q1 := b_t (c_ne q1)
    exact absurd q1 hx
  · have q1 := b_f (c_ne' q1)
    refine e_aload_n m_X1_expect dX1_expect_8 rfl rfl rfl ?_
    exact e_cvX (as := []) m_X1_expect dX1_expect_9 c_RX1_54 (by decide) rfl rfl (gC_p H) rfl (Nat.le_of_ble_eq_true rfl) (Nat.le_of_ble_eq_true rfl) (by omega) (r_refuse (by omega))

theorem r_openPart_t {xs : Nat → Int32} {L d : Nat} {h0 : mm_H} {a p N : Nat} {wc at2 kd op ih gw us nb cnt : Int32} {wf kf f1 f2 f3 f4 f5 f6 : Nat → Int32} (H : Hy h0 a p) (hd : 3 ≤ d) (hx : op < 30) : Rn xs L d 25 [.ref p] (HC h0 a p wc at2 kd op ih gw us nb cnt N wf kf f1 f2 f3 f4 f5 f6) (.inl none, (HC h0 a p wc at2 kd (op + 1) ih gw us nb cnt N wf kf f1 f2 f3 f4 f5 f6), 0, 0) := by
  unfold Rn
  refine e_aload_n m_X1_openPart dX1_openPart_0 rfl rfl rfl ?_
  refine e_getf m_X1_openPart dX1_openPart_1 f_RX1_57 (gC_p H) rfl ?_
  refine e_bipush (v := 30) m_X1_openPart dX1_openPart_4 (by decide) ?_
  refine e_icmp (t := 13) m_X1_openPart dX1_openPart_6 (by decide) (fun q1 => ?_) (fun q1 => ?_)
  · have q1 := c_lt q1
    refine e_aload_n m_X1_openPart dX1_openPart_13 rfl rfl rfl ?_
    refine e_dup m_X1_openPart dX1_openPart_14 rfl ?_
    refine e_getf m_X1_openPart dX1_openPart_15 f_RX1_57 (gC_p H) rfl ?_
    refine e_iconst (v := 1) m_X1_openPart dX1_openPart_18 (by decide) ?_
    refine e_iadd m_X1_openPart dX1_openPart_19 ?_
    refine e_putf m_X1_openPart dX1_openPart_20 f_RX1_57 (gC_p H) (Nat.le_of_ble_eq_true rfl) (fit_i rfl) rfl (sC_p H) ?_
    exact e_ret0 m_X1_openPart dX1_openPart_23
  · have q1 := c_lt' q1
    exact absurd hx q1

theorem r_openPart_x {xs : Nat → Int32} {L d : Nat} {h0 : mm_H} {a p N : Nat} {wc at2 kd op ih gw us nb cnt : Int32} {wf kf f1 f2 f3 f4 f5 f6 : Nat → Int32} (H : Hy h0 a p) (hd : 9 ≤ d) (hx : ¬ op < 30) : Rn xs L d 25 [.ref p] (HC h0 a p wc at2 kd op ih gw us nb cnt N wf kf f1 f2 f3 f4 f5 f6) (.inr mm_ISE, (HC h0 a p wc at2 kd op ih gw us nb cnt N wf kf f1 f2 f3 f4 f5 f6), 1, 6) := by
  unfold Rn
  refine e_aload_n m_X1_openPart dX1_openPart_0 rfl rfl rfl ?_
  refine e_getf m_X1_openPart dX1_openPart_1 f_RX1_57 (gC_p H) rfl ?_
  refine e_bipush (v := 30) m_X1_openPart dX1_openPart_4 (by decide) ?_
  refine e_icmp (t := 13) m_X1_openPart dX1_openPart_6 (by decide) (fun q1 => ?_) (fun q1 => ?_)
  · have q1 := c_lt q1
    exact absurd q1 hx
  · have q1 := c_lt' q1
    refine e_aload_n m_X1_openPart dX1_openPart_9 rfl rfl rfl ?_
    exact e_cvX (as := []) m_X1_openPart dX1_openPart_10 c_RX1_54 (by decide) rfl rfl (gC_p H) rfl (Nat.le_of_ble_eq_true rfl) (Nat.le_of_ble_eq_true rfl) (by omega) (r_refuse (by omega))

theorem r_enter_t {xs : Nat → Int32} {L d : Nat} {h0 : mm_H} {a p N : Nat} {wc at2 kd op ih gw us nb cnt : Int32} {wf kf f1 f2 f3 f4 f5 f6 : Nat → Int32} {x : Int32} (H : Hy h0 a p) (hd : 4 ≤ d) (hx : kd = x) (ho : op < 30) : Rn xs L d 24 [.ref p, .int x] (HC h0 a p wc at2 kd op ih gw us nb cnt N wf kf f1 f2 f3 f4 f5 f6) (.inl (some (.int at2)), (HC h0 a p wc (at2 + 1) (kAt cnt kf (at2 + 1)) (op + 1) ih gw us nb cnt N wf kf f1 f2 f3 f4 f5 f6), 0, 0) := by
  unfold Rn
  refine e_aload_n m_X1_enter dX1_enter_0 rfl rfl rfl ?_
  refine e_iload_n m_X1_enter dX1_enter_1 rfl rfl ?_
  refine e_cv (as := [_]) m_X1_enter dX1_enter_2 c_RX1_46 (by decide) rfl rfl (gC_p H) rfl (Nat.le_of_ble_eq_true rfl) (Nat.le_of_ble_eq_true rfl) (by omega) (r_sees H (by omega)) ?_
  refine e_if (t := 12) m_X1_enter dX1_enter_5 (by decide) (fun q1 => ?_) (fun q1 => ?_)
  · have q1 := b_t (c_ne q1)
    refine e_aload_n m_X1_enter dX1_enter_12 rfl rfl rfl ?_
    refine e_cv (as := []) m_X1_enter dX1_enter_13 c_RX1_60 (by decide) rfl rfl (gC_p H) rfl (Nat.le_of_ble_eq_true rfl) (Nat.le_of_ble_eq_true rfl) (by omega) (r_openPart_t H (by omega) ho) ?_
    refine e_aload_n m_X1_enter dX1_enter_16 rfl rfl rfl ?_
    refine e_cv (as := []) m_X1_enter dX1_enter_17 c_RX1_50 (by decide) rfl rfl (gC_p H) rfl (Nat.le_of_ble_eq_true rfl) (Nat.le_of_ble_eq_true rfl) (by omega) (r_take H (by omega)) ?_
    exact e_reti m_X1_enter dX1_enter_20 (Or.inl rfl)
  · have q1 := b_f (c_ne' q1)
    exact absurd hx q1

theorem r_enter_x1 {xs : Nat → Int32} {L d : Nat} {h0 : mm_H} {a p N : Nat} {wc at2 kd op ih gw us nb cnt : Int32} {wf kf f1 f2 f3 f4 f5 f6 : Nat → Int32} {x : Int32} (H : Hy h0 a p) (hd : 9 ≤ d) (hx : ¬ kd = x) : Rn xs L d 24 [.ref p, .int x] (HC h0 a p wc at2 kd op ih gw us nb cnt N wf kf f1 f2 f3 f4 f5 f6) (.inr mm_ISE, (HC h0 a p wc at2 kd op ih gw us nb cnt N wf kf f1 f2 f3 f4 f5 f6), 1, 6) := by
  unfold Rn
  refine e_aload_n m_X1_enter dX1_enter_0 rfl rfl rfl ?_
  refine e_iload_n m_X1_enter dX1_enter_1 rfl rfl ?_
  refine e_cv (as := [_]) m_X1_enter dX1_enter_2 c_RX1_46 (by decide) rfl rfl (gC_p H) rfl (Nat.le_of_ble_eq_true rfl) (Nat.le_of_ble_eq_true rfl) (by omega) (r_sees H (by omega)) ?_
  refine e_if (t := 12) m_X1_enter dX1_enter_5 (by decide) (fun q1 => ?_) (fun q1 => ?_)
  · have q1 := b_t (c_ne q1)
    exact absurd q1 hx
  · have q1 := b_f (c_ne' q1)
    refine e_aload_n m_X1_enter dX1_enter_8 rfl rfl rfl ?_
    exact e_cvX (as := []) m_X1_enter dX1_enter_9 c_RX1_54 (by decide) rfl rfl (gC_p H) rfl (Nat.le_of_ble_eq_true rfl) (Nat.le_of_ble_eq_true rfl) (by omega) (r_refuse (by omega))

theorem r_enter_x2 {xs : Nat → Int32} {L d : Nat} {h0 : mm_H} {a p N : Nat} {wc at2 kd op ih gw us nb cnt : Int32} {wf kf f1 f2 f3 f4 f5 f6 : Nat → Int32} {x : Int32} (H : Hy h0 a p) (hd : 10 ≤ d) (hx : kd = x) (ho : ¬ op < 30) : Rn xs L d 24 [.ref p, .int x] (HC h0 a p wc at2 kd op ih gw us nb cnt N wf kf f1 f2 f3 f4 f5 f6) (.inr mm_ISE, (HC h0 a p wc at2 kd op ih gw us nb cnt N wf kf f1 f2 f3 f4 f5 f6), 1, 6) := by
  unfold Rn
  refine e_aload_n m_X1_enter dX1_enter_0 rfl rfl rfl ?_
  refine e_iload_n m_X1_enter dX1_enter_1 rfl rfl ?_
  refine e_cv (as := [_]) m_X1_enter dX1_enter_2 c_RX1_46 (by decide) rfl rfl (gC_p H) rfl (Nat.le_of_ble_eq_true rfl) (Nat.le_of_ble_eq_true rfl) (by omega) (r_sees H (by omega)) ?_
  refine e_if (t := 12) m_X1_enter dX1_enter_5 (by decide) (fun q1 => ?_) (fun q1 => ?_)
  · have q1 := b_t (c_ne q1)
    refine e_aload_n m_X1_enter dX1_enter_12 rfl rfl rfl ?_
    exact e_cvX (as := []) m_X1_enter dX1_enter_13 c_RX1_60 (by decide) rfl rfl (gC_p H) rfl (Nat.le_of_ble_eq_true rfl) (Nat.le_of_ble_eq_true rfl) (by omega) (r_openPart_x H (by omega) ho)
  · have q1 := b_f (c_ne' q1)
    exact absurd hx q1

theorem r_leave_t {xs : Nat → Int32} {L d : Nat} {h0 : mm_H} {a p N : Nat} {wc at2 kd op ih gw us nb cnt : Int32} {wf kf f1 f2 f3 f4 f5 f6 : Nat → Int32} {x : Int32} (H : Hy h0 a p) (hd : 4 ≤ d) (hx : kd = x) : Rn xs L d 40 [.ref p, .int x] (HC h0 a p wc at2 kd op ih gw us nb cnt N wf kf f1 f2 f3 f4 f5 f6) (.inl none, (HC h0 a p wc (at2 + 1) (kAt cnt kf (at2 + 1)) (op - 1) ih gw us nb cnt N wf kf f1 f2 f3 f4 f5 f6), 0, 0) := by
  unfold Rn
  refine e_aload_n m_X1_leave dX1_leave_0 rfl rfl rfl ?_
  refine e_iload_n m_X1_leave dX1_leave_1 rfl rfl ?_
  refine e_cv (as := [_]) m_X1_leave dX1_leave_2 c_RX1_63 (by decide) rfl rfl (gC_p H) rfl (Nat.le_of_ble_eq_true rfl) (Nat.le_of_ble_eq_true rfl) (by omega) (r_expect_t H (by omega) hx) ?_
  refine e_pop m_X1_leave dX1_leave_5 rfl ?_
  refine e_aload_n m_X1_leave dX1_leave_6 rfl rfl rfl ?_
  refine e_cv (as := []) m_X1_leave dX1_leave_7 c_RX1_66 (by decide) rfl rfl (gC_p H) rfl (Nat.le_of_ble_eq_true rfl) (Nat.le_of_ble_eq_true rfl) (by omega) (r_closePart H (by omega)) ?_
  exact e_ret0 m_X1_leave dX1_leave_10

theorem r_leave_x {xs : Nat → Int32} {L d : Nat} {h0 : mm_H} {a p N : Nat} {wc at2 kd op ih gw us nb cnt : Int32} {wf kf f1 f2 f3 f4 f5 f6 : Nat → Int32} {x : Int32} (H : Hy h0 a p) (hd : 10 ≤ d) (hx : ¬ kd = x) : Rn xs L d 40 [.ref p, .int x] (HC h0 a p wc at2 kd op ih gw us nb cnt N wf kf f1 f2 f3 f4 f5 f6) (.inr mm_ISE, (HC h0 a p wc at2 kd op ih gw us nb cnt N wf kf f1 f2 f3 f4 f5 f6), 1, 6) := by
  unfold Rn
  refine e_aload_n m_X1_leave dX1_leave_0 rfl rfl rfl ?_
  refine e_iload_n m_X1_leave dX1_leave_1 rfl rfl ?_
  exact e_cvX (as := [_]) m_X1_leave dX1_leave_2 c_RX1_63 (by decide) rfl rfl (gC_p H) rfl (Nat.le_of_ble_eq_true rfl) (Nat.le_of_ble_eq_true rfl) (by omega) (r_expect_x H (by omega) hx)

