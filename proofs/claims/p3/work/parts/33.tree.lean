/-! The Tree's methods over any ints. -/
theorem t_spanPutAt {xs : Nat → Int32} {L d : Nat} {h0 : mm_H} {a N : Nat} {cnt us nb : Int32} {kf f1 f2 f3 f4 f5 f6 : Nat → Int32} {x : Int32} (hK : Hk h0 a N) (hd : 1 ≤ d) : Es xs L d 21 0 (lv_args 0 [.ref 3, .int x]) [] (HK h0 a N cnt us nb kf f1 f2 f3 f4 f5 f6) 0 0 (Vh (HK h0 a N cnt us nb kf f1 f2 f3 f4 f5 f6)) := by
  refine Es.via (fun o K => e_iload_n m_X3_spanPutAt dX3_spanPutAt_0 rfl rfl K) ?_
  rcases Bool.eq_false_or_eq_true (mm_cond .lt x 0) with q1 | q1
  · refine Es.via (fun o K => e_ifT (t := 22) m_X3_spanPutAt dX3_spanPutAt_1 (by decide) q1 K) ?_
    have q1 := c_lt q1
    refine Es.via (fun o K => e_iconst (v := 0) m_X3_spanPutAt dX3_spanPutAt_22 (by decide) K) ?_
    exact ⟨_, e_reti m_X3_spanPutAt dX3_spanPutAt_23 (Or.inl rfl), ⟨_, rfl⟩⟩
  · refine Es.via (fun o K => e_ifF (t := 22) m_X3_spanPutAt dX3_spanPutAt_1 (by decide) q1 K) ?_
    have q1 := c_lt' q1
    refine Es.via (fun o K => e_iload_n m_X3_spanPutAt dX3_spanPutAt_4 rfl rfl K) ?_
    refine Es.via (fun o K => e_aload_n m_X3_spanPutAt dX3_spanPutAt_5 rfl rfl rfl K) ?_
    refine Es.via (fun o K => e_getf m_X3_spanPutAt dX3_spanPutAt_6 f_RX3_18 (gK_3 hK) rfl K) ?_
    refine Es.via (fun o K => e_alen m_X3_spanPutAt dX3_spanPutAt_9 (gK_r3 hK) (by decide) K) ?_
    rcases Bool.eq_false_or_eq_true (mm_cond .ge x (Int32.ofNat N)) with q2 | q2
    · refine Es.via (fun o K => e_icT (t := 22) m_X3_spanPutAt dX3_spanPutAt_10 (by decide) q2 K) ?_
      have q2 := c_ge q2
      refine Es.via (fun o K => e_iconst (v := 0) m_X3_spanPutAt dX3_spanPutAt_22 (by decide) K) ?_
      exact ⟨_, e_reti m_X3_spanPutAt dX3_spanPutAt_23 (Or.inl rfl), ⟨_, rfl⟩⟩
    · refine Es.via (fun o K => e_icF (t := 22) m_X3_spanPutAt dX3_spanPutAt_10 (by decide) q2 K) ?_
      have q2 := c_ge' q2
      refine Es.via (fun o K => e_aload_n m_X3_spanPutAt dX3_spanPutAt_13 rfl rfl rfl K) ?_
      refine Es.via (fun o K => e_getf m_X3_spanPutAt dX3_spanPutAt_14 f_RX3_18 (gK_3 hK) rfl K) ?_
      refine Es.via (fun o K => e_iload_n m_X3_spanPutAt dX3_spanPutAt_17 rfl rfl K) ?_
      refine Es.via (fun o K => e_iald (Or.inl ⟨rfl, rfl⟩) m_X3_spanPutAt dX3_spanPutAt_18 (gK_r3 hK) (in_of (hK.2.2) q1 q2) K) ?_
      refine Es.via (fun o K => e_goto (t := 23) m_X3_spanPutAt dX3_spanPutAt_19 (by decide) K) ?_
      exact ⟨_, e_reti m_X3_spanPutAt dX3_spanPutAt_23 (Or.inl rfl), ⟨_, rfl⟩⟩
theorem t_has {xs : Nat → Int32} {L d : Nat} {h0 : mm_H} {a N : Nat} {cnt us nb : Int32} {kf f1 f2 f3 f4 f5 f6 : Nat → Int32} {x : Int32} (hK : Hk h0 a N) (hd : 1 ≤ d) : Es xs L d 117 0 (lv_args 0 [.ref 3, .int x]) [] (HK h0 a N cnt us nb kf f1 f2 f3 f4 f5 f6) 0 0 (Vh (HK h0 a N cnt us nb kf f1 f2 f3 f4 f5 f6)) := by
  refine Es.via (fun o K => e_iload_n m_X3_has dX3_has_0 rfl rfl K) ?_
  rcases Bool.eq_false_or_eq_true (mm_cond .lt x 0) with q1 | q1
  · refine Es.via (fun o K => e_ifT (t := 16) m_X3_has dX3_has_1 (by decide) q1 K) ?_
    have q1 := c_lt q1
    refine Es.via (fun o K => e_iconst (v := 0) m_X3_has dX3_has_16 (by decide) K) ?_
    exact ⟨_, e_reti m_X3_has dX3_has_17 (Or.inr ⟨rfl, by decide⟩), ⟨_, rfl⟩⟩
  · refine Es.via (fun o K => e_ifF (t := 16) m_X3_has dX3_has_1 (by decide) q1 K) ?_
    have q1 := c_lt' q1
    refine Es.via (fun o K => e_iload_n m_X3_has dX3_has_4 rfl rfl K) ?_
    refine Es.via (fun o K => e_aload_n m_X3_has dX3_has_5 rfl rfl rfl K) ?_
    refine Es.via (fun o K => e_getf m_X3_has dX3_has_6 f_RX3_34 (gK_3 hK) rfl K) ?_
    rcases Bool.eq_false_or_eq_true (mm_cond .ge x nb) with q2 | q2
    · refine Es.via (fun o K => e_icT (t := 16) m_X3_has dX3_has_9 (by decide) q2 K) ?_
      have q2 := c_ge q2
      refine Es.via (fun o K => e_iconst (v := 0) m_X3_has dX3_has_16 (by decide) K) ?_
      exact ⟨_, e_reti m_X3_has dX3_has_17 (Or.inr ⟨rfl, by decide⟩), ⟨_, rfl⟩⟩
    · refine Es.via (fun o K => e_icF (t := 16) m_X3_has dX3_has_9 (by decide) q2 K) ?_
      have q2 := c_ge' q2
      refine Es.via (fun o K => e_iconst (v := 1) m_X3_has dX3_has_12 (by decide) K) ?_
      refine Es.via (fun o K => e_goto (t := 17) m_X3_has dX3_has_13 (by decide) K) ?_
      exact ⟨_, e_reti m_X3_has dX3_has_17 (Or.inr ⟨rfl, by decide⟩), ⟨_, rfl⟩⟩
theorem t_placeOf {xs : Nat → Int32} {L d : Nat} {h0 : mm_H} {a N : Nat} {cnt us nb : Int32} {kf f1 f2 f3 f4 f5 f6 : Nat → Int32} {x : Int32} (hK : Hk h0 a N) (hd : 1 ≤ d) : Es xs L d 110 0 (lv_args 0 [.ref 3, .int x]) [] (HK h0 a N cnt us nb kf f1 f2 f3 f4 f5 f6) 0 0 (Vh (HK h0 a N cnt us nb kf f1 f2 f3 f4 f5 f6)) := by
  refine Es.via (fun o K => e_iload_n m_X3_placeOf dX3_placeOf_0 rfl rfl K) ?_
  rcases Bool.eq_false_or_eq_true (mm_cond .lt x 0) with q1 | q1
  · refine Es.via (fun o K => e_ifT (t := 30) m_X3_placeOf dX3_placeOf_1 (by decide) q1 K) ?_
    have q1 := c_lt q1
    refine Es.via (fun o K => e_iconst (v := (-1)) m_X3_placeOf dX3_placeOf_30 (by decide) K) ?_
    exact ⟨_, e_reti m_X3_placeOf dX3_placeOf_31 (Or.inl rfl), ⟨_, rfl⟩⟩
  · refine Es.via (fun o K => e_ifF (t := 30) m_X3_placeOf dX3_placeOf_1 (by decide) q1 K) ?_
    have q1 := c_lt' q1
    refine Es.via (fun o K => e_iload_n m_X3_placeOf dX3_placeOf_4 rfl rfl K) ?_
    refine Es.via (fun o K => e_aload_n m_X3_placeOf dX3_placeOf_5 rfl rfl rfl K) ?_
    refine Es.via (fun o K => e_getf m_X3_placeOf dX3_placeOf_6 f_RX3_34 (gK_3 hK) rfl K) ?_
    rcases Bool.eq_false_or_eq_true (mm_cond .ge x nb) with q2 | q2
    · refine Es.via (fun o K => e_icT (t := 30) m_X3_placeOf dX3_placeOf_9 (by decide) q2 K) ?_
      have q2 := c_ge q2
      refine Es.via (fun o K => e_iconst (v := (-1)) m_X3_placeOf dX3_placeOf_30 (by decide) K) ?_
      exact ⟨_, e_reti m_X3_placeOf dX3_placeOf_31 (Or.inl rfl), ⟨_, rfl⟩⟩
    · refine Es.via (fun o K => e_icF (t := 30) m_X3_placeOf dX3_placeOf_9 (by decide) q2 K) ?_
      have q2 := c_ge' q2
      refine Es.via (fun o K => e_iload_n m_X3_placeOf dX3_placeOf_12 rfl rfl K) ?_
      refine Es.via (fun o K => e_aload_n m_X3_placeOf dX3_placeOf_13 rfl rfl rfl K) ?_
      refine Es.via (fun o K => e_getf m_X3_placeOf dX3_placeOf_14 f_RX3_24 (gK_3 hK) rfl K) ?_
      refine Es.via (fun o K => e_alen m_X3_placeOf dX3_placeOf_17 (gK_r5 hK) (by decide) K) ?_
      rcases Bool.eq_false_or_eq_true (mm_cond .ge x (Int32.ofNat N)) with q3 | q3
      · refine Es.via (fun o K => e_icT (t := 30) m_X3_placeOf dX3_placeOf_18 (by decide) q3 K) ?_
        have q3 := c_ge q3
        refine Es.via (fun o K => e_iconst (v := (-1)) m_X3_placeOf dX3_placeOf_30 (by decide) K) ?_
        exact ⟨_, e_reti m_X3_placeOf dX3_placeOf_31 (Or.inl rfl), ⟨_, rfl⟩⟩
      · refine Es.via (fun o K => e_icF (t := 30) m_X3_placeOf dX3_placeOf_18 (by decide) q3 K) ?_
        have q3 := c_ge' q3
        refine Es.via (fun o K => e_aload_n m_X3_placeOf dX3_placeOf_21 rfl rfl rfl K) ?_
        refine Es.via (fun o K => e_getf m_X3_placeOf dX3_placeOf_22 f_RX3_24 (gK_3 hK) rfl K) ?_
        refine Es.via (fun o K => e_iload_n m_X3_placeOf dX3_placeOf_25 rfl rfl K) ?_
        refine Es.via (fun o K => e_iald (Or.inl ⟨rfl, rfl⟩) m_X3_placeOf dX3_placeOf_26 (gK_r5 hK) (in_of (hK.2.2) q1 q3) K) ?_
        refine Es.via (fun o K => e_goto (t := 31) m_X3_placeOf dX3_placeOf_27 (by decide) K) ?_
        exact ⟨_, e_reti m_X3_placeOf dX3_placeOf_31 (Or.inl rfl), ⟨_, rfl⟩⟩
theorem t_read {xs : Nat → Int32} {L d : Nat} {h0 : mm_H} {a N : Nat} {cnt us nb : Int32} {kf f1 f2 f3 f4 f5 f6 : Nat → Int32} {x : Int32} {q : Nat} {g : Nat → Int32} (hK : Hk h0 a N) (hq : (HK h0 a N cnt us nb kf f1 f2 f3 f4 f5 f6)[q]? = some (.inl (0, N, .inl g))) (hd : 1 ≤ d) : Es xs L d 111 0 (lv_args 0 [.ref 3, .ref q, .int x]) [] (HK h0 a N cnt us nb kf f1 f2 f3 f4 f5 f6) 0 0 (Vh (HK h0 a N cnt us nb kf f1 f2 f3 f4 f5 f6)) := by
  refine Es.via (fun o K => e_iload_n m_X3_read dX3_read_0 rfl rfl K) ?_
  rcases Bool.eq_false_or_eq_true (mm_cond .lt x 0) with q1 | q1
  · refine Es.via (fun o K => e_ifT (t := 16) m_X3_read dX3_read_1 (by decide) q1 K) ?_
    have q1 := c_lt q1
    refine Es.via (fun o K => e_iconst (v := (-1)) m_X3_read dX3_read_16 (by decide) K) ?_
    exact ⟨_, e_reti m_X3_read dX3_read_17 (Or.inl rfl), ⟨_, rfl⟩⟩
  · refine Es.via (fun o K => e_ifF (t := 16) m_X3_read dX3_read_1 (by decide) q1 K) ?_
    have q1 := c_lt' q1
    refine Es.via (fun o K => e_iload_n m_X3_read dX3_read_4 rfl rfl K) ?_
    refine Es.via (fun o K => e_aload_n m_X3_read dX3_read_5 rfl rfl rfl K) ?_
    refine Es.via (fun o K => e_alen m_X3_read dX3_read_6 hq (by decide) K) ?_
    rcases Bool.eq_false_or_eq_true (mm_cond .ge x (Int32.ofNat N)) with q2 | q2
    · refine Es.via (fun o K => e_icT (t := 16) m_X3_read dX3_read_7 (by decide) q2 K) ?_
      have q2 := c_ge q2
      refine Es.via (fun o K => e_iconst (v := (-1)) m_X3_read dX3_read_16 (by decide) K) ?_
      exact ⟨_, e_reti m_X3_read dX3_read_17 (Or.inl rfl), ⟨_, rfl⟩⟩
    · refine Es.via (fun o K => e_icF (t := 16) m_X3_read dX3_read_7 (by decide) q2 K) ?_
      have q2 := c_ge' q2
      refine Es.via (fun o K => e_aload_n m_X3_read dX3_read_10 rfl rfl rfl K) ?_
      refine Es.via (fun o K => e_iload_n m_X3_read dX3_read_11 rfl rfl K) ?_
      refine Es.via (fun o K => e_iald (Or.inl ⟨rfl, rfl⟩) m_X3_read dX3_read_12 hq (in_of (hK.2.2) q1 q2) K) ?_
      refine Es.via (fun o K => e_goto (t := 17) m_X3_read dX3_read_13 (by decide) K) ?_
      exact ⟨_, e_reti m_X3_read dX3_read_17 (Or.inl rfl), ⟨_, rfl⟩⟩
theorem t_whatOf {xs : Nat → Int32} {L d : Nat} {h0 : mm_H} {a N : Nat} {cnt us nb : Int32} {kf f1 f2 f3 f4 f5 f6 : Nat → Int32} {x : Int32} (hK : Hk h0 a N) (hd : 3 ≤ d) : Es xs L d 118 0 (lv_args 0 [.ref 3, .int x]) [] (HK h0 a N cnt us nb kf f1 f2 f3 f4 f5 f6) 0 0 (Vh (HK h0 a N cnt us nb kf f1 f2 f3 f4 f5 f6)) := by
  refine Es.via (fun o K => e_aload_n m_X3_whatOf dX3_whatOf_0 rfl rfl rfl K) ?_
  refine Es.via (fun o K => e_aload_n m_X3_whatOf dX3_whatOf_1 rfl rfl rfl K) ?_
  refine Es.via (fun o K => e_getf m_X3_whatOf dX3_whatOf_2 f_RX3_11 (gK_3 hK) rfl K) ?_
  refine Es.via (fun o K => e_aload_n m_X3_whatOf dX3_whatOf_5 rfl rfl rfl K) ?_
  refine Es.via (fun o K => e_iload_n m_X3_whatOf dX3_whatOf_6 rfl rfl K) ?_
  obtain ⟨_, hr1, v1, rfl⟩ := t_placeOf (xs := xs) (L := L) (d := d - 1) (cnt := cnt) (us := us) (nb := nb) (kf := kf) (f1 := f1) (f2 := f2) (f3 := f3) (f4 := f4) (f5 := f5) (f6 := f6) (x := x) hK (by omega)
  refine Es.via (fun o K => e_cv (as := [.int x]) m_X3_whatOf dX3_whatOf_7 c_RX3_57 (by decide) rfl rfl (gK_3 hK) rfl (Nat.le_of_ble_eq_true rfl) (Nat.le_of_ble_eq_true rfl) (by omega) (hr1) K) ?_
  obtain ⟨_, hr2, v2, rfl⟩ := t_read (xs := xs) (L := L) (d := d - 1) (cnt := cnt) (us := us) (nb := nb) (kf := kf) (f1 := f1) (f2 := f2) (f3 := f3) (f4 := f4) (f5 := f5) (f6 := f6) (x := v1) hK (gK_r1 hK) (by omega)
  refine Es.via (fun o K => e_cv (as := [.ref a, .int v1]) m_X3_whatOf dX3_whatOf_10 c_RX3_63 (by decide) rfl rfl (gK_3 hK) rfl (Nat.le_of_ble_eq_true rfl) (Nat.le_of_ble_eq_true rfl) (by omega) (hr2) K) ?_
  exact ⟨_, e_reti m_X3_whatOf dX3_whatOf_13 (Or.inl rfl), ⟨_, rfl⟩⟩
theorem t_tokenOf {xs : Nat → Int32} {L d : Nat} {h0 : mm_H} {a N : Nat} {cnt us nb : Int32} {kf f1 f2 f3 f4 f5 f6 : Nat → Int32} {x : Int32} (hK : Hk h0 a N) (hd : 3 ≤ d) : Es xs L d 119 0 (lv_args 0 [.ref 3, .int x]) [] (HK h0 a N cnt us nb kf f1 f2 f3 f4 f5 f6) 0 0 (Vh (HK h0 a N cnt us nb kf f1 f2 f3 f4 f5 f6)) := by
  refine Es.via (fun o K => e_aload_n m_X3_tokenOf dX3_tokenOf_0 rfl rfl rfl K) ?_
  refine Es.via (fun o K => e_aload_n m_X3_tokenOf dX3_tokenOf_1 rfl rfl rfl K) ?_
  refine Es.via (fun o K => e_getf m_X3_tokenOf dX3_tokenOf_2 f_RX3_15 (gK_3 hK) rfl K) ?_
  refine Es.via (fun o K => e_aload_n m_X3_tokenOf dX3_tokenOf_5 rfl rfl rfl K) ?_
  refine Es.via (fun o K => e_iload_n m_X3_tokenOf dX3_tokenOf_6 rfl rfl K) ?_
  obtain ⟨_, hr1, v1, rfl⟩ := t_placeOf (xs := xs) (L := L) (d := d - 1) (cnt := cnt) (us := us) (nb := nb) (kf := kf) (f1 := f1) (f2 := f2) (f3 := f3) (f4 := f4) (f5 := f5) (f6 := f6) (x := x) hK (by omega)
  refine Es.via (fun o K => e_cv (as := [.int x]) m_X3_tokenOf dX3_tokenOf_7 c_RX3_57 (by decide) rfl rfl (gK_3 hK) rfl (Nat.le_of_ble_eq_true rfl) (Nat.le_of_ble_eq_true rfl) (by omega) (hr1) K) ?_
  obtain ⟨_, hr2, v2, rfl⟩ := t_read (xs := xs) (L := L) (d := d - 1) (cnt := cnt) (us := us) (nb := nb) (kf := kf) (f1 := f1) (f2 := f2) (f3 := f3) (f4 := f4) (f5 := f5) (f6 := f6) (x := v1) hK (gK_r2 hK) (by omega)
  refine Es.via (fun o K => e_cv (as := [.ref (a + 1), .int v1]) m_X3_tokenOf dX3_tokenOf_10 c_RX3_63 (by decide) rfl rfl (gK_3 hK) rfl (Nat.le_of_ble_eq_true rfl) (Nat.le_of_ble_eq_true rfl) (by omega) (hr2) K) ?_
  exact ⟨_, e_reti m_X3_tokenOf dX3_tokenOf_13 (Or.inl rfl), ⟨_, rfl⟩⟩
theorem t_spanOf {xs : Nat → Int32} {L d : Nat} {h0 : mm_H} {a N : Nat} {cnt us nb : Int32} {kf f1 f2 f3 f4 f5 f6 : Nat → Int32} {x : Int32} (hK : Hk h0 a N) (hd : 3 ≤ d) : Es xs L d 109 0 (lv_args 0 [.ref 3, .int x]) [] (HK h0 a N cnt us nb kf f1 f2 f3 f4 f5 f6) 0 0 (Vh (HK h0 a N cnt us nb kf f1 f2 f3 f4 f5 f6)) := by
  refine Es.via (fun o K => e_aload_n m_X3_spanOf dX3_spanOf_0 rfl rfl rfl K) ?_
  refine Es.via (fun o K => e_aload_n m_X3_spanOf dX3_spanOf_1 rfl rfl rfl K) ?_
  refine Es.via (fun o K => e_getf m_X3_spanOf dX3_spanOf_2 f_RX3_18 (gK_3 hK) rfl K) ?_
  refine Es.via (fun o K => e_aload_n m_X3_spanOf dX3_spanOf_5 rfl rfl rfl K) ?_
  refine Es.via (fun o K => e_iload_n m_X3_spanOf dX3_spanOf_6 rfl rfl K) ?_
  obtain ⟨_, hr1, v1, rfl⟩ := t_placeOf (xs := xs) (L := L) (d := d - 1) (cnt := cnt) (us := us) (nb := nb) (kf := kf) (f1 := f1) (f2 := f2) (f3 := f3) (f4 := f4) (f5 := f5) (f6 := f6) (x := x) hK (by omega)
  refine Es.via (fun o K => e_cv (as := [.int x]) m_X3_spanOf dX3_spanOf_7 c_RX3_57 (by decide) rfl rfl (gK_3 hK) rfl (Nat.le_of_ble_eq_true rfl) (Nat.le_of_ble_eq_true rfl) (by omega) (hr1) K) ?_
  obtain ⟨_, hr2, v2, rfl⟩ := t_read (xs := xs) (L := L) (d := d - 1) (cnt := cnt) (us := us) (nb := nb) (kf := kf) (f1 := f1) (f2 := f2) (f3 := f3) (f4 := f4) (f5 := f5) (f6 := f6) (x := v1) hK (gK_r3 hK) (by omega)
  refine Es.via (fun o K => e_cv (as := [.ref (a + 2), .int v1]) m_X3_spanOf dX3_spanOf_10 c_RX3_63 (by decide) rfl rfl (gK_3 hK) rfl (Nat.le_of_ble_eq_true rfl) (Nat.le_of_ble_eq_true rfl) (by omega) (hr2) K) ?_
  exact ⟨_, e_reti m_X3_spanOf dX3_spanOf_13 (Or.inl rfl), ⟨_, rfl⟩⟩
theorem t_childrenOf {xs : Nat → Int32} {L d : Nat} {h0 : mm_H} {a N : Nat} {cnt us nb : Int32} {kf f1 f2 f3 f4 f5 f6 : Nat → Int32} {x : Int32} (hK : Hk h0 a N) (hd : 3 ≤ d) : Es xs L d 112 0 (lv_args 0 [.ref 3, .int x]) [] (HK h0 a N cnt us nb kf f1 f2 f3 f4 f5 f6) 0 0 (Vh (HK h0 a N cnt us nb kf f1 f2 f3 f4 f5 f6)) := by
  refine Es.via (fun o K => e_aload_n m_X3_childrenOf dX3_childrenOf_0 rfl rfl rfl K) ?_
  refine Es.via (fun o K => e_aload_n m_X3_childrenOf dX3_childrenOf_1 rfl rfl rfl K) ?_
  refine Es.via (fun o K => e_getf m_X3_childrenOf dX3_childrenOf_2 f_RX3_21 (gK_3 hK) rfl K) ?_
  refine Es.via (fun o K => e_aload_n m_X3_childrenOf dX3_childrenOf_5 rfl rfl rfl K) ?_
  refine Es.via (fun o K => e_iload_n m_X3_childrenOf dX3_childrenOf_6 rfl rfl K) ?_
  obtain ⟨_, hr1, v1, rfl⟩ := t_placeOf (xs := xs) (L := L) (d := d - 1) (cnt := cnt) (us := us) (nb := nb) (kf := kf) (f1 := f1) (f2 := f2) (f3 := f3) (f4 := f4) (f5 := f5) (f6 := f6) (x := x) hK (by omega)
  refine Es.via (fun o K => e_cv (as := [.int x]) m_X3_childrenOf dX3_childrenOf_7 c_RX3_57 (by decide) rfl rfl (gK_3 hK) rfl (Nat.le_of_ble_eq_true rfl) (Nat.le_of_ble_eq_true rfl) (by omega) (hr1) K) ?_
  obtain ⟨_, hr2, v2, rfl⟩ := t_read (xs := xs) (L := L) (d := d - 1) (cnt := cnt) (us := us) (nb := nb) (kf := kf) (f1 := f1) (f2 := f2) (f3 := f3) (f4 := f4) (f5 := f5) (f6 := f6) (x := v1) hK (gK_r4 hK) (by omega)
  refine Es.via (fun o K => e_cv (as := [.ref (a + 3), .int v1]) m_X3_childrenOf dX3_childrenOf_10 c_RX3_63 (by decide) rfl rfl (gK_3 hK) rfl (Nat.le_of_ble_eq_true rfl) (Nat.le_of_ble_eq_true rfl) (by omega) (hr2) K) ?_
  exact ⟨_, e_reti m_X3_childrenOf dX3_childrenOf_13 (Or.inl rfl), ⟨_, rfl⟩⟩
theorem t_parentOf {xs : Nat → Int32} {L d : Nat} {h0 : mm_H} {a N : Nat} {cnt us nb : Int32} {kf f1 f2 f3 f4 f5 f6 : Nat → Int32} {x : Int32} (hK : Hk h0 a N) (hd : 3 ≤ d) : Es xs L d 120 0 (lv_args 0 [.ref 3, .int x]) [] (HK h0 a N cnt us nb kf f1 f2 f3 f4 f5 f6) 0 0 (Vh (HK h0 a N cnt us nb kf f1 f2 f3 f4 f5 f6)) := by
  refine Es.via (fun o K => e_aload_n m_X3_parentOf dX3_parentOf_0 rfl rfl rfl K) ?_
  refine Es.via (fun o K => e_iload_n m_X3_parentOf dX3_parentOf_1 rfl rfl K) ?_
  obtain ⟨_, hr1, v1, rfl⟩ := t_has (xs := xs) (L := L) (d := d - 1) (cnt := cnt) (us := us) (nb := nb) (kf := kf) (f1 := f1) (f2 := f2) (f3 := f3) (f4 := f4) (f5 := f5) (f6 := f6) (x := x) hK (by omega)
  refine Es.via (fun o K => e_cv (as := [.int x]) m_X3_parentOf dX3_parentOf_2 c_RX3_67 (by decide) rfl rfl (gK_3 hK) rfl (Nat.le_of_ble_eq_true rfl) (Nat.le_of_ble_eq_true rfl) (by omega) (hr1) K) ?_
  rcases Bool.eq_false_or_eq_true (mm_cond .eq v1 0) with q2 | q2
  · refine Es.via (fun o K => e_ifT (t := 20) m_X3_parentOf dX3_parentOf_5 (by decide) q2 K) ?_
    have q2 := c_eq q2
    refine Es.via (fun o K => e_iconst (v := (-1)) m_X3_parentOf dX3_parentOf_20 (by decide) K) ?_
    exact ⟨_, e_reti m_X3_parentOf dX3_parentOf_21 (Or.inl rfl), ⟨_, rfl⟩⟩
  · refine Es.via (fun o K => e_ifF (t := 20) m_X3_parentOf dX3_parentOf_5 (by decide) q2 K) ?_
    have q2 := c_eq' q2
    refine Es.via (fun o K => e_aload_n m_X3_parentOf dX3_parentOf_8 rfl rfl rfl K) ?_
    refine Es.via (fun o K => e_aload_n m_X3_parentOf dX3_parentOf_9 rfl rfl rfl K) ?_
    refine Es.via (fun o K => e_getf m_X3_parentOf dX3_parentOf_10 f_RX3_27 (gK_3 hK) rfl K) ?_
    refine Es.via (fun o K => e_iload_n m_X3_parentOf dX3_parentOf_13 rfl rfl K) ?_
    obtain ⟨_, hr3, v3, rfl⟩ := t_read (xs := xs) (L := L) (d := d - 1) (cnt := cnt) (us := us) (nb := nb) (kf := kf) (f1 := f1) (f2 := f2) (f3 := f3) (f4 := f4) (f5 := f5) (f6 := f6) (x := x) hK (gK_r6 hK) (by omega)
    refine Es.via (fun o K => e_cv (as := [.ref (a + 5), .int x]) m_X3_parentOf dX3_parentOf_14 c_RX3_63 (by decide) rfl rfl (gK_3 hK) rfl (Nat.le_of_ble_eq_true rfl) (Nat.le_of_ble_eq_true rfl) (by omega) (hr3) K) ?_
    refine Es.via (fun o K => e_goto (t := 21) m_X3_parentOf dX3_parentOf_17 (by decide) K) ?_
    exact ⟨_, e_reti m_X3_parentOf dX3_parentOf_21 (Or.inl rfl), ⟨_, rfl⟩⟩
theorem t_nodes {xs : Nat → Int32} {L d : Nat} {h0 : mm_H} {a N : Nat} {cnt us nb : Int32} {kf f1 f2 f3 f4 f5 f6 : Nat → Int32}  (hK : Hk h0 a N) (hd : 1 ≤ d) : Es xs L d 114 0 (lv_args 0 [.ref 0]) [] (HK h0 a N cnt us nb kf f1 f2 f3 f4 f5 f6) 0 0 (Vh (HK h0 a N cnt us nb kf f1 f2 f3 f4 f5 f6)) := by
  refine Es.via (fun o K => e_aload_n m_X5_nodes dX5_nodes_0 rfl rfl rfl K) ?_
  refine Es.via (fun o K => e_getf m_X5_nodes dX5_nodes_1 f_RX5_19 (gK_0 hK) rfl K) ?_
  refine Es.via (fun o K => e_getf m_X5_nodes dX5_nodes_4 f_RX5_63 (gK_3 hK) rfl K) ?_
  exact ⟨_, e_reti m_X5_nodes dX5_nodes_7 (Or.inl rfl), ⟨_, rfl⟩⟩
theorem t_size {xs : Nat → Int32} {L d : Nat} {h0 : mm_H} {a N : Nat} {cnt us nb : Int32} {kf f1 f2 f3 f4 f5 f6 : Nat → Int32}  (hK : Hk h0 a N) (hd : 1 ≤ d) : Es xs L d 113 0 (lv_args 0 [.ref 0]) [] (HK h0 a N cnt us nb kf f1 f2 f3 f4 f5 f6) 0 0 (fun o => o = (.inl (some (.int cnt)), HK h0 a N cnt us nb kf f1 f2 f3 f4 f5 f6, 0, 0)) := by
  refine Es.via (fun o K => e_aload_n m_X5_size dX5_size_0 rfl rfl rfl K) ?_
  refine Es.via (fun o K => e_getf m_X5_size dX5_size_1 f_RX5_10 (gK_0 hK) rfl K) ?_
  refine Es.via (fun o K => e_getf m_X5_size dX5_size_4 f_RX5_40 (gK_1 hK) rfl K) ?_
  exact ⟨_, e_reti m_X5_size dX5_size_7 (Or.inl rfl), rfl⟩
theorem t_ncLoop {xs : Nat → Int32} {L d : Nat} {h0 : mm_H} {a N : Nat} {cnt us nb : Int32} {kf f1 f2 f3 f4 : Nat → Int32} {k m : Int32} (hK : Hk h0 a N) (hd : 5 ≤ d) : ∀ (n j : Nat), 2147483648 - j < n → j < 2147483648 → ∀ (f5 f6 : Nat → Int32) (e p : Int32) (ls : mm_L) (hl0 : mm_lk ls 0 = some (.ref 3)) (hl1 : mm_lk ls 1 = some (.int k)) (hl2 : mm_lk ls 2 = some (.int e)) (hl3 : mm_lk ls 3 = some (.int p)) (hl4 : mm_lk ls 4 = some (.int m)) (hl5 : mm_lk ls 5 = some (.int (nI j))), Es xs L d 108 26 ls [] (HK h0 a N cnt us nb kf f1 f2 f3 f4 f5 f6) 0 0 (fun o => ∃ f5' f6' : Nat → Int32, o = (.inl none, HK h0 a N cnt us nb kf f1 f2 f3 f4 f5' f6', 0, 0)) := by
  intro n
  induction n with
  | zero => intro j h; omega
  | succ n ih' =>
    intro j hn hj f5 f6 e p ls hl0 hl1 hl2 hl3 hl4 hl5
    have ih := fun j' (h : 2147483648 - j' < n) => ih' j' h
    refine Es.via (fun o K => e_iload m_X3_numberChildren dX3_numberChildren_26 hl5 K) ?_
    refine Es.via (fun o K => e_iload m_X3_numberChildren dX3_numberChildren_28 hl4 K) ?_
    rcases Bool.eq_false_or_eq_true (mm_cond .ge (nI j) m) with q1 | q1
    · refine Es.via (fun o K => e_icT (t := 91) m_X3_numberChildren dX3_numberChildren_30 (by decide) q1 K) ?_
      have q1 := c_ge q1
      exact ⟨_, e_ret0 m_X3_numberChildren dX3_numberChildren_91, ⟨_, _, rfl⟩⟩
    · refine Es.via (fun o K => e_icF (t := 91) m_X3_numberChildren dX3_numberChildren_30 (by decide) q1 K) ?_
      have q1 := c_ge' q1
      refine Es.via (fun o K => e_aload_n m_X3_numberChildren dX3_numberChildren_33 rfl hl0 rfl K) ?_
      refine Es.via (fun o K => e_iload_n m_X3_numberChildren dX3_numberChildren_34 rfl hl3 K) ?_
      obtain ⟨_, hr2, v2, rfl⟩ := t_spanPutAt (xs := xs) (L := L) (d := d - 1) (cnt := cnt) (us := us) (nb := nb) (kf := kf) (f1 := f1) (f2 := f2) (f3 := f3) (f4 := f4) (f5 := f5) (f6 := f6) (x := p) hK (by omega)
      refine Es.via (fun o K => e_cv (as := [.int p]) m_X3_numberChildren dX3_numberChildren_35 c_RX3_47 (by decide) rfl rfl (gK_3 hK) rfl (Nat.le_of_ble_eq_true rfl) (Nat.le_of_ble_eq_true rfl) (by omega) (hr2) K) ?_
      refine Es.via (fun o K => e_istore m_X3_numberChildren dX3_numberChildren_38 (by decide) rfl K) ?_
      refine Es.via (fun o K => e_iload_n m_X3_numberChildren dX3_numberChildren_40 rfl (lk_mis (by decide) rfl hl2) K) ?_
      refine Es.via (fun o K => e_iload m_X3_numberChildren dX3_numberChildren_41 lk_hit K) ?_
      refine Es.via (fun o K => e_isub m_X3_numberChildren dX3_numberChildren_43 K) ?_
      refine Es.via (fun o K => e_istore m_X3_numberChildren dX3_numberChildren_44 (by decide) rfl K) ?_
      refine Es.via (fun o K => e_iload m_X3_numberChildren dX3_numberChildren_46 lk_hit K) ?_
      rcases Bool.eq_false_or_eq_true (mm_cond .lt (e - v2) 0) with q3 | q3
      · refine Es.via (fun o K => e_ifT (t := 77) m_X3_numberChildren dX3_numberChildren_48 (by decide) q3 K) ?_
        have q3 := c_lt q3
        refine Es.via (fun o K => e_iload m_X3_numberChildren dX3_numberChildren_77 lk_hit K) ?_
        refine Es.via (fun o K => e_istore_n m_X3_numberChildren dX3_numberChildren_79 rfl (by decide) rfl K) ?_
        refine Es.via (fun o K => e_iload_n m_X3_numberChildren dX3_numberChildren_80 rfl (lk_mis (by decide) rfl (lk_mis (by decide) rfl (lk_mis (by decide) rfl hl3))) K) ?_
        refine Es.via (fun o K => e_iload m_X3_numberChildren dX3_numberChildren_81 (lk_mis (by decide) rfl (lk_mis (by decide) rfl lk_hit)) K) ?_
        refine Es.via (fun o K => e_isub m_X3_numberChildren dX3_numberChildren_83 K) ?_
        refine Es.via (fun o K => e_istore_n m_X3_numberChildren dX3_numberChildren_84 rfl (by decide) rfl K) ?_
        refine Es.via (fun o K => e_iincN (n := 1) m_X3_numberChildren dX3_numberChildren_85 (by decide) (lk_mis (by decide) rfl (lk_mis (by decide) rfl (lk_mis (by decide) rfl (lk_mis (by decide) rfl hl5)))) rfl K) ?_
        refine Es.via (fun o K => e_goto (t := 26) m_X3_numberChildren dX3_numberChildren_88 (by decide) K) ?_
        exact ih (j + 1) (by omega) (up_nat hj q1) f5 f6 (e - v2) (p - v2) _ (lk_mis (by decide) rfl (lk_mis (by decide) rfl (lk_mis (by decide) rfl (lk_mis (by decide) rfl (lk_mis (by decide) rfl hl0))))) (lk_mis (by decide) rfl (lk_mis (by decide) rfl (lk_mis (by decide) rfl (lk_mis (by decide) rfl (lk_mis (by decide) rfl hl1))))) (lk_mis (by decide) rfl (lk_mis (by decide) rfl lk_hit)) (lk_mis (by decide) rfl lk_hit) (lk_mis (by decide) rfl (lk_mis (by decide) rfl (lk_mis (by decide) rfl (lk_mis (by decide) rfl (lk_mis (by decide) rfl hl4))))) lk_hit
      · refine Es.via (fun o K => e_ifF (t := 77) m_X3_numberChildren dX3_numberChildren_48 (by decide) q3 K) ?_
        have q3 := c_lt' q3
        refine Es.via (fun o K => e_iload m_X3_numberChildren dX3_numberChildren_51 lk_hit K) ?_
        refine Es.via (fun o K => e_aload_n m_X3_numberChildren dX3_numberChildren_53 rfl (lk_mis (by decide) rfl (lk_mis (by decide) rfl hl0)) rfl K) ?_
        refine Es.via (fun o K => e_getf m_X3_numberChildren dX3_numberChildren_54 f_RX3_24 (gK_3 hK) rfl K) ?_
        refine Es.via (fun o K => e_alen m_X3_numberChildren dX3_numberChildren_57 (gK_r5 hK) (by decide) K) ?_
        rcases Bool.eq_false_or_eq_true (mm_cond .ge (e - v2) (Int32.ofNat N)) with q4 | q4
        · refine Es.via (fun o K => e_icT (t := 77) m_X3_numberChildren dX3_numberChildren_58 (by decide) q4 K) ?_
          have q4 := c_ge q4
          refine Es.via (fun o K => e_iload m_X3_numberChildren dX3_numberChildren_77 lk_hit K) ?_
          refine Es.via (fun o K => e_istore_n m_X3_numberChildren dX3_numberChildren_79 rfl (by decide) rfl K) ?_
          refine Es.via (fun o K => e_iload_n m_X3_numberChildren dX3_numberChildren_80 rfl (lk_mis (by decide) rfl (lk_mis (by decide) rfl (lk_mis (by decide) rfl hl3))) K) ?_
          refine Es.via (fun o K => e_iload m_X3_numberChildren dX3_numberChildren_81 (lk_mis (by decide) rfl (lk_mis (by decide) rfl lk_hit)) K) ?_
          refine Es.via (fun o K => e_isub m_X3_numberChildren dX3_numberChildren_83 K) ?_
          refine Es.via (fun o K => e_istore_n m_X3_numberChildren dX3_numberChildren_84 rfl (by decide) rfl K) ?_
          refine Es.via (fun o K => e_iincN (n := 1) m_X3_numberChildren dX3_numberChildren_85 (by decide) (lk_mis (by decide) rfl (lk_mis (by decide) rfl (lk_mis (by decide) rfl (lk_mis (by decide) rfl hl5)))) rfl K) ?_
          refine Es.via (fun o K => e_goto (t := 26) m_X3_numberChildren dX3_numberChildren_88 (by decide) K) ?_
          exact ih (j + 1) (by omega) (up_nat hj q1) f5 f6 (e - v2) (p - v2) _ (lk_mis (by decide) rfl (lk_mis (by decide) rfl (lk_mis (by decide) rfl (lk_mis (by decide) rfl (lk_mis (by decide) rfl hl0))))) (lk_mis (by decide) rfl (lk_mis (by decide) rfl (lk_mis (by decide) rfl (lk_mis (by decide) rfl (lk_mis (by decide) rfl hl1))))) (lk_mis (by decide) rfl (lk_mis (by decide) rfl lk_hit)) (lk_mis (by decide) rfl lk_hit) (lk_mis (by decide) rfl (lk_mis (by decide) rfl (lk_mis (by decide) rfl (lk_mis (by decide) rfl (lk_mis (by decide) rfl hl4))))) lk_hit
        · refine Es.via (fun o K => e_icF (t := 77) m_X3_numberChildren dX3_numberChildren_58 (by decide) q4 K) ?_
          have q4 := c_ge' q4
          refine Es.via (fun o K => e_aload_n m_X3_numberChildren dX3_numberChildren_61 rfl (lk_mis (by decide) rfl (lk_mis (by decide) rfl hl0)) rfl K) ?_
          refine Es.via (fun o K => e_getf m_X3_numberChildren dX3_numberChildren_62 f_RX3_24 (gK_3 hK) rfl K) ?_
          refine Es.via (fun o K => e_iload m_X3_numberChildren dX3_numberChildren_65 lk_hit K) ?_
          refine Es.via (fun o K => e_iload_n m_X3_numberChildren dX3_numberChildren_67 rfl (lk_mis (by decide) rfl (lk_mis (by decide) rfl hl3)) K) ?_
          refine Es.via (fun o K => e_iast (h' := HK h0 a N cnt us nb kf f1 f2 f3 f4 (upd f5 (e - v2).toNatClampNeg (vp_nar (mm_ty 0) p)) f6) (Or.inl ⟨rfl, rfl⟩) m_X3_numberChildren dX3_numberChildren_68 (gK_r5 hK) (in_of (hK.2.2) q3 q4) (sK_r5 hK) K) ?_
          refine Es.via (fun o K => e_aload_n m_X3_numberChildren dX3_numberChildren_69 rfl (lk_mis (by decide) rfl (lk_mis (by decide) rfl hl0)) rfl K) ?_
          refine Es.via (fun o K => e_getf m_X3_numberChildren dX3_numberChildren_70 f_RX3_27 (gK_3 hK) rfl K) ?_
          refine Es.via (fun o K => e_iload m_X3_numberChildren dX3_numberChildren_73 lk_hit K) ?_
          refine Es.via (fun o K => e_iload_n m_X3_numberChildren dX3_numberChildren_75 rfl (lk_mis (by decide) rfl (lk_mis (by decide) rfl hl1)) K) ?_
          refine Es.via (fun o K => e_iast (h' := HK h0 a N cnt us nb kf f1 f2 f3 f4 (upd f5 (e - v2).toNatClampNeg (vp_nar (mm_ty 0) p)) (upd f6 (e - v2).toNatClampNeg (vp_nar (mm_ty 0) k))) (Or.inl ⟨rfl, rfl⟩) m_X3_numberChildren dX3_numberChildren_76 (gK_r6 hK) (in_of (hK.2.2) q3 q4) (sK_r6 hK) K) ?_
          refine Es.via (fun o K => e_iload m_X3_numberChildren dX3_numberChildren_77 lk_hit K) ?_
          refine Es.via (fun o K => e_istore_n m_X3_numberChildren dX3_numberChildren_79 rfl (by decide) rfl K) ?_
          refine Es.via (fun o K => e_iload_n m_X3_numberChildren dX3_numberChildren_80 rfl (lk_mis (by decide) rfl (lk_mis (by decide) rfl (lk_mis (by decide) rfl hl3))) K) ?_
          refine Es.via (fun o K => e_iload m_X3_numberChildren dX3_numberChildren_81 (lk_mis (by decide) rfl (lk_mis (by decide) rfl lk_hit)) K) ?_
          refine Es.via (fun o K => e_isub m_X3_numberChildren dX3_numberChildren_83 K) ?_
          refine Es.via (fun o K => e_istore_n m_X3_numberChildren dX3_numberChildren_84 rfl (by decide) rfl K) ?_
          refine Es.via (fun o K => e_iincN (n := 1) m_X3_numberChildren dX3_numberChildren_85 (by decide) (lk_mis (by decide) rfl (lk_mis (by decide) rfl (lk_mis (by decide) rfl (lk_mis (by decide) rfl hl5)))) rfl K) ?_
          refine Es.via (fun o K => e_goto (t := 26) m_X3_numberChildren dX3_numberChildren_88 (by decide) K) ?_
          exact ih (j + 1) (by omega) (up_nat hj q1) (upd f5 (e - v2).toNatClampNeg (vp_nar (mm_ty 0) p)) (upd f6 (e - v2).toNatClampNeg (vp_nar (mm_ty 0) k)) (e - v2) (p - v2) _ (lk_mis (by decide) rfl (lk_mis (by decide) rfl (lk_mis (by decide) rfl (lk_mis (by decide) rfl (lk_mis (by decide) rfl hl0))))) (lk_mis (by decide) rfl (lk_mis (by decide) rfl (lk_mis (by decide) rfl (lk_mis (by decide) rfl (lk_mis (by decide) rfl hl1))))) (lk_mis (by decide) rfl (lk_mis (by decide) rfl lk_hit)) (lk_mis (by decide) rfl lk_hit) (lk_mis (by decide) rfl (lk_mis (by decide) rfl (lk_mis (by decide) rfl (lk_mis (by decide) rfl (lk_mis (by decide) rfl hl4))))) lk_hit
theorem t_numberChildren {xs : Nat → Int32} {L d : Nat} {h0 : mm_H} {a N : Nat} {cnt us nb : Int32} {kf f1 f2 f3 f4 f5 f6 : Nat → Int32} {x : Int32} (hK : Hk h0 a N) (hd : 5 ≤ d) : Es xs L d 108 0 (lv_args 0 [.ref 3, .int x]) [] (HK h0 a N cnt us nb kf f1 f2 f3 f4 f5 f6) 0 0 (fun o => ∃ f5' f6' : Nat → Int32, o = (.inl none, HK h0 a N cnt us nb kf f1 f2 f3 f4 f5' f6', 0, 0)) := by
  refine Es.via (fun o K => e_iload_n m_X3_numberChildren dX3_numberChildren_0 rfl rfl K) ?_
  refine Es.via (fun o K => e_aload_n m_X3_numberChildren dX3_numberChildren_1 rfl rfl rfl K) ?_
  refine Es.via (fun o K => e_iload_n m_X3_numberChildren dX3_numberChildren_2 rfl rfl K) ?_
  obtain ⟨_, hr1, v1, rfl⟩ := t_spanOf (xs := xs) (L := L) (d := d - 1) (cnt := cnt) (us := us) (nb := nb) (kf := kf) (f1 := f1) (f2 := f2) (f3 := f3) (f4 := f4) (f5 := f5) (f6 := f6) (x := x) hK (by omega)
  refine Es.via (fun o K => e_cv (as := [.int x]) m_X3_numberChildren dX3_numberChildren_3 c_RX3_54 (by decide) rfl rfl (gK_3 hK) rfl (Nat.le_of_ble_eq_true rfl) (Nat.le_of_ble_eq_true rfl) (by omega) (hr1) K) ?_
  refine Es.via (fun o K => e_iadd m_X3_numberChildren dX3_numberChildren_6 K) ?_
  refine Es.via (fun o K => e_istore_n m_X3_numberChildren dX3_numberChildren_7 rfl (by decide) rfl K) ?_
  refine Es.via (fun o K => e_aload_n m_X3_numberChildren dX3_numberChildren_8 rfl rfl rfl K) ?_
  refine Es.via (fun o K => e_iload_n m_X3_numberChildren dX3_numberChildren_9 rfl rfl K) ?_
  obtain ⟨_, hr2, v2, rfl⟩ := t_placeOf (xs := xs) (L := L) (d := d - 1) (cnt := cnt) (us := us) (nb := nb) (kf := kf) (f1 := f1) (f2 := f2) (f3 := f3) (f4 := f4) (f5 := f5) (f6 := f6) (x := x) hK (by omega)
  refine Es.via (fun o K => e_cv (as := [.int x]) m_X3_numberChildren dX3_numberChildren_10 c_RX3_57 (by decide) rfl rfl (gK_3 hK) rfl (Nat.le_of_ble_eq_true rfl) (Nat.le_of_ble_eq_true rfl) (by omega) (hr2) K) ?_
  refine Es.via (fun o K => e_iconst (v := 1) m_X3_numberChildren dX3_numberChildren_13 (by decide) K) ?_
  refine Es.via (fun o K => e_isub m_X3_numberChildren dX3_numberChildren_14 K) ?_
  refine Es.via (fun o K => e_istore_n m_X3_numberChildren dX3_numberChildren_15 rfl (by decide) rfl K) ?_
  refine Es.via (fun o K => e_aload_n m_X3_numberChildren dX3_numberChildren_16 rfl rfl rfl K) ?_
  refine Es.via (fun o K => e_iload_n m_X3_numberChildren dX3_numberChildren_17 rfl rfl K) ?_
  obtain ⟨_, hr3, v3, rfl⟩ := t_childrenOf (xs := xs) (L := L) (d := d - 1) (cnt := cnt) (us := us) (nb := nb) (kf := kf) (f1 := f1) (f2 := f2) (f3 := f3) (f4 := f4) (f5 := f5) (f6 := f6) (x := x) hK (by omega)
  refine Es.via (fun o K => e_cv (as := [.int x]) m_X3_numberChildren dX3_numberChildren_18 c_RX3_60 (by decide) rfl rfl (gK_3 hK) rfl (Nat.le_of_ble_eq_true rfl) (Nat.le_of_ble_eq_true rfl) (by omega) (hr3) K) ?_
  refine Es.via (fun o K => e_istore m_X3_numberChildren dX3_numberChildren_21 (by decide) rfl K) ?_
  refine Es.via (fun o K => e_iconst (v := 0) m_X3_numberChildren dX3_numberChildren_23 (by decide) K) ?_
  refine Es.via (fun o K => e_istore m_X3_numberChildren dX3_numberChildren_24 (by decide) rfl K) ?_
  exact t_ncLoop hK (by omega) 2147483649 0 (by omega) (by omega) _ _ _ _ _ rfl rfl rfl rfl rfl rfl
theorem t_nuLoop {xs : Nat → Int32} {L d : Nat} {h0 : mm_H} {a N : Nat} {cnt us nb : Int32} {kf f1 f2 f3 f4 : Nat → Int32} (hK : Hk h0 a N) (hd : 7 ≤ d) : ∀ (n j : Nat), 2147483648 - j < n → j < 2147483648 → ∀ (f5 f6 : Nat → Int32) (ls : mm_L) (hl0 : mm_lk ls 0 = some (.ref 3)) (hl1 : mm_lk ls 1 = some (.int (nI j))), Es xs L d 107 50 ls [] (HK h0 a N cnt us nb kf f1 f2 f3 f4 f5 f6) 0 0 (fun o => ∃ f5' f6' : Nat → Int32, o = (.inl none, HK h0 a N cnt us nb kf f1 f2 f3 f4 f5' f6', 0, 0)) := by
  intro n
  induction n with
  | zero => intro j h; omega
  | succ n ih' =>
    intro j hn hj f5 f6 ls hl0 hl1
    have ih := fun j' (h : 2147483648 - j' < n) => ih' j' h
    refine Es.via (fun o K => e_iload_n m_X3_number dX3_number_50 rfl hl1 K) ?_
    refine Es.via (fun o K => e_aload_n m_X3_number dX3_number_51 rfl hl0 rfl K) ?_
    refine Es.via (fun o K => e_getf m_X3_number dX3_number_52 f_RX3_34 (gK_3 hK) rfl K) ?_
    rcases Bool.eq_false_or_eq_true (mm_cond .ge (nI j) nb) with q1 | q1
    · refine Es.via (fun o K => e_icT (t := 69) m_X3_number dX3_number_55 (by decide) q1 K) ?_
      have q1 := c_ge q1
      exact ⟨_, e_ret0 m_X3_number dX3_number_69, ⟨_, _, rfl⟩⟩
    · refine Es.via (fun o K => e_icF (t := 69) m_X3_number dX3_number_55 (by decide) q1 K) ?_
      have q1 := c_ge' q1
      refine Es.via (fun o K => e_aload_n m_X3_number dX3_number_58 rfl hl0 rfl K) ?_
      refine Es.via (fun o K => e_iload_n m_X3_number dX3_number_59 rfl hl1 K) ?_
      obtain ⟨_, hr2, f5_2, f6_2, rfl⟩ := t_numberChildren (xs := xs) (L := L) (d := d - 1) (cnt := cnt) (us := us) (nb := nb) (kf := kf) (f1 := f1) (f2 := f2) (f3 := f3) (f4 := f4) (f5 := f5) (f6 := f6) (x := nI j) hK (by omega)
      refine Es.via (fun o K => e_cv (as := [.int (nI j)]) m_X3_number dX3_number_60 c_RX3_51 (by decide) rfl rfl (gK_3 hK) rfl (Nat.le_of_ble_eq_true rfl) (Nat.le_of_ble_eq_true rfl) (by omega) (hr2) K) ?_
      refine Es.via (fun o K => e_iincN (n := 1) m_X3_number dX3_number_63 (by decide) hl1 rfl K) ?_
      refine Es.via (fun o K => e_goto (t := 50) m_X3_number dX3_number_66 (by decide) K) ?_
      exact ih (j + 1) (by omega) (up_nat hj q1) f5_2 f6_2 _ (lk_mis (by decide) rfl hl0) lk_hit
theorem t_number {xs : Nat → Int32} {L d : Nat} {h0 : mm_H} {a N : Nat} {cnt us nb : Int32} {kf f1 f2 f3 f4 f5 f6 : Nat → Int32} (hK : Hk h0 a N) (hN0 : 0 < N) (hd : 7 ≤ d) : Es xs L d 107 0 (lv_args 0 [.ref 3]) [] (HK h0 a N cnt us nb kf f1 f2 f3 f4 f5 f6) 0 0 (fun o => ∃ (nb' : Int32) (f5' f6' : Nat → Int32), o = (.inl none, HK h0 a N cnt us nb' kf f1 f2 f3 f4 f5' f6', 0, 0)) := by
  refine Es.via (fun o K => e_aload_n m_X3_number dX3_number_0 rfl rfl rfl K) ?_
  refine Es.via (fun o K => e_getf m_X3_number dX3_number_1 f_RX3_30 (gK_3 hK) rfl K) ?_
  refine Es.via (fun o K => e_iconst (v := 1) m_X3_number dX3_number_4 (by decide) K) ?_
  rcases Bool.eq_false_or_eq_true (mm_cond .lt us 1) with q1 | q1
  · refine Es.via (fun o K => e_icT (t := 20) m_X3_number dX3_number_5 (by decide) q1 K) ?_
    have q1 := c_lt q1
    exact ⟨_, e_ret0 m_X3_number dX3_number_20, ⟨_, _, _, rfl⟩⟩
  · refine Es.via (fun o K => e_icF (t := 20) m_X3_number dX3_number_5 (by decide) q1 K) ?_
    have q1 := c_lt' q1
    refine Es.via (fun o K => e_aload_n m_X3_number dX3_number_8 rfl rfl rfl K) ?_
    refine Es.via (fun o K => e_getf m_X3_number dX3_number_9 f_RX3_30 (gK_3 hK) rfl K) ?_
    refine Es.via (fun o K => e_aload_n m_X3_number dX3_number_12 rfl rfl rfl K) ?_
    refine Es.via (fun o K => e_getf m_X3_number dX3_number_13 f_RX3_24 (gK_3 hK) rfl K) ?_
    refine Es.via (fun o K => e_alen m_X3_number dX3_number_16 (gK_r5 hK) (by decide) K) ?_
    rcases Bool.eq_false_or_eq_true (mm_cond .le us (Int32.ofNat N)) with q2 | q2
    · refine Es.via (fun o K => e_icT (t := 21) m_X3_number dX3_number_17 (by decide) q2 K) ?_
      have q2 := c_le q2
      refine Es.via (fun o K => e_aload_n m_X3_number dX3_number_21 rfl rfl rfl K) ?_
      refine Es.via (fun o K => e_getf m_X3_number dX3_number_22 f_RX3_24 (gK_3 hK) rfl K) ?_
      refine Es.via (fun o K => e_iconst (v := 0) m_X3_number dX3_number_25 (by decide) K) ?_
      refine Es.via (fun o K => e_aload_n m_X3_number dX3_number_26 rfl rfl rfl K) ?_
      refine Es.via (fun o K => e_getf m_X3_number dX3_number_27 f_RX3_30 (gK_3 hK) rfl K) ?_
      refine Es.via (fun o K => e_iconst (v := 1) m_X3_number dX3_number_30 (by decide) K) ?_
      refine Es.via (fun o K => e_isub m_X3_number dX3_number_31 K) ?_
      refine Es.via (fun o K => e_iast (h' := HK h0 a N cnt us nb kf f1 f2 f3 f4 (upd f5 (0 : Int32).toNatClampNeg (vp_nar (mm_ty 0) (us - 1))) f6) (Or.inl ⟨rfl, rfl⟩) m_X3_number dX3_number_32 (gK_r5 hK) (in_zero hN0 (hK.2.2)) (sK_r5 hK) K) ?_
      refine Es.via (fun o K => e_aload_n m_X3_number dX3_number_33 rfl rfl rfl K) ?_
      refine Es.via (fun o K => e_getf m_X3_number dX3_number_34 f_RX3_27 (gK_3 hK) rfl K) ?_
      refine Es.via (fun o K => e_iconst (v := 0) m_X3_number dX3_number_37 (by decide) K) ?_
      refine Es.via (fun o K => e_iconst (v := (-1)) m_X3_number dX3_number_38 (by decide) K) ?_
      refine Es.via (fun o K => e_iast (h' := HK h0 a N cnt us nb kf f1 f2 f3 f4 (upd f5 (0 : Int32).toNatClampNeg (vp_nar (mm_ty 0) (us - 1))) (upd f6 (0 : Int32).toNatClampNeg (vp_nar (mm_ty 0) (-1)))) (Or.inl ⟨rfl, rfl⟩) m_X3_number dX3_number_39 (gK_r6 hK) (in_zero hN0 (hK.2.2)) (sK_r6 hK) K) ?_
      refine Es.via (fun o K => e_aload_n m_X3_number dX3_number_40 rfl rfl rfl K) ?_
      refine Es.via (fun o K => e_aload_n m_X3_number dX3_number_41 rfl rfl rfl K) ?_
      refine Es.via (fun o K => e_getf m_X3_number dX3_number_42 f_RX3_30 (gK_3 hK) rfl K) ?_
      refine Es.via (fun o K => e_putf (h' := HK h0 a N cnt us us kf f1 f2 f3 f4 (upd f5 (0 : Int32).toNatClampNeg (vp_nar (mm_ty 0) (us - 1))) (upd f6 (0 : Int32).toNatClampNeg (vp_nar (mm_ty 0) (-1)))) m_X3_number dX3_number_45 f_RX3_34 (gK_3 hK) (Nat.le_of_ble_eq_true rfl) (fit_i rfl) rfl (sK_3 hK) K) ?_
      refine Es.via (fun o K => e_iconst (v := 0) m_X3_number dX3_number_48 (by decide) K) ?_
      refine Es.via (fun o K => e_istore_n m_X3_number dX3_number_49 rfl (by decide) rfl K) ?_
      refine Es.imp (t_nuLoop hK (by omega) 2147483649 0 (by omega) (by omega) _ _ _ rfl rfl) (fun o h => ?_)
      obtain ⟨f5', f6', rfl⟩ := h
      exact ⟨_, _, _, rfl⟩
    · refine Es.via (fun o K => e_icF (t := 21) m_X3_number dX3_number_17 (by decide) q2 K) ?_
      have q2 := c_le' q2
      exact ⟨_, e_ret0 m_X3_number dX3_number_20, ⟨_, _, _, rfl⟩⟩
theorem t_node {xs : Nat → Int32} {L d : Nat} {h0 : mm_H} {a N : Nat} {cnt us nb : Int32} {kf f1 f2 f3 f4 f5 f6 : Nat → Int32} {x w : Int32} (hK : Hk h0 a N) (hd : 8 ≤ d) : Es xs L d 116 0 (lv_args 0 [.ref 0, .int x, .int w]) [] (HK h0 a N cnt us nb kf f1 f2 f3 f4 f5 f6) 0 0 (fun o => Vh (HK h0 a N cnt us nb kf f1 f2 f3 f4 f5 f6) o ∨ o = (.inr "java/util/NoSuchElementException", HK h0 a N cnt us nb kf f1 f2 f3 f4 f5 f6, 0 + 1, 0 + 6)) := by
  refine Es.via (fun o K => e_aload_n m_X5_node dX5_node_0 rfl rfl rfl K) ?_
  refine Es.via (fun o K => e_getf m_X5_node dX5_node_1 f_RX5_19 (gK_0 hK) rfl K) ?_
  refine Es.via (fun o K => e_iload_n m_X5_node dX5_node_4 rfl rfl K) ?_
  obtain ⟨_, hr1, v1, rfl⟩ := t_has (xs := xs) (L := L) (d := d - 1) (cnt := cnt) (us := us) (nb := nb) (kf := kf) (f1 := f1) (f2 := f2) (f3 := f3) (f4 := f4) (f5 := f5) (f6 := f6) (x := x) hK (by omega)
  refine Es.via (fun o K => e_cv (as := [.int x]) m_X5_node dX5_node_5 c_RX5_66 (by decide) rfl rfl (gK_3 hK) rfl (Nat.le_of_ble_eq_true rfl) (Nat.le_of_ble_eq_true rfl) (by omega) (hr1) K) ?_
  rcases Bool.eq_false_or_eq_true (mm_cond .ne v1 0) with q2 | q2
  · refine Es.via (fun o K => e_ifT (t := 21) m_X5_node dX5_node_8 (by decide) q2 K) ?_
    have q2 := c_ne q2
    refine Es.via (fun o K => e_iload_n m_X5_node dX5_node_21 rfl rfl K) ?_
    rcases sw5 w with q9 | q9 | q9 | q9 | q9 | q9
    · refine Es.via (fun o K => e_table (t := 56) m_X5_node dX5_node_22 (by rw [q9]; decide) (Or.inr (by rw [q9]; decide)) K) ?_
      refine Es.via (fun o K => e_aload_n m_X5_node dX5_node_56 rfl rfl rfl K) ?_
      refine Es.via (fun o K => e_getf m_X5_node dX5_node_57 f_RX5_19 (gK_0 hK) rfl K) ?_
      refine Es.via (fun o K => e_iload_n m_X5_node dX5_node_60 rfl rfl K) ?_
      obtain ⟨_, hr3, v3, rfl⟩ := t_whatOf (xs := xs) (L := L) (d := d - 1) (cnt := cnt) (us := us) (nb := nb) (kf := kf) (f1 := f1) (f2 := f2) (f3 := f3) (f4 := f4) (f5 := f5) (f6 := f6) (x := x) hK (by omega)
      refine Es.via (fun o K => e_cv (as := [.int x]) m_X5_node dX5_node_61 c_RX5_76 (by decide) rfl rfl (gK_3 hK) rfl (Nat.le_of_ble_eq_true rfl) (Nat.le_of_ble_eq_true rfl) (by omega) (hr3) K) ?_
      exact ⟨_, e_reti m_X5_node dX5_node_64 (Or.inl rfl), Or.inl ⟨_, rfl⟩⟩
    · refine Es.via (fun o K => e_table (t := 65) m_X5_node dX5_node_22 (by rw [q9]; decide) (Or.inr (by rw [q9]; decide)) K) ?_
      refine Es.via (fun o K => e_aload_n m_X5_node dX5_node_65 rfl rfl rfl K) ?_
      refine Es.via (fun o K => e_getf m_X5_node dX5_node_66 f_RX5_19 (gK_0 hK) rfl K) ?_
      refine Es.via (fun o K => e_iload_n m_X5_node dX5_node_69 rfl rfl K) ?_
      obtain ⟨_, hr4, v4, rfl⟩ := t_tokenOf (xs := xs) (L := L) (d := d - 1) (cnt := cnt) (us := us) (nb := nb) (kf := kf) (f1 := f1) (f2 := f2) (f3 := f3) (f4 := f4) (f5 := f5) (f6 := f6) (x := x) hK (by omega)
      refine Es.via (fun o K => e_cv (as := [.int x]) m_X5_node dX5_node_70 c_RX5_80 (by decide) rfl rfl (gK_3 hK) rfl (Nat.le_of_ble_eq_true rfl) (Nat.le_of_ble_eq_true rfl) (by omega) (hr4) K) ?_
      exact ⟨_, e_reti m_X5_node dX5_node_73 (Or.inl rfl), Or.inl ⟨_, rfl⟩⟩
    · refine Es.via (fun o K => e_table (t := 74) m_X5_node dX5_node_22 (by rw [q9]; decide) (Or.inr (by rw [q9]; decide)) K) ?_
      refine Es.via (fun o K => e_aload_n m_X5_node dX5_node_74 rfl rfl rfl K) ?_
      refine Es.via (fun o K => e_getf m_X5_node dX5_node_75 f_RX5_19 (gK_0 hK) rfl K) ?_
      refine Es.via (fun o K => e_iload_n m_X5_node dX5_node_78 rfl rfl K) ?_
      obtain ⟨_, hr5, v5, rfl⟩ := t_spanOf (xs := xs) (L := L) (d := d - 1) (cnt := cnt) (us := us) (nb := nb) (kf := kf) (f1 := f1) (f2 := f2) (f3 := f3) (f4 := f4) (f5 := f5) (f6 := f6) (x := x) hK (by omega)
      refine Es.via (fun o K => e_cv (as := [.int x]) m_X5_node dX5_node_79 c_RX5_83 (by decide) rfl rfl (gK_3 hK) rfl (Nat.le_of_ble_eq_true rfl) (Nat.le_of_ble_eq_true rfl) (by omega) (hr5) K) ?_
      exact ⟨_, e_reti m_X5_node dX5_node_82 (Or.inl rfl), Or.inl ⟨_, rfl⟩⟩
    · refine Es.via (fun o K => e_table (t := 83) m_X5_node dX5_node_22 (by rw [q9]; decide) (Or.inr (by rw [q9]; decide)) K) ?_
      refine Es.via (fun o K => e_aload_n m_X5_node dX5_node_83 rfl rfl rfl K) ?_
      refine Es.via (fun o K => e_getf m_X5_node dX5_node_84 f_RX5_19 (gK_0 hK) rfl K) ?_
      refine Es.via (fun o K => e_iload_n m_X5_node dX5_node_87 rfl rfl K) ?_
      obtain ⟨_, hr6, v6, rfl⟩ := t_childrenOf (xs := xs) (L := L) (d := d - 1) (cnt := cnt) (us := us) (nb := nb) (kf := kf) (f1 := f1) (f2 := f2) (f3 := f3) (f4 := f4) (f5 := f5) (f6 := f6) (x := x) hK (by omega)
      refine Es.via (fun o K => e_cv (as := [.int x]) m_X5_node dX5_node_88 c_RX5_86 (by decide) rfl rfl (gK_3 hK) rfl (Nat.le_of_ble_eq_true rfl) (Nat.le_of_ble_eq_true rfl) (by omega) (hr6) K) ?_
      exact ⟨_, e_reti m_X5_node dX5_node_91 (Or.inl rfl), Or.inl ⟨_, rfl⟩⟩
    · refine Es.via (fun o K => e_table (t := 92) m_X5_node dX5_node_22 (by rw [q9]; decide) (Or.inr (by rw [q9]; decide)) K) ?_
      refine Es.via (fun o K => e_aload_n m_X5_node dX5_node_92 rfl rfl rfl K) ?_
      refine Es.via (fun o K => e_getf m_X5_node dX5_node_93 f_RX5_19 (gK_0 hK) rfl K) ?_
      refine Es.via (fun o K => e_iload_n m_X5_node dX5_node_96 rfl rfl K) ?_
      obtain ⟨_, hr7, v7, rfl⟩ := t_parentOf (xs := xs) (L := L) (d := d - 1) (cnt := cnt) (us := us) (nb := nb) (kf := kf) (f1 := f1) (f2 := f2) (f3 := f3) (f4 := f4) (f5 := f5) (f6 := f6) (x := x) hK (by omega)
      refine Es.via (fun o K => e_cv (as := [.int x]) m_X5_node dX5_node_97 c_RX5_89 (by decide) rfl rfl (gK_3 hK) rfl (Nat.le_of_ble_eq_true rfl) (Nat.le_of_ble_eq_true rfl) (by omega) (hr7) K) ?_
      exact ⟨_, e_reti m_X5_node dX5_node_100 (Or.inl rfl), Or.inl ⟨_, rfl⟩⟩
    · refine Es.via (fun o K => e_table (t := 101) m_X5_node dX5_node_22 (by rw [show mm_table _ _ _ _ _ = _ from if_pos q9]; decide) (Or.inl q9) K) ?_
      exact ⟨_, e_thr m_X5_node dX5_node_101 (by decide +kernel) (by decide +kernel : mm_X RX5 69 = some (RX5, 69, "java/util/NoSuchElementException", 817)) dX5_node_104 dX5_node_105 dX5_node_107 dX5_node_110 (List.mem_cons_of_mem _ (List.mem_cons_of_mem _ List.mem_cons_self)) (Nat.zero_le _) (by omega), Or.inr rfl⟩
  · refine Es.via (fun o K => e_ifF (t := 21) m_X5_node dX5_node_8 (by decide) q2 K) ?_
    have q2 := c_ne' q2
    exact ⟨_, e_thr m_X5_node dX5_node_11 (by decide +kernel) (by decide +kernel : mm_X RX5 69 = some (RX5, 69, "java/util/NoSuchElementException", 817)) dX5_node_14 dX5_node_15 dX5_node_17 dX5_node_20 (List.mem_cons_of_mem _ List.mem_cons_self) (Nat.zero_le _) (by omega), Or.inr rfl⟩
theorem t_chLoop {xs : Nat → Int32} {L d : Nat} {h0 : mm_H} {a N : Nat} {cnt us nb : Int32} {kf f1 f2 f3 f4 f5 f6 : Nat → Int32} {x w : Int32} (hK : Hk h0 a N) (hd : 8 ≤ d) : ∀ (n j : Nat), 2147483648 - j < n → j < 2147483648 → ∀ (y : Int32) (ls : mm_L) (hl0 : mm_lk ls 0 = some (.ref 0)) (hl1 : mm_lk ls 1 = some (.int x)) (hl2 : mm_lk ls 2 = some (.int w)) (hl3 : mm_lk ls 3 = some (.int y)) (hl4 : mm_lk ls 4 = some (.int (nI j))), Es xs L d 122 44 ls [] (HK h0 a N cnt us nb kf f1 f2 f3 f4 f5 f6) 0 0 (fun o => Vh (HK h0 a N cnt us nb kf f1 f2 f3 f4 f5 f6) o ∨ o = (.inr "java/util/NoSuchElementException", HK h0 a N cnt us nb kf f1 f2 f3 f4 f5 f6, 0 + 1, 0 + 6)) := by
  intro n
  induction n with
  | zero => intro j h; omega
  | succ n ih' =>
    intro j hn hj y ls hl0 hl1 hl2 hl3 hl4
    have ih := fun j' (h : 2147483648 - j' < n) => ih' j' h
    refine Es.via (fun o K => e_iload m_X5_child dX5_child_44 hl4 K) ?_
    refine Es.via (fun o K => e_iload_n m_X5_child dX5_child_46 rfl hl2 K) ?_
    rcases Bool.eq_false_or_eq_true (mm_cond .ge (nI j) w) with q1 | q1
    · refine Es.via (fun o K => e_icT (t := 67) m_X5_child dX5_child_47 (by decide) q1 K) ?_
      have q1 := c_ge q1
      refine Es.via (fun o K => e_iload_n m_X5_child dX5_child_67 rfl hl3 K) ?_
      exact ⟨_, e_reti m_X5_child dX5_child_68 (Or.inl rfl), Or.inl ⟨_, rfl⟩⟩
    · refine Es.via (fun o K => e_icF (t := 67) m_X5_child dX5_child_47 (by decide) q1 K) ?_
      have q1 := c_ge' q1
      refine Es.via (fun o K => e_iload_n m_X5_child dX5_child_50 rfl hl3 K) ?_
      refine Es.via (fun o K => e_aload_n m_X5_child dX5_child_51 rfl hl0 rfl K) ?_
      refine Es.via (fun o K => e_getf m_X5_child dX5_child_52 f_RX5_19 (gK_0 hK) rfl K) ?_
      refine Es.via (fun o K => e_iload_n m_X5_child dX5_child_55 rfl hl3 K) ?_
      obtain ⟨_, hr2, v2, rfl⟩ := t_spanOf (xs := xs) (L := L) (d := d - 1) (cnt := cnt) (us := us) (nb := nb) (kf := kf) (f1 := f1) (f2 := f2) (f3 := f3) (f4 := f4) (f5 := f5) (f6 := f6) (x := y) hK (by omega)
      refine Es.via (fun o K => e_cv (as := [.int y]) m_X5_child dX5_child_56 c_RX5_83 (by decide) rfl rfl (gK_3 hK) rfl (Nat.le_of_ble_eq_true rfl) (Nat.le_of_ble_eq_true rfl) (by omega) (hr2) K) ?_
      refine Es.via (fun o K => e_iadd m_X5_child dX5_child_59 K) ?_
      refine Es.via (fun o K => e_istore_n m_X5_child dX5_child_60 rfl (by decide) rfl K) ?_
      refine Es.via (fun o K => e_iincN (n := 1) m_X5_child dX5_child_61 (by decide) (lk_mis (by decide) rfl hl4) rfl K) ?_
      refine Es.via (fun o K => e_goto (t := 44) m_X5_child dX5_child_64 (by decide) K) ?_
      exact ih (j + 1) (by omega) (up_nat hj q1) (y + v2) _ (lk_mis (by decide) rfl (lk_mis (by decide) rfl hl0)) (lk_mis (by decide) rfl (lk_mis (by decide) rfl hl1)) (lk_mis (by decide) rfl (lk_mis (by decide) rfl hl2)) (lk_mis (by decide) rfl lk_hit) lk_hit
theorem t_child {xs : Nat → Int32} {L d : Nat} {h0 : mm_H} {a N : Nat} {cnt us nb : Int32} {kf f1 f2 f3 f4 f5 f6 : Nat → Int32} {x w : Int32} (hK : Hk h0 a N) (hd : 8 ≤ d) : Es xs L d 122 0 (lv_args 0 [.ref 0, .int x, .int w]) [] (HK h0 a N cnt us nb kf f1 f2 f3 f4 f5 f6) 0 0 (fun o => Vh (HK h0 a N cnt us nb kf f1 f2 f3 f4 f5 f6) o ∨ o = (.inr "java/util/NoSuchElementException", HK h0 a N cnt us nb kf f1 f2 f3 f4 f5 f6, 0 + 1, 0 + 6)) := by
  refine Es.via (fun o K => e_aload_n m_X5_child dX5_child_0 rfl rfl rfl K) ?_
  refine Es.via (fun o K => e_getf m_X5_child dX5_child_1 f_RX5_19 (gK_0 hK) rfl K) ?_
  refine Es.via (fun o K => e_iload_n m_X5_child dX5_child_4 rfl rfl K) ?_
  obtain ⟨_, hr1, v1, rfl⟩ := t_has (xs := xs) (L := L) (d := d - 1) (cnt := cnt) (us := us) (nb := nb) (kf := kf) (f1 := f1) (f2 := f2) (f3 := f3) (f4 := f4) (f5 := f5) (f6 := f6) (x := x) hK (by omega)
  refine Es.via (fun o K => e_cv (as := [.int x]) m_X5_child dX5_child_5 c_RX5_66 (by decide) rfl rfl (gK_3 hK) rfl (Nat.le_of_ble_eq_true rfl) (Nat.le_of_ble_eq_true rfl) (by omega) (hr1) K) ?_
  rcases Bool.eq_false_or_eq_true (mm_cond .eq v1 0) with q2 | q2
  · refine Es.via (fun o K => e_ifT (t := 27) m_X5_child dX5_child_8 (by decide) q2 K) ?_
    have q2 := c_eq q2
    exact ⟨_, e_thr m_X5_child dX5_child_27 (by decide +kernel) (by decide +kernel : mm_X RX5 69 = some (RX5, 69, "java/util/NoSuchElementException", 817)) dX5_child_30 dX5_child_31 dX5_child_33 dX5_child_36 (List.mem_cons_of_mem _ (List.mem_cons_of_mem _ (List.mem_cons_of_mem _ List.mem_cons_self))) (Nat.zero_le _) (by omega), Or.inr rfl⟩
  · refine Es.via (fun o K => e_ifF (t := 27) m_X5_child dX5_child_8 (by decide) q2 K) ?_
    have q2 := c_eq' q2
    refine Es.via (fun o K => e_iload_n m_X5_child dX5_child_11 rfl rfl K) ?_
    rcases Bool.eq_false_or_eq_true (mm_cond .lt w 0) with q3 | q3
    · refine Es.via (fun o K => e_ifT (t := 27) m_X5_child dX5_child_12 (by decide) q3 K) ?_
      have q3 := c_lt q3
      exact ⟨_, e_thr m_X5_child dX5_child_27 (by decide +kernel) (by decide +kernel : mm_X RX5 69 = some (RX5, 69, "java/util/NoSuchElementException", 817)) dX5_child_30 dX5_child_31 dX5_child_33 dX5_child_36 (List.mem_cons_of_mem _ (List.mem_cons_of_mem _ (List.mem_cons_of_mem _ List.mem_cons_self))) (Nat.zero_le _) (by omega), Or.inr rfl⟩
    · refine Es.via (fun o K => e_ifF (t := 27) m_X5_child dX5_child_12 (by decide) q3 K) ?_
      have q3 := c_lt' q3
      refine Es.via (fun o K => e_iload_n m_X5_child dX5_child_15 rfl rfl K) ?_
      refine Es.via (fun o K => e_aload_n m_X5_child dX5_child_16 rfl rfl rfl K) ?_
      refine Es.via (fun o K => e_getf m_X5_child dX5_child_17 f_RX5_19 (gK_0 hK) rfl K) ?_
      refine Es.via (fun o K => e_iload_n m_X5_child dX5_child_20 rfl rfl K) ?_
      obtain ⟨_, hr4, v4, rfl⟩ := t_childrenOf (xs := xs) (L := L) (d := d - 1) (cnt := cnt) (us := us) (nb := nb) (kf := kf) (f1 := f1) (f2 := f2) (f3 := f3) (f4 := f4) (f5 := f5) (f6 := f6) (x := x) hK (by omega)
      refine Es.via (fun o K => e_cv (as := [.int x]) m_X5_child dX5_child_21 c_RX5_86 (by decide) rfl rfl (gK_3 hK) rfl (Nat.le_of_ble_eq_true rfl) (Nat.le_of_ble_eq_true rfl) (by omega) (hr4) K) ?_
      rcases Bool.eq_false_or_eq_true (mm_cond .lt w v4) with q5 | q5
      · refine Es.via (fun o K => e_icT (t := 37) m_X5_child dX5_child_24 (by decide) q5 K) ?_
        have q5 := c_lt q5
        refine Es.via (fun o K => e_iload_n m_X5_child dX5_child_37 rfl rfl K) ?_
        refine Es.via (fun o K => e_iconst (v := 1) m_X5_child dX5_child_38 (by decide) K) ?_
        refine Es.via (fun o K => e_iadd m_X5_child dX5_child_39 K) ?_
        refine Es.via (fun o K => e_istore_n m_X5_child dX5_child_40 rfl (by decide) rfl K) ?_
        refine Es.via (fun o K => e_iconst (v := 0) m_X5_child dX5_child_41 (by decide) K) ?_
        refine Es.via (fun o K => e_istore m_X5_child dX5_child_42 (by decide) rfl K) ?_
        exact t_chLoop hK (by omega) 2147483649 0 (by omega) (by omega) _ _ rfl rfl rfl rfl rfl
      · refine Es.via (fun o K => e_icF (t := 37) m_X5_child dX5_child_24 (by decide) q5 K) ?_
        have q5 := c_lt' q5
        exact ⟨_, e_thr m_X5_child dX5_child_27 (by decide +kernel) (by decide +kernel : mm_X RX5 69 = some (RX5, 69, "java/util/NoSuchElementException", 817)) dX5_child_30 dX5_child_31 dX5_child_33 dX5_child_36 (List.mem_cons_of_mem _ (List.mem_cons_of_mem _ (List.mem_cons_of_mem _ List.mem_cons_self))) (Nat.zero_le _) (by omega), Or.inr rfl⟩
