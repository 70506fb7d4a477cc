/-! build on no tokens. -/
theorem t_begin {xs : Nat → Int32} {L d : Nat} {cnt us nb th ct md nd td at' dp wr rw : Int32} {kf kg fW fT fP fF fL fN gD gN gT : Nat → Int32} {t : mm_H} (hd : 1 ≤ d) : Rn xs L d 10 [.ref 3, .int 0] (qh cnt kf us nb th ct md nd td at' dp wr rw kg fW fT fP fF fL fN gD gN gT t) (.inl none, qh cnt kf 0 0 th ct md nd td at' dp wr rw kg fW fT fP fF fL fN gD gN gT t, 0, 0) := by
  unfold Rn
  refine e_aload_n m_X3_beginFor dX3_beginFor_0 rfl rfl rfl ?_
  refine e_iconst (v := 0) m_X3_beginFor dX3_beginFor_1 (by decide) ?_
  refine e_putf (h' := qh cnt kf 0 nb th ct md nd td at' dp wr rw kg fW fT fP fF fL fN gD gN gT t) m_X3_beginFor dX3_beginFor_2 f_RX3_30 qg3 (Nat.le_of_ble_eq_true rfl) (fit_i rfl) rfl rfl ?_
  refine e_aload_n m_X3_beginFor dX3_beginFor_5 rfl rfl rfl ?_
  refine e_iconst (v := 0) m_X3_beginFor dX3_beginFor_6 (by decide) ?_
  refine e_putf (h' := qh cnt kf 0 0 th ct md nd td at' dp wr rw kg fW fT fP fF fL fN gD gN gT t) m_X3_beginFor dX3_beginFor_7 f_RX3_34 qg3 (Nat.le_of_ble_eq_true rfl) (fit_i rfl) rfl rfl ?_
  refine e_iconst (v := 2) m_X3_beginFor dX3_beginFor_10 (by decide) ?_
  refine e_iload_n m_X3_beginFor dX3_beginFor_11 rfl rfl ?_
  refine e_imul m_X3_beginFor dX3_beginFor_12 ?_
  refine e_istore_n m_X3_beginFor dX3_beginFor_13 rfl (by decide) rfl ?_
  refine e_iload_n m_X3_beginFor dX3_beginFor_14 rfl rfl ?_
  refine e_aload_n m_X3_beginFor dX3_beginFor_15 rfl rfl rfl ?_
  refine e_getf m_X3_beginFor dX3_beginFor_16 f_RX3_11 qg3 rfl ?_
  refine e_alen m_X3_beginFor dX3_beginFor_19 qg4 (by decide) ?_
  refine e_icT (t := 38) m_X3_beginFor dX3_beginFor_20 (by decide) (by decide) ?_
  exact e_ret0 m_X3_beginFor dX3_beginFor_38
theorem t_kind0 {xs : Nat → Int32} {L d : Nat} {us nb th ct md nd td at' dp wr rw : Int32} {kf kg fW fT fP fF fL fN gD gN gT : Nat → Int32} {t : mm_H} (hd : 1 ≤ d) : Rn xs L d 13 [.ref 1, .int 0] (qh 0 kf us nb th ct md nd td at' dp wr rw kg fW fT fP fF fL fN gD gN gT t) (.inl (some (.int 0)), qh 0 kf us nb th ct md nd td at' dp wr rw kg fW fT fP fF fL fN gD gN gT t, 0, 0) := by
  unfold Rn
  refine e_iload_n m_X2_kindAt dX2_kindAt_0 rfl rfl ?_
  refine e_ifF (t := 30) m_X2_kindAt dX2_kindAt_1 (by decide) (by decide) ?_
  refine e_iload_n m_X2_kindAt dX2_kindAt_4 rfl rfl ?_
  refine e_aload_n m_X2_kindAt dX2_kindAt_5 rfl rfl rfl ?_
  refine e_getf m_X2_kindAt dX2_kindAt_6 f_RX2_13 qg1 rfl ?_
  refine e_icT (t := 30) m_X2_kindAt dX2_kindAt_9 (by decide) (by decide) ?_
  refine e_iconst (v := 0) m_X2_kindAt dX2_kindAt_30 (by decide) ?_
  exact e_reti m_X2_kindAt dX2_kindAt_31 (Or.inl rfl)
theorem t_pinit {xs : Nat → Int32} {L d : Nat} {us nb th ct md nd td at' dp wr rw : Int32} {kf kg fW fT fP fF fL fN gD gN gT : Nat → Int32} (hd : 2 ≤ d) : Rn xs L d 12 [.ref 29, .ref 1, .ref 3] (qh 0 kf us nb th ct md nd td at' dp wr rw kg fW fT fP fF fL fN gD gN gT [.inr (0, mm_fresh 0 9)]) (.inl none, qh 0 kf us nb th ct md nd td at' dp wr rw kg fW fT fP fF fL fN gD gN gT [.inr (0, [.ref 1, .ref 3, .ref 30, .int 0, .int 0, .int 0, .int 0, .int 0, .int ((-1))]), .inl (0, 155, .inl z0)], 1, 155) := by
  unfold Rn
  refine e_aload_n m_X1_init dX1_init_0 rfl rfl rfl ?_
  refine z_obj m_X1_init.z dX1_init_1 o_RX1_5 (Nat.le_of_ble_eq_true rfl) ?_
  refine e_aload_n m_X1_init dX1_init_4 rfl rfl rfl ?_
  refine e_aload_n m_X1_init dX1_init_5 rfl rfl rfl ?_
  refine e_putF (h' := qh 0 kf us nb th ct md nd td at' dp wr rw kg fW fT fP fF fL fN gD gN gT [.inr (0, [.ref 1, .null, .null, .int 0, .int 0, .int 0, .int 0, .int 0, .int 0])]) m_X1_init dX1_init_6 f_RX1_11 rfl (Nat.le_of_ble_eq_true rfl) (by decide +kernel) rfl rfl rfl ?_
  refine e_aload_n m_X1_init dX1_init_9 rfl rfl rfl ?_
  refine e_aload_n m_X1_init dX1_init_10 rfl rfl rfl ?_
  refine e_putF (h' := qh 0 kf us nb th ct md nd td at' dp wr rw kg fW fT fP fF fL fN gD gN gT [.inr (0, [.ref 1, .ref 3, .null, .int 0, .int 0, .int 0, .int 0, .int 0, .int 0])]) m_X1_init dX1_init_11 f_RX1_17 rfl (Nat.le_of_ble_eq_true rfl) (by decide +kernel) rfl rfl rfl ?_
  refine e_aload_n m_X1_init dX1_init_14 rfl rfl rfl ?_
  refine e_sipush (v := 155) m_X1_init dX1_init_15 (by decide) ?_
  refine z_newa (n := 155) (p := 30) (h' := qh 0 kf us nb th ct md nd td at' dp wr rw kg fW fT fP fF fL fN gD gN gT [.inr (0, [.ref 1, .ref 3, .null, .int 0, .int 0, .int 0, .int 0, .int 0, .int 0]), .inl (0, 155, .inl z0)]) m_X1_init.z dX1_init_18 rfl (by decide +kernel) (by decide +kernel) rfl rfl ?_
  refine e_putF (h' := qh 0 kf us nb th ct md nd td at' dp wr rw kg fW fT fP fF fL fN gD gN gT [.inr (0, [.ref 1, .ref 3, .ref 30, .int 0, .int 0, .int 0, .int 0, .int 0, .int 0]), .inl (0, 155, .inl z0)]) m_X1_init dX1_init_20 f_RX1_21 rfl (Nat.le_of_ble_eq_true rfl) (by decide +kernel) rfl rfl rfl ?_
  refine e_aload_n m_X1_init dX1_init_23 rfl rfl rfl ?_
  refine e_iconst (v := (-1)) m_X1_init dX1_init_24 (by decide) ?_
  refine e_putf (h' := qh 0 kf us nb th ct md nd td at' dp wr rw kg fW fT fP fF fL fN gD gN gT [.inr (0, [.ref 1, .ref 3, .ref 30, .int 0, .int 0, .int 0, .int 0, .int 0, .int ((-1))]), .inl (0, 155, .inl z0)]) m_X1_init dX1_init_25 f_RX1_25 rfl (Nat.le_of_ble_eq_true rfl) (fit_i rfl) rfl rfl ?_
  refine e_aload_n m_X1_init dX1_init_28 rfl rfl rfl ?_
  refine e_aload_n m_X1_init dX1_init_29 rfl rfl rfl ?_
  refine e_iconst (v := 0) m_X1_init dX1_init_30 (by decide) ?_
  refine e_cv (as := [.int 0]) m_X1_init dX1_init_31 c_RX1_29 (by decide) rfl rfl qg1 rfl (Nat.le_of_ble_eq_true rfl) (Nat.le_of_ble_eq_true rfl) (by omega) (t_kind0 (by omega)) ?_
  refine e_putf (h' := qh 0 kf us nb th ct md nd td at' dp wr rw kg fW fT fP fF fL fN gD gN gT [.inr (0, [.ref 1, .ref 3, .ref 30, .int 0, .int 0, .int 0, .int 0, .int 0, .int ((-1))]), .inl (0, 155, .inl z0)]) m_X1_init dX1_init_34 f_RX1_33 rfl (Nat.le_of_ble_eq_true rfl) (fit_i rfl) rfl rfl ?_
  exact e_ret0 m_X1_init dX1_init_37
theorem t_sees0 {xs : Nat → Int32} {L d : Nat} {us nb th ct md nd td at' dp wr rw : Int32} {kf kg fW fT fP fF fL fN gD gN gT : Nat → Int32} (hd : 1 ≤ d) : Rn xs L d 16 [.ref 29, .int 27] (qh 0 kf us nb th ct md nd td at' dp wr rw kg fW fT fP fF fL fN gD gN gT [.inr (0, [.ref 1, .ref 3, .ref 30, .int 0, .int 0, .int 0, .int 0, .int 0, .int ((-1))]), .inl (0, 155, .inl z0)]) (.inl (some (.int 0)), qh 0 kf us nb th ct md nd td at' dp wr rw kg fW fT fP fF fL fN gD gN gT [.inr (0, [.ref 1, .ref 3, .ref 30, .int 0, .int 0, .int 0, .int 0, .int 0, .int ((-1))]), .inl (0, 155, .inl z0)], 0, 0) := by
  unfold Rn
  refine e_aload_n m_X1_sees dX1_sees_0 rfl rfl rfl ?_
  refine e_getf m_X1_sees dX1_sees_1 f_RX1_33 rfl rfl ?_
  refine e_iload_n m_X1_sees dX1_sees_4 rfl rfl ?_
  refine e_icT (t := 12) m_X1_sees dX1_sees_5 (by decide) (by decide) ?_
  refine e_iconst (v := 0) m_X1_sees dX1_sees_12 (by decide) ?_
  exact e_reti m_X1_sees dX1_sees_13 (Or.inr ⟨rfl, by decide⟩)
theorem t_refuse {xs : Nat → Int32} {L d : Nat} {us nb th ct md nd td at' dp wr rw : Int32} {kf kg fW fT fP fF fL fN gD gN gT : Nat → Int32} (hd : 8 ≤ d) : Rn xs L d 17 [.ref 29] (qh 0 kf us nb th ct md nd td at' dp wr rw kg fW fT fP fF fL fN gD gN gT [.inr (0, [.ref 1, .ref 3, .ref 30, .int 0, .int 0, .int 0, .int 0, .int 0, .int ((-1))]), .inl (0, 155, .inl z0)]) (.inr mm_ISE, qh 0 kf us nb th ct md nd td at' dp wr rw kg fW fT fP fF fL fN gD gN gT [.inr (0, [.ref 1, .ref 3, .ref 30, .int 0, .int 0, .int 0, .int 0, .int 0, .int ((-1))]), .inl (0, 155, .inl z0)], 1, 6) := by
  unfold Rn
  exact e_thr m_X1_refuse dX1_refuse_0 (by decide +kernel) (by decide +kernel : mm_X RX1 36 = some (RX1, 36, mm_ISE, 356)) dX1_refuse_3 dX1_refuse_4 dX1_refuse_6 dX1_refuse_9 List.mem_cons_self (Nat.zero_le _) (by omega)
theorem t_expect {xs : Nat → Int32} {L d : Nat} {us nb th ct md nd td at' dp wr rw : Int32} {kf kg fW fT fP fF fL fN gD gN gT : Nat → Int32} (hd : 9 ≤ d) : Rn xs L d 15 [.ref 29, .int 27] (qh 0 kf us nb th ct md nd td at' dp wr rw kg fW fT fP fF fL fN gD gN gT [.inr (0, [.ref 1, .ref 3, .ref 30, .int 0, .int 0, .int 0, .int 0, .int 0, .int ((-1))]), .inl (0, 155, .inl z0)]) (.inr mm_ISE, qh 0 kf us nb th ct md nd td at' dp wr rw kg fW fT fP fF fL fN gD gN gT [.inr (0, [.ref 1, .ref 3, .ref 30, .int 0, .int 0, .int 0, .int 0, .int 0, .int ((-1))]), .inl (0, 155, .inl z0)], 1, 6) := by
  unfold Rn
  refine e_aload_n m_X1_expect dX1_expect_0 rfl rfl rfl ?_
  refine e_iload_n m_X1_expect dX1_expect_1 rfl rfl ?_
  refine e_cv (as := [.int 27]) m_X1_expect dX1_expect_2 c_RX1_46 (by decide) rfl rfl rfl rfl (Nat.le_of_ble_eq_true rfl) (Nat.le_of_ble_eq_true rfl) (by omega) (t_sees0 (by omega)) ?_
  refine e_ifF (t := 12) m_X1_expect dX1_expect_5 (by decide) (by decide) ?_
  refine e_aload_n m_X1_expect dX1_expect_8 rfl rfl rfl ?_
  exact e_cvX (as := []) m_X1_expect dX1_expect_9 c_RX1_54 (by decide) rfl rfl rfl rfl (Nat.le_of_ble_eq_true rfl) (Nat.le_of_ble_eq_true rfl) (by omega) (t_refuse (by omega))
theorem t_file {xs : Nat → Int32} {L d : Nat} {us nb th ct md nd td at' dp wr rw : Int32} {kf kg fW fT fP fF fL fN gD gN gT : Nat → Int32} (hd : 10 ≤ d) : Rn xs L d 14 [.ref 29] (qh 0 kf us nb th ct md nd td at' dp wr rw kg fW fT fP fF fL fN gD gN gT [.inr (0, [.ref 1, .ref 3, .ref 30, .int 0, .int 0, .int 0, .int 0, .int 0, .int ((-1))]), .inl (0, 155, .inl z0)]) (.inr mm_ISE, qh 0 kf us nb th ct md nd td at' dp wr rw kg fW fT fP fF fL fN gD gN gT [.inr (0, [.ref 1, .ref 3, .ref 30, .int 0, .int 0, .int 0, .int 0, .int 0, .int ((-1))]), .inl (0, 155, .inl z0)], 1, 6) := by
  unfold Rn
  refine e_aload_n m_X1_file dX1_file_0 rfl rfl rfl ?_
  refine e_bipush (v := 27) m_X1_file dX1_file_1 (by decide) ?_
  exact e_cvX (as := [.int 27]) m_X1_file dX1_file_3 c_RX1_63 (by decide) rfl rfl rfl rfl (Nat.le_of_ble_eq_true rfl) (Nat.le_of_ble_eq_true rfl) (by omega) (t_expect (by omega))
theorem t_build {xs : Nat → Int32} {L d : Nat} {us nb th ct md nd td at' dp wr rw : Int32} {kf kg fW fT fP fF fL fN gD gN gT : Nat → Int32} (hd : 11 ≤ d) : Rn xs L d 9 [.ref 0] (qh 0 kf us nb th ct md nd td at' dp wr rw kg fW fT fP fF fL fN gD gN gT []) (.inl (some (.int (((-1)) - 0))), qh 0 kf 0 0 th ct md nd td at' dp wr rw kg fW fT fP fF fL fN gD gN gT [.inr (0, [.ref 1, .ref 3, .ref 30, .int 0, .int 0, .int 0, .int 0, .int 0, .int ((-1))]), .inl (0, 155, .inl z0)], 3, 170) := by
  unfold Rn
  refine z_aload_n y_X5_build dX5_build_0 rfl rfl rfl ?_
  refine z_getf y_X5_build dX5_build_1 f_RX5_19 qg0 rfl ?_
  refine z_aload_n y_X5_build dX5_build_4 rfl rfl rfl ?_
  refine z_getf y_X5_build dX5_build_5 f_RX5_10 qg0 rfl ?_
  refine z_getf y_X5_build dX5_build_8 f_RX5_40 qg1 rfl ?_
  refine z_cv (as := [.int 0]) y_X5_build dX5_build_11 c_RX5_44 (by decide) rfl rfl qg3 rfl (Nat.le_of_ble_eq_true rfl) (Nat.le_of_ble_eq_true rfl) (by omega) (t_begin (by omega)) ?_
  refine z_new (p := 29) (h' := qh 0 kf 0 0 th ct md nd td at' dp wr rw kg fW fT fP fF fL fN gD gN gT [.inr (0, mm_fresh 0 9)]) y_X5_build dX5_build_14 n_RX5_47 rfl rfl rfl ?_
  refine z_dup y_X5_build dX5_build_17 rfl ?_
  refine z_aload_n y_X5_build dX5_build_18 rfl rfl rfl ?_
  refine z_getf y_X5_build dX5_build_19 f_RX5_10 qg0 rfl ?_
  refine z_aload_n y_X5_build dX5_build_22 rfl rfl rfl ?_
  refine z_getf y_X5_build dX5_build_23 f_RX5_19 qg0 rfl ?_
  refine z_csp (as := [.ref 1, .ref 3]) y_X5_build dX5_build_26 c_RX5_49 (by decide) rfl rfl rfl rfl (Nat.le_of_ble_eq_true rfl) (Nat.le_of_ble_eq_true rfl) (by omega) (t_pinit (by omega)) ?_
  refine z_astore_n y_X5_build dX5_build_29 rfl (by decide) rfl ?_
  refine z_iconst (v := (-1)) y_X5_build dX5_build_30 (by decide) ?_
  refine z_istore_n y_X5_build dX5_build_31 rfl (by decide) rfl ?_
  refine z_aload_n y_X5_build dX5_build_32 rfl rfl rfl ?_
  refine z_cvC (pc' := 40) (k := 3) (as := []) (rfl : mm_all[9]? = some _) dX5_build_33 c_RX5_52 (by decide) rfl rfl rfl rfl (Nat.le_of_ble_eq_true rfl) (Nat.le_of_ble_eq_true rfl) (by omega) (by decide) (by decide +kernel) (t_file (by omega)) ?_
  refine z_aload_n y_X5_build dX5_build_40 rfl rfl rfl ?_
  refine z_getf y_X5_build dX5_build_41 f_RX5_57 rfl rfl ?_
  refine z_istore_n y_X5_build dX5_build_44 rfl (by decide) rfl ?_
  refine z_aload_n y_X5_build dX5_build_45 rfl rfl rfl ?_
  refine z_getf y_X5_build dX5_build_46 f_RX5_10 qg0 rfl ?_
  refine z_iconst (v := 0) y_X5_build dX5_build_49 (by decide) ?_
  refine z_putf (h' := qh 0 kf 0 0 th ct md nd td at' dp wr rw kg fW fT fP fF fL fN gD gN gT [.inr (0, [.ref 1, .ref 3, .ref 30, .int 0, .int 0, .int 0, .int 0, .int 0, .int ((-1))]), .inl (0, 155, .inl z0)]) y_X5_build dX5_build_50 f_RX5_40 qg1 (Nat.le_of_ble_eq_true rfl) (fit_i rfl) rfl rfl ?_
  refine z_iload_n y_X5_build dX5_build_53 rfl rfl ?_
  refine z_iconst (v := (-1)) y_X5_build dX5_build_54 (by decide) ?_
  refine z_icmp (t := 62) y_X5_build dX5_build_55 (by decide) (fun q => absurd q (by decide)) (fun q => ?_)
  refine z_iconst (v := (-1)) y_X5_build dX5_build_58 (by decide) ?_
  refine z_iload_n y_X5_build dX5_build_59 rfl rfl ?_
  refine z_isub y_X5_build dX5_build_60 ?_
  exact z_reti y_X5_build dX5_build_61 (Or.inl rfl)
theorem u_child0 {xs : Nat → Int32} {L d : Nat} {cnt us nb th ct nd td at' dp wr rw : Int32} {kf kg fW fT fP fF fL fN gD gN gT : Nat → Int32} {t : mm_H} (hd : 1 ≤ d) : Rn xs L d 130 [.ref 10, .int ((-1)), .int 1, .int 0] (qh cnt kf us nb th ct 0 nd td at' dp wr rw kg fW fT fP fF fL fN gD gN gT t) (.inl (some (.int ((0 + 1) - 1))), qh cnt kf us nb th ct (0 + 1) nd td at' dp wr rw kg (upd fW (0 : Int32).toNatClampNeg (vp_nar (mm_ty 0) 1)) (upd fT (0 : Int32).toNatClampNeg (vp_nar (mm_ty 0) 0)) (upd fP (0 : Int32).toNatClampNeg (vp_nar (mm_ty 0) ((-1)))) (upd fF (0 : Int32).toNatClampNeg (vp_nar (mm_ty 0) ((-1)))) (upd fL (0 : Int32).toNatClampNeg (vp_nar (mm_ty 0) ((-1)))) (upd fN (0 : Int32).toNatClampNeg (vp_nar (mm_ty 0) ((-1)))) gD gN gT t, 0, 0) := by
  unfold Rn
  refine e_aload_n m_X6_child dX6_child_0 rfl rfl rfl ?_
  refine e_getf m_X6_child dX6_child_1 f_RX6_14 qg10 rfl ?_
  refine e_aload_n m_X6_child dX6_child_4 rfl rfl rfl ?_
  refine e_getf m_X6_child dX6_child_5 f_RX6_93 qg10 rfl ?_
  refine e_iload_n m_X6_child dX6_child_8 rfl rfl ?_
  refine e_iast (h' := qh cnt kf us nb th ct 0 nd td at' dp wr rw kg (upd fW (0 : Int32).toNatClampNeg (vp_nar (mm_ty 0) 1)) fT fP fF fL fN gD gN gT t) (Or.inl ⟨rfl, rfl⟩) m_X6_child dX6_child_9 qg12 (by unfold vp_in; decide +kernel) rfl ?_
  refine e_aload_n m_X6_child dX6_child_10 rfl rfl rfl ?_
  refine e_getf m_X6_child dX6_child_11 f_RX6_18 qg10 rfl ?_
  refine e_aload_n m_X6_child dX6_child_14 rfl rfl rfl ?_
  refine e_getf m_X6_child dX6_child_15 f_RX6_93 qg10 rfl ?_
  refine e_iload_n m_X6_child dX6_child_18 rfl rfl ?_
  refine e_iast (h' := qh cnt kf us nb th ct 0 nd td at' dp wr rw kg (upd fW (0 : Int32).toNatClampNeg (vp_nar (mm_ty 0) 1)) (upd fT (0 : Int32).toNatClampNeg (vp_nar (mm_ty 0) 0)) fP fF fL fN gD gN gT t) (Or.inl ⟨rfl, rfl⟩) m_X6_child dX6_child_19 qg13 (by unfold vp_in; decide +kernel) rfl ?_
  refine e_aload_n m_X6_child dX6_child_20 rfl rfl rfl ?_
  refine e_getf m_X6_child dX6_child_21 f_RX6_21 qg10 rfl ?_
  refine e_aload_n m_X6_child dX6_child_24 rfl rfl rfl ?_
  refine e_getf m_X6_child dX6_child_25 f_RX6_93 qg10 rfl ?_
  refine e_iload_n m_X6_child dX6_child_28 rfl rfl ?_
  refine e_iast (h' := qh cnt kf us nb th ct 0 nd td at' dp wr rw kg (upd fW (0 : Int32).toNatClampNeg (vp_nar (mm_ty 0) 1)) (upd fT (0 : Int32).toNatClampNeg (vp_nar (mm_ty 0) 0)) (upd fP (0 : Int32).toNatClampNeg (vp_nar (mm_ty 0) ((-1)))) fF fL fN gD gN gT t) (Or.inl ⟨rfl, rfl⟩) m_X6_child dX6_child_29 qg14 (by unfold vp_in; decide +kernel) rfl ?_
  refine e_aload_n m_X6_child dX6_child_30 rfl rfl rfl ?_
  refine e_getf m_X6_child dX6_child_31 f_RX6_24 qg10 rfl ?_
  refine e_aload_n m_X6_child dX6_child_34 rfl rfl rfl ?_
  refine e_getf m_X6_child dX6_child_35 f_RX6_93 qg10 rfl ?_
  refine e_iconst (v := (-1)) m_X6_child dX6_child_38 (by decide) ?_
  refine e_iast (h' := qh cnt kf us nb th ct 0 nd td at' dp wr rw kg (upd fW (0 : Int32).toNatClampNeg (vp_nar (mm_ty 0) 1)) (upd fT (0 : Int32).toNatClampNeg (vp_nar (mm_ty 0) 0)) (upd fP (0 : Int32).toNatClampNeg (vp_nar (mm_ty 0) ((-1)))) (upd fF (0 : Int32).toNatClampNeg (vp_nar (mm_ty 0) ((-1)))) fL fN gD gN gT t) (Or.inl ⟨rfl, rfl⟩) m_X6_child dX6_child_39 qg15 (by unfold vp_in; decide +kernel) rfl ?_
  refine e_aload_n m_X6_child dX6_child_40 rfl rfl rfl ?_
  refine e_getf m_X6_child dX6_child_41 f_RX6_27 qg10 rfl ?_
  refine e_aload_n m_X6_child dX6_child_44 rfl rfl rfl ?_
  refine e_getf m_X6_child dX6_child_45 f_RX6_93 qg10 rfl ?_
  refine e_iconst (v := (-1)) m_X6_child dX6_child_48 (by decide) ?_
  refine e_iast (h' := qh cnt kf us nb th ct 0 nd td at' dp wr rw kg (upd fW (0 : Int32).toNatClampNeg (vp_nar (mm_ty 0) 1)) (upd fT (0 : Int32).toNatClampNeg (vp_nar (mm_ty 0) 0)) (upd fP (0 : Int32).toNatClampNeg (vp_nar (mm_ty 0) ((-1)))) (upd fF (0 : Int32).toNatClampNeg (vp_nar (mm_ty 0) ((-1)))) (upd fL (0 : Int32).toNatClampNeg (vp_nar (mm_ty 0) ((-1)))) fN gD gN gT t) (Or.inl ⟨rfl, rfl⟩) m_X6_child dX6_child_49 qg16 (by unfold vp_in; decide +kernel) rfl ?_
  refine e_aload_n m_X6_child dX6_child_50 rfl rfl rfl ?_
  refine e_getf m_X6_child dX6_child_51 f_RX6_30 qg10 rfl ?_
  refine e_aload_n m_X6_child dX6_child_54 rfl rfl rfl ?_
  refine e_getf m_X6_child dX6_child_55 f_RX6_93 qg10 rfl ?_
  refine e_iconst (v := (-1)) m_X6_child dX6_child_58 (by decide) ?_
  refine e_iast (h' := qh cnt kf us nb th ct 0 nd td at' dp wr rw kg (upd fW (0 : Int32).toNatClampNeg (vp_nar (mm_ty 0) 1)) (upd fT (0 : Int32).toNatClampNeg (vp_nar (mm_ty 0) 0)) (upd fP (0 : Int32).toNatClampNeg (vp_nar (mm_ty 0) ((-1)))) (upd fF (0 : Int32).toNatClampNeg (vp_nar (mm_ty 0) ((-1)))) (upd fL (0 : Int32).toNatClampNeg (vp_nar (mm_ty 0) ((-1)))) (upd fN (0 : Int32).toNatClampNeg (vp_nar (mm_ty 0) ((-1)))) gD gN gT t) (Or.inl ⟨rfl, rfl⟩) m_X6_child dX6_child_59 qg17 (by unfold vp_in; decide +kernel) rfl ?_
  refine e_iload_n m_X6_child dX6_child_60 rfl rfl ?_
  refine e_ifT (t := 86) m_X6_child dX6_child_61 (by decide) (by decide) ?_
  refine e_iload_n m_X6_child dX6_child_86 rfl rfl ?_
  refine e_ifT (t := 105) m_X6_child dX6_child_87 (by decide) (by decide) ?_
  refine e_iload_n m_X6_child dX6_child_105 rfl rfl ?_
  refine e_ifT (t := 119) m_X6_child dX6_child_106 (by decide) (by decide) ?_
  refine e_aload_n m_X6_child dX6_child_119 rfl rfl rfl ?_
  refine e_dup m_X6_child dX6_child_120 rfl ?_
  refine e_getf m_X6_child dX6_child_121 f_RX6_93 qg10 rfl ?_
  refine e_iconst (v := 1) m_X6_child dX6_child_124 (by decide) ?_
  refine e_iadd m_X6_child dX6_child_125 ?_
  refine e_putf (h' := qh cnt kf us nb th ct (0 + 1) nd td at' dp wr rw kg (upd fW (0 : Int32).toNatClampNeg (vp_nar (mm_ty 0) 1)) (upd fT (0 : Int32).toNatClampNeg (vp_nar (mm_ty 0) 0)) (upd fP (0 : Int32).toNatClampNeg (vp_nar (mm_ty 0) ((-1)))) (upd fF (0 : Int32).toNatClampNeg (vp_nar (mm_ty 0) ((-1)))) (upd fL (0 : Int32).toNatClampNeg (vp_nar (mm_ty 0) ((-1)))) (upd fN (0 : Int32).toNatClampNeg (vp_nar (mm_ty 0) ((-1)))) gD gN gT t) m_X6_child dX6_child_126 f_RX6_93 qg10 (Nat.le_of_ble_eq_true rfl) (fit_i rfl) rfl rfl ?_
  refine e_aload_n m_X6_child dX6_child_129 rfl rfl rfl ?_
  refine e_getf m_X6_child dX6_child_130 f_RX6_93 qg10 rfl ?_
  refine e_iconst (v := 1) m_X6_child dX6_child_133 (by decide) ?_
  refine e_isub m_X6_child dX6_child_134 ?_
  exact e_reti m_X6_child dX6_child_135 (Or.inl rfl)
theorem u_look0 {xs : Nat → Int32} {L d : Nat} {cnt us nb th md nd td dp wr rw : Int32} {kf kg fW fT fP fF fL fN gD gN gT : Nat → Int32} {t : mm_H} (hd : 1 ≤ d) : Rn xs L d 132 [.ref 10] (qh cnt kf us nb th 0 md nd td 0 dp wr rw kg fW fT fP fF fL fN gD gN gT t) (.inl (some (.int 0)), qh cnt kf us nb th 0 md nd td 0 dp wr rw kg fW fT fP fF fL fN gD gN gT t, 0, 0) := by
  unfold Rn
  refine e_aload_n m_X6_look dX6_look_0 rfl rfl rfl ?_
  refine e_getf m_X6_look dX6_look_1 f_RX6_77 qg10 rfl ?_
  refine e_aload_n m_X6_look dX6_look_4 rfl rfl rfl ?_
  refine e_getf m_X6_look dX6_look_5 f_RX6_72 qg10 rfl ?_
  refine e_icT (t := 23) m_X6_look dX6_look_8 (by decide) (by decide) ?_
  refine e_iconst (v := 0) m_X6_look dX6_look_23 (by decide) ?_
  exact e_reti m_X6_look dX6_look_24 (Or.inl rfl)
theorem u_error0 {xs : Nat → Int32} {L d : Nat} {cnt us nb th ct md nd td at' dp rw : Int32} {kf kg fW fT fP fF fL fN gD gN gT : Nat → Int32} {t : mm_H} (hd : 1 ≤ d) : Rn xs L d 133 [.ref 10] (qh cnt kf us nb th ct md nd td at' dp ((-1)) rw kg fW fT fP fF fL fN gD gN gT t) (.inl none, qh cnt kf us nb th ct md nd td at' dp at' rw kg fW fT fP fF fL fN gD gN gT t, 0, 0) := by
  unfold Rn
  refine e_aload_n m_X6_error dX6_error_0 rfl rfl rfl ?_
  refine e_getf m_X6_error dX6_error_1 f_RX6_80 qg10 rfl ?_
  refine e_ifF (t := 15) m_X6_error dX6_error_4 (by decide) (by decide) ?_
  refine e_aload_n m_X6_error dX6_error_7 rfl rfl rfl ?_
  refine e_aload_n m_X6_error dX6_error_8 rfl rfl rfl ?_
  refine e_getf m_X6_error dX6_error_9 f_RX6_77 qg10 rfl ?_
  refine e_putf (h' := qh cnt kf us nb th ct md nd td at' dp at' rw kg fW fT fP fF fL fN gD gN gT t) m_X6_error dX6_error_12 f_RX6_80 qg10 (Nat.le_of_ble_eq_true rfl) (fit_i rfl) rfl rfl ?_
  exact e_ret0 m_X6_error dX6_error_15
theorem u_pass0 {xs : Nat → Int32} {L d : Nat} {cnt us nb th md nd td dp rw : Int32} {kf kg fW fT fP fF fL fN gD gN gT : Nat → Int32} {t : mm_H} (hd : 2 ≤ d) : Rn xs L d 131 [.ref 10, .int 27] (qh cnt kf us nb th 0 md nd td 0 dp ((-1)) rw kg fW fT fP fF fL fN gD gN gT t) (.inl none, qh cnt kf us nb th 0 md nd td (0 + 1) dp 0 rw kg fW fT fP fF fL fN gD gN gT t, 0, 0) := by
  unfold Rn
  refine e_aload_n m_X6_pass dX6_pass_0 rfl rfl rfl ?_
  refine e_cv (as := []) m_X6_pass dX6_pass_1 c_RX6_83 (by decide) rfl rfl qg10 rfl (Nat.le_of_ble_eq_true rfl) (Nat.le_of_ble_eq_true rfl) (by omega) (u_look0 (by omega)) ?_
  refine e_iload_n m_X6_pass dX6_pass_4 rfl rfl ?_
  refine e_icF (t := 12) m_X6_pass dX6_pass_5 (by decide) (by decide) ?_
  refine e_aload_n m_X6_pass dX6_pass_8 rfl rfl rfl ?_
  refine e_cv (as := []) m_X6_pass dX6_pass_9 c_RX6_87 (by decide) rfl rfl qg10 rfl (Nat.le_of_ble_eq_true rfl) (Nat.le_of_ble_eq_true rfl) (by omega) (u_error0 (by omega)) ?_
  refine e_aload_n m_X6_pass dX6_pass_12 rfl rfl rfl ?_
  refine e_dup m_X6_pass dX6_pass_13 rfl ?_
  refine e_getf m_X6_pass dX6_pass_14 f_RX6_77 qg10 rfl ?_
  refine e_iconst (v := 1) m_X6_pass dX6_pass_17 (by decide) ?_
  refine e_iadd m_X6_pass dX6_pass_18 ?_
  refine e_putf (h' := qh cnt kf us nb th 0 md nd td (0 + 1) dp 0 rw kg fW fT fP fF fL fN gD gN gT t) m_X6_pass dX6_pass_19 f_RX6_77 qg10 (Nat.le_of_ble_eq_true rfl) (fit_i rfl) rfl rfl ?_
  exact e_ret0 m_X6_pass dX6_pass_22
theorem u_push0 {xs : Nat → Int32} {L d : Nat} {cnt us nb th ct md nd at' dp wr rw : Int32} {kf kg fW fT fP fF fL fN gD gN gT : Nat → Int32} {t : mm_H} {x : Int32} (hd : 1 ≤ d) : Rn xs L d 135 [.ref 10, .int 54, .int x, .int 0] (qh cnt kf us nb th ct md nd 0 at' dp wr rw kg fW fT fP fF fL fN gD gN gT t) (.inl none, qh cnt kf us nb th ct md nd (0 + 1) at' dp wr rw kg fW fT fP fF fL fN (upd gD (0 : Int32).toNatClampNeg (vp_nar (mm_ty 0) 54)) (upd gN (0 : Int32).toNatClampNeg (vp_nar (mm_ty 0) x)) (upd gT (0 : Int32).toNatClampNeg (vp_nar (mm_ty 0) 0)) t, 0, 0) := by
  unfold Rn
  refine e_aload_n m_X6_push dX6_push_0 rfl rfl rfl ?_
  refine e_getf m_X6_push dX6_push_1 f_RX6_42 qg10 rfl ?_
  refine e_aload_n m_X6_push dX6_push_4 rfl rfl rfl ?_
  refine e_getf m_X6_push dX6_push_5 f_RX6_96 qg10 rfl ?_
  refine e_iload_n m_X6_push dX6_push_8 rfl rfl ?_
  refine e_iast (h' := qh cnt kf us nb th ct md nd 0 at' dp wr rw kg fW fT fP fF fL fN (upd gD (0 : Int32).toNatClampNeg (vp_nar (mm_ty 0) 54)) gN gT t) (Or.inl ⟨rfl, rfl⟩) m_X6_push dX6_push_9 qg21 (by unfold vp_in; decide +kernel) rfl ?_
  refine e_aload_n m_X6_push dX6_push_10 rfl rfl rfl ?_
  refine e_getf m_X6_push dX6_push_11 f_RX6_45 qg10 rfl ?_
  refine e_aload_n m_X6_push dX6_push_14 rfl rfl rfl ?_
  refine e_getf m_X6_push dX6_push_15 f_RX6_96 qg10 rfl ?_
  refine e_iload_n m_X6_push dX6_push_18 rfl rfl ?_
  refine e_iast (h' := qh cnt kf us nb th ct md nd 0 at' dp wr rw kg fW fT fP fF fL fN (upd gD (0 : Int32).toNatClampNeg (vp_nar (mm_ty 0) 54)) (upd gN (0 : Int32).toNatClampNeg (vp_nar (mm_ty 0) x)) gT t) (Or.inl ⟨rfl, rfl⟩) m_X6_push dX6_push_19 qg22 (by unfold vp_in; decide +kernel) rfl ?_
  refine e_aload_n m_X6_push dX6_push_20 rfl rfl rfl ?_
  refine e_getf m_X6_push dX6_push_21 f_RX6_48 qg10 rfl ?_
  refine e_aload_n m_X6_push dX6_push_24 rfl rfl rfl ?_
  refine e_getf m_X6_push dX6_push_25 f_RX6_96 qg10 rfl ?_
  refine e_iload_n m_X6_push dX6_push_28 rfl rfl ?_
  refine e_iast (h' := qh cnt kf us nb th ct md nd 0 at' dp wr rw kg fW fT fP fF fL fN (upd gD (0 : Int32).toNatClampNeg (vp_nar (mm_ty 0) 54)) (upd gN (0 : Int32).toNatClampNeg (vp_nar (mm_ty 0) x)) (upd gT (0 : Int32).toNatClampNeg (vp_nar (mm_ty 0) 0)) t) (Or.inl ⟨rfl, rfl⟩) m_X6_push dX6_push_29 qg23 (by unfold vp_in; decide +kernel) rfl ?_
  refine e_aload_n m_X6_push dX6_push_30 rfl rfl rfl ?_
  refine e_dup m_X6_push dX6_push_31 rfl ?_
  refine e_getf m_X6_push dX6_push_32 f_RX6_96 qg10 rfl ?_
  refine e_iconst (v := 1) m_X6_push dX6_push_35 (by decide) ?_
  refine e_iadd m_X6_push dX6_push_36 ?_
  refine e_putf (h' := qh cnt kf us nb th ct md nd (0 + 1) at' dp wr rw kg fW fT fP fF fL fN (upd gD (0 : Int32).toNatClampNeg (vp_nar (mm_ty 0) 54)) (upd gN (0 : Int32).toNatClampNeg (vp_nar (mm_ty 0) x)) (upd gT (0 : Int32).toNatClampNeg (vp_nar (mm_ty 0) 0)) t) m_X6_push dX6_push_37 f_RX6_96 qg10 (Nat.le_of_ble_eq_true rfl) (fit_i rfl) rfl rfl ?_
  exact e_ret0 m_X6_push dX6_push_40
theorem u_build0 {xs : Nat → Int32} {L d : Nat} {cnt us nb th md nd td at' dp wr rw : Int32} {kf kg fW fT fP fF fL fN gD gN gT : Nat → Int32} {t : mm_H} (hd : 3 ≤ d) : Rn xs L d 129 [.ref 10] (qh cnt kf us nb th 0 md nd td at' dp wr rw kg fW fT fP fF fL fN gD gN gT t) (.inl (some (.int (((-1)) - 0))), qh cnt kf us nb 0 0 (0 + 1) 0 (0 + 1) (0 + 1) 0 0 0 kg (upd fW (0 : Int32).toNatClampNeg (vp_nar (mm_ty 0) 1)) (upd fT (0 : Int32).toNatClampNeg (vp_nar (mm_ty 0) 0)) (upd fP (0 : Int32).toNatClampNeg (vp_nar (mm_ty 0) ((-1)))) (upd fF (0 : Int32).toNatClampNeg (vp_nar (mm_ty 0) ((-1)))) (upd fL (0 : Int32).toNatClampNeg (vp_nar (mm_ty 0) ((-1)))) (upd fN (0 : Int32).toNatClampNeg (vp_nar (mm_ty 0) ((-1)))) (upd gD (0 : Int32).toNatClampNeg (vp_nar (mm_ty 0) 54)) (upd gN (0 : Int32).toNatClampNeg (vp_nar (mm_ty 0) ((0 + 1) - 1))) (upd gT (0 : Int32).toNatClampNeg (vp_nar (mm_ty 0) 0)) t, 0, 0) := by
  unfold Rn
  refine e_aload_n m_X6_build dX6_build_0 rfl rfl rfl ?_
  refine e_iconst (v := 0) m_X6_build dX6_build_1 (by decide) ?_
  refine e_putf (h' := qh cnt kf us nb 0 0 md nd td at' dp wr rw kg fW fT fP fF fL fN gD gN gT t) m_X6_build dX6_build_2 f_RX6_64 qg10 (Nat.le_of_ble_eq_true rfl) (fit_i rfl) rfl rfl ?_
  refine e_aload_n m_X6_build dX6_build_5 rfl rfl rfl ?_
  refine e_iconst (v := 0) m_X6_build dX6_build_6 (by decide) ?_
  refine e_putf (h' := qh cnt kf us nb 0 0 0 nd td at' dp wr rw kg fW fT fP fF fL fN gD gN gT t) m_X6_build dX6_build_7 f_RX6_93 qg10 (Nat.le_of_ble_eq_true rfl) (fit_i rfl) rfl rfl ?_
  refine e_aload_n m_X6_build dX6_build_10 rfl rfl rfl ?_
  refine e_iconst (v := 0) m_X6_build dX6_build_11 (by decide) ?_
  refine e_putf (h' := qh cnt kf us nb 0 0 0 0 td at' dp wr rw kg fW fT fP fF fL fN gD gN gT t) m_X6_build dX6_build_12 f_RX6_366 qg10 (Nat.le_of_ble_eq_true rfl) (fit_i rfl) rfl rfl ?_
  refine e_aload_n m_X6_build dX6_build_15 rfl rfl rfl ?_
  refine e_iconst (v := 0) m_X6_build dX6_build_16 (by decide) ?_
  refine e_putf (h' := qh cnt kf us nb 0 0 0 0 0 at' dp wr rw kg fW fT fP fF fL fN gD gN gT t) m_X6_build dX6_build_17 f_RX6_96 qg10 (Nat.le_of_ble_eq_true rfl) (fit_i rfl) rfl rfl ?_
  refine e_aload_n m_X6_build dX6_build_20 rfl rfl rfl ?_
  refine e_iconst (v := 0) m_X6_build dX6_build_21 (by decide) ?_
  refine e_putf (h' := qh cnt kf us nb 0 0 0 0 0 0 dp wr rw kg fW fT fP fF fL fN gD gN gT t) m_X6_build dX6_build_22 f_RX6_77 qg10 (Nat.le_of_ble_eq_true rfl) (fit_i rfl) rfl rfl ?_
  refine e_aload_n m_X6_build dX6_build_25 rfl rfl rfl ?_
  refine e_iconst (v := 0) m_X6_build dX6_build_26 (by decide) ?_
  refine e_putf (h' := qh cnt kf us nb 0 0 0 0 0 0 0 wr rw kg fW fT fP fF fL fN gD gN gT t) m_X6_build dX6_build_27 f_RX6_90 qg10 (Nat.le_of_ble_eq_true rfl) (fit_i rfl) rfl rfl ?_
  refine e_aload_n m_X6_build dX6_build_30 rfl rfl rfl ?_
  refine e_iconst (v := (-1)) m_X6_build dX6_build_31 (by decide) ?_
  refine e_putf (h' := qh cnt kf us nb 0 0 0 0 0 0 0 ((-1)) rw kg fW fT fP fF fL fN gD gN gT t) m_X6_build dX6_build_32 f_RX6_80 qg10 (Nat.le_of_ble_eq_true rfl) (fit_i rfl) rfl rfl ?_
  refine e_aload_n m_X6_build dX6_build_35 rfl rfl rfl ?_
  refine e_iconst (v := 0) m_X6_build dX6_build_36 (by decide) ?_
  refine e_putf (h' := qh cnt kf us nb 0 0 0 0 0 0 0 ((-1)) 0 kg fW fT fP fF fL fN gD gN gT t) m_X6_build dX6_build_37 f_RX6_156 qg10 (Nat.le_of_ble_eq_true rfl) (fit_i rfl) rfl rfl ?_
  refine e_aload_n m_X6_build dX6_build_40 rfl rfl rfl ?_
  refine e_iconst (v := (-1)) m_X6_build dX6_build_41 (by decide) ?_
  refine e_iconst (v := 1) m_X6_build dX6_build_42 (by decide) ?_
  refine e_iconst (v := 0) m_X6_build dX6_build_43 (by decide) ?_
  refine e_cv (as := [.int ((-1)), .int 1, .int 0]) m_X6_build dX6_build_44 c_RX6_99 (by decide) rfl rfl qg10 rfl (Nat.le_of_ble_eq_true rfl) (Nat.le_of_ble_eq_true rfl) (by omega) (u_child0 (by omega)) ?_
  refine e_istore_n m_X6_build dX6_build_47 rfl (by decide) rfl ?_
  refine e_aload_n m_X6_build dX6_build_48 rfl rfl rfl ?_
  refine e_bipush (v := 27) m_X6_build dX6_build_49 (by decide) ?_
  refine e_cv (as := [.int 27]) m_X6_build dX6_build_51 c_RX6_141 (by decide) rfl rfl qg10 rfl (Nat.le_of_ble_eq_true rfl) (Nat.le_of_ble_eq_true rfl) (by omega) (u_pass0 (by omega)) ?_
  refine e_aload_n m_X6_build dX6_build_54 rfl rfl rfl ?_
  refine e_getf m_X6_build dX6_build_55 f_RX6_80 qg10 rfl ?_
  refine e_ifT (t := 67) m_X6_build dX6_build_58 (by decide) (by decide) ?_
  refine e_aload_n m_X6_build dX6_build_67 rfl rfl rfl ?_
  refine e_getf m_X6_build dX6_build_68 f_RX6_80 qg10 rfl ?_
  refine e_ifT (t := 80) m_X6_build dX6_build_71 (by decide) (by decide) ?_
  refine e_aload_n m_X6_build dX6_build_80 rfl rfl rfl ?_
  refine e_bipush (v := 54) m_X6_build dX6_build_81 (by decide) ?_
  refine e_iload_n m_X6_build dX6_build_83 rfl rfl ?_
  refine e_iconst (v := 0) m_X6_build dX6_build_84 (by decide) ?_
  refine e_cv (as := [.int 54, .int ((0 + 1) - 1), .int 0]) m_X6_build dX6_build_85 c_RX6_106 (by decide) rfl rfl qg10 rfl (Nat.le_of_ble_eq_true rfl) (Nat.le_of_ble_eq_true rfl) (by omega) (u_push0 (by omega)) ?_
  refine e_aload_n m_X6_build dX6_build_88 rfl rfl rfl ?_
  refine e_getf m_X6_build dX6_build_89 f_RX6_96 qg10 rfl ?_
  refine e_ifF (t := 146) m_X6_build dX6_build_92 (by decide) (by decide) ?_
  refine e_aload_n m_X6_build dX6_build_95 rfl rfl rfl ?_
  refine e_getf m_X6_build dX6_build_96 f_RX6_80 qg10 rfl ?_
  refine e_ifT (t := 146) m_X6_build dX6_build_99 (by decide) (by decide) ?_
  refine e_aload_n m_X6_build dX6_build_146 rfl rfl rfl ?_
  refine e_iconst (v := 0) m_X6_build dX6_build_147 (by decide) ?_
  refine e_putf (h' := qh cnt kf us nb 0 0 (0 + 1) 0 (0 + 1) (0 + 1) 0 0 0 kg (upd fW (0 : Int32).toNatClampNeg (vp_nar (mm_ty 0) 1)) (upd fT (0 : Int32).toNatClampNeg (vp_nar (mm_ty 0) 0)) (upd fP (0 : Int32).toNatClampNeg (vp_nar (mm_ty 0) ((-1)))) (upd fF (0 : Int32).toNatClampNeg (vp_nar (mm_ty 0) ((-1)))) (upd fL (0 : Int32).toNatClampNeg (vp_nar (mm_ty 0) ((-1)))) (upd fN (0 : Int32).toNatClampNeg (vp_nar (mm_ty 0) ((-1)))) (upd gD (0 : Int32).toNatClampNeg (vp_nar (mm_ty 0) 54)) (upd gN (0 : Int32).toNatClampNeg (vp_nar (mm_ty 0) ((0 + 1) - 1))) (upd gT (0 : Int32).toNatClampNeg (vp_nar (mm_ty 0) 0)) t) m_X6_build dX6_build_148 f_RX6_72 qg10 (Nat.le_of_ble_eq_true rfl) (fit_i rfl) rfl rfl ?_
  refine e_aload_n m_X6_build dX6_build_151 rfl rfl rfl ?_
  refine e_getf m_X6_build dX6_build_152 f_RX6_80 qg10 rfl ?_
  refine e_ifF (t := 165) m_X6_build dX6_build_155 (by decide) (by decide) ?_
  refine e_iconst (v := (-1)) m_X6_build dX6_build_158 (by decide) ?_
  refine e_aload_n m_X6_build dX6_build_159 rfl rfl rfl ?_
  refine e_getf m_X6_build dX6_build_160 f_RX6_80 qg10 rfl ?_
  refine e_isub m_X6_build dX6_build_163 ?_
  exact e_reti m_X6_build dX6_build_164 (Or.inl rfl)
