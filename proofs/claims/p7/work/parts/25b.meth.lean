/-! The methods of the parser. -/
def lp_X1_file_20 (K : Nat → Nat) (N : Nat) (rc : Nat → Nat → Nat → Ss → Rs Ss) : Nat → Nat → Nat → Ss → Rs Ss
  | 0, _, _, _ => none
  | f + 1, y1, y2, s => ifl y2 16385 (bn (q_sees K 0 s) (fun v18 s18 => ifz v18 (bn (q_sees K 20 s18) (fun v20 s20 => ifz v20 (ck ((K (s_at s20)) < 2147483648) (ifz (f_X0_beginsDecl (K (s_at s20))) (erR s20) (bn (rc 50 0 0 s20) (fun v24 s24 => bn (b_X1_expect K N 85 s24) (fun v25 s25 => lp_X1_file_20 K N rc f y1 (y2 + 1) s25))))) (bn (rc 22 0 0 s20) (fun v26 s26 => bn (b_X1_expect K N 85 s26) (fun v27 s27 => lp_X1_file_20 K N rc f y1 (y2 + 1) s27))))) (bn (b_X3_put K N 1 y1 y2 s18) (fun v28 s28 => okR 0 s28)))) (bn (b_X3_put K N 1 y1 y2 s) (fun v29 s29 => okR 0 s29))
theorem l_X1_file_20 {xs : Nat → Int32} {L : Nat} {h0 : mm_H} {a p N cnt : Nat} {ks : Nat → Nat} (G : Cg h0 a p N cnt ks) {n : Nat} {rc : Nat → Nat → Nat → Ss → Rs Ss} (IH : Hr xs L h0 a p N cnt ks n rc) : ∀ (f : Nat) (y1 y2 : Nat) (s : Ss) (d : Nat) (ls : mm_L) (hd : n + 17 ≤ d) (hl0 : mm_lk ls 0 = some (.ref p)) (hl1 : mm_lk ls 1 = some (.int (nI y1))) (hl2 : mm_lk ls 2 = some (.int (nI y2))), lp_X1_file_20 (kA cnt ks) N rc f y1 y2 s ≠ none → Ev xs L d 14 20 ls [] (TC h0 a p N cnt ks s) 0 0 (ou eU (TC h0 a p N cnt ks) (lp_X1_file_20 (kA cnt ks) N rc f y1 y2 s)) := by
  intro f
  induction f with
  | zero => intros; rename_i hN; exact absurd rfl hN
  | succ f ih =>
    intro y1 y2 s d ls hd hl0 hl1 hl2 hN
    rw [lp_X1_file_20] at hN ⊢
    refine e_iload_n m_X1_file dX1_file_20 rfl hl2 ?_
    refine e_sipush (v := nI 16385) m_X1_file dX1_file_21 (by decide) ?_
    refine e_ige (t := 85) (a := y2) (b := 16385) hN m_X1_file dX1_file_24 (by decide) (fun q17 hN => ?_) (fun q17 hN => ?_)
    · refine e_aload_n m_X1_file dX1_file_27 rfl hl0 rfl ?_
      refine e_iconst (v := nI 0) m_X1_file dX1_file_28 (by decide) ?_
      refine e_cvN (as := [.int (nI 0)]) hN m_X1_file dX1_file_29 c_RX1_46 (by decide) rfl rfl (gC_p G.1) rfl (Nat.le_of_ble_eq_true rfl) (Nat.le_of_ble_eq_true rfl) (by omega) (t_sees G (by omega)) (fun v18 s18 hN => ?_)
      refine e_ifne (t := 85) hN m_X1_file dX1_file_32 (by decide) (fun q19 hN => ?_) (fun q19 hN => ?_)
      · refine e_aload_n m_X1_file dX1_file_35 rfl hl0 rfl ?_
        refine e_bipush (v := nI 20) m_X1_file dX1_file_36 (by decide) ?_
        refine e_cvN (as := [.int (nI 20)]) hN m_X1_file dX1_file_38 c_RX1_46 (by decide) rfl rfl (gC_p G.1) rfl (Nat.le_of_ble_eq_true rfl) (Nat.le_of_ble_eq_true rfl) (by omega) (t_sees G (by omega)) (fun v20 s20 hN => ?_)
        refine e_ifeq (t := 51) hN m_X1_file dX1_file_41 (by decide) (fun q21 hN => ?_) (fun q21 hN => ?_)
        · refine e_aload_n m_X1_file dX1_file_51 rfl hl0 rfl ?_
          refine e_getf m_X1_file dX1_file_52 f_RX1_33 (gC_p G.1) rfl ?_
          refine e_ck hN (fun q22 hN => ?_)
          refine e_cs (as := [_]) m_X1_file dX1_file_55 c_RX1_85 (by decide) rfl rfl (Nat.le_of_ble_eq_true rfl) (Nat.le_of_ble_eq_true rfl) (by omega) (z_X0_beginsDecl q22 (by omega)) ?_
          refine e_ifeq (t := 68) hN m_X1_file dX1_file_58 (by decide) (fun q23 hN => ?_) (fun q23 hN => ?_)
          · refine e_aload_n m_X1_file dX1_file_68 rfl hl0 rfl ?_
            exact e_cvX (as := []) m_X1_file dX1_file_69 c_RX1_54 (by decide) rfl rfl (gC_p G.1) rfl (Nat.le_of_ble_eq_true rfl) (Nat.le_of_ble_eq_true rfl) (by omega) (r_refuse (by omega))
          · refine e_aload_n m_X1_file dX1_file_61 rfl hl0 rfl ?_
            refine e_cvU (as := []) hN m_X1_file dX1_file_62 c_RX1_88 (by decide) rfl rfl (gC_p G.1) rfl (Nat.le_of_ble_eq_true rfl) (Nat.le_of_ble_eq_true rfl) (by omega) (i_X1_decl IH (by omega)) (fun v24 s24 hN => ?_)
            refine e_goto (t := 72) m_X1_file dX1_file_65 (by decide) ?_
            refine e_aload_n m_X1_file dX1_file_72 rfl hl0 rfl ?_
            refine e_bipush (v := nI 85) m_X1_file dX1_file_73 (by decide) ?_
            refine e_cvN (as := [.int (nI 85)]) hN m_X1_file dX1_file_75 c_RX1_63 (by decide) rfl rfl (gC_p G.1) rfl (Nat.le_of_ble_eq_true rfl) (Nat.le_of_ble_eq_true rfl) (by omega) (w_X1_expect G (by omega)) (fun v25 s25 hN => ?_)
            refine e_pop m_X1_file dX1_file_78 rfl ?_
            refine e_iincN (n := 1) m_X1_file dX1_file_79 (by decide) hl2 rfl ?_
            refine e_goto (t := 20) m_X1_file dX1_file_82 (by decide) ?_
            exact ih y1 (y2 + 1) _ _ _ (by omega) (lk_mis (by decide) rfl hl0) (lk_mis (by decide) rfl hl1) lk_hit hN
        · refine e_aload_n m_X1_file dX1_file_44 rfl hl0 rfl ?_
          refine e_cvU (as := []) hN m_X1_file dX1_file_45 c_RX1_82 (by decide) rfl rfl (gC_p G.1) rfl (Nat.le_of_ble_eq_true rfl) (Nat.le_of_ble_eq_true rfl) (by omega) (i_X1_functionDecl IH (by omega)) (fun v26 s26 hN => ?_)
          refine e_goto (t := 72) m_X1_file dX1_file_48 (by decide) ?_
          refine e_aload_n m_X1_file dX1_file_72 rfl hl0 rfl ?_
          refine e_bipush (v := nI 85) m_X1_file dX1_file_73 (by decide) ?_
          refine e_cvN (as := [.int (nI 85)]) hN m_X1_file dX1_file_75 c_RX1_63 (by decide) rfl rfl (gC_p G.1) rfl (Nat.le_of_ble_eq_true rfl) (Nat.le_of_ble_eq_true rfl) (by omega) (w_X1_expect G (by omega)) (fun v27 s27 hN => ?_)
          refine e_pop m_X1_file dX1_file_78 rfl ?_
          refine e_iincN (n := 1) m_X1_file dX1_file_79 (by decide) hl2 rfl ?_
          refine e_goto (t := 20) m_X1_file dX1_file_82 (by decide) ?_
          exact ih y1 (y2 + 1) _ _ _ (by omega) (lk_mis (by decide) rfl hl0) (lk_mis (by decide) rfl hl1) lk_hit hN
      · refine e_aload_n m_X1_file dX1_file_85 rfl hl0 rfl ?_
        refine e_getf m_X1_file dX1_file_86 f_RX1_17 (gC_p G.1) rfl ?_
        refine e_iconst (v := nI 1) m_X1_file dX1_file_89 (by decide) ?_
        refine e_iload_n m_X1_file dX1_file_90 rfl hl1 ?_
        refine e_iload_n m_X1_file dX1_file_91 rfl hl2 ?_
        refine e_cvU (as := [.int (nI 1), .int (nI y1), .int (nI y2)]) hN m_X1_file dX1_file_92 c_RX1_69 (by decide) rfl rfl (gC_r G.1) rfl (Nat.le_of_ble_eq_true rfl) (Nat.le_of_ble_eq_true rfl) (by omega) (w_X3_put G (by omega)) (fun v28 s28 hN => ?_)
        exact e_ret0 m_X1_file dX1_file_95
    · refine e_aload_n m_X1_file dX1_file_85 rfl hl0 rfl ?_
      refine e_getf m_X1_file dX1_file_86 f_RX1_17 (gC_p G.1) rfl ?_
      refine e_iconst (v := nI 1) m_X1_file dX1_file_89 (by decide) ?_
      refine e_iload_n m_X1_file dX1_file_90 rfl hl1 ?_
      refine e_iload_n m_X1_file dX1_file_91 rfl hl2 ?_
      refine e_cvU (as := [.int (nI 1), .int (nI y1), .int (nI y2)]) hN m_X1_file dX1_file_92 c_RX1_69 (by decide) rfl rfl (gC_r G.1) rfl (Nat.le_of_ble_eq_true rfl) (Nat.le_of_ble_eq_true rfl) (by omega) (w_X3_put G (by omega)) (fun v29 s29 hN => ?_)
      exact e_ret0 m_X1_file dX1_file_95
def b_X1_file (K : Nat → Nat) (N : Nat) (rc : Nat → Nat → Nat → Ss → Rs Ss) (s : Ss) : Rs Ss := bn (b_X1_expect K N 27 s) (fun v1 s1 => bn (b_X1_name K N  s1) (fun v2 s2 => bn (b_X1_expect K N 85 s2) (fun v3 s3 => lp_X1_file_20 K N rc LF v1 1 s3)))
theorem w_X1_file {xs : Nat → Int32} {L : Nat} {h0 : mm_H} {a p N cnt : Nat} {ks : Nat → Nat} (G : Cg h0 a p N cnt ks) {n : Nat} {rc : Nat → Nat → Nat → Ss → Rs Ss} (IH : Hr xs L h0 a p N cnt ks n rc) {s : Ss} {d : Nat} (hd : n + 17 ≤ d) (hN : b_X1_file (kA cnt ks) N rc s ≠ none) : Rn xs L d 14 [.ref p] (TC h0 a p N cnt ks s) (ou eU (TC h0 a p N cnt ks) (b_X1_file (kA cnt ks) N rc s)) := by
  unfold Rn
  unfold b_X1_file at hN ⊢
  refine e_aload_n m_X1_file dX1_file_0 rfl rfl rfl ?_
  refine e_bipush (v := nI 27) m_X1_file dX1_file_1 (by decide) ?_
  refine e_cvN (as := [.int (nI 27)]) hN m_X1_file dX1_file_3 c_RX1_63 (by decide) rfl rfl (gC_p G.1) rfl (Nat.le_of_ble_eq_true rfl) (Nat.le_of_ble_eq_true rfl) (by omega) (w_X1_expect G (by omega)) (fun v1 s1 hN => ?_)
  refine e_istore_n m_X1_file dX1_file_6 rfl (by decide) rfl ?_
  refine e_aload_n m_X1_file dX1_file_7 rfl rfl rfl ?_
  refine e_cvU (as := []) hN m_X1_file dX1_file_8 c_RX1_79 (by decide) rfl rfl (gC_p G.1) rfl (Nat.le_of_ble_eq_true rfl) (Nat.le_of_ble_eq_true rfl) (by omega) (w_X1_name G (by omega)) (fun v2 s2 hN => ?_)
  refine e_aload_n m_X1_file dX1_file_11 rfl rfl rfl ?_
  refine e_bipush (v := nI 85) m_X1_file dX1_file_12 (by decide) ?_
  refine e_cvN (as := [.int (nI 85)]) hN m_X1_file dX1_file_14 c_RX1_63 (by decide) rfl rfl (gC_p G.1) rfl (Nat.le_of_ble_eq_true rfl) (Nat.le_of_ble_eq_true rfl) (by omega) (w_X1_expect G (by omega)) (fun v3 s3 hN => ?_)
  refine e_pop m_X1_file dX1_file_17 rfl ?_
  refine e_iconst (v := nI 1) m_X1_file dX1_file_18 (by decide) ?_
  refine e_istore_n m_X1_file dX1_file_19 rfl (by decide) rfl ?_
  exact l_X1_file_20 G IH LF v1 1 _ _ _ (by omega) rfl rfl rfl hN

def b_X1_functionDecl (K : Nat → Nat) (N : Nat) (rc : Nat → Nat → Nat → Ss → Rs Ss) (s : Ss) : Rs Ss := bn (q_take s) (fun v1 s1 => bn (q_sees K 78 s1) (fun v2 s2 => ifz v2 (bn (b_X1_name K N  s2) (fun v4 s4 => bn (rc 44 0 0 s4) (fun v5 s5 => bn (rc 47 0 0 s5) (fun v6 s6 => ifz v2 (bn (b_X3_put K N 2 v1 3 s6) (fun v8 s8 => okR 0 s8)) (bn (b_X3_put K N 3 v1 4 s6) (fun v9 s9 => okR 0 s9)))))) (bn (rc 23 0 0 s2) (fun v10 s10 => bn (b_X1_name K N  s10) (fun v11 s11 => bn (rc 44 0 0 s11) (fun v12 s12 => bn (rc 47 0 0 s12) (fun v13 s13 => ifz v2 (bn (b_X3_put K N 2 v1 3 s13) (fun v15 s15 => okR 0 s15)) (bn (b_X3_put K N 3 v1 4 s13) (fun v16 s16 => okR 0 s16)))))))))
theorem w_X1_functionDecl {xs : Nat → Int32} {L : Nat} {h0 : mm_H} {a p N cnt : Nat} {ks : Nat → Nat} (G : Cg h0 a p N cnt ks) {n : Nat} {rc : Nat → Nat → Nat → Ss → Rs Ss} (IH : Hr xs L h0 a p N cnt ks n rc) {s : Ss} {d : Nat} (hd : n + 17 ≤ d) (hN : b_X1_functionDecl (kA cnt ks) N rc s ≠ none) : Rn xs L d 22 [.ref p] (TC h0 a p N cnt ks s) (ou eU (TC h0 a p N cnt ks) (b_X1_functionDecl (kA cnt ks) N rc s)) := by
  unfold Rn
  unfold b_X1_functionDecl at hN ⊢
  refine e_aload_n m_X1_functionDecl dX1_functionDecl_0 rfl rfl rfl ?_
  refine e_cvN (as := []) hN m_X1_functionDecl dX1_functionDecl_1 c_RX1_50 (by decide) rfl rfl (gC_p G.1) rfl (Nat.le_of_ble_eq_true rfl) (Nat.le_of_ble_eq_true rfl) (by omega) (t_take G (by omega)) (fun v1 s1 hN => ?_)
  refine e_istore_n m_X1_functionDecl dX1_functionDecl_4 rfl (by decide) rfl ?_
  refine e_aload_n m_X1_functionDecl dX1_functionDecl_5 rfl rfl rfl ?_
  refine e_bipush (v := nI 78) m_X1_functionDecl dX1_functionDecl_6 (by decide) ?_
  refine e_cvN (as := [.int (nI 78)]) hN m_X1_functionDecl dX1_functionDecl_8 c_RX1_46 (by decide) rfl rfl (gC_p G.1) rfl (Nat.le_of_ble_eq_true rfl) (Nat.le_of_ble_eq_true rfl) (by omega) (t_sees G (by omega)) (fun v2 s2 hN => ?_)
  refine e_istore_n m_X1_functionDecl dX1_functionDecl_11 rfl (by decide) rfl ?_
  refine e_iload_n m_X1_functionDecl dX1_functionDecl_12 rfl rfl ?_
  refine e_ifeq (t := 20) hN m_X1_functionDecl dX1_functionDecl_13 (by decide) (fun q3 hN => ?_) (fun q3 hN => ?_)
  · refine e_aload_n m_X1_functionDecl dX1_functionDecl_20 rfl rfl rfl ?_
    refine e_cvU (as := []) hN m_X1_functionDecl dX1_functionDecl_21 c_RX1_79 (by decide) rfl rfl (gC_p G.1) rfl (Nat.le_of_ble_eq_true rfl) (Nat.le_of_ble_eq_true rfl) (by omega) (w_X1_name G (by omega)) (fun v4 s4 hN => ?_)
    refine e_aload_n m_X1_functionDecl dX1_functionDecl_24 rfl rfl rfl ?_
    refine e_cvU (as := []) hN m_X1_functionDecl dX1_functionDecl_25 c_RX1_94 (by decide) rfl rfl (gC_p G.1) rfl (Nat.le_of_ble_eq_true rfl) (Nat.le_of_ble_eq_true rfl) (by omega) (i_X1_signature IH (by omega)) (fun v5 s5 hN => ?_)
    refine e_aload_n m_X1_functionDecl dX1_functionDecl_28 rfl rfl rfl ?_
    refine e_cvU (as := []) hN m_X1_functionDecl dX1_functionDecl_29 c_RX1_97 (by decide) rfl rfl (gC_p G.1) rfl (Nat.le_of_ble_eq_true rfl) (Nat.le_of_ble_eq_true rfl) (by omega) (i_X1_block IH (by omega)) (fun v6 s6 hN => ?_)
    refine e_iload_n m_X1_functionDecl dX1_functionDecl_32 rfl rfl ?_
    refine e_ifeq (t := 49) hN m_X1_functionDecl dX1_functionDecl_33 (by decide) (fun q7 hN => ?_) (fun q7 hN => ?_)
    · refine e_aload_n m_X1_functionDecl dX1_functionDecl_49 rfl rfl rfl ?_
      refine e_getf m_X1_functionDecl dX1_functionDecl_50 f_RX1_17 (gC_p G.1) rfl ?_
      refine e_iconst (v := nI 2) m_X1_functionDecl dX1_functionDecl_53 (by decide) ?_
      refine e_iload_n m_X1_functionDecl dX1_functionDecl_54 rfl rfl ?_
      refine e_iconst (v := nI 3) m_X1_functionDecl dX1_functionDecl_55 (by decide) ?_
      refine e_cvU (as := [.int (nI 2), .int (nI v1), .int (nI 3)]) hN m_X1_functionDecl dX1_functionDecl_56 c_RX1_69 (by decide) rfl rfl (gC_r G.1) rfl (Nat.le_of_ble_eq_true rfl) (Nat.le_of_ble_eq_true rfl) (by omega) (w_X3_put G (by omega)) (fun v8 s8 hN => ?_)
      exact e_ret0 m_X1_functionDecl dX1_functionDecl_59
    · refine e_aload_n m_X1_functionDecl dX1_functionDecl_36 rfl rfl rfl ?_
      refine e_getf m_X1_functionDecl dX1_functionDecl_37 f_RX1_17 (gC_p G.1) rfl ?_
      refine e_iconst (v := nI 3) m_X1_functionDecl dX1_functionDecl_40 (by decide) ?_
      refine e_iload_n m_X1_functionDecl dX1_functionDecl_41 rfl rfl ?_
      refine e_iconst (v := nI 4) m_X1_functionDecl dX1_functionDecl_42 (by decide) ?_
      refine e_cvU (as := [.int (nI 3), .int (nI v1), .int (nI 4)]) hN m_X1_functionDecl dX1_functionDecl_43 c_RX1_69 (by decide) rfl rfl (gC_r G.1) rfl (Nat.le_of_ble_eq_true rfl) (Nat.le_of_ble_eq_true rfl) (by omega) (w_X3_put G (by omega)) (fun v9 s9 hN => ?_)
      refine e_goto (t := 59) m_X1_functionDecl dX1_functionDecl_46 (by decide) ?_
      exact e_ret0 m_X1_functionDecl dX1_functionDecl_59
  · refine e_aload_n m_X1_functionDecl dX1_functionDecl_16 rfl rfl rfl ?_
    refine e_cvU (as := []) hN m_X1_functionDecl dX1_functionDecl_17 c_RX1_91 (by decide) rfl rfl (gC_p G.1) rfl (Nat.le_of_ble_eq_true rfl) (Nat.le_of_ble_eq_true rfl) (by omega) (i_X1_receiver IH (by omega)) (fun v10 s10 hN => ?_)
    refine e_aload_n m_X1_functionDecl dX1_functionDecl_20 rfl rfl rfl ?_
    refine e_cvU (as := []) hN m_X1_functionDecl dX1_functionDecl_21 c_RX1_79 (by decide) rfl rfl (gC_p G.1) rfl (Nat.le_of_ble_eq_true rfl) (Nat.le_of_ble_eq_true rfl) (by omega) (w_X1_name G (by omega)) (fun v11 s11 hN => ?_)
    refine e_aload_n m_X1_functionDecl dX1_functionDecl_24 rfl rfl rfl ?_
    refine e_cvU (as := []) hN m_X1_functionDecl dX1_functionDecl_25 c_RX1_94 (by decide) rfl rfl (gC_p G.1) rfl (Nat.le_of_ble_eq_true rfl) (Nat.le_of_ble_eq_true rfl) (by omega) (i_X1_signature IH (by omega)) (fun v12 s12 hN => ?_)
    refine e_aload_n m_X1_functionDecl dX1_functionDecl_28 rfl rfl rfl ?_
    refine e_cvU (as := []) hN m_X1_functionDecl dX1_functionDecl_29 c_RX1_97 (by decide) rfl rfl (gC_p G.1) rfl (Nat.le_of_ble_eq_true rfl) (Nat.le_of_ble_eq_true rfl) (by omega) (i_X1_block IH (by omega)) (fun v13 s13 hN => ?_)
    refine e_iload_n m_X1_functionDecl dX1_functionDecl_32 rfl rfl ?_
    refine e_ifeq (t := 49) hN m_X1_functionDecl dX1_functionDecl_33 (by decide) (fun q14 hN => ?_) (fun q14 hN => ?_)
    · refine e_aload_n m_X1_functionDecl dX1_functionDecl_49 rfl rfl rfl ?_
      refine e_getf m_X1_functionDecl dX1_functionDecl_50 f_RX1_17 (gC_p G.1) rfl ?_
      refine e_iconst (v := nI 2) m_X1_functionDecl dX1_functionDecl_53 (by decide) ?_
      refine e_iload_n m_X1_functionDecl dX1_functionDecl_54 rfl rfl ?_
      refine e_iconst (v := nI 3) m_X1_functionDecl dX1_functionDecl_55 (by decide) ?_
      refine e_cvU (as := [.int (nI 2), .int (nI v1), .int (nI 3)]) hN m_X1_functionDecl dX1_functionDecl_56 c_RX1_69 (by decide) rfl rfl (gC_r G.1) rfl (Nat.le_of_ble_eq_true rfl) (Nat.le_of_ble_eq_true rfl) (by omega) (w_X3_put G (by omega)) (fun v15 s15 hN => ?_)
      exact e_ret0 m_X1_functionDecl dX1_functionDecl_59
    · refine e_aload_n m_X1_functionDecl dX1_functionDecl_36 rfl rfl rfl ?_
      refine e_getf m_X1_functionDecl dX1_functionDecl_37 f_RX1_17 (gC_p G.1) rfl ?_
      refine e_iconst (v := nI 3) m_X1_functionDecl dX1_functionDecl_40 (by decide) ?_
      refine e_iload_n m_X1_functionDecl dX1_functionDecl_41 rfl rfl ?_
      refine e_iconst (v := nI 4) m_X1_functionDecl dX1_functionDecl_42 (by decide) ?_
      refine e_cvU (as := [.int (nI 3), .int (nI v1), .int (nI 4)]) hN m_X1_functionDecl dX1_functionDecl_43 c_RX1_69 (by decide) rfl rfl (gC_r G.1) rfl (Nat.le_of_ble_eq_true rfl) (Nat.le_of_ble_eq_true rfl) (by omega) (w_X3_put G (by omega)) (fun v16 s16 hN => ?_)
      refine e_goto (t := 59) m_X1_functionDecl dX1_functionDecl_46 (by decide) ?_
      exact e_ret0 m_X1_functionDecl dX1_functionDecl_59

def b_X1_receiver (K : Nat → Nat) (N : Nat) (rc : Nat → Nat → Nat → Ss → Rs Ss) (s : Ss) : Rs Ss := bn (b_X1_enter K N 78 s) (fun v1 s1 => bn (q_sees K 1 s1) (fun v2 s2 => ifz v2 (bn (rc 26 0 0 s2) (fun v4 s4 => bn (b_X1_leave K N 79 s4) (fun v5 s5 => bn (b_X3_put K N 4 v1 1 s5) (fun v6 s6 => okR 0 s6)))) (bn (b_X1_name K N  s2) (fun v7 s7 => bn (q_sees K 79 s7) (fun v8 s8 => ifz v8 (bn (rc 26 0 0 s8) (fun v10 s10 => bn (b_X1_leave K N 79 s10) (fun v11 s11 => bn (b_X3_put K N 4 v1 2 s11) (fun v12 s12 => okR 0 s12)))) (bn (b_X1_leave K N 79 s8) (fun v13 s13 => bn (b_X3_put K N 4 v1 1 s13) (fun v14 s14 => okR 0 s14))))))))
theorem w_X1_receiver {xs : Nat → Int32} {L : Nat} {h0 : mm_H} {a p N cnt : Nat} {ks : Nat → Nat} (G : Cg h0 a p N cnt ks) {n : Nat} {rc : Nat → Nat → Nat → Ss → Rs Ss} (IH : Hr xs L h0 a p N cnt ks n rc) {s : Ss} {d : Nat} (hd : n + 17 ≤ d) (hN : b_X1_receiver (kA cnt ks) N rc s ≠ none) : Rn xs L d 23 [.ref p] (TC h0 a p N cnt ks s) (ou eU (TC h0 a p N cnt ks) (b_X1_receiver (kA cnt ks) N rc s)) := by
  unfold Rn
  unfold b_X1_receiver at hN ⊢
  refine e_aload_n m_X1_receiver dX1_receiver_0 rfl rfl rfl ?_
  refine e_bipush (v := nI 78) m_X1_receiver dX1_receiver_1 (by decide) ?_
  refine e_cvN (as := [.int (nI 78)]) hN m_X1_receiver dX1_receiver_3 c_RX1_100 (by decide) rfl rfl (gC_p G.1) rfl (Nat.le_of_ble_eq_true rfl) (Nat.le_of_ble_eq_true rfl) (by omega) (w_X1_enter G (by omega)) (fun v1 s1 hN => ?_)
  refine e_istore_n m_X1_receiver dX1_receiver_6 rfl (by decide) rfl ?_
  refine e_iconst (v := nI 1) m_X1_receiver dX1_receiver_7 (by decide) ?_
  refine e_istore_n m_X1_receiver dX1_receiver_8 rfl (by decide) rfl ?_
  refine e_aload_n m_X1_receiver dX1_receiver_9 rfl rfl rfl ?_
  refine e_iconst (v := nI 1) m_X1_receiver dX1_receiver_10 (by decide) ?_
  refine e_cvN (as := [.int (nI 1)]) hN m_X1_receiver dX1_receiver_11 c_RX1_46 (by decide) rfl rfl (gC_p G.1) rfl (Nat.le_of_ble_eq_true rfl) (Nat.le_of_ble_eq_true rfl) (by omega) (t_sees G (by omega)) (fun v2 s2 hN => ?_)
  refine e_ifne (t := 24) hN m_X1_receiver dX1_receiver_14 (by decide) (fun q3 hN => ?_) (fun q3 hN => ?_)
  · refine e_aload_n m_X1_receiver dX1_receiver_17 rfl rfl rfl ?_
    refine e_cvU (as := []) hN m_X1_receiver dX1_receiver_18 c_RX1_103 (by decide) rfl rfl (gC_p G.1) rfl (Nat.le_of_ble_eq_true rfl) (Nat.le_of_ble_eq_true rfl) (by omega) (i_X1_type IH (by omega)) (fun v4 s4 hN => ?_)
    refine e_goto (t := 44) m_X1_receiver dX1_receiver_21 (by decide) ?_
    refine e_aload_n m_X1_receiver dX1_receiver_44 rfl rfl rfl ?_
    refine e_bipush (v := nI 79) m_X1_receiver dX1_receiver_45 (by decide) ?_
    refine e_cvU (as := [.int (nI 79)]) hN m_X1_receiver dX1_receiver_47 c_RX1_106 (by decide) rfl rfl (gC_p G.1) rfl (Nat.le_of_ble_eq_true rfl) (Nat.le_of_ble_eq_true rfl) (by omega) (w_X1_leave G (by omega)) (fun v5 s5 hN => ?_)
    refine e_aload_n m_X1_receiver dX1_receiver_50 rfl rfl rfl ?_
    refine e_getf m_X1_receiver dX1_receiver_51 f_RX1_17 (gC_p G.1) rfl ?_
    refine e_iconst (v := nI 4) m_X1_receiver dX1_receiver_54 (by decide) ?_
    refine e_iload_n m_X1_receiver dX1_receiver_55 rfl rfl ?_
    refine e_iload_n m_X1_receiver dX1_receiver_56 rfl rfl ?_
    refine e_cvU (as := [.int (nI 4), .int (nI v1), .int (nI 1)]) hN m_X1_receiver dX1_receiver_57 c_RX1_69 (by decide) rfl rfl (gC_r G.1) rfl (Nat.le_of_ble_eq_true rfl) (Nat.le_of_ble_eq_true rfl) (by omega) (w_X3_put G (by omega)) (fun v6 s6 hN => ?_)
    exact e_ret0 m_X1_receiver dX1_receiver_60
  · refine e_aload_n m_X1_receiver dX1_receiver_24 rfl rfl rfl ?_
    refine e_cvU (as := []) hN m_X1_receiver dX1_receiver_25 c_RX1_79 (by decide) rfl rfl (gC_p G.1) rfl (Nat.le_of_ble_eq_true rfl) (Nat.le_of_ble_eq_true rfl) (by omega) (w_X1_name G (by omega)) (fun v7 s7 hN => ?_)
    refine e_aload_n m_X1_receiver dX1_receiver_28 rfl rfl rfl ?_
    refine e_bipush (v := nI 79) m_X1_receiver dX1_receiver_29 (by decide) ?_
    refine e_cvN (as := [.int (nI 79)]) hN m_X1_receiver dX1_receiver_31 c_RX1_46 (by decide) rfl rfl (gC_p G.1) rfl (Nat.le_of_ble_eq_true rfl) (Nat.le_of_ble_eq_true rfl) (by omega) (t_sees G (by omega)) (fun v8 s8 hN => ?_)
    refine e_ifne (t := 44) hN m_X1_receiver dX1_receiver_34 (by decide) (fun q9 hN => ?_) (fun q9 hN => ?_)
    · refine e_aload_n m_X1_receiver dX1_receiver_37 rfl rfl rfl ?_
      refine e_cvU (as := []) hN m_X1_receiver dX1_receiver_38 c_RX1_103 (by decide) rfl rfl (gC_p G.1) rfl (Nat.le_of_ble_eq_true rfl) (Nat.le_of_ble_eq_true rfl) (by omega) (i_X1_type IH (by omega)) (fun v10 s10 hN => ?_)
      refine e_iincN (n := 1) m_X1_receiver dX1_receiver_41 (by decide) rfl rfl ?_
      refine e_aload_n m_X1_receiver dX1_receiver_44 rfl rfl rfl ?_
      refine e_bipush (v := nI 79) m_X1_receiver dX1_receiver_45 (by decide) ?_
      refine e_cvU (as := [.int (nI 79)]) hN m_X1_receiver dX1_receiver_47 c_RX1_106 (by decide) rfl rfl (gC_p G.1) rfl (Nat.le_of_ble_eq_true rfl) (Nat.le_of_ble_eq_true rfl) (by omega) (w_X1_leave G (by omega)) (fun v11 s11 hN => ?_)
      refine e_aload_n m_X1_receiver dX1_receiver_50 rfl rfl rfl ?_
      refine e_getf m_X1_receiver dX1_receiver_51 f_RX1_17 (gC_p G.1) rfl ?_
      refine e_iconst (v := nI 4) m_X1_receiver dX1_receiver_54 (by decide) ?_
      refine e_iload_n m_X1_receiver dX1_receiver_55 rfl rfl ?_
      refine e_iload_n m_X1_receiver dX1_receiver_56 rfl rfl ?_
      refine e_cvU (as := [.int (nI 4), .int (nI v1), .int (nI 2)]) hN m_X1_receiver dX1_receiver_57 c_RX1_69 (by decide) rfl rfl (gC_r G.1) rfl (Nat.le_of_ble_eq_true rfl) (Nat.le_of_ble_eq_true rfl) (by omega) (w_X3_put G (by omega)) (fun v12 s12 hN => ?_)
      exact e_ret0 m_X1_receiver dX1_receiver_60
    · refine e_aload_n m_X1_receiver dX1_receiver_44 rfl rfl rfl ?_
      refine e_bipush (v := nI 79) m_X1_receiver dX1_receiver_45 (by decide) ?_
      refine e_cvU (as := [.int (nI 79)]) hN m_X1_receiver dX1_receiver_47 c_RX1_106 (by decide) rfl rfl (gC_p G.1) rfl (Nat.le_of_ble_eq_true rfl) (Nat.le_of_ble_eq_true rfl) (by omega) (w_X1_leave G (by omega)) (fun v13 s13 hN => ?_)
      refine e_aload_n m_X1_receiver dX1_receiver_50 rfl rfl rfl ?_
      refine e_getf m_X1_receiver dX1_receiver_51 f_RX1_17 (gC_p G.1) rfl ?_
      refine e_iconst (v := nI 4) m_X1_receiver dX1_receiver_54 (by decide) ?_
      refine e_iload_n m_X1_receiver dX1_receiver_55 rfl rfl ?_
      refine e_iload_n m_X1_receiver dX1_receiver_56 rfl rfl ?_
      refine e_cvU (as := [.int (nI 4), .int (nI v1), .int (nI 1)]) hN m_X1_receiver dX1_receiver_57 c_RX1_69 (by decide) rfl rfl (gC_r G.1) rfl (Nat.le_of_ble_eq_true rfl) (Nat.le_of_ble_eq_true rfl) (by omega) (w_X3_put G (by omega)) (fun v14 s14 hN => ?_)
      exact e_ret0 m_X1_receiver dX1_receiver_60

def b_X1_type (K : Nat → Nat) (N : Nat) (rc : Nat → Nat → Nat → Ss → Rs Ss) (s : Ss) : Rs Ss := bn (q_sees K 1 s) (fun v1 s1 => ifz v1 (ck ((K (s_at s1)) < 2147483648) (ifz (f_X0_beginsType (K (s_at s1))) (erR s1) (bn (b_X1_openPart K N  s1) (fun v5 s5 => ck ((K (s_at s5)) < 2147483648) (ife (K (s_at s5)) 12 (bn (rc 100 0 0 s5) (fun v8 s8 => bn (b_X1_closePart K N  s8) (fun v9 s9 => okR 0 s9))) (ife (K (s_at s5)) 20 (bn (rc 104 0 0 s5) (fun v11 s11 => bn (b_X1_closePart K N  s11) (fun v12 s12 => okR 0 s12))) (ife (K (s_at s5)) 26 (bn (rc 99 0 0 s5) (fun v14 s14 => bn (b_X1_closePart K N  s14) (fun v15 s15 => okR 0 s15))) (ife (K (s_at s5)) 31 (bn (rc 103 0 0 s5) (fun v17 s17 => bn (b_X1_closePart K N  s17) (fun v18 s18 => okR 0 s18))) (ife (K (s_at s5)) 42 (bn (rc 102 0 0 s5) (fun v20 s20 => bn (b_X1_closePart K N  s20) (fun v21 s21 => okR 0 s21))) (ife (K (s_at s5)) 64 (bn (rc 101 0 0 s5) (fun v23 s23 => bn (b_X1_closePart K N  s23) (fun v24 s24 => okR 0 s24))) (ife (K (s_at s5)) 78 (bn (q_take s5) (fun v26 s26 => bn (rc 26 0 0 s26) (fun v27 s27 => bn (b_X1_expect K N 79 s27) (fun v28 s28 => bn (b_X1_closePart K N  s28) (fun v29 s29 => okR 0 s29))))) (ife (K (s_at s5)) 80 (bn (rc 28 0 0 s5) (fun v31 s31 => bn (b_X1_closePart K N  s31) (fun v32 s32 => okR 0 s32))) (bn (rc 105 0 0 s5) (fun v33 s33 => bn (b_X1_closePart K N  s33) (fun v34 s34 => okR 0 s34))))))))))))))) (bn (b_X1_name K N  s1) (fun v35 s35 => okR 0 s35)))
theorem w_X1_type {xs : Nat → Int32} {L : Nat} {h0 : mm_H} {a p N cnt : Nat} {ks : Nat → Nat} (G : Cg h0 a p N cnt ks) {n : Nat} {rc : Nat → Nat → Nat → Ss → Rs Ss} (IH : Hr xs L h0 a p N cnt ks n rc) {s : Ss} {d : Nat} (hd : n + 17 ≤ d) (hN : b_X1_type (kA cnt ks) N rc s ≠ none) : Rn xs L d 26 [.ref p] (TC h0 a p N cnt ks s) (ou eU (TC h0 a p N cnt ks) (b_X1_type (kA cnt ks) N rc s)) := by
  unfold Rn
  unfold b_X1_type at hN ⊢
  refine e_aload_n m_X1_type dX1_type_0 rfl rfl rfl ?_
  refine e_iconst (v := nI 1) m_X1_type dX1_type_1 (by decide) ?_
  refine e_cvN (as := [.int (nI 1)]) hN m_X1_type dX1_type_2 c_RX1_46 (by decide) rfl rfl (gC_p G.1) rfl (Nat.le_of_ble_eq_true rfl) (Nat.le_of_ble_eq_true rfl) (by omega) (t_sees G (by omega)) (fun v1 s1 hN => ?_)
  refine e_ifeq (t := 13) hN m_X1_type dX1_type_5 (by decide) (fun q2 hN => ?_) (fun q2 hN => ?_)
  · refine e_aload_n m_X1_type dX1_type_13 rfl rfl rfl ?_
    refine e_getf m_X1_type dX1_type_14 f_RX1_33 (gC_p G.1) rfl ?_
    refine e_ck hN (fun q3 hN => ?_)
    refine e_cs (as := [_]) m_X1_type dX1_type_17 c_RX1_138 (by decide) rfl rfl (Nat.le_of_ble_eq_true rfl) (Nat.le_of_ble_eq_true rfl) (by omega) (z_X0_beginsType q3 (by omega)) ?_
    refine e_ifne (t := 27) hN m_X1_type dX1_type_20 (by decide) (fun q4 hN => ?_) (fun q4 hN => ?_)
    · refine e_aload_n m_X1_type dX1_type_23 rfl rfl rfl ?_
      exact e_cvX (as := []) m_X1_type dX1_type_24 c_RX1_54 (by decide) rfl rfl (gC_p G.1) rfl (Nat.le_of_ble_eq_true rfl) (Nat.le_of_ble_eq_true rfl) (by omega) (r_refuse (by omega))
    · refine e_aload_n m_X1_type dX1_type_27 rfl rfl rfl ?_
      refine e_cvU (as := []) hN m_X1_type dX1_type_28 c_RX1_60 (by decide) rfl rfl (gC_p G.1) rfl (Nat.le_of_ble_eq_true rfl) (Nat.le_of_ble_eq_true rfl) (by omega) (w_X1_openPart G (by omega)) (fun v5 s5 hN => ?_)
      refine e_aload_n m_X1_type dX1_type_31 rfl rfl rfl ?_
      refine e_getf m_X1_type dX1_type_32 f_RX1_33 (gC_p G.1) rfl ?_
      refine e_ck hN (fun q6 hN => ?_)
      refine sw_c (a := ((kA cnt ks) (s_at s5))) (b := 12) hN (fun q7 hN => ?_) (fun q7 hN => ?_)
      · refine e_lookup (t := 141) m_X1_type dX1_type_35 (by decide) (by rw [q7]; decide) ?_
        refine e_aload_n m_X1_type dX1_type_141 rfl rfl rfl ?_
        refine e_cvU (as := []) hN m_X1_type dX1_type_142 c_RX1_163 (by decide) rfl rfl (gC_p G.1) rfl (Nat.le_of_ble_eq_true rfl) (Nat.le_of_ble_eq_true rfl) (by omega) (i_X1_chanType IH (by omega)) (fun v8 s8 hN => ?_)
        refine e_goto (t := 180) m_X1_type dX1_type_145 (by decide) ?_
        refine e_aload_n m_X1_type dX1_type_180 rfl rfl rfl ?_
        refine e_cvU (as := []) hN m_X1_type dX1_type_181 c_RX1_66 (by decide) rfl rfl (gC_p G.1) rfl (Nat.le_of_ble_eq_true rfl) (Nat.le_of_ble_eq_true rfl) (by omega) (w_X1_closePart G (by omega)) (fun v9 s9 hN => ?_)
        exact e_ret0 m_X1_type dX1_type_184
      · refine sw_c (a := ((kA cnt ks) (s_at s5))) (b := 20) hN (fun q10 hN => ?_) (fun q10 hN => ?_)
        · refine e_lookup (t := 169) m_X1_type dX1_type_35 (by decide) (by rw [q10]; decide) ?_
          refine e_aload_n m_X1_type dX1_type_169 rfl rfl rfl ?_
          refine e_cvU (as := []) hN m_X1_type dX1_type_170 c_RX1_175 (by decide) rfl rfl (gC_p G.1) rfl (Nat.le_of_ble_eq_true rfl) (Nat.le_of_ble_eq_true rfl) (by omega) (i_X1_functionType IH (by omega)) (fun v11 s11 hN => ?_)
          refine e_goto (t := 180) m_X1_type dX1_type_173 (by decide) ?_
          refine e_aload_n m_X1_type dX1_type_180 rfl rfl rfl ?_
          refine e_cvU (as := []) hN m_X1_type dX1_type_181 c_RX1_66 (by decide) rfl rfl (gC_p G.1) rfl (Nat.le_of_ble_eq_true rfl) (Nat.le_of_ble_eq_true rfl) (by omega) (w_X1_closePart G (by omega)) (fun v12 s12 hN => ?_)
          exact e_ret0 m_X1_type dX1_type_184
        · refine sw_c (a := ((kA cnt ks) (s_at s5))) (b := 26) hN (fun q13 hN => ?_) (fun q13 hN => ?_)
          · refine e_lookup (t := 134) m_X1_type dX1_type_35 (by decide) (by rw [q13]; decide) ?_
            refine e_aload_n m_X1_type dX1_type_134 rfl rfl rfl ?_
            refine e_cvU (as := []) hN m_X1_type dX1_type_135 c_RX1_160 (by decide) rfl rfl (gC_p G.1) rfl (Nat.le_of_ble_eq_true rfl) (Nat.le_of_ble_eq_true rfl) (by omega) (i_X1_mapType IH (by omega)) (fun v14 s14 hN => ?_)
            refine e_goto (t := 180) m_X1_type dX1_type_138 (by decide) ?_
            refine e_aload_n m_X1_type dX1_type_180 rfl rfl rfl ?_
            refine e_cvU (as := []) hN m_X1_type dX1_type_181 c_RX1_66 (by decide) rfl rfl (gC_p G.1) rfl (Nat.le_of_ble_eq_true rfl) (Nat.le_of_ble_eq_true rfl) (by omega) (w_X1_closePart G (by omega)) (fun v15 s15 hN => ?_)
            exact e_ret0 m_X1_type dX1_type_184
          · refine sw_c (a := ((kA cnt ks) (s_at s5))) (b := 31) hN (fun q16 hN => ?_) (fun q16 hN => ?_)
            · refine e_lookup (t := 162) m_X1_type dX1_type_35 (by decide) (by rw [q16]; decide) ?_
              refine e_aload_n m_X1_type dX1_type_162 rfl rfl rfl ?_
              refine e_cvU (as := []) hN m_X1_type dX1_type_163 c_RX1_172 (by decide) rfl rfl (gC_p G.1) rfl (Nat.le_of_ble_eq_true rfl) (Nat.le_of_ble_eq_true rfl) (by omega) (i_X1_structType IH (by omega)) (fun v17 s17 hN => ?_)
              refine e_goto (t := 180) m_X1_type dX1_type_166 (by decide) ?_
              refine e_aload_n m_X1_type dX1_type_180 rfl rfl rfl ?_
              refine e_cvU (as := []) hN m_X1_type dX1_type_181 c_RX1_66 (by decide) rfl rfl (gC_p G.1) rfl (Nat.le_of_ble_eq_true rfl) (Nat.le_of_ble_eq_true rfl) (by omega) (w_X1_closePart G (by omega)) (fun v18 s18 hN => ?_)
              exact e_ret0 m_X1_type dX1_type_184
            · refine sw_c (a := ((kA cnt ks) (s_at s5))) (b := 42) hN (fun q19 hN => ?_) (fun q19 hN => ?_)
              · refine e_lookup (t := 155) m_X1_type dX1_type_35 (by decide) (by rw [q19]; decide) ?_
                refine e_aload_n m_X1_type dX1_type_155 rfl rfl rfl ?_
                refine e_cvU (as := []) hN m_X1_type dX1_type_156 c_RX1_169 (by decide) rfl rfl (gC_p G.1) rfl (Nat.le_of_ble_eq_true rfl) (Nat.le_of_ble_eq_true rfl) (by omega) (i_X1_pointerType IH (by omega)) (fun v20 s20 hN => ?_)
                refine e_goto (t := 180) m_X1_type dX1_type_159 (by decide) ?_
                refine e_aload_n m_X1_type dX1_type_180 rfl rfl rfl ?_
                refine e_cvU (as := []) hN m_X1_type dX1_type_181 c_RX1_66 (by decide) rfl rfl (gC_p G.1) rfl (Nat.le_of_ble_eq_true rfl) (Nat.le_of_ble_eq_true rfl) (by omega) (w_X1_closePart G (by omega)) (fun v21 s21 hN => ?_)
                exact e_ret0 m_X1_type dX1_type_184
              · refine sw_c (a := ((kA cnt ks) (s_at s5))) (b := 64) hN (fun q22 hN => ?_) (fun q22 hN => ?_)
                · refine e_lookup (t := 148) m_X1_type dX1_type_35 (by decide) (by rw [q22]; decide) ?_
                  refine e_aload_n m_X1_type dX1_type_148 rfl rfl rfl ?_
                  refine e_cvU (as := []) hN m_X1_type dX1_type_149 c_RX1_166 (by decide) rfl rfl (gC_p G.1) rfl (Nat.le_of_ble_eq_true rfl) (Nat.le_of_ble_eq_true rfl) (by omega) (i_X1_receiveChanType IH (by omega)) (fun v23 s23 hN => ?_)
                  refine e_goto (t := 180) m_X1_type dX1_type_152 (by decide) ?_
                  refine e_aload_n m_X1_type dX1_type_180 rfl rfl rfl ?_
                  refine e_cvU (as := []) hN m_X1_type dX1_type_181 c_RX1_66 (by decide) rfl rfl (gC_p G.1) rfl (Nat.le_of_ble_eq_true rfl) (Nat.le_of_ble_eq_true rfl) (by omega) (w_X1_closePart G (by omega)) (fun v24 s24 hN => ?_)
                  exact e_ret0 m_X1_type dX1_type_184
                · refine sw_c (a := ((kA cnt ks) (s_at s5))) (b := 78) hN (fun q25 hN => ?_) (fun q25 hN => ?_)
                  · refine e_lookup (t := 108) m_X1_type dX1_type_35 (by decide) (by rw [q25]; decide) ?_
                    refine e_aload_n m_X1_type dX1_type_108 rfl rfl rfl ?_
                    refine e_cvN (as := []) hN m_X1_type dX1_type_109 c_RX1_50 (by decide) rfl rfl (gC_p G.1) rfl (Nat.le_of_ble_eq_true rfl) (Nat.le_of_ble_eq_true rfl) (by omega) (t_take G (by omega)) (fun v26 s26 hN => ?_)
                    refine e_pop m_X1_type dX1_type_112 rfl ?_
                    refine e_aload_n m_X1_type dX1_type_113 rfl rfl rfl ?_
                    refine e_cvU (as := []) hN m_X1_type dX1_type_114 c_RX1_103 (by decide) rfl rfl (gC_p G.1) rfl (Nat.le_of_ble_eq_true rfl) (Nat.le_of_ble_eq_true rfl) (by omega) (i_X1_type IH (by omega)) (fun v27 s27 hN => ?_)
                    refine e_aload_n m_X1_type dX1_type_117 rfl rfl rfl ?_
                    refine e_bipush (v := nI 79) m_X1_type dX1_type_118 (by decide) ?_
                    refine e_cvN (as := [.int (nI 79)]) hN m_X1_type dX1_type_120 c_RX1_63 (by decide) rfl rfl (gC_p G.1) rfl (Nat.le_of_ble_eq_true rfl) (Nat.le_of_ble_eq_true rfl) (by omega) (w_X1_expect G (by omega)) (fun v28 s28 hN => ?_)
                    refine e_pop m_X1_type dX1_type_123 rfl ?_
                    refine e_goto (t := 180) m_X1_type dX1_type_124 (by decide) ?_
                    refine e_aload_n m_X1_type dX1_type_180 rfl rfl rfl ?_
                    refine e_cvU (as := []) hN m_X1_type dX1_type_181 c_RX1_66 (by decide) rfl rfl (gC_p G.1) rfl (Nat.le_of_ble_eq_true rfl) (Nat.le_of_ble_eq_true rfl) (by omega) (w_X1_closePart G (by omega)) (fun v29 s29 hN => ?_)
                    exact e_ret0 m_X1_type dX1_type_184
                  · refine sw_c (a := ((kA cnt ks) (s_at s5))) (b := 80) hN (fun q30 hN => ?_) (fun q30 hN => ?_)
                    · refine e_lookup (t := 127) m_X1_type dX1_type_35 (by decide) (by rw [q30]; decide) ?_
                      refine e_aload_n m_X1_type dX1_type_127 rfl rfl rfl ?_
                      refine e_cvU (as := []) hN m_X1_type dX1_type_128 c_RX1_157 (by decide) rfl rfl (gC_p G.1) rfl (Nat.le_of_ble_eq_true rfl) (Nat.le_of_ble_eq_true rfl) (by omega) (i_X1_listType IH (by omega)) (fun v31 s31 hN => ?_)
                      refine e_goto (t := 180) m_X1_type dX1_type_131 (by decide) ?_
                      refine e_aload_n m_X1_type dX1_type_180 rfl rfl rfl ?_
                      refine e_cvU (as := []) hN m_X1_type dX1_type_181 c_RX1_66 (by decide) rfl rfl (gC_p G.1) rfl (Nat.le_of_ble_eq_true rfl) (Nat.le_of_ble_eq_true rfl) (by omega) (w_X1_closePart G (by omega)) (fun v32 s32 hN => ?_)
                      exact e_ret0 m_X1_type dX1_type_184
                    · refine e_lookup (t := 176) m_X1_type dX1_type_35 (by decide) (by rw [nI_toInt q6, lk_dflt _ (by intro q hq; simp only [List.mem_cons, List.not_mem_nil, or_false] at hq; rcases hq with rfl | rfl | rfl | rfl | rfl | rfl | rfl | rfl <;> (simp only []; omega))]; decide) ?_
                      refine e_aload_n m_X1_type dX1_type_176 rfl rfl rfl ?_
                      refine e_cvU (as := []) hN m_X1_type dX1_type_177 c_RX1_178 (by decide) rfl rfl (gC_p G.1) rfl (Nat.le_of_ble_eq_true rfl) (Nat.le_of_ble_eq_true rfl) (by omega) (i_X1_interfaceType IH (by omega)) (fun v33 s33 hN => ?_)
                      refine e_aload_n m_X1_type dX1_type_180 rfl rfl rfl ?_
                      refine e_cvU (as := []) hN m_X1_type dX1_type_181 c_RX1_66 (by decide) rfl rfl (gC_p G.1) rfl (Nat.le_of_ble_eq_true rfl) (Nat.le_of_ble_eq_true rfl) (by omega) (w_X1_closePart G (by omega)) (fun v34 s34 hN => ?_)
                      exact e_ret0 m_X1_type dX1_type_184
  · refine e_aload_n m_X1_type dX1_type_8 rfl rfl rfl ?_
    refine e_cvU (as := []) hN m_X1_type dX1_type_9 c_RX1_79 (by decide) rfl rfl (gC_p G.1) rfl (Nat.le_of_ble_eq_true rfl) (Nat.le_of_ble_eq_true rfl) (by omega) (w_X1_name G (by omega)) (fun v35 s35 hN => ?_)
    exact e_ret0 m_X1_type dX1_type_12

def b_X1_listType (K : Nat → Nat) (N : Nat) (rc : Nat → Nat → Nat → Ss → Rs Ss) (s : Ss) : Rs Ss := bn (q_take s) (fun v1 s1 => bn (q_sees K 81 s1) (fun v2 s2 => ifz v2 (bn (rc 29 0 0 (u_ih s2 0)) (fun v4 s4 => ck ((s_ih s2) < 2) (bn (b_X1_expect K N 81 (u_ih s4 (s_ih s2))) (fun v6 s6 => bn (rc 26 0 0 s6) (fun v7 s7 => bn (b_X3_put K N 21 v1 2 s7) (fun v8 s8 => okR 0 s8)))))) (bn (b_X1_expect K N 81 s2) (fun v9 s9 => bn (rc 26 0 0 s9) (fun v10 s10 => bn (b_X3_put K N 20 v1 1 s10) (fun v11 s11 => okR 0 s11))))))
theorem w_X1_listType {xs : Nat → Int32} {L : Nat} {h0 : mm_H} {a p N cnt : Nat} {ks : Nat → Nat} (G : Cg h0 a p N cnt ks) {n : Nat} {rc : Nat → Nat → Nat → Ss → Rs Ss} (IH : Hr xs L h0 a p N cnt ks n rc) {s : Ss} {d : Nat} (hd : n + 17 ≤ d) (hN : b_X1_listType (kA cnt ks) N rc s ≠ none) : Rn xs L d 28 [.ref p] (TC h0 a p N cnt ks s) (ou eU (TC h0 a p N cnt ks) (b_X1_listType (kA cnt ks) N rc s)) := by
  unfold Rn
  unfold b_X1_listType at hN ⊢
  refine e_aload_n m_X1_listType dX1_listType_0 rfl rfl rfl ?_
  refine e_cvN (as := []) hN m_X1_listType dX1_listType_1 c_RX1_50 (by decide) rfl rfl (gC_p G.1) rfl (Nat.le_of_ble_eq_true rfl) (Nat.le_of_ble_eq_true rfl) (by omega) (t_take G (by omega)) (fun v1 s1 hN => ?_)
  refine e_istore_n m_X1_listType dX1_listType_4 rfl (by decide) rfl ?_
  refine e_aload_n m_X1_listType dX1_listType_5 rfl rfl rfl ?_
  refine e_bipush (v := nI 81) m_X1_listType dX1_listType_6 (by decide) ?_
  refine e_cvN (as := [.int (nI 81)]) hN m_X1_listType dX1_listType_8 c_RX1_46 (by decide) rfl rfl (gC_p G.1) rfl (Nat.le_of_ble_eq_true rfl) (Nat.le_of_ble_eq_true rfl) (by omega) (t_sees G (by omega)) (fun v2 s2 hN => ?_)
  refine e_ifne (t := 18) hN m_X1_listType dX1_listType_11 (by decide) (fun q3 hN => ?_) (fun q3 hN => ?_)
  · refine e_iconst (v := nI 1) m_X1_listType dX1_listType_14 (by decide) ?_
    refine e_goto (t := 19) m_X1_listType dX1_listType_15 (by decide) ?_
    refine e_istore_n m_X1_listType dX1_listType_19 rfl (by decide) rfl ?_
    refine e_iload_n m_X1_listType dX1_listType_20 rfl rfl ?_
    refine e_ifF (t := 44) m_X1_listType dX1_listType_21 (by decide) (by decide) ?_
    refine e_aload_n m_X1_listType dX1_listType_24 rfl rfl rfl ?_
    refine e_getf m_X1_listType dX1_listType_25 f_RX1_119 (gC_p G.1) rfl ?_
    refine e_istore_n m_X1_listType dX1_listType_28 rfl (by decide) rfl ?_
    refine e_aload_n m_X1_listType dX1_listType_29 rfl rfl rfl ?_
    refine e_iconst (v := nI 0) m_X1_listType dX1_listType_30 (by decide) ?_
    refine e_putf (v := .int (nI 0)) (h' := TC h0 a p N cnt ks (u_ih s2 0)) m_X1_listType dX1_listType_31 f_RX1_119 (gC_p G.1) (Nat.le_of_ble_eq_true rfl) (fit_z rfl (by decide)) rfl (sC_p G.1) ?_
    refine e_aload_n m_X1_listType dX1_listType_34 rfl rfl rfl ?_
    refine e_iconst (v := nI 0) m_X1_listType dX1_listType_35 (by decide) ?_
    refine e_cvU (as := [.int (nI 0)]) hN m_X1_listType dX1_listType_36 c_RX1_181 (by decide) rfl rfl (gC_p G.1) rfl (Nat.le_of_ble_eq_true rfl) (Nat.le_of_ble_eq_true rfl) (by omega) (i_X1_expr IH (by omega)) (fun v4 s4 hN => ?_)
    refine e_aload_n m_X1_listType dX1_listType_39 rfl rfl rfl ?_
    refine e_iload_n m_X1_listType dX1_listType_40 rfl rfl ?_
    refine e_ck hN (fun q5 hN => ?_)
    refine e_putf (v := .int (nI (s_ih s2))) (h' := TC h0 a p N cnt ks (u_ih s4 (s_ih s2))) m_X1_listType dX1_listType_41 f_RX1_119 (gC_p G.1) (Nat.le_of_ble_eq_true rfl) (fit_z rfl (b01 q5)) rfl (sC_p G.1) ?_
    refine e_aload_n m_X1_listType dX1_listType_44 rfl rfl rfl ?_
    refine e_bipush (v := nI 81) m_X1_listType dX1_listType_45 (by decide) ?_
    refine e_cvN (as := [.int (nI 81)]) hN m_X1_listType dX1_listType_47 c_RX1_63 (by decide) rfl rfl (gC_p G.1) rfl (Nat.le_of_ble_eq_true rfl) (Nat.le_of_ble_eq_true rfl) (by omega) (w_X1_expect G (by omega)) (fun v6 s6 hN => ?_)
    refine e_pop m_X1_listType dX1_listType_50 rfl ?_
    refine e_aload_n m_X1_listType dX1_listType_51 rfl rfl rfl ?_
    refine e_cvU (as := []) hN m_X1_listType dX1_listType_52 c_RX1_103 (by decide) rfl rfl (gC_p G.1) rfl (Nat.le_of_ble_eq_true rfl) (Nat.le_of_ble_eq_true rfl) (by omega) (i_X1_type IH (by omega)) (fun v7 s7 hN => ?_)
    refine e_iload_n m_X1_listType dX1_listType_55 rfl rfl ?_
    refine e_ifF (t := 73) m_X1_listType dX1_listType_56 (by decide) (by decide) ?_
    refine e_aload_n m_X1_listType dX1_listType_59 rfl rfl rfl ?_
    refine e_getf m_X1_listType dX1_listType_60 f_RX1_17 (gC_p G.1) rfl ?_
    refine e_bipush (v := nI 21) m_X1_listType dX1_listType_63 (by decide) ?_
    refine e_iload_n m_X1_listType dX1_listType_65 rfl rfl ?_
    refine e_iconst (v := nI 2) m_X1_listType dX1_listType_66 (by decide) ?_
    refine e_cvU (as := [.int (nI 21), .int (nI v1), .int (nI 2)]) hN m_X1_listType dX1_listType_67 c_RX1_69 (by decide) rfl rfl (gC_r G.1) rfl (Nat.le_of_ble_eq_true rfl) (Nat.le_of_ble_eq_true rfl) (by omega) (w_X3_put G (by omega)) (fun v8 s8 hN => ?_)
    refine e_goto (t := 84) m_X1_listType dX1_listType_70 (by decide) ?_
    exact e_ret0 m_X1_listType dX1_listType_84
  · refine e_iconst (v := nI 0) m_X1_listType dX1_listType_18 (by decide) ?_
    refine e_istore_n m_X1_listType dX1_listType_19 rfl (by decide) rfl ?_
    refine e_iload_n m_X1_listType dX1_listType_20 rfl rfl ?_
    refine e_ifT (t := 44) m_X1_listType dX1_listType_21 (by decide) (by decide) ?_
    refine e_aload_n m_X1_listType dX1_listType_44 rfl rfl rfl ?_
    refine e_bipush (v := nI 81) m_X1_listType dX1_listType_45 (by decide) ?_
    refine e_cvN (as := [.int (nI 81)]) hN m_X1_listType dX1_listType_47 c_RX1_63 (by decide) rfl rfl (gC_p G.1) rfl (Nat.le_of_ble_eq_true rfl) (Nat.le_of_ble_eq_true rfl) (by omega) (w_X1_expect G (by omega)) (fun v9 s9 hN => ?_)
    refine e_pop m_X1_listType dX1_listType_50 rfl ?_
    refine e_aload_n m_X1_listType dX1_listType_51 rfl rfl rfl ?_
    refine e_cvU (as := []) hN m_X1_listType dX1_listType_52 c_RX1_103 (by decide) rfl rfl (gC_p G.1) rfl (Nat.le_of_ble_eq_true rfl) (Nat.le_of_ble_eq_true rfl) (by omega) (i_X1_type IH (by omega)) (fun v10 s10 hN => ?_)
    refine e_iload_n m_X1_listType dX1_listType_55 rfl rfl ?_
    refine e_ifT (t := 73) m_X1_listType dX1_listType_56 (by decide) (by decide) ?_
    refine e_aload_n m_X1_listType dX1_listType_73 rfl rfl rfl ?_
    refine e_getf m_X1_listType dX1_listType_74 f_RX1_17 (gC_p G.1) rfl ?_
    refine e_bipush (v := nI 20) m_X1_listType dX1_listType_77 (by decide) ?_
    refine e_iload_n m_X1_listType dX1_listType_79 rfl rfl ?_
    refine e_iconst (v := nI 1) m_X1_listType dX1_listType_80 (by decide) ?_
    refine e_cvU (as := [.int (nI 20), .int (nI v1), .int (nI 1)]) hN m_X1_listType dX1_listType_81 c_RX1_69 (by decide) rfl rfl (gC_r G.1) rfl (Nat.le_of_ble_eq_true rfl) (Nat.le_of_ble_eq_true rfl) (by omega) (w_X3_put G (by omega)) (fun v11 s11 hN => ?_)
    exact e_ret0 m_X1_listType dX1_listType_84

def lp_X1_expr_21 (K : Nat → Nat) (N : Nat) (rc : Nat → Nat → Nat → Ss → Rs Ss) : Nat → Nat → Nat → Ss → Rs Ss
  | 0, _, _, _ => none
  | f + 1, y2, y3, s => ifl y3 16385 (ck ((K (s_at s)) < 2147483648) (ifz (f_X0_binding (K (s_at s))) (bn (b_X1_putWaiting K N y2 1 s) (fun v16 s16 => okR 0 s16)) (ck ((K (s_at s)) < 2147483648) (bn (b_X1_putWaiting K N y2 (f_X0_binding (K (s_at s))) s) (fun v18 s18 => bn (q_take s18) (fun v19 s19 => bn (b_X1_await K N v19 s19) (fun v20 s20 => bn (rc 30 0 0 s20) (fun v21 s21 => lp_X1_expr_21 K N rc f y2 (y3 + 1) s21)))))))) (bn (b_X1_putWaiting K N y2 1 s) (fun v22 s22 => okR 0 s22))
theorem l_X1_expr_21 {xs : Nat → Int32} {L : Nat} {h0 : mm_H} {a p N cnt : Nat} {ks : Nat → Nat} (G : Cg h0 a p N cnt ks) {n : Nat} {rc : Nat → Nat → Nat → Ss → Rs Ss} (IH : Hr xs L h0 a p N cnt ks n rc) : ∀ (f : Nat) (y2 y3 : Nat) (s : Ss) (d : Nat) (ls : mm_L) (hd : n + 17 ≤ d) (hl0 : mm_lk ls 0 = some (.ref p)) (hl2 : mm_lk ls 2 = some (.int (nI y2))) (hl3 : mm_lk ls 3 = some (.int (nI y3))), lp_X1_expr_21 (kA cnt ks) N rc f y2 y3 s ≠ none → Ev xs L d 29 21 ls [] (TC h0 a p N cnt ks s) 0 0 (ou eU (TC h0 a p N cnt ks) (lp_X1_expr_21 (kA cnt ks) N rc f y2 y3 s)) := by
  intro f
  induction f with
  | zero => intros; rename_i hN; exact absurd rfl hN
  | succ f ih =>
    intro y2 y3 s d ls hd hl0 hl2 hl3 hN
    rw [lp_X1_expr_21] at hN ⊢
    refine e_iload_n m_X1_expr dX1_expr_21 rfl hl3 ?_
    refine e_sipush (v := nI 16385) m_X1_expr dX1_expr_22 (by decide) ?_
    refine e_ige (t := 69) (a := y3) (b := 16385) hN m_X1_expr dX1_expr_25 (by decide) (fun q13 hN => ?_) (fun q13 hN => ?_)
    · refine e_aload_n m_X1_expr dX1_expr_28 rfl hl0 rfl ?_
      refine e_getf m_X1_expr dX1_expr_29 f_RX1_33 (gC_p G.1) rfl ?_
      refine e_ck hN (fun q14 hN => ?_)
      refine e_cs (as := [_]) m_X1_expr dX1_expr_32 c_RX1_295 (by decide) rfl rfl (Nat.le_of_ble_eq_true rfl) (Nat.le_of_ble_eq_true rfl) (by omega) (z_X0_binding q14 (by omega)) ?_
      refine e_ifle (t := 69) hN m_X1_expr dX1_expr_35 (by decide) (fun q15 hN => ?_) (fun q15 hN => ?_)
      · refine e_aload_n m_X1_expr dX1_expr_69 rfl hl0 rfl ?_
        refine e_iload_n m_X1_expr dX1_expr_70 rfl hl2 ?_
        refine e_iconst (v := nI 1) m_X1_expr dX1_expr_71 (by decide) ?_
        refine e_cvU (as := [.int (nI y2), .int (nI 1)]) hN m_X1_expr dX1_expr_72 c_RX1_298 (by decide) rfl rfl (gC_p G.1) rfl (Nat.le_of_ble_eq_true rfl) (Nat.le_of_ble_eq_true rfl) (by omega) (w_X1_putWaiting G (by omega)) (fun v16 s16 hN => ?_)
        exact e_ret0 m_X1_expr dX1_expr_75
      · refine e_aload_n m_X1_expr dX1_expr_38 rfl hl0 rfl ?_
        refine e_iload_n m_X1_expr dX1_expr_39 rfl hl2 ?_
        refine e_aload_n m_X1_expr dX1_expr_40 rfl hl0 rfl ?_
        refine e_getf m_X1_expr dX1_expr_41 f_RX1_33 (gC_p G.1) rfl ?_
        refine e_ck hN (fun q17 hN => ?_)
        refine e_cs (as := [_]) m_X1_expr dX1_expr_44 c_RX1_295 (by decide) rfl rfl (Nat.le_of_ble_eq_true rfl) (Nat.le_of_ble_eq_true rfl) (by omega) (z_X0_binding q17 (by omega)) ?_
        refine e_cvU (as := [.int (nI y2), .int (nI (f_X0_binding ((kA cnt ks) (s_at s))))]) hN m_X1_expr dX1_expr_47 c_RX1_298 (by decide) rfl rfl (gC_p G.1) rfl (Nat.le_of_ble_eq_true rfl) (Nat.le_of_ble_eq_true rfl) (by omega) (w_X1_putWaiting G (by omega)) (fun v18 s18 hN => ?_)
        refine e_aload_n m_X1_expr dX1_expr_50 rfl hl0 rfl ?_
        refine e_aload_n m_X1_expr dX1_expr_51 rfl hl0 rfl ?_
        refine e_cvN (as := []) hN m_X1_expr dX1_expr_52 c_RX1_50 (by decide) rfl rfl (gC_p G.1) rfl (Nat.le_of_ble_eq_true rfl) (Nat.le_of_ble_eq_true rfl) (by omega) (t_take G (by omega)) (fun v19 s19 hN => ?_)
        refine e_cvU (as := [.int (nI v19)]) hN m_X1_expr dX1_expr_55 c_RX1_301 (by decide) rfl rfl (gC_p G.1) rfl (Nat.le_of_ble_eq_true rfl) (Nat.le_of_ble_eq_true rfl) (by omega) (w_X1_await G (by omega)) (fun v20 s20 hN => ?_)
        refine e_aload_n m_X1_expr dX1_expr_58 rfl hl0 rfl ?_
        refine e_iconst (v := nI 0) m_X1_expr dX1_expr_59 (by decide) ?_
        refine e_cvU (as := [.int (nI 0)]) hN m_X1_expr dX1_expr_60 c_RX1_292 (by decide) rfl rfl (gC_p G.1) rfl (Nat.le_of_ble_eq_true rfl) (Nat.le_of_ble_eq_true rfl) (by omega) (i_X1_unary IH (by omega)) (fun v21 s21 hN => ?_)
        refine e_iincN (n := 1) m_X1_expr dX1_expr_63 (by decide) hl3 rfl ?_
        refine e_goto (t := 21) m_X1_expr dX1_expr_66 (by decide) ?_
        exact ih y2 (y3 + 1) _ _ _ (by omega) (lk_mis (by decide) rfl hl0) (lk_mis (by decide) rfl hl2) lk_hit hN
    · refine e_aload_n m_X1_expr dX1_expr_69 rfl hl0 rfl ?_
      refine e_iload_n m_X1_expr dX1_expr_70 rfl hl2 ?_
      refine e_iconst (v := nI 1) m_X1_expr dX1_expr_71 (by decide) ?_
      refine e_cvU (as := [.int (nI y2), .int (nI 1)]) hN m_X1_expr dX1_expr_72 c_RX1_298 (by decide) rfl rfl (gC_p G.1) rfl (Nat.le_of_ble_eq_true rfl) (Nat.le_of_ble_eq_true rfl) (by omega) (w_X1_putWaiting G (by omega)) (fun v22 s22 hN => ?_)
      exact e_ret0 m_X1_expr dX1_expr_75
def b_X1_expr (K : Nat → Nat) (N : Nat) (rc : Nat → Nat → Nat → Ss → Rs Ss) (x1 : Nat) (s : Ss) : Rs Ss := bn (rc 30 x1 0 s) (fun v1 s1 => ife (s_gw s1) 0 (lp_X1_expr_21 K N rc LF (s_wc s) 0 s1) (okR 0 s1))
theorem w_X1_expr {xs : Nat → Int32} {L : Nat} {h0 : mm_H} {a p N cnt : Nat} {ks : Nat → Nat} (G : Cg h0 a p N cnt ks) {n : Nat} {rc : Nat → Nat → Nat → Ss → Rs Ss} (IH : Hr xs L h0 a p N cnt ks n rc) {x1 : Nat} {s : Ss} {d : Nat} (hd : n + 17 ≤ d) (hN : b_X1_expr (kA cnt ks) N rc x1 s ≠ none) : Rn xs L d 29 [.ref p, .int (nI x1)] (TC h0 a p N cnt ks s) (ou eU (TC h0 a p N cnt ks) (b_X1_expr (kA cnt ks) N rc x1 s)) := by
  unfold Rn
  unfold b_X1_expr at hN ⊢
  refine e_aload_n m_X1_expr dX1_expr_0 rfl rfl rfl ?_
  refine e_getf m_X1_expr dX1_expr_1 f_RX1_289 (gC_p G.1) rfl ?_
  refine e_istore_n m_X1_expr dX1_expr_4 rfl (by decide) rfl ?_
  refine e_aload_n m_X1_expr dX1_expr_5 rfl rfl rfl ?_
  refine e_iload_n m_X1_expr dX1_expr_6 rfl rfl ?_
  refine e_cvU (as := [.int (nI x1)]) hN m_X1_expr dX1_expr_7 c_RX1_292 (by decide) rfl rfl (gC_p G.1) rfl (Nat.le_of_ble_eq_true rfl) (Nat.le_of_ble_eq_true rfl) (by omega) (i_X1_unary IH (by omega)) (fun v1 s1 hN => ?_)
  refine e_aload_n m_X1_expr dX1_expr_10 rfl rfl rfl ?_
  refine e_getf m_X1_expr dX1_expr_11 f_RX1_25 (gC_p G.1) rfl ?_
  refine e_iconst (v := oI 0) m_X1_expr dX1_expr_14 (by decide) ?_
  refine e_oieq (t := 19) (a := (s_gw s1)) (b := 0) hN m_X1_expr dX1_expr_15 (by decide) (fun q2 hN => ?_) (fun q2 hN => ?_)
  · refine e_iconst (v := nI 0) m_X1_expr dX1_expr_19 (by decide) ?_
    refine e_istore_n m_X1_expr dX1_expr_20 rfl (by decide) rfl ?_
    exact l_X1_expr_21 G IH LF (s_wc s) 0 _ _ _ (by omega) rfl rfl rfl hN
  · exact e_ret0 m_X1_expr dX1_expr_18

def lp_X1_unary_58 (K : Nat → Nat) (N : Nat) (rc : Nat → Nat → Nat → Ss → Rs Ss) : Nat → Nat → Nat → Ss → Rs Ss
  | 0, _, _, _ => none
  | f + 1, y2, y4, s => ifz y4 (okR 0 s) (ck (y4 ≠ 0) (bn (b_X3_put K N 81 (y2 + (y4 - 1)) 1 s) (fun v38 s38 => bn (b_X1_closePart K N  s38) (fun v39 s39 => ck (y4 ≠ 0) (lp_X1_unary_58 K N rc f y2 (y4 - 1) s39)))))
theorem l_X1_unary_58 {xs : Nat → Int32} {L : Nat} {h0 : mm_H} {a p N cnt : Nat} {ks : Nat → Nat} (G : Cg h0 a p N cnt ks) {n : Nat} {rc : Nat → Nat → Nat → Ss → Rs Ss} (IH : Hr xs L h0 a p N cnt ks n rc) : ∀ (f : Nat) (y2 y4 : Nat) (s : Ss) (d : Nat) (ls : mm_L) (hd : n + 17 ≤ d) (hl0 : mm_lk ls 0 = some (.ref p)) (hl2 : mm_lk ls 2 = some (.int (nI y2))) (hl4 : mm_lk ls 4 = some (.int (oI y4))), lp_X1_unary_58 (kA cnt ks) N rc f y2 y4 s ≠ none → Ev xs L d 30 58 ls [] (TC h0 a p N cnt ks s) 0 0 (ou eU (TC h0 a p N cnt ks) (lp_X1_unary_58 (kA cnt ks) N rc f y2 y4 s)) := by
  intro f
  induction f with
  | zero => intros; rename_i hN; exact absurd rfl hN
  | succ f ih =>
    intro y2 y4 s d ls hd hl0 hl2 hl4 hN
    rw [lp_X1_unary_58] at hN ⊢
    refine e_iload m_X1_unary dX1_unary_58 hl4 ?_
    refine e_oiflt (t := 87) hN m_X1_unary dX1_unary_60 (by decide) (fun q36 hN => ?_) (fun q36 hN => ?_)
    · exact e_ret0 m_X1_unary dX1_unary_87
    · refine e_aload_n m_X1_unary dX1_unary_63 rfl hl0 rfl ?_
      refine e_getf m_X1_unary dX1_unary_64 f_RX1_17 (gC_p G.1) rfl ?_
      refine e_bipush (v := nI 81) m_X1_unary dX1_unary_67 (by decide) ?_
      refine e_iload_n m_X1_unary dX1_unary_69 rfl hl2 ?_
      refine e_iload m_X1_unary dX1_unary_70 hl4 ?_
      refine e_ck hN (fun q37 hN => ?_)
      rw [oI_p q37]
      refine e_iaddN m_X1_unary dX1_unary_72 ?_
      refine e_iconst (v := nI 1) m_X1_unary dX1_unary_73 (by decide) ?_
      refine e_cvU (as := [.int (nI 81), .int (nI (y2 + (y4 - 1))), .int (nI 1)]) hN m_X1_unary dX1_unary_74 c_RX1_69 (by decide) rfl rfl (gC_r G.1) rfl (Nat.le_of_ble_eq_true rfl) (Nat.le_of_ble_eq_true rfl) (by omega) (w_X3_put G (by omega)) (fun v38 s38 hN => ?_)
      refine e_aload_n m_X1_unary dX1_unary_77 rfl hl0 rfl ?_
      refine e_cvU (as := []) hN m_X1_unary dX1_unary_78 c_RX1_66 (by decide) rfl rfl (gC_p G.1) rfl (Nat.le_of_ble_eq_true rfl) (Nat.le_of_ble_eq_true rfl) (by omega) (w_X1_closePart G (by omega)) (fun v39 s39 hN => ?_)
      refine e_ck hN (fun q40 hN => ?_)
      refine e_iincO q40 m_X1_unary dX1_unary_81 (by decide) hl4 rfl ?_
      refine e_goto (t := 58) m_X1_unary dX1_unary_84 (by decide) ?_
      exact ih y2 (y4 - 1) _ _ _ (by omega) (lk_mis (by decide) rfl hl0) (lk_mis (by decide) rfl hl2) lk_hit hN
def lp_X1_unary_7 (K : Nat → Nat) (N : Nat) (rc : Nat → Nat → Nat → Ss → Rs Ss) : Nat → Nat → Nat → Nat → Ss → Rs Ss
  | 0, _, _, _, _ => none
  | f + 1, y1, y2, y3, s => ifl y3 16385 (bn (b_X1_seesUnarySign K N  s) (fun v22 s22 => ifz v22 (ifz y1 (bn (rc 34 0 0 s22) (fun v25 s25 => lp_X1_unary_58 K N rc LF y2 y3 s25)) (ifz y3 (bn (rc 34 1 0 s22) (fun v27 s27 => lp_X1_unary_58 K N rc LF y2 y3 s27)) (bn (rc 34 0 0 s22) (fun v28 s28 => lp_X1_unary_58 K N rc LF y2 y3 s28)))) (bn (b_X1_openPart K N  s22) (fun v29 s29 => bn (q_take s29) (fun v30 s30 => lp_X1_unary_7 K N rc f y1 y2 (y3 + 1) s30))))) (ifz y1 (bn (rc 34 0 0 s) (fun v32 s32 => lp_X1_unary_58 K N rc LF y2 y3 s32)) (ifz y3 (bn (rc 34 1 0 s) (fun v34 s34 => lp_X1_unary_58 K N rc LF y2 y3 s34)) (bn (rc 34 0 0 s) (fun v35 s35 => lp_X1_unary_58 K N rc LF y2 y3 s35))))
theorem l_X1_unary_7 {xs : Nat → Int32} {L : Nat} {h0 : mm_H} {a p N cnt : Nat} {ks : Nat → Nat} (G : Cg h0 a p N cnt ks) {n : Nat} {rc : Nat → Nat → Nat → Ss → Rs Ss} (IH : Hr xs L h0 a p N cnt ks n rc) : ∀ (f : Nat) (y1 y2 y3 : Nat) (s : Ss) (d : Nat) (ls : mm_L) (hd : n + 17 ≤ d) (hl0 : mm_lk ls 0 = some (.ref p)) (hl1 : mm_lk ls 1 = some (.int (nI y1))) (hl2 : mm_lk ls 2 = some (.int (nI y2))) (hl3 : mm_lk ls 3 = some (.int (nI y3))), lp_X1_unary_7 (kA cnt ks) N rc f y1 y2 y3 s ≠ none → Ev xs L d 30 7 ls [] (TC h0 a p N cnt ks s) 0 0 (ou eU (TC h0 a p N cnt ks) (lp_X1_unary_7 (kA cnt ks) N rc f y1 y2 y3 s)) := by
  intro f
  induction f with
  | zero => intros; rename_i hN; exact absurd rfl hN
  | succ f ih =>
    intro y1 y2 y3 s d ls hd hl0 hl1 hl2 hl3 hN
    rw [lp_X1_unary_7] at hN ⊢
    refine e_iload_n m_X1_unary dX1_unary_7 rfl hl3 ?_
    refine e_sipush (v := nI 16385) m_X1_unary dX1_unary_8 (by decide) ?_
    refine e_ige (t := 36) (a := y3) (b := 16385) hN m_X1_unary dX1_unary_11 (by decide) (fun q21 hN => ?_) (fun q21 hN => ?_)
    · refine e_aload_n m_X1_unary dX1_unary_14 rfl hl0 rfl ?_
      refine e_cvN (as := []) hN m_X1_unary dX1_unary_15 c_RX1_304 (by decide) rfl rfl (gC_p G.1) rfl (Nat.le_of_ble_eq_true rfl) (Nat.le_of_ble_eq_true rfl) (by omega) (w_X1_seesUnarySign G (by omega)) (fun v22 s22 hN => ?_)
      refine e_ifeq (t := 36) hN m_X1_unary dX1_unary_18 (by decide) (fun q23 hN => ?_) (fun q23 hN => ?_)
      · refine e_aload_n m_X1_unary dX1_unary_36 rfl hl0 rfl ?_
        refine e_iload_n m_X1_unary dX1_unary_37 rfl hl1 ?_
        refine e_ifeq (t := 49) hN m_X1_unary dX1_unary_38 (by decide) (fun q24 hN => ?_) (fun q24 hN => ?_)
        · refine e_iconst (v := nI 0) m_X1_unary dX1_unary_49 (by decide) ?_
          refine e_cvU (as := [.int (nI 0)]) hN m_X1_unary dX1_unary_50 c_RX1_274 (by decide) rfl rfl (gC_p G.1) rfl (Nat.le_of_ble_eq_true rfl) (Nat.le_of_ble_eq_true rfl) (by omega) (i_X1_primary IH (by omega)) (fun v25 s25 hN => ?_)
          refine e_iload_n m_X1_unary dX1_unary_53 rfl hl3 ?_
          refine e_iconst (v := nI 1) m_X1_unary dX1_unary_54 (by decide) ?_
          refine e_isubO m_X1_unary dX1_unary_55 ?_
          refine e_istore m_X1_unary dX1_unary_56 (by decide) rfl ?_
          exact l_X1_unary_58 G IH LF y2 y3 _ _ _ (by omega) (lk_mis (by decide) rfl hl0) (lk_mis (by decide) rfl hl2) lk_hit hN
        · refine e_iload_n m_X1_unary dX1_unary_41 rfl hl3 ?_
          refine e_ifne (t := 49) hN m_X1_unary dX1_unary_42 (by decide) (fun q26 hN => ?_) (fun q26 hN => ?_)
          · refine e_iconst (v := nI 1) m_X1_unary dX1_unary_45 (by decide) ?_
            refine e_goto (t := 50) m_X1_unary dX1_unary_46 (by decide) ?_
            refine e_cvU (as := [.int (nI 1)]) hN m_X1_unary dX1_unary_50 c_RX1_274 (by decide) rfl rfl (gC_p G.1) rfl (Nat.le_of_ble_eq_true rfl) (Nat.le_of_ble_eq_true rfl) (by omega) (i_X1_primary IH (by omega)) (fun v27 s27 hN => ?_)
            refine e_iload_n m_X1_unary dX1_unary_53 rfl hl3 ?_
            refine e_iconst (v := nI 1) m_X1_unary dX1_unary_54 (by decide) ?_
            refine e_isubO m_X1_unary dX1_unary_55 ?_
            refine e_istore m_X1_unary dX1_unary_56 (by decide) rfl ?_
            exact l_X1_unary_58 G IH LF y2 y3 _ _ _ (by omega) (lk_mis (by decide) rfl hl0) (lk_mis (by decide) rfl hl2) lk_hit hN
          · refine e_iconst (v := nI 0) m_X1_unary dX1_unary_49 (by decide) ?_
            refine e_cvU (as := [.int (nI 0)]) hN m_X1_unary dX1_unary_50 c_RX1_274 (by decide) rfl rfl (gC_p G.1) rfl (Nat.le_of_ble_eq_true rfl) (Nat.le_of_ble_eq_true rfl) (by omega) (i_X1_primary IH (by omega)) (fun v28 s28 hN => ?_)
            refine e_iload_n m_X1_unary dX1_unary_53 rfl hl3 ?_
            refine e_iconst (v := nI 1) m_X1_unary dX1_unary_54 (by decide) ?_
            refine e_isubO m_X1_unary dX1_unary_55 ?_
            refine e_istore m_X1_unary dX1_unary_56 (by decide) rfl ?_
            exact l_X1_unary_58 G IH LF y2 y3 _ _ _ (by omega) (lk_mis (by decide) rfl hl0) (lk_mis (by decide) rfl hl2) lk_hit hN
      · refine e_aload_n m_X1_unary dX1_unary_21 rfl hl0 rfl ?_
        refine e_cvU (as := []) hN m_X1_unary dX1_unary_22 c_RX1_60 (by decide) rfl rfl (gC_p G.1) rfl (Nat.le_of_ble_eq_true rfl) (Nat.le_of_ble_eq_true rfl) (by omega) (w_X1_openPart G (by omega)) (fun v29 s29 hN => ?_)
        refine e_aload_n m_X1_unary dX1_unary_25 rfl hl0 rfl ?_
        refine e_cvN (as := []) hN m_X1_unary dX1_unary_26 c_RX1_50 (by decide) rfl rfl (gC_p G.1) rfl (Nat.le_of_ble_eq_true rfl) (Nat.le_of_ble_eq_true rfl) (by omega) (t_take G (by omega)) (fun v30 s30 hN => ?_)
        refine e_pop m_X1_unary dX1_unary_29 rfl ?_
        refine e_iincN (n := 1) m_X1_unary dX1_unary_30 (by decide) hl3 rfl ?_
        refine e_goto (t := 7) m_X1_unary dX1_unary_33 (by decide) ?_
        exact ih y1 y2 (y3 + 1) _ _ _ (by omega) (lk_mis (by decide) rfl hl0) (lk_mis (by decide) rfl hl1) (lk_mis (by decide) rfl hl2) lk_hit hN
    · refine e_aload_n m_X1_unary dX1_unary_36 rfl hl0 rfl ?_
      refine e_iload_n m_X1_unary dX1_unary_37 rfl hl1 ?_
      refine e_ifeq (t := 49) hN m_X1_unary dX1_unary_38 (by decide) (fun q31 hN => ?_) (fun q31 hN => ?_)
      · refine e_iconst (v := nI 0) m_X1_unary dX1_unary_49 (by decide) ?_
        refine e_cvU (as := [.int (nI 0)]) hN m_X1_unary dX1_unary_50 c_RX1_274 (by decide) rfl rfl (gC_p G.1) rfl (Nat.le_of_ble_eq_true rfl) (Nat.le_of_ble_eq_true rfl) (by omega) (i_X1_primary IH (by omega)) (fun v32 s32 hN => ?_)
        refine e_iload_n m_X1_unary dX1_unary_53 rfl hl3 ?_
        refine e_iconst (v := nI 1) m_X1_unary dX1_unary_54 (by decide) ?_
        refine e_isubO m_X1_unary dX1_unary_55 ?_
        refine e_istore m_X1_unary dX1_unary_56 (by decide) rfl ?_
        exact l_X1_unary_58 G IH LF y2 y3 _ _ _ (by omega) (lk_mis (by decide) rfl hl0) (lk_mis (by decide) rfl hl2) lk_hit hN
      · refine e_iload_n m_X1_unary dX1_unary_41 rfl hl3 ?_
        refine e_ifne (t := 49) hN m_X1_unary dX1_unary_42 (by decide) (fun q33 hN => ?_) (fun q33 hN => ?_)
        · refine e_iconst (v := nI 1) m_X1_unary dX1_unary_45 (by decide) ?_
          refine e_goto (t := 50) m_X1_unary dX1_unary_46 (by decide) ?_
          refine e_cvU (as := [.int (nI 1)]) hN m_X1_unary dX1_unary_50 c_RX1_274 (by decide) rfl rfl (gC_p G.1) rfl (Nat.le_of_ble_eq_true rfl) (Nat.le_of_ble_eq_true rfl) (by omega) (i_X1_primary IH (by omega)) (fun v34 s34 hN => ?_)
          refine e_iload_n m_X1_unary dX1_unary_53 rfl hl3 ?_
          refine e_iconst (v := nI 1) m_X1_unary dX1_unary_54 (by decide) ?_
          refine e_isubO m_X1_unary dX1_unary_55 ?_
          refine e_istore m_X1_unary dX1_unary_56 (by decide) rfl ?_
          exact l_X1_unary_58 G IH LF y2 y3 _ _ _ (by omega) (lk_mis (by decide) rfl hl0) (lk_mis (by decide) rfl hl2) lk_hit hN
        · refine e_iconst (v := nI 0) m_X1_unary dX1_unary_49 (by decide) ?_
          refine e_cvU (as := [.int (nI 0)]) hN m_X1_unary dX1_unary_50 c_RX1_274 (by decide) rfl rfl (gC_p G.1) rfl (Nat.le_of_ble_eq_true rfl) (Nat.le_of_ble_eq_true rfl) (by omega) (i_X1_primary IH (by omega)) (fun v35 s35 hN => ?_)
          refine e_iload_n m_X1_unary dX1_unary_53 rfl hl3 ?_
          refine e_iconst (v := nI 1) m_X1_unary dX1_unary_54 (by decide) ?_
          refine e_isubO m_X1_unary dX1_unary_55 ?_
          refine e_istore m_X1_unary dX1_unary_56 (by decide) rfl ?_
          exact l_X1_unary_58 G IH LF y2 y3 _ _ _ (by omega) (lk_mis (by decide) rfl hl0) (lk_mis (by decide) rfl hl2) lk_hit hN
def b_X1_unary (K : Nat → Nat) (N : Nat) (rc : Nat → Nat → Nat → Ss → Rs Ss) (x1 : Nat) (s : Ss) : Rs Ss := lp_X1_unary_7 K N rc LF x1 (s_at s) 0 s
theorem w_X1_unary {xs : Nat → Int32} {L : Nat} {h0 : mm_H} {a p N cnt : Nat} {ks : Nat → Nat} (G : Cg h0 a p N cnt ks) {n : Nat} {rc : Nat → Nat → Nat → Ss → Rs Ss} (IH : Hr xs L h0 a p N cnt ks n rc) {x1 : Nat} {s : Ss} {d : Nat} (hd : n + 17 ≤ d) (hN : b_X1_unary (kA cnt ks) N rc x1 s ≠ none) : Rn xs L d 30 [.ref p, .int (nI x1)] (TC h0 a p N cnt ks s) (ou eU (TC h0 a p N cnt ks) (b_X1_unary (kA cnt ks) N rc x1 s)) := by
  unfold Rn
  unfold b_X1_unary at hN ⊢
  refine e_aload_n m_X1_unary dX1_unary_0 rfl rfl rfl ?_
  refine e_getf m_X1_unary dX1_unary_1 f_RX1_43 (gC_p G.1) rfl ?_
  refine e_istore_n m_X1_unary dX1_unary_4 rfl (by decide) rfl ?_
  refine e_iconst (v := nI 0) m_X1_unary dX1_unary_5 (by decide) ?_
  refine e_istore_n m_X1_unary dX1_unary_6 rfl (by decide) rfl ?_
  exact l_X1_unary_7 G IH LF x1 (s_at s) 0 _ _ _ (by omega) rfl rfl rfl rfl hN

def lp_X1_primary_8 (K : Nat → Nat) (N : Nat) (rc : Nat → Nat → Nat → Ss → Rs Ss) : Nat → Nat → Nat → Nat → Ss → Rs Ss
  | 0, _, _, _, _ => none
  | f + 1, y1, y2, y3, s => ifl y3 16385 (ifz y2 (okR 0 s) (bn (rc 91 y1 0 s) (fun v7 s7 => lp_X1_primary_8 K N rc f y1 v7 (y3 + 1) s7))) (okR 0 s)
theorem l_X1_primary_8 {xs : Nat → Int32} {L : Nat} {h0 : mm_H} {a p N cnt : Nat} {ks : Nat → Nat} (G : Cg h0 a p N cnt ks) {n : Nat} {rc : Nat → Nat → Nat → Ss → Rs Ss} (IH : Hr xs L h0 a p N cnt ks n rc) : ∀ (f : Nat) (y1 y2 y3 : Nat) (s : Ss) (d : Nat) (ls : mm_L) (hd : n + 17 ≤ d) (hl0 : mm_lk ls 0 = some (.ref p)) (hl1 : mm_lk ls 1 = some (.int (nI y1))) (hl2 : mm_lk ls 2 = some (.int (nI y2))) (hl3 : mm_lk ls 3 = some (.int (nI y3))), lp_X1_primary_8 (kA cnt ks) N rc f y1 y2 y3 s ≠ none → Ev xs L d 34 8 ls [] (TC h0 a p N cnt ks s) 0 0 (ou eU (TC h0 a p N cnt ks) (lp_X1_primary_8 (kA cnt ks) N rc f y1 y2 y3 s)) := by
  intro f
  induction f with
  | zero => intros; rename_i hN; exact absurd rfl hN
  | succ f ih =>
    intro y1 y2 y3 s d ls hd hl0 hl1 hl2 hl3 hN
    rw [lp_X1_primary_8] at hN ⊢
    refine e_iload_n m_X1_primary dX1_primary_8 rfl hl3 ?_
    refine e_sipush (v := nI 16385) m_X1_primary dX1_primary_9 (by decide) ?_
    refine e_ige (t := 31) (a := y3) (b := 16385) hN m_X1_primary dX1_primary_12 (by decide) (fun q5 hN => ?_) (fun q5 hN => ?_)
    · refine e_iload_n m_X1_primary dX1_primary_15 rfl hl2 ?_
      refine e_ifeq (t := 31) hN m_X1_primary dX1_primary_16 (by decide) (fun q6 hN => ?_) (fun q6 hN => ?_)
      · exact e_ret0 m_X1_primary dX1_primary_31
      · refine e_aload_n m_X1_primary dX1_primary_19 rfl hl0 rfl ?_
        refine e_iload_n m_X1_primary dX1_primary_20 rfl hl1 ?_
        refine e_cvN (as := [.int (nI y1)]) hN m_X1_primary dX1_primary_21 c_RX1_313 (by decide) rfl rfl (gC_p G.1) rfl (Nat.le_of_ble_eq_true rfl) (Nat.le_of_ble_eq_true rfl) (by omega) (i_X1_behindOperand IH (by omega)) (fun v7 s7 hN => ?_)
        refine e_istore_n m_X1_primary dX1_primary_24 rfl (by decide) rfl ?_
        refine e_iincN (n := 1) m_X1_primary dX1_primary_25 (by decide) (lk_mis (by decide) rfl hl3) rfl ?_
        refine e_goto (t := 8) m_X1_primary dX1_primary_28 (by decide) ?_
        exact ih y1 v7 (y3 + 1) _ _ _ (by omega) (lk_mis (by decide) rfl (lk_mis (by decide) rfl hl0)) (lk_mis (by decide) rfl (lk_mis (by decide) rfl hl1)) (lk_mis (by decide) rfl lk_hit) lk_hit hN
    · exact e_ret0 m_X1_primary dX1_primary_31
def b_X1_primary (K : Nat → Nat) (N : Nat) (rc : Nat → Nat → Nat → Ss → Rs Ss) (x1 : Nat) (s : Ss) : Rs Ss := bn (rc 35 0 0 s) (fun v1 s1 => lp_X1_primary_8 K N rc LF x1 1 0 s1)
theorem w_X1_primary {xs : Nat → Int32} {L : Nat} {h0 : mm_H} {a p N cnt : Nat} {ks : Nat → Nat} (G : Cg h0 a p N cnt ks) {n : Nat} {rc : Nat → Nat → Nat → Ss → Rs Ss} (IH : Hr xs L h0 a p N cnt ks n rc) {x1 : Nat} {s : Ss} {d : Nat} (hd : n + 17 ≤ d) (hN : b_X1_primary (kA cnt ks) N rc x1 s ≠ none) : Rn xs L d 34 [.ref p, .int (nI x1)] (TC h0 a p N cnt ks s) (ou eU (TC h0 a p N cnt ks) (b_X1_primary (kA cnt ks) N rc x1 s)) := by
  unfold Rn
  unfold b_X1_primary at hN ⊢
  refine e_aload_n m_X1_primary dX1_primary_0 rfl rfl rfl ?_
  refine e_cvU (as := []) hN m_X1_primary dX1_primary_1 c_RX1_310 (by decide) rfl rfl (gC_p G.1) rfl (Nat.le_of_ble_eq_true rfl) (Nat.le_of_ble_eq_true rfl) (by omega) (i_X1_operand IH (by omega)) (fun v1 s1 hN => ?_)
  refine e_iconst (v := nI 1) m_X1_primary dX1_primary_4 (by decide) ?_
  refine e_istore_n m_X1_primary dX1_primary_5 rfl (by decide) rfl ?_
  refine e_iconst (v := nI 0) m_X1_primary dX1_primary_6 (by decide) ?_
  refine e_istore_n m_X1_primary dX1_primary_7 rfl (by decide) rfl ?_
  exact l_X1_primary_8 G IH LF x1 1 0 _ _ _ (by omega) rfl rfl rfl rfl hN

def b_X1_operand (K : Nat → Nat) (N : Nat) (rc : Nat → Nat → Nat → Ss → Rs Ss) (s : Ss) : Rs Ss := ck ((K (s_at s)) < 2147483648) (ife (K (s_at s)) 1 (bn (b_X1_name K N  s) (fun v3 s3 => ifz (s_ih s3) (bn (q_sees K 82 s3) (fun v5 s5 => ifz v5 (okR 0 s5) (bn (rc 37 91 1 s5) (fun v7 s7 => okR 0 s7)))) (okR 0 s3))) (ife (K (s_at s)) 2 (bn (b_X1_putLeaf K N 88 s) (fun v9 s9 => okR 0 s9)) (ife (K (s_at s)) 3 (bn (b_X1_putLeaf K N 88 s) (fun v11 s11 => okR 0 s11)) (ife (K (s_at s)) 4 (bn (b_X1_putLeaf K N 88 s) (fun v13 s13 => okR 0 s13)) (ife (K (s_at s)) 5 (bn (b_X1_putLeaf K N 88 s) (fun v15 s15 => okR 0 s15)) (ife (K (s_at s)) 12 (bn (rc 26 0 0 s) (fun v17 s17 => okR 0 s17)) (ife (K (s_at s)) 20 (bn (rc 43 0 0 s) (fun v19 s19 => okR 0 s19)) (ife (K (s_at s)) 25 (bn (rc 26 0 0 s) (fun v21 s21 => okR 0 s21)) (ife (K (s_at s)) 26 (bn (q_sees K 80 s) (fun v23 s23 => ifz v23 (bn (rc 26 0 0 s23) (fun v25 s25 => bn (q_sees K 82 s25) (fun v26 s26 => ifz v26 (okR 0 s26) (bn (rc 37 91 1 s26) (fun v28 s28 => okR 0 s28))))) (bn (q_nextKind K s23) (fun v29 s29 => ife v29 77 (bn (rc 90 0 0 s29) (fun v31 s31 => bn (rc 37 91 1 s31) (fun v32 s32 => okR 0 s32))) (bn (rc 26 0 0 s29) (fun v33 s33 => bn (q_sees K 82 s33) (fun v34 s34 => ifz v34 (okR 0 s34) (bn (rc 37 91 1 s34) (fun v36 s36 => okR 0 s36))))))))) (ife (K (s_at s)) 31 (bn (q_sees K 80 s) (fun v38 s38 => ifz v38 (bn (rc 26 0 0 s38) (fun v40 s40 => bn (q_sees K 82 s40) (fun v41 s41 => ifz v41 (okR 0 s41) (bn (rc 37 91 1 s41) (fun v43 s43 => okR 0 s43))))) (bn (q_nextKind K s38) (fun v44 s44 => ife v44 77 (bn (rc 90 0 0 s44) (fun v46 s46 => bn (rc 37 91 1 s46) (fun v47 s47 => okR 0 s47))) (bn (rc 26 0 0 s44) (fun v48 s48 => bn (q_sees K 82 s48) (fun v49 s49 => ifz v49 (okR 0 s49) (bn (rc 37 91 1 s49) (fun v51 s51 => okR 0 s51))))))))) (ife (K (s_at s)) 64 (bn (rc 26 0 0 s) (fun v53 s53 => okR 0 s53)) (ife (K (s_at s)) 78 (bn (rc 42 0 0 s) (fun v55 s55 => okR 0 s55)) (ife (K (s_at s)) 80 (bn (q_sees K 80 s) (fun v57 s57 => ifz v57 (bn (rc 26 0 0 s57) (fun v59 s59 => bn (q_sees K 82 s59) (fun v60 s60 => ifz v60 (okR 0 s60) (bn (rc 37 91 1 s60) (fun v62 s62 => okR 0 s62))))) (bn (q_nextKind K s57) (fun v63 s63 => ife v63 77 (bn (rc 90 0 0 s63) (fun v65 s65 => bn (rc 37 91 1 s65) (fun v66 s66 => okR 0 s66))) (bn (rc 26 0 0 s63) (fun v67 s67 => bn (q_sees K 82 s67) (fun v68 s68 => ifz v68 (okR 0 s68) (bn (rc 37 91 1 s68) (fun v70 s70 => okR 0 s70))))))))) (erR s))))))))))))))
theorem w_X1_operand {xs : Nat → Int32} {L : Nat} {h0 : mm_H} {a p N cnt : Nat} {ks : Nat → Nat} (G : Cg h0 a p N cnt ks) {n : Nat} {rc : Nat → Nat → Nat → Ss → Rs Ss} (IH : Hr xs L h0 a p N cnt ks n rc) {s : Ss} {d : Nat} (hd : n + 17 ≤ d) (hN : b_X1_operand (kA cnt ks) N rc s ≠ none) : Rn xs L d 35 [.ref p] (TC h0 a p N cnt ks s) (ou eU (TC h0 a p N cnt ks) (b_X1_operand (kA cnt ks) N rc s)) := by
  unfold Rn
  unfold b_X1_operand at hN ⊢
  refine e_aload_n m_X1_operand dX1_operand_0 rfl rfl rfl ?_
  refine e_getf m_X1_operand dX1_operand_1 f_RX1_33 (gC_p G.1) rfl ?_
  refine e_ck hN (fun q1 hN => ?_)
  refine sw_c (a := ((kA cnt ks) (s_at s))) (b := 1) hN (fun q2 hN => ?_) (fun q2 hN => ?_)
  · refine e_lookup (t := 129) m_X1_operand dX1_operand_4 (by decide) (by rw [q2]; decide) ?_
    refine e_aload_n m_X1_operand dX1_operand_129 rfl rfl rfl ?_
    refine e_cvU (as := []) hN m_X1_operand dX1_operand_130 c_RX1_79 (by decide) rfl rfl (gC_p G.1) rfl (Nat.le_of_ble_eq_true rfl) (Nat.le_of_ble_eq_true rfl) (by omega) (w_X1_name G (by omega)) (fun v3 s3 hN => ?_)
    refine e_aload_n m_X1_operand dX1_operand_133 rfl rfl rfl ?_
    refine e_getf m_X1_operand dX1_operand_134 f_RX1_119 (gC_p G.1) rfl ?_
    refine e_ifne (t := 246) hN m_X1_operand dX1_operand_137 (by decide) (fun q4 hN => ?_) (fun q4 hN => ?_)
    · refine e_aload_n m_X1_operand dX1_operand_140 rfl rfl rfl ?_
      refine e_bipush (v := nI 82) m_X1_operand dX1_operand_141 (by decide) ?_
      refine e_cvN (as := [.int (nI 82)]) hN m_X1_operand dX1_operand_143 c_RX1_46 (by decide) rfl rfl (gC_p G.1) rfl (Nat.le_of_ble_eq_true rfl) (Nat.le_of_ble_eq_true rfl) (by omega) (t_sees G (by omega)) (fun v5 s5 hN => ?_)
      refine e_ifeq (t := 246) hN m_X1_operand dX1_operand_146 (by decide) (fun q6 hN => ?_) (fun q6 hN => ?_)
      · exact e_ret0 m_X1_operand dX1_operand_246
      · refine e_aload_n m_X1_operand dX1_operand_149 rfl rfl rfl ?_
        refine e_bipush (v := nI 91) m_X1_operand dX1_operand_150 (by decide) ?_
        refine e_iconst (v := nI 1) m_X1_operand dX1_operand_152 (by decide) ?_
        refine e_cvU (as := [.int (nI 91), .int (nI 1)]) hN m_X1_operand dX1_operand_153 c_RX1_329 (by decide) rfl rfl (gC_p G.1) rfl (Nat.le_of_ble_eq_true rfl) (Nat.le_of_ble_eq_true rfl) (by omega) (i_X1_elements IH (by omega)) (fun v7 s7 hN => ?_)
        refine e_goto (t := 246) m_X1_operand dX1_operand_156 (by decide) ?_
        exact e_ret0 m_X1_operand dX1_operand_246
    · exact e_ret0 m_X1_operand dX1_operand_246
  · refine sw_c (a := ((kA cnt ks) (s_at s))) (b := 2) hN (fun q8 hN => ?_) (fun q8 hN => ?_)
    · refine e_lookup (t := 120) m_X1_operand dX1_operand_4 (by decide) (by rw [q8]; decide) ?_
      refine e_aload_n m_X1_operand dX1_operand_120 rfl rfl rfl ?_
      refine e_bipush (v := nI 88) m_X1_operand dX1_operand_121 (by decide) ?_
      refine e_cvU (as := [.int (nI 88)]) hN m_X1_operand dX1_operand_123 c_RX1_154 (by decide) rfl rfl (gC_p G.1) rfl (Nat.le_of_ble_eq_true rfl) (Nat.le_of_ble_eq_true rfl) (by omega) (w_X1_putLeaf G (by omega)) (fun v9 s9 hN => ?_)
      refine e_goto (t := 246) m_X1_operand dX1_operand_126 (by decide) ?_
      exact e_ret0 m_X1_operand dX1_operand_246
    · refine sw_c (a := ((kA cnt ks) (s_at s))) (b := 3) hN (fun q10 hN => ?_) (fun q10 hN => ?_)
      · refine e_lookup (t := 120) m_X1_operand dX1_operand_4 (by decide) (by rw [q10]; decide) ?_
        refine e_aload_n m_X1_operand dX1_operand_120 rfl rfl rfl ?_
        refine e_bipush (v := nI 88) m_X1_operand dX1_operand_121 (by decide) ?_
        refine e_cvU (as := [.int (nI 88)]) hN m_X1_operand dX1_operand_123 c_RX1_154 (by decide) rfl rfl (gC_p G.1) rfl (Nat.le_of_ble_eq_true rfl) (Nat.le_of_ble_eq_true rfl) (by omega) (w_X1_putLeaf G (by omega)) (fun v11 s11 hN => ?_)
        refine e_goto (t := 246) m_X1_operand dX1_operand_126 (by decide) ?_
        exact e_ret0 m_X1_operand dX1_operand_246
      · refine sw_c (a := ((kA cnt ks) (s_at s))) (b := 4) hN (fun q12 hN => ?_) (fun q12 hN => ?_)
        · refine e_lookup (t := 120) m_X1_operand dX1_operand_4 (by decide) (by rw [q12]; decide) ?_
          refine e_aload_n m_X1_operand dX1_operand_120 rfl rfl rfl ?_
          refine e_bipush (v := nI 88) m_X1_operand dX1_operand_121 (by decide) ?_
          refine e_cvU (as := [.int (nI 88)]) hN m_X1_operand dX1_operand_123 c_RX1_154 (by decide) rfl rfl (gC_p G.1) rfl (Nat.le_of_ble_eq_true rfl) (Nat.le_of_ble_eq_true rfl) (by omega) (w_X1_putLeaf G (by omega)) (fun v13 s13 hN => ?_)
          refine e_goto (t := 246) m_X1_operand dX1_operand_126 (by decide) ?_
          exact e_ret0 m_X1_operand dX1_operand_246
        · refine sw_c (a := ((kA cnt ks) (s_at s))) (b := 5) hN (fun q14 hN => ?_) (fun q14 hN => ?_)
          · refine e_lookup (t := 120) m_X1_operand dX1_operand_4 (by decide) (by rw [q14]; decide) ?_
            refine e_aload_n m_X1_operand dX1_operand_120 rfl rfl rfl ?_
            refine e_bipush (v := nI 88) m_X1_operand dX1_operand_121 (by decide) ?_
            refine e_cvU (as := [.int (nI 88)]) hN m_X1_operand dX1_operand_123 c_RX1_154 (by decide) rfl rfl (gC_p G.1) rfl (Nat.le_of_ble_eq_true rfl) (Nat.le_of_ble_eq_true rfl) (by omega) (w_X1_putLeaf G (by omega)) (fun v15 s15 hN => ?_)
            refine e_goto (t := 246) m_X1_operand dX1_operand_126 (by decide) ?_
            exact e_ret0 m_X1_operand dX1_operand_246
          · refine sw_c (a := ((kA cnt ks) (s_at s))) (b := 12) hN (fun q16 hN => ?_) (fun q16 hN => ?_)
            · refine e_lookup (t := 235) m_X1_operand dX1_operand_4 (by decide) (by rw [q16]; decide) ?_
              refine e_aload_n m_X1_operand dX1_operand_235 rfl rfl rfl ?_
              refine e_cvU (as := []) hN m_X1_operand dX1_operand_236 c_RX1_103 (by decide) rfl rfl (gC_p G.1) rfl (Nat.le_of_ble_eq_true rfl) (Nat.le_of_ble_eq_true rfl) (by omega) (i_X1_type IH (by omega)) (fun v17 s17 hN => ?_)
              refine e_goto (t := 246) m_X1_operand dX1_operand_239 (by decide) ?_
              exact e_ret0 m_X1_operand dX1_operand_246
            · refine sw_c (a := ((kA cnt ks) (s_at s))) (b := 20) hN (fun q18 hN => ?_) (fun q18 hN => ?_)
              · refine e_lookup (t := 166) m_X1_operand dX1_operand_4 (by decide) (by rw [q18]; decide) ?_
                refine e_aload_n m_X1_operand dX1_operand_166 rfl rfl rfl ?_
                refine e_cvU (as := []) hN m_X1_operand dX1_operand_167 c_RX1_335 (by decide) rfl rfl (gC_p G.1) rfl (Nat.le_of_ble_eq_true rfl) (Nat.le_of_ble_eq_true rfl) (by omega) (i_X1_functionOrType IH (by omega)) (fun v19 s19 hN => ?_)
                refine e_goto (t := 246) m_X1_operand dX1_operand_170 (by decide) ?_
                exact e_ret0 m_X1_operand dX1_operand_246
              · refine sw_c (a := ((kA cnt ks) (s_at s))) (b := 25) hN (fun q20 hN => ?_) (fun q20 hN => ?_)
                · refine e_lookup (t := 235) m_X1_operand dX1_operand_4 (by decide) (by rw [q20]; decide) ?_
                  refine e_aload_n m_X1_operand dX1_operand_235 rfl rfl rfl ?_
                  refine e_cvU (as := []) hN m_X1_operand dX1_operand_236 c_RX1_103 (by decide) rfl rfl (gC_p G.1) rfl (Nat.le_of_ble_eq_true rfl) (Nat.le_of_ble_eq_true rfl) (by omega) (i_X1_type IH (by omega)) (fun v21 s21 hN => ?_)
                  refine e_goto (t := 246) m_X1_operand dX1_operand_239 (by decide) ?_
                  exact e_ret0 m_X1_operand dX1_operand_246
                · refine sw_c (a := ((kA cnt ks) (s_at s))) (b := 26) hN (fun q22 hN => ?_) (fun q22 hN => ?_)
                  · refine e_lookup (t := 173) m_X1_operand dX1_operand_4 (by decide) (by rw [q22]; decide) ?_
                    refine e_aload_n m_X1_operand dX1_operand_173 rfl rfl rfl ?_
                    refine e_bipush (v := nI 80) m_X1_operand dX1_operand_174 (by decide) ?_
                    refine e_cvN (as := [.int (nI 80)]) hN m_X1_operand dX1_operand_176 c_RX1_46 (by decide) rfl rfl (gC_p G.1) rfl (Nat.le_of_ble_eq_true rfl) (Nat.le_of_ble_eq_true rfl) (by omega) (t_sees G (by omega)) (fun v23 s23 hN => ?_)
                    refine e_ifeq (t := 195) hN m_X1_operand dX1_operand_179 (by decide) (fun q24 hN => ?_) (fun q24 hN => ?_)
                    · refine e_iconst (v := nI 0) m_X1_operand dX1_operand_195 (by decide) ?_
                      refine e_istore_n m_X1_operand dX1_operand_196 rfl (by decide) rfl ?_
                      refine e_iload_n m_X1_operand dX1_operand_197 rfl rfl ?_
                      refine e_ifT (t := 208) m_X1_operand dX1_operand_198 (by decide) (by decide) ?_
                      refine e_aload_n m_X1_operand dX1_operand_208 rfl rfl rfl ?_
                      refine e_cvU (as := []) hN m_X1_operand dX1_operand_209 c_RX1_103 (by decide) rfl rfl (gC_p G.1) rfl (Nat.le_of_ble_eq_true rfl) (Nat.le_of_ble_eq_true rfl) (by omega) (i_X1_type IH (by omega)) (fun v25 s25 hN => ?_)
                      refine e_iload_n m_X1_operand dX1_operand_212 rfl rfl ?_
                      refine e_ifF (t := 225) m_X1_operand dX1_operand_213 (by decide) (by decide) ?_
                      refine e_aload_n m_X1_operand dX1_operand_216 rfl rfl rfl ?_
                      refine e_bipush (v := nI 82) m_X1_operand dX1_operand_217 (by decide) ?_
                      refine e_cvN (as := [.int (nI 82)]) hN m_X1_operand dX1_operand_219 c_RX1_46 (by decide) rfl rfl (gC_p G.1) rfl (Nat.le_of_ble_eq_true rfl) (Nat.le_of_ble_eq_true rfl) (by omega) (t_sees G (by omega)) (fun v26 s26 hN => ?_)
                      refine e_ifeq (t := 246) hN m_X1_operand dX1_operand_222 (by decide) (fun q27 hN => ?_) (fun q27 hN => ?_)
                      · exact e_ret0 m_X1_operand dX1_operand_246
                      · refine e_aload_n m_X1_operand dX1_operand_225 rfl rfl rfl ?_
                        refine e_bipush (v := nI 91) m_X1_operand dX1_operand_226 (by decide) ?_
                        refine e_iconst (v := nI 1) m_X1_operand dX1_operand_228 (by decide) ?_
                        refine e_cvU (as := [.int (nI 91), .int (nI 1)]) hN m_X1_operand dX1_operand_229 c_RX1_329 (by decide) rfl rfl (gC_p G.1) rfl (Nat.le_of_ble_eq_true rfl) (Nat.le_of_ble_eq_true rfl) (by omega) (i_X1_elements IH (by omega)) (fun v28 s28 hN => ?_)
                        refine e_goto (t := 246) m_X1_operand dX1_operand_232 (by decide) ?_
                        exact e_ret0 m_X1_operand dX1_operand_246
                    · refine e_aload_n m_X1_operand dX1_operand_182 rfl rfl rfl ?_
                      refine e_cvN (as := []) hN m_X1_operand dX1_operand_183 c_RX1_147 (by decide) rfl rfl (gC_p G.1) rfl (Nat.le_of_ble_eq_true rfl) (Nat.le_of_ble_eq_true rfl) (by omega) (t_nextKind G (by omega)) (fun v29 s29 hN => ?_)
                      refine e_bipush (v := nI 77) m_X1_operand dX1_operand_186 (by decide) ?_
                      refine e_ine (t := 195) (a := v29) (b := 77) hN m_X1_operand dX1_operand_188 (by decide) (fun q30 hN => ?_) (fun q30 hN => ?_)
                      · refine e_iconst (v := nI 1) m_X1_operand dX1_operand_191 (by decide) ?_
                        refine e_goto (t := 196) m_X1_operand dX1_operand_192 (by decide) ?_
                        refine e_istore_n m_X1_operand dX1_operand_196 rfl (by decide) rfl ?_
                        refine e_iload_n m_X1_operand dX1_operand_197 rfl rfl ?_
                        refine e_ifF (t := 208) m_X1_operand dX1_operand_198 (by decide) (by decide) ?_
                        refine e_aload_n m_X1_operand dX1_operand_201 rfl rfl rfl ?_
                        refine e_cvU (as := []) hN m_X1_operand dX1_operand_202 c_RX1_338 (by decide) rfl rfl (gC_p G.1) rfl (Nat.le_of_ble_eq_true rfl) (Nat.le_of_ble_eq_true rfl) (by omega) (i_X1_countedArrayType IH (by omega)) (fun v31 s31 hN => ?_)
                        refine e_goto (t := 212) m_X1_operand dX1_operand_205 (by decide) ?_
                        refine e_iload_n m_X1_operand dX1_operand_212 rfl rfl ?_
                        refine e_ifT (t := 225) m_X1_operand dX1_operand_213 (by decide) (by decide) ?_
                        refine e_aload_n m_X1_operand dX1_operand_225 rfl rfl rfl ?_
                        refine e_bipush (v := nI 91) m_X1_operand dX1_operand_226 (by decide) ?_
                        refine e_iconst (v := nI 1) m_X1_operand dX1_operand_228 (by decide) ?_
                        refine e_cvU (as := [.int (nI 91), .int (nI 1)]) hN m_X1_operand dX1_operand_229 c_RX1_329 (by decide) rfl rfl (gC_p G.1) rfl (Nat.le_of_ble_eq_true rfl) (Nat.le_of_ble_eq_true rfl) (by omega) (i_X1_elements IH (by omega)) (fun v32 s32 hN => ?_)
                        refine e_goto (t := 246) m_X1_operand dX1_operand_232 (by decide) ?_
                        exact e_ret0 m_X1_operand dX1_operand_246
                      · refine e_iconst (v := nI 0) m_X1_operand dX1_operand_195 (by decide) ?_
                        refine e_istore_n m_X1_operand dX1_operand_196 rfl (by decide) rfl ?_
                        refine e_iload_n m_X1_operand dX1_operand_197 rfl rfl ?_
                        refine e_ifT (t := 208) m_X1_operand dX1_operand_198 (by decide) (by decide) ?_
                        refine e_aload_n m_X1_operand dX1_operand_208 rfl rfl rfl ?_
                        refine e_cvU (as := []) hN m_X1_operand dX1_operand_209 c_RX1_103 (by decide) rfl rfl (gC_p G.1) rfl (Nat.le_of_ble_eq_true rfl) (Nat.le_of_ble_eq_true rfl) (by omega) (i_X1_type IH (by omega)) (fun v33 s33 hN => ?_)
                        refine e_iload_n m_X1_operand dX1_operand_212 rfl rfl ?_
                        refine e_ifF (t := 225) m_X1_operand dX1_operand_213 (by decide) (by decide) ?_
                        refine e_aload_n m_X1_operand dX1_operand_216 rfl rfl rfl ?_
                        refine e_bipush (v := nI 82) m_X1_operand dX1_operand_217 (by decide) ?_
                        refine e_cvN (as := [.int (nI 82)]) hN m_X1_operand dX1_operand_219 c_RX1_46 (by decide) rfl rfl (gC_p G.1) rfl (Nat.le_of_ble_eq_true rfl) (Nat.le_of_ble_eq_true rfl) (by omega) (t_sees G (by omega)) (fun v34 s34 hN => ?_)
                        refine e_ifeq (t := 246) hN m_X1_operand dX1_operand_222 (by decide) (fun q35 hN => ?_) (fun q35 hN => ?_)
                        · exact e_ret0 m_X1_operand dX1_operand_246
                        · refine e_aload_n m_X1_operand dX1_operand_225 rfl rfl rfl ?_
                          refine e_bipush (v := nI 91) m_X1_operand dX1_operand_226 (by decide) ?_
                          refine e_iconst (v := nI 1) m_X1_operand dX1_operand_228 (by decide) ?_
                          refine e_cvU (as := [.int (nI 91), .int (nI 1)]) hN m_X1_operand dX1_operand_229 c_RX1_329 (by decide) rfl rfl (gC_p G.1) rfl (Nat.le_of_ble_eq_true rfl) (Nat.le_of_ble_eq_true rfl) (by omega) (i_X1_elements IH (by omega)) (fun v36 s36 hN => ?_)
                          refine e_goto (t := 246) m_X1_operand dX1_operand_232 (by decide) ?_
                          exact e_ret0 m_X1_operand dX1_operand_246
                  · refine sw_c (a := ((kA cnt ks) (s_at s))) (b := 31) hN (fun q37 hN => ?_) (fun q37 hN => ?_)
                    · refine e_lookup (t := 173) m_X1_operand dX1_operand_4 (by decide) (by rw [q37]; decide) ?_
                      refine e_aload_n m_X1_operand dX1_operand_173 rfl rfl rfl ?_
                      refine e_bipush (v := nI 80) m_X1_operand dX1_operand_174 (by decide) ?_
                      refine e_cvN (as := [.int (nI 80)]) hN m_X1_operand dX1_operand_176 c_RX1_46 (by decide) rfl rfl (gC_p G.1) rfl (Nat.le_of_ble_eq_true rfl) (Nat.le_of_ble_eq_true rfl) (by omega) (t_sees G (by omega)) (fun v38 s38 hN => ?_)
                      refine e_ifeq (t := 195) hN m_X1_operand dX1_operand_179 (by decide) (fun q39 hN => ?_) (fun q39 hN => ?_)
                      · refine e_iconst (v := nI 0) m_X1_operand dX1_operand_195 (by decide) ?_
                        refine e_istore_n m_X1_operand dX1_operand_196 rfl (by decide) rfl ?_
                        refine e_iload_n m_X1_operand dX1_operand_197 rfl rfl ?_
                        refine e_ifT (t := 208) m_X1_operand dX1_operand_198 (by decide) (by decide) ?_
                        refine e_aload_n m_X1_operand dX1_operand_208 rfl rfl rfl ?_
                        refine e_cvU (as := []) hN m_X1_operand dX1_operand_209 c_RX1_103 (by decide) rfl rfl (gC_p G.1) rfl (Nat.le_of_ble_eq_true rfl) (Nat.le_of_ble_eq_true rfl) (by omega) (i_X1_type IH (by omega)) (fun v40 s40 hN => ?_)
                        refine e_iload_n m_X1_operand dX1_operand_212 rfl rfl ?_
                        refine e_ifF (t := 225) m_X1_operand dX1_operand_213 (by decide) (by decide) ?_
                        refine e_aload_n m_X1_operand dX1_operand_216 rfl rfl rfl ?_
                        refine e_bipush (v := nI 82) m_X1_operand dX1_operand_217 (by decide) ?_
                        refine e_cvN (as := [.int (nI 82)]) hN m_X1_operand dX1_operand_219 c_RX1_46 (by decide) rfl rfl (gC_p G.1) rfl (Nat.le_of_ble_eq_true rfl) (Nat.le_of_ble_eq_true rfl) (by omega) (t_sees G (by omega)) (fun v41 s41 hN => ?_)
                        refine e_ifeq (t := 246) hN m_X1_operand dX1_operand_222 (by decide) (fun q42 hN => ?_) (fun q42 hN => ?_)
                        · exact e_ret0 m_X1_operand dX1_operand_246
                        · refine e_aload_n m_X1_operand dX1_operand_225 rfl rfl rfl ?_
                          refine e_bipush (v := nI 91) m_X1_operand dX1_operand_226 (by decide) ?_
                          refine e_iconst (v := nI 1) m_X1_operand dX1_operand_228 (by decide) ?_
                          refine e_cvU (as := [.int (nI 91), .int (nI 1)]) hN m_X1_operand dX1_operand_229 c_RX1_329 (by decide) rfl rfl (gC_p G.1) rfl (Nat.le_of_ble_eq_true rfl) (Nat.le_of_ble_eq_true rfl) (by omega) (i_X1_elements IH (by omega)) (fun v43 s43 hN => ?_)
                          refine e_goto (t := 246) m_X1_operand dX1_operand_232 (by decide) ?_
                          exact e_ret0 m_X1_operand dX1_operand_246
                      · refine e_aload_n m_X1_operand dX1_operand_182 rfl rfl rfl ?_
                        refine e_cvN (as := []) hN m_X1_operand dX1_operand_183 c_RX1_147 (by decide) rfl rfl (gC_p G.1) rfl (Nat.le_of_ble_eq_true rfl) (Nat.le_of_ble_eq_true rfl) (by omega) (t_nextKind G (by omega)) (fun v44 s44 hN => ?_)
                        refine e_bipush (v := nI 77) m_X1_operand dX1_operand_186 (by decide) ?_
                        refine e_ine (t := 195) (a := v44) (b := 77) hN m_X1_operand dX1_operand_188 (by decide) (fun q45 hN => ?_) (fun q45 hN => ?_)
                        · refine e_iconst (v := nI 1) m_X1_operand dX1_operand_191 (by decide) ?_
                          refine e_goto (t := 196) m_X1_operand dX1_operand_192 (by decide) ?_
                          refine e_istore_n m_X1_operand dX1_operand_196 rfl (by decide) rfl ?_
                          refine e_iload_n m_X1_operand dX1_operand_197 rfl rfl ?_
                          refine e_ifF (t := 208) m_X1_operand dX1_operand_198 (by decide) (by decide) ?_
                          refine e_aload_n m_X1_operand dX1_operand_201 rfl rfl rfl ?_
                          refine e_cvU (as := []) hN m_X1_operand dX1_operand_202 c_RX1_338 (by decide) rfl rfl (gC_p G.1) rfl (Nat.le_of_ble_eq_true rfl) (Nat.le_of_ble_eq_true rfl) (by omega) (i_X1_countedArrayType IH (by omega)) (fun v46 s46 hN => ?_)
                          refine e_goto (t := 212) m_X1_operand dX1_operand_205 (by decide) ?_
                          refine e_iload_n m_X1_operand dX1_operand_212 rfl rfl ?_
                          refine e_ifT (t := 225) m_X1_operand dX1_operand_213 (by decide) (by decide) ?_
                          refine e_aload_n m_X1_operand dX1_operand_225 rfl rfl rfl ?_
                          refine e_bipush (v := nI 91) m_X1_operand dX1_operand_226 (by decide) ?_
                          refine e_iconst (v := nI 1) m_X1_operand dX1_operand_228 (by decide) ?_
                          refine e_cvU (as := [.int (nI 91), .int (nI 1)]) hN m_X1_operand dX1_operand_229 c_RX1_329 (by decide) rfl rfl (gC_p G.1) rfl (Nat.le_of_ble_eq_true rfl) (Nat.le_of_ble_eq_true rfl) (by omega) (i_X1_elements IH (by omega)) (fun v47 s47 hN => ?_)
                          refine e_goto (t := 246) m_X1_operand dX1_operand_232 (by decide) ?_
                          exact e_ret0 m_X1_operand dX1_operand_246
                        · refine e_iconst (v := nI 0) m_X1_operand dX1_operand_195 (by decide) ?_
                          refine e_istore_n m_X1_operand dX1_operand_196 rfl (by decide) rfl ?_
                          refine e_iload_n m_X1_operand dX1_operand_197 rfl rfl ?_
                          refine e_ifT (t := 208) m_X1_operand dX1_operand_198 (by decide) (by decide) ?_
                          refine e_aload_n m_X1_operand dX1_operand_208 rfl rfl rfl ?_
                          refine e_cvU (as := []) hN m_X1_operand dX1_operand_209 c_RX1_103 (by decide) rfl rfl (gC_p G.1) rfl (Nat.le_of_ble_eq_true rfl) (Nat.le_of_ble_eq_true rfl) (by omega) (i_X1_type IH (by omega)) (fun v48 s48 hN => ?_)
                          refine e_iload_n m_X1_operand dX1_operand_212 rfl rfl ?_
                          refine e_ifF (t := 225) m_X1_operand dX1_operand_213 (by decide) (by decide) ?_
                          refine e_aload_n m_X1_operand dX1_operand_216 rfl rfl rfl ?_
                          refine e_bipush (v := nI 82) m_X1_operand dX1_operand_217 (by decide) ?_
                          refine e_cvN (as := [.int (nI 82)]) hN m_X1_operand dX1_operand_219 c_RX1_46 (by decide) rfl rfl (gC_p G.1) rfl (Nat.le_of_ble_eq_true rfl) (Nat.le_of_ble_eq_true rfl) (by omega) (t_sees G (by omega)) (fun v49 s49 hN => ?_)
                          refine e_ifeq (t := 246) hN m_X1_operand dX1_operand_222 (by decide) (fun q50 hN => ?_) (fun q50 hN => ?_)
                          · exact e_ret0 m_X1_operand dX1_operand_246
                          · refine e_aload_n m_X1_operand dX1_operand_225 rfl rfl rfl ?_
                            refine e_bipush (v := nI 91) m_X1_operand dX1_operand_226 (by decide) ?_
                            refine e_iconst (v := nI 1) m_X1_operand dX1_operand_228 (by decide) ?_
                            refine e_cvU (as := [.int (nI 91), .int (nI 1)]) hN m_X1_operand dX1_operand_229 c_RX1_329 (by decide) rfl rfl (gC_p G.1) rfl (Nat.le_of_ble_eq_true rfl) (Nat.le_of_ble_eq_true rfl) (by omega) (i_X1_elements IH (by omega)) (fun v51 s51 hN => ?_)
                            refine e_goto (t := 246) m_X1_operand dX1_operand_232 (by decide) ?_
                            exact e_ret0 m_X1_operand dX1_operand_246
                    · refine sw_c (a := ((kA cnt ks) (s_at s))) (b := 64) hN (fun q52 hN => ?_) (fun q52 hN => ?_)
                      · refine e_lookup (t := 235) m_X1_operand dX1_operand_4 (by decide) (by rw [q52]; decide) ?_
                        refine e_aload_n m_X1_operand dX1_operand_235 rfl rfl rfl ?_
                        refine e_cvU (as := []) hN m_X1_operand dX1_operand_236 c_RX1_103 (by decide) rfl rfl (gC_p G.1) rfl (Nat.le_of_ble_eq_true rfl) (Nat.le_of_ble_eq_true rfl) (by omega) (i_X1_type IH (by omega)) (fun v53 s53 hN => ?_)
                        refine e_goto (t := 246) m_X1_operand dX1_operand_239 (by decide) ?_
                        exact e_ret0 m_X1_operand dX1_operand_246
                      · refine sw_c (a := ((kA cnt ks) (s_at s))) (b := 78) hN (fun q54 hN => ?_) (fun q54 hN => ?_)
                        · refine e_lookup (t := 159) m_X1_operand dX1_operand_4 (by decide) (by rw [q54]; decide) ?_
                          refine e_aload_n m_X1_operand dX1_operand_159 rfl rfl rfl ?_
                          refine e_cvU (as := []) hN m_X1_operand dX1_operand_160 c_RX1_332 (by decide) rfl rfl (gC_p G.1) rfl (Nat.le_of_ble_eq_true rfl) (Nat.le_of_ble_eq_true rfl) (by omega) (i_X1_paren IH (by omega)) (fun v55 s55 hN => ?_)
                          refine e_goto (t := 246) m_X1_operand dX1_operand_163 (by decide) ?_
                          exact e_ret0 m_X1_operand dX1_operand_246
                        · refine sw_c (a := ((kA cnt ks) (s_at s))) (b := 80) hN (fun q56 hN => ?_) (fun q56 hN => ?_)
                          · refine e_lookup (t := 173) m_X1_operand dX1_operand_4 (by decide) (by rw [q56]; decide) ?_
                            refine e_aload_n m_X1_operand dX1_operand_173 rfl rfl rfl ?_
                            refine e_bipush (v := nI 80) m_X1_operand dX1_operand_174 (by decide) ?_
                            refine e_cvN (as := [.int (nI 80)]) hN m_X1_operand dX1_operand_176 c_RX1_46 (by decide) rfl rfl (gC_p G.1) rfl (Nat.le_of_ble_eq_true rfl) (Nat.le_of_ble_eq_true rfl) (by omega) (t_sees G (by omega)) (fun v57 s57 hN => ?_)
                            refine e_ifeq (t := 195) hN m_X1_operand dX1_operand_179 (by decide) (fun q58 hN => ?_) (fun q58 hN => ?_)
                            · refine e_iconst (v := nI 0) m_X1_operand dX1_operand_195 (by decide) ?_
                              refine e_istore_n m_X1_operand dX1_operand_196 rfl (by decide) rfl ?_
                              refine e_iload_n m_X1_operand dX1_operand_197 rfl rfl ?_
                              refine e_ifT (t := 208) m_X1_operand dX1_operand_198 (by decide) (by decide) ?_
                              refine e_aload_n m_X1_operand dX1_operand_208 rfl rfl rfl ?_
                              refine e_cvU (as := []) hN m_X1_operand dX1_operand_209 c_RX1_103 (by decide) rfl rfl (gC_p G.1) rfl (Nat.le_of_ble_eq_true rfl) (Nat.le_of_ble_eq_true rfl) (by omega) (i_X1_type IH (by omega)) (fun v59 s59 hN => ?_)
                              refine e_iload_n m_X1_operand dX1_operand_212 rfl rfl ?_
                              refine e_ifF (t := 225) m_X1_operand dX1_operand_213 (by decide) (by decide) ?_
                              refine e_aload_n m_X1_operand dX1_operand_216 rfl rfl rfl ?_
                              refine e_bipush (v := nI 82) m_X1_operand dX1_operand_217 (by decide) ?_
                              refine e_cvN (as := [.int (nI 82)]) hN m_X1_operand dX1_operand_219 c_RX1_46 (by decide) rfl rfl (gC_p G.1) rfl (Nat.le_of_ble_eq_true rfl) (Nat.le_of_ble_eq_true rfl) (by omega) (t_sees G (by omega)) (fun v60 s60 hN => ?_)
                              refine e_ifeq (t := 246) hN m_X1_operand dX1_operand_222 (by decide) (fun q61 hN => ?_) (fun q61 hN => ?_)
                              · exact e_ret0 m_X1_operand dX1_operand_246
                              · refine e_aload_n m_X1_operand dX1_operand_225 rfl rfl rfl ?_
                                refine e_bipush (v := nI 91) m_X1_operand dX1_operand_226 (by decide) ?_
                                refine e_iconst (v := nI 1) m_X1_operand dX1_operand_228 (by decide) ?_
                                refine e_cvU (as := [.int (nI 91), .int (nI 1)]) hN m_X1_operand dX1_operand_229 c_RX1_329 (by decide) rfl rfl (gC_p G.1) rfl (Nat.le_of_ble_eq_true rfl) (Nat.le_of_ble_eq_true rfl) (by omega) (i_X1_elements IH (by omega)) (fun v62 s62 hN => ?_)
                                refine e_goto (t := 246) m_X1_operand dX1_operand_232 (by decide) ?_
                                exact e_ret0 m_X1_operand dX1_operand_246
                            · refine e_aload_n m_X1_operand dX1_operand_182 rfl rfl rfl ?_
                              refine e_cvN (as := []) hN m_X1_operand dX1_operand_183 c_RX1_147 (by decide) rfl rfl (gC_p G.1) rfl (Nat.le_of_ble_eq_true rfl) (Nat.le_of_ble_eq_true rfl) (by omega) (t_nextKind G (by omega)) (fun v63 s63 hN => ?_)
                              refine e_bipush (v := nI 77) m_X1_operand dX1_operand_186 (by decide) ?_
                              refine e_ine (t := 195) (a := v63) (b := 77) hN m_X1_operand dX1_operand_188 (by decide) (fun q64 hN => ?_) (fun q64 hN => ?_)
                              · refine e_iconst (v := nI 1) m_X1_operand dX1_operand_191 (by decide) ?_
                                refine e_goto (t := 196) m_X1_operand dX1_operand_192 (by decide) ?_
                                refine e_istore_n m_X1_operand dX1_operand_196 rfl (by decide) rfl ?_
                                refine e_iload_n m_X1_operand dX1_operand_197 rfl rfl ?_
                                refine e_ifF (t := 208) m_X1_operand dX1_operand_198 (by decide) (by decide) ?_
                                refine e_aload_n m_X1_operand dX1_operand_201 rfl rfl rfl ?_
                                refine e_cvU (as := []) hN m_X1_operand dX1_operand_202 c_RX1_338 (by decide) rfl rfl (gC_p G.1) rfl (Nat.le_of_ble_eq_true rfl) (Nat.le_of_ble_eq_true rfl) (by omega) (i_X1_countedArrayType IH (by omega)) (fun v65 s65 hN => ?_)
                                refine e_goto (t := 212) m_X1_operand dX1_operand_205 (by decide) ?_
                                refine e_iload_n m_X1_operand dX1_operand_212 rfl rfl ?_
                                refine e_ifT (t := 225) m_X1_operand dX1_operand_213 (by decide) (by decide) ?_
                                refine e_aload_n m_X1_operand dX1_operand_225 rfl rfl rfl ?_
                                refine e_bipush (v := nI 91) m_X1_operand dX1_operand_226 (by decide) ?_
                                refine e_iconst (v := nI 1) m_X1_operand dX1_operand_228 (by decide) ?_
                                refine e_cvU (as := [.int (nI 91), .int (nI 1)]) hN m_X1_operand dX1_operand_229 c_RX1_329 (by decide) rfl rfl (gC_p G.1) rfl (Nat.le_of_ble_eq_true rfl) (Nat.le_of_ble_eq_true rfl) (by omega) (i_X1_elements IH (by omega)) (fun v66 s66 hN => ?_)
                                refine e_goto (t := 246) m_X1_operand dX1_operand_232 (by decide) ?_
                                exact e_ret0 m_X1_operand dX1_operand_246
                              · refine e_iconst (v := nI 0) m_X1_operand dX1_operand_195 (by decide) ?_
                                refine e_istore_n m_X1_operand dX1_operand_196 rfl (by decide) rfl ?_
                                refine e_iload_n m_X1_operand dX1_operand_197 rfl rfl ?_
                                refine e_ifT (t := 208) m_X1_operand dX1_operand_198 (by decide) (by decide) ?_
                                refine e_aload_n m_X1_operand dX1_operand_208 rfl rfl rfl ?_
                                refine e_cvU (as := []) hN m_X1_operand dX1_operand_209 c_RX1_103 (by decide) rfl rfl (gC_p G.1) rfl (Nat.le_of_ble_eq_true rfl) (Nat.le_of_ble_eq_true rfl) (by omega) (i_X1_type IH (by omega)) (fun v67 s67 hN => ?_)
                                refine e_iload_n m_X1_operand dX1_operand_212 rfl rfl ?_
                                refine e_ifF (t := 225) m_X1_operand dX1_operand_213 (by decide) (by decide) ?_
                                refine e_aload_n m_X1_operand dX1_operand_216 rfl rfl rfl ?_
                                refine e_bipush (v := nI 82) m_X1_operand dX1_operand_217 (by decide) ?_
                                refine e_cvN (as := [.int (nI 82)]) hN m_X1_operand dX1_operand_219 c_RX1_46 (by decide) rfl rfl (gC_p G.1) rfl (Nat.le_of_ble_eq_true rfl) (Nat.le_of_ble_eq_true rfl) (by omega) (t_sees G (by omega)) (fun v68 s68 hN => ?_)
                                refine e_ifeq (t := 246) hN m_X1_operand dX1_operand_222 (by decide) (fun q69 hN => ?_) (fun q69 hN => ?_)
                                · exact e_ret0 m_X1_operand dX1_operand_246
                                · refine e_aload_n m_X1_operand dX1_operand_225 rfl rfl rfl ?_
                                  refine e_bipush (v := nI 91) m_X1_operand dX1_operand_226 (by decide) ?_
                                  refine e_iconst (v := nI 1) m_X1_operand dX1_operand_228 (by decide) ?_
                                  refine e_cvU (as := [.int (nI 91), .int (nI 1)]) hN m_X1_operand dX1_operand_229 c_RX1_329 (by decide) rfl rfl (gC_p G.1) rfl (Nat.le_of_ble_eq_true rfl) (Nat.le_of_ble_eq_true rfl) (by omega) (i_X1_elements IH (by omega)) (fun v70 s70 hN => ?_)
                                  refine e_goto (t := 246) m_X1_operand dX1_operand_232 (by decide) ?_
                                  exact e_ret0 m_X1_operand dX1_operand_246
                          · refine e_lookup (t := 242) m_X1_operand dX1_operand_4 (by decide) (by rw [nI_toInt q1, lk_dflt _ (by intro q hq; simp only [List.mem_cons, List.not_mem_nil, or_false] at hq; rcases hq with rfl | rfl | rfl | rfl | rfl | rfl | rfl | rfl | rfl | rfl | rfl | rfl | rfl <;> (simp only []; omega))]; decide) ?_
                            refine e_aload_n m_X1_operand dX1_operand_242 rfl rfl rfl ?_
                            exact e_cvX (as := []) m_X1_operand dX1_operand_243 c_RX1_54 (by decide) rfl rfl (gC_p G.1) rfl (Nat.le_of_ble_eq_true rfl) (Nat.le_of_ble_eq_true rfl) (by omega) (r_refuse (by omega))

def lp_X1_elements_24 (K : Nat → Nat) (N : Nat) (rc : Nat → Nat → Nat → Ss → Rs Ss) : Nat → Nat → Nat → Nat → Nat → Nat → Ss → Rs Ss
  | 0, _, _, _, _, _, _ => none
  | f + 1, y1, y3, y4, y5, y6, s => ifl y5 16385 (ifz y6 (bn (b_X1_leave K N 83 s) (fun v31 s31 => ck (y3 < 2) (bn (b_X3_put K N y1 y4 y5 (u_ih s31 y3)) (fun v33 s33 => okR 0 s33)))) (bn (q_sees K 83 s) (fun v34 s34 => ifz v34 (bn (rc 38 0 0 s34) (fun v36 s36 => bn (b_X1_accept K N 87 s36) (fun v37 s37 => ifz v37 (ifz v37 (bn (b_X3_put K N 92 (s_at s34) 1 s37) (fun v40 s40 => bn (b_X1_accept K N 84 s40) (fun v41 s41 => lp_X1_elements_24 K N rc f y1 y3 y4 (y5 + 1) v41 s41))) (bn (b_X3_put K N 92 (s_at s34) 2 s37) (fun v42 s42 => bn (b_X1_accept K N 84 s42) (fun v43 s43 => lp_X1_elements_24 K N rc f y1 y3 y4 (y5 + 1) v43 s43)))) (bn (rc 38 0 0 s37) (fun v44 s44 => ifz v37 (bn (b_X3_put K N 92 (s_at s34) 1 s44) (fun v46 s46 => bn (b_X1_accept K N 84 s46) (fun v47 s47 => lp_X1_elements_24 K N rc f y1 y3 y4 (y5 + 1) v47 s47))) (bn (b_X3_put K N 92 (s_at s34) 2 s44) (fun v48 s48 => bn (b_X1_accept K N 84 s48) (fun v49 s49 => lp_X1_elements_24 K N rc f y1 y3 y4 (y5 + 1) v49 s49)))))))) (bn (b_X1_leave K N 83 s34) (fun v50 s50 => ck (y3 < 2) (bn (b_X3_put K N y1 y4 y5 (u_ih s50 y3)) (fun v52 s52 => okR 0 s52))))))) (bn (b_X1_leave K N 83 s) (fun v53 s53 => ck (y3 < 2) (bn (b_X3_put K N y1 y4 y5 (u_ih s53 y3)) (fun v55 s55 => okR 0 s55))))
theorem l_X1_elements_24 {xs : Nat → Int32} {L : Nat} {h0 : mm_H} {a p N cnt : Nat} {ks : Nat → Nat} (G : Cg h0 a p N cnt ks) {n : Nat} {rc : Nat → Nat → Nat → Ss → Rs Ss} (IH : Hr xs L h0 a p N cnt ks n rc) : ∀ (f : Nat) (y1 y3 y4 y5 y6 : Nat) (s : Ss) (d : Nat) (ls : mm_L) (hd : n + 17 ≤ d) (hl0 : mm_lk ls 0 = some (.ref p)) (hl1 : mm_lk ls 1 = some (.int (nI y1))) (hl3 : mm_lk ls 3 = some (.int (nI y3))) (hl4 : mm_lk ls 4 = some (.int (nI y4))) (hl5 : mm_lk ls 5 = some (.int (nI y5))) (hl6 : mm_lk ls 6 = some (.int (nI y6))), lp_X1_elements_24 (kA cnt ks) N rc f y1 y3 y4 y5 y6 s ≠ none → Ev xs L d 37 24 ls [] (TC h0 a p N cnt ks s) 0 0 (ou eU (TC h0 a p N cnt ks) (lp_X1_elements_24 (kA cnt ks) N rc f y1 y3 y4 y5 y6 s)) := by
  intro f
  induction f with
  | zero => intros; rename_i hN; exact absurd rfl hN
  | succ f ih =>
    intro y1 y3 y4 y5 y6 s d ls hd hl0 hl1 hl3 hl4 hl5 hl6 hN
    rw [lp_X1_elements_24] at hN ⊢
    refine e_iload m_X1_elements dX1_elements_24 hl5 ?_
    refine e_sipush (v := nI 16385) m_X1_elements dX1_elements_26 (by decide) ?_
    refine e_ige (t := 108) (a := y5) (b := 16385) hN m_X1_elements dX1_elements_29 (by decide) (fun q29 hN => ?_) (fun q29 hN => ?_)
    · refine e_iload m_X1_elements dX1_elements_32 hl6 ?_
      refine e_ifeq (t := 108) hN m_X1_elements dX1_elements_34 (by decide) (fun q30 hN => ?_) (fun q30 hN => ?_)
      · refine e_aload_n m_X1_elements dX1_elements_108 rfl hl0 rfl ?_
        refine e_bipush (v := nI 83) m_X1_elements dX1_elements_109 (by decide) ?_
        refine e_cvU (as := [.int (nI 83)]) hN m_X1_elements dX1_elements_111 c_RX1_106 (by decide) rfl rfl (gC_p G.1) rfl (Nat.le_of_ble_eq_true rfl) (Nat.le_of_ble_eq_true rfl) (by omega) (w_X1_leave G (by omega)) (fun v31 s31 hN => ?_)
        refine e_aload_n m_X1_elements dX1_elements_114 rfl hl0 rfl ?_
        refine e_iload_n m_X1_elements dX1_elements_115 rfl hl3 ?_
        refine e_ck hN (fun q32 hN => ?_)
        refine e_putf (v := .int (nI y3)) (h' := TC h0 a p N cnt ks (u_ih s31 y3)) m_X1_elements dX1_elements_116 f_RX1_119 (gC_p G.1) (Nat.le_of_ble_eq_true rfl) (fit_z rfl (b01 q32)) rfl (sC_p G.1) ?_
        refine e_aload_n m_X1_elements dX1_elements_119 rfl hl0 rfl ?_
        refine e_getf m_X1_elements dX1_elements_120 f_RX1_17 (gC_p G.1) rfl ?_
        refine e_iload_n m_X1_elements dX1_elements_123 rfl hl1 ?_
        refine e_iload m_X1_elements dX1_elements_124 hl4 ?_
        refine e_iload m_X1_elements dX1_elements_126 hl5 ?_
        refine e_cvU (as := [.int (nI y1), .int (nI y4), .int (nI y5)]) hN m_X1_elements dX1_elements_128 c_RX1_69 (by decide) rfl rfl (gC_r G.1) rfl (Nat.le_of_ble_eq_true rfl) (Nat.le_of_ble_eq_true rfl) (by omega) (w_X3_put G (by omega)) (fun v33 s33 hN => ?_)
        exact e_ret0 m_X1_elements dX1_elements_131
      · refine e_aload_n m_X1_elements dX1_elements_37 rfl hl0 rfl ?_
        refine e_bipush (v := nI 83) m_X1_elements dX1_elements_38 (by decide) ?_
        refine e_cvN (as := [.int (nI 83)]) hN m_X1_elements dX1_elements_40 c_RX1_46 (by decide) rfl rfl (gC_p G.1) rfl (Nat.le_of_ble_eq_true rfl) (Nat.le_of_ble_eq_true rfl) (by omega) (t_sees G (by omega)) (fun v34 s34 hN => ?_)
        refine e_ifne (t := 108) hN m_X1_elements dX1_elements_43 (by decide) (fun q35 hN => ?_) (fun q35 hN => ?_)
        · refine e_aload_n m_X1_elements dX1_elements_46 rfl hl0 rfl ?_
          refine e_getf m_X1_elements dX1_elements_47 f_RX1_43 (gC_p G.1) rfl ?_
          refine e_istore m_X1_elements dX1_elements_50 (by decide) rfl ?_
          refine e_aload_n m_X1_elements dX1_elements_52 rfl (lk_mis (by decide) rfl hl0) rfl ?_
          refine e_cvU (as := []) hN m_X1_elements dX1_elements_53 c_RX1_341 (by decide) rfl rfl (gC_p G.1) rfl (Nat.le_of_ble_eq_true rfl) (Nat.le_of_ble_eq_true rfl) (by omega) (i_X1_value IH (by omega)) (fun v36 s36 hN => ?_)
          refine e_aload_n m_X1_elements dX1_elements_56 rfl (lk_mis (by decide) rfl hl0) rfl ?_
          refine e_bipush (v := nI 87) m_X1_elements dX1_elements_57 (by decide) ?_
          refine e_cvN (as := [.int (nI 87)]) hN m_X1_elements dX1_elements_59 c_RX1_123 (by decide) rfl rfl (gC_p G.1) rfl (Nat.le_of_ble_eq_true rfl) (Nat.le_of_ble_eq_true rfl) (by omega) (w_X1_accept G (by omega)) (fun v37 s37 hN => ?_)
          refine e_istore m_X1_elements dX1_elements_62 (by decide) rfl ?_
          refine e_iload m_X1_elements dX1_elements_64 lk_hit ?_
          refine e_ifeq (t := 73) hN m_X1_elements dX1_elements_66 (by decide) (fun q38 hN => ?_) (fun q38 hN => ?_)
          · refine e_aload_n m_X1_elements dX1_elements_73 rfl (lk_mis (by decide) rfl (lk_mis (by decide) rfl hl0)) rfl ?_
            refine e_getf m_X1_elements dX1_elements_74 f_RX1_17 (gC_p G.1) rfl ?_
            refine e_bipush (v := nI 92) m_X1_elements dX1_elements_77 (by decide) ?_
            refine e_iload m_X1_elements dX1_elements_79 (lk_mis (by decide) rfl lk_hit) ?_
            refine e_iload m_X1_elements dX1_elements_81 lk_hit ?_
            refine e_ifeq (t := 90) hN m_X1_elements dX1_elements_83 (by decide) (fun q39 hN => ?_) (fun q39 hN => ?_)
            · refine e_iconst (v := nI 1) m_X1_elements dX1_elements_90 (by decide) ?_
              refine e_cvU (as := [.int (nI 92), .int (nI (s_at s34)), .int (nI 1)]) hN m_X1_elements dX1_elements_91 c_RX1_69 (by decide) rfl rfl (gC_r G.1) rfl (Nat.le_of_ble_eq_true rfl) (Nat.le_of_ble_eq_true rfl) (by omega) (w_X3_put G (by omega)) (fun v40 s40 hN => ?_)
              refine e_iincN (n := 1) m_X1_elements dX1_elements_94 (by decide) (lk_mis (by decide) rfl (lk_mis (by decide) rfl hl5)) rfl ?_
              refine e_aload_n m_X1_elements dX1_elements_97 rfl (lk_mis (by decide) rfl (lk_mis (by decide) rfl (lk_mis (by decide) rfl hl0))) rfl ?_
              refine e_bipush (v := nI 84) m_X1_elements dX1_elements_98 (by decide) ?_
              refine e_cvN (as := [.int (nI 84)]) hN m_X1_elements dX1_elements_100 c_RX1_123 (by decide) rfl rfl (gC_p G.1) rfl (Nat.le_of_ble_eq_true rfl) (Nat.le_of_ble_eq_true rfl) (by omega) (w_X1_accept G (by omega)) (fun v41 s41 hN => ?_)
              refine e_istore m_X1_elements dX1_elements_103 (by decide) rfl ?_
              refine e_goto (t := 24) m_X1_elements dX1_elements_105 (by decide) ?_
              exact ih y1 y3 y4 (y5 + 1) v41 _ _ _ (by omega) (lk_mis (by decide) rfl (lk_mis (by decide) rfl (lk_mis (by decide) rfl (lk_mis (by decide) rfl hl0)))) (lk_mis (by decide) rfl (lk_mis (by decide) rfl (lk_mis (by decide) rfl (lk_mis (by decide) rfl hl1)))) (lk_mis (by decide) rfl (lk_mis (by decide) rfl (lk_mis (by decide) rfl (lk_mis (by decide) rfl hl3)))) (lk_mis (by decide) rfl (lk_mis (by decide) rfl (lk_mis (by decide) rfl (lk_mis (by decide) rfl hl4)))) (lk_mis (by decide) rfl lk_hit) lk_hit hN
            · refine e_iconst (v := nI 2) m_X1_elements dX1_elements_86 (by decide) ?_
              refine e_goto (t := 91) m_X1_elements dX1_elements_87 (by decide) ?_
              refine e_cvU (as := [.int (nI 92), .int (nI (s_at s34)), .int (nI 2)]) hN m_X1_elements dX1_elements_91 c_RX1_69 (by decide) rfl rfl (gC_r G.1) rfl (Nat.le_of_ble_eq_true rfl) (Nat.le_of_ble_eq_true rfl) (by omega) (w_X3_put G (by omega)) (fun v42 s42 hN => ?_)
              refine e_iincN (n := 1) m_X1_elements dX1_elements_94 (by decide) (lk_mis (by decide) rfl (lk_mis (by decide) rfl hl5)) rfl ?_
              refine e_aload_n m_X1_elements dX1_elements_97 rfl (lk_mis (by decide) rfl (lk_mis (by decide) rfl (lk_mis (by decide) rfl hl0))) rfl ?_
              refine e_bipush (v := nI 84) m_X1_elements dX1_elements_98 (by decide) ?_
              refine e_cvN (as := [.int (nI 84)]) hN m_X1_elements dX1_elements_100 c_RX1_123 (by decide) rfl rfl (gC_p G.1) rfl (Nat.le_of_ble_eq_true rfl) (Nat.le_of_ble_eq_true rfl) (by omega) (w_X1_accept G (by omega)) (fun v43 s43 hN => ?_)
              refine e_istore m_X1_elements dX1_elements_103 (by decide) rfl ?_
              refine e_goto (t := 24) m_X1_elements dX1_elements_105 (by decide) ?_
              exact ih y1 y3 y4 (y5 + 1) v43 _ _ _ (by omega) (lk_mis (by decide) rfl (lk_mis (by decide) rfl (lk_mis (by decide) rfl (lk_mis (by decide) rfl hl0)))) (lk_mis (by decide) rfl (lk_mis (by decide) rfl (lk_mis (by decide) rfl (lk_mis (by decide) rfl hl1)))) (lk_mis (by decide) rfl (lk_mis (by decide) rfl (lk_mis (by decide) rfl (lk_mis (by decide) rfl hl3)))) (lk_mis (by decide) rfl (lk_mis (by decide) rfl (lk_mis (by decide) rfl (lk_mis (by decide) rfl hl4)))) (lk_mis (by decide) rfl lk_hit) lk_hit hN
          · refine e_aload_n m_X1_elements dX1_elements_69 rfl (lk_mis (by decide) rfl (lk_mis (by decide) rfl hl0)) rfl ?_
            refine e_cvU (as := []) hN m_X1_elements dX1_elements_70 c_RX1_341 (by decide) rfl rfl (gC_p G.1) rfl (Nat.le_of_ble_eq_true rfl) (Nat.le_of_ble_eq_true rfl) (by omega) (i_X1_value IH (by omega)) (fun v44 s44 hN => ?_)
            refine e_aload_n m_X1_elements dX1_elements_73 rfl (lk_mis (by decide) rfl (lk_mis (by decide) rfl hl0)) rfl ?_
            refine e_getf m_X1_elements dX1_elements_74 f_RX1_17 (gC_p G.1) rfl ?_
            refine e_bipush (v := nI 92) m_X1_elements dX1_elements_77 (by decide) ?_
            refine e_iload m_X1_elements dX1_elements_79 (lk_mis (by decide) rfl lk_hit) ?_
            refine e_iload m_X1_elements dX1_elements_81 lk_hit ?_
            refine e_ifeq (t := 90) hN m_X1_elements dX1_elements_83 (by decide) (fun q45 hN => ?_) (fun q45 hN => ?_)
            · refine e_iconst (v := nI 1) m_X1_elements dX1_elements_90 (by decide) ?_
              refine e_cvU (as := [.int (nI 92), .int (nI (s_at s34)), .int (nI 1)]) hN m_X1_elements dX1_elements_91 c_RX1_69 (by decide) rfl rfl (gC_r G.1) rfl (Nat.le_of_ble_eq_true rfl) (Nat.le_of_ble_eq_true rfl) (by omega) (w_X3_put G (by omega)) (fun v46 s46 hN => ?_)
              refine e_iincN (n := 1) m_X1_elements dX1_elements_94 (by decide) (lk_mis (by decide) rfl (lk_mis (by decide) rfl hl5)) rfl ?_
              refine e_aload_n m_X1_elements dX1_elements_97 rfl (lk_mis (by decide) rfl (lk_mis (by decide) rfl (lk_mis (by decide) rfl hl0))) rfl ?_
              refine e_bipush (v := nI 84) m_X1_elements dX1_elements_98 (by decide) ?_
              refine e_cvN (as := [.int (nI 84)]) hN m_X1_elements dX1_elements_100 c_RX1_123 (by decide) rfl rfl (gC_p G.1) rfl (Nat.le_of_ble_eq_true rfl) (Nat.le_of_ble_eq_true rfl) (by omega) (w_X1_accept G (by omega)) (fun v47 s47 hN => ?_)
              refine e_istore m_X1_elements dX1_elements_103 (by decide) rfl ?_
              refine e_goto (t := 24) m_X1_elements dX1_elements_105 (by decide) ?_
              exact ih y1 y3 y4 (y5 + 1) v47 _ _ _ (by omega) (lk_mis (by decide) rfl (lk_mis (by decide) rfl (lk_mis (by decide) rfl (lk_mis (by decide) rfl hl0)))) (lk_mis (by decide) rfl (lk_mis (by decide) rfl (lk_mis (by decide) rfl (lk_mis (by decide) rfl hl1)))) (lk_mis (by decide) rfl (lk_mis (by decide) rfl (lk_mis (by decide) rfl (lk_mis (by decide) rfl hl3)))) (lk_mis (by decide) rfl (lk_mis (by decide) rfl (lk_mis (by decide) rfl (lk_mis (by decide) rfl hl4)))) (lk_mis (by decide) rfl lk_hit) lk_hit hN
            · refine e_iconst (v := nI 2) m_X1_elements dX1_elements_86 (by decide) ?_
              refine e_goto (t := 91) m_X1_elements dX1_elements_87 (by decide) ?_
              refine e_cvU (as := [.int (nI 92), .int (nI (s_at s34)), .int (nI 2)]) hN m_X1_elements dX1_elements_91 c_RX1_69 (by decide) rfl rfl (gC_r G.1) rfl (Nat.le_of_ble_eq_true rfl) (Nat.le_of_ble_eq_true rfl) (by omega) (w_X3_put G (by omega)) (fun v48 s48 hN => ?_)
              refine e_iincN (n := 1) m_X1_elements dX1_elements_94 (by decide) (lk_mis (by decide) rfl (lk_mis (by decide) rfl hl5)) rfl ?_
              refine e_aload_n m_X1_elements dX1_elements_97 rfl (lk_mis (by decide) rfl (lk_mis (by decide) rfl (lk_mis (by decide) rfl hl0))) rfl ?_
              refine e_bipush (v := nI 84) m_X1_elements dX1_elements_98 (by decide) ?_
              refine e_cvN (as := [.int (nI 84)]) hN m_X1_elements dX1_elements_100 c_RX1_123 (by decide) rfl rfl (gC_p G.1) rfl (Nat.le_of_ble_eq_true rfl) (Nat.le_of_ble_eq_true rfl) (by omega) (w_X1_accept G (by omega)) (fun v49 s49 hN => ?_)
              refine e_istore m_X1_elements dX1_elements_103 (by decide) rfl ?_
              refine e_goto (t := 24) m_X1_elements dX1_elements_105 (by decide) ?_
              exact ih y1 y3 y4 (y5 + 1) v49 _ _ _ (by omega) (lk_mis (by decide) rfl (lk_mis (by decide) rfl (lk_mis (by decide) rfl (lk_mis (by decide) rfl hl0)))) (lk_mis (by decide) rfl (lk_mis (by decide) rfl (lk_mis (by decide) rfl (lk_mis (by decide) rfl hl1)))) (lk_mis (by decide) rfl (lk_mis (by decide) rfl (lk_mis (by decide) rfl (lk_mis (by decide) rfl hl3)))) (lk_mis (by decide) rfl (lk_mis (by decide) rfl (lk_mis (by decide) rfl (lk_mis (by decide) rfl hl4)))) (lk_mis (by decide) rfl lk_hit) lk_hit hN
        · refine e_aload_n m_X1_elements dX1_elements_108 rfl hl0 rfl ?_
          refine e_bipush (v := nI 83) m_X1_elements dX1_elements_109 (by decide) ?_
          refine e_cvU (as := [.int (nI 83)]) hN m_X1_elements dX1_elements_111 c_RX1_106 (by decide) rfl rfl (gC_p G.1) rfl (Nat.le_of_ble_eq_true rfl) (Nat.le_of_ble_eq_true rfl) (by omega) (w_X1_leave G (by omega)) (fun v50 s50 hN => ?_)
          refine e_aload_n m_X1_elements dX1_elements_114 rfl hl0 rfl ?_
          refine e_iload_n m_X1_elements dX1_elements_115 rfl hl3 ?_
          refine e_ck hN (fun q51 hN => ?_)
          refine e_putf (v := .int (nI y3)) (h' := TC h0 a p N cnt ks (u_ih s50 y3)) m_X1_elements dX1_elements_116 f_RX1_119 (gC_p G.1) (Nat.le_of_ble_eq_true rfl) (fit_z rfl (b01 q51)) rfl (sC_p G.1) ?_
          refine e_aload_n m_X1_elements dX1_elements_119 rfl hl0 rfl ?_
          refine e_getf m_X1_elements dX1_elements_120 f_RX1_17 (gC_p G.1) rfl ?_
          refine e_iload_n m_X1_elements dX1_elements_123 rfl hl1 ?_
          refine e_iload m_X1_elements dX1_elements_124 hl4 ?_
          refine e_iload m_X1_elements dX1_elements_126 hl5 ?_
          refine e_cvU (as := [.int (nI y1), .int (nI y4), .int (nI y5)]) hN m_X1_elements dX1_elements_128 c_RX1_69 (by decide) rfl rfl (gC_r G.1) rfl (Nat.le_of_ble_eq_true rfl) (Nat.le_of_ble_eq_true rfl) (by omega) (w_X3_put G (by omega)) (fun v52 s52 hN => ?_)
          exact e_ret0 m_X1_elements dX1_elements_131
    · refine e_aload_n m_X1_elements dX1_elements_108 rfl hl0 rfl ?_
      refine e_bipush (v := nI 83) m_X1_elements dX1_elements_109 (by decide) ?_
      refine e_cvU (as := [.int (nI 83)]) hN m_X1_elements dX1_elements_111 c_RX1_106 (by decide) rfl rfl (gC_p G.1) rfl (Nat.le_of_ble_eq_true rfl) (Nat.le_of_ble_eq_true rfl) (by omega) (w_X1_leave G (by omega)) (fun v53 s53 hN => ?_)
      refine e_aload_n m_X1_elements dX1_elements_114 rfl hl0 rfl ?_
      refine e_iload_n m_X1_elements dX1_elements_115 rfl hl3 ?_
      refine e_ck hN (fun q54 hN => ?_)
      refine e_putf (v := .int (nI y3)) (h' := TC h0 a p N cnt ks (u_ih s53 y3)) m_X1_elements dX1_elements_116 f_RX1_119 (gC_p G.1) (Nat.le_of_ble_eq_true rfl) (fit_z rfl (b01 q54)) rfl (sC_p G.1) ?_
      refine e_aload_n m_X1_elements dX1_elements_119 rfl hl0 rfl ?_
      refine e_getf m_X1_elements dX1_elements_120 f_RX1_17 (gC_p G.1) rfl ?_
      refine e_iload_n m_X1_elements dX1_elements_123 rfl hl1 ?_
      refine e_iload m_X1_elements dX1_elements_124 hl4 ?_
      refine e_iload m_X1_elements dX1_elements_126 hl5 ?_
      refine e_cvU (as := [.int (nI y1), .int (nI y4), .int (nI y5)]) hN m_X1_elements dX1_elements_128 c_RX1_69 (by decide) rfl rfl (gC_r G.1) rfl (Nat.le_of_ble_eq_true rfl) (Nat.le_of_ble_eq_true rfl) (by omega) (w_X3_put G (by omega)) (fun v55 s55 hN => ?_)
      exact e_ret0 m_X1_elements dX1_elements_131
def b_X1_elements (K : Nat → Nat) (N : Nat) (rc : Nat → Nat → Nat → Ss → Rs Ss) (x1 : Nat) (x2 : Nat) (s : Ss) : Rs Ss := bn (b_X1_enter K N 82 s) (fun v1 s1 => lp_X1_elements_24 K N rc LF x1 (s_ih s) v1 x2 1 (u_ih s1 0))
theorem w_X1_elements {xs : Nat → Int32} {L : Nat} {h0 : mm_H} {a p N cnt : Nat} {ks : Nat → Nat} (G : Cg h0 a p N cnt ks) {n : Nat} {rc : Nat → Nat → Nat → Ss → Rs Ss} (IH : Hr xs L h0 a p N cnt ks n rc) {x1 : Nat} {x2 : Nat} {s : Ss} {d : Nat} (hd : n + 17 ≤ d) (hN : b_X1_elements (kA cnt ks) N rc x1 x2 s ≠ none) : Rn xs L d 37 [.ref p, .int (nI x1), .int (nI x2)] (TC h0 a p N cnt ks s) (ou eU (TC h0 a p N cnt ks) (b_X1_elements (kA cnt ks) N rc x1 x2 s)) := by
  unfold Rn
  unfold b_X1_elements at hN ⊢
  refine e_aload_n m_X1_elements dX1_elements_0 rfl rfl rfl ?_
  refine e_getf m_X1_elements dX1_elements_1 f_RX1_119 (gC_p G.1) rfl ?_
  refine e_istore_n m_X1_elements dX1_elements_4 rfl (by decide) rfl ?_
  refine e_aload_n m_X1_elements dX1_elements_5 rfl rfl rfl ?_
  refine e_bipush (v := nI 82) m_X1_elements dX1_elements_6 (by decide) ?_
  refine e_cvN (as := [.int (nI 82)]) hN m_X1_elements dX1_elements_8 c_RX1_100 (by decide) rfl rfl (gC_p G.1) rfl (Nat.le_of_ble_eq_true rfl) (Nat.le_of_ble_eq_true rfl) (by omega) (w_X1_enter G (by omega)) (fun v1 s1 hN => ?_)
  refine e_istore m_X1_elements dX1_elements_11 (by decide) rfl ?_
  refine e_aload_n m_X1_elements dX1_elements_13 rfl rfl rfl ?_
  refine e_iconst (v := nI 0) m_X1_elements dX1_elements_14 (by decide) ?_
  refine e_putf (v := .int (nI 0)) (h' := TC h0 a p N cnt ks (u_ih s1 0)) m_X1_elements dX1_elements_15 f_RX1_119 (gC_p G.1) (Nat.le_of_ble_eq_true rfl) (fit_z rfl (by decide)) rfl (sC_p G.1) ?_
  refine e_iload_n m_X1_elements dX1_elements_18 rfl rfl ?_
  refine e_istore m_X1_elements dX1_elements_19 (by decide) rfl ?_
  refine e_iconst (v := nI 1) m_X1_elements dX1_elements_21 (by decide) ?_
  refine e_istore m_X1_elements dX1_elements_22 (by decide) rfl ?_
  exact l_X1_elements_24 G IH LF x1 (s_ih s) v1 x2 1 _ _ _ (by omega) rfl rfl rfl rfl rfl rfl hN

def b_X1_value (K : Nat → Nat) (N : Nat) (rc : Nat → Nat → Nat → Ss → Rs Ss) (s : Ss) : Rs Ss := bn (q_sees K 82 s) (fun v1 s1 => ifz v1 (bn (rc 29 0 0 s1) (fun v3 s3 => okR 0 s3)) (bn (rc 37 93 0 s1) (fun v4 s4 => okR 0 s4)))
theorem w_X1_value {xs : Nat → Int32} {L : Nat} {h0 : mm_H} {a p N cnt : Nat} {ks : Nat → Nat} (G : Cg h0 a p N cnt ks) {n : Nat} {rc : Nat → Nat → Nat → Ss → Rs Ss} (IH : Hr xs L h0 a p N cnt ks n rc) {s : Ss} {d : Nat} (hd : n + 17 ≤ d) (hN : b_X1_value (kA cnt ks) N rc s ≠ none) : Rn xs L d 38 [.ref p] (TC h0 a p N cnt ks s) (ou eU (TC h0 a p N cnt ks) (b_X1_value (kA cnt ks) N rc s)) := by
  unfold Rn
  unfold b_X1_value at hN ⊢
  refine e_aload_n m_X1_value dX1_value_0 rfl rfl rfl ?_
  refine e_bipush (v := nI 82) m_X1_value dX1_value_1 (by decide) ?_
  refine e_cvN (as := [.int (nI 82)]) hN m_X1_value dX1_value_3 c_RX1_46 (by decide) rfl rfl (gC_p G.1) rfl (Nat.le_of_ble_eq_true rfl) (Nat.le_of_ble_eq_true rfl) (by omega) (t_sees G (by omega)) (fun v1 s1 hN => ?_)
  refine e_ifeq (t := 19) hN m_X1_value dX1_value_6 (by decide) (fun q2 hN => ?_) (fun q2 hN => ?_)
  · refine e_aload_n m_X1_value dX1_value_19 rfl rfl rfl ?_
    refine e_iconst (v := nI 0) m_X1_value dX1_value_20 (by decide) ?_
    refine e_cvU (as := [.int (nI 0)]) hN m_X1_value dX1_value_21 c_RX1_181 (by decide) rfl rfl (gC_p G.1) rfl (Nat.le_of_ble_eq_true rfl) (Nat.le_of_ble_eq_true rfl) (by omega) (i_X1_expr IH (by omega)) (fun v3 s3 hN => ?_)
    exact e_ret0 m_X1_value dX1_value_24
  · refine e_aload_n m_X1_value dX1_value_9 rfl rfl rfl ?_
    refine e_bipush (v := nI 93) m_X1_value dX1_value_10 (by decide) ?_
    refine e_iconst (v := nI 0) m_X1_value dX1_value_12 (by decide) ?_
    refine e_cvU (as := [.int (nI 93), .int (nI 0)]) hN m_X1_value dX1_value_13 c_RX1_329 (by decide) rfl rfl (gC_p G.1) rfl (Nat.le_of_ble_eq_true rfl) (Nat.le_of_ble_eq_true rfl) (by omega) (i_X1_elements IH (by omega)) (fun v4 s4 hN => ?_)
    refine e_goto (t := 24) m_X1_value dX1_value_16 (by decide) ?_
    exact e_ret0 m_X1_value dX1_value_24

def b_X1_paren (K : Nat → Nat) (N : Nat) (rc : Nat → Nat → Nat → Ss → Rs Ss) (s : Ss) : Rs Ss := bn (b_X1_enter K N 78 s) (fun v1 s1 => bn (rc 29 0 0 (u_ih s1 0)) (fun v2 s2 => bn (b_X1_leave K N 79 s2) (fun v3 s3 => ck ((s_ih s) < 2) (bn (b_X3_put K N 89 v1 1 (u_ih s3 (s_ih s))) (fun v5 s5 => okR 0 s5)))))
theorem w_X1_paren {xs : Nat → Int32} {L : Nat} {h0 : mm_H} {a p N cnt : Nat} {ks : Nat → Nat} (G : Cg h0 a p N cnt ks) {n : Nat} {rc : Nat → Nat → Nat → Ss → Rs Ss} (IH : Hr xs L h0 a p N cnt ks n rc) {s : Ss} {d : Nat} (hd : n + 17 ≤ d) (hN : b_X1_paren (kA cnt ks) N rc s ≠ none) : Rn xs L d 42 [.ref p] (TC h0 a p N cnt ks s) (ou eU (TC h0 a p N cnt ks) (b_X1_paren (kA cnt ks) N rc s)) := by
  unfold Rn
  unfold b_X1_paren at hN ⊢
  refine e_aload_n m_X1_paren dX1_paren_0 rfl rfl rfl ?_
  refine e_getf m_X1_paren dX1_paren_1 f_RX1_119 (gC_p G.1) rfl ?_
  refine e_istore_n m_X1_paren dX1_paren_4 rfl (by decide) rfl ?_
  refine e_aload_n m_X1_paren dX1_paren_5 rfl rfl rfl ?_
  refine e_bipush (v := nI 78) m_X1_paren dX1_paren_6 (by decide) ?_
  refine e_cvN (as := [.int (nI 78)]) hN m_X1_paren dX1_paren_8 c_RX1_100 (by decide) rfl rfl (gC_p G.1) rfl (Nat.le_of_ble_eq_true rfl) (Nat.le_of_ble_eq_true rfl) (by omega) (w_X1_enter G (by omega)) (fun v1 s1 hN => ?_)
  refine e_istore_n m_X1_paren dX1_paren_11 rfl (by decide) rfl ?_
  refine e_aload_n m_X1_paren dX1_paren_12 rfl rfl rfl ?_
  refine e_iconst (v := nI 0) m_X1_paren dX1_paren_13 (by decide) ?_
  refine e_putf (v := .int (nI 0)) (h' := TC h0 a p N cnt ks (u_ih s1 0)) m_X1_paren dX1_paren_14 f_RX1_119 (gC_p G.1) (Nat.le_of_ble_eq_true rfl) (fit_z rfl (by decide)) rfl (sC_p G.1) ?_
  refine e_aload_n m_X1_paren dX1_paren_17 rfl rfl rfl ?_
  refine e_iconst (v := nI 0) m_X1_paren dX1_paren_18 (by decide) ?_
  refine e_cvU (as := [.int (nI 0)]) hN m_X1_paren dX1_paren_19 c_RX1_181 (by decide) rfl rfl (gC_p G.1) rfl (Nat.le_of_ble_eq_true rfl) (Nat.le_of_ble_eq_true rfl) (by omega) (i_X1_expr IH (by omega)) (fun v2 s2 hN => ?_)
  refine e_aload_n m_X1_paren dX1_paren_22 rfl rfl rfl ?_
  refine e_bipush (v := nI 79) m_X1_paren dX1_paren_23 (by decide) ?_
  refine e_cvU (as := [.int (nI 79)]) hN m_X1_paren dX1_paren_25 c_RX1_106 (by decide) rfl rfl (gC_p G.1) rfl (Nat.le_of_ble_eq_true rfl) (Nat.le_of_ble_eq_true rfl) (by omega) (w_X1_leave G (by omega)) (fun v3 s3 hN => ?_)
  refine e_aload_n m_X1_paren dX1_paren_28 rfl rfl rfl ?_
  refine e_iload_n m_X1_paren dX1_paren_29 rfl rfl ?_
  refine e_ck hN (fun q4 hN => ?_)
  refine e_putf (v := .int (nI (s_ih s))) (h' := TC h0 a p N cnt ks (u_ih s3 (s_ih s))) m_X1_paren dX1_paren_30 f_RX1_119 (gC_p G.1) (Nat.le_of_ble_eq_true rfl) (fit_z rfl (b01 q4)) rfl (sC_p G.1) ?_
  refine e_aload_n m_X1_paren dX1_paren_33 rfl rfl rfl ?_
  refine e_getf m_X1_paren dX1_paren_34 f_RX1_17 (gC_p G.1) rfl ?_
  refine e_bipush (v := nI 89) m_X1_paren dX1_paren_37 (by decide) ?_
  refine e_iload_n m_X1_paren dX1_paren_39 rfl rfl ?_
  refine e_iconst (v := nI 1) m_X1_paren dX1_paren_40 (by decide) ?_
  refine e_cvU (as := [.int (nI 89), .int (nI v1), .int (nI 1)]) hN m_X1_paren dX1_paren_41 c_RX1_69 (by decide) rfl rfl (gC_r G.1) rfl (Nat.le_of_ble_eq_true rfl) (Nat.le_of_ble_eq_true rfl) (by omega) (w_X3_put G (by omega)) (fun v5 s5 hN => ?_)
  exact e_ret0 m_X1_paren dX1_paren_44

def b_X1_functionOrType (K : Nat → Nat) (N : Nat) (rc : Nat → Nat → Nat → Ss → Rs Ss) (s : Ss) : Rs Ss := bn (b_X1_openPart K N  s) (fun v1 s1 => bn (q_take s1) (fun v2 s2 => bn (rc 44 0 0 s2) (fun v3 s3 => bn (q_sees K 82 s3) (fun v4 s4 => ifz v4 (bn (b_X3_put K N 29 v2 1 s4) (fun v6 s6 => bn (b_X1_closePart K N  s6) (fun v7 s7 => okR 0 s7))) (bn (rc 47 0 0 s4) (fun v8 s8 => bn (b_X3_put K N 90 v2 2 s8) (fun v9 s9 => bn (b_X1_closePart K N  s9) (fun v10 s10 => okR 0 s10))))))))
theorem w_X1_functionOrType {xs : Nat → Int32} {L : Nat} {h0 : mm_H} {a p N cnt : Nat} {ks : Nat → Nat} (G : Cg h0 a p N cnt ks) {n : Nat} {rc : Nat → Nat → Nat → Ss → Rs Ss} (IH : Hr xs L h0 a p N cnt ks n rc) {s : Ss} {d : Nat} (hd : n + 17 ≤ d) (hN : b_X1_functionOrType (kA cnt ks) N rc s ≠ none) : Rn xs L d 43 [.ref p] (TC h0 a p N cnt ks s) (ou eU (TC h0 a p N cnt ks) (b_X1_functionOrType (kA cnt ks) N rc s)) := by
  unfold Rn
  unfold b_X1_functionOrType at hN ⊢
  refine e_aload_n m_X1_functionOrType dX1_functionOrType_0 rfl rfl rfl ?_
  refine e_cvU (as := []) hN m_X1_functionOrType dX1_functionOrType_1 c_RX1_60 (by decide) rfl rfl (gC_p G.1) rfl (Nat.le_of_ble_eq_true rfl) (Nat.le_of_ble_eq_true rfl) (by omega) (w_X1_openPart G (by omega)) (fun v1 s1 hN => ?_)
  refine e_aload_n m_X1_functionOrType dX1_functionOrType_4 rfl rfl rfl ?_
  refine e_cvN (as := []) hN m_X1_functionOrType dX1_functionOrType_5 c_RX1_50 (by decide) rfl rfl (gC_p G.1) rfl (Nat.le_of_ble_eq_true rfl) (Nat.le_of_ble_eq_true rfl) (by omega) (t_take G (by omega)) (fun v2 s2 hN => ?_)
  refine e_istore_n m_X1_functionOrType dX1_functionOrType_8 rfl (by decide) rfl ?_
  refine e_aload_n m_X1_functionOrType dX1_functionOrType_9 rfl rfl rfl ?_
  refine e_cvU (as := []) hN m_X1_functionOrType dX1_functionOrType_10 c_RX1_94 (by decide) rfl rfl (gC_p G.1) rfl (Nat.le_of_ble_eq_true rfl) (Nat.le_of_ble_eq_true rfl) (by omega) (i_X1_signature IH (by omega)) (fun v3 s3 hN => ?_)
  refine e_aload_n m_X1_functionOrType dX1_functionOrType_13 rfl rfl rfl ?_
  refine e_bipush (v := nI 82) m_X1_functionOrType dX1_functionOrType_14 (by decide) ?_
  refine e_cvN (as := [.int (nI 82)]) hN m_X1_functionOrType dX1_functionOrType_16 c_RX1_46 (by decide) rfl rfl (gC_p G.1) rfl (Nat.le_of_ble_eq_true rfl) (Nat.le_of_ble_eq_true rfl) (by omega) (t_sees G (by omega)) (fun v4 s4 hN => ?_)
  refine e_ifeq (t := 40) hN m_X1_functionOrType dX1_functionOrType_19 (by decide) (fun q5 hN => ?_) (fun q5 hN => ?_)
  · refine e_aload_n m_X1_functionOrType dX1_functionOrType_40 rfl rfl rfl ?_
    refine e_getf m_X1_functionOrType dX1_functionOrType_41 f_RX1_17 (gC_p G.1) rfl ?_
    refine e_bipush (v := nI 29) m_X1_functionOrType dX1_functionOrType_44 (by decide) ?_
    refine e_iload_n m_X1_functionOrType dX1_functionOrType_46 rfl rfl ?_
    refine e_iconst (v := nI 1) m_X1_functionOrType dX1_functionOrType_47 (by decide) ?_
    refine e_cvU (as := [.int (nI 29), .int (nI v2), .int (nI 1)]) hN m_X1_functionOrType dX1_functionOrType_48 c_RX1_69 (by decide) rfl rfl (gC_r G.1) rfl (Nat.le_of_ble_eq_true rfl) (Nat.le_of_ble_eq_true rfl) (by omega) (w_X3_put G (by omega)) (fun v6 s6 hN => ?_)
    refine e_aload_n m_X1_functionOrType dX1_functionOrType_51 rfl rfl rfl ?_
    refine e_cvU (as := []) hN m_X1_functionOrType dX1_functionOrType_52 c_RX1_66 (by decide) rfl rfl (gC_p G.1) rfl (Nat.le_of_ble_eq_true rfl) (Nat.le_of_ble_eq_true rfl) (by omega) (w_X1_closePart G (by omega)) (fun v7 s7 hN => ?_)
    exact e_ret0 m_X1_functionOrType dX1_functionOrType_55
  · refine e_aload_n m_X1_functionOrType dX1_functionOrType_22 rfl rfl rfl ?_
    refine e_cvU (as := []) hN m_X1_functionOrType dX1_functionOrType_23 c_RX1_97 (by decide) rfl rfl (gC_p G.1) rfl (Nat.le_of_ble_eq_true rfl) (Nat.le_of_ble_eq_true rfl) (by omega) (i_X1_block IH (by omega)) (fun v8 s8 hN => ?_)
    refine e_aload_n m_X1_functionOrType dX1_functionOrType_26 rfl rfl rfl ?_
    refine e_getf m_X1_functionOrType dX1_functionOrType_27 f_RX1_17 (gC_p G.1) rfl ?_
    refine e_bipush (v := nI 90) m_X1_functionOrType dX1_functionOrType_30 (by decide) ?_
    refine e_iload_n m_X1_functionOrType dX1_functionOrType_32 rfl rfl ?_
    refine e_iconst (v := nI 2) m_X1_functionOrType dX1_functionOrType_33 (by decide) ?_
    refine e_cvU (as := [.int (nI 90), .int (nI v2), .int (nI 2)]) hN m_X1_functionOrType dX1_functionOrType_34 c_RX1_69 (by decide) rfl rfl (gC_r G.1) rfl (Nat.le_of_ble_eq_true rfl) (Nat.le_of_ble_eq_true rfl) (by omega) (w_X3_put G (by omega)) (fun v9 s9 hN => ?_)
    refine e_goto (t := 51) m_X1_functionOrType dX1_functionOrType_37 (by decide) ?_
    refine e_aload_n m_X1_functionOrType dX1_functionOrType_51 rfl rfl rfl ?_
    refine e_cvU (as := []) hN m_X1_functionOrType dX1_functionOrType_52 c_RX1_66 (by decide) rfl rfl (gC_p G.1) rfl (Nat.le_of_ble_eq_true rfl) (Nat.le_of_ble_eq_true rfl) (by omega) (w_X1_closePart G (by omega)) (fun v10 s10 hN => ?_)
    exact e_ret0 m_X1_functionOrType dX1_functionOrType_55

def b_X1_signature (K : Nat → Nat) (N : Nat) (rc : Nat → Nat → Nat → Ss → Rs Ss) (s : Ss) : Rs Ss := bn (rc 45 0 0 s) (fun v1 s1 => bn (q_sees K 78 s1) (fun v2 s2 => ifz v2 (bn (q_sees K 64 s2) (fun v4 s4 => ifz v4 (ck ((K (s_at s4)) < 2147483648) (ifz (f_X0_beginsType (K (s_at s4))) (bn (b_X3_put K N 14 (s_at s) 1 s4) (fun v8 s8 => okR 0 s8)) (bn (rc 26 0 0 s4) (fun v9 s9 => bn (b_X3_put K N 14 (s_at s) 2 s9) (fun v10 s10 => okR 0 s10))))) (bn (b_X3_put K N 14 (s_at s) 1 s4) (fun v11 s11 => okR 0 s11)))) (bn (rc 45 0 0 s2) (fun v12 s12 => bn (b_X3_put K N 14 (s_at s) 2 s12) (fun v13 s13 => okR 0 s13)))))
theorem w_X1_signature {xs : Nat → Int32} {L : Nat} {h0 : mm_H} {a p N cnt : Nat} {ks : Nat → Nat} (G : Cg h0 a p N cnt ks) {n : Nat} {rc : Nat → Nat → Nat → Ss → Rs Ss} (IH : Hr xs L h0 a p N cnt ks n rc) {s : Ss} {d : Nat} (hd : n + 17 ≤ d) (hN : b_X1_signature (kA cnt ks) N rc s ≠ none) : Rn xs L d 44 [.ref p] (TC h0 a p N cnt ks s) (ou eU (TC h0 a p N cnt ks) (b_X1_signature (kA cnt ks) N rc s)) := by
  unfold Rn
  unfold b_X1_signature at hN ⊢
  refine e_aload_n m_X1_signature dX1_signature_0 rfl rfl rfl ?_
  refine e_getf m_X1_signature dX1_signature_1 f_RX1_43 (gC_p G.1) rfl ?_
  refine e_istore_n m_X1_signature dX1_signature_4 rfl (by decide) rfl ?_
  refine e_aload_n m_X1_signature dX1_signature_5 rfl rfl rfl ?_
  refine e_cvU (as := []) hN m_X1_signature dX1_signature_6 c_RX1_144 (by decide) rfl rfl (gC_p G.1) rfl (Nat.le_of_ble_eq_true rfl) (Nat.le_of_ble_eq_true rfl) (by omega) (i_X1_params IH (by omega)) (fun v1 s1 hN => ?_)
  refine e_iconst (v := nI 1) m_X1_signature dX1_signature_9 (by decide) ?_
  refine e_istore_n m_X1_signature dX1_signature_10 rfl (by decide) rfl ?_
  refine e_aload_n m_X1_signature dX1_signature_11 rfl rfl rfl ?_
  refine e_bipush (v := nI 78) m_X1_signature dX1_signature_12 (by decide) ?_
  refine e_cvN (as := [.int (nI 78)]) hN m_X1_signature dX1_signature_14 c_RX1_46 (by decide) rfl rfl (gC_p G.1) rfl (Nat.le_of_ble_eq_true rfl) (Nat.le_of_ble_eq_true rfl) (by omega) (t_sees G (by omega)) (fun v2 s2 hN => ?_)
  refine e_ifeq (t := 30) hN m_X1_signature dX1_signature_17 (by decide) (fun q3 hN => ?_) (fun q3 hN => ?_)
  · refine e_aload_n m_X1_signature dX1_signature_30 rfl rfl rfl ?_
    refine e_bipush (v := nI 64) m_X1_signature dX1_signature_31 (by decide) ?_
    refine e_cvN (as := [.int (nI 64)]) hN m_X1_signature dX1_signature_33 c_RX1_46 (by decide) rfl rfl (gC_p G.1) rfl (Nat.le_of_ble_eq_true rfl) (Nat.le_of_ble_eq_true rfl) (by omega) (t_sees G (by omega)) (fun v4 s4 hN => ?_)
    refine e_ifne (t := 56) hN m_X1_signature dX1_signature_36 (by decide) (fun q5 hN => ?_) (fun q5 hN => ?_)
    · refine e_aload_n m_X1_signature dX1_signature_39 rfl rfl rfl ?_
      refine e_getf m_X1_signature dX1_signature_40 f_RX1_33 (gC_p G.1) rfl ?_
      refine e_ck hN (fun q6 hN => ?_)
      refine e_cs (as := [_]) m_X1_signature dX1_signature_43 c_RX1_138 (by decide) rfl rfl (Nat.le_of_ble_eq_true rfl) (Nat.le_of_ble_eq_true rfl) (by omega) (z_X0_beginsType q6 (by omega)) ?_
      refine e_ifeq (t := 56) hN m_X1_signature dX1_signature_46 (by decide) (fun q7 hN => ?_) (fun q7 hN => ?_)
      · refine e_aload_n m_X1_signature dX1_signature_56 rfl rfl rfl ?_
        refine e_getf m_X1_signature dX1_signature_57 f_RX1_17 (gC_p G.1) rfl ?_
        refine e_bipush (v := nI 14) m_X1_signature dX1_signature_60 (by decide) ?_
        refine e_iload_n m_X1_signature dX1_signature_62 rfl rfl ?_
        refine e_iload_n m_X1_signature dX1_signature_63 rfl rfl ?_
        refine e_cvU (as := [.int (nI 14), .int (nI (s_at s)), .int (nI 1)]) hN m_X1_signature dX1_signature_64 c_RX1_69 (by decide) rfl rfl (gC_r G.1) rfl (Nat.le_of_ble_eq_true rfl) (Nat.le_of_ble_eq_true rfl) (by omega) (w_X3_put G (by omega)) (fun v8 s8 hN => ?_)
        exact e_ret0 m_X1_signature dX1_signature_67
      · refine e_aload_n m_X1_signature dX1_signature_49 rfl rfl rfl ?_
        refine e_cvU (as := []) hN m_X1_signature dX1_signature_50 c_RX1_103 (by decide) rfl rfl (gC_p G.1) rfl (Nat.le_of_ble_eq_true rfl) (Nat.le_of_ble_eq_true rfl) (by omega) (i_X1_type IH (by omega)) (fun v9 s9 hN => ?_)
        refine e_iincN (n := 1) m_X1_signature dX1_signature_53 (by decide) rfl rfl ?_
        refine e_aload_n m_X1_signature dX1_signature_56 rfl rfl rfl ?_
        refine e_getf m_X1_signature dX1_signature_57 f_RX1_17 (gC_p G.1) rfl ?_
        refine e_bipush (v := nI 14) m_X1_signature dX1_signature_60 (by decide) ?_
        refine e_iload_n m_X1_signature dX1_signature_62 rfl rfl ?_
        refine e_iload_n m_X1_signature dX1_signature_63 rfl rfl ?_
        refine e_cvU (as := [.int (nI 14), .int (nI (s_at s)), .int (nI 2)]) hN m_X1_signature dX1_signature_64 c_RX1_69 (by decide) rfl rfl (gC_r G.1) rfl (Nat.le_of_ble_eq_true rfl) (Nat.le_of_ble_eq_true rfl) (by omega) (w_X3_put G (by omega)) (fun v10 s10 hN => ?_)
        exact e_ret0 m_X1_signature dX1_signature_67
    · refine e_aload_n m_X1_signature dX1_signature_56 rfl rfl rfl ?_
      refine e_getf m_X1_signature dX1_signature_57 f_RX1_17 (gC_p G.1) rfl ?_
      refine e_bipush (v := nI 14) m_X1_signature dX1_signature_60 (by decide) ?_
      refine e_iload_n m_X1_signature dX1_signature_62 rfl rfl ?_
      refine e_iload_n m_X1_signature dX1_signature_63 rfl rfl ?_
      refine e_cvU (as := [.int (nI 14), .int (nI (s_at s)), .int (nI 1)]) hN m_X1_signature dX1_signature_64 c_RX1_69 (by decide) rfl rfl (gC_r G.1) rfl (Nat.le_of_ble_eq_true rfl) (Nat.le_of_ble_eq_true rfl) (by omega) (w_X3_put G (by omega)) (fun v11 s11 hN => ?_)
      exact e_ret0 m_X1_signature dX1_signature_67
  · refine e_aload_n m_X1_signature dX1_signature_20 rfl rfl rfl ?_
    refine e_cvU (as := []) hN m_X1_signature dX1_signature_21 c_RX1_144 (by decide) rfl rfl (gC_p G.1) rfl (Nat.le_of_ble_eq_true rfl) (Nat.le_of_ble_eq_true rfl) (by omega) (i_X1_params IH (by omega)) (fun v12 s12 hN => ?_)
    refine e_iincN (n := 1) m_X1_signature dX1_signature_24 (by decide) rfl rfl ?_
    refine e_goto (t := 56) m_X1_signature dX1_signature_27 (by decide) ?_
    refine e_aload_n m_X1_signature dX1_signature_56 rfl rfl rfl ?_
    refine e_getf m_X1_signature dX1_signature_57 f_RX1_17 (gC_p G.1) rfl ?_
    refine e_bipush (v := nI 14) m_X1_signature dX1_signature_60 (by decide) ?_
    refine e_iload_n m_X1_signature dX1_signature_62 rfl rfl ?_
    refine e_iload_n m_X1_signature dX1_signature_63 rfl rfl ?_
    refine e_cvU (as := [.int (nI 14), .int (nI (s_at s)), .int (nI 2)]) hN m_X1_signature dX1_signature_64 c_RX1_69 (by decide) rfl rfl (gC_r G.1) rfl (Nat.le_of_ble_eq_true rfl) (Nat.le_of_ble_eq_true rfl) (by omega) (w_X3_put G (by omega)) (fun v13 s13 hN => ?_)
    exact e_ret0 m_X1_signature dX1_signature_67

def lp_X1_params_17 (K : Nat → Nat) (N : Nat) (rc : Nat → Nat → Nat → Ss → Rs Ss) : Nat → Nat → Nat → Nat → Nat → Nat → Ss → Rs Ss
  | 0, _, _, _, _, _, _ => none
  | f + 1, y1, y2, y3, y4, y5, s => ifl y4 16385 (ifz y5 (ife y2 1 (ifz y3 (bn (b_X1_leave K N 79 s) (fun v57 s57 => bn (b_X3_put K N 15 y1 y4 s57) (fun v58 s58 => okR 0 s58))) (erR s)) (bn (b_X1_leave K N 79 s) (fun v59 s59 => bn (b_X3_put K N 15 y1 y4 s59) (fun v60 s60 => okR 0 s60)))) (bn (q_sees K 79 s) (fun v61 s61 => ifz v61 (bn (q_sees K 1 s61) (fun v63 s63 => ifz v63 (ife (K (s_at s63)) 77 (bn (rc 46 y2 y3 s63) (fun v66 s66 => ifz v66 (bn (b_X1_accept K N 84 s66) (fun v68 s68 => ifz v68 (lp_X1_params_17 K N rc f y1 y2 (y3 + 1) (y4 + 1) 0 s68) (lp_X1_params_17 K N rc f y1 y2 (y3 + 1) (y4 + 1) 0 s68))) (bn (b_X1_accept K N 84 s66) (fun v70 s70 => ifz v70 (lp_X1_params_17 K N rc f y1 v66 0 (y4 + 1) 0 s70) (lp_X1_params_17 K N rc f y1 v66 0 (y4 + 1) 0 s70))))) (bn (rc 46 y2 y3 s63) (fun v72 s72 => ifz v72 (bn (b_X1_accept K N 84 s72) (fun v74 s74 => ifz v74 (lp_X1_params_17 K N rc f y1 y2 (y3 + 1) (y4 + 1) 0 s74) (lp_X1_params_17 K N rc f y1 y2 (y3 + 1) (y4 + 1) 1 s74))) (bn (b_X1_accept K N 84 s72) (fun v76 s76 => ifz v76 (lp_X1_params_17 K N rc f y1 v72 0 (y4 + 1) 0 s76) (lp_X1_params_17 K N rc f y1 v72 0 (y4 + 1) 1 s76)))))) (bn (q_nextKind K s63) (fun v78 s78 => ife v78 77 (bn (rc 46 y2 y3 s78) (fun v80 s80 => ifz v80 (bn (b_X1_accept K N 84 s80) (fun v82 s82 => ifz v82 (lp_X1_params_17 K N rc f y1 y2 (y3 + 1) (y4 + 1) 0 s82) (lp_X1_params_17 K N rc f y1 y2 (y3 + 1) (y4 + 1) 0 s82))) (bn (b_X1_accept K N 84 s80) (fun v84 s84 => ifz v84 (lp_X1_params_17 K N rc f y1 v80 0 (y4 + 1) 0 s84) (lp_X1_params_17 K N rc f y1 v80 0 (y4 + 1) 0 s84))))) (bn (rc 46 y2 y3 s78) (fun v86 s86 => ifz v86 (bn (b_X1_accept K N 84 s86) (fun v88 s88 => ifz v88 (lp_X1_params_17 K N rc f y1 y2 (y3 + 1) (y4 + 1) 0 s88) (lp_X1_params_17 K N rc f y1 y2 (y3 + 1) (y4 + 1) 1 s88))) (bn (b_X1_accept K N 84 s86) (fun v90 s90 => ifz v90 (lp_X1_params_17 K N rc f y1 v86 0 (y4 + 1) 0 s90) (lp_X1_params_17 K N rc f y1 v86 0 (y4 + 1) 1 s90))))))))) (ife y2 1 (ifz y3 (bn (b_X1_leave K N 79 s61) (fun v94 s94 => bn (b_X3_put K N 15 y1 y4 s94) (fun v95 s95 => okR 0 s95))) (erR s61)) (bn (b_X1_leave K N 79 s61) (fun v96 s96 => bn (b_X3_put K N 15 y1 y4 s96) (fun v97 s97 => okR 0 s97))))))) (ife y2 1 (ifz y3 (bn (b_X1_leave K N 79 s) (fun v100 s100 => bn (b_X3_put K N 15 y1 y4 s100) (fun v101 s101 => okR 0 s101))) (erR s)) (bn (b_X1_leave K N 79 s) (fun v102 s102 => bn (b_X3_put K N 15 y1 y4 s102) (fun v103 s103 => okR 0 s103))))
theorem l_X1_params_17 {xs : Nat → Int32} {L : Nat} {h0 : mm_H} {a p N cnt : Nat} {ks : Nat → Nat} (G : Cg h0 a p N cnt ks) {n : Nat} {rc : Nat → Nat → Nat → Ss → Rs Ss} (IH : Hr xs L h0 a p N cnt ks n rc) : ∀ (f : Nat) (y1 y2 y3 y4 y5 : Nat) (s : Ss) (d : Nat) (ls : mm_L) (hd : n + 17 ≤ d) (hl0 : mm_lk ls 0 = some (.ref p)) (hl1 : mm_lk ls 1 = some (.int (nI y1))) (hl2 : mm_lk ls 2 = some (.int (nI y2))) (hl3 : mm_lk ls 3 = some (.int (nI y3))) (hl4 : mm_lk ls 4 = some (.int (nI y4))) (hl5 : mm_lk ls 5 = some (.int (nI y5))), lp_X1_params_17 (kA cnt ks) N rc f y1 y2 y3 y4 y5 s ≠ none → Ev xs L d 45 17 ls [] (TC h0 a p N cnt ks s) 0 0 (ou eU (TC h0 a p N cnt ks) (lp_X1_params_17 (kA cnt ks) N rc f y1 y2 y3 y4 y5 s)) := by
  intro f
  induction f with
  | zero => intros; rename_i hN; exact absurd rfl hN
  | succ f ih =>
    intro y1 y2 y3 y4 y5 s d ls hd hl0 hl1 hl2 hl3 hl4 hl5 hN
    rw [lp_X1_params_17] at hN ⊢
    refine e_iload m_X1_params dX1_params_17 hl4 ?_
    refine e_sipush (v := nI 16385) m_X1_params dX1_params_19 (by decide) ?_
    refine e_ige (t := 121) (a := y4) (b := 16385) hN m_X1_params dX1_params_22 (by decide) (fun q53 hN => ?_) (fun q53 hN => ?_)
    · refine e_iload m_X1_params dX1_params_25 hl5 ?_
      refine e_ifeq (t := 121) hN m_X1_params dX1_params_27 (by decide) (fun q54 hN => ?_) (fun q54 hN => ?_)
      · refine e_iload_n m_X1_params dX1_params_121 rfl hl2 ?_
        refine e_iconst (v := nI 1) m_X1_params dX1_params_122 (by decide) ?_
        refine e_ine (t := 134) (a := y2) (b := 1) hN m_X1_params dX1_params_123 (by decide) (fun q55 hN => ?_) (fun q55 hN => ?_)
        · refine e_iload_n m_X1_params dX1_params_126 rfl hl3 ?_
          refine e_ifle (t := 134) hN m_X1_params dX1_params_127 (by decide) (fun q56 hN => ?_) (fun q56 hN => ?_)
          · refine e_iconst (v := nI 0) m_X1_params dX1_params_134 (by decide) ?_
            refine e_istore m_X1_params dX1_params_135 (by decide) rfl ?_
            refine e_iload m_X1_params dX1_params_137 lk_hit ?_
            refine e_ifT (t := 146) m_X1_params dX1_params_139 (by decide) (by decide) ?_
            refine e_aload_n m_X1_params dX1_params_146 rfl (lk_mis (by decide) rfl hl0) rfl ?_
            refine e_bipush (v := nI 79) m_X1_params dX1_params_147 (by decide) ?_
            refine e_cvU (as := [.int (nI 79)]) hN m_X1_params dX1_params_149 c_RX1_106 (by decide) rfl rfl (gC_p G.1) rfl (Nat.le_of_ble_eq_true rfl) (Nat.le_of_ble_eq_true rfl) (by omega) (w_X1_leave G (by omega)) (fun v57 s57 hN => ?_)
            refine e_aload_n m_X1_params dX1_params_152 rfl (lk_mis (by decide) rfl hl0) rfl ?_
            refine e_getf m_X1_params dX1_params_153 f_RX1_17 (gC_p G.1) rfl ?_
            refine e_bipush (v := nI 15) m_X1_params dX1_params_156 (by decide) ?_
            refine e_iload_n m_X1_params dX1_params_158 rfl (lk_mis (by decide) rfl hl1) ?_
            refine e_iload m_X1_params dX1_params_159 (lk_mis (by decide) rfl hl4) ?_
            refine e_cvU (as := [.int (nI 15), .int (nI y1), .int (nI y4)]) hN m_X1_params dX1_params_161 c_RX1_69 (by decide) rfl rfl (gC_r G.1) rfl (Nat.le_of_ble_eq_true rfl) (Nat.le_of_ble_eq_true rfl) (by omega) (w_X3_put G (by omega)) (fun v58 s58 hN => ?_)
            exact e_ret0 m_X1_params dX1_params_164
          · refine e_iconst (v := nI 1) m_X1_params dX1_params_130 (by decide) ?_
            refine e_goto (t := 135) m_X1_params dX1_params_131 (by decide) ?_
            refine e_istore m_X1_params dX1_params_135 (by decide) rfl ?_
            refine e_iload m_X1_params dX1_params_137 lk_hit ?_
            refine e_ifF (t := 146) m_X1_params dX1_params_139 (by decide) (by decide) ?_
            refine e_aload_n m_X1_params dX1_params_142 rfl (lk_mis (by decide) rfl hl0) rfl ?_
            exact e_cvX (as := []) m_X1_params dX1_params_143 c_RX1_54 (by decide) rfl rfl (gC_p G.1) rfl (Nat.le_of_ble_eq_true rfl) (Nat.le_of_ble_eq_true rfl) (by omega) (r_refuse (by omega))
        · refine e_iconst (v := nI 0) m_X1_params dX1_params_134 (by decide) ?_
          refine e_istore m_X1_params dX1_params_135 (by decide) rfl ?_
          refine e_iload m_X1_params dX1_params_137 lk_hit ?_
          refine e_ifT (t := 146) m_X1_params dX1_params_139 (by decide) (by decide) ?_
          refine e_aload_n m_X1_params dX1_params_146 rfl (lk_mis (by decide) rfl hl0) rfl ?_
          refine e_bipush (v := nI 79) m_X1_params dX1_params_147 (by decide) ?_
          refine e_cvU (as := [.int (nI 79)]) hN m_X1_params dX1_params_149 c_RX1_106 (by decide) rfl rfl (gC_p G.1) rfl (Nat.le_of_ble_eq_true rfl) (Nat.le_of_ble_eq_true rfl) (by omega) (w_X1_leave G (by omega)) (fun v59 s59 hN => ?_)
          refine e_aload_n m_X1_params dX1_params_152 rfl (lk_mis (by decide) rfl hl0) rfl ?_
          refine e_getf m_X1_params dX1_params_153 f_RX1_17 (gC_p G.1) rfl ?_
          refine e_bipush (v := nI 15) m_X1_params dX1_params_156 (by decide) ?_
          refine e_iload_n m_X1_params dX1_params_158 rfl (lk_mis (by decide) rfl hl1) ?_
          refine e_iload m_X1_params dX1_params_159 (lk_mis (by decide) rfl hl4) ?_
          refine e_cvU (as := [.int (nI 15), .int (nI y1), .int (nI y4)]) hN m_X1_params dX1_params_161 c_RX1_69 (by decide) rfl rfl (gC_r G.1) rfl (Nat.le_of_ble_eq_true rfl) (Nat.le_of_ble_eq_true rfl) (by omega) (w_X3_put G (by omega)) (fun v60 s60 hN => ?_)
          exact e_ret0 m_X1_params dX1_params_164
      · refine e_aload_n m_X1_params dX1_params_30 rfl hl0 rfl ?_
        refine e_bipush (v := nI 79) m_X1_params dX1_params_31 (by decide) ?_
        refine e_cvN (as := [.int (nI 79)]) hN m_X1_params dX1_params_33 c_RX1_46 (by decide) rfl rfl (gC_p G.1) rfl (Nat.le_of_ble_eq_true rfl) (Nat.le_of_ble_eq_true rfl) (by omega) (t_sees G (by omega)) (fun v61 s61 hN => ?_)
        refine e_ifne (t := 121) hN m_X1_params dX1_params_36 (by decide) (fun q62 hN => ?_) (fun q62 hN => ?_)
        · refine e_aload_n m_X1_params dX1_params_39 rfl hl0 rfl ?_
          refine e_iconst (v := nI 1) m_X1_params dX1_params_40 (by decide) ?_
          refine e_cvN (as := [.int (nI 1)]) hN m_X1_params dX1_params_41 c_RX1_46 (by decide) rfl rfl (gC_p G.1) rfl (Nat.le_of_ble_eq_true rfl) (Nat.le_of_ble_eq_true rfl) (by omega) (t_sees G (by omega)) (fun v63 s63 hN => ?_)
          refine e_ifeq (t := 54) hN m_X1_params dX1_params_44 (by decide) (fun q64 hN => ?_) (fun q64 hN => ?_)
          · refine e_aload_n m_X1_params dX1_params_54 rfl hl0 rfl ?_
            refine e_getf m_X1_params dX1_params_55 f_RX1_33 (gC_p G.1) rfl ?_
            refine e_bipush (v := nI 77) m_X1_params dX1_params_58 (by decide) ?_
            refine e_ine (t := 67) (a := ((kA cnt ks) (s_at s63))) (b := 77) hN m_X1_params dX1_params_60 (by decide) (fun q65 hN => ?_) (fun q65 hN => ?_)
            · refine e_iconst (v := nI 1) m_X1_params dX1_params_63 (by decide) ?_
              refine e_goto (t := 68) m_X1_params dX1_params_64 (by decide) ?_
              refine e_istore m_X1_params dX1_params_68 (by decide) rfl ?_
              refine e_aload_n m_X1_params dX1_params_70 rfl (lk_mis (by decide) rfl hl0) rfl ?_
              refine e_iload_n m_X1_params dX1_params_71 rfl (lk_mis (by decide) rfl hl2) ?_
              refine e_iload_n m_X1_params dX1_params_72 rfl (lk_mis (by decide) rfl hl3) ?_
              refine e_cvN (as := [.int (nI y2), .int (nI y3)]) hN m_X1_params dX1_params_73 c_RX1_150 (by decide) rfl rfl (gC_p G.1) rfl (Nat.le_of_ble_eq_true rfl) (Nat.le_of_ble_eq_true rfl) (by omega) (i_X1_param IH (by omega)) (fun v66 s66 hN => ?_)
              refine e_istore m_X1_params dX1_params_76 (by decide) rfl ?_
              refine e_iincN (n := 1) m_X1_params dX1_params_78 (by decide) (lk_mis (by decide) rfl (lk_mis (by decide) rfl hl4)) rfl ?_
              refine e_iload m_X1_params dX1_params_81 (lk_mis (by decide) rfl lk_hit) ?_
              refine e_ifne (t := 92) hN m_X1_params dX1_params_83 (by decide) (fun q67 hN => ?_) (fun q67 hN => ?_)
              · refine e_iincN (n := 1) m_X1_params dX1_params_86 (by decide) (lk_mis (by decide) rfl (lk_mis (by decide) rfl (lk_mis (by decide) rfl hl3))) rfl ?_
                refine e_goto (t := 97) m_X1_params dX1_params_89 (by decide) ?_
                refine e_aload_n m_X1_params dX1_params_97 rfl (lk_mis (by decide) rfl (lk_mis (by decide) rfl (lk_mis (by decide) rfl (lk_mis (by decide) rfl hl0)))) rfl ?_
                refine e_bipush (v := nI 84) m_X1_params dX1_params_98 (by decide) ?_
                refine e_cvN (as := [.int (nI 84)]) hN m_X1_params dX1_params_100 c_RX1_123 (by decide) rfl rfl (gC_p G.1) rfl (Nat.le_of_ble_eq_true rfl) (Nat.le_of_ble_eq_true rfl) (by omega) (w_X1_accept G (by omega)) (fun v68 s68 hN => ?_)
                refine e_ifeq (t := 115) hN m_X1_params dX1_params_103 (by decide) (fun q69 hN => ?_) (fun q69 hN => ?_)
                · refine e_iconst (v := nI 0) m_X1_params dX1_params_115 (by decide) ?_
                  refine e_istore m_X1_params dX1_params_116 (by decide) rfl ?_
                  refine e_goto (t := 17) m_X1_params dX1_params_118 (by decide) ?_
                  exact ih y1 y2 (y3 + 1) (y4 + 1) 0 _ _ _ (by omega) (lk_mis (by decide) rfl (lk_mis (by decide) rfl (lk_mis (by decide) rfl (lk_mis (by decide) rfl (lk_mis (by decide) rfl hl0))))) (lk_mis (by decide) rfl (lk_mis (by decide) rfl (lk_mis (by decide) rfl (lk_mis (by decide) rfl (lk_mis (by decide) rfl hl1))))) (lk_mis (by decide) rfl (lk_mis (by decide) rfl (lk_mis (by decide) rfl (lk_mis (by decide) rfl (lk_mis (by decide) rfl hl2))))) (lk_mis (by decide) rfl lk_hit) (lk_mis (by decide) rfl (lk_mis (by decide) rfl lk_hit)) lk_hit hN
                · refine e_iload m_X1_params dX1_params_106 (lk_mis (by decide) rfl (lk_mis (by decide) rfl (lk_mis (by decide) rfl lk_hit))) ?_
                  refine e_ifT (t := 115) m_X1_params dX1_params_108 (by decide) (by decide) ?_
                  refine e_iconst (v := nI 0) m_X1_params dX1_params_115 (by decide) ?_
                  refine e_istore m_X1_params dX1_params_116 (by decide) rfl ?_
                  refine e_goto (t := 17) m_X1_params dX1_params_118 (by decide) ?_
                  exact ih y1 y2 (y3 + 1) (y4 + 1) 0 _ _ _ (by omega) (lk_mis (by decide) rfl (lk_mis (by decide) rfl (lk_mis (by decide) rfl (lk_mis (by decide) rfl (lk_mis (by decide) rfl hl0))))) (lk_mis (by decide) rfl (lk_mis (by decide) rfl (lk_mis (by decide) rfl (lk_mis (by decide) rfl (lk_mis (by decide) rfl hl1))))) (lk_mis (by decide) rfl (lk_mis (by decide) rfl (lk_mis (by decide) rfl (lk_mis (by decide) rfl (lk_mis (by decide) rfl hl2))))) (lk_mis (by decide) rfl lk_hit) (lk_mis (by decide) rfl (lk_mis (by decide) rfl lk_hit)) lk_hit hN
              · refine e_iconst (v := nI 0) m_X1_params dX1_params_92 (by decide) ?_
                refine e_istore_n m_X1_params dX1_params_93 rfl (by decide) rfl ?_
                refine e_iload m_X1_params dX1_params_94 (lk_mis (by decide) rfl (lk_mis (by decide) rfl lk_hit)) ?_
                refine e_istore_n m_X1_params dX1_params_96 rfl (by decide) rfl ?_
                refine e_aload_n m_X1_params dX1_params_97 rfl (lk_mis (by decide) rfl (lk_mis (by decide) rfl (lk_mis (by decide) rfl (lk_mis (by decide) rfl (lk_mis (by decide) rfl hl0))))) rfl ?_
                refine e_bipush (v := nI 84) m_X1_params dX1_params_98 (by decide) ?_
                refine e_cvN (as := [.int (nI 84)]) hN m_X1_params dX1_params_100 c_RX1_123 (by decide) rfl rfl (gC_p G.1) rfl (Nat.le_of_ble_eq_true rfl) (Nat.le_of_ble_eq_true rfl) (by omega) (w_X1_accept G (by omega)) (fun v70 s70 hN => ?_)
                refine e_ifeq (t := 115) hN m_X1_params dX1_params_103 (by decide) (fun q71 hN => ?_) (fun q71 hN => ?_)
                · refine e_iconst (v := nI 0) m_X1_params dX1_params_115 (by decide) ?_
                  refine e_istore m_X1_params dX1_params_116 (by decide) rfl ?_
                  refine e_goto (t := 17) m_X1_params dX1_params_118 (by decide) ?_
                  exact ih y1 v66 0 (y4 + 1) 0 _ _ _ (by omega) (lk_mis (by decide) rfl (lk_mis (by decide) rfl (lk_mis (by decide) rfl (lk_mis (by decide) rfl (lk_mis (by decide) rfl (lk_mis (by decide) rfl hl0)))))) (lk_mis (by decide) rfl (lk_mis (by decide) rfl (lk_mis (by decide) rfl (lk_mis (by decide) rfl (lk_mis (by decide) rfl (lk_mis (by decide) rfl hl1)))))) (lk_mis (by decide) rfl lk_hit) (lk_mis (by decide) rfl (lk_mis (by decide) rfl lk_hit)) (lk_mis (by decide) rfl (lk_mis (by decide) rfl (lk_mis (by decide) rfl lk_hit))) lk_hit hN
                · refine e_iload m_X1_params dX1_params_106 (lk_mis (by decide) rfl (lk_mis (by decide) rfl (lk_mis (by decide) rfl (lk_mis (by decide) rfl lk_hit)))) ?_
                  refine e_ifT (t := 115) m_X1_params dX1_params_108 (by decide) (by decide) ?_
                  refine e_iconst (v := nI 0) m_X1_params dX1_params_115 (by decide) ?_
                  refine e_istore m_X1_params dX1_params_116 (by decide) rfl ?_
                  refine e_goto (t := 17) m_X1_params dX1_params_118 (by decide) ?_
                  exact ih y1 v66 0 (y4 + 1) 0 _ _ _ (by omega) (lk_mis (by decide) rfl (lk_mis (by decide) rfl (lk_mis (by decide) rfl (lk_mis (by decide) rfl (lk_mis (by decide) rfl (lk_mis (by decide) rfl hl0)))))) (lk_mis (by decide) rfl (lk_mis (by decide) rfl (lk_mis (by decide) rfl (lk_mis (by decide) rfl (lk_mis (by decide) rfl (lk_mis (by decide) rfl hl1)))))) (lk_mis (by decide) rfl lk_hit) (lk_mis (by decide) rfl (lk_mis (by decide) rfl lk_hit)) (lk_mis (by decide) rfl (lk_mis (by decide) rfl (lk_mis (by decide) rfl lk_hit))) lk_hit hN
            · refine e_iconst (v := nI 0) m_X1_params dX1_params_67 (by decide) ?_
              refine e_istore m_X1_params dX1_params_68 (by decide) rfl ?_
              refine e_aload_n m_X1_params dX1_params_70 rfl (lk_mis (by decide) rfl hl0) rfl ?_
              refine e_iload_n m_X1_params dX1_params_71 rfl (lk_mis (by decide) rfl hl2) ?_
              refine e_iload_n m_X1_params dX1_params_72 rfl (lk_mis (by decide) rfl hl3) ?_
              refine e_cvN (as := [.int (nI y2), .int (nI y3)]) hN m_X1_params dX1_params_73 c_RX1_150 (by decide) rfl rfl (gC_p G.1) rfl (Nat.le_of_ble_eq_true rfl) (Nat.le_of_ble_eq_true rfl) (by omega) (i_X1_param IH (by omega)) (fun v72 s72 hN => ?_)
              refine e_istore m_X1_params dX1_params_76 (by decide) rfl ?_
              refine e_iincN (n := 1) m_X1_params dX1_params_78 (by decide) (lk_mis (by decide) rfl (lk_mis (by decide) rfl hl4)) rfl ?_
              refine e_iload m_X1_params dX1_params_81 (lk_mis (by decide) rfl lk_hit) ?_
              refine e_ifne (t := 92) hN m_X1_params dX1_params_83 (by decide) (fun q73 hN => ?_) (fun q73 hN => ?_)
              · refine e_iincN (n := 1) m_X1_params dX1_params_86 (by decide) (lk_mis (by decide) rfl (lk_mis (by decide) rfl (lk_mis (by decide) rfl hl3))) rfl ?_
                refine e_goto (t := 97) m_X1_params dX1_params_89 (by decide) ?_
                refine e_aload_n m_X1_params dX1_params_97 rfl (lk_mis (by decide) rfl (lk_mis (by decide) rfl (lk_mis (by decide) rfl (lk_mis (by decide) rfl hl0)))) rfl ?_
                refine e_bipush (v := nI 84) m_X1_params dX1_params_98 (by decide) ?_
                refine e_cvN (as := [.int (nI 84)]) hN m_X1_params dX1_params_100 c_RX1_123 (by decide) rfl rfl (gC_p G.1) rfl (Nat.le_of_ble_eq_true rfl) (Nat.le_of_ble_eq_true rfl) (by omega) (w_X1_accept G (by omega)) (fun v74 s74 hN => ?_)
                refine e_ifeq (t := 115) hN m_X1_params dX1_params_103 (by decide) (fun q75 hN => ?_) (fun q75 hN => ?_)
                · refine e_iconst (v := nI 0) m_X1_params dX1_params_115 (by decide) ?_
                  refine e_istore m_X1_params dX1_params_116 (by decide) rfl ?_
                  refine e_goto (t := 17) m_X1_params dX1_params_118 (by decide) ?_
                  exact ih y1 y2 (y3 + 1) (y4 + 1) 0 _ _ _ (by omega) (lk_mis (by decide) rfl (lk_mis (by decide) rfl (lk_mis (by decide) rfl (lk_mis (by decide) rfl (lk_mis (by decide) rfl hl0))))) (lk_mis (by decide) rfl (lk_mis (by decide) rfl (lk_mis (by decide) rfl (lk_mis (by decide) rfl (lk_mis (by decide) rfl hl1))))) (lk_mis (by decide) rfl (lk_mis (by decide) rfl (lk_mis (by decide) rfl (lk_mis (by decide) rfl (lk_mis (by decide) rfl hl2))))) (lk_mis (by decide) rfl lk_hit) (lk_mis (by decide) rfl (lk_mis (by decide) rfl lk_hit)) lk_hit hN
                · refine e_iload m_X1_params dX1_params_106 (lk_mis (by decide) rfl (lk_mis (by decide) rfl (lk_mis (by decide) rfl lk_hit))) ?_
                  refine e_ifF (t := 115) m_X1_params dX1_params_108 (by decide) (by decide) ?_
                  refine e_iconst (v := nI 1) m_X1_params dX1_params_111 (by decide) ?_
                  refine e_goto (t := 116) m_X1_params dX1_params_112 (by decide) ?_
                  refine e_istore m_X1_params dX1_params_116 (by decide) rfl ?_
                  refine e_goto (t := 17) m_X1_params dX1_params_118 (by decide) ?_
                  exact ih y1 y2 (y3 + 1) (y4 + 1) 1 _ _ _ (by omega) (lk_mis (by decide) rfl (lk_mis (by decide) rfl (lk_mis (by decide) rfl (lk_mis (by decide) rfl (lk_mis (by decide) rfl hl0))))) (lk_mis (by decide) rfl (lk_mis (by decide) rfl (lk_mis (by decide) rfl (lk_mis (by decide) rfl (lk_mis (by decide) rfl hl1))))) (lk_mis (by decide) rfl (lk_mis (by decide) rfl (lk_mis (by decide) rfl (lk_mis (by decide) rfl (lk_mis (by decide) rfl hl2))))) (lk_mis (by decide) rfl lk_hit) (lk_mis (by decide) rfl (lk_mis (by decide) rfl lk_hit)) lk_hit hN
              · refine e_iconst (v := nI 0) m_X1_params dX1_params_92 (by decide) ?_
                refine e_istore_n m_X1_params dX1_params_93 rfl (by decide) rfl ?_
                refine e_iload m_X1_params dX1_params_94 (lk_mis (by decide) rfl (lk_mis (by decide) rfl lk_hit)) ?_
                refine e_istore_n m_X1_params dX1_params_96 rfl (by decide) rfl ?_
                refine e_aload_n m_X1_params dX1_params_97 rfl (lk_mis (by decide) rfl (lk_mis (by decide) rfl (lk_mis (by decide) rfl (lk_mis (by decide) rfl (lk_mis (by decide) rfl hl0))))) rfl ?_
                refine e_bipush (v := nI 84) m_X1_params dX1_params_98 (by decide) ?_
                refine e_cvN (as := [.int (nI 84)]) hN m_X1_params dX1_params_100 c_RX1_123 (by decide) rfl rfl (gC_p G.1) rfl (Nat.le_of_ble_eq_true rfl) (Nat.le_of_ble_eq_true rfl) (by omega) (w_X1_accept G (by omega)) (fun v76 s76 hN => ?_)
                refine e_ifeq (t := 115) hN m_X1_params dX1_params_103 (by decide) (fun q77 hN => ?_) (fun q77 hN => ?_)
                · refine e_iconst (v := nI 0) m_X1_params dX1_params_115 (by decide) ?_
                  refine e_istore m_X1_params dX1_params_116 (by decide) rfl ?_
                  refine e_goto (t := 17) m_X1_params dX1_params_118 (by decide) ?_
                  exact ih y1 v72 0 (y4 + 1) 0 _ _ _ (by omega) (lk_mis (by decide) rfl (lk_mis (by decide) rfl (lk_mis (by decide) rfl (lk_mis (by decide) rfl (lk_mis (by decide) rfl (lk_mis (by decide) rfl hl0)))))) (lk_mis (by decide) rfl (lk_mis (by decide) rfl (lk_mis (by decide) rfl (lk_mis (by decide) rfl (lk_mis (by decide) rfl (lk_mis (by decide) rfl hl1)))))) (lk_mis (by decide) rfl lk_hit) (lk_mis (by decide) rfl (lk_mis (by decide) rfl lk_hit)) (lk_mis (by decide) rfl (lk_mis (by decide) rfl (lk_mis (by decide) rfl lk_hit))) lk_hit hN
                · refine e_iload m_X1_params dX1_params_106 (lk_mis (by decide) rfl (lk_mis (by decide) rfl (lk_mis (by decide) rfl (lk_mis (by decide) rfl lk_hit)))) ?_
                  refine e_ifF (t := 115) m_X1_params dX1_params_108 (by decide) (by decide) ?_
                  refine e_iconst (v := nI 1) m_X1_params dX1_params_111 (by decide) ?_
                  refine e_goto (t := 116) m_X1_params dX1_params_112 (by decide) ?_
                  refine e_istore m_X1_params dX1_params_116 (by decide) rfl ?_
                  refine e_goto (t := 17) m_X1_params dX1_params_118 (by decide) ?_
                  exact ih y1 v72 0 (y4 + 1) 1 _ _ _ (by omega) (lk_mis (by decide) rfl (lk_mis (by decide) rfl (lk_mis (by decide) rfl (lk_mis (by decide) rfl (lk_mis (by decide) rfl (lk_mis (by decide) rfl hl0)))))) (lk_mis (by decide) rfl (lk_mis (by decide) rfl (lk_mis (by decide) rfl (lk_mis (by decide) rfl (lk_mis (by decide) rfl (lk_mis (by decide) rfl hl1)))))) (lk_mis (by decide) rfl lk_hit) (lk_mis (by decide) rfl (lk_mis (by decide) rfl lk_hit)) (lk_mis (by decide) rfl (lk_mis (by decide) rfl (lk_mis (by decide) rfl lk_hit))) lk_hit hN
          · refine e_aload_n m_X1_params dX1_params_47 rfl hl0 rfl ?_
            refine e_cvN (as := []) hN m_X1_params dX1_params_48 c_RX1_147 (by decide) rfl rfl (gC_p G.1) rfl (Nat.le_of_ble_eq_true rfl) (Nat.le_of_ble_eq_true rfl) (by omega) (t_nextKind G (by omega)) (fun v78 s78 hN => ?_)
            refine e_goto (t := 58) m_X1_params dX1_params_51 (by decide) ?_
            refine e_bipush (v := nI 77) m_X1_params dX1_params_58 (by decide) ?_
            refine e_ine (t := 67) (a := v78) (b := 77) hN m_X1_params dX1_params_60 (by decide) (fun q79 hN => ?_) (fun q79 hN => ?_)
            · refine e_iconst (v := nI 1) m_X1_params dX1_params_63 (by decide) ?_
              refine e_goto (t := 68) m_X1_params dX1_params_64 (by decide) ?_
              refine e_istore m_X1_params dX1_params_68 (by decide) rfl ?_
              refine e_aload_n m_X1_params dX1_params_70 rfl (lk_mis (by decide) rfl hl0) rfl ?_
              refine e_iload_n m_X1_params dX1_params_71 rfl (lk_mis (by decide) rfl hl2) ?_
              refine e_iload_n m_X1_params dX1_params_72 rfl (lk_mis (by decide) rfl hl3) ?_
              refine e_cvN (as := [.int (nI y2), .int (nI y3)]) hN m_X1_params dX1_params_73 c_RX1_150 (by decide) rfl rfl (gC_p G.1) rfl (Nat.le_of_ble_eq_true rfl) (Nat.le_of_ble_eq_true rfl) (by omega) (i_X1_param IH (by omega)) (fun v80 s80 hN => ?_)
              refine e_istore m_X1_params dX1_params_76 (by decide) rfl ?_
              refine e_iincN (n := 1) m_X1_params dX1_params_78 (by decide) (lk_mis (by decide) rfl (lk_mis (by decide) rfl hl4)) rfl ?_
              refine e_iload m_X1_params dX1_params_81 (lk_mis (by decide) rfl lk_hit) ?_
              refine e_ifne (t := 92) hN m_X1_params dX1_params_83 (by decide) (fun q81 hN => ?_) (fun q81 hN => ?_)
              · refine e_iincN (n := 1) m_X1_params dX1_params_86 (by decide) (lk_mis (by decide) rfl (lk_mis (by decide) rfl (lk_mis (by decide) rfl hl3))) rfl ?_
                refine e_goto (t := 97) m_X1_params dX1_params_89 (by decide) ?_
                refine e_aload_n m_X1_params dX1_params_97 rfl (lk_mis (by decide) rfl (lk_mis (by decide) rfl (lk_mis (by decide) rfl (lk_mis (by decide) rfl hl0)))) rfl ?_
                refine e_bipush (v := nI 84) m_X1_params dX1_params_98 (by decide) ?_
                refine e_cvN (as := [.int (nI 84)]) hN m_X1_params dX1_params_100 c_RX1_123 (by decide) rfl rfl (gC_p G.1) rfl (Nat.le_of_ble_eq_true rfl) (Nat.le_of_ble_eq_true rfl) (by omega) (w_X1_accept G (by omega)) (fun v82 s82 hN => ?_)
                refine e_ifeq (t := 115) hN m_X1_params dX1_params_103 (by decide) (fun q83 hN => ?_) (fun q83 hN => ?_)
                · refine e_iconst (v := nI 0) m_X1_params dX1_params_115 (by decide) ?_
                  refine e_istore m_X1_params dX1_params_116 (by decide) rfl ?_
                  refine e_goto (t := 17) m_X1_params dX1_params_118 (by decide) ?_
                  exact ih y1 y2 (y3 + 1) (y4 + 1) 0 _ _ _ (by omega) (lk_mis (by decide) rfl (lk_mis (by decide) rfl (lk_mis (by decide) rfl (lk_mis (by decide) rfl (lk_mis (by decide) rfl hl0))))) (lk_mis (by decide) rfl (lk_mis (by decide) rfl (lk_mis (by decide) rfl (lk_mis (by decide) rfl (lk_mis (by decide) rfl hl1))))) (lk_mis (by decide) rfl (lk_mis (by decide) rfl (lk_mis (by decide) rfl (lk_mis (by decide) rfl (lk_mis (by decide) rfl hl2))))) (lk_mis (by decide) rfl lk_hit) (lk_mis (by decide) rfl (lk_mis (by decide) rfl lk_hit)) lk_hit hN
                · refine e_iload m_X1_params dX1_params_106 (lk_mis (by decide) rfl (lk_mis (by decide) rfl (lk_mis (by decide) rfl lk_hit))) ?_
                  refine e_ifT (t := 115) m_X1_params dX1_params_108 (by decide) (by decide) ?_
                  refine e_iconst (v := nI 0) m_X1_params dX1_params_115 (by decide) ?_
                  refine e_istore m_X1_params dX1_params_116 (by decide) rfl ?_
                  refine e_goto (t := 17) m_X1_params dX1_params_118 (by decide) ?_
                  exact ih y1 y2 (y3 + 1) (y4 + 1) 0 _ _ _ (by omega) (lk_mis (by decide) rfl (lk_mis (by decide) rfl (lk_mis (by decide) rfl (lk_mis (by decide) rfl (lk_mis (by decide) rfl hl0))))) (lk_mis (by decide) rfl (lk_mis (by decide) rfl (lk_mis (by decide) rfl (lk_mis (by decide) rfl (lk_mis (by decide) rfl hl1))))) (lk_mis (by decide) rfl (lk_mis (by decide) rfl (lk_mis (by decide) rfl (lk_mis (by decide) rfl (lk_mis (by decide) rfl hl2))))) (lk_mis (by decide) rfl lk_hit) (lk_mis (by decide) rfl (lk_mis (by decide) rfl lk_hit)) lk_hit hN
              · refine e_iconst (v := nI 0) m_X1_params dX1_params_92 (by decide) ?_
                refine e_istore_n m_X1_params dX1_params_93 rfl (by decide) rfl ?_
                refine e_iload m_X1_params dX1_params_94 (lk_mis (by decide) rfl (lk_mis (by decide) rfl lk_hit)) ?_
                refine e_istore_n m_X1_params dX1_params_96 rfl (by decide) rfl ?_
                refine e_aload_n m_X1_params dX1_params_97 rfl (lk_mis (by decide) rfl (lk_mis (by decide) rfl (lk_mis (by decide) rfl (lk_mis (by decide) rfl (lk_mis (by decide) rfl hl0))))) rfl ?_
                refine e_bipush (v := nI 84) m_X1_params dX1_params_98 (by decide) ?_
                refine e_cvN (as := [.int (nI 84)]) hN m_X1_params dX1_params_100 c_RX1_123 (by decide) rfl rfl (gC_p G.1) rfl (Nat.le_of_ble_eq_true rfl) (Nat.le_of_ble_eq_true rfl) (by omega) (w_X1_accept G (by omega)) (fun v84 s84 hN => ?_)
                refine e_ifeq (t := 115) hN m_X1_params dX1_params_103 (by decide) (fun q85 hN => ?_) (fun q85 hN => ?_)
                · refine e_iconst (v := nI 0) m_X1_params dX1_params_115 (by decide) ?_
                  refine e_istore m_X1_params dX1_params_116 (by decide) rfl ?_
                  refine e_goto (t := 17) m_X1_params dX1_params_118 (by decide) ?_
                  exact ih y1 v80 0 (y4 + 1) 0 _ _ _ (by omega) (lk_mis (by decide) rfl (lk_mis (by decide) rfl (lk_mis (by decide) rfl (lk_mis (by decide) rfl (lk_mis (by decide) rfl (lk_mis (by decide) rfl hl0)))))) (lk_mis (by decide) rfl (lk_mis (by decide) rfl (lk_mis (by decide) rfl (lk_mis (by decide) rfl (lk_mis (by decide) rfl (lk_mis (by decide) rfl hl1)))))) (lk_mis (by decide) rfl lk_hit) (lk_mis (by decide) rfl (lk_mis (by decide) rfl lk_hit)) (lk_mis (by decide) rfl (lk_mis (by decide) rfl (lk_mis (by decide) rfl lk_hit))) lk_hit hN
                · refine e_iload m_X1_params dX1_params_106 (lk_mis (by decide) rfl (lk_mis (by decide) rfl (lk_mis (by decide) rfl (lk_mis (by decide) rfl lk_hit)))) ?_
                  refine e_ifT (t := 115) m_X1_params dX1_params_108 (by decide) (by decide) ?_
                  refine e_iconst (v := nI 0) m_X1_params dX1_params_115 (by decide) ?_
                  refine e_istore m_X1_params dX1_params_116 (by decide) rfl ?_
                  refine e_goto (t := 17) m_X1_params dX1_params_118 (by decide) ?_
                  exact ih y1 v80 0 (y4 + 1) 0 _ _ _ (by omega) (lk_mis (by decide) rfl (lk_mis (by decide) rfl (lk_mis (by decide) rfl (lk_mis (by decide) rfl (lk_mis (by decide) rfl (lk_mis (by decide) rfl hl0)))))) (lk_mis (by decide) rfl (lk_mis (by decide) rfl (lk_mis (by decide) rfl (lk_mis (by decide) rfl (lk_mis (by decide) rfl (lk_mis (by decide) rfl hl1)))))) (lk_mis (by decide) rfl lk_hit) (lk_mis (by decide) rfl (lk_mis (by decide) rfl lk_hit)) (lk_mis (by decide) rfl (lk_mis (by decide) rfl (lk_mis (by decide) rfl lk_hit))) lk_hit hN
            · refine e_iconst (v := nI 0) m_X1_params dX1_params_67 (by decide) ?_
              refine e_istore m_X1_params dX1_params_68 (by decide) rfl ?_
              refine e_aload_n m_X1_params dX1_params_70 rfl (lk_mis (by decide) rfl hl0) rfl ?_
              refine e_iload_n m_X1_params dX1_params_71 rfl (lk_mis (by decide) rfl hl2) ?_
              refine e_iload_n m_X1_params dX1_params_72 rfl (lk_mis (by decide) rfl hl3) ?_
              refine e_cvN (as := [.int (nI y2), .int (nI y3)]) hN m_X1_params dX1_params_73 c_RX1_150 (by decide) rfl rfl (gC_p G.1) rfl (Nat.le_of_ble_eq_true rfl) (Nat.le_of_ble_eq_true rfl) (by omega) (i_X1_param IH (by omega)) (fun v86 s86 hN => ?_)
              refine e_istore m_X1_params dX1_params_76 (by decide) rfl ?_
              refine e_iincN (n := 1) m_X1_params dX1_params_78 (by decide) (lk_mis (by decide) rfl (lk_mis (by decide) rfl hl4)) rfl ?_
              refine e_iload m_X1_params dX1_params_81 (lk_mis (by decide) rfl lk_hit) ?_
              refine e_ifne (t := 92) hN m_X1_params dX1_params_83 (by decide) (fun q87 hN => ?_) (fun q87 hN => ?_)
              · refine e_iincN (n := 1) m_X1_params dX1_params_86 (by decide) (lk_mis (by decide) rfl (lk_mis (by decide) rfl (lk_mis (by decide) rfl hl3))) rfl ?_
                refine e_goto (t := 97) m_X1_params dX1_params_89 (by decide) ?_
                refine e_aload_n m_X1_params dX1_params_97 rfl (lk_mis (by decide) rfl (lk_mis (by decide) rfl (lk_mis (by decide) rfl (lk_mis (by decide) rfl hl0)))) rfl ?_
                refine e_bipush (v := nI 84) m_X1_params dX1_params_98 (by decide) ?_
                refine e_cvN (as := [.int (nI 84)]) hN m_X1_params dX1_params_100 c_RX1_123 (by decide) rfl rfl (gC_p G.1) rfl (Nat.le_of_ble_eq_true rfl) (Nat.le_of_ble_eq_true rfl) (by omega) (w_X1_accept G (by omega)) (fun v88 s88 hN => ?_)
                refine e_ifeq (t := 115) hN m_X1_params dX1_params_103 (by decide) (fun q89 hN => ?_) (fun q89 hN => ?_)
                · refine e_iconst (v := nI 0) m_X1_params dX1_params_115 (by decide) ?_
                  refine e_istore m_X1_params dX1_params_116 (by decide) rfl ?_
                  refine e_goto (t := 17) m_X1_params dX1_params_118 (by decide) ?_
                  exact ih y1 y2 (y3 + 1) (y4 + 1) 0 _ _ _ (by omega) (lk_mis (by decide) rfl (lk_mis (by decide) rfl (lk_mis (by decide) rfl (lk_mis (by decide) rfl (lk_mis (by decide) rfl hl0))))) (lk_mis (by decide) rfl (lk_mis (by decide) rfl (lk_mis (by decide) rfl (lk_mis (by decide) rfl (lk_mis (by decide) rfl hl1))))) (lk_mis (by decide) rfl (lk_mis (by decide) rfl (lk_mis (by decide) rfl (lk_mis (by decide) rfl (lk_mis (by decide) rfl hl2))))) (lk_mis (by decide) rfl lk_hit) (lk_mis (by decide) rfl (lk_mis (by decide) rfl lk_hit)) lk_hit hN
                · refine e_iload m_X1_params dX1_params_106 (lk_mis (by decide) rfl (lk_mis (by decide) rfl (lk_mis (by decide) rfl lk_hit))) ?_
                  refine e_ifF (t := 115) m_X1_params dX1_params_108 (by decide) (by decide) ?_
                  refine e_iconst (v := nI 1) m_X1_params dX1_params_111 (by decide) ?_
                  refine e_goto (t := 116) m_X1_params dX1_params_112 (by decide) ?_
                  refine e_istore m_X1_params dX1_params_116 (by decide) rfl ?_
                  refine e_goto (t := 17) m_X1_params dX1_params_118 (by decide) ?_
                  exact ih y1 y2 (y3 + 1) (y4 + 1) 1 _ _ _ (by omega) (lk_mis (by decide) rfl (lk_mis (by decide) rfl (lk_mis (by decide) rfl (lk_mis (by decide) rfl (lk_mis (by decide) rfl hl0))))) (lk_mis (by decide) rfl (lk_mis (by decide) rfl (lk_mis (by decide) rfl (lk_mis (by decide) rfl (lk_mis (by decide) rfl hl1))))) (lk_mis (by decide) rfl (lk_mis (by decide) rfl (lk_mis (by decide) rfl (lk_mis (by decide) rfl (lk_mis (by decide) rfl hl2))))) (lk_mis (by decide) rfl lk_hit) (lk_mis (by decide) rfl (lk_mis (by decide) rfl lk_hit)) lk_hit hN
              · refine e_iconst (v := nI 0) m_X1_params dX1_params_92 (by decide) ?_
                refine e_istore_n m_X1_params dX1_params_93 rfl (by decide) rfl ?_
                refine e_iload m_X1_params dX1_params_94 (lk_mis (by decide) rfl (lk_mis (by decide) rfl lk_hit)) ?_
                refine e_istore_n m_X1_params dX1_params_96 rfl (by decide) rfl ?_
                refine e_aload_n m_X1_params dX1_params_97 rfl (lk_mis (by decide) rfl (lk_mis (by decide) rfl (lk_mis (by decide) rfl (lk_mis (by decide) rfl (lk_mis (by decide) rfl hl0))))) rfl ?_
                refine e_bipush (v := nI 84) m_X1_params dX1_params_98 (by decide) ?_
                refine e_cvN (as := [.int (nI 84)]) hN m_X1_params dX1_params_100 c_RX1_123 (by decide) rfl rfl (gC_p G.1) rfl (Nat.le_of_ble_eq_true rfl) (Nat.le_of_ble_eq_true rfl) (by omega) (w_X1_accept G (by omega)) (fun v90 s90 hN => ?_)
                refine e_ifeq (t := 115) hN m_X1_params dX1_params_103 (by decide) (fun q91 hN => ?_) (fun q91 hN => ?_)
                · refine e_iconst (v := nI 0) m_X1_params dX1_params_115 (by decide) ?_
                  refine e_istore m_X1_params dX1_params_116 (by decide) rfl ?_
                  refine e_goto (t := 17) m_X1_params dX1_params_118 (by decide) ?_
                  exact ih y1 v86 0 (y4 + 1) 0 _ _ _ (by omega) (lk_mis (by decide) rfl (lk_mis (by decide) rfl (lk_mis (by decide) rfl (lk_mis (by decide) rfl (lk_mis (by decide) rfl (lk_mis (by decide) rfl hl0)))))) (lk_mis (by decide) rfl (lk_mis (by decide) rfl (lk_mis (by decide) rfl (lk_mis (by decide) rfl (lk_mis (by decide) rfl (lk_mis (by decide) rfl hl1)))))) (lk_mis (by decide) rfl lk_hit) (lk_mis (by decide) rfl (lk_mis (by decide) rfl lk_hit)) (lk_mis (by decide) rfl (lk_mis (by decide) rfl (lk_mis (by decide) rfl lk_hit))) lk_hit hN
                · refine e_iload m_X1_params dX1_params_106 (lk_mis (by decide) rfl (lk_mis (by decide) rfl (lk_mis (by decide) rfl (lk_mis (by decide) rfl lk_hit)))) ?_
                  refine e_ifF (t := 115) m_X1_params dX1_params_108 (by decide) (by decide) ?_
                  refine e_iconst (v := nI 1) m_X1_params dX1_params_111 (by decide) ?_
                  refine e_goto (t := 116) m_X1_params dX1_params_112 (by decide) ?_
                  refine e_istore m_X1_params dX1_params_116 (by decide) rfl ?_
                  refine e_goto (t := 17) m_X1_params dX1_params_118 (by decide) ?_
                  exact ih y1 v86 0 (y4 + 1) 1 _ _ _ (by omega) (lk_mis (by decide) rfl (lk_mis (by decide) rfl (lk_mis (by decide) rfl (lk_mis (by decide) rfl (lk_mis (by decide) rfl (lk_mis (by decide) rfl hl0)))))) (lk_mis (by decide) rfl (lk_mis (by decide) rfl (lk_mis (by decide) rfl (lk_mis (by decide) rfl (lk_mis (by decide) rfl (lk_mis (by decide) rfl hl1)))))) (lk_mis (by decide) rfl lk_hit) (lk_mis (by decide) rfl (lk_mis (by decide) rfl lk_hit)) (lk_mis (by decide) rfl (lk_mis (by decide) rfl (lk_mis (by decide) rfl lk_hit))) lk_hit hN
        · refine e_iload_n m_X1_params dX1_params_121 rfl hl2 ?_
          refine e_iconst (v := nI 1) m_X1_params dX1_params_122 (by decide) ?_
          refine e_ine (t := 134) (a := y2) (b := 1) hN m_X1_params dX1_params_123 (by decide) (fun q92 hN => ?_) (fun q92 hN => ?_)
          · refine e_iload_n m_X1_params dX1_params_126 rfl hl3 ?_
            refine e_ifle (t := 134) hN m_X1_params dX1_params_127 (by decide) (fun q93 hN => ?_) (fun q93 hN => ?_)
            · refine e_iconst (v := nI 0) m_X1_params dX1_params_134 (by decide) ?_
              refine e_istore m_X1_params dX1_params_135 (by decide) rfl ?_
              refine e_iload m_X1_params dX1_params_137 lk_hit ?_
              refine e_ifT (t := 146) m_X1_params dX1_params_139 (by decide) (by decide) ?_
              refine e_aload_n m_X1_params dX1_params_146 rfl (lk_mis (by decide) rfl hl0) rfl ?_
              refine e_bipush (v := nI 79) m_X1_params dX1_params_147 (by decide) ?_
              refine e_cvU (as := [.int (nI 79)]) hN m_X1_params dX1_params_149 c_RX1_106 (by decide) rfl rfl (gC_p G.1) rfl (Nat.le_of_ble_eq_true rfl) (Nat.le_of_ble_eq_true rfl) (by omega) (w_X1_leave G (by omega)) (fun v94 s94 hN => ?_)
              refine e_aload_n m_X1_params dX1_params_152 rfl (lk_mis (by decide) rfl hl0) rfl ?_
              refine e_getf m_X1_params dX1_params_153 f_RX1_17 (gC_p G.1) rfl ?_
              refine e_bipush (v := nI 15) m_X1_params dX1_params_156 (by decide) ?_
              refine e_iload_n m_X1_params dX1_params_158 rfl (lk_mis (by decide) rfl hl1) ?_
              refine e_iload m_X1_params dX1_params_159 (lk_mis (by decide) rfl hl4) ?_
              refine e_cvU (as := [.int (nI 15), .int (nI y1), .int (nI y4)]) hN m_X1_params dX1_params_161 c_RX1_69 (by decide) rfl rfl (gC_r G.1) rfl (Nat.le_of_ble_eq_true rfl) (Nat.le_of_ble_eq_true rfl) (by omega) (w_X3_put G (by omega)) (fun v95 s95 hN => ?_)
              exact e_ret0 m_X1_params dX1_params_164
            · refine e_iconst (v := nI 1) m_X1_params dX1_params_130 (by decide) ?_
              refine e_goto (t := 135) m_X1_params dX1_params_131 (by decide) ?_
              refine e_istore m_X1_params dX1_params_135 (by decide) rfl ?_
              refine e_iload m_X1_params dX1_params_137 lk_hit ?_
              refine e_ifF (t := 146) m_X1_params dX1_params_139 (by decide) (by decide) ?_
              refine e_aload_n m_X1_params dX1_params_142 rfl (lk_mis (by decide) rfl hl0) rfl ?_
              exact e_cvX (as := []) m_X1_params dX1_params_143 c_RX1_54 (by decide) rfl rfl (gC_p G.1) rfl (Nat.le_of_ble_eq_true rfl) (Nat.le_of_ble_eq_true rfl) (by omega) (r_refuse (by omega))
          · refine e_iconst (v := nI 0) m_X1_params dX1_params_134 (by decide) ?_
            refine e_istore m_X1_params dX1_params_135 (by decide) rfl ?_
            refine e_iload m_X1_params dX1_params_137 lk_hit ?_
            refine e_ifT (t := 146) m_X1_params dX1_params_139 (by decide) (by decide) ?_
            refine e_aload_n m_X1_params dX1_params_146 rfl (lk_mis (by decide) rfl hl0) rfl ?_
            refine e_bipush (v := nI 79) m_X1_params dX1_params_147 (by decide) ?_
            refine e_cvU (as := [.int (nI 79)]) hN m_X1_params dX1_params_149 c_RX1_106 (by decide) rfl rfl (gC_p G.1) rfl (Nat.le_of_ble_eq_true rfl) (Nat.le_of_ble_eq_true rfl) (by omega) (w_X1_leave G (by omega)) (fun v96 s96 hN => ?_)
            refine e_aload_n m_X1_params dX1_params_152 rfl (lk_mis (by decide) rfl hl0) rfl ?_
            refine e_getf m_X1_params dX1_params_153 f_RX1_17 (gC_p G.1) rfl ?_
            refine e_bipush (v := nI 15) m_X1_params dX1_params_156 (by decide) ?_
            refine e_iload_n m_X1_params dX1_params_158 rfl (lk_mis (by decide) rfl hl1) ?_
            refine e_iload m_X1_params dX1_params_159 (lk_mis (by decide) rfl hl4) ?_
            refine e_cvU (as := [.int (nI 15), .int (nI y1), .int (nI y4)]) hN m_X1_params dX1_params_161 c_RX1_69 (by decide) rfl rfl (gC_r G.1) rfl (Nat.le_of_ble_eq_true rfl) (Nat.le_of_ble_eq_true rfl) (by omega) (w_X3_put G (by omega)) (fun v97 s97 hN => ?_)
            exact e_ret0 m_X1_params dX1_params_164
    · refine e_iload_n m_X1_params dX1_params_121 rfl hl2 ?_
      refine e_iconst (v := nI 1) m_X1_params dX1_params_122 (by decide) ?_
      refine e_ine (t := 134) (a := y2) (b := 1) hN m_X1_params dX1_params_123 (by decide) (fun q98 hN => ?_) (fun q98 hN => ?_)
      · refine e_iload_n m_X1_params dX1_params_126 rfl hl3 ?_
        refine e_ifle (t := 134) hN m_X1_params dX1_params_127 (by decide) (fun q99 hN => ?_) (fun q99 hN => ?_)
        · refine e_iconst (v := nI 0) m_X1_params dX1_params_134 (by decide) ?_
          refine e_istore m_X1_params dX1_params_135 (by decide) rfl ?_
          refine e_iload m_X1_params dX1_params_137 lk_hit ?_
          refine e_ifT (t := 146) m_X1_params dX1_params_139 (by decide) (by decide) ?_
          refine e_aload_n m_X1_params dX1_params_146 rfl (lk_mis (by decide) rfl hl0) rfl ?_
          refine e_bipush (v := nI 79) m_X1_params dX1_params_147 (by decide) ?_
          refine e_cvU (as := [.int (nI 79)]) hN m_X1_params dX1_params_149 c_RX1_106 (by decide) rfl rfl (gC_p G.1) rfl (Nat.le_of_ble_eq_true rfl) (Nat.le_of_ble_eq_true rfl) (by omega) (w_X1_leave G (by omega)) (fun v100 s100 hN => ?_)
          refine e_aload_n m_X1_params dX1_params_152 rfl (lk_mis (by decide) rfl hl0) rfl ?_
          refine e_getf m_X1_params dX1_params_153 f_RX1_17 (gC_p G.1) rfl ?_
          refine e_bipush (v := nI 15) m_X1_params dX1_params_156 (by decide) ?_
          refine e_iload_n m_X1_params dX1_params_158 rfl (lk_mis (by decide) rfl hl1) ?_
          refine e_iload m_X1_params dX1_params_159 (lk_mis (by decide) rfl hl4) ?_
          refine e_cvU (as := [.int (nI 15), .int (nI y1), .int (nI y4)]) hN m_X1_params dX1_params_161 c_RX1_69 (by decide) rfl rfl (gC_r G.1) rfl (Nat.le_of_ble_eq_true rfl) (Nat.le_of_ble_eq_true rfl) (by omega) (w_X3_put G (by omega)) (fun v101 s101 hN => ?_)
          exact e_ret0 m_X1_params dX1_params_164
        · refine e_iconst (v := nI 1) m_X1_params dX1_params_130 (by decide) ?_
          refine e_goto (t := 135) m_X1_params dX1_params_131 (by decide) ?_
          refine e_istore m_X1_params dX1_params_135 (by decide) rfl ?_
          refine e_iload m_X1_params dX1_params_137 lk_hit ?_
          refine e_ifF (t := 146) m_X1_params dX1_params_139 (by decide) (by decide) ?_
          refine e_aload_n m_X1_params dX1_params_142 rfl (lk_mis (by decide) rfl hl0) rfl ?_
          exact e_cvX (as := []) m_X1_params dX1_params_143 c_RX1_54 (by decide) rfl rfl (gC_p G.1) rfl (Nat.le_of_ble_eq_true rfl) (Nat.le_of_ble_eq_true rfl) (by omega) (r_refuse (by omega))
      · refine e_iconst (v := nI 0) m_X1_params dX1_params_134 (by decide) ?_
        refine e_istore m_X1_params dX1_params_135 (by decide) rfl ?_
        refine e_iload m_X1_params dX1_params_137 lk_hit ?_
        refine e_ifT (t := 146) m_X1_params dX1_params_139 (by decide) (by decide) ?_
        refine e_aload_n m_X1_params dX1_params_146 rfl (lk_mis (by decide) rfl hl0) rfl ?_
        refine e_bipush (v := nI 79) m_X1_params dX1_params_147 (by decide) ?_
        refine e_cvU (as := [.int (nI 79)]) hN m_X1_params dX1_params_149 c_RX1_106 (by decide) rfl rfl (gC_p G.1) rfl (Nat.le_of_ble_eq_true rfl) (Nat.le_of_ble_eq_true rfl) (by omega) (w_X1_leave G (by omega)) (fun v102 s102 hN => ?_)
        refine e_aload_n m_X1_params dX1_params_152 rfl (lk_mis (by decide) rfl hl0) rfl ?_
        refine e_getf m_X1_params dX1_params_153 f_RX1_17 (gC_p G.1) rfl ?_
        refine e_bipush (v := nI 15) m_X1_params dX1_params_156 (by decide) ?_
        refine e_iload_n m_X1_params dX1_params_158 rfl (lk_mis (by decide) rfl hl1) ?_
        refine e_iload m_X1_params dX1_params_159 (lk_mis (by decide) rfl hl4) ?_
        refine e_cvU (as := [.int (nI 15), .int (nI y1), .int (nI y4)]) hN m_X1_params dX1_params_161 c_RX1_69 (by decide) rfl rfl (gC_r G.1) rfl (Nat.le_of_ble_eq_true rfl) (Nat.le_of_ble_eq_true rfl) (by omega) (w_X3_put G (by omega)) (fun v103 s103 hN => ?_)
        exact e_ret0 m_X1_params dX1_params_164
def b_X1_params (K : Nat → Nat) (N : Nat) (rc : Nat → Nat → Nat → Ss → Rs Ss) (s : Ss) : Rs Ss := bn (b_X1_enter K N 78 s) (fun v1 s1 => lp_X1_params_17 K N rc LF v1 0 0 0 1 s1)
theorem w_X1_params {xs : Nat → Int32} {L : Nat} {h0 : mm_H} {a p N cnt : Nat} {ks : Nat → Nat} (G : Cg h0 a p N cnt ks) {n : Nat} {rc : Nat → Nat → Nat → Ss → Rs Ss} (IH : Hr xs L h0 a p N cnt ks n rc) {s : Ss} {d : Nat} (hd : n + 17 ≤ d) (hN : b_X1_params (kA cnt ks) N rc s ≠ none) : Rn xs L d 45 [.ref p] (TC h0 a p N cnt ks s) (ou eU (TC h0 a p N cnt ks) (b_X1_params (kA cnt ks) N rc s)) := by
  unfold Rn
  unfold b_X1_params at hN ⊢
  refine e_aload_n m_X1_params dX1_params_0 rfl rfl rfl ?_
  refine e_bipush (v := nI 78) m_X1_params dX1_params_1 (by decide) ?_
  refine e_cvN (as := [.int (nI 78)]) hN m_X1_params dX1_params_3 c_RX1_100 (by decide) rfl rfl (gC_p G.1) rfl (Nat.le_of_ble_eq_true rfl) (Nat.le_of_ble_eq_true rfl) (by omega) (w_X1_enter G (by omega)) (fun v1 s1 hN => ?_)
  refine e_istore_n m_X1_params dX1_params_6 rfl (by decide) rfl ?_
  refine e_iconst (v := nI 0) m_X1_params dX1_params_7 (by decide) ?_
  refine e_istore_n m_X1_params dX1_params_8 rfl (by decide) rfl ?_
  refine e_iconst (v := nI 0) m_X1_params dX1_params_9 (by decide) ?_
  refine e_istore_n m_X1_params dX1_params_10 rfl (by decide) rfl ?_
  refine e_iconst (v := nI 0) m_X1_params dX1_params_11 (by decide) ?_
  refine e_istore m_X1_params dX1_params_12 (by decide) rfl ?_
  refine e_iconst (v := nI 1) m_X1_params dX1_params_14 (by decide) ?_
  refine e_istore m_X1_params dX1_params_15 (by decide) rfl ?_
  exact l_X1_params_17 G IH LF v1 0 0 0 1 _ _ _ (by omega) rfl rfl rfl rfl rfl rfl hN

