/-! addAll: the bytes of a word, in both. -/
theorem lk_find2 {w : Value} {i j : Nat} (hj : j ≠ i) (hj2 : j + 1 ≠ i) : ∀ ls : mm_L, mm_lk ls j = some w → mm_lk (ls.filter (fun q => !(q.1 == i) && !(q.1 + 1 == i && q.2.category == 2))) j = some w := by
  intro ls
  induction ls with
  | nil => intro h; exact h
  | cons q r ih =>
    intro h
    by_cases hq : q.1 = j
    · have h2 : q.2 = w := by simpa [mm_lk, hq] using h
      have hk : (!(q.1 == i) && !(q.1 + 1 == i && q.2.category == 2)) = true := by
        rw [hq]; simp [hj, hj2]
      rw [List.filter_cons, if_pos hk]
      simp [mm_lk, hq, h2]
    · have h2 : mm_lk r j = some w := by simpa [mm_lk, hq] using h
      rw [List.filter_cons]
      split
      · have := ih h2
        simpa [mm_lk, hq] using this
      · exact ih h2
theorem lk_mis2 {ls : mm_L} {i j : Nat} {v w : Value} (hj : j ≠ i) (hj2 : j + 1 ≠ i) (h : mm_lk ls j = some w) : mm_lk (mm_s1 ls i v) j = some w := by
  have := lk_find2 hj hj2 ls h
  have hij : i ≠ j := fun q => hj q.symm
  simpa [mm_lk, mm_s1, hij] using this
def sh : Nat → Int32
  | 0 => -8
  | n + 1 => nI (8 * n)
def kk : Nat → Int32
  | 0 => -1
  | n + 1 => nI n
theorem sh_dn : ∀ n, n < 8 → sh (n + 1) + Int32.ofInt (-8) = sh n := by decide +kernel
theorem sh_nn : ∀ n, n < 8 → mm_cond .lt (sh (n + 1)) 0 = false := by decide +kernel
theorem kk_dn : ∀ n, n < 8 → kk (n + 1) + Int32.ofInt (-1) = kk n := by decide +kernel
theorem kk_nn : ∀ n, n < 8 → mm_cond .lt (kk (n + 1)) 0 = false := by decide +kernel
def bC (w : Int64) (s : Int32) : Int32 := (w.toUInt64 >>> (s.toInt64.toUInt64 &&& Int64.toUInt64 63)).toInt64.toInt32 &&& 255
def bR (w : Int64) (k : Int32) : Int32 := ((w >>> ((8 * k).toInt64 &&& 63)) &&& 255).toInt32
theorem sh_s : ∀ n, n < 8 → (((sh (n + 1)).toInt64.toUInt64 &&& Int64.toUInt64 63).toBitVec % 64).toNat = 8 * n := by decide +kernel
theorem kk_s : ∀ n, n < 8 → (((8 * kk (n + 1)).toInt64 &&& 63).toBitVec.smod 64).toNat = 8 * n := by decide +kernel
theorem m255 : ∀ i, i < 64 → (255 : BitVec 64).getLsbD i = decide (i < 8) := by decide +kernel
theorem m255' : ∀ i, i < 32 → (255 : BitVec 32).getLsbD i = decide (i < 8) := by decide +kernel
theorem bRC (w : Int64) (n : Nat) (h : n < 8) : bR w (kk (n + 1)) = bC w (sh (n + 1)) := by
  unfold bR bC
  apply Int32.toBitVec_inj.mp
  have e1 := sh_s n h
  have e2 := kk_s n h
  generalize ((sh (n + 1)).toInt64.toUInt64 &&& Int64.toUInt64 63) = a at e1 ⊢
  generalize ((8 * kk (n + 1)).toInt64 &&& 63) = b at e2 ⊢
  rw [Int64.toBitVec_toInt32, Int32.toBitVec_and, Int64.toBitVec_toInt32, BitVec.signExtend_eq_setWidth_of_le _ (by decide), BitVec.signExtend_eq_setWidth_of_le _ (by decide)]
  apply BitVec.eq_of_getLsbD_eq
  intro i hi
  rw [BitVec.getLsbD_setWidth, BitVec.getLsbD_and, BitVec.getLsbD_setWidth]
  rw [show ((w >>> b) &&& 255).toBitVec = (w.toBitVec.sshiftRight' (b.toBitVec.smod 64)) &&& 255 from rfl, BitVec.getLsbD_and, BitVec.getLsbD_sshiftRight', e2, m255 i (by omega)]
  rw [show ((w.toUInt64 >>> a).toInt64).toBitVec = w.toBitVec >>> (a.toBitVec % 64) from rfl, BitVec.ushiftRight_eq', e1, BitVec.getLsbD_ushiftRight]
  rw [show (255 : Int32).toBitVec = (255 : BitVec 32) from rfl, m255' i hi]
  by_cases h8 : i < 8
  · simp [h8, hi, show ¬ 64 ≤ i by omega, show 8 * n + i < 64 by omega]
  · simp [h8]
def sc (w : Int64) : Nat → Nat → Option Nat
  | 0, m => some m
  | n + 1, m => if bC w (sh (n + 1)) = 0 then sc w n m else if exB (bC w (sh (n + 1))) = 0 then none else sc w n (m + 1)
theorem sc_le (w : Int64) : ∀ n m r, sc w n m = some r → r ≤ m + n := by
  intro n
  induction n with
  | zero => intro m r h; rw [sc] at h; cases h; exact Nat.le_refl _
  | succ n ih =>
    intro m r h
    rw [sc] at h
    split at h
    · have := ih _ _ h; omega
    · split at h
      · cases h
      · have := ih _ _ h; omega
theorem t_byteOf {xs : Nat → Int32} {L d : Nat} {h : mm_H} {w : Int64} {s : Int32} : Rn xs L d 8 [.long w, .int s] h (.inl (some (.int (bC w s))), h, 0, 0) := by
  unfold Rn
  refine e_lload_n m_X5_byteOf dX5_byteOf_0 rfl rfl ?_
  refine e_iload_n m_X5_byteOf dX5_byteOf_1 rfl rfl ?_
  refine e_lushr m_X5_byteOf dX5_byteOf_2 ?_
  refine e_l2i m_X5_byteOf dX5_byteOf_3 ?_
  refine e_sipush (v := 255) m_X5_byteOf dX5_byteOf_4 (by decide) ?_
  refine e_iand m_X5_byteOf dX5_byteOf_7 ?_
  exact e_reti m_X5_byteOf dX5_byteOf_8 (Or.inl rfl)
theorem t_scanN {xs : Nat → Int32} {L d : Nat} {h : mm_H} {w : Int64} (hd : 2 ≤ d) : ∀ n, n ≤ 8 → ∀ (m : Nat) (ls : mm_L) (hl0 : mm_lk ls 0 = some (.ref 0)) (hl1 : mm_lk ls 1 = some (.long w)) (hl3 : mm_lk ls 3 = some (.int (nI m))) (hl4 : mm_lk ls 4 = some (.int (sh n))), sc w n m = none → Ev xs L d 7 6 ls [] h 0 0 (.inl (some (.int 0)), h, 0, 0) := by
  intro n
  induction n with
  | zero => intro _ m ls _ _ _ _ hs; cases hs
  | succ n ih =>
    intro hn m ls hl0 hl1 hl3 hl4 hs
    rw [sc] at hs
    refine e_iload m_X5_addAll dX5_addAll_6 hl4 ?_
    refine e_ifF (t := 43) m_X5_addAll dX5_addAll_8 (by decide) (sh_nn n (by omega)) ?_
    refine e_lload_n m_X5_addAll dX5_addAll_11 rfl hl1 ?_
    refine e_iload m_X5_addAll dX5_addAll_12 hl4 ?_
    refine e_cs (as := [.long w, .int (sh (n + 1))]) m_X5_addAll dX5_addAll_14 c_RX5_36 (by decide) rfl rfl (Nat.le_of_ble_eq_true rfl) (Nat.le_of_ble_eq_true rfl) hd t_byteOf ?_
    refine e_istore (ls' := mm_s1 ls 5 (.int (bC w (sh (n + 1))))) m_X5_addAll dX5_addAll_17 (by decide) rfl ?_
    refine e_iload m_X5_addAll dX5_addAll_19 lk_hit ?_
    by_cases hb : bC w (sh (n + 1)) = 0
    · rw [if_pos hb] at hs
      refine e_ifT (t := 37) m_X5_addAll dX5_addAll_21 (by decide) (decide_eq_true hb) ?_
      refine e_iinc m_X5_addAll dX5_addAll_37 (by decide) (lk_mis (by decide) rfl hl4) (sh_dn n (by omega)) rfl ?_
      refine e_goto (t := 6) m_X5_addAll dX5_addAll_40 (by decide) ?_
      exact ih (by omega) m _ (lk_mis (by decide) rfl (lk_mis (by decide) rfl hl0)) (lk_mis2 (by decide) (by decide) (lk_mis2 (by decide) (by decide) hl1)) (lk_mis (by decide) rfl (lk_mis (by decide) rfl hl3)) lk_hit hs
    · rw [if_neg hb] at hs
      refine e_ifF (t := 37) m_X5_addAll dX5_addAll_21 (by decide) (decide_eq_false hb) ?_
      refine e_iload m_X5_addAll dX5_addAll_24 lk_hit ?_
      refine e_cs (as := [_]) m_X5_addAll dX5_addAll_26 c_RX5_23 (by decide) rfl rfl (Nat.le_of_ble_eq_true rfl) (Nat.le_of_ble_eq_true rfl) hd t_exists ?_
      by_cases hx : exB (bC w (sh (n + 1))) = 0
      · refine e_ifF (t := 34) m_X5_addAll dX5_addAll_29 (by decide) (decide_eq_false (fun q => q hx)) ?_
        refine e_iconst (v := 0) m_X5_addAll dX5_addAll_32 (by decide) ?_
        exact e_reti m_X5_addAll dX5_addAll_33 (Or.inr ⟨rfl, by decide⟩)
      · rw [if_neg hx] at hs
        refine e_ifT (t := 34) m_X5_addAll dX5_addAll_29 (by decide) (decide_eq_true hx) ?_
        refine e_iinc m_X5_addAll dX5_addAll_34 (by decide) (lk_mis (by decide) rfl hl3) (nI_succ m).symm rfl ?_
        refine e_iinc m_X5_addAll dX5_addAll_37 (by decide) (lk_mis (by decide) rfl (lk_mis (by decide) rfl hl4)) (sh_dn n (by omega)) rfl ?_
        refine e_goto (t := 6) m_X5_addAll dX5_addAll_40 (by decide) ?_
        exact ih (by omega) (m + 1) _ (lk_mis (by decide) rfl (lk_mis (by decide) rfl (lk_mis (by decide) rfl hl0))) (lk_mis2 (by decide) (by decide) (lk_mis2 (by decide) (by decide) (lk_mis2 (by decide) (by decide) hl1))) (lk_mis (by decide) rfl lk_hit) lk_hit hs
theorem t_scanS {xs : Nat → Int32} {L d : Nat} {h : mm_H} {w : Int64} (hd : 2 ≤ d) : ∀ n, n ≤ 8 → ∀ (m r : Nat) (ls : mm_L) (hl0 : mm_lk ls 0 = some (.ref 0)) (hl1 : mm_lk ls 1 = some (.long w)) (hl3 : mm_lk ls 3 = some (.int (nI m))) (hl4 : mm_lk ls 4 = some (.int (sh n))), sc w n m = some r → ∃ ls' : mm_L, mm_lk ls' 0 = some (.ref 0) ∧ mm_lk ls' 1 = some (.long w) ∧ mm_lk ls' 3 = some (.int (nI r)) ∧ ∀ o, Ev xs L d 7 43 ls' [] h 0 0 o → Ev xs L d 7 6 ls [] h 0 0 o := by
  intro n
  induction n with
  | zero =>
    intro _ m r ls hl0 hl1 hl3 hl4 hs
    cases hs
    refine ⟨ls, hl0, hl1, hl3, fun o K => ?_⟩
    refine e_iload m_X5_addAll dX5_addAll_6 hl4 ?_
    exact e_ifT (t := 43) m_X5_addAll dX5_addAll_8 (by decide) (by decide) K
  | succ n ih =>
    intro hn m r ls hl0 hl1 hl3 hl4 hs
    rw [sc] at hs
    by_cases hb : bC w (sh (n + 1)) = 0
    · rw [if_pos hb] at hs
      obtain ⟨ls', g0, g1, g3, K⟩ := ih (by omega) m r (mm_s1 (mm_s1 ls 5 (.int (bC w (sh (n + 1))))) 4 (.int (sh n))) (lk_mis (by decide) rfl (lk_mis (by decide) rfl hl0)) (lk_mis2 (by decide) (by decide) (lk_mis2 (by decide) (by decide) hl1)) (lk_mis (by decide) rfl (lk_mis (by decide) rfl hl3)) lk_hit hs
      refine ⟨ls', g0, g1, g3, fun o k => ?_⟩
      refine e_iload m_X5_addAll dX5_addAll_6 hl4 ?_
      refine e_ifF (t := 43) m_X5_addAll dX5_addAll_8 (by decide) (sh_nn n (by omega)) ?_
      refine e_lload_n m_X5_addAll dX5_addAll_11 rfl hl1 ?_
      refine e_iload m_X5_addAll dX5_addAll_12 hl4 ?_
      refine e_cs (as := [.long w, .int (sh (n + 1))]) m_X5_addAll dX5_addAll_14 c_RX5_36 (by decide) rfl rfl (Nat.le_of_ble_eq_true rfl) (Nat.le_of_ble_eq_true rfl) hd t_byteOf ?_
      refine e_istore (ls' := mm_s1 ls 5 (.int (bC w (sh (n + 1))))) m_X5_addAll dX5_addAll_17 (by decide) rfl ?_
      refine e_iload m_X5_addAll dX5_addAll_19 lk_hit ?_
    
      refine e_ifT (t := 37) m_X5_addAll dX5_addAll_21 (by decide) (decide_eq_true hb) ?_
      refine e_iinc m_X5_addAll dX5_addAll_37 (by decide) (lk_mis (by decide) rfl hl4) (sh_dn n (by omega)) rfl ?_
      refine e_goto (t := 6) m_X5_addAll dX5_addAll_40 (by decide) ?_
      exact K o k
    · rw [if_neg hb] at hs
      by_cases hx : exB (bC w (sh (n + 1))) = 0
      · rw [if_pos hx] at hs; cases hs
      · rw [if_neg hx] at hs
        obtain ⟨ls', g0, g1, g3, K⟩ := ih (by omega) (m + 1) r (mm_s1 (mm_s1 (mm_s1 ls 5 (.int (bC w (sh (n + 1))))) 3 (.int (nI (m + 1)))) 4 (.int (sh n))) (lk_mis (by decide) rfl (lk_mis (by decide) rfl (lk_mis (by decide) rfl hl0))) (lk_mis2 (by decide) (by decide) (lk_mis2 (by decide) (by decide) (lk_mis2 (by decide) (by decide) hl1))) (lk_mis (by decide) rfl lk_hit) lk_hit hs
        refine ⟨ls', g0, g1, g3, fun o k => ?_⟩
        refine e_iload m_X5_addAll dX5_addAll_6 hl4 ?_
        refine e_ifF (t := 43) m_X5_addAll dX5_addAll_8 (by decide) (sh_nn n (by omega)) ?_
        refine e_lload_n m_X5_addAll dX5_addAll_11 rfl hl1 ?_
        refine e_iload m_X5_addAll dX5_addAll_12 hl4 ?_
        refine e_cs (as := [.long w, .int (sh (n + 1))]) m_X5_addAll dX5_addAll_14 c_RX5_36 (by decide) rfl rfl (Nat.le_of_ble_eq_true rfl) (Nat.le_of_ble_eq_true rfl) hd t_byteOf ?_
        refine e_istore (ls' := mm_s1 ls 5 (.int (bC w (sh (n + 1))))) m_X5_addAll dX5_addAll_17 (by decide) rfl ?_
        refine e_iload m_X5_addAll dX5_addAll_19 lk_hit ?_
        refine e_ifF (t := 37) m_X5_addAll dX5_addAll_21 (by decide) (decide_eq_false hb) ?_
        refine e_iload m_X5_addAll dX5_addAll_24 lk_hit ?_
        refine e_cs (as := [_]) m_X5_addAll dX5_addAll_26 c_RX5_23 (by decide) rfl rfl (Nat.le_of_ble_eq_true rfl) (Nat.le_of_ble_eq_true rfl) hd t_exists ?_
        refine e_ifT (t := 34) m_X5_addAll dX5_addAll_29 (by decide) (decide_eq_true hx) ?_
        refine e_iinc m_X5_addAll dX5_addAll_34 (by decide) (lk_mis (by decide) rfl hl3) (nI_succ m).symm rfl ?_
        refine e_iinc m_X5_addAll dX5_addAll_37 (by decide) (lk_mis (by decide) rfl (lk_mis (by decide) rfl hl4)) (sh_dn n (by omega)) rfl ?_
        refine e_goto (t := 6) m_X5_addAll dX5_addAll_40 (by decide) ?_
        exact K o k
theorem t_appl {xs : Nat → Int32} {L d : Nat} {us nb th ct md nd td at' dp wr rw : Int32} {kg fW fT fP fF fL fN gD gN gT : Nat → Int32} {t : mm_H} {w : Int64} (hd : 2 ≤ d) : ∀ n, n ≤ 8 → ∀ (cnt : Int32) (kf : Nat → Int32) (ls : mm_L) (hl0 : mm_lk ls 0 = some (.ref 0)) (hl1 : mm_lk ls 1 = some (.long w)) (hl4 : mm_lk ls 4 = some (.int (sh n))), ∃ (cnt2 : Int32) (kf2 : Nat → Int32), Ev xs L d 7 60 ls [] (qh cnt kf us nb th ct md nd td at' dp wr rw kg fW fT fP fF fL fN gD gN gT t) 0 0 (.inl (some (.int 1)), qh cnt2 kf2 us nb th ct md nd td at' dp wr rw kg fW fT fP fF fL fN gD gN gT t, 0, 0) := by
  intro n
  induction n with
  | zero =>
    intro _ cnt kf ls hl0 hl1 hl4
    refine ⟨cnt, kf, ?_⟩
    refine e_iload m_X5_addAll dX5_addAll_60 hl4 ?_
    refine e_ifT (t := 93) m_X5_addAll dX5_addAll_62 (by decide) (by decide) ?_
    refine e_iconst (v := 1) m_X5_addAll dX5_addAll_93 (by decide) ?_
    exact e_reti m_X5_addAll dX5_addAll_94 (Or.inr ⟨rfl, by decide⟩)
  | succ n ih =>
    intro hn cnt kf ls hl0 hl1 hl4
    by_cases hb : bC w (sh (n + 1)) = 0
    · obtain ⟨cnt2, kf2, K⟩ := ih (by omega) cnt kf (mm_s1 (mm_s1 ls 5 (.int (bC w (sh (n + 1))))) 4 (.int (sh n))) (lk_mis (by decide) rfl (lk_mis (by decide) rfl hl0)) (lk_mis2 (by decide) (by decide) (lk_mis2 (by decide) (by decide) hl1)) lk_hit
      refine ⟨cnt2, kf2, ?_⟩
      refine e_iload m_X5_addAll dX5_addAll_60 hl4 ?_
      refine e_ifF (t := 93) m_X5_addAll dX5_addAll_62 (by decide) (sh_nn n (by omega)) ?_
      refine e_lload_n m_X5_addAll dX5_addAll_65 rfl hl1 ?_
      refine e_iload m_X5_addAll dX5_addAll_66 hl4 ?_
      refine e_cs (as := [.long w, .int (sh (n + 1))]) m_X5_addAll dX5_addAll_68 c_RX5_36 (by decide) rfl rfl (Nat.le_of_ble_eq_true rfl) (Nat.le_of_ble_eq_true rfl) hd t_byteOf ?_
      refine e_istore (ls' := mm_s1 ls 5 (.int (bC w (sh (n + 1))))) m_X5_addAll dX5_addAll_71 (by decide) rfl ?_
      refine e_iload m_X5_addAll dX5_addAll_73 lk_hit ?_
      refine e_ifT (t := 87) m_X5_addAll dX5_addAll_75 (by decide) (decide_eq_true hb) ?_
      refine e_iinc m_X5_addAll dX5_addAll_87 (by decide) (lk_mis (by decide) rfl hl4) (sh_dn n (by omega)) rfl ?_
      refine e_goto (t := 60) m_X5_addAll dX5_addAll_90 (by decide) ?_
      exact K
    · obtain ⟨cnt1, kf1, R⟩ := t_append (xs := xs) (L := L) (d := d - 1) (cnt := cnt) (kf := kf) (us := us) (nb := nb) (th := th) (ct := ct) (md := md) (nd := nd) (td := td) (at' := at') (dp := dp) (wr := wr) (rw := rw) (kg := kg) (fW := fW) (fT := fT) (fP := fP) (fF := fF) (fL := fL) (fN := fN) (gD := gD) (gN := gN) (gT := gT) (t := t) (x := bC w (sh (n + 1))) (by omega)
      obtain ⟨cnt2, kf2, K⟩ := ih (by omega) cnt1 kf1 (mm_s1 (mm_s1 ls 5 (.int (bC w (sh (n + 1))))) 4 (.int (sh n))) (lk_mis (by decide) rfl (lk_mis (by decide) rfl hl0)) (lk_mis2 (by decide) (by decide) (lk_mis2 (by decide) (by decide) hl1)) lk_hit
      refine ⟨cnt2, kf2, ?_⟩
      refine e_iload m_X5_addAll dX5_addAll_60 hl4 ?_
      refine e_ifF (t := 93) m_X5_addAll dX5_addAll_62 (by decide) (sh_nn n (by omega)) ?_
      refine e_lload_n m_X5_addAll dX5_addAll_65 rfl hl1 ?_
      refine e_iload m_X5_addAll dX5_addAll_66 hl4 ?_
      refine e_cs (as := [.long w, .int (sh (n + 1))]) m_X5_addAll dX5_addAll_68 c_RX5_36 (by decide) rfl rfl (Nat.le_of_ble_eq_true rfl) (Nat.le_of_ble_eq_true rfl) hd t_byteOf ?_
      refine e_istore (ls' := mm_s1 ls 5 (.int (bC w (sh (n + 1))))) m_X5_addAll dX5_addAll_71 (by decide) rfl ?_
      refine e_iload m_X5_addAll dX5_addAll_73 lk_hit ?_
      refine e_ifF (t := 87) m_X5_addAll dX5_addAll_75 (by decide) (decide_eq_false hb) ?_
      refine e_aload_n m_X5_addAll dX5_addAll_78 rfl (lk_mis (by decide) rfl hl0) rfl ?_
      refine e_getf m_X5_addAll dX5_addAll_79 f_RX5_10 qg0 rfl ?_
      refine e_iload m_X5_addAll dX5_addAll_82 lk_hit ?_
      refine e_cv (as := [_]) m_X5_addAll dX5_addAll_84 c_RX5_32 (by decide) rfl rfl qg1 rfl (Nat.le_of_ble_eq_true rfl) (Nat.le_of_ble_eq_true rfl) hd R ?_
      refine e_iinc m_X5_addAll dX5_addAll_87 (by decide) (lk_mis (by decide) rfl hl4) (sh_dn n (by omega)) rfl ?_
      refine e_goto (t := 60) m_X5_addAll dX5_addAll_90 (by decide) ?_
      exact K
theorem t_addAll0 {xs : Nat → Int32} {L d : Nat} {h : mm_H} {w : Int64} (hd : 2 ≤ d) (hs : sc w 8 0 = none) : Rn xs L d 7 [.ref 0, .long w] h (.inl (some (.int 0)), h, 0, 0) := by
  unfold Rn
  refine e_iconst (v := nI 0) m_X5_addAll dX5_addAll_0 (by decide) ?_
  refine e_istore_n m_X5_addAll dX5_addAll_1 rfl (by decide) rfl ?_
  refine e_bipush (v := sh 8) m_X5_addAll dX5_addAll_2 (by decide) ?_
  refine e_istore m_X5_addAll dX5_addAll_4 (by decide) rfl ?_
  exact t_scanN hd 8 (by omega) 0 _ rfl rfl rfl rfl hs
theorem t_addAll1 {xs : Nat → Int32} {L d : Nat} {kf : Nat → Int32} {us nb th ct md nd td at' dp wr rw : Int32} {kg fW fT fP fF fL fN gD gN gT : Nat → Int32} {t : mm_H} {w : Int64} {r : Nat} (hd : 2 ≤ d) (hs : sc w 8 0 = some r) : ∃ (cnt2 : Int32) (kf2 : Nat → Int32), Rn xs L d 7 [.ref 0, .long w] (qh 0 kf us nb th ct md nd td at' dp wr rw kg fW fT fP fF fL fN gD gN gT t) (.inl (some (.int 1)), qh cnt2 kf2 us nb th ct md nd td at' dp wr rw kg fW fT fP fF fL fN gD gN gT t, 0, 0) := by
  have hr := sc_le w 8 0 r hs
  obtain ⟨ls', g0, g1, g3, K⟩ := t_scanS (xs := xs) (L := L) (h := qh 0 kf us nb th ct md nd td at' dp wr rw kg fW fT fP fF fL fN gD gN gT t) hd 8 (by omega) 0 r [(4, .int (sh 8)), (3, .int (nI 0)), (0, .ref 0), (1, .long w)] rfl rfl rfl rfl hs
  obtain ⟨cnt2, kf2, K2⟩ := t_appl (xs := xs) (L := L) (us := us) (nb := nb) (th := th) (ct := ct) (md := md) (nd := nd) (td := td) (at' := at') (dp := dp) (wr := wr) (rw := rw) (kg := kg) (fW := fW) (fT := fT) (fP := fP) (fF := fF) (fL := fL) (fN := fN) (gD := gD) (gN := gN) (gT := gT) (t := t) hd 8 (by omega) 0 kf (mm_s1 ls' 4 (.int (sh 8))) (lk_mis (by decide) rfl g0) (lk_mis2 (by decide) (by decide) g1) lk_hit
  refine ⟨cnt2, kf2, ?_⟩
  unfold Rn
  refine e_iconst (v := nI 0) m_X5_addAll dX5_addAll_0 (by decide) ?_
  refine e_istore_n m_X5_addAll dX5_addAll_1 rfl (by decide) rfl ?_
  refine e_bipush (v := sh 8) m_X5_addAll dX5_addAll_2 (by decide) ?_
  refine e_istore m_X5_addAll dX5_addAll_4 (by decide) rfl ?_
  refine K _ ?_
  refine e_aload_n m_X5_addAll dX5_addAll_43 rfl g0 rfl ?_
  refine e_getf m_X5_addAll dX5_addAll_44 f_RX5_10 qg0 rfl ?_
  refine e_iload_n m_X5_addAll dX5_addAll_47 rfl g3 ?_
  refine e_cv (as := [_]) m_X5_addAll dX5_addAll_48 c_RX5_29 (by decide) rfl rfl qg1 rfl (Nat.le_of_ble_eq_true rfl) (Nat.le_of_ble_eq_true rfl) hd (t_room (decide_eq_false (by rw [show (16384 : Int32) - 0 = nI 16384 by decide, nI_ltI (by decide) (by omega)]; omega)) (by omega)) ?_
  refine e_ifT (t := 56) m_X5_addAll dX5_addAll_51 (by decide) (by decide) ?_
  refine e_bipush (v := sh 8) m_X5_addAll dX5_addAll_56 (by decide) ?_
  refine e_istore m_X5_addAll dX5_addAll_58 (by decide) rfl ?_
  exact K2
