/-! The class's cells in a heap that grows; build. -/
theorem hp_eq {h : mm_H} {σ : Nat → Option mm_E} (hs : ∀ k e, σ k = some e → h[k]? = some e) : hp h σ = h := by
  apply List.ext_getElem?
  intro k
  unfold hp
  rw [List.getElem?_mapIdx]
  cases hk : h[k]? with
  | none => rfl
  | some x =>
    cases hσ : σ k with
    | none => simp [hσ]
    | some e =>
      have h9 := hs k e hσ
      rw [hk] at h9
      cases h9
      simp [hσ]
def Ck (h : mm_H) (a N : Nat) (cnt us nb : Int32) (kf f1 f2 f3 f4 f5 f6 : Nat → Int32) : Prop := ∀ k e, sK a N cnt us nb kf f1 f2 f3 f4 f5 f6 k = some e → h[k]? = some e
section CKS
variable {h h0 h1 : mm_H} {a N : Nat} {cnt us nb : Int32} {kf f1 f2 f3 f4 f5 f6 : Nat → Int32}
theorem HK_eq (C : Ck h a N cnt us nb kf f1 f2 f3 f4 f5 f6) : HK h a N cnt us nb kf f1 f2 f3 f4 f5 f6 = h := hp_eq C
theorem sK_len {k : Nat} {e : mm_E} (hs : sK a N cnt us nb kf f1 f2 f3 f4 f5 f6 k = some e) : k ≤ 3 ∨ (a ≤ k ∧ k ≤ a + 5) := by
  by_cases h9 : k ≤ 3 ∨ (a ≤ k ∧ k ≤ a + 5)
  · exact h9
  · unfold sK at hs
    rw [if_neg (by omega), if_neg (by omega), if_neg (by omega), if_neg (by omega), if_neg (by omega), if_neg (by omega), if_neg (by omega), if_neg (by omega), if_neg (by omega), if_neg (by omega)] at hs
    cases hs
theorem sK_no {k : Nat} (h9 : ¬ (k ≤ 3 ∨ (a ≤ k ∧ k ≤ a + 5))) : sK a N cnt us nb kf f1 f2 f3 f4 f5 f6 k = none := by
  unfold sK
  rw [if_neg (by omega), if_neg (by omega), if_neg (by omega), if_neg (by omega), if_neg (by omega), if_neg (by omega), if_neg (by omega), if_neg (by omega), if_neg (by omega), if_neg (by omega)]
theorem Ck_HK (hK : Hk h0 a N) : Ck (HK h0 a N cnt us nb kf f1 f2 f3 f4 f5 f6) a N cnt us nb kf f1 f2 f3 f4 f5 f6 := fun k e hs => by
  have h9 := sK_len hs
  exact hp_get (by have := hK.2.1; omega) hs
/-- a place that is none of the class's -/
theorem HK_fr {k : Nat} (h9 : ¬ (k ≤ 3 ∨ (a ≤ k ∧ k ≤ a + 5))) : (HK h0 a N cnt us nb kf f1 f2 f3 f4 f5 f6)[k]? = h0[k]? := hp_get0 (sK_no h9)
theorem HK_len : (HK h0 a N cnt us nb kf f1 f2 f3 f4 f5 f6).length = h0.length := hp_len
theorem Ck_hk (C : Ck h a N cnt us nb kf f1 f2 f3 f4 f5 f6) (h4 : 4 ≤ a) (hN : N < 2147483648) : Hk h a N := by
  refine ⟨h4, ?_, hN⟩
  have h5 := C (a + 5) _ (show sK a N cnt us nb kf f1 f2 f3 f4 f5 f6 (a + 5) = some (.inl (0, N, .inl f6)) by unfold sK; rw [if_neg (by omega), if_neg (by omega), if_neg (by omega), if_neg (by omega), if_neg (by omega), if_neg (by omega), if_neg (by omega), if_neg (by omega), if_neg (by omega), if_pos rfl])
  have h6 := List.getElem?_eq_some_iff.mp h5
  obtain ⟨h7, -⟩ := h6
  omega
theorem Ck_of (c0 : h[0]? = some (.inr (3, [.ref 1, .ref 3]))) (c1 : h[1]? = some (.inr (1, [.ref 2, .int cnt]))) (c2 : h[2]? = some (.inl (1, 16384, .inl kf))) (c3 : h[3]? = some (.inr (2, [.ref a, .ref (a + 1), .ref (a + 2), .ref (a + 3), .ref (a + 4), .ref (a + 5), .int us, .int nb]))) (r1 : h[a]? = some (.inl (0, N, .inl f1))) (r2 : h[a + 1]? = some (.inl (0, N, .inl f2))) (r3 : h[a + 2]? = some (.inl (0, N, .inl f3))) (r4 : h[a + 3]? = some (.inl (0, N, .inl f4))) (r5 : h[a + 4]? = some (.inl (0, N, .inl f5))) (r6 : h[a + 5]? = some (.inl (0, N, .inl f6))) : Ck h a N cnt us nb kf f1 f2 f3 f4 f5 f6 := by
  intro k e hs
  unfold sK at hs
  repeat' split at hs
  all_goals first
    | (rename_i q; rw [q]; rw [← hs]; assumption)
    | cases hs
theorem Ck.of4 (C : Ck h a N cnt us nb kf f1 f2 f3 f4 f5 f6) (h4 : 4 ≤ a) : h[0]? = some (.inr (3, [.ref 1, .ref 3])) ∧ h[1]? = some (.inr (1, [.ref 2, .int cnt])) ∧ h[2]? = some (.inl (1, 16384, .inl kf)) ∧ h[3]? = some (.inr (2, [.ref a, .ref (a + 1), .ref (a + 2), .ref (a + 3), .ref (a + 4), .ref (a + 5), .int us, .int nb])) := by
  refine ⟨C 0 _ ?_, C 1 _ ?_, C 2 _ ?_, C 3 _ ?_⟩
  · unfold sK; rw [if_pos rfl]
  · unfold sK; rw [if_neg (by omega), if_pos rfl]
  · unfold sK; rw [if_neg (by omega), if_neg (by omega), if_pos rfl]
  · unfold sK; rw [if_neg (by omega), if_neg (by omega), if_neg (by omega), if_pos rfl]
/-- one cell more, and another Tree -/
def sH (h : mm_H) (e row : mm_E) : mm_H := (h ++ [row]).set 3 e
theorem sH_len {e row : mm_E} : (sH h e row).length = h.length + 1 := by unfold sH; rw [List.length_set, List.length_append]; rfl
theorem sH_3 {e row : mm_E} (hl : 4 ≤ h.length) : (sH h e row)[3]? = some e := by
  unfold sH
  rw [List.getElem?_set, if_pos rfl, if_pos (by rw [List.length_append]; omega)]
theorem sH_k {e row : mm_E} {k : Nat} (hk : k < h.length) (h3 : k ≠ 3) : (sH h e row)[k]? = h[k]? := by
  unfold sH
  rw [List.getElem?_set, if_neg (by omega), List.getElem?_append_left hk]
theorem sH_l {e row : mm_E} (hl : 4 ≤ h.length) : (sH h e row)[h.length]? = some row := by
  unfold sH
  rw [List.getElem?_set, if_neg (by omega), List.getElem?_append_right (Nat.le_refl _), Nat.sub_self]
  rfl
end CKS
theorem fit_r0 {q : Nat} : mm_fits 2 0 (.ref q) = true := by
  simp only [mm_fits, Bool.and_eq_true, decide_eq_true_eq]
  exact ⟨rfl, rfl⟩
theorem fit_r1 {q : Nat} : mm_fits 2 1 (.ref q) = true := by
  simp only [mm_fits, Bool.and_eq_true, decide_eq_true_eq]
  exact ⟨rfl, rfl⟩
theorem fit_r2 {q : Nat} : mm_fits 2 2 (.ref q) = true := by
  simp only [mm_fits, Bool.and_eq_true, decide_eq_true_eq]
  exact ⟨rfl, rfl⟩
theorem fit_r3 {q : Nat} : mm_fits 2 3 (.ref q) = true := by
  simp only [mm_fits, Bool.and_eq_true, decide_eq_true_eq]
  exact ⟨rfl, rfl⟩
theorem fit_r4 {q : Nat} : mm_fits 2 4 (.ref q) = true := by
  simp only [mm_fits, Bool.and_eq_true, decide_eq_true_eq]
  exact ⟨rfl, rfl⟩
theorem fit_r5 {q : Nat} : mm_fits 2 5 (.ref q) = true := by
  simp only [mm_fits, Bool.and_eq_true, decide_eq_true_eq]
  exact ⟨rfl, rfl⟩
theorem t_makeRows {xs : Nat → Int32} {L d : Nat} {h : mm_H} {a N r p : Nat} {cnt us nb : Int32} {kf f1 f2 f3 f4 f5 f6 : Nat → Int32} (C : Ck h a N cnt us nb kf f1 f2 f3 f4 f5 f6) (h4 : 4 ≤ a) (hl : 29 ≤ h.length) (hp : h.length = p) (hr : 0 < r) (hr2 : r ≤ 1000000) : ∃ (h1 : mm_H) (z1 : Nat), Rn xs L d 11 [.ref 3, .int (nI r)] h (.inl none, h1, 6, z1) ∧ z1 = 6 * r ∧ Ck h1 p r cnt us nb kf z0 z0 z0 z0 z0 z0 ∧ h1.length = p + 6 ∧ ∀ k, k < p → k ≠ 3 → h1[k]? = h[k]? := by
  obtain ⟨c0, c1, c2, c3⟩ := C.of4 h4
  have l1 : (sH (h) (.inr (2, [.ref p, .ref (a + 1), .ref (a + 2), .ref (a + 3), .ref (a + 4), .ref (a + 5), .int us, .int nb])) (.inl (0, r, .inl z0))).length = p + 1 := by rw [sH_len]; omega
  have l2 : (sH (sH (h) (.inr (2, [.ref p, .ref (a + 1), .ref (a + 2), .ref (a + 3), .ref (a + 4), .ref (a + 5), .int us, .int nb])) (.inl (0, r, .inl z0))) (.inr (2, [.ref p, .ref (p + 1), .ref (a + 2), .ref (a + 3), .ref (a + 4), .ref (a + 5), .int us, .int nb])) (.inl (0, r, .inl z0))).length = p + 2 := by rw [sH_len]; rw [l1]
  have l3 : (sH (sH (sH (h) (.inr (2, [.ref p, .ref (a + 1), .ref (a + 2), .ref (a + 3), .ref (a + 4), .ref (a + 5), .int us, .int nb])) (.inl (0, r, .inl z0))) (.inr (2, [.ref p, .ref (p + 1), .ref (a + 2), .ref (a + 3), .ref (a + 4), .ref (a + 5), .int us, .int nb])) (.inl (0, r, .inl z0))) (.inr (2, [.ref p, .ref (p + 1), .ref (p + 2), .ref (a + 3), .ref (a + 4), .ref (a + 5), .int us, .int nb])) (.inl (0, r, .inl z0))).length = p + 3 := by rw [sH_len]; rw [l2]
  have l4 : (sH (sH (sH (sH (h) (.inr (2, [.ref p, .ref (a + 1), .ref (a + 2), .ref (a + 3), .ref (a + 4), .ref (a + 5), .int us, .int nb])) (.inl (0, r, .inl z0))) (.inr (2, [.ref p, .ref (p + 1), .ref (a + 2), .ref (a + 3), .ref (a + 4), .ref (a + 5), .int us, .int nb])) (.inl (0, r, .inl z0))) (.inr (2, [.ref p, .ref (p + 1), .ref (p + 2), .ref (a + 3), .ref (a + 4), .ref (a + 5), .int us, .int nb])) (.inl (0, r, .inl z0))) (.inr (2, [.ref p, .ref (p + 1), .ref (p + 2), .ref (p + 3), .ref (a + 4), .ref (a + 5), .int us, .int nb])) (.inl (0, r, .inl z0))).length = p + 4 := by rw [sH_len]; rw [l3]
  have l5 : (sH (sH (sH (sH (sH (h) (.inr (2, [.ref p, .ref (a + 1), .ref (a + 2), .ref (a + 3), .ref (a + 4), .ref (a + 5), .int us, .int nb])) (.inl (0, r, .inl z0))) (.inr (2, [.ref p, .ref (p + 1), .ref (a + 2), .ref (a + 3), .ref (a + 4), .ref (a + 5), .int us, .int nb])) (.inl (0, r, .inl z0))) (.inr (2, [.ref p, .ref (p + 1), .ref (p + 2), .ref (a + 3), .ref (a + 4), .ref (a + 5), .int us, .int nb])) (.inl (0, r, .inl z0))) (.inr (2, [.ref p, .ref (p + 1), .ref (p + 2), .ref (p + 3), .ref (a + 4), .ref (a + 5), .int us, .int nb])) (.inl (0, r, .inl z0))) (.inr (2, [.ref p, .ref (p + 1), .ref (p + 2), .ref (p + 3), .ref (p + 4), .ref (a + 5), .int us, .int nb])) (.inl (0, r, .inl z0))).length = p + 5 := by rw [sH_len]; rw [l4]
  have l6 : (sH (sH (sH (sH (sH (sH (h) (.inr (2, [.ref p, .ref (a + 1), .ref (a + 2), .ref (a + 3), .ref (a + 4), .ref (a + 5), .int us, .int nb])) (.inl (0, r, .inl z0))) (.inr (2, [.ref p, .ref (p + 1), .ref (a + 2), .ref (a + 3), .ref (a + 4), .ref (a + 5), .int us, .int nb])) (.inl (0, r, .inl z0))) (.inr (2, [.ref p, .ref (p + 1), .ref (p + 2), .ref (a + 3), .ref (a + 4), .ref (a + 5), .int us, .int nb])) (.inl (0, r, .inl z0))) (.inr (2, [.ref p, .ref (p + 1), .ref (p + 2), .ref (p + 3), .ref (a + 4), .ref (a + 5), .int us, .int nb])) (.inl (0, r, .inl z0))) (.inr (2, [.ref p, .ref (p + 1), .ref (p + 2), .ref (p + 3), .ref (p + 4), .ref (a + 5), .int us, .int nb])) (.inl (0, r, .inl z0))) (.inr (2, [.ref p, .ref (p + 1), .ref (p + 2), .ref (p + 3), .ref (p + 4), .ref (p + 5), .int us, .int nb])) (.inl (0, r, .inl z0))).length = p + 6 := by rw [sH_len]; rw [l5]
  have g1 : (sH (h) (.inr (2, [.ref p, .ref (a + 1), .ref (a + 2), .ref (a + 3), .ref (a + 4), .ref (a + 5), .int us, .int nb])) (.inl (0, r, .inl z0)))[3]? = some (.inr (2, [.ref p, .ref (a + 1), .ref (a + 2), .ref (a + 3), .ref (a + 4), .ref (a + 5), .int us, .int nb])) := sH_3 (by omega)
  have g2 : (sH (sH (h) (.inr (2, [.ref p, .ref (a + 1), .ref (a + 2), .ref (a + 3), .ref (a + 4), .ref (a + 5), .int us, .int nb])) (.inl (0, r, .inl z0))) (.inr (2, [.ref p, .ref (p + 1), .ref (a + 2), .ref (a + 3), .ref (a + 4), .ref (a + 5), .int us, .int nb])) (.inl (0, r, .inl z0)))[3]? = some (.inr (2, [.ref p, .ref (p + 1), .ref (a + 2), .ref (a + 3), .ref (a + 4), .ref (a + 5), .int us, .int nb])) := sH_3 (by omega)
  have g3 : (sH (sH (sH (h) (.inr (2, [.ref p, .ref (a + 1), .ref (a + 2), .ref (a + 3), .ref (a + 4), .ref (a + 5), .int us, .int nb])) (.inl (0, r, .inl z0))) (.inr (2, [.ref p, .ref (p + 1), .ref (a + 2), .ref (a + 3), .ref (a + 4), .ref (a + 5), .int us, .int nb])) (.inl (0, r, .inl z0))) (.inr (2, [.ref p, .ref (p + 1), .ref (p + 2), .ref (a + 3), .ref (a + 4), .ref (a + 5), .int us, .int nb])) (.inl (0, r, .inl z0)))[3]? = some (.inr (2, [.ref p, .ref (p + 1), .ref (p + 2), .ref (a + 3), .ref (a + 4), .ref (a + 5), .int us, .int nb])) := sH_3 (by omega)
  have g4 : (sH (sH (sH (sH (h) (.inr (2, [.ref p, .ref (a + 1), .ref (a + 2), .ref (a + 3), .ref (a + 4), .ref (a + 5), .int us, .int nb])) (.inl (0, r, .inl z0))) (.inr (2, [.ref p, .ref (p + 1), .ref (a + 2), .ref (a + 3), .ref (a + 4), .ref (a + 5), .int us, .int nb])) (.inl (0, r, .inl z0))) (.inr (2, [.ref p, .ref (p + 1), .ref (p + 2), .ref (a + 3), .ref (a + 4), .ref (a + 5), .int us, .int nb])) (.inl (0, r, .inl z0))) (.inr (2, [.ref p, .ref (p + 1), .ref (p + 2), .ref (p + 3), .ref (a + 4), .ref (a + 5), .int us, .int nb])) (.inl (0, r, .inl z0)))[3]? = some (.inr (2, [.ref p, .ref (p + 1), .ref (p + 2), .ref (p + 3), .ref (a + 4), .ref (a + 5), .int us, .int nb])) := sH_3 (by omega)
  have g5 : (sH (sH (sH (sH (sH (h) (.inr (2, [.ref p, .ref (a + 1), .ref (a + 2), .ref (a + 3), .ref (a + 4), .ref (a + 5), .int us, .int nb])) (.inl (0, r, .inl z0))) (.inr (2, [.ref p, .ref (p + 1), .ref (a + 2), .ref (a + 3), .ref (a + 4), .ref (a + 5), .int us, .int nb])) (.inl (0, r, .inl z0))) (.inr (2, [.ref p, .ref (p + 1), .ref (p + 2), .ref (a + 3), .ref (a + 4), .ref (a + 5), .int us, .int nb])) (.inl (0, r, .inl z0))) (.inr (2, [.ref p, .ref (p + 1), .ref (p + 2), .ref (p + 3), .ref (a + 4), .ref (a + 5), .int us, .int nb])) (.inl (0, r, .inl z0))) (.inr (2, [.ref p, .ref (p + 1), .ref (p + 2), .ref (p + 3), .ref (p + 4), .ref (a + 5), .int us, .int nb])) (.inl (0, r, .inl z0)))[3]? = some (.inr (2, [.ref p, .ref (p + 1), .ref (p + 2), .ref (p + 3), .ref (p + 4), .ref (a + 5), .int us, .int nb])) := sH_3 (by omega)
  have g6 : (sH (sH (sH (sH (sH (sH (h) (.inr (2, [.ref p, .ref (a + 1), .ref (a + 2), .ref (a + 3), .ref (a + 4), .ref (a + 5), .int us, .int nb])) (.inl (0, r, .inl z0))) (.inr (2, [.ref p, .ref (p + 1), .ref (a + 2), .ref (a + 3), .ref (a + 4), .ref (a + 5), .int us, .int nb])) (.inl (0, r, .inl z0))) (.inr (2, [.ref p, .ref (p + 1), .ref (p + 2), .ref (a + 3), .ref (a + 4), .ref (a + 5), .int us, .int nb])) (.inl (0, r, .inl z0))) (.inr (2, [.ref p, .ref (p + 1), .ref (p + 2), .ref (p + 3), .ref (a + 4), .ref (a + 5), .int us, .int nb])) (.inl (0, r, .inl z0))) (.inr (2, [.ref p, .ref (p + 1), .ref (p + 2), .ref (p + 3), .ref (p + 4), .ref (a + 5), .int us, .int nb])) (.inl (0, r, .inl z0))) (.inr (2, [.ref p, .ref (p + 1), .ref (p + 2), .ref (p + 3), .ref (p + 4), .ref (p + 5), .int us, .int nb])) (.inl (0, r, .inl z0)))[3]? = some (.inr (2, [.ref p, .ref (p + 1), .ref (p + 2), .ref (p + 3), .ref (p + 4), .ref (p + 5), .int us, .int nb])) := sH_3 (by omega)
  refine ⟨sH (sH (sH (sH (sH (sH (h) (.inr (2, [.ref p, .ref (a + 1), .ref (a + 2), .ref (a + 3), .ref (a + 4), .ref (a + 5), .int us, .int nb])) (.inl (0, r, .inl z0))) (.inr (2, [.ref p, .ref (p + 1), .ref (a + 2), .ref (a + 3), .ref (a + 4), .ref (a + 5), .int us, .int nb])) (.inl (0, r, .inl z0))) (.inr (2, [.ref p, .ref (p + 1), .ref (p + 2), .ref (a + 3), .ref (a + 4), .ref (a + 5), .int us, .int nb])) (.inl (0, r, .inl z0))) (.inr (2, [.ref p, .ref (p + 1), .ref (p + 2), .ref (p + 3), .ref (a + 4), .ref (a + 5), .int us, .int nb])) (.inl (0, r, .inl z0))) (.inr (2, [.ref p, .ref (p + 1), .ref (p + 2), .ref (p + 3), .ref (p + 4), .ref (a + 5), .int us, .int nb])) (.inl (0, r, .inl z0))) (.inr (2, [.ref p, .ref (p + 1), .ref (p + 2), .ref (p + 3), .ref (p + 4), .ref (p + 5), .int us, .int nb])) (.inl (0, r, .inl z0)), 0 + r + r + r + r + r + r, ?_, ?_, ?_, l6, ?_⟩
  · unfold Rn
    have hv : (nI r).toNatClampNeg = r := nI_clamp (by omega)
    have hb : ¬ ((nI r) < 0 ∨ 1000000 < (nI r).toNatClampNeg) := by rw [hv]; exact fun q => q.elim (nI_pos (by omega)) (by omega)
    refine e_iload_n m_X3_makeRows dX3_makeRows_0 rfl rfl ?_
    refine e_ifF (t := 46) m_X3_makeRows dX3_makeRows_1 (by decide) (decide_eq_false (by rw [nI_lz (by omega)]; omega)) ?_
    refine e_aload_n m_X3_makeRows dX3_makeRows_4 rfl rfl rfl ?_
    refine e_iload_n m_X3_makeRows dX3_makeRows_5 rfl rfl ?_
    refine z_newa (n := r) (p := p) (h' := h ++ [.inl (0, r, .inl z0)]) m_X3_makeRows.z dX3_makeRows_6 rfl hv hb hp rfl ?_
    refine e_putf (h' := sH (h) (.inr (2, [.ref p, .ref (a + 1), .ref (a + 2), .ref (a + 3), .ref (a + 4), .ref (a + 5), .int us, .int nb])) (.inl (0, r, .inl z0))) m_X3_makeRows dX3_makeRows_8 f_RX3_11 (fs := [.ref a, .ref (a + 1), .ref (a + 2), .ref (a + 3), .ref (a + 4), .ref (a + 5), .int us, .int nb]) ?_ (Nat.le_of_ble_eq_true rfl) fit_r0 rfl rfl ?_
    · rw [List.getElem?_append_left (by omega)]; exact c3
    refine e_aload_n m_X3_makeRows dX3_makeRows_11 rfl rfl rfl ?_
    refine e_iload_n m_X3_makeRows dX3_makeRows_12 rfl rfl ?_
    refine z_newa (n := r) (p := p + 1) (h' := (sH (h) (.inr (2, [.ref p, .ref (a + 1), .ref (a + 2), .ref (a + 3), .ref (a + 4), .ref (a + 5), .int us, .int nb])) (.inl (0, r, .inl z0))) ++ [.inl (0, r, .inl z0)]) m_X3_makeRows.z dX3_makeRows_13 rfl hv hb l1 rfl ?_
    refine e_putf (h' := sH (sH (h) (.inr (2, [.ref p, .ref (a + 1), .ref (a + 2), .ref (a + 3), .ref (a + 4), .ref (a + 5), .int us, .int nb])) (.inl (0, r, .inl z0))) (.inr (2, [.ref p, .ref (p + 1), .ref (a + 2), .ref (a + 3), .ref (a + 4), .ref (a + 5), .int us, .int nb])) (.inl (0, r, .inl z0))) m_X3_makeRows dX3_makeRows_15 f_RX3_15 (fs := [.ref p, .ref (a + 1), .ref (a + 2), .ref (a + 3), .ref (a + 4), .ref (a + 5), .int us, .int nb]) ?_ (Nat.le_of_ble_eq_true rfl) fit_r1 rfl rfl ?_
    · rw [List.getElem?_append_left (by omega)]; exact g1
    refine e_aload_n m_X3_makeRows dX3_makeRows_18 rfl rfl rfl ?_
    refine e_iload_n m_X3_makeRows dX3_makeRows_19 rfl rfl ?_
    refine z_newa (n := r) (p := p + 2) (h' := (sH (sH (h) (.inr (2, [.ref p, .ref (a + 1), .ref (a + 2), .ref (a + 3), .ref (a + 4), .ref (a + 5), .int us, .int nb])) (.inl (0, r, .inl z0))) (.inr (2, [.ref p, .ref (p + 1), .ref (a + 2), .ref (a + 3), .ref (a + 4), .ref (a + 5), .int us, .int nb])) (.inl (0, r, .inl z0))) ++ [.inl (0, r, .inl z0)]) m_X3_makeRows.z dX3_makeRows_20 rfl hv hb l2 rfl ?_
    refine e_putf (h' := sH (sH (sH (h) (.inr (2, [.ref p, .ref (a + 1), .ref (a + 2), .ref (a + 3), .ref (a + 4), .ref (a + 5), .int us, .int nb])) (.inl (0, r, .inl z0))) (.inr (2, [.ref p, .ref (p + 1), .ref (a + 2), .ref (a + 3), .ref (a + 4), .ref (a + 5), .int us, .int nb])) (.inl (0, r, .inl z0))) (.inr (2, [.ref p, .ref (p + 1), .ref (p + 2), .ref (a + 3), .ref (a + 4), .ref (a + 5), .int us, .int nb])) (.inl (0, r, .inl z0))) m_X3_makeRows dX3_makeRows_22 f_RX3_18 (fs := [.ref p, .ref (p + 1), .ref (a + 2), .ref (a + 3), .ref (a + 4), .ref (a + 5), .int us, .int nb]) ?_ (Nat.le_of_ble_eq_true rfl) fit_r2 rfl rfl ?_
    · rw [List.getElem?_append_left (by omega)]; exact g2
    refine e_aload_n m_X3_makeRows dX3_makeRows_25 rfl rfl rfl ?_
    refine e_iload_n m_X3_makeRows dX3_makeRows_26 rfl rfl ?_
    refine z_newa (n := r) (p := p + 3) (h' := (sH (sH (sH (h) (.inr (2, [.ref p, .ref (a + 1), .ref (a + 2), .ref (a + 3), .ref (a + 4), .ref (a + 5), .int us, .int nb])) (.inl (0, r, .inl z0))) (.inr (2, [.ref p, .ref (p + 1), .ref (a + 2), .ref (a + 3), .ref (a + 4), .ref (a + 5), .int us, .int nb])) (.inl (0, r, .inl z0))) (.inr (2, [.ref p, .ref (p + 1), .ref (p + 2), .ref (a + 3), .ref (a + 4), .ref (a + 5), .int us, .int nb])) (.inl (0, r, .inl z0))) ++ [.inl (0, r, .inl z0)]) m_X3_makeRows.z dX3_makeRows_27 rfl hv hb l3 rfl ?_
    refine e_putf (h' := sH (sH (sH (sH (h) (.inr (2, [.ref p, .ref (a + 1), .ref (a + 2), .ref (a + 3), .ref (a + 4), .ref (a + 5), .int us, .int nb])) (.inl (0, r, .inl z0))) (.inr (2, [.ref p, .ref (p + 1), .ref (a + 2), .ref (a + 3), .ref (a + 4), .ref (a + 5), .int us, .int nb])) (.inl (0, r, .inl z0))) (.inr (2, [.ref p, .ref (p + 1), .ref (p + 2), .ref (a + 3), .ref (a + 4), .ref (a + 5), .int us, .int nb])) (.inl (0, r, .inl z0))) (.inr (2, [.ref p, .ref (p + 1), .ref (p + 2), .ref (p + 3), .ref (a + 4), .ref (a + 5), .int us, .int nb])) (.inl (0, r, .inl z0))) m_X3_makeRows dX3_makeRows_29 f_RX3_21 (fs := [.ref p, .ref (p + 1), .ref (p + 2), .ref (a + 3), .ref (a + 4), .ref (a + 5), .int us, .int nb]) ?_ (Nat.le_of_ble_eq_true rfl) fit_r3 rfl rfl ?_
    · rw [List.getElem?_append_left (by omega)]; exact g3
    refine e_aload_n m_X3_makeRows dX3_makeRows_32 rfl rfl rfl ?_
    refine e_iload_n m_X3_makeRows dX3_makeRows_33 rfl rfl ?_
    refine z_newa (n := r) (p := p + 4) (h' := (sH (sH (sH (sH (h) (.inr (2, [.ref p, .ref (a + 1), .ref (a + 2), .ref (a + 3), .ref (a + 4), .ref (a + 5), .int us, .int nb])) (.inl (0, r, .inl z0))) (.inr (2, [.ref p, .ref (p + 1), .ref (a + 2), .ref (a + 3), .ref (a + 4), .ref (a + 5), .int us, .int nb])) (.inl (0, r, .inl z0))) (.inr (2, [.ref p, .ref (p + 1), .ref (p + 2), .ref (a + 3), .ref (a + 4), .ref (a + 5), .int us, .int nb])) (.inl (0, r, .inl z0))) (.inr (2, [.ref p, .ref (p + 1), .ref (p + 2), .ref (p + 3), .ref (a + 4), .ref (a + 5), .int us, .int nb])) (.inl (0, r, .inl z0))) ++ [.inl (0, r, .inl z0)]) m_X3_makeRows.z dX3_makeRows_34 rfl hv hb l4 rfl ?_
    refine e_putf (h' := sH (sH (sH (sH (sH (h) (.inr (2, [.ref p, .ref (a + 1), .ref (a + 2), .ref (a + 3), .ref (a + 4), .ref (a + 5), .int us, .int nb])) (.inl (0, r, .inl z0))) (.inr (2, [.ref p, .ref (p + 1), .ref (a + 2), .ref (a + 3), .ref (a + 4), .ref (a + 5), .int us, .int nb])) (.inl (0, r, .inl z0))) (.inr (2, [.ref p, .ref (p + 1), .ref (p + 2), .ref (a + 3), .ref (a + 4), .ref (a + 5), .int us, .int nb])) (.inl (0, r, .inl z0))) (.inr (2, [.ref p, .ref (p + 1), .ref (p + 2), .ref (p + 3), .ref (a + 4), .ref (a + 5), .int us, .int nb])) (.inl (0, r, .inl z0))) (.inr (2, [.ref p, .ref (p + 1), .ref (p + 2), .ref (p + 3), .ref (p + 4), .ref (a + 5), .int us, .int nb])) (.inl (0, r, .inl z0))) m_X3_makeRows dX3_makeRows_36 f_RX3_24 (fs := [.ref p, .ref (p + 1), .ref (p + 2), .ref (p + 3), .ref (a + 4), .ref (a + 5), .int us, .int nb]) ?_ (Nat.le_of_ble_eq_true rfl) fit_r4 rfl rfl ?_
    · rw [List.getElem?_append_left (by omega)]; exact g4
    refine e_aload_n m_X3_makeRows dX3_makeRows_39 rfl rfl rfl ?_
    refine e_iload_n m_X3_makeRows dX3_makeRows_40 rfl rfl ?_
    refine z_newa (n := r) (p := p + 5) (h' := (sH (sH (sH (sH (sH (h) (.inr (2, [.ref p, .ref (a + 1), .ref (a + 2), .ref (a + 3), .ref (a + 4), .ref (a + 5), .int us, .int nb])) (.inl (0, r, .inl z0))) (.inr (2, [.ref p, .ref (p + 1), .ref (a + 2), .ref (a + 3), .ref (a + 4), .ref (a + 5), .int us, .int nb])) (.inl (0, r, .inl z0))) (.inr (2, [.ref p, .ref (p + 1), .ref (p + 2), .ref (a + 3), .ref (a + 4), .ref (a + 5), .int us, .int nb])) (.inl (0, r, .inl z0))) (.inr (2, [.ref p, .ref (p + 1), .ref (p + 2), .ref (p + 3), .ref (a + 4), .ref (a + 5), .int us, .int nb])) (.inl (0, r, .inl z0))) (.inr (2, [.ref p, .ref (p + 1), .ref (p + 2), .ref (p + 3), .ref (p + 4), .ref (a + 5), .int us, .int nb])) (.inl (0, r, .inl z0))) ++ [.inl (0, r, .inl z0)]) m_X3_makeRows.z dX3_makeRows_41 rfl hv hb l5 rfl ?_
    refine e_putf (h' := sH (sH (sH (sH (sH (sH (h) (.inr (2, [.ref p, .ref (a + 1), .ref (a + 2), .ref (a + 3), .ref (a + 4), .ref (a + 5), .int us, .int nb])) (.inl (0, r, .inl z0))) (.inr (2, [.ref p, .ref (p + 1), .ref (a + 2), .ref (a + 3), .ref (a + 4), .ref (a + 5), .int us, .int nb])) (.inl (0, r, .inl z0))) (.inr (2, [.ref p, .ref (p + 1), .ref (p + 2), .ref (a + 3), .ref (a + 4), .ref (a + 5), .int us, .int nb])) (.inl (0, r, .inl z0))) (.inr (2, [.ref p, .ref (p + 1), .ref (p + 2), .ref (p + 3), .ref (a + 4), .ref (a + 5), .int us, .int nb])) (.inl (0, r, .inl z0))) (.inr (2, [.ref p, .ref (p + 1), .ref (p + 2), .ref (p + 3), .ref (p + 4), .ref (a + 5), .int us, .int nb])) (.inl (0, r, .inl z0))) (.inr (2, [.ref p, .ref (p + 1), .ref (p + 2), .ref (p + 3), .ref (p + 4), .ref (p + 5), .int us, .int nb])) (.inl (0, r, .inl z0))) m_X3_makeRows dX3_makeRows_43 f_RX3_27 (fs := [.ref p, .ref (p + 1), .ref (p + 2), .ref (p + 3), .ref (p + 4), .ref (a + 5), .int us, .int nb]) ?_ (Nat.le_of_ble_eq_true rfl) fit_r5 rfl rfl ?_
    · rw [List.getElem?_append_left (by omega)]; exact g5
    exact e_ret0 m_X3_makeRows dX3_makeRows_46
  · omega
  · refine Ck_of ?_ ?_ ?_ g6 ?_ ?_ ?_ ?_ ?_ ?_
    · rw [sH_k (by omega) (by decide), sH_k (by omega) (by decide), sH_k (by omega) (by decide), sH_k (by omega) (by decide), sH_k (by omega) (by decide), sH_k (by omega) (by decide)]; exact c0
    · rw [sH_k (by omega) (by decide), sH_k (by omega) (by decide), sH_k (by omega) (by decide), sH_k (by omega) (by decide), sH_k (by omega) (by decide), sH_k (by omega) (by decide)]; exact c1
    · rw [sH_k (by omega) (by decide), sH_k (by omega) (by decide), sH_k (by omega) (by decide), sH_k (by omega) (by decide), sH_k (by omega) (by decide), sH_k (by omega) (by decide)]; exact c2
    · have q := sH_l (h := h) (e := .inr (2, [.ref p, .ref (a + 1), .ref (a + 2), .ref (a + 3), .ref (a + 4), .ref (a + 5), .int us, .int nb])) (row := .inl (0, r, .inl z0)) (by omega)
      rw [hp] at q
      rw [sH_k (by omega) (by omega), sH_k (by omega) (by omega), sH_k (by omega) (by omega), sH_k (by omega) (by omega), sH_k (by omega) (by omega)]; exact q
    · have q := sH_l (h := sH (h) (.inr (2, [.ref p, .ref (a + 1), .ref (a + 2), .ref (a + 3), .ref (a + 4), .ref (a + 5), .int us, .int nb])) (.inl (0, r, .inl z0))) (e := .inr (2, [.ref p, .ref (p + 1), .ref (a + 2), .ref (a + 3), .ref (a + 4), .ref (a + 5), .int us, .int nb])) (row := .inl (0, r, .inl z0)) (by omega)
      rw [l1] at q
      rw [sH_k (by omega) (by omega), sH_k (by omega) (by omega), sH_k (by omega) (by omega), sH_k (by omega) (by omega)]; exact q
    · have q := sH_l (h := sH (sH (h) (.inr (2, [.ref p, .ref (a + 1), .ref (a + 2), .ref (a + 3), .ref (a + 4), .ref (a + 5), .int us, .int nb])) (.inl (0, r, .inl z0))) (.inr (2, [.ref p, .ref (p + 1), .ref (a + 2), .ref (a + 3), .ref (a + 4), .ref (a + 5), .int us, .int nb])) (.inl (0, r, .inl z0))) (e := .inr (2, [.ref p, .ref (p + 1), .ref (p + 2), .ref (a + 3), .ref (a + 4), .ref (a + 5), .int us, .int nb])) (row := .inl (0, r, .inl z0)) (by omega)
      rw [l2] at q
      rw [sH_k (by omega) (by omega), sH_k (by omega) (by omega), sH_k (by omega) (by omega)]; exact q
    · have q := sH_l (h := sH (sH (sH (h) (.inr (2, [.ref p, .ref (a + 1), .ref (a + 2), .ref (a + 3), .ref (a + 4), .ref (a + 5), .int us, .int nb])) (.inl (0, r, .inl z0))) (.inr (2, [.ref p, .ref (p + 1), .ref (a + 2), .ref (a + 3), .ref (a + 4), .ref (a + 5), .int us, .int nb])) (.inl (0, r, .inl z0))) (.inr (2, [.ref p, .ref (p + 1), .ref (p + 2), .ref (a + 3), .ref (a + 4), .ref (a + 5), .int us, .int nb])) (.inl (0, r, .inl z0))) (e := .inr (2, [.ref p, .ref (p + 1), .ref (p + 2), .ref (p + 3), .ref (a + 4), .ref (a + 5), .int us, .int nb])) (row := .inl (0, r, .inl z0)) (by omega)
      rw [l3] at q
      rw [sH_k (by omega) (by omega), sH_k (by omega) (by omega)]; exact q
    · have q := sH_l (h := sH (sH (sH (sH (h) (.inr (2, [.ref p, .ref (a + 1), .ref (a + 2), .ref (a + 3), .ref (a + 4), .ref (a + 5), .int us, .int nb])) (.inl (0, r, .inl z0))) (.inr (2, [.ref p, .ref (p + 1), .ref (a + 2), .ref (a + 3), .ref (a + 4), .ref (a + 5), .int us, .int nb])) (.inl (0, r, .inl z0))) (.inr (2, [.ref p, .ref (p + 1), .ref (p + 2), .ref (a + 3), .ref (a + 4), .ref (a + 5), .int us, .int nb])) (.inl (0, r, .inl z0))) (.inr (2, [.ref p, .ref (p + 1), .ref (p + 2), .ref (p + 3), .ref (a + 4), .ref (a + 5), .int us, .int nb])) (.inl (0, r, .inl z0))) (e := .inr (2, [.ref p, .ref (p + 1), .ref (p + 2), .ref (p + 3), .ref (p + 4), .ref (a + 5), .int us, .int nb])) (row := .inl (0, r, .inl z0)) (by omega)
      rw [l4] at q
      rw [sH_k (by omega) (by omega)]; exact q
    · have q := sH_l (h := sH (sH (sH (sH (sH (h) (.inr (2, [.ref p, .ref (a + 1), .ref (a + 2), .ref (a + 3), .ref (a + 4), .ref (a + 5), .int us, .int nb])) (.inl (0, r, .inl z0))) (.inr (2, [.ref p, .ref (p + 1), .ref (a + 2), .ref (a + 3), .ref (a + 4), .ref (a + 5), .int us, .int nb])) (.inl (0, r, .inl z0))) (.inr (2, [.ref p, .ref (p + 1), .ref (p + 2), .ref (a + 3), .ref (a + 4), .ref (a + 5), .int us, .int nb])) (.inl (0, r, .inl z0))) (.inr (2, [.ref p, .ref (p + 1), .ref (p + 2), .ref (p + 3), .ref (a + 4), .ref (a + 5), .int us, .int nb])) (.inl (0, r, .inl z0))) (.inr (2, [.ref p, .ref (p + 1), .ref (p + 2), .ref (p + 3), .ref (p + 4), .ref (a + 5), .int us, .int nb])) (.inl (0, r, .inl z0))) (e := .inr (2, [.ref p, .ref (p + 1), .ref (p + 2), .ref (p + 3), .ref (p + 4), .ref (p + 5), .int us, .int nb])) (row := .inl (0, r, .inl z0)) (by omega)
      rw [l5] at q
      exact q
  · intro k hk h3
    rw [sH_k (by omega) h3, sH_k (by omega) h3, sH_k (by omega) h3, sH_k (by omega) h3, sH_k (by omega) h3, sH_k (by omega) h3]
theorem e_max {xs : Nat → Int32} {L d mi pc : Nat} {ls : mm_L} {st : List Value} {h : mm_H} {c z : Nat} {o : mm_R} {own nm : String} {cc : ByteArray} {nL : Nat} {rt : Option FieldType} {ix i mj ps : Nat} {ow : String} {y w : Int32} (hm : Is mi own cc nL rt nm) (hd : decode cc pc = .ok (.invokestatic ix, 3)) (hC : mm_C own ix = some (ow, i, 11, mj, ps)) (hs : (st.map fun v => v.category).sum ≤ 8) (K : Ev xs L d mi (pc + 3) ls (.int (if w < y then y else w) :: st) h c z o) : Ev xs L d mi pc ls (.int y :: .int w :: st) h c z o := by
  obtain ⟨me, h1, rfl, rfl, rfl, rfl, rfl, h7⟩ := hm
  refine Ev.act h1 hd ?_ K
  simp only [mm_act, if_true, mm_call, hC]
  rw [if_neg (by decide), if_pos ⟨trivial, trivial⟩, if_pos hs]
  rfl
theorem nI_two (c : Nat) : (2 : Int32) * nI c = nI (2 * c) := by
  apply Int32.toBitVec_inj.mp
  show (BitVec.ofNat 32 2) * (BitVec.ofNat 32 c) = BitVec.ofNat 32 (2 * c)
  apply BitVec.eq_of_toNat_eq
  rw [BitVec.toNat_mul, BitVec.toNat_ofNat, BitVec.toNat_ofNat, BitVec.toNat_ofNat]
  omega
theorem o_RX3_37 : mm_C RX3 37 = some (RX3, 37, 11, 0, 294) := by decide +kernel
/-- what a build may make: the rows, and what else changes -/
def Bf (h : mm_H) (a N c : Nat) (nb : Int32) (kf : Nat → Int32) (h1 : mm_H) (a1 N1 cc zz : Nat) : Prop := ∃ f1 f2 f3 f4 f5 f6 : Nat → Int32, Ck h1 a1 N1 (nI c) 0 nb kf f1 f2 f3 f4 f5 f6 ∧ (a1 = 4 ∨ 29 ≤ a1) ∧ 0 < N1 ∧ N1 ≤ 20000 ∧ cc ≤ 6 ∧ zz + 12 * N ≤ 12 * N1 ∧ h.length ≤ h1.length ∧ h1.length = h.length + cc ∧ ∀ k, 10 ≤ k → k < 29 → h1[k]? = h[k]?
theorem t_beginFor {xs : Nat → Int32} {L d : Nat} {h : mm_H} {a N c : Nat} {us nb : Int32} {kf f1 f2 f3 f4 f5 f6 : Nat → Int32} (C : Ck h a N (nI c) us nb kf f1 f2 f3 f4 f5 f6) (h4 : a = 4 ∨ 29 ≤ a) (hl : 29 ≤ h.length) (hc : c ≤ 4096) (hN0 : 0 < N) (hN : N ≤ 20000) (hd : 2 ≤ d) : Es xs L d 10 0 (lv_args 0 [.ref 3, .int (nI c)]) [] h 0 0 (fun o => ∃ (h1 : mm_H) (a1 N1 cc zz : Nat), o = (.inl none, h1, cc, zz) ∧ Bf h a N c 0 kf h1 a1 N1 cc zz) := by
  have hK := Ck_hk C (by omega) (by omega)
  have e0 := HK_eq C
  refine Es.via (h' := HK h a N (nI c) us nb kf f1 f2 f3 f4 f5 f6) (fun o K => by rw [← e0]; exact K) ?_
  refine Es.via (fun o K => e_aload_n m_X3_beginFor dX3_beginFor_0 rfl rfl rfl K) ?_
  refine Es.via (fun o K => e_iconst (v := 0) m_X3_beginFor dX3_beginFor_1 (by decide) K) ?_
  refine Es.via (fun o K => e_putf (h' := HK h a N (nI c) 0 nb kf f1 f2 f3 f4 f5 f6) m_X3_beginFor dX3_beginFor_2 f_RX3_30 (gK_3 hK) (Nat.le_of_ble_eq_true rfl) (fit_i rfl) rfl (sK_3 hK) K) ?_
  refine Es.via (fun o K => e_aload_n m_X3_beginFor dX3_beginFor_5 rfl rfl rfl K) ?_
  refine Es.via (fun o K => e_iconst (v := 0) m_X3_beginFor dX3_beginFor_6 (by decide) K) ?_
  refine Es.via (fun o K => e_putf (h' := HK h a N (nI c) 0 0 kf f1 f2 f3 f4 f5 f6) m_X3_beginFor dX3_beginFor_7 f_RX3_34 (gK_3 hK) (Nat.le_of_ble_eq_true rfl) (fit_i rfl) rfl (sK_3 hK) K) ?_
  refine Es.via (fun o K => e_iconst (v := 2) m_X3_beginFor dX3_beginFor_10 (by decide) K) ?_
  refine Es.via (fun o K => e_iload_n m_X3_beginFor dX3_beginFor_11 rfl rfl K) ?_
  refine Es.via (fun o K => e_imul m_X3_beginFor dX3_beginFor_12 K) ?_
  rw [nI_two]
  refine Es.via (fun o K => e_istore_n m_X3_beginFor dX3_beginFor_13 rfl (by decide) rfl K) ?_
  refine Es.via (fun o K => e_iload_n m_X3_beginFor dX3_beginFor_14 rfl rfl K) ?_
  refine Es.via (fun o K => e_aload_n m_X3_beginFor dX3_beginFor_15 rfl rfl rfl K) ?_
  refine Es.via (fun o K => e_getf m_X3_beginFor dX3_beginFor_16 f_RX3_11 (gK_3 hK) rfl K) ?_
  refine Es.via (fun o K => e_alen m_X3_beginFor dX3_beginFor_19 (gK_r1 hK) (by decide) K) ?_
  rw [show Int32.ofNat N = nI N from rfl]
  have fr0 : ∀ k, 10 ≤ k → k < 29 → (HK h a N (nI c) 0 0 kf f1 f2 f3 f4 f5 f6)[k]? = h[k]? := fun k k1 k2 => HK_fr (by omega)
  by_cases q : 2 * c ≤ N
  · refine Es.via (fun o K => e_icT (t := 38) m_X3_beginFor dX3_beginFor_20 (by decide) (decide_eq_true (by rw [nI_leI (by omega) (by omega)]; exact q)) K) ?_
    exact ⟨_, e_ret0 m_X3_beginFor dX3_beginFor_38, _, a, N, 0, 0, rfl, f1, f2, f3, f4, f5, f6, Ck_HK hK, h4, hN0, hN, by omega, by omega, by rw [HK_len]; omega, by rw [HK_len]; rfl, fr0⟩
  · refine Es.via (fun o K => e_icF (t := 38) m_X3_beginFor dX3_beginFor_20 (by decide) (decide_eq_false (by rw [nI_leI (by omega) (by omega)]; exact q)) K) ?_
    refine Es.via (fun o K => e_aload_n m_X3_beginFor dX3_beginFor_23 rfl rfl rfl K) ?_
    refine Es.via (fun o K => e_iload_n m_X3_beginFor dX3_beginFor_24 rfl rfl K) ?_
    refine Es.via (fun o K => e_iconst (v := 2) m_X3_beginFor dX3_beginFor_25 (by decide) K) ?_
    refine Es.via (fun o K => e_aload_n m_X3_beginFor dX3_beginFor_26 rfl rfl rfl K) ?_
    refine Es.via (fun o K => e_getf m_X3_beginFor dX3_beginFor_27 f_RX3_11 (gK_3 hK) rfl K) ?_
    refine Es.via (fun o K => e_alen m_X3_beginFor dX3_beginFor_30 (gK_r1 hK) (by decide) K) ?_
    rw [show Int32.ofNat N = nI N from rfl]
    refine Es.via (fun o K => e_imul m_X3_beginFor dX3_beginFor_31 K) ?_
    rw [nI_two]
    refine Es.via (fun o K => e_max m_X3_beginFor dX3_beginFor_32 o_RX3_37 (Nat.le_of_ble_eq_true rfl) K) ?_
    obtain ⟨r, hr, r1, r2, r3⟩ : ∃ r, (if nI (2 * c) < nI (2 * N) then nI (2 * N) else nI (2 * c)) = nI r ∧ 2 * N ≤ r ∧ r ≤ 20000 ∧ 0 < r := by
      by_cases q2 : 2 * c < 2 * N
      · exact ⟨2 * N, by rw [if_pos ((nI_ltI (by omega) (by omega)).mpr q2)], by omega, by omega, by omega⟩
      · exact ⟨2 * c, by rw [if_neg (fun h9 => q2 ((nI_ltI (by omega) (by omega)).mp h9))], by omega, by omega, by omega⟩
    rw [hr]
    obtain ⟨h1, z1, R, hz, C1, l1, fr⟩ := t_makeRows (xs := xs) (L := L) (d := d - 1) (p := h.length) (r := r) (Ck_HK (cnt := nI c) (us := 0) (nb := 0) (kf := kf) (f1 := f1) (f2 := f2) (f3 := f3) (f4 := f4) (f5 := f5) (f6 := f6) hK) (by omega) (by rw [HK_len]; omega) HK_len r3 (by omega)
    refine Es.via (fun o K => e_cv (as := [.int (nI r)]) m_X3_beginFor dX3_beginFor_35 c_RX3_43 (by decide) rfl rfl (gK_3 hK) rfl (Nat.le_of_ble_eq_true rfl) (Nat.le_of_ble_eq_true rfl) (by omega) R K) ?_
    refine ⟨_, e_ret0 m_X3_beginFor dX3_beginFor_38, h1, h.length, r, _, _, rfl, z0, z0, z0, z0, z0, z0, C1, Or.inr hl, r3, r2, by omega, by omega, by omega, by omega, fun k k1 k2 => ?_⟩
    rw [fr k (by omega) (by omega)]
    exact fr0 k k1 k2
