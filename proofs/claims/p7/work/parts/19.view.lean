/-! Calls by their links; the heap as a base with cells laid over it; the parser's cells. -/
section EVC
variable {xs : Nat → Int32} {L d mi pc : Nat} {ls : mm_L} {st : List Value} {h : mm_H} {c z : Nat} {o : mm_R} {own nm : String} {cc : ByteArray} {nL : Nat} {rt : Option FieldType}
theorem mm_pop_of {as r : List Value} : mm_pop as.length (as.reverse ++ r) = some (as, r) := by
  have h1 : (as.reverse ++ r).take as.length = as.reverse := by
    rw [show as.length = as.reverse.length by simp]; exact List.take_left' rfl
  have h2 : (as.reverse ++ r).drop as.length = r := by
    rw [show as.length = as.reverse.length by simp]; exact List.drop_left' rfl
  unfold mm_pop
  rw [if_pos (by simp), h1, h2, List.reverse_reverse]
theorem mm_call_v {me : mm_Me} {op ix kind mj np nL9 a cj : Nat} {C : String} {as r : List Value} {fs : List Value} (hK : Cal me.1 ix kind mj np nL9 C) (hk : (op = 0 ∧ (kind = 0 ∨ kind = 1 ∨ kind = 8)) ∨ (op = 2 ∧ (kind = 4 ∨ kind = 5))) (hn : as.length = np) (hh : h[a]? = some (.inr (cj, fs))) (hcl : (mm_cl[cj]?).map (fun q => q.1) = some C) (hs : (r.map fun v => v.category).sum ≤ 8) (hlg : (lg_sl (.ref a :: as)).length ≤ nL9) :
    mm_call me op ix pc ls (as.reverse ++ .ref a :: r) h c z = some (.inr (.inr (.inr (mj, .ref a :: as, r, decide (kind < 2))))) := by
  obtain ⟨⟨o, i, ps, hC⟩, mf, g1, g2, g3, g4⟩ := hK
  subst hn
  unfold mm_call
  simp only [hC]
  rw [if_neg (by omega), if_neg (by omega)]
  simp only [g1, g2, mm_pop_of]
  rw [if_neg (by omega)]
  simp only [hh]
  rw [if_pos ⟨hs, by rw [hcl, g4], hk, by rw [g3]; exact hlg⟩]
theorem mm_call_s {me : mm_Me} {ix kind mj np nL9 : Nat} {C : String} {as r : List Value} (hK : Cal me.1 ix kind mj np nL9 C) (hk : kind = 2 ∨ kind = 3 ∨ kind = 9) (hn : as.length = np) (hs : (r.map fun v => v.category).sum ≤ 8) (hlg : (lg_sl as).length ≤ nL9) :
    mm_call me 1 ix pc ls (as.reverse ++ r) h c z = some (.inr (.inr (.inr (mj, as, r, false)))) := by
  obtain ⟨⟨o, i, ps, hC⟩, mf, g1, g2, g3, g4⟩ := hK
  subst hn
  unfold mm_call
  simp only [hC]
  rw [if_neg (by omega), if_neg (by omega)]
  simp only [g1, g2, mm_pop_of]
  rw [if_pos trivial, if_pos ⟨hk, hs, by rw [g3]; exact hlg⟩]
theorem Ev.call2 {me : mm_Me} {i : Instr} {len mj : Nat} {as r : List Value} {thr : Bool} {v : Option Value} {h1 : mm_H} {c1 z1 : Nat} (hm : mm_all[mi]? = some me) (hd : decode me.2.2.1 pc = .ok (i, len)) (ha : mm_act me xs L i len pc ls st h c z = some (.inr (.inr (.inr (mj, as, r, thr))))) (hd2 : 2 ≤ d) (hr : Rn xs L (d - 1) mj as h (.inl v, h1, c1, z1)) (K : Ev xs L d mi (pc + 3) ls (v.toList ++ r) h1 (c + c1) (z + z1) o) : Ev xs L d mi pc ls st h c z o := by
  obtain ⟨k, rfl⟩ : ∃ k, d = k + 1 := ⟨d - 1, by omega⟩
  exact Ev.call hm hd ha (by omega) hr K
theorem Ev.callX2 {me : mm_Me} {i : Instr} {len mj : Nat} {as r : List Value} {E : String} {h1 : mm_H} {c1 z1 : Nat} (hm : mm_all[mi]? = some me) (hd : decode me.2.2.1 pc = .ok (i, len)) (ha : mm_act me xs L i len pc ls st h c z = some (.inr (.inr (.inr (mj, as, r, true))))) (hd2 : 2 ≤ d) (htab : me.2.2.2.2.2.1 = []) (hr : Rn xs L (d - 1) mj as h (.inr E, h1, c1, z1)) : Ev xs L d mi pc ls st h c z (.inr E, h1, c + c1, z + z1) := by
  obtain ⟨k, rfl⟩ : ∃ k, d = k + 1 := ⟨d - 1, by omega⟩
  exact Ev.callX hm hd ha (by omega) htab hr
/-- invokevirtual that returns -/
theorem e_cv {ix kind mj np nL9 a cj : Nat} {C : String} {as r : List Value} {fs : List Value} {v : Option Value} {h1 : mm_H} {c1 z1 : Nat} (hm : Is mi own cc nL rt nm) (hd : decode cc pc = .ok (.invokevirtual ix, 3)) (hK : Cal own ix kind mj np nL9 C) (hk : kind = 0 ∨ kind = 1 ∨ kind = 8) (hn : as.length = np) (hst : st = as.reverse ++ .ref a :: r) (hh : h[a]? = some (.inr (cj, fs))) (hcl : (mm_cl[cj]?).map (fun q => q.1) = some C) (hs : (r.map fun v => v.category).sum ≤ 8) (hlg : (lg_sl (.ref a :: as)).length ≤ nL9) (hd2 : 2 ≤ d)
    (hr : Rn xs L (d - 1) mj (.ref a :: as) h (.inl v, h1, c1, z1)) (K : Ev xs L d mi (pc + 3) ls (v.toList ++ r) h1 (c + c1) (z + z1) o) : Ev xs L d mi pc ls st h c z o := by
  obtain ⟨me, q1, rfl, rfl, rfl, rfl, rfl, q7⟩ := hm
  subst hst
  exact Ev.call2 q1 hd (by simp only [mm_act, if_true]; exact mm_call_v hK (Or.inl ⟨rfl, hk⟩) hn hh hcl hs hlg) hd2 hr K
/-- invokevirtual that throws -/
theorem e_cvX {ix kind mj np nL9 a cj : Nat} {C : String} {as r : List Value} {fs : List Value} {E : String} {h1 : mm_H} {c1 z1 : Nat} (hm : Is mi own cc nL rt nm) (hd : decode cc pc = .ok (.invokevirtual ix, 3)) (hK : Cal own ix kind mj np nL9 C) (hk : kind = 0 ∨ kind = 1) (hn : as.length = np) (hst : st = as.reverse ++ .ref a :: r) (hh : h[a]? = some (.inr (cj, fs))) (hcl : (mm_cl[cj]?).map (fun q => q.1) = some C) (hs : (r.map fun v => v.category).sum ≤ 8) (hlg : (lg_sl (.ref a :: as)).length ≤ nL9) (hd2 : 2 ≤ d)
    (hr : Rn xs L (d - 1) mj (.ref a :: as) h (.inr E, h1, c1, z1)) : Ev xs L d mi pc ls st h c z (.inr E, h1, c + c1, z + z1) := by
  obtain ⟨me, q1, rfl, rfl, rfl, rfl, rfl, q7⟩ := hm
  subst hst
  have h9 : mm_call me 0 ix pc ls (as.reverse ++ .ref a :: r) h c z = some (.inr (.inr (.inr (mj, .ref a :: as, r, true)))) := by
    rw [mm_call_v hK (Or.inl ⟨rfl, by omega⟩) hn hh hcl hs hlg]
    have : decide (kind < 2) = true := by rw [decide_eq_true_eq]; omega
    rw [this]
  exact Ev.callX2 q1 hd (by simp only [mm_act, if_true]; exact h9) hd2 q7 hr
/-- invokestatic -/
theorem e_cs {ix kind mj np nL9 : Nat} {C : String} {as r : List Value} {v : Option Value} {h1 : mm_H} {c1 z1 : Nat} (hm : Is mi own cc nL rt nm) (hd : decode cc pc = .ok (.invokestatic ix, 3)) (hK : Cal own ix kind mj np nL9 C) (hk : kind = 2 ∨ kind = 3 ∨ kind = 9) (hn : as.length = np) (hst : st = as.reverse ++ r) (hs : (r.map fun v => v.category).sum ≤ 8) (hlg : (lg_sl as).length ≤ nL9) (hd2 : 2 ≤ d)
    (hr : Rn xs L (d - 1) mj as h (.inl v, h1, c1, z1)) (K : Ev xs L d mi (pc + 3) ls (v.toList ++ r) h1 (c + c1) (z + z1) o) : Ev xs L d mi pc ls st h c z o := by
  obtain ⟨me, q1, rfl, rfl, rfl, rfl, rfl, q7⟩ := hm
  subst hst
  exact Ev.call2 q1 hd (by simp only [mm_act, if_true]; exact mm_call_s hK hk hn hs hlg) hd2 hr K
end EVC
def hp (h0 : mm_H) (σ : Nat → Option mm_E) : mm_H := h0.mapIdx (fun k e => (σ k).getD e)
theorem hp_len {h0 : mm_H} {σ : Nat → Option mm_E} : (hp h0 σ).length = h0.length := List.length_mapIdx
theorem hp_get {h0 : mm_H} {σ : Nat → Option mm_E} {k : Nat} {e : mm_E} (hk : k < h0.length) (hs : σ k = some e) : (hp h0 σ)[k]? = some e := by
  unfold hp
  rw [List.getElem?_mapIdx, List.getElem?_eq_getElem hk]
  simp [hs]
theorem hp_get0 {h0 : mm_H} {σ : Nat → Option mm_E} {k : Nat} (hs : σ k = none) : (hp h0 σ)[k]? = h0[k]? := by
  unfold hp
  rw [List.getElem?_mapIdx]
  cases h0[k]? <;> simp [hs]
theorem hp_set {h0 : mm_H} {σ σ' : Nat → Option mm_E} {k : Nat} {e : mm_E} (hs : ∀ j, σ' j = if j = k then some e else σ j) : (hp h0 σ).set k e = hp h0 σ' := by
  apply List.ext_getElem?
  intro j
  unfold hp
  rw [List.getElem?_set, List.getElem?_mapIdx, List.getElem?_mapIdx, List.length_mapIdx, hs j]
  by_cases hj : k = j
  · subst hj
    rw [if_pos rfl, if_pos rfl]
    by_cases hl : k < h0.length
    · rw [if_pos hl, List.getElem?_eq_getElem hl]; rfl
    · rw [if_neg hl, List.getElem?_eq_none (by omega)]; rfl
  · rw [if_neg hj, if_neg (fun q => hj q.symm)]
/-- the parser's cells: the parser at p, its signs at p + 1, Tokens at 1, their kinds at 2, the Tree at 3, its six rows at a .. a + 5 -/
def sC (a p : Nat) (wc at' kd op ih gw us nb cnt : Int32) (N : Nat) (wf kf f1 f2 f3 f4 f5 f6 : Nat → Int32) : Nat → Option mm_E := fun k =>
  if k = p then some (.inr (0, [.ref 1, .ref 3, .ref (p + 1), .int wc, .int at', .int kd, .int op, .int ih, .int gw])) else if k = p + 1 then some (.inl (0, 155, .inl wf)) else if k = 1 then some (.inr (1, [.ref 2, .int cnt])) else if k = 2 then some (.inl (1, 16384, .inl kf))
  else if k = 3 then some (.inr (2, [.ref a, .ref (a + 1), .ref (a + 2), .ref (a + 3), .ref (a + 4), .ref (a + 5), .int us, .int nb])) else if k = a then some (.inl (0, N, .inl f1)) else if k = a + 1 then some (.inl (0, N, .inl f2)) else if k = a + 2 then some (.inl (0, N, .inl f3)) else if k = a + 3 then some (.inl (0, N, .inl f4)) else if k = a + 4 then some (.inl (0, N, .inl f5)) else if k = a + 5 then some (.inl (0, N, .inl f6)) else none
def HC (h0 : mm_H) (a p : Nat) (wc at' kd op ih gw us nb cnt : Int32) (N : Nat) (wf kf f1 f2 f3 f4 f5 f6 : Nat → Int32) : mm_H := hp h0 (sC a p wc at' kd op ih gw us nb cnt N wf kf f1 f2 f3 f4 f5 f6)
def Hy (h0 : mm_H) (a p : Nat) : Prop := 4 ≤ a ∧ a + 6 ≤ p ∧ p + 1 < h0.length
section HCL
variable {h0 : mm_H} {a p N : Nat} {wc at' kd op ih gw us nb cnt x : Int32} {wf kf f1 f2 f3 f4 f5 f6 g : Nat → Int32}
theorem gC_p (H : Hy h0 a p) : (HC h0 a p wc at' kd op ih gw us nb cnt N wf kf f1 f2 f3 f4 f5 f6)[p]? = some (.inr (0, [.ref 1, .ref 3, .ref (p + 1), .int wc, .int at', .int kd, .int op, .int ih, .int gw])) := hp_get (by have := H.2.2; omega) (by simp [sC])
theorem gC_w (H : Hy h0 a p) : (HC h0 a p wc at' kd op ih gw us nb cnt N wf kf f1 f2 f3 f4 f5 f6)[p + 1]? = some (.inl (0, 155, .inl wf)) := hp_get (H.2.2) (by simp [sC])
theorem gC_t (H : Hy h0 a p) : (HC h0 a p wc at' kd op ih gw us nb cnt N wf kf f1 f2 f3 f4 f5 f6)[1]? = some (.inr (1, [.ref 2, .int cnt])) := by
  obtain ⟨h1, h2, h3⟩ := H
  refine hp_get (by omega) ?_
  unfold sC
  rw [if_neg (by omega), if_neg (by omega), if_pos rfl]
theorem gC_k (H : Hy h0 a p) : (HC h0 a p wc at' kd op ih gw us nb cnt N wf kf f1 f2 f3 f4 f5 f6)[2]? = some (.inl (1, 16384, .inl kf)) := by
  obtain ⟨h1, h2, h3⟩ := H
  refine hp_get (by omega) ?_
  unfold sC
  rw [if_neg (by omega), if_neg (by omega), if_neg (by omega), if_pos rfl]
theorem gC_r (H : Hy h0 a p) : (HC h0 a p wc at' kd op ih gw us nb cnt N wf kf f1 f2 f3 f4 f5 f6)[3]? = some (.inr (2, [.ref a, .ref (a + 1), .ref (a + 2), .ref (a + 3), .ref (a + 4), .ref (a + 5), .int us, .int nb])) := by
  obtain ⟨h1, h2, h3⟩ := H
  refine hp_get (by omega) ?_
  unfold sC
  rw [if_neg (by omega), if_neg (by omega), if_neg (by omega), if_neg (by omega), if_pos rfl]
theorem gC_1 (H : Hy h0 a p) : (HC h0 a p wc at' kd op ih gw us nb cnt N wf kf f1 f2 f3 f4 f5 f6)[a]? = some (.inl (0, N, .inl f1)) := by
  obtain ⟨h1, h2, h3⟩ := H
  refine hp_get (by omega) ?_
  unfold sC
  rw [if_neg (by omega), if_neg (by omega), if_neg (by omega), if_neg (by omega), if_neg (by omega), if_pos rfl]
theorem gC_2 (H : Hy h0 a p) : (HC h0 a p wc at' kd op ih gw us nb cnt N wf kf f1 f2 f3 f4 f5 f6)[a + 1]? = some (.inl (0, N, .inl f2)) := by
  obtain ⟨h1, h2, h3⟩ := H
  refine hp_get (by omega) ?_
  unfold sC
  rw [if_neg (by omega), if_neg (by omega), if_neg (by omega), if_neg (by omega), if_neg (by omega), if_neg (by omega), if_pos rfl]
theorem gC_3 (H : Hy h0 a p) : (HC h0 a p wc at' kd op ih gw us nb cnt N wf kf f1 f2 f3 f4 f5 f6)[a + 2]? = some (.inl (0, N, .inl f3)) := by
  obtain ⟨h1, h2, h3⟩ := H
  refine hp_get (by omega) ?_
  unfold sC
  rw [if_neg (by omega), if_neg (by omega), if_neg (by omega), if_neg (by omega), if_neg (by omega), if_neg (by omega), if_neg (by omega), if_pos rfl]
theorem gC_4 (H : Hy h0 a p) : (HC h0 a p wc at' kd op ih gw us nb cnt N wf kf f1 f2 f3 f4 f5 f6)[a + 3]? = some (.inl (0, N, .inl f4)) := by
  obtain ⟨h1, h2, h3⟩ := H
  refine hp_get (by omega) ?_
  unfold sC
  rw [if_neg (by omega), if_neg (by omega), if_neg (by omega), if_neg (by omega), if_neg (by omega), if_neg (by omega), if_neg (by omega), if_neg (by omega), if_pos rfl]
/-- the parser's own fields, written -/
theorem sC_p {wc2 at2 kd2 op2 ih2 gw2 : Int32} (H : Hy h0 a p) : (HC h0 a p wc at' kd op ih gw us nb cnt N wf kf f1 f2 f3 f4 f5 f6).set p (.inr (0, [.ref 1, .ref 3, .ref (p + 1), .int wc2, .int at2, .int kd2, .int op2, .int ih2, .int gw2])) = HC h0 a p wc2 at2 kd2 op2 ih2 gw2 us nb cnt N wf kf f1 f2 f3 f4 f5 f6 := hp_set (fun j => by unfold sC; by_cases hj : j = p <;> simp [hj])
theorem sC_w (H : Hy h0 a p) : (HC h0 a p wc at' kd op ih gw us nb cnt N wf kf f1 f2 f3 f4 f5 f6).set (p + 1) (.inl (0, 155, .inl g)) = HC h0 a p wc at' kd op ih gw us nb cnt N g kf f1 f2 f3 f4 f5 f6 := hp_set (fun j => by
  unfold sC
  by_cases h1 : j = p + 1
  · subst h1; simp
  · simp [h1])
theorem sC_r {us2 nb2 : Int32} (H : Hy h0 a p) : (HC h0 a p wc at' kd op ih gw us nb cnt N wf kf f1 f2 f3 f4 f5 f6).set 3 (.inr (2, [.ref a, .ref (a + 1), .ref (a + 2), .ref (a + 3), .ref (a + 4), .ref (a + 5), .int us2, .int nb2])) = HC h0 a p wc at' kd op ih gw us2 nb2 cnt N wf kf f1 f2 f3 f4 f5 f6 := hp_set (fun j => by
  obtain ⟨q1, q2, q3⟩ := H
  unfold sC
  by_cases h1 : j = 3
  · subst h1
    rw [if_neg (by omega), if_neg (by omega), if_neg (by omega), if_neg (by omega), if_pos rfl, if_pos rfl]
  · simp [h1])
theorem sC_1 (H : Hy h0 a p) : (HC h0 a p wc at' kd op ih gw us nb cnt N wf kf f1 f2 f3 f4 f5 f6).set a (.inl (0, N, .inl g)) = HC h0 a p wc at' kd op ih gw us nb cnt N wf kf g f2 f3 f4 f5 f6 := hp_set (fun j => by
  obtain ⟨q1, q2, q3⟩ := H
  unfold sC
  by_cases h1 : j = a
  · subst h1
    rw [if_neg (by omega), if_neg (by omega), if_neg (by omega), if_neg (by omega), if_neg (by omega), if_pos rfl, if_pos rfl]
  · simp [h1])
theorem sC_2 (H : Hy h0 a p) : (HC h0 a p wc at' kd op ih gw us nb cnt N wf kf f1 f2 f3 f4 f5 f6).set (a + 1) (.inl (0, N, .inl g)) = HC h0 a p wc at' kd op ih gw us nb cnt N wf kf f1 g f3 f4 f5 f6 := hp_set (fun j => by
  obtain ⟨q1, q2, q3⟩ := H
  unfold sC
  by_cases h1 : j = a + 1
  · subst h1
    rw [if_neg (by omega), if_neg (by omega), if_neg (by omega), if_neg (by omega), if_neg (by omega), if_neg (by omega), if_pos rfl, if_pos rfl]
  · simp [h1])
theorem sC_3 (H : Hy h0 a p) : (HC h0 a p wc at' kd op ih gw us nb cnt N wf kf f1 f2 f3 f4 f5 f6).set (a + 2) (.inl (0, N, .inl g)) = HC h0 a p wc at' kd op ih gw us nb cnt N wf kf f1 f2 g f4 f5 f6 := hp_set (fun j => by
  obtain ⟨q1, q2, q3⟩ := H
  unfold sC
  by_cases h1 : j = a + 2
  · subst h1
    rw [if_neg (by omega), if_neg (by omega), if_neg (by omega), if_neg (by omega), if_neg (by omega), if_neg (by omega), if_neg (by omega), if_pos rfl, if_pos rfl]
  · simp [h1])
theorem sC_4 (H : Hy h0 a p) : (HC h0 a p wc at' kd op ih gw us nb cnt N wf kf f1 f2 f3 f4 f5 f6).set (a + 3) (.inl (0, N, .inl g)) = HC h0 a p wc at' kd op ih gw us nb cnt N wf kf f1 f2 f3 g f5 f6 := hp_set (fun j => by
  obtain ⟨q1, q2, q3⟩ := H
  unfold sC
  by_cases h1 : j = a + 3
  · subst h1
    rw [if_neg (by omega), if_neg (by omega), if_neg (by omega), if_neg (by omega), if_neg (by omega), if_neg (by omega), if_neg (by omega), if_neg (by omega), if_pos rfl, if_pos rfl]
  · simp [h1])
end HCL
theorem fit_i {ci k : Nat} {v : Int32} (h : mm_tyT ci k = .int) : mm_fits ci k (.int v) = true := by
  simp only [mm_fits, h, Bool.and_eq_true, decide_eq_true_eq]
  exact ⟨rfl, rfl⟩
theorem fit_z {ci k : Nat} {v : Int32} (h : mm_tyT ci k = .boolean) (hv : v = 0 ∨ v = 1) : mm_fits ci k (.int v) = true := by
  simp only [mm_fits, h]
  rcases hv with rfl | rfl <;> decide +kernel
theorem c_ne {w v : Int32} (q : mm_cond .ne w v = true) : ¬ w = v := of_decide_eq_true q
theorem c_ne' {w v : Int32} (q : mm_cond .ne w v = false) : w = v := Decidable.not_not.mp (of_decide_eq_false q)
theorem c_eq {w v : Int32} (q : mm_cond .eq w v = true) : w = v := of_decide_eq_true q
theorem c_eq' {w v : Int32} (q : mm_cond .eq w v = false) : ¬ w = v := of_decide_eq_false q
theorem c_lt {w v : Int32} (q : mm_cond .lt w v = true) : w < v := of_decide_eq_true q
theorem c_lt' {w v : Int32} (q : mm_cond .lt w v = false) : ¬ w < v := of_decide_eq_false q
theorem c_ge {w v : Int32} (q : mm_cond .ge w v = true) : v ≤ w := of_decide_eq_true q
theorem c_ge' {w v : Int32} (q : mm_cond .ge w v = false) : ¬ v ≤ w := of_decide_eq_false q
theorem c_gt {w v : Int32} (q : mm_cond .gt w v = true) : v < w := of_decide_eq_true q
theorem c_gt' {w v : Int32} (q : mm_cond .gt w v = false) : ¬ v < w := of_decide_eq_false q
theorem c_le {w v : Int32} (q : mm_cond .le w v = true) : w ≤ v := of_decide_eq_true q
theorem c_le' {w v : Int32} (q : mm_cond .le w v = false) : ¬ w ≤ v := of_decide_eq_false q
