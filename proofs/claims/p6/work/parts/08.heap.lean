/-! Fields, arrays, new cells. -/
theorem mm_find {α : Type} {l : List α} {q : α → Bool} {x : α} {g : α → Bool} (hall : l.all g = true) (h : l.find? q = some x) : q x = true ∧ g x = true :=
  ⟨List.find?_some h, List.all_eq_true.mp hall x (List.mem_of_find?_eq_some h)⟩
theorem mm_F_spec {own o : String} {ix i ci k ps : Nat} {ns : Bool} (h : mm_F own ix = some (o, i, ns, ci, k, ps)) :
    ∃ (C : String) (T : u_T) (N : Nat), mm_cl[ci]? = some (C, T, N) ∧ k < N ∧ (T k).1 = C ∧ (ns = false → Cond.fieldLink own ix C (T k).2.1 (T k).2.2.1 ∈ mm_gw) ∧ (ns = true → Cond.fieldLinkNest own ix C (T k).2.1 (T k).2.2.1 "TreeBuilder" ∈ mm_nest) := by
  obtain ⟨h1, h2⟩ := mm_find mm_chkF_all h
  simp only [Bool.and_eq_true, beq_iff_eq] at h1
  obtain ⟨rfl, rfl⟩ := h1
  unfold mm_chkF at h2
  dsimp only at h2
  split at h2
  · rename_i C T N hc
    simp only [Bool.and_eq_true, decide_eq_true_eq] at h2
    obtain ⟨⟨h3, h4⟩, h5⟩ := h2
    refine ⟨C, T, N, hc, h3, h4, fun hn => ?_, fun hn => ?_⟩
    · rw [hn] at h5
      exact mm_at_gw h5 rfl
    · rw [hn] at h5
      exact mm_at_nest h5 rfl
  · cases h2
theorem mm_lay_in {C : String} {T : u_T} {N : Nat} {ps : List Nat} (hl : ps.length = N) (h : ((List.range N).zip ps).all (fun q => mm_at q.2 (u_lay C T q.1)) = true) : ∀ w ∈ u_ws C T N, w ∈ mm_gw := by
  intro w hw
  obtain ⟨k, hk, rfl⟩ := List.mem_map.mp hw
  have hkN : k < N := List.mem_range.mp hk
  have hz : ((List.range N).zip ps)[k]? = some (k, ps[k]'(by omega)) := by
    rw [List.getElem?_zip_eq_some]
    exact ⟨by simp [hkN], List.getElem?_eq_getElem _⟩
  have h1 := List.all_eq_true.mp h _ (List.mem_of_getElem? hz)
  refine mm_at_gw h1 ?_
  unfold u_lay
  split <;> rfl
def mm_clOk (ci : Nat) (C : String) (T : u_T) (N : Nat) : Prop := (∀ w ∈ u_ws C T N, w ∈ mm_gw) ∧ (∀ k, k < N → parseFieldDescriptor (T k).2.2.1 = some (mm_tyT ci k)) ∧ (∀ a, a < N → ∀ b, b < N → a ≠ b → (T a).2.1 ≠ (T b).2.1) ∧ Cond.instantiable C N ∈ mm_gw ∧ Cond.initialized C ∈ mm_gw
theorem mm_cl_spec {ci : Nat} {C : String} {T : u_T} {N : Nat} (h : mm_cl[ci]? = some (C, T, N)) : mm_clOk ci C T N := by
  match ci, h with
  | 0, h => cases h; exact ⟨mm_lay_in rfl mm_lay0, tyX1_ok, nmX1, mm_at_gw mm_ins0 rfl, mm_at_gw mm_ini0 rfl⟩
  | 1, h => cases h; exact ⟨mm_lay_in rfl mm_lay1, tyX2_ok, nmX2, mm_at_gw mm_ins1 rfl, mm_at_gw mm_ini1 rfl⟩
  | 2, h => cases h; exact ⟨mm_lay_in rfl mm_lay2, tyX3_ok, nmX3, mm_at_gw mm_ins2 rfl, mm_at_gw mm_ini2 rfl⟩
  | 3, h => cases h; exact ⟨mm_lay_in rfl mm_lay3, tyX5_ok, nmX5, mm_at_gw mm_ins3 rfl, mm_at_gw mm_ini3 rfl⟩
  | 4, h => cases h; exact ⟨mm_lay_in rfl mm_lay4, tyX6_ok, nmX6, mm_at_gw mm_ins4 rfl, mm_at_gw mm_ini4 rfl⟩
  | k + 5, h => simp [mm_cl] at h
theorem mm_fits_real {ci k b : Nat} {ad : Nat → Nat} {v : Value} (h : mm_fits ci k v = true) : narrow (mm_tyT ci k) (mm_v b ad v) = mm_v b ad v ∧ fits (mm_tyT ci k) (mm_v b ad v) = true := by
  cases v with
  | retAddr a => cases h
  | ref a =>
    simp only [mm_fits, Bool.and_eq_true, decide_eq_true_eq] at h
    obtain ⟨-, h2⟩ := h
    simp only [mm_v]
    generalize mm_tyT ci k = ty at h2 ⊢
    cases ty <;> first | exact ⟨rfl, h2⟩ | exact ⟨rfl, rfl⟩ | cases h2
  | int x => simp only [mm_fits, Bool.and_eq_true, decide_eq_true_eq] at h; exact h
  | long x => simp only [mm_fits, Bool.and_eq_true, decide_eq_true_eq] at h; exact h
  | float x => simp only [mm_fits, Bool.and_eq_true, decide_eq_true_eq] at h; exact h
  | double x => simp only [mm_fits, Bool.and_eq_true, decide_eq_true_eq] at h; exact h
  | null => simp only [mm_fits, Bool.and_eq_true, decide_eq_true_eq] at h; exact h
section MMH
variable {p : Program} {l : Launch} {e : Env} {R : Room} {s : State} {m : MethodId} {args : Array Value} {below : List Frame} {meth : Method} {c : Code} {H : Heap} {locs : List Loc} {cells slots : Nat} {Q : State → Prop}
variable {D : va_G} {cy : Nat → ClassId} {A : Nat → Prop} {b L : Nat} {xs : Nat → Int32} {me : mm_Me} {ad : Nat → Nat} {h h' : mm_H} {ls ls' : mm_L} {st st' : List Value} {lsr : Array Slot} {pc pc' len c' z' ix : Nat}
theorem mm_getf_ok (C : mm_Cx D cy A b L xs p l s m args meth c me) (Rp : mm_Rp D cy A b s.heap me.2.2.2.1 ad h ls st H locs lsr) (hdg : decode me.2.2.1 pc = .ok (.getfield ix, 3)) (ha : mm_getf me.1 ix pc ls st h cells slots = some (.inl (pc', ls', st', h', c', z')))
    (K : mm_K p l e R s m args below meth c Q D cy A b me.2.2.2.1 h.length ad pc' ls' st' h' c' z') : W p l e R s m args below meth c H locs cells slots Q (F0 m pc lsr (st.map (mm_v b ad))) := by
  obtain ⟨hx, hb, hml, hown, hts, hr, hlk, hnm, htb, hA, hG, htr⟩ := C
  obtain ⟨hP, hD, hS, hl, hw, hq, ht⟩ := Rp
  unfold mm_getf at ha
  split at ha
  · rename_i a r o i ns ci k ps hF
    split at ha
    · rename_i cj fs hcell
      split at ha
      · rename_i hcj
        subst hcj
        split at ha
        · rename_i v hv
          obtain ⟨rfl, rfl, rfl, rfl, rfl, rfl⟩ := mm_go_eq ha
          obtain ⟨-, ht⟩ := mm_wl_cons.mp ht
          obtain ⟨C, T, N, hc, hkN, hT, hl0, hl1⟩ := mm_F_spec hF
          obtain ⟨k1, k2, k3, k4, k5⟩ := mm_cl_spec hc
          have hwv : mm_wv h.length v := hw _ (List.mem_of_getElem? hcell) v (List.mem_of_getElem? hv)
          have he := mm_W_get (cy := cy) (b := b) (ad := ad) hcell
          have hvr : (fs.map (mm_v b ad))[k]? = some (mm_v b ad v) := by rw [List.getElem?_map, hv]; rfl
          have kk := K ad H locs lsr mm_ag.rf ⟨hP, hD, hS, hl, hw, hq, mm_wl_cons.mpr ⟨hwv, ht⟩⟩
          cases ns with
          | false => exact va_get (C := C) (T := T) (N := N) (ref := C) hx hb hts k1 hown hG.1 hP a he hc k hkN (hts _ (hl0 rfl)) (fun x h9 => by rw [hT] at h9; exact h9) hvr hdg kk
          | true => exact va_getN (C := C) (T := T) (N := N) (ref := C) (host := "TreeBuilder") hx hb hts k1 hown hG.1 hP a he hc k hkN (va_Nw.use rfl (hG.2.1 _ (hl1 rfl))) (fun x h9 => by rw [hT] at h9; exact h9) hvr hdg kk
        · cases ha
      · cases ha
    · cases ha
  · cases ha
theorem mm_putf_ok (C : mm_Cx D cy A b L xs p l s m args meth c me) (Rp : mm_Rp D cy A b s.heap me.2.2.2.1 ad h ls st H locs lsr) (hdg : decode me.2.2.1 pc = .ok (.putfield ix, 3)) (ha : mm_putf me.1 me.2.1.name ix pc ls st h cells slots = some (.inl (pc', ls', st', h', c', z')))
    (K : mm_K p l e R s m args below meth c Q D cy A b me.2.2.2.1 h.length ad pc' ls' st' h' c' z') : W p l e R s m args below meth c H locs cells slots Q (F0 m pc lsr (st.map (mm_v b ad))) := by
  obtain ⟨hx, hb, hml, hown, hts, hr, hlk, hnm, htb, hA, hG, htr⟩ := C
  obtain ⟨hP, hD, hS, hl, hw, hq, ht⟩ := Rp
  unfold mm_putf at ha
  split at ha
  · rename_i v a r o i ns ci k ps hF
    split at ha
    · rename_i cj fs hcell
      split at ha
      · rename_i hcond
        obtain ⟨rfl, hkl, hfit, hfin⟩ := hcond
        obtain ⟨rfl, rfl, rfl, rfl, rfl, rfl⟩ := mm_go_eq ha
        obtain ⟨hv, ht⟩ := mm_wl_cons.mp ht
        obtain ⟨-, ht⟩ := mm_wl_cons.mp ht
        obtain ⟨C, T, N, hc, hkN, hT, hl0, hl1⟩ := mm_F_spec hF
        obtain ⟨k1, k2, k3, k4, k5⟩ := mm_cl_spec hc
        have hwf : mm_wl h.length fs := hw _ (List.mem_of_getElem? hcell)
        have he := mm_W_get (cy := cy) (b := b) (ad := ad) hcell
        obtain ⟨f1, f2⟩ := mm_fits_real (b := b) (ad := ad) hfit
        have hset : (mm_W cy b ad h).set a (ad a, .inr (cj, (fs.map (mm_v b ad)).set k (mm_v b ad v))) = mm_W cy b ad (h.set a (.inr (cj, fs.set k v))) := by
          rw [← mm_W_set]
          show _ = (mm_W cy b ad h).set a (ad a, .inr (cj, (fs.set k v).map (mm_v b ad)))
          rw [List.map_set]
        have hkl2 : k < (fs.map (mm_v b ad)).length := by rw [List.length_map]; exact hkl
        have hfv : mm_final cj k = (T k).2.2.2 := by unfold mm_final; rw [hc]
        have kk : ∀ (H1 : Heap) (locs1 : List Loc), va_P D mm_cl ((mm_W cy b ad h).set a (ad a, .inr (cj, (fs.map (mm_v b ad)).set k (mm_v b ad v)))) H1 → va_D A ((mm_W cy b ad h).set a (ad a, .inr (cj, (fs.map (mm_v b ad)).set k (mm_v b ad v)))) → va_S A s.heap H1 locs1 → W p l e R s m args below meth c H1 locs1 cells slots Q (F0 m (pc + 3) lsr (r.map (mm_v b ad))) := by
          intro H1 locs1 hP1 hD1 hS1
          rw [hset] at hP1 hD1
          exact K ad H1 locs1 lsr mm_ag.rf ⟨hP1, hD1, hS1, hl, mm_wh_set hw (fun o9 ho => by cases ho; exact mm_wl_set hwf hv), by rw [List.length_set]; exact hq, by rw [List.length_set]; exact ht⟩
        rcases hfin with hfin | ⟨hfin, hns, hmn, hown2⟩
        · cases ns with
          | false => exact va_put (C := C) (T := T) (N := N) (ref := C) hx hb hts k1 (mm_tyT cj) k2 k3 hown hG.1 hP hD hS a he hc k hkN (hts _ (hl0 rfl)) (fun x h9 => by rw [hT] at h9; exact h9) (by rw [← hfv]; exact hfin) (k2 k hkN) f1 f2 hkl2 hdg kk
          | true => exact va_putN (C := C) (T := T) (N := N) (ref := C) (host := "TreeBuilder") hx hb hts k1 (mm_tyT cj) k2 k3 hown hG.1 hP hD hS a he hc k hkN (va_Nw.use rfl (hG.2.1 _ (hl1 rfl))) (fun x h9 => by rw [hT] at h9; exact h9) (by rw [← hfv]; exact hfin) (k2 k hkN) f1 f2 hkl2 hdg kk
        · subst hns
          rw [hc] at hown2
          have hCo : C = me.1 := Option.some.inj hown2
          exact va_putF (C := C) (T := T) (N := N) (ref := C) hx hb hts k1 (mm_tyT cj) k2 k3 hown hG.1 hP hD hS a he hc k hkN (hts _ (hl0 rfl)) (fun x h9 => by rw [hT] at h9; exact h9) (by rw [← hfv]; exact hfin) (hnm hmn) (hT.trans hCo) (k2 k hkN) f1 f2 hkl2 hdg kk
      · cases ha
    · cases ha
  · cases ha
theorem mm_ald_ok {t0 : Nat → Bool} {wide : Bool} (Rp : mm_Rp D cy A b s.heap me.2.2.2.1 ad h ls st H locs lsr) (ha : mm_ald t0 wide xs L pc ls st h cells slots = some (.inl (pc', ls', st', h', c', z')))
    (r1 : wide = false → ∀ (t n a0 : Nat) (f : Nat → Int32) (i : Int32) (rest : List Value), t0 t = true → (mm_W cy b ad h)[a0]? = some (ad a0, .inl (cy t, n, .inl f)) → vp_in i n → W p l e R s m args below meth c H locs cells slots Q (F0 m (pc + 1) lsr (.int (f i.toNatClampNeg) :: rest)) → W p l e R s m args below meth c H locs cells slots Q (F0 m pc lsr (.int i :: .ref (ad a0) :: rest)))
    (r2 : wide = true → ∀ (t n a0 : Nat) (f : Nat → Int64) (i : Int32) (rest : List Value), t0 t = true → (mm_W cy b ad h)[a0]? = some (ad a0, .inl (cy t, n, .inr (.inl f))) → vp_in i n → W p l e R s m args below meth c H locs cells slots Q (F0 m (pc + 1) lsr (.long (f i.toNatClampNeg) :: rest)) → W p l e R s m args below meth c H locs cells slots Q (F0 m pc lsr (.int i :: .ref (ad a0) :: rest)))
    (r3 : t0 0 = true → wide = false → ∀ (i : Int32) (rest : List Value), vp_in i L → W p l e R s m args below meth c H locs cells slots Q (F0 m (pc + 1) lsr (.int (xs i.toNatClampNeg) :: rest)) → W p l e R s m args below meth c H locs cells slots Q (F0 m pc lsr (.int i :: .ref b :: rest)))
    (K : mm_K p l e R s m args below meth c Q D cy A b me.2.2.2.1 h.length ad pc' ls' st' h' c' z') : W p l e R s m args below meth c H locs cells slots Q (F0 m pc lsr (st.map (mm_v b ad))) := by
  obtain ⟨hP, hD, hS, hl, hw, hq, ht⟩ := Rp
  unfold mm_ald at ha
  split at ha
  · rename_i i a r
    obtain ⟨-, ht⟩ := mm_wl_cons.mp ht
    obtain ⟨-, ht⟩ := mm_wl_cons.mp ht
    split at ha
    · rename_i t n f hcell
      split at ha
      · rename_i hc
        obtain ⟨rfl, rfl, rfl, rfl, rfl, rfl⟩ := mm_go_eq ha
        exact r1 hc.2.1 t n a f i _ hc.1 (mm_W_get hcell) hc.2.2 (K ad H locs lsr mm_ag.rf ⟨hP, hD, hS, hl, hw, hq, mm_wl_cons.mpr ⟨mm_wv_int, ht⟩⟩)
      · cases ha
    · rename_i t n f hcell
      split at ha
      · rename_i hc
        obtain ⟨rfl, rfl, rfl, rfl, rfl, rfl⟩ := mm_go_eq ha
        exact r2 hc.2.1 t n a f i _ hc.1 (mm_W_get hcell) hc.2.2 (K ad H locs lsr mm_ag.rf ⟨hP, hD, hS, hl, hw, hq, mm_wl_cons.mpr ⟨mm_wv_long, ht⟩⟩)
      · cases ha
    · cases ha
  · rename_i i a r
    obtain ⟨-, ht⟩ := mm_wl_cons.mp ht
    obtain ⟨-, ht⟩ := mm_wl_cons.mp ht
    split at ha
    · rename_i hc
      obtain ⟨rfl, rfl, rfl, rfl, rfl, rfl⟩ := mm_go_eq ha
      exact r3 hc.1 hc.2.1 i _ hc.2.2 (K ad H locs lsr mm_ag.rf ⟨hP, hD, hS, hl, hw, hq, mm_wl_cons.mpr ⟨mm_wv_int, ht⟩⟩)
    · cases ha
  · cases ha
theorem mm_ast_ok {t0 : Nat → Bool} (Rp : mm_Rp D cy A b s.heap me.2.2.2.1 ad h ls st H locs lsr) (ha : mm_ast t0 pc ls st h cells slots = some (.inl (pc', ls', st', h', c', z')))
    (r1 : ∀ (t n a0 : Nat) (f : Nat → Int32) (i x : Int32) (rest : List Value), t0 t = true → t < 3 → (mm_W cy b ad h)[a0]? = some (ad a0, .inl (cy t, n, .inl f)) → vp_in i n → (∀ (H1 : Heap) (locs1 : List Loc), va_P D mm_cl ((mm_W cy b ad h).set a0 (ad a0, .inl (cy t, n, .inl (upd f i.toNatClampNeg (vp_nar (mm_ty t) x))))) H1 → va_D A ((mm_W cy b ad h).set a0 (ad a0, .inl (cy t, n, .inl (upd f i.toNatClampNeg (vp_nar (mm_ty t) x))))) → va_S A s.heap H1 locs1 → W p l e R s m args below meth c H1 locs1 cells slots Q (F0 m (pc + 1) lsr rest)) → W p l e R s m args below meth c H locs cells slots Q (F0 m pc lsr (.int x :: .int i :: .ref (ad a0) :: rest)))
    (r2 : ∀ (n a0 : Nat) (f : Nat → Int64) (i : Int32) (x : Int64) (rest : List Value), t0 3 = true → (mm_W cy b ad h)[a0]? = some (ad a0, .inl (cy 3, n, .inr (.inl f))) → vp_in i n → (∀ (H1 : Heap) (locs1 : List Loc), va_P D mm_cl ((mm_W cy b ad h).set a0 (ad a0, .inl (cy 3, n, .inr (.inl (vp_updL f i.toNatClampNeg x))))) H1 → va_D A ((mm_W cy b ad h).set a0 (ad a0, .inl (cy 3, n, .inr (.inl (vp_updL f i.toNatClampNeg x))))) → va_S A s.heap H1 locs1 → W p l e R s m args below meth c H1 locs1 cells slots Q (F0 m (pc + 1) lsr rest)) → W p l e R s m args below meth c H locs cells slots Q (F0 m pc lsr (.long x :: .int i :: .ref (ad a0) :: rest)))
    (K : mm_K p l e R s m args below meth c Q D cy A b me.2.2.2.1 h.length ad pc' ls' st' h' c' z') : W p l e R s m args below meth c H locs cells slots Q (F0 m pc lsr (st.map (mm_v b ad))) := by
  obtain ⟨hP, hD, hS, hl, hw, hq, ht⟩ := Rp
  unfold mm_ast at ha
  split at ha
  · rename_i v i a r
    obtain ⟨-, ht⟩ := mm_wl_cons.mp ht
    obtain ⟨-, ht⟩ := mm_wl_cons.mp ht
    obtain ⟨-, ht⟩ := mm_wl_cons.mp ht
    split at ha
    · rename_i t n f hcell
      split at ha
      · rename_i hc
        obtain ⟨rfl, rfl, rfl, rfl, rfl, rfl⟩ := mm_go_eq ha
        refine r1 t n a f i v _ hc.1 hc.2.1 (mm_W_get hcell) hc.2.2 (fun H1 locs1 hP1 hD1 hS1 => ?_)
        have hset := mm_W_set (cy := cy) (b := b) (ad := ad) (h := h) (k := a) (e := .inl (t, n, .inl (upd f i.toNatClampNeg (vp_nar (mm_ty t) v))))
        exact K ad H1 locs1 lsr mm_ag.rf ⟨by rw [← hset]; exact hP1, by rw [← hset]; exact hD1, hS1, hl, mm_wh_set hw (fun o9 ho => by cases ho), by rw [List.length_set]; exact hq, by rw [List.length_set]; exact ht⟩
      · cases ha
    · cases ha
  · rename_i v i a r
    obtain ⟨-, ht⟩ := mm_wl_cons.mp ht
    obtain ⟨-, ht⟩ := mm_wl_cons.mp ht
    obtain ⟨-, ht⟩ := mm_wl_cons.mp ht
    split at ha
    · rename_i t n f hcell
      split at ha
      · rename_i hc
        obtain ⟨hc1, rfl, hc3⟩ := hc
        obtain ⟨rfl, rfl, rfl, rfl, rfl, rfl⟩ := mm_go_eq ha
        refine r2 n a f i v _ hc1 (mm_W_get hcell) hc3 (fun H1 locs1 hP1 hD1 hS1 => ?_)
        have hset := mm_W_set (cy := cy) (b := b) (ad := ad) (h := h) (k := a) (e := .inl (3, n, .inr (.inl (vp_updL f i.toNatClampNeg v))))
        exact K ad H1 locs1 lsr mm_ag.rf ⟨by rw [← hset]; exact hP1, by rw [← hset]; exact hD1, hS1, hl, mm_wh_set hw (fun o9 ho => by cases ho), by rw [List.length_set]; exact hq, by rw [List.length_set]; exact ht⟩
      · cases ha
    · cases ha
  · cases ha
theorem mm_alen_ok (C : mm_Cx D cy A b L xs p l s m args meth c me) (Rp : mm_Rp D cy A b s.heap me.2.2.2.1 ad h ls st H locs lsr) (hdg : decode me.2.2.1 pc = .ok (.arraylength, 1)) (ha : mm_alen L pc ls st h cells slots = some (.inl (pc', ls', st', h', c', z')))
    (K : mm_K p l e R s m args below meth c Q D cy A b me.2.2.2.1 h.length ad pc' ls' st' h' c' z') : W p l e R s m args below meth c H locs cells slots Q (F0 m pc lsr (st.map (mm_v b ad))) := by
  obtain ⟨hx, hb, hml, hown, hts, hr, hlk, hnm, htb, hA, hG, htr⟩ := C
  obtain ⟨hP, hD, hS, hl, hw, hq, ht⟩ := Rp
  unfold mm_alen at ha
  split at ha
  · rename_i a r
    obtain ⟨-, ht⟩ := mm_wl_cons.mp ht
    split at ha
    · rename_i t n f hcell
      split at ha
      · rename_i ht4
        obtain ⟨rfl, rfl, rfl, rfl, rfl, rfl⟩ := mm_go_eq ha
        have kk := K ad H locs lsr mm_ag.rf ⟨hP, hD, hS, hl, hw, hq, mm_wl_cons.mpr ⟨mm_wv_int, ht⟩⟩
        have he := mm_W_get (cy := cy) (b := b) (ad := ad) hcell
        have hty : ∃ ty, (mm_tys cy)[t]? = some (cy t, ty) := by
          rcases (show t = 0 ∨ t = 1 ∨ t = 2 ∨ t = 3 by omega) with rfl | rfl | rfl | rfl <;> exact ⟨_, rfl⟩
        obtain ⟨ty, hty⟩ := hty
        exact va_alen hx hb hG.1 hP a t he hty rfl hdg kk
      · cases ha
    · cases ha
  · rename_i a r
    obtain ⟨-, ht⟩ := mm_wl_cons.mp ht
    obtain ⟨rfl, rfl, rfl, rfl, rfl, rfl⟩ := mm_go_eq ha
    have kk := K ad H locs lsr mm_ag.rf ⟨hP, hD, hS, hl, hw, hq, mm_wl_cons.mpr ⟨mm_wv_int, ht⟩⟩
    obtain ⟨g1, g2, g3, g4, g5, g6, g7, g8⟩ := hG
    exact va_slen hx hb g6 g8 g7 hS hdg kk
  · cases ha
set_option maxRecDepth 100000 in
theorem mm_newa_ok {t : ArrayType} (C : mm_Cx D cy A b L xs p l s m args meth c me) (Rp : mm_Rp D cy A b s.heap me.2.2.2.1 ad h ls st H locs lsr) (hdg : decode me.2.2.1 pc = .ok (.newarray t, 2)) (ha : mm_newa t pc ls st h cells slots = some (.inl (pc', ls', st', h', c', z'))) (hc : c' ≤ R.cells) (hz : z' ≤ R.slots)
    (K : mm_K p l e R s m args below meth c Q D cy A b me.2.2.2.1 h.length ad pc' ls' st' h' c' z') : W p l e R s m args below meth c H locs cells slots Q (F0 m pc lsr (st.map (mm_v b ad))) := by
  obtain ⟨hx, hb, hml, hown, hts, hr, hlk, hnm, htb, hA, hG, htr⟩ := C
  obtain ⟨hP, hD, hS, hl, hw, hq, ht⟩ := Rp
  unfold mm_newa at ha
  split at ha
  · rename_i n r g hg
    obtain ⟨-, ht⟩ := mm_wl_cons.mp ht
    split at ha
    · cases ha
    · rename_i hn
      obtain ⟨rfl, rfl, rfl, rfl, rfl, rfl⟩ := mm_go_eq ha
      have hn0 : ¬ n < 0 := fun q => hn (Or.inl q)
      have hn1 : n.toNatClampNeg ≤ 1000000 := by omega
      have hag : mm_ag h.length ad (mm_ext h.length H.size ad) := mm_ext_ag
      have fin : ∀ (q : Nat) (H1 : Heap), va_P D mm_cl (mm_W cy b ad h ++ [(q, mm_re cy b ad (.inl (g, mm_zero g n.toNatClampNeg)))]) H1 → va_D A (mm_W cy b ad h ++ [(q, mm_re cy b ad (.inl (g, mm_zero g n.toNatClampNeg)))]) → va_S A s.heap H1 locs → W p l e R s m args below meth c H1 locs (cells + 1) (slots + n.toNatClampNeg) Q (F0 m (pc + 2) lsr (.ref q :: r.map (mm_v b ad))) := by
        intro q H1 hP1 hD1 hS1
        rw [mm_W_push hw (fun o9 ho => by cases ho)] at hP1 hD1
        have hag : mm_ag h.length ad (mm_ext h.length q ad) := mm_ext_ag
        have hle : h.length ≤ (h ++ [(.inl (g, mm_zero g n.toNatClampNeg) : mm_E)]).length := by simp
        have k := K (mm_ext h.length q ad) H1 locs lsr hag ⟨hP1, hD1, hS1, by rw [mm_ml_ag hag hq]; exact hl, mm_wh_push hw (fun o9 ho => by cases ho), hq.mono hle, mm_wl_cons.mpr ⟨fun k9 e9 => by cases e9; simp, ht.mono hle⟩⟩
        rw [List.map_cons, mm_map_ag hag ht] at k
        have e1 : mm_v b (mm_ext h.length q ad) (.ref h.length) = .ref q := by simp [mm_v, mm_ext]
        rw [e1] at k
        exact k
      have hK4 := hG.1
      cases t with
      | int =>
        cases hg
        refine va_newa (ty := .int) (N' := n.toNatClampNeg) (a0 := (n.toNatClampNeg, .inl (fun _ => 0))) hx hb (hts _ (mm_at_gw mm_arr_int rfl)) rfl hK4 hP hD hS hA (fun cA => rfl) hn0 rfl (by simp [componentBytes]; omega) hc hz hdg (fun q cA H1 hK1 hP1 hD1 hS1 => ?_)
        have e1 : cA = cy 0 := Option.some.inj ((hK1.2 4 (cA, .int) rfl).2.symm.trans (hK4.2 0 (cy 0, .int) rfl).2)
        subst e1
        exact fin q H1 hP1 hD1 hS1
      | byte =>
        cases hg
        refine va_newa (ty := .byte) (N' := n.toNatClampNeg) (a0 := (n.toNatClampNeg, .inl (fun _ => 0))) hx hb (hts _ (mm_at_gw mm_arr_byte rfl)) rfl hK4 hP hD hS hA (fun cA => rfl) hn0 rfl (by simp [componentBytes]; omega) hc hz hdg (fun q cA H1 hK1 hP1 hD1 hS1 => ?_)
        have e1 : cA = cy 1 := Option.some.inj ((hK1.2 4 (cA, .byte) rfl).2.symm.trans (hK4.2 1 (cy 1, .byte) rfl).2)
        subst e1
        exact fin q H1 hP1 hD1 hS1
      | boolean =>
        cases hg
        refine va_newa (ty := .boolean) (N' := n.toNatClampNeg) (a0 := (n.toNatClampNeg, .inl (fun _ => 0))) hx hb (hts _ (mm_at_gw mm_arr_boolean rfl)) rfl hK4 hP hD hS hA (fun cA => rfl) hn0 rfl (by simp [componentBytes]; omega) hc hz hdg (fun q cA H1 hK1 hP1 hD1 hS1 => ?_)
        have e1 : cA = cy 2 := Option.some.inj ((hK1.2 4 (cA, .boolean) rfl).2.symm.trans (hK4.2 2 (cy 2, .boolean) rfl).2)
        subst e1
        exact fin q H1 hP1 hD1 hS1
      | long =>
        cases hg
        refine va_newa (ty := .long) (N' := n.toNatClampNeg) (a0 := (n.toNatClampNeg, .inr (.inl (fun _ => 0)))) hx hb (hts _ (mm_at_gw mm_arr_long rfl)) rfl hK4 hP hD hS hA (fun cA => rfl) hn0 rfl (by simp [componentBytes]; omega) hc hz hdg (fun q cA H1 hK1 hP1 hD1 hS1 => ?_)
        have e1 : cA = cy 3 := Option.some.inj ((hK1.2 4 (cA, .long) rfl).2.symm.trans (hK4.2 3 (cy 3, .long) rfl).2)
        subst e1
        exact fin q H1 hP1 hD1 hS1
      | char => cases hg
      | float => cases hg
      | double => cases hg
      | short => cases hg
  · cases ha
theorem mm_N_spec {own o : String} {ix i ci ps : Nat} (h : mm_N own ix = some (o, i, ci, ps)) {C : String} {T : u_T} {N : Nat} (hc : mm_cl[ci]? = some (C, T, N)) : Cond.classLink own ix C ∈ mm_gw := by
  obtain ⟨h1, h2⟩ := mm_find mm_chkN_all h
  simp only [Bool.and_eq_true, beq_iff_eq] at h1
  obtain ⟨rfl, rfl⟩ := h1
  unfold mm_chkN at h2
  dsimp only at h2
  rw [hc] at h2
  exact mm_at_gw h2 rfl
theorem mm_new_ok (C : mm_Cx D cy A b L xs p l s m args meth c me) (Rp : mm_Rp D cy A b s.heap me.2.2.2.1 ad h ls st H locs lsr) (hdg : decode me.2.2.1 pc = .ok (.new ix, 3)) (ha : mm_new me ix pc ls st h cells slots = some (.inl (pc', ls', st', h', c', z'))) (hc : c' ≤ R.cells) (hz : z' ≤ R.slots)
    (K : mm_K p l e R s m args below meth c Q D cy A b me.2.2.2.1 h.length ad pc' ls' st' h' c' z') : W p l e R s m args below meth c H locs cells slots Q (F0 m pc lsr (st.map (mm_v b ad))) := by
  obtain ⟨hx, hb, hml, hown, hts, hr, hlk, hnm, htb, hA, hG, htr⟩ := C
  obtain ⟨hP, hD, hS, hl, hw, hq, ht⟩ := Rp
  unfold mm_new at ha
  split at ha
  · rename_i o i ci ps hN
    split at ha
    · rename_i C T N hcl
      obtain ⟨rfl, rfl, rfl, rfl, rfl, rfl⟩ := mm_go_eq ha
      obtain ⟨k1, k2, k3, k4, k5⟩ := mm_cl_spec hcl
      refine va_new (ci := ci) (fs := mm_fresh ci N) (C := C) (T := T) (N := N) hx hb hts k1 (mm_tyT ci) k2 hown (hts _ (mm_N_spec hN hcl)) (hts _ k4) (hts _ k5) hG.1 hP hD hS hA hcl (fun j hj => ?_) hc hz hdg (fun q H1 hP1 hD1 hS1 => ?_)
      · unfold vp_V mm_fresh
        rw [List.getD_eq_getElem?_getD, List.getElem?_map, List.getElem?_range hj]
        rfl
      · have e0 : mm_re cy b ad (.inr (ci, mm_fresh ci N)) = .inr (ci, mm_fresh ci N) := by simp only [mm_re, mm_fresh_map]
        rw [← e0, mm_W_push hw (fun o9 ho => by cases ho; exact mm_fresh_w)] at hP1 hD1
        have hag : mm_ag h.length ad (mm_ext h.length q ad) := mm_ext_ag
        have hle : h.length ≤ (h ++ [(.inr (ci, mm_fresh ci N) : mm_E)]).length := by simp
        have k := K (mm_ext h.length q ad) H1 locs lsr hag ⟨hP1, hD1, hS1, by rw [mm_ml_ag hag hq]; exact hl, mm_wh_push hw (fun o9 ho => by cases ho; exact mm_fresh_w), hq.mono hle, mm_wl_cons.mpr ⟨fun k9 e9 => by cases e9; simp, ht.mono hle⟩⟩
        rw [List.map_cons, mm_map_ag hag ht] at k
        have e1 : mm_v b (mm_ext h.length q ad) (.ref h.length) = .ref q := by simp [mm_v, mm_ext]
        rw [e1] at k
        exact k
    · cases ha
  · split at ha
    · split at ha
      · cases ha
      · cases ha
    · cases ha
end MMH
