/-! One instruction of the small machine is one of the machine's. -/
section MMS
variable {p : Program} {l : Launch} {e : Env} {R : Room} {s : State} {m : MethodId} {args : Array Value} {below : List Frame} {meth : Method} {c : Code} {H : Heap} {locs : List Loc} {cells slots : Nat} {Q : State → Prop}
variable {D : va_G} {cy : Nat → ClassId} {A : Nat → Prop} {b L : Nat} {xs : Nat → Int32} {me : mm_Me} {ad : Nat → Nat} {h h' : mm_H} {ls ls' : mm_L} {st st' : List Value} {lsr : Array Slot} {pc pc' len c' z' : Nat}
/-- what stands fast in a method's walk -/
def mm_Cx (D : va_G) (cy : Nat → ClassId) (A : Nat → Prop) (b L : Nat) (xs : Nat → Int32) (p : Program) (l : Launch) (s : State) (m : MethodId) (args : Array Value) (meth : Method) (c : Code) (me : mm_Me) : Prop :=
  p.tables.exec = Jvm.exec ∧ c.code = me.2.2.1 ∧ c.maxLocals = me.2.2.2.1 ∧ s.vm.findClass me.1 = some m.cls ∧ (∀ w ∈ mm_gw, w.before args s = true) ∧ meth.sig.returnType = me.2.2.2.2.1 ∧ meth.locks = false ∧ (me.2.1.name = "<init>" → meth.name = "<init>") ∧
  (me.2.2.2.2.2.1 ≠ [] → c.exceptionTable.toList = tableOf me.2.2.2.2.2.1) ∧ (∀ q, s.heap.size ≤ q → A q) ∧ mm_G D cy A b L xs s s.heap ∧ l.stackTraces = false
theorem mm_go_eq {pc pc' : Nat} {ls ls' : mm_L} {st st' : List Value} {h h' : mm_H} {c c' z z' : Nat} (ha : mm_go pc ls st h c z = some (.inl (pc', ls', st', h', c', z'))) : pc = pc' ∧ ls = ls' ∧ st = st' ∧ h = h' ∧ c = c' ∧ z = z' := by
  unfold mm_go at ha
  simp only [Option.some.injEq, Sum.inl.injEq, Prod.mk.injEq] at ha
  exact ha
/-- the walk behind the instruction -/
def mm_K (p : Program) (l : Launch) (e : Env) (R : Room) (s : State) (m : MethodId) (args : Array Value) (below : List Frame) (meth : Method) (c : Code) (Q : State → Prop) (D : va_G) (cy : Nat → ClassId) (A : Nat → Prop) (b nL : Nat) (n : Nat) (ad : Nat → Nat) (pc' : Nat) (ls' : mm_L) (st' : List Value) (h' : mm_H) (c' z' : Nat) : Prop :=
  ∀ (ad' : Nat → Nat) (H' : Heap) (locs' : List Loc) (lsr' : Array Slot), mm_ag n ad ad' → mm_Rp D cy A b s.heap nL ad' h' ls' st' H' locs' lsr' → W p l e R s m args below meth c H' locs' c' z' Q (F0 m pc' lsr' (st'.map (mm_v b ad')))
theorem mm_load_ok {i k : Nat} (hi : i = 0 ∨ i = 1 ∨ i = 2) (Rp : mm_Rp D cy A b s.heap me.2.2.2.1 ad h ls st H locs lsr) (ha : mm_load i len pc k ls st h cells slots = some (.inl (pc', ls', st', h', c', z')))
    (rI : i = 0 → ∀ (v : Int32), lsr[k]? = some (.val (.int v)) → W p l e R s m args below meth c H locs cells slots Q (F0 m (pc + len) lsr (.int v :: st.map (mm_v b ad))) → W p l e R s m args below meth c H locs cells slots Q (F0 m pc lsr (st.map (mm_v b ad))))
    (rL : i = 1 → ∀ (v : Int64), lsr[k]? = some (.val (.long v)) → W p l e R s m args below meth c H locs cells slots Q (F0 m (pc + len) lsr (.long v :: st.map (mm_v b ad))) → W p l e R s m args below meth c H locs cells slots Q (F0 m pc lsr (st.map (mm_v b ad))))
    (rA : i = 2 → ∀ (v : Nat), lsr[k]? = some (.val (.ref v)) → W p l e R s m args below meth c H locs cells slots Q (F0 m (pc + len) lsr (.ref v :: st.map (mm_v b ad))) → W p l e R s m args below meth c H locs cells slots Q (F0 m pc lsr (st.map (mm_v b ad))))
    (K : mm_K p l e R s m args below meth c Q D cy A b me.2.2.2.1 h.length ad pc' ls' st' h' c' z') : W p l e R s m args below meth c H locs cells slots Q (F0 m pc lsr (st.map (mm_v b ad))) := by
  unfold mm_load at ha
  obtain ⟨hP, hD, hS, hl, hw, hq, ht⟩ := Rp
  split at ha
  · rename_i v hk
    obtain ⟨rfl, rfl, rfl, rfl, rfl, rfl⟩ := mm_go_eq ha
    exact rI rfl v (mm_lk_has hl hk) (K ad H locs lsr mm_ag.rf ⟨hP, hD, hS, hl, hw, hq, mm_wl_cons.mpr ⟨mm_wv_int, ht⟩⟩)
  · rename_i v hk
    obtain ⟨rfl, rfl, rfl, rfl, rfl, rfl⟩ := mm_go_eq ha
    exact rL rfl v (mm_lk_has hl hk) (K ad H locs lsr mm_ag.rf ⟨hP, hD, hS, hl, hw, hq, mm_wl_cons.mpr ⟨mm_wv_long, ht⟩⟩)
  · rename_i v hk
    obtain ⟨rfl, rfl, rfl, rfl, rfl, rfl⟩ := mm_go_eq ha
    exact rA rfl (ad v) (mm_lk_has hl hk) (K ad H locs lsr mm_ag.rf ⟨hP, hD, hS, hl, hw, hq, mm_wl_cons.mpr ⟨mm_lk_w hq hk, ht⟩⟩)
  · rename_i v hk
    obtain ⟨rfl, rfl, rfl, rfl, rfl, rfl⟩ := mm_go_eq ha
    exact rA rfl b (mm_lk_has hl hk) (K ad H locs lsr mm_ag.rf ⟨hP, hD, hS, hl, hw, hq, mm_wl_cons.mpr ⟨mm_wv_ret, ht⟩⟩)
  · cases ha
theorem mm_store_ok {i k : Nat} (Rp : mm_Rp D cy A b s.heap me.2.2.2.1 ad h ls st H locs lsr) (ha : mm_store i len pc me.2.2.2.1 k ls st h cells slots = some (.inl (pc', ls', st', h', c', z')))
    (rI : i = 0 → ∀ (v : Int32) (r : List Value) (lv' : mm_L), k < me.2.2.2.1 → (k, Value.int v) :: (mm_ml b ad ls).filter (fun q => !(q.1 == k) && !(q.1 + 1 == k && q.2.category == 2)) = lv' → (∀ ls' : Array Slot, lv_has ls' me.2.2.2.1 lv' → W p l e R s m args below meth c H locs cells slots Q (F0 m (pc + len) ls' r)) → W p l e R s m args below meth c H locs cells slots Q (F0 m pc lsr (.int v :: r)))
    (rA : i = 2 → ∀ (v : Nat) (r : List Value) (lv' : mm_L), k < me.2.2.2.1 → (k, Value.ref v) :: (mm_ml b ad ls).filter (fun q => !(q.1 == k) && !(q.1 + 1 == k && q.2.category == 2)) = lv' → (∀ ls' : Array Slot, lv_has ls' me.2.2.2.1 lv' → W p l e R s m args below meth c H locs cells slots Q (F0 m (pc + len) ls' r)) → W p l e R s m args below meth c H locs cells slots Q (F0 m pc lsr (.ref v :: r)))
    (K : mm_K p l e R s m args below meth c Q D cy A b me.2.2.2.1 h.length ad pc' ls' st' h' c' z') : W p l e R s m args below meth c H locs cells slots Q (F0 m pc lsr (st.map (mm_v b ad))) := by
  unfold mm_store at ha
  obtain ⟨hP, hD, hS, hl, hw, hq, ht⟩ := Rp
  split at ha
  · rename_i hkn
    split at ha
    · rename_i v r
      obtain ⟨rfl, rfl, rfl, rfl, rfl, rfl⟩ := mm_go_eq ha
      obtain ⟨-, ht⟩ := mm_wl_cons.mp ht
      exact rI rfl v _ _ hkn (mm_s1_map (v := .int v)) (fun lsr' hl' => K ad H locs lsr' mm_ag.rf ⟨hP, hD, hS, hl', hw, mm_s1_w hq mm_wv_int, ht⟩)
    · rename_i v r
      obtain ⟨rfl, rfl, rfl, rfl, rfl, rfl⟩ := mm_go_eq ha
      obtain ⟨hv, ht⟩ := mm_wl_cons.mp ht
      exact rA rfl (ad v) _ _ hkn (mm_s1_map (v := .ref v)) (fun lsr' hl' => K ad H locs lsr' mm_ag.rf ⟨hP, hD, hS, hl', hw, mm_s1_w hq hv, ht⟩)
    · rename_i v r
      obtain ⟨rfl, rfl, rfl, rfl, rfl, rfl⟩ := mm_go_eq ha
      obtain ⟨-, ht⟩ := mm_wl_cons.mp ht
      exact rA rfl b _ _ hkn (mm_s1_map (v := .retAddr v)) (fun lsr' hl' => K ad H locs lsr' mm_ag.rf ⟨hP, hD, hS, hl', hw, mm_s1_w hq mm_wv_ret, ht⟩)
    · cases ha
  · cases ha
theorem mm_i2_ok {f : Int32 → Int32 → Int32} (Rp : mm_Rp D cy A b s.heap me.2.2.2.1 ad h ls st H locs lsr) (ha : mm_i2 f pc ls st h cells slots = some (.inl (pc', ls', st', h', c', z')))
    (r : ∀ (w y : Int32) (r : List Value), W p l e R s m args below meth c H locs cells slots Q (F0 m (pc + 1) lsr (.int (f w y) :: r)) → W p l e R s m args below meth c H locs cells slots Q (F0 m pc lsr (.int y :: .int w :: r)))
    (K : mm_K p l e R s m args below meth c Q D cy A b me.2.2.2.1 h.length ad pc' ls' st' h' c' z') : W p l e R s m args below meth c H locs cells slots Q (F0 m pc lsr (st.map (mm_v b ad))) := by
  unfold mm_i2 at ha
  obtain ⟨hP, hD, hS, hl, hw, hq, ht⟩ := Rp
  split at ha
  · rename_i y w rr
    obtain ⟨rfl, rfl, rfl, rfl, rfl, rfl⟩ := mm_go_eq ha
    obtain ⟨-, ht⟩ := mm_wl_cons.mp ht
    obtain ⟨-, ht⟩ := mm_wl_cons.mp ht
    exact r w y _ (K ad H locs lsr mm_ag.rf ⟨hP, hD, hS, hl, hw, hq, mm_wl_cons.mpr ⟨mm_wv_int, ht⟩⟩)
  · cases ha
theorem mm_l2_ok {f : Int64 → Int64 → Int64} (Rp : mm_Rp D cy A b s.heap me.2.2.2.1 ad h ls st H locs lsr) (ha : mm_l2 f pc ls st h cells slots = some (.inl (pc', ls', st', h', c', z')))
    (r : ∀ (w y : Int64) (r : List Value), W p l e R s m args below meth c H locs cells slots Q (F0 m (pc + 1) lsr (.long (f w y) :: r)) → W p l e R s m args below meth c H locs cells slots Q (F0 m pc lsr (.long y :: .long w :: r)))
    (K : mm_K p l e R s m args below meth c Q D cy A b me.2.2.2.1 h.length ad pc' ls' st' h' c' z') : W p l e R s m args below meth c H locs cells slots Q (F0 m pc lsr (st.map (mm_v b ad))) := by
  unfold mm_l2 at ha
  obtain ⟨hP, hD, hS, hl, hw, hq, ht⟩ := Rp
  split at ha
  · rename_i y w rr
    obtain ⟨rfl, rfl, rfl, rfl, rfl, rfl⟩ := mm_go_eq ha
    obtain ⟨-, ht⟩ := mm_wl_cons.mp ht
    obtain ⟨-, ht⟩ := mm_wl_cons.mp ht
    exact r w y _ (K ad H locs lsr mm_ag.rf ⟨hP, hD, hS, hl, hw, hq, mm_wl_cons.mpr ⟨mm_wv_long, ht⟩⟩)
  · cases ha
theorem mm_ls_ok {f : Int64 → Int32 → Int64} (Rp : mm_Rp D cy A b s.heap me.2.2.2.1 ad h ls st H locs lsr) (ha : mm_ls f pc ls st h cells slots = some (.inl (pc', ls', st', h', c', z')))
    (r : ∀ (w : Int64) (y : Int32) (r : List Value), W p l e R s m args below meth c H locs cells slots Q (F0 m (pc + 1) lsr (.long (f w y) :: r)) → W p l e R s m args below meth c H locs cells slots Q (F0 m pc lsr (.int y :: .long w :: r)))
    (K : mm_K p l e R s m args below meth c Q D cy A b me.2.2.2.1 h.length ad pc' ls' st' h' c' z') : W p l e R s m args below meth c H locs cells slots Q (F0 m pc lsr (st.map (mm_v b ad))) := by
  unfold mm_ls at ha
  obtain ⟨hP, hD, hS, hl, hw, hq, ht⟩ := Rp
  split at ha
  · rename_i y w rr
    obtain ⟨rfl, rfl, rfl, rfl, rfl, rfl⟩ := mm_go_eq ha
    obtain ⟨-, ht⟩ := mm_wl_cons.mp ht
    obtain ⟨-, ht⟩ := mm_wl_cons.mp ht
    exact r w y _ (K ad H locs lsr mm_ag.rf ⟨hP, hD, hS, hl, hw, hq, mm_wl_cons.mpr ⟨mm_wv_long, ht⟩⟩)
  · cases ha
theorem mm_jump_eq {off : Int} {t : Nat} (h : mm_jump pc off = some t) : (pc : Int) + off = (t : Int) := by
  unfold mm_jump at h
  split at h
  · rename_i h0
    have h1 : ((pc : Int) + off).toNat = t := Option.some.inj h
    omega
  · cases h
theorem mm_br_ok {off : Int} {bb : Bool} (Rp : mm_Rp D cy A b s.heap me.2.2.2.1 ad h ls st H locs lsr) (ha : mm_br bb off pc ls st h cells slots = some (.inl (pc', ls', st', h', c', z')))
    {v : List Value} (r : ∀ (t : Nat), (pc : Int) + off = (t : Int) → (bb = true → W p l e R s m args below meth c H locs cells slots Q (F0 m t lsr (st.map (mm_v b ad)))) → (¬ bb = true → W p l e R s m args below meth c H locs cells slots Q (F0 m (pc + 3) lsr (st.map (mm_v b ad)))) → W p l e R s m args below meth c H locs cells slots Q (F0 m pc lsr v))
    (K : mm_K p l e R s m args below meth c Q D cy A b me.2.2.2.1 h.length ad pc' ls' st' h' c' z') : W p l e R s m args below meth c H locs cells slots Q (F0 m pc lsr v) := by
  unfold mm_br at ha
  split at ha
  · cases ha
  · rename_i t htg
    refine r t (mm_jump_eq htg) (fun hb => ?_) (fun hb => ?_)
    · rw [if_pos hb] at ha
      obtain ⟨rfl, rfl, rfl, rfl, rfl, rfl⟩ := mm_go_eq ha
      exact K ad H locs lsr mm_ag.rf Rp
    · rw [if_neg hb] at ha
      obtain ⟨rfl, rfl, rfl, rfl, rfl, rfl⟩ := mm_go_eq ha
      exact K ad H locs lsr mm_ag.rf Rp
end MMS
