/-! The small machine's values and cells, as the machine has them: at addresses ad. -/
def mm_v (b : Nat) (ad : Nat → Nat) (v : Value) : Value := match v with
  | .ref k => .ref (ad k)
  | .retAddr _ => .ref b
  | w => w
theorem mm_v_cat (b : Nat) (ad : Nat → Nat) (v : Value) : (mm_v b ad v).category = v.category := by cases v <;> rfl
theorem mm_v_sum (b : Nat) (ad : Nat → Nat) (st : List Value) : ((st.map (mm_v b ad)).map fun v => v.category).sum = (st.map fun v => v.category).sum := by
  induction st with
  | nil => rfl
  | cons a r ih => simp only [List.map_cons, List.sum_cons, ih, mm_v_cat]
def mm_ml (b : Nat) (ad : Nat → Nat) (ls : mm_L) : mm_L := ls.map (fun q => (q.1, mm_v b ad q.2))
def mm_re (cy : Nat → ClassId) (b : Nat) (ad : Nat → Nat) (e : mm_E) : va_E := match e with
  | .inl a => .inl (cy a.1, a.2)
  | .inr o => .inr (o.1, o.2.map (mm_v b ad))
def mm_W (cy : Nat → ClassId) (b : Nat) (ad : Nat → Nat) (h : mm_H) : va_W := h.mapIdx (fun k e => (ad k, mm_re cy b ad e))
def mm_wv (n : Nat) (v : Value) : Prop := ∀ k, v = .ref k → k < n
def mm_wl (n : Nat) (st : List Value) : Prop := ∀ v ∈ st, mm_wv n v
def mm_wq (n : Nat) (ls : mm_L) : Prop := ∀ q ∈ ls, mm_wv n q.2
def mm_wh (h : mm_H) : Prop := ∀ o : Nat × List Value, (Sum.inr o : mm_E) ∈ h → mm_wl h.length o.2
def mm_ag (n : Nat) (ad ad' : Nat → Nat) : Prop := ∀ k, k < n → ad' k = ad k
theorem mm_ag.rf {n : Nat} {ad : Nat → Nat} : mm_ag n ad ad := fun _ _ => rfl
theorem mm_wl_cons {n : Nat} {v : Value} {r : List Value} : mm_wl n (v :: r) ↔ mm_wv n v ∧ mm_wl n r := by
  unfold mm_wl
  simp [List.forall_mem_cons]
theorem mm_wv_int {n : Nat} {x : Int32} : mm_wv n (.int x) := fun _ h => by cases h
theorem mm_wv_long {n : Nat} {x : Int64} : mm_wv n (.long x) := fun _ h => by cases h
theorem mm_wv_ret {n a : Nat} : mm_wv n (.retAddr a) := fun _ h => by cases h
theorem mm_wv_null {n : Nat} : mm_wv n .null := fun _ h => by cases h
theorem mm_wv.mono {n n' : Nat} {v : Value} (h : mm_wv n v) (hn : n ≤ n') : mm_wv n' v := fun k e => Nat.lt_of_lt_of_le (h k e) hn
theorem mm_wl.mono {n n' : Nat} {st : List Value} (h : mm_wl n st) (hn : n ≤ n') : mm_wl n' st := fun v hv => (h v hv).mono hn
theorem mm_wq.mono {n n' : Nat} {ls : mm_L} (h : mm_wq n ls) (hn : n ≤ n') : mm_wq n' ls := fun v hv => (h v hv).mono hn
theorem mm_v_ag {n b : Nat} {ad ad' : Nat → Nat} (hag : mm_ag n ad ad') {v : Value} (h : mm_wv n v) : mm_v b ad' v = mm_v b ad v := by
  cases v with
  | ref k => simp only [mm_v]; rw [hag k (h k rfl)]
  | _ => rfl
theorem mm_map_ag {n b : Nat} {ad ad' : Nat → Nat} (hag : mm_ag n ad ad') {st : List Value} (h : mm_wl n st) : st.map (mm_v b ad') = st.map (mm_v b ad) :=
  List.map_congr_left fun v hv => mm_v_ag hag (h v hv)
theorem mm_ml_ag {n b : Nat} {ad ad' : Nat → Nat} (hag : mm_ag n ad ad') {ls : mm_L} (h : mm_wq n ls) : mm_ml b ad' ls = mm_ml b ad ls :=
  List.map_congr_left fun q hq => by rw [mm_v_ag hag (h q hq)]
theorem mm_re_ag {n b : Nat} {cy : Nat → ClassId} {ad ad' : Nat → Nat} (hag : mm_ag n ad ad') {e : mm_E} (h : ∀ o, e = .inr o → mm_wl n o.2) : mm_re cy b ad' e = mm_re cy b ad e := by
  cases e with
  | inl a => rfl
  | inr o => simp only [mm_re]; rw [mm_map_ag hag (h o rfl)]
theorem mm_lk_in {ls : mm_L} {i : Nat} {v : Value} (h : mm_lk ls i = some v) : (i, v) ∈ ls := by
  unfold mm_lk at h
  cases hf : ls.find? (fun q => q.1 == i) with
  | none => rw [hf] at h; cases h
  | some q =>
    rw [hf] at h
    have h1 := List.find?_some hf
    have h2 := List.mem_of_find?_eq_some hf
    have h3 : q.2 = v := Option.some.inj h
    have h4 : q.1 = i := by simpa using h1
    rw [← h3, ← h4]
    exact h2
theorem mm_lk_has {lsr : Array Slot} {nL b : Nat} {ad : Nat → Nat} {ls : mm_L} {i : Nat} {v : Value} (h : lv_has lsr nL (mm_ml b ad ls)) (hk : mm_lk ls i = some v) : lsr[i]? = some (.val (mm_v b ad v)) :=
  h.2.2 (i, mm_v b ad v) (List.mem_map.mpr ⟨(i, v), mm_lk_in hk, rfl⟩)
theorem mm_lk_w {n : Nat} {ls : mm_L} {i : Nat} {v : Value} (h : mm_wq n ls) (hk : mm_lk ls i = some v) : mm_wv n v := h (i, v) (mm_lk_in hk)
theorem mm_s1_map {b : Nat} {ad : Nat → Nat} {ls : mm_L} {i : Nat} {v : Value} : (i, mm_v b ad v) :: (mm_ml b ad ls).filter (fun q => !(q.1 == i) && !(q.1 + 1 == i && q.2.category == 2)) = mm_ml b ad (mm_s1 ls i v) := by
  unfold mm_s1 mm_ml
  rw [List.map_cons, List.filter_map]
  congr 2
  refine List.filter_congr fun q _ => ?_
  simp only [Function.comp, mm_v_cat]
theorem mm_s1_w {n : Nat} {ls : mm_L} {i : Nat} {v : Value} (h : mm_wq n ls) (hv : mm_wv n v) : mm_wq n (mm_s1 ls i v) := by
  intro q hq
  rcases List.mem_cons.mp hq with e | e
  · rw [e]; exact hv
  · exact h q (List.mem_filter.mp e).1
theorem mm_un_w {n : Nat} {ls : mm_L} {i : Nat} (h : mm_wq n ls) : mm_wq n (mm_un ls i) := fun q hq => h q (List.mem_filter.mp hq).1
theorem mm_un_map {b : Nat} {ad : Nat → Nat} {ls : mm_L} {i : Nat} : (mm_ml b ad ls).filter (fun q => !(q.1 == i) && !(q.1 + 1 == i && q.2.category == 2)) = mm_ml b ad (mm_un ls i) := by
  unfold mm_un mm_ml
  rw [List.filter_map]
  congr 1
  refine List.filter_congr fun q _ => ?_
  simp only [Function.comp, mm_v_cat]
theorem mm_W_get {cy : Nat → ClassId} {b : Nat} {ad : Nat → Nat} {h : mm_H} {k : Nat} {e : mm_E} (hk : h[k]? = some e) : (mm_W cy b ad h)[k]? = some (ad k, mm_re cy b ad e) := by
  unfold mm_W
  rw [List.getElem?_mapIdx, hk]
  rfl
theorem mm_W_set {cy : Nat → ClassId} {b : Nat} {ad : Nat → Nat} {h : mm_H} {k : Nat} {e : mm_E} : (mm_W cy b ad h).set k (ad k, mm_re cy b ad e) = mm_W cy b ad (h.set k e) := by
  apply List.ext_getElem?
  intro j
  unfold mm_W
  rw [List.getElem?_set, List.getElem?_mapIdx, List.getElem?_mapIdx, List.getElem?_set, List.length_mapIdx]
  by_cases hjk : k = j
  · subst hjk
    rw [if_pos rfl, if_pos rfl]
    by_cases hl : k < h.length
    · rw [if_pos hl, if_pos hl]; rfl
    · rw [if_neg hl, if_neg hl]; rfl
  · rw [if_neg hjk, if_neg hjk]
def mm_ext (n q : Nat) (ad : Nat → Nat) : Nat → Nat := fun k => if k = n then q else ad k
theorem mm_ext_ag {n q : Nat} {ad : Nat → Nat} : mm_ag n ad (mm_ext n q ad) := fun k hk => if_neg (Nat.ne_of_lt hk)
theorem mm_W_ag {cy : Nat → ClassId} {b : Nat} {ad ad' : Nat → Nat} {h : mm_H} (hag : mm_ag h.length ad ad') (hw : mm_wh h) : mm_W cy b ad' h = mm_W cy b ad h := by
  apply List.ext_getElem?
  intro j
  unfold mm_W
  rw [List.getElem?_mapIdx, List.getElem?_mapIdx]
  cases hj : h[j]? with
  | none => rfl
  | some e =>
    have hl : j < h.length := (List.getElem?_eq_some_iff.mp hj).1
    show some (ad' j, mm_re cy b ad' e) = some (ad j, mm_re cy b ad e)
    rw [hag j hl, mm_re_ag hag (fun o ho => hw o (by rw [← ho]; exact List.mem_of_getElem? hj))]
theorem mm_W_push {cy : Nat → ClassId} {b q : Nat} {ad : Nat → Nat} {h : mm_H} {e : mm_E} (hw : mm_wh h) (he : ∀ o, e = .inr o → mm_wl h.length o.2) : mm_W cy b ad h ++ [(q, mm_re cy b ad e)] = mm_W cy b (mm_ext h.length q ad) (h ++ [e]) := by
  have h1 : mm_W cy b (mm_ext h.length q ad) (h ++ [e]) = mm_W cy b (mm_ext h.length q ad) h ++ [(mm_ext h.length q ad h.length, mm_re cy b (mm_ext h.length q ad) e)] := by
    unfold mm_W
    rw [List.mapIdx_append]
    simp
  rw [h1, mm_W_ag mm_ext_ag hw, mm_re_ag mm_ext_ag he]
  simp [mm_ext]
theorem mm_wh_set {h : mm_H} {k : Nat} {e : mm_E} (hw : mm_wh h) (he : ∀ o, e = .inr o → mm_wl h.length o.2) : mm_wh (h.set k e) := by
  intro o ho
  rw [List.length_set]
  rcases List.mem_or_eq_of_mem_set ho with h1 | h1
  · exact hw o h1
  · exact he o h1.symm
theorem mm_wh_push {h : mm_H} {e : mm_E} (hw : mm_wh h) (he : ∀ o, e = .inr o → mm_wl h.length o.2) : mm_wh (h ++ [e]) := by
  intro o ho
  have hn : h.length ≤ (h ++ [e]).length := by simp
  rcases List.mem_append.mp ho with h1 | h1
  · exact (hw o h1).mono hn
  · exact (he o (List.mem_singleton.mp h1).symm).mono hn
theorem mm_wl_set {n k : Nat} {fs : List Value} {v : Value} (h : mm_wl n fs) (hv : mm_wv n v) : mm_wl n (fs.set k v) := by
  intro w hw
  rcases List.mem_or_eq_of_mem_set hw with h1 | h1
  · exact h w h1
  · rw [h1]; exact hv
theorem mm_fresh_w {n ci N : Nat} : mm_wl n (mm_fresh ci N) := by
  intro v hv k hk
  obtain ⟨j, -, hj⟩ := List.mem_map.mp hv
  rw [hk] at hj
  cases hty : mm_tyT ci j <;> rw [hty] at hj <;> cases hj
theorem mm_fresh_map {b ci N : Nat} {ad : Nat → Nat} : (mm_fresh ci N).map (mm_v b ad) = mm_fresh ci N := by
  unfold mm_fresh
  rw [List.map_map]
  refine List.map_congr_left fun j _ => ?_
  simp only [Function.comp]
  cases mm_tyT ci j <;> rfl
/-- the state of the walk -/
def mm_Rp (D : va_G) (cy : Nat → ClassId) (A : Nat → Prop) (b : Nat) (H0 : Heap) (nL : Nat) (ad : Nat → Nat) (h : mm_H) (ls : mm_L) (st : List Value) (H : Heap) (locs : List Loc) (lsr : Array Slot) : Prop :=
  va_P D mm_cl (mm_W cy b ad h) H ∧ va_D A (mm_W cy b ad h) ∧ va_S A H0 H locs ∧ lv_has lsr nL (mm_ml b ad ls) ∧ mm_wh h ∧ mm_wq h.length ls ∧ mm_wl h.length st
abbrev mm_tys (cy : Nat → ClassId) : List (ClassId × FieldType) := [(cy 0, .int), (cy 1, .byte), (cy 2, .boolean), (cy 3, .long)]
def mm_str : List (String × Nat × String) := [(RX1, 38, "no program has this token here"), (RX5, 71, "there is no such node"), (RX5, 92, "there is no such what"), (RX5, 94, "there is no such child")]
/-- what the tables and the old heap say, at a state U with heap H -/
def mm_G (D : va_G) (cy : Nat → ClassId) (A : Nat → Prop) (b L : Nat) (xs : Nat → Int32) (U : State) (H : Heap) : Prop :=
  va_K D mm_cl (mm_tys cy) U ∧ (∀ w ∈ mm_nest, va_Nw w U) ∧ (∀ q ∈ mm_str, ∃ a, vk_R q.1 q.2.1 q.2.2 a U) ∧ vx_Zq Bundle.tN "UNASSIGNED_STACK" Bundle.steD A U H ∧ vx_Zq Bundle.tN "SUPPRESSED_SENTINEL" Bundle.listD A U H ∧ va_X b L xs U H ∧ ¬ A b ∧ b < H.size
theorem mm_cast_moved {u U : State} (hvm : u.vm.Alike U.vm) {X Y : String} (h : va_Nw (.castable X Y) u) : va_Nw (.castable X Y) U := by
  obtain ⟨c3, c4, h3, h4, ha⟩ := Cond.castable_spec h
  show (Cond.castable X Y).before #[] U = true
  have g3 : U.vm.findClass X = some c3 := by rw [hvm.findClass]; exact h3
  have g4 : U.vm.findClass Y = some c4 := by rw [hvm.findClass]; exact h4
  have g5 : U.vm.assignable c3 c4 = true := by rw [hvm.assignable]; exact ha
  simp [Cond.before, Cond.holds, Cond.value, g3, g4, g5]
theorem mm_nest_warm {s U : State} (hW : s.WarmedH U.vm) {w : Cond} (hw : w ∈ mm_nest) (h : va_Nw w s) : va_Nw w U := by
  have ho : mm_odd w = true := (List.mem_filter.mp hw).2
  cases w with
  | methodLinkNest a i x h' => exact va_Nw.warmM hW h
  | fieldLinkNest a i b' n d h' => exact va_Nw.warmF hW h
  | declares x => exact va_Nw.warmD hW h
  | castable X Y => exact mm_cast_moved hW.alike h
  | _ => cases ho
theorem mm_nest_same {u U : State} (hv : u.vm = U.vm) {w : Cond} (hw : w ∈ mm_nest) (h : va_Nw w u) : va_Nw w U := by
  have ho : mm_odd w = true := (List.mem_filter.mp hw).2
  cases w with
  | methodLinkNest a i x h' => exact va_Nw.same rfl hv h
  | fieldLinkNest a i b' n d h' => exact va_Nw.same rfl hv h
  | declares x => exact va_Nw.same rfl hv h
  | castable X Y => exact va_Nw.same rfl hv h
  | _ => cases ho
/-- at a later state of the walk -/
theorem mm_G.at {D : va_G} {cy : Nat → ClassId} {A : Nat → Prop} {b L : Nat} {xs : Nat → Int32} {s U : State} {H0 H : Heap} (h : mm_G D cy A b L xs s H0) (hW : s.WarmedH U.vm) (hz : H0.size ≤ H.size) (hk : ∀ q : Nat, q < H0.size → ¬ A q → H[q]? = H0[q]?) : mm_G D cy A b L xs U H := by
  obtain ⟨h1, h2, h3, h4, h5, h6, h7, h8⟩ := h
  refine ⟨va_K.moved hW.alike h1, fun w hw => mm_nest_warm hW hw (h2 w hw), fun q hq => ?_, (h4.moved hW.alike).kept hk, (h5.moved hW.alike).kept hk, (h6.moved hW.alike).kept (hk b h8 h7), h7, Nat.lt_of_lt_of_le h8 hz⟩
  obtain ⟨a, ha⟩ := h3 q hq
  exact ⟨a, vk_R.warm hW ha⟩
theorem mm_G.call {D : va_G} {cy : Nat → ClassId} {A : Nat → Prop} {b L : Nat} {xs : Nat → Int32} {U : State} {g : JFrame} {mk : MethodId} {a : Array Value} (h : mm_G D cy A b L xs U U.heap) : mm_G D cy A b L xs (U.calling g mk a) (U.calling g mk a).heap := by
  obtain ⟨h1, h2, h3, h4, h5, h6, h7, h8⟩ := h
  have hr : U.vm.Alike (U.calling g mk a).vm := Vm.Alike.refl U.vm
  refine ⟨va_K.moved (u := U) hr h1, fun w hw => mm_nest_same (u := U) (U := U.calling g mk a) rfl hw (h2 w hw), fun q hq => ?_, vx_Zq.moved (u := U) hr h4, vx_Zq.moved (u := U) hr h5, va_X.moved (u := U) hr h6, h7, h8⟩
  obtain ⟨a', ha⟩ := h3 q hq
  exact ⟨a', vk_R.same (u := U) rfl ha⟩
