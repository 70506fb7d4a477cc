/-! Calls: contracts out of the small machine's own answer. -/
/-- a callee that never throws -/
theorem mm_met {l : Launch} {y : MethodName} {ws : List Cond} {rm : Room} {Pc : Array Value → State → Prop} {Qc : Array Value → State → Outcome → State → Prop} {XC : String → State → State → Prop} {mc ms : Nat} {free : Addr → Prop} (h : vx_Met l y ws rm Pc Qc XC mc ms free) (hx : ∀ E st t, ¬ XC E st t) : Met l y ws rm Pc Qc mc ms free := by
  intro p e ha hc hk s m args below hf happ hP hK
  obtain ⟨n, o, h1, h2, h3, h4⟩ := h p e ha hc hk s m args below hf happ hP hK
  refine ⟨n, o, h1, h2, h3, ?_⟩
  rcases h4 with h4 | ⟨q, rfl, E, ce, L, h5, -⟩
  · exact h4
  · exact absurd h5 (hx E _ _)
section MMC
variable {p : Program} {l : Launch} {e : Env} {R : Room} {s : State} {m : MethodId} {args : Array Value} {below : List Frame} {meth : Method} {c : Code} {T : State} {H : Heap} {locs : List Loc} {cells slots : Nat}
theorem mm_callVN (X : Stand p l e R s m args below meth c T locs cells slots) (hexec : p.tables.exec = Jvm.exec) {own C : String} {index : Nat} {host : String} {y : MethodName} {bytes : ByteArray} {maxL : Nat} {ret : Option FieldType}
    (hown : s.vm.findClass own = some m.cls) (hlink : (Cond.methodLinkNest own index y host).before args s = true) (hinst : (Cond.instanceMethod y).before args s = true) (hsel : (Cond.selects C y y).before args s = true)
    (hcode : (Cond.code y bytes maxL ret).before args s = true) (hy : y.cls ≠ "java/lang/invoke/MethodHandle" ∧ y.cls ≠ "java/lang/invoke/VarHandle")
    {W9 : Nat} {Pre : Pt → Array Value → Prop} {Post : Pt → Array Value → Option Value → Pt → Prop} {PostX : Pt → Array Value → Addr → Pt → Prop} (hK : vx_Back l R p e below s args y 3 W9 Pre Post PostX)
    {b : Addr} {cellB : Cell} (hcell : T.heap[b]? = some cellB) (hobj : cellB.vm.isStatics = false) (hcls : s.vm.findClass C = some cellB.cls)
    {g : JFrame} (hg : g.method = m) (hsize : g.locals.size = c.maxLocals) {argsL rest : List Value} (hlen : ∀ sig, parseMethodDescriptor y.desc = some sig → argsL.length = sig.parameters.length)
    (hstack : g.stack = argsL.reverse ++ .ref b :: rest) (hW : 2 * g.monitorRoom + (rest.map fun v => v.category).sum ≤ W9) (hdg : decode c.code g.pc = .ok (.invokevirtual index, 3))
    (hpre : ∀ vm₁, s.WarmedH vm₁ → Pre ⟨T.setVm vm₁, locs, cells, slots⟩ (Value.ref b :: argsL).toArray) :
    (∃ (v : Option Value) (vm₁ : Vm) (B : Pt), s.WarmedH vm₁ ∧ Stand p l e R s m args below meth c B.U B.locs B.cells B.slots ∧ Post ⟨T.setVm vm₁, locs, cells, slots⟩ (Value.ref b :: argsL).toArray v B ∧
      ∀ target, Steps p.tables e below (B.U.setTop { g with pc := g.pc + 3, stack := v.toList ++ rest }) target → Steps p.tables e below (T.setTop g) target) ∨
    (∃ (q : Addr) (vm₁ : Vm) (B : Pt), s.WarmedH vm₁ ∧ Stand p l e R s m args below meth c B.U B.locs B.cells B.slots ∧ PostX ⟨T.setVm vm₁, locs, cells, slots⟩ (Value.ref b :: argsL).toArray q B ∧
      Steps p.tables e below (T.setTop g) ((B.U.setTop { g with stack := rest }).pushFrame (.throwing q))) := by
  obtain ⟨mk, methM, hnamed, hmethM, hstM, habM⟩ := Cond.instanceMethod_spec hinst
  obtain ⟨methM', cM, hmethM', -, -, -, -, -, -, hsigM⟩ := Cond.code_spec hnamed hcode
  cases hmethM.symm.trans hmethM'
  obtain ⟨c2, r2, m2, q1, q2, q3, q4, kP, hkP, hkPi⟩ := Cond.selects_spec hsel
  cases hcls.symm.trans q1
  cases (State.methodFound?_of_named hnamed hy).symm.trans q2
  cases hnamed.symm.trans q3
  have hselP : selectMethod e.platform s.vm cellB.cls mk = .method mk := by rw [Launch.admits_selectMethod X.admits]; exact q4
  obtain ⟨vm₁, X₁, hstep₁⟩ := X.invokevirtualNest hexec hown hlink hnamed hmethM hstM hkP hkPi hy (a := b) (cell := cellB) hcell
    (fun z h => by rw [h] at hobj; cases hobj) hselP hmethM habM hkP hkPi (g := g) hg (argsL := argsL) (rest := rest) (hlen _ hsigM) hstack hdg
  rcases hK m meth c ⟨T.setVm vm₁, locs, cells, slots⟩ { g with stack := rest } (.invokevirtual index) mk (Value.ref b :: argsL).toArray X₁ hg hsize hdg hW (X₁.named hnamed) (hpre vm₁ X₁.warmed) with ⟨v, B, X', hpost, hsteps⟩ | ⟨q, B, X', hpost, hsteps⟩
  · exact Or.inl ⟨v, vm₁, B, X₁.warmed, X', hpost, fun target h => hstep₁ _ fun acts => by rw [doInvoke_state]; exact hsteps.trans h⟩
  · exact Or.inr ⟨q, vm₁, B, X₁.warmed, X', hpost, hstep₁ _ fun acts => by rw [doInvoke_state]; exact hsteps⟩
theorem mm_runVN {y : MethodName} {bytes cc : ByteArray} {maxL nL mc ms n index : Nat} {ret : Option FieldType} {ws : List Cond} {rm : Room} {Pc : Array Value → State → Prop} {Qc : Array Value → State → Outcome → State → Prop} {XC : String → State → State → Prop} {free : Addr → Prop} {Ts : List Cond} {own C host : String} {b : Addr} {As rest : List Value} {g : JFrame}
    (S : CallFix p m c cc nL s args Ts own) (hM : vx_Met l y ws rm Pc Qc XC mc ms free) (cw : va_CN R s args own index y host bytes maxL ret ws rm mc ms n ∧ (Cond.instanceMethod y).before args s = true ∧ (Cond.selects C y y).before args s = true) (hp : PreV s H C b Pc As)
    (hg : g.method = m) (hn : As.length = n) (hsize : g.locals.size = nL) (hstack : g.stack = As.reverse ++ .ref b :: rest) (hW : 2 * g.monitorRoom + (rest.map fun v => v.category).sum ≤ 8) (hdg : decode cc g.pc = .ok (.invokevirtual index, 3)) (hf : cells + mc ≤ R.cells ∧ slots + ms ≤ R.slots) :
    vx_Run p l e R s m args below meth c H locs cells slots mc ms g rest (Qc (Value.ref b :: As).toArray) XC free := by
  obtain ⟨⟨⟨hrc, hrs, hfr, hlo, hws, hcw⟩, hcode, hini, hy, hlen, hl⟩, hx1, hx2⟩ := cw
  have hK : vx_Back l R p e below s args y 3 8 (PreOf R mc ms Pc) (PostOf Qc mc ms free) (vx_Post XC mc ms free) := vx_back (bytes := bytes) (maxL := maxL) (ret := ret) hM hp.1 hrc hrs hfr hlo hws hcw (fun a' U hW => word_at hW (Or.inl (by first | rfl | simp [Cond.onTables, Cond.keeps, Cond.steady])) hini)
  obtain ⟨hx, hb, hml, ho, -⟩ := S
  obtain ⟨-, ⟨cellB, hcB, hoB, hclB⟩, hPc⟩ := hp
  intro T hT X
  rcases mm_callVN X hx (C := C) (bytes := bytes) (maxL := maxL) (ret := ret) ho hl hx1 hx2 hcode hy hK (by rw [hT]; exact hcB) hoB hclB hg (hsize.trans hml.symm) (argsL := As) (rest := rest) (fun sig h => hn.trans (hlen sig h)) hstack hW (by rw [hb]; exact hdg)
    (fun vm₁ hW₁ => ⟨hf.1, hf.2, hPc (T.setVm vm₁) hT hW₁⟩) with ⟨v, vm₁, ⟨U', l2, c2, s2⟩, hW₁, X', ⟨g', mk, t, L, e1, e2, hq, h1, hL, h2, h3⟩, st⟩ | ⟨q, vm₁, ⟨U', l2, c2, s2⟩, hW₁, X', ⟨g', mk, t, L, E, ce, e1, e2, hq, hce, hcv, hcl, h1, hL, h2, h3⟩, st⟩
  · dsimp only [Pt.U, Pt.locs, Pt.cells, Pt.slots] at X' e1 e2 h1 h2 h3 st
    subst h1; subst h2; subst h3
    exact Or.inl ⟨v, (T.setVm vm₁).calling g' mk (Value.ref b :: As).toArray, t, U', L, hT, X', hL, e1, e2, hq, st⟩
  · dsimp only [Pt.U, Pt.locs, Pt.cells, Pt.slots] at X' e1 e2 h1 h2 h3 st hcl
    subst h1; subst h2; subst h3
    exact Or.inr ⟨q, (T.setVm vm₁).calling g' mk (Value.ref b :: As).toArray, t, U', L, E, ce, hT, X', hL, e1, e2, hq, hce, hcv, vx_cls hW₁ hcl, st⟩
end MMC
/-- what is known of a method of the table -/
def mm_MOk (mf : mm_Me) (q : Bool × Nat × Nat × Nat) : Prop := mm_codeW mf ∈ mm_gw ∧ (q.1 = true → Cond.static mf.2.1 ∈ mm_gw) ∧ (q.1 = false → Cond.instanceMethod mf.2.1 ∈ mm_gw) ∧ (q.1 = false → mf.2.1.name ≠ "<init>" → Cond.selects mf.1 mf.2.1 mf.2.1 ∈ mm_gw) ∧ Cond.initialized mf.1 ∈ mm_gw ∧
  mf.2.1.cls = mf.1 ∧ plainName mf.1 = true ∧ mf.1 ≠ "java/lang/invoke/MethodHandle" ∧ mf.1 ≠ "java/lang/invoke/VarHandle" ∧ (parseMethodDescriptor mf.2.1.desc).map (fun d => d.parameters.length) = some mf.2.2.2.2.2.2.1 ∧ mf.2.2.2.1 ≤ 14
theorem mm_codeW_good (mf : mm_Me) : goodWord (mm_codeW mf) = true := by
  unfold mm_codeW
  split <;> rfl
theorem mm_M_spec {mj : Nat} {mf : mm_Me} (h : mm_MT[mj]? = some mf) : ∃ q, mm_MP[mj]? = some q ∧ mm_MOk mf q := by
  have hl : mj < mm_MT.length := (List.getElem?_eq_some_iff.mp h).1
  have hl2 : mj < mm_MP.length := by rw [← mm_chkM_len]; exact hl
  refine ⟨mm_MP[mj], List.getElem?_eq_getElem hl2, ?_⟩
  have hz : (mm_MT.zip mm_MP)[mj]? = some (mf, mm_MP[mj]) := by
    rw [List.getElem?_zip_eq_some]
    exact ⟨h, List.getElem?_eq_getElem hl2⟩
  have h1 := List.all_eq_true.mp mm_chkM_all _ (List.mem_of_getElem? hz)
  generalize mm_MP[mj] = q at h1
  unfold mm_chkM at h1
  dsimp only at h1
  simp only [Bool.and_eq_true, decide_eq_true_eq, Bool.or_eq_true] at h1
  obtain ⟨⟨⟨⟨⟨⟨⟨⟨a1, a2⟩, a3⟩, a4⟩, a5⟩, a6⟩, a7⟩, a8⟩, a9⟩ := h1
  refine ⟨List.mem_filter.mpr ⟨mm_codes mf (List.mem_of_getElem? h), mm_codeW_good mf⟩, fun hq => ?_, fun hq => ?_, fun hq hn => ?_, mm_at_gw a3 rfl, a4, a5, a6, a7, a8, a9⟩
  · rw [if_pos hq] at a1; exact mm_at_gw a1 rfl
  · rw [if_neg (by rw [hq]; decide)] at a1; exact mm_at_gw a1 rfl
  · rcases a2 with (a2 | a2) | a2
    · rw [a2] at hq; cases hq
    · exact absurd a2 hn
    · exact mm_at_gw a2 rfl
theorem mm_goodIn {ws : List Cond} (h : ∀ w ∈ ws, w ∈ mm_gw) : GoodIn mm_gw ws := fun w hw => ⟨h w hw, good_of_word (mm_gw_good (h w hw))⟩
def mm_room (d c z : Nat) : Room := { frames := d, cells := c, slots := z, locals := 41 * d }
/-- a contract's start, its end, its throw -/
def mm_Pc (D : va_G) (cy : Nat → ClassId) (A : Nat → Prop) (b L : Nat) (xs : Nat → Int32) (ad : Nat → Nat) (as : List Value) (h : mm_H) : Array Value → State → Prop :=
  va_Pc (as.map (mm_v b ad)) (fun U => va_P D mm_cl (mm_W cy b ad h) U.heap ∧ va_D A (mm_W cy b ad h) ∧ mm_G D cy A b L xs U U.heap ∧ ∀ q, U.heap.size ≤ q → A q)
def mm_End (D : va_G) (cy : Nat → ClassId) (A : Nat → Prop) (b : Nat) (ad : Nat → Nat) (h h' : mm_H) (ad' : Nat → Nat) (st t : State) : Prop :=
  mm_ag h.length ad ad' ∧ va_P D mm_cl (mm_W cy b ad' h') t.heap ∧ va_D A (mm_W cy b ad' h') ∧ mm_wh h' ∧ va_F A st t
def mm_Qc (D : va_G) (cy : Nat → ClassId) (A : Nat → Prop) (b : Nat) (ad : Nat → Nat) (h : mm_H) (r : Option Value ⊕ String) (h' : mm_H) : Array Value → State → Outcome → State → Prop := fun _ st o t =>
  ∃ (v : Option Value) (ad' : Nat → Nat), r = .inl v ∧ o = .returned (v.map (mm_v b ad')) ∧ (∀ w, v = some w → ∃ x, w = .int x) ∧ mm_End D cy A b ad h h' ad' st t
def mm_XC (D : va_G) (cy : Nat → ClassId) (A : Nat → Prop) (b : Nat) (ad : Nat → Nat) (h : mm_H) (r : Option Value ⊕ String) (h' : mm_H) : String → State → State → Prop := fun E st t =>
  ∃ ad' : Nat → Nat, r = .inr E ∧ mm_End D cy A b ad h h' ad' st t
theorem mm_blind {D : va_G} {cy : Nat → ClassId} {A : Nat → Prop} {b L : Nat} {xs : Nat → Int32} {ad : Nat → Nat} {as : List Value} {h : mm_H} : FrameBlind (mm_Pc D cy A b L xs ad as h) := by
  intro a U g mk hq
  obtain ⟨q0, q1, q2, q3, q4⟩ := hq
  exact ⟨q0, q1, q2, q3.call, q4⟩
def mm_wsM (mf : mm_Me) : List Cond := mm_codeW mf :: mm_gw
/-- the contract of a method at one start, out of the small machine's run of fuel n -/
def mm_Sound (n : Nat) : Prop := ∀ (l : Launch) (D : va_G) (cy : Nat → ClassId) (A : Nat → Prop) (b L : Nat) (xs : Nat → Int32) (d mi : Nat) (me : mm_Me) (as : List Value) (h : mm_H) (r : Option Value ⊕ String) (h' : mm_H) (c' z' : Nat) (ad : Nat → Nat),
  l.stackTraces = false → mm_MT[mi]? = some me → 1 ≤ d → (lg_sl as).length ≤ me.2.2.2.1 → mm_ev xs L n d mi 0 (lv_args 0 as) [] h 0 0 = some (r, h', c', z') → mm_wh h → mm_wl h.length as →
  vx_Met l me.2.1 (mm_wsM me) (mm_room d c' z') (mm_Pc D cy A b L xs ad as h) (mm_Qc D cy A b ad h r h') (mm_XC D cy A b ad h r h') c' z' A
section MMG
variable {p : Program} {l : Launch} {e : Env} {R : Room} {s : State} {m : MethodId} {args : Array Value} {below : List Frame} {meth : Method} {c : Code} {H : Heap} {locs : List Loc} {cells slots : Nat} {Q : State → Prop}
variable {D : va_G} {cy : Nat → ClassId} {A : Nat → Prop} {b L : Nat} {xs : Nat → Int32} {ad : Nat → Nat} {h h1 : mm_H} {r0 : Option Value ⊕ String} {pc mc ms : Nat} {lsr : Array Slot} {st0 rest : List Value} {a : Array Value}
theorem mm_back {v : Option Value} (hr : va_Run p l e R s m args below meth c H locs cells slots mc ms (F0 m pc lsr st0) rest (mm_Qc D cy A b ad h (.inl v) h1 a) A) (hS : va_S A s.heap H locs)
    (K : ∀ (ad' : Nat → Nat) (H' : Heap) (locs' : List Loc), mm_ag h.length ad ad' → va_P D mm_cl (mm_W cy b ad' h1) H' → va_D A (mm_W cy b ad' h1) → mm_wh h1 → va_S A s.heap H' locs' → (∀ w, v = some w → ∃ x, w = .int x) → W p l e R s m args below meth c H' locs' (cells + mc) (slots + ms) Q (F0 m (pc + 3) lsr ((v.map (mm_v b ad')).toList ++ rest))) :
    W p l e R s m args below meth c H locs cells slots Q (F0 m pc lsr st0) := by
  intro T hT X
  obtain ⟨v0, st₀, t, T', L', h0, X', hL, e1, e2, ⟨v1, ad', hv, ho, hi, hag, hP, hD, hw, hF⟩, st⟩ := hr T hT X
  cases hv
  cases ho
  obtain ⟨k1, k2, k3⟩ := vx_keep (A0 := A) (A1 := A) (free := A) h0 e1 hS (fun q _ hq => hq) (fun q hq => hq) hL hF
  obtain ⟨t2, a1, b1⟩ := K ad' T'.heap (locs ++ L') hag (by rw [e1]; exact hP) hD hw k3 hi T' rfl X'
  exact ⟨t2, st t2 a1, b1⟩
theorem mm_backX {E : String} (hr : vx_Run p l e R s m args below meth c H locs cells slots mc ms (F0 m pc lsr st0) rest (mm_Qc D cy A b ad h (.inr E) h1 a) (mm_XC D cy A b ad h (.inr E) h1) A) (hS : va_S A s.heap H locs)
    (K : ∀ (ad' : Nat → Nat) (H' : Heap) (locs' : List Loc) (q : Addr) (ce : Cell), mm_ag h.length ad ad' → va_P D mm_cl (mm_W cy b ad' h1) H' → va_D A (mm_W cy b ad' h1) → mm_wh h1 → va_S A s.heap H' locs' → H'[q]? = some ce → ce.vm = .none → s.vm.findClass E = some ce.cls → vx_W p l e R s m args below meth c H' locs' (cells + mc) (slots + ms) Q (F0 m pc lsr rest) q) :
    W p l e R s m args below meth c H locs cells slots Q (F0 m pc lsr st0) := by
  intro T hT X
  rcases hr T hT X with ⟨v0, st₀, t, T', L', h0, X', hL, e1, e2, ⟨v1, ad', hv, -⟩, st⟩ | ⟨q, st₀, t, T', L', E', ce, h0, X', hL, e1, e2, ⟨ad', hE, hag, hP, hD, hw, hF⟩, hce, hcv, hcl, st⟩
  · cases hv
  · cases hE
    obtain ⟨k1, k2, k3⟩ := vx_keep (A0 := A) (A1 := A) (free := A) h0 e1 hS (fun q _ hq => hq) (fun q hq => hq) hL hF
    obtain ⟨t2, a1, b1⟩ := K ad' T'.heap (locs ++ L') q ce hag (by rw [e1]; exact hP) hD hw k3 (by rw [e1]; exact hce) hcv hcl T' rfl X'
    exact ⟨t2, st.trans a1, b1⟩
end MMG
