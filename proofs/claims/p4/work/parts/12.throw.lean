/-! 'throw new E(text)' -/
abbrev mm_nms : List String := ["java/lang/RuntimeException", "java/lang/Exception"]
def mm_ISE : String := "java/lang/IllegalStateException"
def mm_NSE : String := "java/util/NoSuchElementException"
set_option maxRecDepth 100000 in
theorem mm_atS1 : (vx_atS RX1 40 mm_ISE mm_nms).all (fun w => decide (w ∈ lw_tbl) && (goodWord w || mm_odd w)) = true := by decide +kernel
def mm_b13 : ByteArray := ⟨#[0x2a, 0x2b, 0xb7, 0x00, 0x0d, 0xb1]⟩
/-- NoSuchElementException(String) passes its text on by the entry 13 -/
def mm_ownN : List Cond := Bundle.throwableAtoms ++ Bundle.throwableSAtoms ++ (Bundle.passSAtoms mm_NSE "java/lang/RuntimeException" 13 mm_b13 ++ Bundle.chainSAtoms "java/lang/RuntimeException" ["java/lang/Exception"]) ++
  [.methodLink RX5 73 (Bundle.initS mm_NSE), .instantiable mm_NSE 6, .castable mm_NSE mm_NSE, .selects mm_NSE Bundle.tFill0 Bundle.tFill0, .selects mm_NSE Bundle.tFill Bundle.tFill,
   .lays mm_NSE Bundle.tN "cause" "Ljava/lang/Throwable;", .lays mm_NSE Bundle.tN "stackTrace" Bundle.steD, .lays mm_NSE Bundle.tN "suppressedExceptions" Bundle.listD, .lays mm_NSE Bundle.tN "detailMessage" "Ljava/lang/String;",
   .isRef (.static Bundle.tN "UNASSIGNED_STACK" Bundle.steD), .isRef (.static Bundle.tN "SUPPRESSED_SENTINEL" Bundle.listD),
   .fieldLink Bundle.tN 198 Bundle.tN "backtrace" "Ljava/lang/Object;", .lays Bundle.tN Bundle.tN "backtrace" "Ljava/lang/Object;", .lays mm_NSE Bundle.tN "backtrace" "Ljava/lang/Object;"]
set_option maxRecDepth 100000 in
theorem mm_atS2 : (mm_ownN.filter vx_no).all (fun w => decide (w ∈ lw_tbl) && (goodWord w || mm_odd w)) = true := by decide +kernel
theorem mm_ot1 : (Cond.classLink RX1 36 mm_ISE :: Cond.initialized mm_ISE :: vx_atS RX1 40 mm_ISE mm_nms).all vx_ot = true := by decide +kernel
theorem mm_ot2 : (Cond.classLink RX5 69 mm_NSE :: Cond.initialized mm_NSE :: mm_ownN.filter vx_no).all vx_ot = true := by decide +kernel
theorem mm_X_spec {own o E : String} {ix i ps : Nat} (h : mm_X own ix = some (o, i, E, ps)) : Cond.classLink own ix E ∈ mm_gw ∧ ix ≠ 0 := by
  obtain ⟨h1, h2⟩ := mm_find mm_chkX_all h
  simp only [Bool.and_eq_true, beq_iff_eq] at h1
  obtain ⟨rfl, rfl⟩ := h1
  unfold mm_chkX at h2
  simp only [Bool.and_eq_true, decide_eq_true_eq] at h2
  exact ⟨mm_at_gw h2.1 rfl, h2.2⟩
section MMCT
variable {p : Program} {l : Launch} {e : Env} {R : Room} {s : State} {m : MethodId} {args : Array Value} {below : List Frame} {meth : Method} {c : Code} {W9 : State} {H : Heap} {locs : List Loc} {cells slots : Nat}
set_option maxHeartbeats 2000000 in
/-- NoSuchElementException(String) on a new cell, then athrow; the road is that of the library's own law for exceptions that pass by the entry 7 -/
theorem mm_ctorN (X : Stand p l e R s m args below meth c W9 locs cells slots) (hexec : p.tables.exec = Jvm.exec) (htr : e.platform.stackTraces = false)
    (hown : s.vm.findClass RX5 = some m.cls) (h : ∀ a ∈ mm_ownN, a.before args s = true)
    (hlocs : ∀ x ∈ locs, ∀ cell, s.heap[x.base]? = some cell → cell.vm.isStatics = false)
    {a : Addr} {cX : ClassId} {kX : Class} (hfX : s.vm.findClass mm_NSE = some cX) (hkX : s.vm.classes[cX]? = some kX) (hcell : W9.heap[a]? = some (freshCell cX kX)) (hnew : s.heap.size ≤ a)
    {msg : Value} (hmsg : msg.isRef = true)
    {g : JFrame} (hg : g.method = m) (hsize : g.locals.size = c.maxLocals) (hlocked : g.locked = none) (hentered : g.entered = []) {rest : List Value} (hstack : g.stack = msg :: .ref a :: .ref a :: rest)
    (hd6 : decode c.code g.pc = .ok (.invokespecial 73, 3)) (hd9 : decode c.code (g.pc + 3) = .ok (.athrow, 1)) (hout : ∀ x ∈ c.exceptionTable.toList, covers x (g.pc + 3) = false)
    (hRf : 5 < R.frames) (hRl : 2 * g.monitorRoom + ((Value.ref a :: rest).map fun v => v.category).sum + 81 ≤ R.locals) (hlocks : meth.locks = false) :
    ∃ U : State, Steps p.tables e below (W9.setTop g) U ∧ U.status = .running ∧ Ended U below (.threw a) ∧ s.WarmedH U.vm ∧ s.sameButNew ({ U with vm := s.vm } : State) locs cells slots ∧
      ∃ ce, U.heap[a]? = some ce ∧ s.vm.findClass mm_NSE = some ce.cls ∧ ce.vm = .none := by
  have howns : e.platform.frameOwnsMonitors = true := by rw [X.admits.platform]
  have hfin : e.platform.finalization = false := by rw [X.admits.platform]
  have hpl : e.platform.magicAccessors = ({} : Platform).magicAccessors := by rw [X.admits.platform]
  have w : ∀ x, x ∈ mm_ownN → x.holds args s none s [] = true := fun x hx => h x hx
  obtain ⟨T, Z0, L, -, Y⟩ := ThrowableC.of_atoms (args := args) howns hfin hpl (fun x hx => h x (by simp [mm_ownN, hx]))
  obtain ⟨Z, M, LZ, LM, hnZ⟩ := Init0T.ofS_atoms (args := args) hpl L Y (fun x hx => h x (by simp [mm_ownN, hx]))
  obtain ⟨P0, L0, hm0, hs0⟩ := PassC.ofS_atoms (args := args) (s := s) hpl (X := mm_NSE) (Y := "java/lang/RuntimeException") (index := 13) (bytes := mm_b13) (by decide +kernel) ⟨by decide +kernel, by decide +kernel⟩ (by decide +kernel) (by decide +kernel) (by decide +kernel) (by decide +kernel) (fun x hx => h x (by simp [mm_ownN, hx]))
  obtain ⟨P1, Ps, hlen, L1, hL, hm1, hlk1, hlk⟩ := Bundle.chainS (args := args) hpl hnZ ["java/lang/Exception"] "java/lang/RuntimeException" (by decide +kernel) (by decide +kernel) (fun x hx => h x (by simp [mm_ownN, hx]))
  have hsup : P0.sup = P1.m := Option.some.inj (hs0.symm.trans hm1)
  have hfound : s.vm.findClass mm_NSE = some P0.m.cls := findClass_of_methodNamed hm0
  cases Option.some.inj (hfX.symm.trans hfound)
  obtain ⟨c1, kX', hc1, hk, hord, -, -, hn6⟩ := Cond.instantiable_spec (w (.instantiable mm_NSE 6) (by simp [mm_ownN]))
  cases Option.some.inj (hc1.symm.trans hfound)
  cases Option.some.inj (hkX.symm.trans hk)
  have hsel0 : selectMethod e.platform s.vm P0.m.cls T.fill0 = .method T.fill0 := by
    obtain ⟨c2, r2, m2, q1, q2, q3, q4, -⟩ := Cond.selects_spec (w (.selects mm_NSE Bundle.tFill0 Bundle.tFill0) (by simp [mm_ownN]))
    cases Option.some.inj (q1.symm.trans hfound)
    cases Option.some.inj (q2.symm.trans (State.methodFound?_of_named Y.fill0 (by decide)))
    cases Option.some.inj (q3.symm.trans Y.fill0)
    rw [Launch.admits_selectMethod X.admits]; exact q4
  have hselF : selectMethod e.platform s.vm P0.m.cls T.fill = .method T.fill := by
    obtain ⟨c2, r2, m2, q1, q2, q3, q4, -⟩ := Cond.selects_spec (w (.selects mm_NSE Bundle.tFill Bundle.tFill) (by simp [mm_ownN]))
    cases Option.some.inj (q1.symm.trans hfound)
    cases Option.some.inj (q2.symm.trans (State.methodFound?_of_named Y.fill (by decide)))
    cases Option.some.inj (q3.symm.trans Y.fill)
    rw [Launch.admits_selectMethod X.admits]; exact q4
  obtain ⟨cellS0, hcS0, hiss⟩ := Y.statics
  obtain ⟨u0, hu0⟩ := Cond.staticRefV Y.unassigned L.unassignedStatic L.statics hcS0 hiss (w (.isRef (.static Bundle.tN "UNASSIGNED_STACK" Bundle.steD)) (by simp [mm_ownN]))
  obtain ⟨sen, hsen⟩ := Cond.staticRefV Y.sentinel L.sentinelStatic L.statics hcS0 hiss (w (.isRef (.static Bundle.tN "SUPPRESSED_SENTINEL" Bundle.listD)) (by simp [mm_ownN]))
  obtain ⟨ci198, i198, fB, hk198, hg198, ha198, hsB, -, hnB, htB, hffB⟩ := Cond.ownField (t := .object "java/lang/Object") Y.found L.cls (by decide +kernel) (w (.fieldLink Bundle.tN 198 Bundle.tN "backtrace" "Ljava/lang/Object;") (by simp [mm_ownN])) (w (.lays Bundle.tN Bundle.tN "backtrace" "Ljava/lang/Object;") (by simp [mm_ownN])) e.platform hpl
  obtain ⟨cellS, hcS', heS, -, hkeep⟩ := X.same.2.2.2.2.2 T.aS cellS0 hcS0
  have hcellS : W9.heap[T.aS]? = some cellS := hcS'
  have hout' : ∀ i, (⟨T.aS, i⟩ : Loc) ∉ locs := fun i hmem => by
    have := hlocs _ hmem cellS0 hcS0
    rw [hiss] at this; cases this
  have hknownS : cellS.vm ≠ .unknown := by
    rw [heS]; intro hu
    rw [show cellS0.vm = .unknown from hu] at hiss
    cases hiss
  have hneS : T.aS ≠ a := Nat.ne_of_lt (Nat.lt_of_lt_of_le (Array.getElem?_eq_some_iff.mp hcS0).1 hnew)
  obtain ⟨iM, hffM⟩ := Y.msg
  obtain ⟨tyC, dC, hdC, hdnC⟩ := Cond.laysAt hfound hk Y.cause (w (.lays mm_NSE Bundle.tN "cause" "Ljava/lang/Throwable;") (by simp [mm_ownN]))
  obtain ⟨tyS, dS, hdS, hdnS⟩ := Cond.laysAt hfound hk Y.stack (w (.lays mm_NSE Bundle.tN "stackTrace" Bundle.steD) (by simp [mm_ownN]))
  obtain ⟨tyP, dP, hdP, hdnP⟩ := Cond.laysAt hfound hk Y.supp (w (.lays mm_NSE Bundle.tN "suppressedExceptions" Bundle.listD) (by simp [mm_ownN]))
  obtain ⟨tyM, dM, hdM, hdnM⟩ := Cond.laysAt hfound hk hffM (w (.lays mm_NSE Bundle.tN "detailMessage" "Ljava/lang/String;") (by simp [mm_ownN]))
  obtain ⟨tyB, dB, hdB, hdnB⟩ := Cond.laysAt hfound hk hffB (w (.lays mm_NSE Bundle.tN "backtrace" "Ljava/lang/Object;") (by simp [mm_ownN]))
  have bC := Cond.laysApart hdB hdC hdnB hdnC (by rw [hnB, Y.causeName]; decide)
  have bS := Cond.laysApart hdB hdS hdnB hdnS (by rw [hnB, Y.stackName]; decide)
  have bP := Cond.laysApart hdB hdP hdnB hdnP (by rw [hnB, Y.suppName]; decide)
  have hskip : SkipFacts T e.platform s (fun u => u) u0 ((preparedCellV T.toThrowableT (freshCell P0.m.cls kX) a u0 sen).withEntry W9.cur) :=
    ⟨{ ci198 := ci198, i198 := i198, fBack := fB }, ⟨hk198, hg198, ha198, hsB⟩, by
      have := fresh_default (c := P0.m.cls) tyB
      rw [htB] at this
      simpa [preparedCellV, Cell.setSlot, Cell.withEntry, Array.getElem?_setIfInBounds, bC, bS, bP, bC.symm, bS.symm, bP.symm, defaultValue] using this, fun _ _ => rfl⟩
  obtain ⟨tm, methC, cdC, kC, vm₁, hnC, -, -, -, -, -, -, -, hW₁, st1⟩ := Steps.initColdS (tb := p.tables) (e := e) (below := below) (s := s) (U := W9) X.here hexec X.warmed hpl hown (t := Bundle.initS mm_NSE) rfl rfl ⟨by decide +kernel, by decide +kernel⟩
    (w (.methodLink RX5 73 (Bundle.initS mm_NSE)) (by simp [mm_ownN])) (h (.instanceMethod (Bundle.initS mm_NSE)) (by simp [mm_ownN, Bundle.passSAtoms])) (bytes := mm_b13) (maxL := 2) (h (.code (Bundle.initS mm_NSE) mm_b13 2 none) (by simp [mm_ownN, Bundle.passSAtoms]))
    (f := g) hg (a := a) (msg := msg) (rest := .ref a :: rest) hstack hd6
  cases Option.some.inj (hnC.symm.trans hm0)
  have X₁ := X.noted hW₁
  have hPs : Ps.length = 1 := hlen
  obtain ⟨vm₂, X₂, st2⟩ := X₁.ctorMessageOffV hexec (g := { g with stack := .ref a :: rest }) hg hsize T L Z LZ M LM (P0 :: P1 :: Ps)
    (fun P hP => by
      rcases List.mem_cons.mp hP with rfl | hP
      · exact L0
      · rcases List.mem_cons.mp hP with rfl | hP
        · exact L1
        · exact hL P hP) ⟨hsup, hlk1, hlk⟩ (u0 := u0) (sen := sen) (self := a) hmsg (cell := freshCell P0.m.cls kX) (cellS := cellS)
    hcell (fun _ => by simp) (by simp) rfl rfl hsel0 hselF hcellS hneS hknownS (by rw [hkeep _ (hout' _)]; exact hu0) (by rw [hkeep _ (hout' _)]; exact hsen)
    (Takes.of_laid hk hord tyC (by rw [Y.causeType]; rfl)) (Takes.of_laid hk hord tyS (by rw [Y.stackType]; exact fits_refV_array _ u0)) (Takes.of_laid hk hord tyP (by rw [Y.suppType]; exact fits_refV_object _ sen))
    (Takes.of_laid hk hord tyM (by rw [Y.msgType]; exact fits_refV_object _ ⟨msg, hmsg⟩)) Y.objLocals hskip htr [] hd6
    (by simp only [List.length_cons, hPs]; omega) (by simp only [List.length_cons, hPs]; exact hRl)
  obtain ⟨hwalk, hrun, hended, hWU, hsame⟩ := X₂.athrowLeaves hexec (g := { g with stack := .ref a :: rest, pc := g.pc + 3 }) hg hlocked hentered hout (a := a) (rest := rest) rfl hd9 hlocks
  have hlt : a < ((W9.setVm vm₁).setVm vm₂).heap.size := (Array.getElem?_eq_some_iff.mp hcell).1
  have hU := heapAt_setCell_self (s := (W9.setVm vm₁).setVm vm₂) (plainBareV T.toThrowableT (freshCell P0.m.cls kX) a u0 sen msg) hlt
  refine ⟨_, st1 _ (fun acts => ?_), hrun, hended, hWU, hsame.weaken (fun y hy hlt' => ?_) (Nat.le_refl _) (Nat.le_refl _), _, hU, hfound, rfl⟩
  · rw [doInvoke_state]
    exact st2 _ hwalk
  · rcases List.mem_append.mp hy with h1 | h1
    · exact h1
    · exfalso
      have hb : y.base = a := by
        simp only [List.mem_cons, List.not_mem_nil, or_false] at h1
        rcases h1 with rfl | rfl | rfl | rfl | rfl <;> rfl
      rw [hb] at hlt'
      exact Nat.not_lt.mpr hnew hlt'
variable {ls : Array Slot} {rest : List Value} {free : Addr → Prop} {Qc : Array Value → State → Outcome → State → Prop} {XC : String → State → State → Prop}
/-- 'throw new NoSuchElementException(text)' in TreeBuilder: as vx_throwS -/
theorem mm_throwN {cc : ByteArray} {pc : Nat} (hexec : p.tables.exec = Jvm.exec) (hb : c.code = cc) (hl : l.stackTraces = false) {text : String} {is mc ms sa : Nat} {A : Nat → Prop}
    (hown : s.vm.findClass RX5 = some m.cls)
    (hk : (Cond.classLink RX5 69 mm_NSE).before args s = true) (hini : (Cond.initialized mm_NSE).before args s = true) (hstr : vk_R RX5 is text sa s) (hat : ∀ w ∈ mm_ownN.filter vx_no, w.before args s = true)
    (hgood : ∀ w ∈ Cond.classLink RX5 69 mm_NSE :: Cond.initialized mm_NSE :: mm_ownN.filter vx_no, vx_ot w = true)
    (hU : vx_Zq Bundle.tN "UNASSIGNED_STACK" Bundle.steD A s s.heap) (hN : vx_Zq Bundle.tN "SUPPRESSED_SENTINEL" Bundle.listD A s s.heap) (hS : va_S A s.heap H locs) (hsize : ls.size = c.maxLocals)
    (d0 : decode cc pc = .ok (.new 69, 3)) (d3 : decode cc (pc + 3) = .ok (.dup, 1)) (d4 : decode cc (pc + 4) = .ok (.ldc is, 2)) (d6 : decode cc (pc + 6) = .ok (.invokespecial 73, 3)) (d9 : decode cc (pc + 9) = .ok (.athrow, 1))
    (hout : ∀ x ∈ c.exceptionTable.toList, covers x (pc + 9) = false)
    (hRframes : 2 + 3 < R.frames) (hRlocals : (rest.map fun v => v.category).sum + (13 * (2 + 1) + 43) ≤ R.locals) (hRcells : cells + 1 ≤ R.cells) (hRslots : slots + 6 ≤ R.slots) (hlocks : meth.locks = false)
    (hx : ∀ t : State, s.vm.Alike t.vm → H.size ≤ t.heap.size → (∀ q : Nat, q < H.size → t.heap[q]? = H[q]?) → XC mm_NSE s t)
    (hf : ∀ z ∈ locs, free z.base) (hc : cells + 1 ≤ mc) (hs : slots + 6 ≤ ms) :
    W p l e R s m args below meth c H locs cells slots (vx_MQ below Qc XC args s mc ms free) (F0 m pc ls rest) := by
  intro T hT X
  have htr : e.platform.stackTraces = false := (show e.platform.stackTraces = l.stackTraces by rw [X.admits.platform]).trans hl
  have Y := vx_rebase X (R' := { frames := R.frames, locals := R.locals, cells := 1, slots := 6 }) (Nat.le_refl _) (Nat.le_refl _) hRcells hRslots
  obtain ⟨s', hA⟩ : ∃ z, z = (T.setVm s.vm).setFrames (.invoking m args :: below) := ⟨_, rfl⟩
  rw [← hA] at Y
  have hvm : s'.vm = s.vm := by rw [hA]; rfl
  have hhp : s'.heap = H := by rw [hA]; exact hT
  have hW0 : s.WarmedH s'.vm := by rw [hvm]; exact State.WarmedH.refl s
  have hat' : ∀ w ∈ mm_ownN.filter vx_no, w.before args s' = true := fun w hw => vx_ot_at hW0 hvm.symm (hgood w (List.mem_cons_of_mem _ (List.mem_cons_of_mem _ hw))) (hat w hw)
  have hk' : (Cond.classLink RX5 69 mm_NSE).before args s' = true := vx_ot_at hW0 hvm.symm (hgood _ List.mem_cons_self) hk
  have hini' : (Cond.initialized mm_NSE).before args s' = true := vx_ot_at hW0 hvm.symm (hgood _ (List.mem_cons_of_mem _ List.mem_cons_self)) hini
  have hU' : vx_Zq Bundle.tN "UNASSIGNED_STACK" Bundle.steD A s' s'.heap := by rw [hhp]; exact vx_Zq.moved hW0.alike (hU.kept hS.2.1)
  have hN' : vx_Zq Bundle.tN "SUPPRESSED_SENTINEL" Bundle.listD A s' s'.heap := by rw [hhp]; exact vx_Zq.moved hW0.alike (hN.kept hS.2.1)
  have h : ∀ w ∈ mm_ownN, w.before args s' = true := vx_own hat' (vx_isRefq hU'.1) (vx_isRefq hN'.1) hU'.2.word hN'.2.word
  have hown' : s'.vm.findClass RX5 = some m.cls := by rw [hvm]; exact hown
  have hins : (Cond.instantiable mm_NSE 6).before args s' = true := h _ (by simp [mm_ownN])
  obtain ⟨vm₁, cX, kX, hfX, hkX, -, -, X₁, st1⟩ := Y.newCold hexec (own := RX5) (C := mm_NSE) (index := 69) (n := 6) hown' hk' hins hini'
    (g := F0 m pc ls rest) rfl (by rw [hb]; exact d0) (Nat.le_refl _) (Nat.le_refl _)
  generalize hT1 : (T.setVm vm₁).pushCell { cls := cX, slots := kX.instanceTypes.map defaultValue, vm := .none } = T1 at X₁ st1
  have hcat : (Value.ref T.heap.size).category = 1 := rfl
  have hcellA : T1.heap[T.heap.size]? = some (freshCell cX kX) := by rw [← hT1]; exact State.heap_pushCell_size _ _
  have d3' : decode c.code (pc + 3) = .ok (.dup, 1) := by rw [hb]; exact d3
  have d4' : decode c.code (pc + 4) = .ok (.ldc is, 2) := by rw [hb]; exact d4
  have hstr' : vk_R RX5 is text sa s' := vk_R.warm hW0 hstr
  obtain ⟨U, hsteps, hrun, hend, hW, hsame, ce, hce, hO, hOv⟩ := mm_ctorN X₁ hexec htr hown' h (fun x hx => nomatch hx) hfX hkX hcellA (by rw [hhp, hT]; exact Nat.le_refl _) (msg := .ref sa) rfl
    (g := { method := m, pc := pc + 6, locals := ls, stack := .ref sa :: .ref T.heap.size :: .ref T.heap.size :: rest, locked := none }) rfl hsize rfl rfl (rest := rest) rfl
    (by rw [hb]; exact d6) (by rw [hb]; exact d9) hout hRframes (by simp only [List.map_cons, List.sum_cons, hcat]; show 2 * 0 + _ + 81 ≤ _; omega) hlocks
  obtain ⟨f1, f2⟩ := vx_frame hsame
  rw [hhp] at f1 f2
  have hWs : s.WarmedH U.vm := State.WarmedH.trans hW0 hW
  have hcl : s.vm.findClass mm_NSE = some ce.cls := by
    have h9 := hO
    rw [hvm] at h9
    exact h9
  have hall : s.sameButNew ({ U with vm := s.vm } : State) locs mc ms := by
    subst hA
    obtain ⟨e1, e2⟩ := hsame
    rw [State.setFrames_setFrames] at e1
    have h2 : (T.setVm s.vm).sameButNew ({ U with vm := s.vm } : State) [] (0 + 1) (0 + 6) := ⟨e1, e2⟩
    have h3 := X.same.trans h2
    rw [List.append_nil] at h3
    exact h3.mono hc hs
  refine ⟨U, ?_, .threw T.heap.size, hrun, hend, Or.inr ⟨T.heap.size, rfl, mm_NSE, ce, locs, hx U hWs.alike f1 (fun q hq => f2 q hq (fun z hz => nomatch hz)), hce, hOv, hcl, hWs, hall, hf⟩⟩
  refine st1 _ ?_
  show Steps p.tables e below (T1.setTop { method := m, pc := pc + 3, locals := ls, stack := .ref T.heap.size :: rest, locked := none }) _
  jvm_step X₁.here [X₁.here.top, hexec, d3', Value.category]
  exact X₁.ldcString hexec (own := RX5) (text := text) (index := is) (a := sa) hown' hstr'.1 hstr'.2
    (g := { method := m, pc := pc + 4, locals := ls, stack := .ref T.heap.size :: .ref T.heap.size :: rest, locked := none }) rfl d4' _ hsteps
end MMCT
section MMT
variable {p : Program} {l : Launch} {e : Env} {R : Room} {s : State} {m : MethodId} {args : Array Value} {below : List Frame} {meth : Method} {c : Code} {H : Heap} {locs : List Loc} {cells slots : Nat}
variable {D : va_G} {cy : Nat → ClassId} {A : Nat → Prop} {b L : Nat} {xs : Nat → Int32} {me : mm_Me} {ad ad' : Nat → Nat} {h h' : mm_H} {ls : mm_L} {st : List Value} {lsr : Array Slot} {pc ix si ic : Nat} {E : String}
theorem mm_words (hG : mm_G D cy A b L xs s s.heap) (hts : ∀ w ∈ mm_gw, w.before args s = true) {L9 : List Cond} (h : L9.all (fun w => decide (w ∈ lw_tbl) && (goodWord w || mm_odd w)) = true) : ∀ w ∈ L9, w.before args s = true := by
  intro w hw
  have h1 := List.all_eq_true.mp h w hw
  simp only [Bool.and_eq_true, decide_eq_true_eq, Bool.or_eq_true] at h1
  obtain ⟨h2, h3 | h3⟩ := h1
  · exact hts w (List.mem_filter.mpr ⟨h2, h3⟩)
  · have h4 := hG.2.1 w (List.mem_filter.mpr ⟨h2, h3⟩)
    have ho : w.onTables = true := by
      cases w with
      | methodLinkNest a i x h' => rfl
      | fieldLinkNest a i b' n d h' => rfl
      | declares x => rfl
      | castable X Y => rfl
      | _ => cases h3
    exact va_Nw.use ho h4
theorem mm_throw1 (C : mm_Cx D cy A b L xs p l s m args meth c me) (Rp : mm_Rp D cy A b s.heap me.2.2.2.1 ad' h' ls st H locs lsr) (hag : mm_ag h.length ad ad') (hout : ∀ x ∈ c.exceptionTable.toList, False)
    (hfr : 8 ≤ R.frames) (hlo : 328 ≤ R.locals) (hc : cells + 1 ≤ R.cells) (hz : slots + 6 ≤ R.slots) (hsum : (st.map fun v => v.category).sum ≤ 8)
    (hin : (me.1, ix, E, si, ic) ∈ [(RX1, 36, "java/lang/IllegalStateException", 38, 40), (RX5, 69, "java/util/NoSuchElementException", 71, 73), (RX5, 69, "java/util/NoSuchElementException", 92, 73), (RX5, 69, "java/util/NoSuchElementException", 94, 73)])
    (d0 : decode me.2.2.1 pc = .ok (.new ix, 3)) (d3 : decode me.2.2.1 (pc + 3) = .ok (.dup, 1)) (d4 : decode me.2.2.1 (pc + 4) = .ok (.ldc si, 2)) (d6 : decode me.2.2.1 (pc + 6) = .ok (.invokespecial ic, 3)) (d9 : decode me.2.2.1 (pc + 9) = .ok (.athrow, 1)) {Qc : Array Value → State → Outcome → State → Prop} :
    W p l e R s m args below meth c H locs cells slots (vx_MQ below Qc (mm_XC D cy A b ad h (.inr E) h') args s (cells + 1) (slots + 6) A) (F0 m pc lsr (st.map (mm_v b ad'))) := by
  obtain ⟨hx, hb, hml, hown, hts, hr, hlk, hnm, htb, hA, hG, htr⟩ := C
  obtain ⟨hP, hD, hS, hl, hw, hq, ht⟩ := Rp
  obtain ⟨g1, g2, g3, g4, g5, g6, g7, g8⟩ := id hG
  have hXC : ∀ t : State, s.vm.Alike t.vm → H.size ≤ t.heap.size → (∀ q : Nat, q < H.size → t.heap[q]? = H[q]?) → mm_XC D cy A b ad h (.inr E) h' E s t := by
    intro t _ hz2 hk
    refine ⟨ad', rfl, hag, hP.kept (fun k x hx9 => hk x.1 ((hP k x hx9).lt)), hD, hw, Nat.le_trans hS.1 hz2, fun q h1 h2 => ?_⟩
    rw [hk q (Nat.lt_of_lt_of_le h1 hS.1)]
    exact hS.2.1 q h1 h2
  have hsum2 : ((st.map (mm_v b ad')).map fun v => v.category).sum + (13 * (mm_nms.length + 1) + 43) ≤ R.locals := by
    rw [mm_v_sum]
    show _ + (13 * (2 + 1) + 43) ≤ _
    omega
  have hfr2 : mm_nms.length + 3 < R.frames := by
    show 2 + 3 < R.frames
    omega
  have hout2 : ∀ x ∈ c.exceptionTable.toList, covers x (pc + 9) = false := fun x hx9 => (hout x hx9).elim
  have hnmfit : ∀ n ∈ mm_nms, Bundle.fit n = true := by decide +kernel
  have hsz : lsr.size = c.maxLocals := hl.1.trans hml.symm
  have go1 : ∀ (text : String), me.1 = RX1 → ix = 36 → E = mm_ISE → ic = 40 → (RX1, si, text) ∈ mm_str → W p l e R s m args below meth c H locs cells slots (vx_MQ below Qc (mm_XC D cy A b ad h (.inr E) h') args s (cells + 1) (slots + 6) A) (F0 m pc lsr (st.map (mm_v b ad'))) := by
    intro text e1 e2 e3 e4 hs9
    subst e2; subst e3; subst e4
    obtain ⟨sa, hstr⟩ := g3 _ hs9
    rw [e1] at hown
    exact vx_throwS (names := mm_nms) (text := text) (sa := sa) hx hb htr hown (by decide +kernel) hnmfit (mm_words hG hts (L9 := [Cond.classLink RX1 36 mm_ISE]) (by decide +kernel) _ List.mem_cons_self) (hts _ (mm_at_gw mm_inix_ISE rfl)) hstr (mm_words hG hts mm_atS1) (List.all_eq_true.mp mm_ot1) g4 g5 hS hsz d0 d3 d4 d6 d9 hout2 hfr2 hsum2 hc hz hlk hXC hS.2.2 (Nat.le_refl _) (Nat.le_refl _)
  have go2 : ∀ (text : String), me.1 = RX5 → ix = 69 → E = mm_NSE → ic = 73 → (RX5, si, text) ∈ mm_str → W p l e R s m args below meth c H locs cells slots (vx_MQ below Qc (mm_XC D cy A b ad h (.inr E) h') args s (cells + 1) (slots + 6) A) (F0 m pc lsr (st.map (mm_v b ad'))) := by
    intro text e1 e2 e3 e4 hs9
    subst e2; subst e3; subst e4
    obtain ⟨sa, hstr⟩ := g3 _ hs9
    rw [e1] at hown
    exact mm_throwN (text := text) (sa := sa) hx hb htr hown (mm_words hG hts (L9 := [Cond.classLink RX5 69 mm_NSE]) (by decide +kernel) _ List.mem_cons_self) (hts _ (mm_at_gw mm_inix_NSE rfl)) hstr (mm_words hG hts mm_atS2) (List.all_eq_true.mp mm_ot2) g4 g5 hS hsz d0 d3 d4 d6 d9 hout2 hfr2 hsum2 hc hz hlk hXC hS.2.2 (Nat.le_refl _) (Nat.le_refl _)
  simp only [List.mem_cons, Prod.mk.injEq, List.not_mem_nil, or_false] at hin
  rcases hin with ⟨e1, e2, e3, e4, e5⟩ | ⟨e1, e2, e3, e4, e5⟩ | ⟨e1, e2, e3, e4, e5⟩ | ⟨e1, e2, e3, e4, e5⟩
  · exact go1 "no program has this token here" e1 e2 e3 e5 (by rw [e4]; exact List.mem_cons_self)
  · exact go2 "there is no such node" e1 e2 e3 e5 (by rw [e4]; exact List.mem_cons_of_mem _ List.mem_cons_self)
  · exact go2 "there is no such what" e1 e2 e3 e5 (by rw [e4]; exact List.mem_cons_of_mem _ (List.mem_cons_of_mem _ List.mem_cons_self))
  · exact go2 "there is no such child" e1 e2 e3 e5 (by rw [e4]; exact List.mem_cons_of_mem _ (List.mem_cons_of_mem _ (List.mem_cons_of_mem _ List.mem_cons_self)))
end MMT
