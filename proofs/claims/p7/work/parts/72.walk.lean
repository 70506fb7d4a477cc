/-! The model's machine at a script at which the small machine returns 0. -/
/-- the small machine returns 0 at this script -/
def rf_Pure (xs : Nat → Int32) (L : Nat) : Prop := ∃ (n : Nat) (h' : mm_H) (c' z' : Nat), mm_ev xs L n 2048 224 0 [(0, .retAddr 0)] [] [] 0 0 = some (.inl (some (.int 0)), h', c', z') ∧ c' ≤ 601024 ∧ z' ≤ 7293034
def rf_Q (_ : Array Value) (s : State) (o : Outcome) (t : State) : Prop := o = .returned (some (.int 0)) ∧ Framed s o t [] 601024 7293034
def rf_Z (below : List Frame) (a : Array Value) (s : State) : State → Prop := fun t => ∃ o, t.status = .running ∧ Ended t below o ∧ rf_Q a s o t
theorem rf_ret {p : Program} {l : Launch} {e : Env} {s : State} {m : MethodId} {below : List Frame} {meth : Method} {c : Code} {b : Nat} (hx : p.tables.exec = Jvm.exec) (hb : c.code = code) (hr : meth.sig.returnType = ret) (hlocks : meth.locks = false) {pc : Nat} {H : Heap} {ls : Array Slot} (hdg : decode code pc = .ok (.ireturn, 1)) : W p l e room_1 s m #[Value.ref b] below meth c H [] 601024 7293034 (rf_Z below #[Value.ref b] s) (F0 m pc ls [.int 0]) := by
  intro T hT X
  obtain ⟨fs, hret, hrun, hended, hW, hframe⟩ := X.leave (v := some (.int 0)) (hlocks := hlocks) (fun h => by rw [hr] at h; cases h)
  have hmeth' : T.vm.method? m = some meth := X.method'
  refine ⟨T.setFrames fs, ?_, .returned (some (.int 0)), hrun, hended, rfl, ⟨_, rfl⟩, hW, hframe⟩
  jvm_step X.here [X.here.top, hx, hb, hdg, hmeth', hr, ret, narrow_b0]
  (try refine ⟨rfl, ?_⟩); (try refine ⟨rfl, ?_⟩)
  first | (intro acts; rw [hret _ acts rfl rfl rfl]) | rw [hret _ _ rfl rfl rfl]
  exact Steps.refl _
set_option maxHeartbeats 4000000 in
set_option maxRecDepth 100000 in
theorem rf_start {L : Nat} {xs : Nat → Int32} (hpure : rf_Pure xs L) {p : Program} {e : Env} {s : State} {m : MethodId} {below : List Frame} {meth : Method} {c : Code} (l : Launch) (hfl : l.flags = flags0) {b : Nat} (hL : L ≤ 1536) (C0 : lw_At p s m meth c b L xs) : W p l e room_1 s m #[Value.ref b] below meth c s.heap [] 0 0 (rf_Z below #[Value.ref b] s) (entryFrame m ([Value.ref b] : List Value).toArray 7) := by
  obtain ⟨hx, hb, hr, hml, hown, hts, hX, hbl, hlocks, hgv⟩ := id C0
  obtain ⟨n, h', c', z', hev, hc, hz⟩ := hpure
  have hgw : ∀ w ∈ mm_gw, w.before #[Value.ref b] s = true := fun w hw => hts w (mm_gw_in hw)
  have hflat := flat_of_before _ hgv
  have hA : ∀ q : Nat, s.heap.size ≤ q → (fun q : Nat => s.heap.size ≤ q) q := fun _ h => h
  have hnA : ∀ a : Nat, a < s.heap.size → ¬ (fun q : Nat => s.heap.size ≤ q) a := fun _ h => Nat.not_le.mpr h
  have htr : l.stackTraces = false := by
    unfold Launch.stackTraces
    rw [hfl]
    decide +kernel
  have kn : ∀ (ci : Nat) (C : String) (T : u_T) (N : Nat), mm_cl[ci]? = some (C, T, N) → ∃ (cC : ClassId) (iS : Nat → Nat), u_Kn s C T N cC iS := by
    intro ci C T N h
    obtain ⟨k1, k2, k3, k4, k5⟩ := mm_cl_spec h
    exact u_known hgw k1 (hgw _ k4)
  obtain ⟨c0, i0, K0⟩ := kn 0 _ _ _ rfl
  obtain ⟨c1, i1, K1⟩ := kn 1 _ _ _ rfl
  obtain ⟨c2, i2, K2⟩ := kn 2 _ _ _ rfl
  obtain ⟨c3, i3, K3⟩ := kn 3 _ _ _ rfl
  obtain ⟨c4, i4, K4⟩ := kn 4 _ _ _ rfl
  obtain ⟨a0, A0, B0⟩ := mm_arrOf (Or.inl rfl) (hgw _ (mm_at_gw mm_arr_int rfl))
  obtain ⟨a1, A1, B1⟩ := mm_arrOf (Or.inr (Or.inl rfl)) (hgw _ (mm_at_gw mm_arr_byte rfl))
  obtain ⟨a2, A2, B2⟩ := mm_arrOf (Or.inr (Or.inr (Or.inl rfl))) (hgw _ (mm_at_gw mm_arr_boolean rfl))
  obtain ⟨a3, A3, B3⟩ := mm_arrOf (Or.inr (Or.inr (Or.inr rfl))) (hgw _ (mm_at_gw mm_arr_long rfl))
  obtain ⟨D, cy, hK⟩ : ∃ (D : va_G) (cy : Nat → ClassId), va_K D mm_cl (mm_tys cy) s := by
    refine ⟨(fun k => if k = 0 then c0 else if k = 1 then c1 else if k = 2 then c2 else if k = 3 then c3 else c4, fun k => if k = 0 then i0 else if k = 1 then i1 else if k = 2 then i2 else if k = 3 then i3 else i4), fun k => if k = 0 then a0 else if k = 1 then a1 else if k = 2 then a2 else a3, ?_, ?_⟩
    · intro k q hq
      match k, hq with
      | 0, hq => cases hq; exact K0
      | 1, hq => cases hq; exact K1
      | 2, hq => cases hq; exact K2
      | 3, hq => cases hq; exact K3
      | 4, hq => cases hq; exact K4
      | k + 5, hq => simp [mm_cl] at hq
    · intro k q hq
      match k, hq with
      | 0, hq => cases hq; exact ⟨A0, B0⟩
      | 1, hq => cases hq; exact ⟨A1, B1⟩
      | 2, hq => cases hq; exact ⟨A2, B2⟩
      | 3, hq => cases hq; exact ⟨A3, B3⟩
      | k + 4, hq => simp at hq
  have hnest : ∀ w ∈ mm_nest, va_Nw w s := by
    intro w hw
    obtain ⟨hw1, hw2⟩ := List.mem_filter.mp hw
    have h9 := hts w hw1
    cases w with
    | methodLinkNest a i x h' => exact va_Nw.of rfl h9
    | fieldLinkNest a i b' n d h' => exact va_Nw.of rfl h9
    | declares x => exact va_Nw.of rfl h9
    | castable X Y => exact va_Nw.of rfl h9
    | _ => cases hw2
  have hstr : ∀ q ∈ mm_str, ∃ a, vk_R q.1 q.2.1 q.2.2 a s := by
    obtain ⟨s1, s2, s3, s4⟩ := mm_strs
    intro q hq
    simp only [mm_str, List.mem_cons, List.not_mem_nil, or_false] at hq
    rcases hq with rfl | rfl | rfl | rfl
    · obtain ⟨a, _, _, _, h9, _⟩ := Cond.exactly_spec (hflat (.exactly (.string RX1 38) "java/lang/String") (by decide +kernel))
      exact ⟨a, vk_R.of (hts _ (mm_at_in s1)) h9⟩
    · obtain ⟨a, _, _, _, h9, _⟩ := Cond.exactly_spec (hflat (.exactly (.string RX5 71) "java/lang/String") (by decide +kernel))
      exact ⟨a, vk_R.of (hts _ (mm_at_in s2)) h9⟩
    · obtain ⟨a, _, _, _, h9, _⟩ := Cond.exactly_spec (hflat (.exactly (.string RX5 92) "java/lang/String") (by decide +kernel))
      exact ⟨a, vk_R.of (hts _ (mm_at_in s3)) h9⟩
    · obtain ⟨a, _, _, _, h9, _⟩ := Cond.exactly_spec (hflat (.exactly (.string RX5 94) "java/lang/String") (by decide +kernel))
      exact ⟨a, vk_R.of (hts _ (mm_at_in s4)) h9⟩
  have hiniT : (Cond.initialized Bundle.tN).before #[Value.ref b] s = true := hts _ (mm_at_in mm_iniT)
  have hZ1 : vx_Zq Bundle.tN "UNASSIGNED_STACK" Bundle.steD (fun q : Nat => s.heap.size ≤ q) s s.heap := vx_Zqof (hts _ (mm_at_in mm_stat1)) hiniT (hflat _ (by decide +kernel)) hnA
  have hZ2 : vx_Zq Bundle.tN "SUPPRESSED_SENTINEL" Bundle.listD (fun q : Nat => s.heap.size ≤ q) s s.heap := vx_Zqof (hts _ (mm_at_in mm_stat2)) hiniT (hflat _ (by decide +kernel)) hnA
  have hG : mm_G D cy (fun q : Nat => s.heap.size ≤ q) b L xs s s.heap := ⟨hK, hnest, hstr, hZ1, hZ2, hX, hnA b hbl, hbl⟩
  have C : mm_Cx D cy (fun q : Nat => s.heap.size ≤ q) b L xs p l s m #[Value.ref b] meth c mm_law := ⟨hx, hb, hml, hown, hgw, hr, hlocks, fun h9 => absurd h9 (by decide +kernel), fun h9 => absurd rfl h9, hA, hG, htr⟩
  have hl := lv_entry ([.ref b]) (n := 7) (Nat.le_of_ble_eq_true rfl)
  rw [lg_entry_eq]
  generalize (lg_sl ([.ref b]) ++ List.replicate (7 - (lg_sl ([.ref b])).length) Slot.unset).toArray = lsr at hl ⊢
  have hl : lv_has lsr 7 [(0, .ref b)] := hl
  have Rp : mm_Rp D cy (fun q : Nat => s.heap.size ≤ q) b s.heap mm_law.2.2.2.1 (fun _ => 0) [] [(0, .retAddr 0)] [] s.heap [] lsr :=
    ⟨fun k q hq => (by simp [mm_W] at hq), ⟨fun i j p q h9 => (by simp [mm_W] at h9), fun k q h9 => (by simp [mm_W] at h9)⟩, va_S.rf, hl, fun o ho => (by cases ho), fun q hq => (by rw [List.mem_singleton.mp hq]; exact mm_wv_ret), fun v hv => (by cases hv)⟩
  refine mm_steps n p l e room_1 s m #[Value.ref b] below meth c (rf_Z below #[Value.ref b] s) D cy (fun q : Nat => s.heap.size ≤ q) b L xs mm_law 2048 224 0 [(0, .retAddr 0)] [] [] 0 0 (.inl (some (.int 0))) h' c' z' (fun _ => 0) s.heap [] lsr mm_lawAt hev C Rp (by decide) (Nat.le_refl _) (by decide) hc hz ?_ ?_ ?_
  · intro v pc' ad' H' locs' lsr' hv hag hP1 hD1 hS1 hw1 hret
    cases hv
    rcases hret with ⟨h9, -⟩ | ⟨y, ty, hy, -, -, -, hdg⟩
    · cases h9
    · cases hy
      refine va_forget (fun q hq => hS1.2.2 q hq) ?_
      refine W.widen (k := 601024) (n := 7293034) hc hz ?_
      exact rf_ret hx hb hr hlocks hdg
  · intro E pc' ad' H' locs' lsr' rest q ce h9
    cases h9
  · intro E pc' ad' H' locs' lsr' ls' st' c0 z0 h9
    cases h9
set_option maxHeartbeats 4000000 in
theorem rf_walk (l : Launch) (hfl : l.flags = flags0) (b : Addr) (xs : List Int32) (hpure : rf_Pure (fun j => xs.getD j 0) xs.length) : MetFree l x (headSpec (Jvm.Cond.code x code maxLocals ret :: tables_1) room_1) (lw_P b xs) (fun _ _ _ _ _ => True) rf_Q := by
  refine MetFree.of_bodyS (code := code) (maxLocals := maxLocals) (ret := ret) (by decide) ?_ ?_
  · intro args s m h hn
    obtain ⟨meth, c, h1, h2, h3, h4, h5, h6, -, -⟩ := Cond.code_spec hn (atoms_spec (ws := Jvm.Cond.code x code maxLocals ret :: tables_1) h _ List.mem_cons_self)
    exact ⟨meth, c, h1, h2, h3, h4, h5, h6⟩
  · intro p e s m args below meth c s₁ B hml0 hP _
    obtain ⟨rfl, hx, hbd, hgv⟩ := hP
    obtain ⟨scr, harrAt, hlist, hof, hsmall⟩ := hx
    obtain ⟨hcb, hkn, -, -⟩ := State.arrayAt?_spec harrAt
    have hown : s.vm.findClass R_law = some m.cls := findClass_of_methodNamed B.named
    have hts0 : ∀ c ∈ (Jvm.Cond.code x code maxLocals ret :: tables_1), c.before #[Value.ref b] s = true := atoms_spec (ws := Jvm.Cond.code x code maxLocals ret :: tables_1) B.pre
    have hts : ∀ w ∈ lw_tbl, w.before #[Value.ref b] s = true := k2_hts_sels lw_privs (fun w hw => hts0 w (List.mem_cons_of_mem _ hw)) lw_privs_ok
    have hml : c.maxLocals = 7 := B.maxLocals_eq (hts0 _ List.mem_cons_self)
    have X₀ : Stand p l e room_1 s m #[Value.ref b] below meth c s₁ [] 0 0 := Stand.of_body B
    have hh0 : s₁.heap = s.heap := by rw [B.state]; rfl
    have hsz : scr.slots.size = xs.length := by rw [← Array.length_toList, hlist, List.length_map]
    have hval : ∀ j : Nat, j < xs.length → scr.slots[j]? = some (.int (xs.getD j 0)) := fun j hj => by
      rw [← Array.getElem?_toList, hlist]
      simp [hj]
    have hbl : b < s.heap.size := (Array.getElem?_eq_some_iff.mp hcb).1
    have hX : va_X b xs.length (fun j => xs.getD j 0) s s.heap := ⟨scr, hcb, hof, hkn, hsz, hval⟩
    have K : W p l e room_1 s m #[Value.ref b] below meth c s₁.heap [] 0 0 (rf_Z below #[Value.ref b] s) (entryFrame m ([Value.ref b] : List Value).toArray 7) := by
      rw [hh0]
      exact rf_start hpure l hfl hbd ⟨B.exec, B.bytes, B.returns, hml, hown, hts, hX, hbl, B.notSynchronized, hgv⟩
    obtain ⟨t, a1, o, b1, b2, b3⟩ := K s₁ rfl X₀
    exact ⟨t, o, a1, b1, b2, b3⟩
