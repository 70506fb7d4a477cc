/-! THE SIMULATION: what the small machine answers, the machine does. -/
theorem mm_pop_eq {n : Nat} {st as r : List Value} (h : mm_pop n st = some (as, r)) : st = as.reverse ++ r ∧ as.length = n := by
  unfold mm_pop at h
  obtain ⟨hn, h⟩ := mm_if h
  simp only [Option.some.injEq, Prod.mk.injEq] at h
  obtain ⟨rfl, rfl⟩ := h
  refine ⟨?_, ?_⟩
  · rw [List.reverse_reverse, List.take_append_drop]
  · rw [List.length_reverse, List.length_take]
    omega
def mm_Link (own : String) (ix kind : Nat) (mf : mm_Me) (q : Bool × Nat × Nat × Nat) : Prop :=
  ((kind = 1 ∨ kind = 3 ∨ kind = 5) → Cond.methodLinkNest own ix mf.2.1 "TreeBuilder" ∈ mm_nest) ∧ (¬ (kind = 1 ∨ kind = 3 ∨ kind = 5) → Cond.methodLink own ix mf.2.1 ∈ mm_gw) ∧
  ((kind = 2 ∨ kind = 3 ∨ kind = 9) → q.1 = true) ∧ (¬ (kind = 2 ∨ kind = 3 ∨ kind = 9) → q.1 = false) ∧ ((kind = 4 ∨ kind = 5) → mf.2.1.name = "<init>" ∧ mf.2.2.2.2.1 = none) ∧ (¬ (kind = 4 ∨ kind = 5) → mf.2.1.name ≠ "<init>") ∧
  ((kind = 8 ∨ kind = 9) → mf.2.2.2.2.2.1 ≠ []) ∧ (¬ (kind = 8 ∨ kind = 9) → mf.2.2.2.2.2.1 = [])
theorem mm_chk_spec {own : String} {ix kind mj ps : Nat} {mf : mm_Me} (h : mm_chkC (own, ix, kind, mj, ps) = true) (h10 : ¬ kind = 10) (h11 : ¬ kind = 11) (hm : mm_all[mj]? = some mf) :
    mm_MT[mj]? = some mf ∧ ∃ q, mm_MOk mf q ∧ mm_Link own ix kind mf q := by
  unfold mm_chkC at h
  rw [if_neg h10, if_neg h11] at h
  dsimp only at h
  split at h
  · rename_i mf' q h1 h2
    have hlt : mj < mm_MT.length := (List.getElem?_eq_some_iff.mp h1).1
    have he : mf' = mf := by
      have h3 : mm_all[mj]? = mm_MT[mj]? := List.getElem?_append_left hlt
      rw [h3, h1] at hm
      exact Option.some.inj hm
    subst he
    obtain ⟨q', hq', hok⟩ := mm_M_spec h1
    cases Option.some.inj (hq'.symm.trans h2)
    simp only [Bool.and_eq_true, decide_eq_true_eq] at h
    obtain ⟨⟨⟨⟨a1, a2⟩, a3⟩, a4⟩, a5⟩ := h
    refine ⟨h1, q, hok, fun hk => ?_, fun hk => ?_, fun hk => ?_, fun hk => ?_, fun hk => ?_, fun hk => ?_, fun hk => ?_, fun hk => ?_⟩
    · rw [if_pos hk] at a1; exact mm_at_nest a1 rfl
    · rw [if_neg hk] at a1; exact mm_at_gw a1 rfl
    · rw [if_pos hk] at a2; exact a2
    · rw [if_neg hk] at a2; simpa using a2
    · rw [if_pos hk] at a3; simpa using a3
    · rw [if_neg hk] at a3; simpa using a3
    · rw [if_pos hk] at a4; simpa using a4
    · rw [if_neg hk] at a4; simpa using a4
  · cases h
theorem mm_codeW_nil {mf : mm_Me} (h : mf.2.2.2.2.2.1 = []) : mm_codeW mf = .code mf.2.1 mf.2.2.1 mf.2.2.2.1 mf.2.2.2.2.1 := by unfold mm_codeW; rw [if_pos h]
theorem mm_codeW_tab {mf : mm_Me} (h : mf.2.2.2.2.2.1 ≠ []) : mm_codeW mf = .codeWith mf.2.1 mf.2.2.1 mf.2.2.2.1 mf.2.2.2.2.1 mf.2.2.2.2.2.1 := by unfold mm_codeW; rw [if_neg h]
theorem mm_wsM_good {mf : mm_Me} {q : Bool × Nat × Nat × Nat} (h : mm_MOk mf q) : GoodIn mm_gw (mm_wsM mf) := mm_goodIn fun w hw => by
  rcases List.mem_cons.mp hw with rfl | hw
  · exact h.1
  · exact hw
section MMI
variable {p : Program} {l : Launch} {e : Env} {R : Room} {s : State} {m : MethodId} {args : Array Value} {below : List Frame} {meth : Method} {c : Code} {H : Heap} {locs : List Loc} {cells slots : Nat} {Q : State → Prop}
variable {D : va_G} {cy : Nat → ClassId} {A : Nat → Prop} {b L : Nat} {xs : Nat → Int32} {me : mm_Me} {ad : Nat → Nat} {h h1 : mm_H} {ls : mm_L} {st as r : List Value} {lsr : Array Slot} {pc op ix d n mj c1 z1 : Nat} {thr : Bool} {rr : Option Value ⊕ String}
set_option maxHeartbeats 2000000 in
theorem mm_call_go (hSn : mm_Sound n) (C : mm_Cx D cy A b L xs p l s m args meth c me) (Rp : mm_Rp D cy A b s.heap me.2.2.2.1 ad h ls st H locs lsr) (hd : 2 ≤ d) (hfr : d ≤ R.frames) (hlo : 41 * d ≤ R.locals)
    (hdg : (op = 0 → decode me.2.2.1 pc = .ok (.invokevirtual ix, 3)) ∧ (op = 1 → decode me.2.2.1 pc = .ok (.invokestatic ix, 3)) ∧ (op = 2 → decode me.2.2.1 pc = .ok (.invokespecial ix, 3)))
    (ha : mm_call me op ix pc ls st h cells slots = some (.inr (.inr (.inr (mj, as, r, thr))))) (hev : mm_ev xs L n (d - 1) mj 0 (lv_args 0 as) [] h 0 0 = some (rr, h1, c1, z1)) (hc : cells + c1 ≤ R.cells) (hz : slots + z1 ≤ R.slots)
    (hthr : ∀ E, rr = .inr E → thr = true)
    (K1 : ∀ v, rr = .inl v → ∀ (ad' : Nat → Nat) (H' : Heap) (locs' : List Loc), mm_ag h.length ad ad' → va_P D mm_cl (mm_W cy b ad' h1) H' → va_D A (mm_W cy b ad' h1) → mm_wh h1 → va_S A s.heap H' locs' → (∀ w, v = some w → ∃ x, w = .int x) → W p l e R s m args below meth c H' locs' (cells + c1) (slots + z1) Q (F0 m (pc + 3) lsr ((v.map (mm_v b ad')).toList ++ r.map (mm_v b ad))))
    (K2 : ∀ E, rr = .inr E → ∀ (ad' : Nat → Nat) (H' : Heap) (locs' : List Loc) (q : Addr) (ce : Cell), mm_ag h.length ad ad' → va_P D mm_cl (mm_W cy b ad' h1) H' → va_D A (mm_W cy b ad' h1) → mm_wh h1 → va_S A s.heap H' locs' → H'[q]? = some ce → ce.vm = .none → s.vm.findClass E = some ce.cls → vx_W p l e R s m args below meth c H' locs' (cells + c1) (slots + z1) Q (F0 m pc lsr (r.map (mm_v b ad))) q) :
    W p l e R s m args below meth c H locs cells slots Q (F0 m pc lsr (st.map (mm_v b ad))) := by
  obtain ⟨hx, hb, hml, hown, hts, hr, hlk, hnm, htb, hA, hG, htr⟩ := C
  obtain ⟨hP, hD, hS, hl, hw, hq, ht⟩ := Rp
  have hfix : CallFix p m c me.2.2.1 me.2.2.2.1 s args mm_gw me.1 := ⟨hx, hb, hml, hown, hts⟩
  have hpre : ∀ (as' : List Value) (U : State), U.heap = H → s.WarmedH U.vm → mm_Pc D cy A b L xs ad as' h (as'.map (mm_v b ad)).toArray U := by
    intro as' U hU hW
    refine ⟨rfl, by rw [hU]; exact hP, hD, ?_, fun q hq9 => hA q (Nat.le_trans hS.1 (by rw [← hU]; exact hq9))⟩
    rw [hU]
    exact hG.at hW hS.1 hS.2.1
  have hd1 : 1 ≤ d - 1 := by omega
  unfold mm_call at ha
  split at ha
  · rename_i o i kind mj' ps hC
    obtain ⟨rfl, rfl, hk⟩ := mm_C_spec hC
    split at ha
    · split at ha
      · have ha := (mm_if ha).2
        cases ha
      · cases ha
    · rename_i hn10
      split at ha
      · split at ha
        · have ha := (mm_if ha).2
          cases ha
        · cases ha
      · rename_i hn11
        split at ha
        · cases ha
        · rename_i mf hmf
          split at ha
          · cases ha
          · rename_i as0 r0 hpop
            obtain ⟨hst, hlen⟩ := mm_pop_eq hpop
            split at ha
            · rename_i hop
              subst hop
              obtain ⟨⟨hkind, hsum, hlg⟩, ha⟩ := mm_if ha
              simp only [Option.some.injEq, Sum.inr.injEq, Prod.mk.injEq] at ha
              obtain ⟨rfl, rfl, rfl, rfl⟩ := ha
              obtain ⟨hMT, q, hok, hlink⟩ := mm_chk_spec hk (by omega) (by omega) hmf
              obtain ⟨v, rfl⟩ : ∃ v, rr = .inl v := by
                cases rr with
                | inl v => exact ⟨v, rfl⟩
                | inr E => have := hthr E rfl; cases this
              have hwas : mm_wl h.length as0 := fun w hw9 => ht w (by rw [hst]; exact List.mem_append_left _ (List.mem_reverse.mpr hw9))
              have hM := mm_met (hSn l D cy A b L xs (d - 1) mj' mf as0 h (.inl v) h1 c1 z1 ad htr hMT hd1 hlg hev hw hwas) (fun E st t ⟨_, hE, _⟩ => by cases hE)
              have hstk : st.map (mm_v b ad) = (as0.map (mm_v b ad)).reverse ++ r0.map (mm_v b ad) := by rw [hst, List.map_append, List.map_reverse]
              have hn9 : (as0.map (mm_v b ad)).length = mf.2.2.2.2.2.2.1 := by rw [List.length_map]; exact hlen
              have hR9 : (mm_room (d - 1) c1 z1).frames + 1 ≤ R.frames ∧ 8 + (mf.2.2.2.1 + 11) + (mm_room (d - 1) c1 z1).locals ≤ R.locals := by
                have := hok.2.2.2.2.2.2.2.2.2.2
                exact ⟨by show d - 1 + 1 ≤ _; omega, by show 8 + (mf.2.2.2.1 + 11) + 41 * (d - 1) ≤ _; omega⟩
              obtain ⟨o1, o2, o3, o4, o5, o6, o7, o8, o9, o10, o11⟩ := id hok
              obtain ⟨k1, k2, k3, k4, k5, k6, k7, k8⟩ := hlink
              have hcl1 : mf.2.1.cls ≠ "java/lang/invoke/MethodHandle" ∧ mf.2.1.cls ≠ "java/lang/invoke/VarHandle" ∧ (parseMethodDescriptor mf.2.1.desc).map (fun d => d.parameters.length) = some mf.2.2.2.2.2.2.1 := by rw [o6]; exact ⟨o8, o9, o10⟩
              have hini : (Cond.initialized mf.2.1.cls).before args s = true := by rw [o6]; exact hts _ o5
              have hstat : (Cond.static mf.2.1).before args s = true := hts _ (o2 (k3 (by omega)))
              have hsm : 2 * (F0 m pc lsr (st.map (mm_v b ad))).monitorRoom + ((r0.map (mm_v b ad)).map fun v => v.category).sum ≤ 8 := lv_room (by rw [mm_v_sum]; exact hsum)
              have hrun : va_Run p l e R s m args below meth c H locs cells slots c1 z1 (F0 m pc lsr (st.map (mm_v b ad))) (r0.map (mm_v b ad)) (mm_Qc D cy A b ad h (.inl v) h1 (as0.map (mm_v b ad)).toArray) A := by
                rcases (show kind = 2 ∨ kind = 3 ∨ kind = 9 from hkind) with rfl | rfl | rfl
                · exact va_runS hfix hM ⟨callB_of _ hts (mm_wsM_good hok) (by unfold mm_wsM; rw [mm_codeW_nil (k8 (by omega))]) rfl rfl hini (hts _ (k2 (by omega))) hcl1 hR9, hstat⟩ ⟨mm_blind, hpre as0⟩ rfl hn9 hl.1 hstk hsm (hdg.2.1 rfl) ⟨hc, hz⟩
                · exact va_runSN hfix hM ⟨va_cnB (host := "TreeBuilder") _ hts (mm_wsM_good hok) (by unfold mm_wsM; rw [mm_codeW_nil (k8 (by omega))]) rfl rfl (hG.2.1 _ (k1 (by omega))) hini hcl1 hR9, hstat, trivial⟩ ⟨mm_blind, hpre as0⟩ rfl hn9 hl.1 hstk hsm (hdg.2.1 rfl) ⟨hc, hz⟩
                · have hcw := mm_codeW_tab (k7 (by omega))
                  have hcin : Cond.codeWith mf.2.1 mf.2.2.1 mf.2.2.2.1 mf.2.2.2.2.1 mf.2.2.2.2.2.1 ∈ mm_wsM mf := by unfold mm_wsM; rw [hcw]; exact List.mem_cons_self
                  refine vx_runSW (hh := mf.2.2.2.2.2.1) (bytes := mf.2.2.1) (maxL := mf.2.2.2.1) (ret := mf.2.2.2.2.1) hfix hM ⟨⟨rfl, rfl, hR9.1, hR9.2, pay_in hts (mm_wsM_good hok), hcin⟩, hts _ (by rw [← hcw]; exact o1), hini, ⟨hcl1.1, hcl1.2.1⟩, fun sig h9 => ?_, hts _ (k2 (by omega)), hstat⟩ ⟨mm_blind, hpre as0⟩ rfl hn9 hl.1 hstk hsm (hdg.2.1 rfl) ⟨hc, hz⟩
                  have h2 := hcl1.2.2
                  rw [h9] at h2
                  exact (Option.some.inj h2).symm
              exact mm_back hrun hS (fun ad' H' locs' a1 a2 a3 a4 a5 a6 => K1 v rfl ad' H' locs' a1 a2 a3 a4 a5 a6)
            · rename_i hop1
              split at ha
              · rename_i a r'
                split at ha
                · rename_i cj fs hcell
                  obtain ⟨⟨hsum, hcls, hkind, hlg⟩, ha⟩ := mm_if ha
                  simp only [Option.some.injEq, Sum.inr.injEq, Prod.mk.injEq] at ha
                  obtain ⟨rfl, rfl, rfl, hth⟩ := ha
                  obtain ⟨hMT, q, hok, hlink⟩ := mm_chk_spec hk (by omega) (by omega) hmf
                  have hwas : mm_wl h.length (.ref a :: as0) := mm_wl_cons.mpr ⟨ht _ (by rw [hst]; exact List.mem_append_right _ List.mem_cons_self), fun w hw9 => ht w (by rw [hst]; exact List.mem_append_left _ (List.mem_reverse.mpr hw9))⟩
                  have hM0 := hSn l D cy A b L xs (d - 1) mj' mf (.ref a :: as0) h rr h1 c1 z1 ad htr hMT hd1 hlg hev hw hwas
                  have hstk : st.map (mm_v b ad) = (as0.map (mm_v b ad)).reverse ++ .ref (ad a) :: r'.map (mm_v b ad) := by rw [hst, List.map_append, List.map_reverse]; rfl
                  have hn9 : (as0.map (mm_v b ad)).length = mf.2.2.2.2.2.2.1 := by rw [List.length_map]; exact hlen
                  have hR9 : (mm_room (d - 1) c1 z1).frames + 1 ≤ R.frames ∧ 8 + (mf.2.2.2.1 + 11) + (mm_room (d - 1) c1 z1).locals ≤ R.locals := by
                    have := hok.2.2.2.2.2.2.2.2.2.2
                    exact ⟨by show d - 1 + 1 ≤ _; omega, by show 8 + (mf.2.2.2.1 + 11) + 41 * (d - 1) ≤ _; omega⟩
                  obtain ⟨o1, o2, o3, o4, o5, o6, o7, o8, o9, o10, o11⟩ := id hok
                  obtain ⟨k1, k2, k3, k4, k5, k6, k7, k8⟩ := hlink
                  have hcl1 : mf.2.1.cls ≠ "java/lang/invoke/MethodHandle" ∧ mf.2.1.cls ≠ "java/lang/invoke/VarHandle" ∧ (parseMethodDescriptor mf.2.1.desc).map (fun d => d.parameters.length) = some mf.2.2.2.2.2.2.1 := by rw [o6]; exact ⟨o8, o9, o10⟩
                  have hini : (Cond.initialized mf.2.1.cls).before args s = true := by rw [o6]; exact hts _ o5
                  have hq0 : q.1 = false := k4 (by omega)
                  have hinst : (Cond.instanceMethod mf.2.1).before args s = true := hts _ (o3 hq0)
                  have hsm : 2 * (F0 m pc lsr (st.map (mm_v b ad))).monitorRoom + ((r'.map (mm_v b ad)).map fun v => v.category).sum ≤ 8 := lv_room (by rw [mm_v_sum]; exact hsum)
                  have hrecv : ∃ cellB : Cell, H[ad a]? = some cellB ∧ cellB.vm.isStatics = false ∧ s.vm.findClass mf.1 = some cellB.cls := by
                    cases hcj : mm_cl[cj]? with
                    | none => rw [hcj] at hcls; cases hcls
                    | some qc =>
                      rw [hcj] at hcls
                      have e9 : qc.1 = mf.1 := Option.some.inj hcls
                      rw [← e9]
                      exact va_recv hG.1 hP hcj (mm_W_get hcell)
                  have hpV : PreV s H mf.1 (ad a) (mm_Pc D cy A b L xs ad (.ref a :: as0) h) (as0.map (mm_v b ad)) := ⟨mm_blind, hrecv, hpre (.ref a :: as0)⟩
                  have hpS : PreS s H (mm_Pc D cy A b L xs ad (.ref a :: as0) h) (.ref (ad a) :: as0.map (mm_v b ad)) := ⟨mm_blind, hpre (.ref a :: as0)⟩
                  rcases hkind with ⟨hop0, hkind⟩ | ⟨hop2, hkind⟩
                  · have hsel : (Cond.selects mf.1 mf.2.1 mf.2.1).before args s = true := hts _ (o4 hq0 (k6 (by omega)))
                    cases rr with
                    | inl v =>
                      have hM := mm_met hM0 (fun E st t ⟨_, hE, _⟩ => by cases hE)
                      have hrun : va_Run p l e R s m args below meth c H locs cells slots c1 z1 (F0 m pc lsr (st.map (mm_v b ad))) (r'.map (mm_v b ad)) (mm_Qc D cy A b ad h (.inl v) h1 (Value.ref (ad a) :: as0.map (mm_v b ad)).toArray) A := by
                        rcases (show kind = 0 ∨ kind = 1 ∨ kind = 8 from hkind) with rfl | rfl | rfl
                        · exact va_runV (C := mf.1) hfix hM ⟨callB_of _ hts (mm_wsM_good hok) (by unfold mm_wsM; rw [mm_codeW_nil (k8 (by omega))]) rfl rfl hini (hts _ (k2 (by omega))) hcl1 hR9, hinst, hsel⟩ hpV rfl hn9 hl.1 hstk hsm (hdg.1 hop0) ⟨hc, hz⟩
                        · exact va_runVN (C := mf.1) hfix hM ⟨va_cnB (host := "TreeBuilder") _ hts (mm_wsM_good hok) (by unfold mm_wsM; rw [mm_codeW_nil (k8 (by omega))]) rfl rfl (hG.2.1 _ (k1 (by omega))) hini hcl1 hR9, hinst, hsel⟩ hpV rfl hn9 hl.1 hstk hsm (hdg.1 hop0) ⟨hc, hz⟩
                        · have hcw := mm_codeW_tab (k7 (by omega))
                          have hcin : Cond.codeWith mf.2.1 mf.2.2.1 mf.2.2.2.1 mf.2.2.2.2.1 mf.2.2.2.2.2.1 ∈ mm_wsM mf := by unfold mm_wsM; rw [hcw]; exact List.mem_cons_self
                          refine vx_runVW (C := mf.1) (hh := mf.2.2.2.2.2.1) (bytes := mf.2.2.1) (maxL := mf.2.2.2.1) (ret := mf.2.2.2.2.1) hfix hM ⟨⟨rfl, rfl, hR9.1, hR9.2, pay_in hts (mm_wsM_good hok), hcin⟩, hts _ (by rw [← hcw]; exact o1), hini, ⟨hcl1.1, hcl1.2.1⟩, fun sig h9 => ?_, hts _ (k2 (by omega)), hinst, hsel⟩ hpV rfl hn9 hl.1 hstk hsm (hdg.1 hop0) ⟨hc, hz⟩
                          have h2 := hcl1.2.2
                          rw [h9] at h2
                          exact (Option.some.inj h2).symm
                      exact mm_back hrun hS (fun ad' H' locs' a1 a2 a3 a4 a5 a6 => K1 v rfl ad' H' locs' a1 a2 a3 a4 a5 a6)
                    | inr E =>
                      have hk2 : kind < 2 := by
                        have h9 := hthr E rfl
                        rw [← hth] at h9
                        exact of_decide_eq_true h9
                      have hrun : vx_Run p l e R s m args below meth c H locs cells slots c1 z1 (F0 m pc lsr (st.map (mm_v b ad))) (r'.map (mm_v b ad)) (mm_Qc D cy A b ad h (.inr E) h1 (Value.ref (ad a) :: as0.map (mm_v b ad)).toArray) (mm_XC D cy A b ad h (.inr E) h1) A := by
                        rcases (show kind = 0 ∨ kind = 1 by omega) with rfl | rfl
                        · exact vx_runV (C := mf.1) hfix hM0 ⟨callB_of _ hts (mm_wsM_good hok) (by unfold mm_wsM; rw [mm_codeW_nil (k8 (by omega))]) rfl rfl hini (hts _ (k2 (by omega))) hcl1 hR9, hinst, hsel⟩ hpV rfl hn9 hl.1 hstk hsm (hdg.1 hop0) ⟨hc, hz⟩
                        · exact mm_runVN (C := mf.1) hfix hM0 ⟨va_cnB (host := "TreeBuilder") _ hts (mm_wsM_good hok) (by unfold mm_wsM; rw [mm_codeW_nil (k8 (by omega))]) rfl rfl (hG.2.1 _ (k1 (by omega))) hini hcl1 hR9, hinst, hsel⟩ hpV rfl hn9 hl.1 hstk hsm (hdg.1 hop0) ⟨hc, hz⟩
                      exact mm_backX hrun hS (fun ad' H' locs' q ce a1 a2 a3 a4 a5 a6 a7 a8 => K2 E rfl ad' H' locs' q ce a1 a2 a3 a4 a5 a6 a7 a8)
                  · obtain ⟨v, rfl⟩ : ∃ v, rr = .inl v := by
                      cases rr with
                      | inl v => exact ⟨v, rfl⟩
                      | inr E =>
                        have h9 := hthr E rfl
                        rw [← hth] at h9
                        have := of_decide_eq_true h9
                        omega
                    have hM := mm_met hM0 (fun E st t ⟨_, hE, _⟩ => by cases hE)
                    obtain ⟨hinit, hrn⟩ := k5 (by omega)
                    have hcn : mm_wsM mf = Cond.code mf.2.1 mf.2.2.1 mf.2.2.2.1 none :: mm_gw := by unfold mm_wsM; rw [mm_codeW_nil (k8 (by omega)), hrn]
                    have hrun : va_Run p l e R s m args below meth c H locs cells slots c1 z1 (F0 m pc lsr (st.map (mm_v b ad))) (r'.map (mm_v b ad)) (mm_Qc D cy A b ad h (.inl v) h1 (Value.ref (ad a) :: as0.map (mm_v b ad)).toArray) A := by
                      rcases (show kind = 4 ∨ kind = 5 from hkind) with rfl | rfl
                      · exact va_runI hfix hM ⟨callB_of _ hts (mm_wsM_good hok) hcn rfl rfl hini (hts _ (k2 (by omega))) hcl1 hR9, hinit, hinst⟩ hpS rfl hn9 hl.1 hstk hsm (hdg.2.2 hop2) ⟨hc, hz⟩
                      · exact va_runIN hfix hM ⟨va_cnB (host := "TreeBuilder") _ hts (mm_wsM_good hok) hcn rfl rfl (hG.2.1 _ (k1 (by omega))) hini hcl1 hR9, hinit, hinst⟩ hpS rfl hn9 hl.1 hstk hsm (hdg.2.2 hop2) ⟨hc, hz⟩
                    exact mm_back hrun hS (fun ad' H' locs' a1 a2 a3 a4 a5 a6 => K1 v rfl ad' H' locs' a1 a2 a3 a4 a5 a6)
                · cases ha
              · cases ha
  · cases ha
end MMI
