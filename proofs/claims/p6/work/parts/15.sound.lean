theorem mm_X_E {own o E : String} {ix i ps : Nat} (h : mm_X own ix = some (o, i, E, ps)) : E = mm_ISE ∨ E = mm_NSE := by
  have hall : mm_XT.all (fun e => decide (e.2.2.1 = mm_ISE) || decide (e.2.2.1 = mm_NSE)) = true := by decide +kernel
  have h2 := (mm_find hall h).2
  simpa using h2
theorem mm_lv_tail {lsr : Array Slot} {nL : Nat} {q : Nat × Value} {l : mm_L} (h : lv_has lsr nL (q :: l)) : lv_has lsr nL l := ⟨h.1, h.2.1, fun x hx => h.2.2 x (List.mem_cons_of_mem _ hx)⟩
section MMK
variable {p : Program} {l : Launch} {e : Env} {R : Room} {s : State} {m : MethodId} {args : Array Value} {below : List Frame} {meth : Method} {c : Code} {Q : State → Prop}
variable {D : va_G} {cy : Nat → ClassId} {A : Nat → Prop} {b L : Nat} {xs : Nat → Int32} {me : mm_Me}
/-- the exception that came out of a call is caught here -/
theorem mm_caught {H : Heap} {locs : List Loc} {cells slots pc pc' k : Nat} {ad : Nat → Nat} {ls : mm_L} {lsr : Array Slot} {rest : List Value} {q : Addr} {ce : Cell} {E : String} (C : mm_Cx D cy A b L xs p l s m args meth c me) (hl : lv_has lsr me.2.2.2.1 (mm_ml b ad ls)) (hh : mm_hnd me pc E = some (pc', k))
    (hcell : H[q]? = some ce) (hv : ce.vm = .none) (hcl : s.vm.findClass E = some ce.cls)
    (K : ∀ lsr' : Array Slot, lv_has lsr' me.2.2.2.1 (mm_ml b ad (mm_un ls k)) → W p l e R s m args below meth c H locs cells slots Q (F0 m pc' lsr' [])) :
    vx_W p l e R s m args below meth c H locs cells slots Q (F0 m pc lsr rest) q := by
  obtain ⟨hx, hb, hml, hown, hts, hr, hlk, hnm, htb, hA, hG, htr⟩ := C
  unfold mm_hnd at hh
  split at hh
  · rename_i fr to tg ci htab
    have hh1 := mm_if hh; clear hh; obtain ⟨hcov, hh⟩ := hh1
    split at hh
    · rename_i o i E' ps hX
      have hh2 := mm_if hh; clear hh; obtain ⟨rfl, hh⟩ := hh2
      obtain ⟨x1, x2⟩ := mm_X_spec hX
      have htb2 : c.exceptionTable.toList = [] ++ (⟨fr, to, tg, ci⟩ : ExceptionTableEntry) :: [] := by rw [htb (by rw [htab]; exact List.cons_ne_nil _ _), htab]; rfl
      have hcast : (Cond.castable E' E').before args s = true := by
        rcases mm_X_E hX with rfl | rfl
        · exact va_Nw.use rfl (hG.2.1 _ (mm_at_nest mm_cast_ISE rfl))
        · exact va_Nw.use rfl (hG.2.1 _ (mm_at_nest mm_cast_NSE rfl))
      have hcv : covers (⟨fr, to, tg, ci⟩ : ExceptionTableEntry) pc = true := by simp [covers, hcov]
      refine vx_catch hown [] ⟨fr, to, tg, ci⟩ [] htb2 (fun z hz => by cases hz) hcv x2 (hts _ x1) hcast hcell hv hcl ?_
      split at hh
      · rename_i k9 hdg
        obtain ⟨hk, hh⟩ := mm_if hh
        simp only [Option.some.injEq, Prod.mk.injEq] at hh
        obtain ⟨rfl, rfl⟩ := hh
        exact lv_astore_n hx hb hdg rfl hl hk rfl (fun lsr' hl' => K lsr' (by rw [← mm_un_map]; exact mm_lv_tail hl'))
      · rename_i k9 hdg
        obtain ⟨hk, hh⟩ := mm_if hh
        simp only [Option.some.injEq, Prod.mk.injEq] at hh
        obtain ⟨rfl, rfl⟩ := hh
        exact lv_astore hx hb hdg hl hk rfl (fun lsr' hl' => K lsr' (by rw [← mm_un_map]; exact mm_lv_tail hl'))
      · cases hh
    · cases hh
  · cases hh
end MMK
/-- from any point of a method: what the small machine answers is what the walk comes to -/
def mm_Step (n : Nat) : Prop := ∀ (p : Program) (l : Launch) (e : Env) (R : Room) (s : State) (m : MethodId) (args : Array Value) (below : List Frame) (meth : Method) (c : Code) (Q : State → Prop) (D : va_G) (cy : Nat → ClassId) (A : Nat → Prop) (b L : Nat) (xs : Nat → Int32) (me : mm_Me)
  (d mi pc : Nat) (ls : mm_L) (st : List Value) (h : mm_H) (cells slots : Nat) (r : Option Value ⊕ String) (h' : mm_H) (c' z' : Nat) (ad : Nat → Nat) (H : Heap) (locs : List Loc) (lsr : Array Slot),
  mm_all[mi]? = some me → mm_ev xs L n d mi pc ls st h cells slots = some (r, h', c', z') → mm_Cx D cy A b L xs p l s m args meth c me → mm_Rp D cy A b s.heap me.2.2.2.1 ad h ls st H locs lsr →
  1 ≤ d → d ≤ R.frames → 41 * d ≤ R.locals → c' ≤ R.cells → z' ≤ R.slots →
  (∀ (v : Option Value) (pc' : Nat) (ad' : Nat → Nat) (H' : Heap) (locs' : List Loc) (lsr' : Array Slot), r = .inl v → mm_ag h.length ad ad' → va_P D mm_cl (mm_W cy b ad' h') H' → va_D A (mm_W cy b ad' h') → va_S A s.heap H' locs' → mm_wh h' → mm_Ret me v pc' → W p l e R s m args below meth c H' locs' c' z' Q (F0 m pc' lsr' v.toList)) →
  (∀ (E : String) (pc' : Nat) (ad' : Nat → Nat) (H' : Heap) (locs' : List Loc) (lsr' : Array Slot) (rest : List Value) (q : Addr) (ce : Cell), r = .inr E → me.2.2.2.2.2.1 = [] → mm_ag h.length ad ad' → va_P D mm_cl (mm_W cy b ad' h') H' → va_D A (mm_W cy b ad' h') → va_S A s.heap H' locs' → mm_wh h' → H'[q]? = some ce → ce.vm = .none → s.vm.findClass E = some ce.cls → vx_W p l e R s m args below meth c H' locs' c' z' Q (F0 m pc' lsr' rest) q) →
  (∀ (E : String) (pc' : Nat) (ad' : Nat → Nat) (H' : Heap) (locs' : List Loc) (lsr' : Array Slot) (ls' : mm_L) (st' : List Value) (c0 z0 : Nat), r = .inr E → c' = c0 + 1 → z' = z0 + 6 → 8 ≤ d → mm_ag h.length ad ad' → mm_Rp D cy A b s.heap me.2.2.2.1 ad' h' ls' st' H' locs' lsr' → mm_Thr me E pc' st' → W p l e R s m args below meth c H' locs' c0 z0 Q (F0 m pc' lsr' (st'.map (mm_v b ad')))) →
  W p l e R s m args below meth c H locs cells slots Q (F0 m pc lsr (st.map (mm_v b ad)))
theorem mm_ag.tr {n n' : Nat} {ad ad' ad'' : Nat → Nat} (h1 : mm_ag n ad ad') (h2 : mm_ag n' ad' ad'') (hn : n ≤ n') : mm_ag n ad ad'' := fun k hk => (h2 k (Nat.lt_of_lt_of_le hk hn)).trans (h1 k hk)
set_option maxHeartbeats 2000000 in
theorem mm_step_succ {n : Nat} (ih : mm_Step n) (hSn : mm_Sound n) : mm_Step (n + 1) := by
  intro p l e R s m args below meth c Q D cy A b L xs me d mi pc ls st h cells slots r h' c' z' ad H locs lsr hmi hev C Rp hd hfr hlo hc hz KR KX KT
  have hle := mm_ev_le _ _ _ _ _ _ _ _ _ _ _ _ _ hev
  unfold mm_ev at hev
  rw [hmi] at hev
  dsimp only at hev
  split at hev
  · cases hev
  · rename_i i len hdg
    split at hev
    · cases hev
    · rename_i pc1 ls1 st1 h1 c1 z1 hact
      have hl1 := mm_act_le hact
      have hl2 := mm_ev_le _ _ _ _ _ _ _ _ _ _ _ _ _ hev
      refine mm_act_ok C Rp hdg hact (Nat.le_trans hl2.2.1 hc) (Nat.le_trans hl2.2.2 hz) (by omega) (by omega) (fun ad1 H1 locs1 lsr1 hag Rp1 => ?_)
      exact ih p l e R s m args below meth c Q D cy A b L xs me d mi pc1 ls1 st1 h1 c1 z1 r h' c' z' ad1 H1 locs1 lsr1 hmi hev C Rp1 hd hfr hlo hc hz
        (fun v pc' ad' H' locs' lsr' a1 a2 a3 a4 a5 a6 a7 => KR v pc' ad' H' locs' lsr' a1 (hag.tr a2 hl1.1) a3 a4 a5 a6 a7)
        (fun E pc' ad' H' locs' lsr' rest q ce a1 a2 a3 a4 a5 a6 a7 a8 a9 a10 => KX E pc' ad' H' locs' lsr' rest q ce a1 a2 (hag.tr a3 hl1.1) a4 a5 a6 a7 a8 a9 a10)
        (fun E pc' ad' H' locs' lsr' ls' st' c0 z0 a1 a2 a3 a4 a5 a6 a7 => KT E pc' ad' H' locs' lsr' ls' st' c0 z0 a1 a2 a3 a4 (hag.tr a5 hl1.1) a6 a7)
    · rename_i v hact
      simp only [Option.some.injEq, Prod.mk.injEq] at hev
      obtain ⟨rfl, rfl, rfl, rfl⟩ := hev
      rcases mm_act_x hdg hact with ⟨v', hv', hst, hret⟩ | ⟨E, hE, -⟩ | ⟨op, ix, hcall, -⟩
      · cases hv'
        subst hst
        obtain ⟨hP, hD, hS, hl, hw, hq, ht⟩ := Rp
        have k := KR v pc ad H locs lsr rfl mm_ag.rf hP hD hS hw hret
        rcases hret with ⟨rfl, -, -⟩ | ⟨y, ty, rfl, -, -, -, -⟩
        · exact k
        · exact k
      · cases hE
      · obtain ⟨q, hq⟩ := mm_call_x hcall
        cases hq
    · rename_i E hact
      split at hev
      · cases hev
      · rename_i hd8
        simp only [Option.some.injEq, Prod.mk.injEq] at hev
        obtain ⟨rfl, rfl, rfl, rfl⟩ := hev
        rcases mm_act_x hdg hact with ⟨v', hv', -⟩ | ⟨E', hE, hthr⟩ | ⟨op, ix, hcall, -⟩
        · cases hv'
        · cases hE
          exact KT E pc ad H locs lsr ls st cells slots rfl rfl rfl (by omega) mm_ag.rf Rp hthr
        · obtain ⟨q, hq⟩ := mm_call_x hcall
          cases hq
    · rename_i mj as r0 thr hact
      split at hev
      · cases hev
      · rename_i hd2
        rcases mm_act_x hdg hact with ⟨v', hv', -⟩ | ⟨E', hE, -⟩ | ⟨op, ix, hcall, hd0, hd1, hd2'⟩
        · cases hv'
        · cases hE
        · obtain ⟨hP, hD, hS, hl, hw, hq, ht⟩ := id Rp
          split at hev
          · cases hev
          · rename_i v h1 c1 z1 hcev
            have hl1 := mm_ev_le _ _ _ _ _ _ _ _ _ _ _ _ _ hcev
            have hl2 := mm_ev_le _ _ _ _ _ _ _ _ _ _ _ _ _ hev
            have hwr : mm_wl h.length r0 := by
              intro w hw9
              refine ht w ?_
              unfold mm_call at hcall
              split at hcall
              · split at hcall
                · split at hcall
                  · exact (mm_no_go (mm_if hcall).2).elim
                  · cases hcall
                · split at hcall
                  · split at hcall
                    · exact (mm_no_go (mm_if hcall).2).elim
                    · cases hcall
                  · split at hcall
                    · cases hcall
                    · split at hcall
                      · cases hcall
                      · rename_i as9 r9 hpop
                        obtain ⟨hst9, -⟩ := mm_pop_eq hpop
                        rw [hst9]
                        split at hcall
                        · have h9 := (mm_if hcall).2
                          simp only [Option.some.injEq, Sum.inr.injEq, Prod.mk.injEq] at h9
                          obtain ⟨-, -, rfl, -⟩ := h9
                          exact List.mem_append_right _ hw9
                        · split at hcall
                          · split at hcall
                            · have h9 := (mm_if hcall).2
                              simp only [Option.some.injEq, Sum.inr.injEq, Prod.mk.injEq] at h9
                              obtain ⟨-, -, rfl, -⟩ := h9
                              exact List.mem_append_right _ (List.mem_cons_of_mem _ hw9)
                            · cases hcall
                          · cases hcall
              · cases hcall
            refine mm_call_go hSn C Rp (by omega) hfr hlo ⟨hd0, hd1, hd2'⟩ hcall hcev (Nat.le_trans hl2.2.1 hc) (Nat.le_trans hl2.2.2 hz) (fun E hE => by cases hE) (fun v2 hv2 ad1 H1 locs1 hag hP1 hD1 hw1 hS1 hint => ?_) (fun E hE => by cases hE)
            cases hv2
            have hvm : (v.map (mm_v b ad1)).toList ++ r0.map (mm_v b ad) = (v.toList ++ r0).map (mm_v b ad1) := by
              rw [List.map_append, mm_map_ag hag hwr]
              cases v <;> rfl
            rw [hvm]
            have hwst : mm_wl h1.length (v.toList ++ r0) := by
              intro w hw9
              rcases List.mem_append.mp hw9 with h9 | h9
              · cases v with
                | none => cases h9
                | some w9 =>
                  obtain ⟨x, hx⟩ := hint w9 rfl
                  rw [List.mem_singleton.mp h9, hx]
                  exact mm_wv_int
              · exact (hwr w h9).mono hl1.1
            exact ih p l e R s m args below meth c Q D cy A b L xs me d mi (pc + 3) ls (v.toList ++ r0) h1 (cells + c1) (slots + z1) r h' c' z' ad1 H1 locs1 lsr hmi hev C ⟨hP1, hD1, hS1, by rw [mm_ml_ag hag hq]; exact hl, hw1, hq.mono hl1.1, hwst⟩ hd hfr hlo hc hz
              (fun v pc' ad' H' locs' lsr' a1 a2 a3 a4 a5 a6 a7 => KR v pc' ad' H' locs' lsr' a1 (hag.tr a2 hl1.1) a3 a4 a5 a6 a7)
              (fun E pc' ad' H' locs' lsr' rest q ce a1 a2 a3 a4 a5 a6 a7 a8 a9 a10 => KX E pc' ad' H' locs' lsr' rest q ce a1 a2 (hag.tr a3 hl1.1) a4 a5 a6 a7 a8 a9 a10)
              (fun E pc' ad' H' locs' lsr' ls' st' c0 z0 a1 a2 a3 a4 a5 a6 a7 => KT E pc' ad' H' locs' lsr' ls' st' c0 z0 a1 a2 a3 a4 (hag.tr a5 hl1.1) a6 a7)
          · rename_i E h1 c1 z1 hcev
            have hl1 := mm_ev_le _ _ _ _ _ _ _ _ _ _ _ _ _ hcev
            split at hev
            · cases hev
            · rename_i hthr
              have hthr2 : thr = true := by
                cases thr
                · exact absurd rfl hthr
                · rfl
              split at hev
              · rename_i htab
                simp only [Option.some.injEq, Prod.mk.injEq] at hev
                obtain ⟨rfl, rfl, rfl, rfl⟩ := hev
                exact mm_call_go hSn C Rp (by omega) hfr hlo ⟨hd0, hd1, hd2'⟩ hcall hcev hc hz (fun _ _ => hthr2) (fun v2 hv2 => by cases hv2)
                  (fun E2 hE2 ad1 H1 locs1 q ce hag hP1 hD1 hw1 hS1 g1 g2 g3 => by
                    cases hE2
                    exact KX E pc ad1 H1 locs1 lsr _ q ce rfl htab hag hP1 hD1 hS1 hw1 g1 g2 g3)
              · split at hev
                · cases hev
                · rename_i pc1 k hh
                  have hl2 := mm_ev_le _ _ _ _ _ _ _ _ _ _ _ _ _ hev
                  refine mm_call_go hSn C Rp (by omega) hfr hlo ⟨hd0, hd1, hd2'⟩ hcall hcev (Nat.le_trans hl2.2.1 hc) (Nat.le_trans hl2.2.2 hz) (fun _ _ => hthr2) (fun v2 hv2 => by cases hv2) (fun E2 hE2 ad1 H1 locs1 q ce hag hP1 hD1 hw1 hS1 g1 g2 g3 => ?_)
                  cases hE2
                  refine mm_caught C (ad := ad1) (by rw [mm_ml_ag hag hq]; exact hl) hh g1 g2 g3 (fun lsr1 hl9 => ?_)
                  exact ih p l e R s m args below meth c Q D cy A b L xs me d mi pc1 (mm_un ls k) [] h1 (cells + c1) (slots + z1) r h' c' z' ad1 H1 locs1 lsr1 hmi hev C ⟨hP1, hD1, hS1, hl9, hw1, (mm_un_w hq).mono hl1.1, fun w hw9 => by cases hw9⟩ hd hfr hlo hc hz
                    (fun v pc' ad' H' locs' lsr' a1 a2 a3 a4 a5 a6 a7 => KR v pc' ad' H' locs' lsr' a1 (hag.tr a2 hl1.1) a3 a4 a5 a6 a7)
                    (fun E pc' ad' H' locs' lsr' rest q ce a1 a2 a3 a4 a5 a6 a7 a8 a9 a10 => KX E pc' ad' H' locs' lsr' rest q ce a1 a2 (hag.tr a3 hl1.1) a4 a5 a6 a7 a8 a9 a10)
                    (fun E pc' ad' H' locs' lsr' ls' st' c0 z0 a1 a2 a3 a4 a5 a6 a7 => KT E pc' ad' H' locs' lsr' ls' st' c0 z0 a1 a2 a3 a4 (hag.tr a5 hl1.1) a6 a7)
theorem mm_step_zero : mm_Step 0 := by
  intro p l e R s m args below meth c Q D cy A b L xs me d mi pc ls st h cells slots r h' c' z' ad H locs lsr hmi hev
  cases hev
theorem mm_args_map {b : Nat} {ad : Nat → Nat} : ∀ (as : List Value) (i : Nat), lv_args i (as.map (mm_v b ad)) = mm_ml b ad (lv_args i as) := by
  intro as
  induction as with
  | nil => intro i; rfl
  | cons v r ih =>
    intro i
    show (i, mm_v b ad v) :: lv_args (if (mm_v b ad v).category = 2 then i + 2 else i + 1) (r.map (mm_v b ad)) = (i, mm_v b ad v) :: mm_ml b ad (lv_args (if v.category = 2 then i + 2 else i + 1) r)
    rw [mm_v_cat, ih]
theorem mm_args_w {n : Nat} : ∀ (as : List Value) (i : Nat), mm_wl n as → mm_wq n (lv_args i as) := by
  intro as
  induction as with
  | nil => intro i _ q hq; cases hq
  | cons v r ih =>
    intro i hw q hq
    obtain ⟨h1, h2⟩ := mm_wl_cons.mp hw
    rcases List.mem_cons.mp hq with rfl | hq
    · exact h1
    · exact ih _ h2 q hq
theorem mm_sl_len {b : Nat} {ad : Nat → Nat} : ∀ (as : List Value), (lg_sl (as.map (mm_v b ad))).length = (lg_sl as).length := by
  intro as
  induction as with
  | nil => rfl
  | cons v r ih =>
    unfold lg_sl at ih ⊢
    rw [List.map_cons, List.flatMap_cons, List.flatMap_cons, List.length_append, List.length_append, ih, mm_v_cat]
    congr 1
    split <;> rfl
set_option maxHeartbeats 2000000 in
theorem mm_sound_of {n : Nat} (ih : mm_Step n) : mm_Sound n := by
  intro l D cy A b L xs d mi me as h r h' c' z' ad htr hmi hd hlg hev hw hwas
  obtain ⟨q0, -, hok⟩ := mm_M_spec hmi
  obtain ⟨o1, o2, o3, o4, o5, o6, o7, o8, o9, o10, o11⟩ := hok
  have hmiA : mm_all[mi]? = some me := by
    unfold mm_all
    rw [List.getElem?_append_left (List.getElem?_eq_some_iff.mp hmi).1]
    exact hmi
  have main : ∀ (p : Program) (e : Env) (s : State) (m : MethodId) (args : Array Value) (below : List Frame) (meth : Method) (c : Code) (s₁ : State), BodyLoose p l me.2.1 (headSpec (mm_wsM me) (mm_room d c' z')) me.2.2.1 me.2.2.2.1 me.2.2.2.2.1 e s m args below meth c s₁ → c.maxLocals = me.2.2.2.1 →
      (me.2.2.2.2.2.1 = [] → ∀ x ∈ c.exceptionTable.toList, False) → (me.2.2.2.2.2.1 ≠ [] → c.exceptionTable.toList = tableOf me.2.2.2.2.2.1) → mm_Pc D cy A b L xs ad as h args s →
      W p l e (headSpec (mm_wsM me) (mm_room d c' z')).room s m args below meth c s.heap [] 0 0 (vx_MQ below (mm_Qc D cy A b ad h r h') (mm_XC D cy A b ad h r h') args s c' z' A) (entryFrame m args me.2.2.2.1) := by
    intro p e s m args below meth c s₁ B hml hno htb hv
    obtain ⟨rfl, hP, hD, hG, hA⟩ := hv
    have hts0 := atoms_spec (ws := mm_wsM me) B.pre
    have hts : ∀ w ∈ mm_gw, w.before (as.map (mm_v b ad)).toArray s = true := fun w hw9 => hts0 w (List.mem_cons_of_mem _ hw9)
    have hown : s.vm.findClass me.1 = some m.cls := by rw [← o6]; exact findClass_of_methodNamed B.named
    have C : mm_Cx D cy A b L xs p l s m (as.map (mm_v b ad)).toArray meth c me := ⟨B.exec, B.bytes, hml, hown, hts, B.returns, B.notSynchronized, fun h9 => by rw [← h9]; exact (name_of_methodNamed B.named B.method).1, htb, hA, hG, htr⟩
    have hl := lv_entry (as.map (mm_v b ad)) (n := me.2.2.2.1) (by rw [mm_sl_len]; exact hlg)
    rw [lg_entry_eq]
    rw [mm_args_map] at hl
    generalize (lg_sl (as.map (mm_v b ad)) ++ List.replicate (me.2.2.2.1 - (lg_sl (as.map (mm_v b ad))).length) Slot.unset).toArray = lsr at hl ⊢
    have Rp : mm_Rp D cy A b s.heap me.2.2.2.1 ad h (lv_args 0 as) [] s.heap [] lsr := ⟨hP, hD, va_S.rf, hl, hw, mm_args_w as 0 hwas, fun v hv9 => by cases hv9⟩
    refine ih p l e (mm_room d c' z') s m (as.map (mm_v b ad)).toArray below meth c _ D cy A b L xs me d mi 0 (lv_args 0 as) [] h 0 0 r h' c' z' ad s.heap [] lsr hmiA hev C Rp hd (Nat.le_refl _) (Nat.le_refl _) (Nat.le_refl _) (Nat.le_refl _) ?_ ?_ ?_
    · intro v pc' ad' H' locs' lsr' hr hag hP1 hD1 hS1 hw1 hret
      have hfin : ∀ t : State, t.heap = H' → ∀ v' : Option Value, v' = v.map (mm_v b ad') → (∀ w9, v = some w9 → ∃ x9, w9 = .int x9) → mm_Qc D cy A b ad h r h' (as.map (mm_v b ad)).toArray s (.returned v') t := fun t ht v' hv' hint => ⟨v, ad', hr, by rw [hv'], hint, hag, by rw [ht]; exact hP1, hD1, hw1, hS1.F ht⟩
      rcases hret with ⟨rfl, hrt, hdg⟩ | ⟨y, ty, rfl, hrt, hty, hnar, hdg⟩
      · exact vx_ret (W.vret B.exec B.bytes (B.returns.trans hrt) (fun t ht hW => hfin t ht none rfl (fun w9 h9 => by cases h9)) hS1.2.2 hdg B.notSynchronized)
      · exact vx_ret (W.zret B.exec B.bytes (B.returns.trans hrt) hnar (fun t ht hW => hfin t ht (some (.int y)) rfl (fun w9 h9 => by cases h9; exact ⟨y, rfl⟩)) hS1.2.2 hdg B.notSynchronized)
    · intro E pc' ad' H' locs' lsr' rest q ce hr hnil hag hP1 hD1 hS1 hw1 g1 g2 g3
      exact vx_out (fun x hx => (hno hnil x hx).elim) B.notSynchronized g1 g2 g3 (fun t ht _ => ⟨ad', hr, hag, by rw [ht]; exact hP1, hD1, hw1, hS1.F ht⟩) hS1.2.2 (Nat.le_refl _) (Nat.le_refl _)
    · intro E pc' ad' H' locs' lsr' ls' st' c0 z0 hr hc0 hz0 hd8 hag Rp1 hthr
      obtain ⟨t1, t2, ix, si, ic, t3, t4, t5, t6, t7, t8⟩ := hthr
      subst hr; subst hc0; subst hz0
      exact mm_throw1 C Rp1 hag (hno t1) (by show 8 ≤ d; exact hd8) (by show 328 ≤ 41 * d; omega) (Nat.le_refl _) (Nat.le_refl _) t2 t3 t4 t5 t6 t7 t8
  by_cases htab : me.2.2.2.2.2.1 = []
  · refine vx_ofW (cc := me.2.2.1) (maxL := me.2.2.2.1) (ret := me.2.2.2.2.1) (by rw [o6]; exact o7) (by unfold mm_wsM; rw [mm_codeW_nil htab]) ?_
    intro p e s m args below meth c s₁ B hml hno hv
    exact main p e s m args below meth c s₁ B hml (fun _ => hno) (fun h9 => absurd htab h9) hv
  · refine vx_ofWH (cc := me.2.2.1) (maxL := me.2.2.2.1) (ret := me.2.2.2.2.1) (hh := me.2.2.2.2.2.1) (by rw [o6]; exact o7) (by unfold mm_wsM; rw [mm_codeW_tab htab]) ?_
    intro p e s m args below meth c s₁ B hml hv
    have hts0 := atoms_spec (ws := mm_wsM me) B.pre
    have hcw : (Cond.codeWith me.2.1 me.2.2.1 me.2.2.2.1 me.2.2.2.2.1 me.2.2.2.2.2.1).before args s = true := by
      rw [← mm_codeW_tab htab]
      exact hts0 _ List.mem_cons_self
    exact main p e s m args below meth c s₁ B hml (fun h9 => absurd h9 htab) (fun _ => vx_table (x := me.2.1) B hcw) hv
theorem mm_steps : ∀ n, mm_Step n := by
  intro n
  induction n with
  | zero => exact mm_step_zero
  | succ n ih => exact mm_step_succ ih (mm_sound_of ih)
