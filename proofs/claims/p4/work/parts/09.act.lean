/-! Every instruction that stays in the method. -/
section MMA
variable {p : Program} {l : Launch} {e : Env} {R : Room} {s : State} {m : MethodId} {args : Array Value} {below : List Frame} {meth : Method} {c : Code} {H : Heap} {locs : List Loc} {cells slots : Nat} {Q : State → Prop}
variable {D : va_G} {cy : Nat → ClassId} {A : Nat → Prop} {b L : Nat} {xs : Nat → Int32} {me : mm_Me} {ad : Nat → Nat} {h h' : mm_H} {ls ls' : mm_L} {st st' : List Value} {lsr : Array Slot} {pc pc' len c' z' ix : Nat}
theorem mm_if {P : Prop} {inst : Decidable P} {α : Type} {x : Option α} {y : α} (h : (if P then x else none) = some y) : P ∧ x = some y := by
  split at h
  · rename_i hp; exact ⟨hp, h⟩
  · cases h
theorem mm_C_spec {own o : String} {ix i kind mj ps : Nat} (h : mm_C own ix = some (o, i, kind, mj, ps)) : o = own ∧ i = ix ∧ mm_chkC (own, ix, kind, mj, ps) = true := by
  obtain ⟨h1, h2⟩ := mm_find mm_chkC_all h
  simp only [Bool.and_eq_true, beq_iff_eq] at h1
  obtain ⟨rfl, rfl⟩ := h1
  exact ⟨rfl, rfl, h2⟩
theorem mm_call_obj (C : mm_Cx D cy A b L xs p l s m args meth c me) (Rp : mm_Rp D cy A b s.heap me.2.2.2.1 ad h ls st H locs lsr) {op : Nat} (hdg : (op = 2 → decode me.2.2.1 pc = .ok (.invokespecial ix, 3)) ∧ (op = 1 → decode me.2.2.1 pc = .ok (.invokestatic ix, 3))) (ha : mm_call me op ix pc ls st h cells slots = some (.inl (pc', ls', st', h', c', z')))
    (hc : c' ≤ R.cells) (hz : z' ≤ R.slots) (hf : 1 ≤ R.frames) (hlo : 21 ≤ R.locals)
    (K : mm_K p l e R s m args below meth c Q D cy A b me.2.2.2.1 h.length ad pc' ls' st' h' c' z') : W p l e R s m args below meth c H locs cells slots Q (F0 m pc lsr (st.map (mm_v b ad))) := by
  obtain ⟨hx, hb, hml, hown, hts, hr, hlk, hnm, htb, hA, hG, htr⟩ := C
  obtain ⟨hP, hD, hS, hl, hw, hq, ht⟩ := Rp
  unfold mm_call at ha
  split at ha
  · rename_i o i kind mj ps hC
    obtain ⟨rfl, rfl, hk⟩ := mm_C_spec hC
    split at ha
    · rename_i hk1
      obtain ⟨rfl, rfl⟩ := hk1
      split at ha
      · rename_i a r
        obtain ⟨hs8, ha⟩ := mm_if ha
        obtain ⟨rfl, rfl, rfl, rfl, rfl, rfl⟩ := mm_go_eq ha
        obtain ⟨-, ht⟩ := mm_wl_cons.mp ht
        unfold mm_chkC at hk
        rw [if_pos rfl] at hk
        refine W.objInit hx hb hown (hts _ (mm_at_gw hk rfl)) (hts _ (mm_at_gw mm_objI rfl)) (hts _ (mm_at_gw mm_objC rfl)) rfl (by rw [hml]; exact hl.1) rfl (hdg.1 rfl) hf ?_ ?_
        · show 2 * 0 + ((r.map (mm_v b ad)).map fun v => v.category).sum + 12 ≤ R.locals
          rw [mm_v_sum]
          omega
        · exact K ad H locs lsr mm_ag.rf ⟨hP, hD, hS, hl, hw, hq, ht⟩
      · cases ha
    · split at ha
      · rename_i hk1
        obtain ⟨rfl, rfl⟩ := hk1
        split at ha
        · rename_i y w r
          obtain ⟨hs8, ha⟩ := mm_if ha
          obtain ⟨rfl, rfl, rfl, rfl, rfl, rfl⟩ := mm_go_eq ha
          obtain ⟨-, ht⟩ := mm_wl_cons.mp ht
          obtain ⟨-, ht⟩ := mm_wl_cons.mp ht
          unfold mm_chkC at hk
          rw [if_neg (show ¬ (11 = 10) by decide), if_pos rfl] at hk
          refine va_mmax hx hb (by rw [hml]; exact hl.1.symm) hown (hts _ (mm_at_gw hk rfl)) (hts _ (mm_at_gw mm_maxS rfl)) (hts _ (mm_at_gw mm_maxI rfl)) (hts _ (mm_at_gw mm_maxC rfl)) hf ?_ hc hz (hdg.2 rfl) ?_
          · rw [mm_v_sum]
            omega
          · exact K ad H locs lsr mm_ag.rf ⟨hP, hD, hS, hl, hw, hq, mm_wl_cons.mpr ⟨mm_wv_int, ht⟩⟩
        · cases ha
      · split at ha
        · cases ha
        · split at ha
          · cases ha
          · split at ha
            · obtain ⟨-, ha⟩ := mm_if ha
              cases ha
            · split at ha
              · split at ha
                · obtain ⟨-, ha⟩ := mm_if ha
                  cases ha
                · cases ha
              · cases ha
  · cases ha
set_option maxHeartbeats 4000000 in
set_option maxRecDepth 100000 in
theorem mm_act_ok {i : Instr} (C : mm_Cx D cy A b L xs p l s m args meth c me) (Rp : mm_Rp D cy A b s.heap me.2.2.2.1 ad h ls st H locs lsr) (hdg : decode me.2.2.1 pc = .ok (i, len)) (ha : mm_act me xs L i len pc ls st h cells slots = some (.inl (pc', ls', st', h', c', z')))
    (hc : c' ≤ R.cells) (hz : z' ≤ R.slots) (hf : 1 ≤ R.frames) (hlo : 21 ≤ R.locals)
    (K : mm_K p l e R s m args below meth c Q D cy A b me.2.2.2.1 h.length ad pc' ls' st' h' c' z') : W p l e R s m args below meth c H locs cells slots Q (F0 m pc lsr (st.map (mm_v b ad))) := by
  have C0 := C
  have Rp0 := Rp
  obtain ⟨hx, hb, hml, hown, hts, hr, hlk, hnm, htb, hA, hG, htr⟩ := C
  obtain ⟨hP, hD, hS, hl, hw, hq, ht⟩ := Rp
  cases i with
  | aload_n k =>
    have hh := mm_if ha; clear ha; obtain ⟨rfl, ha⟩ := hh
    exact mm_load_ok (Or.inr (Or.inr rfl)) Rp0 ha (fun q => by cases q) (fun q => by cases q) (fun _ v hv kk => lv_aload_n hx hb hdg rfl hv kk) K
  | iload_n k =>
    have hh := mm_if ha; clear ha; obtain ⟨rfl, ha⟩ := hh
    exact mm_load_ok (Or.inl rfl) Rp0 ha (fun _ v hv kk => lv_iload_n hx hb hdg rfl hv kk) (fun q => by cases q) (fun q => by cases q) K
  | lload_n k =>
    have hh := mm_if ha; clear ha; obtain ⟨rfl, ha⟩ := hh
    exact mm_load_ok (Or.inr (Or.inl rfl)) Rp0 ha (fun q => by cases q) (fun _ v hv kk => lv_lload_n hx hb hdg rfl hv kk) (fun q => by cases q) K
  | aload k =>
    have hh := mm_if ha; clear ha; obtain ⟨rfl, ha⟩ := hh
    exact mm_load_ok (Or.inr (Or.inr rfl)) Rp0 ha (fun q => by cases q) (fun q => by cases q) (fun _ v hv kk => lv_aload hx hb hdg hv kk) K
  | iload k =>
    have hh := mm_if ha; clear ha; obtain ⟨rfl, ha⟩ := hh
    exact mm_load_ok (Or.inl rfl) Rp0 ha (fun _ v hv kk => lv_iload hx hb hdg hv kk) (fun q => by cases q) (fun q => by cases q) K
  | astore_n k =>
    have hh := mm_if ha; clear ha; obtain ⟨rfl, ha⟩ := hh
    exact mm_store_ok Rp0 ha (fun q => by cases q) (fun _ v r lv' hk hlv kk => lv_astore_n hx hb hdg rfl hl hk hlv kk) K
  | istore_n k =>
    have hh := mm_if ha; clear ha; obtain ⟨rfl, ha⟩ := hh
    exact mm_store_ok Rp0 ha (fun _ v r lv' hk hlv kk => lv_istore_n hx hb hdg rfl hl hk hlv kk) (fun q => by cases q) K
  | astore k =>
    have hh := mm_if ha; clear ha; obtain ⟨rfl, ha⟩ := hh
    exact mm_store_ok Rp0 ha (fun q => by cases q) (fun _ v r lv' hk hlv kk => lv_astore hx hb hdg hl hk hlv kk) K
  | istore k =>
    have hh := mm_if ha; clear ha; obtain ⟨rfl, ha⟩ := hh
    exact mm_store_ok Rp0 ha (fun _ v r lv' hk hlv kk => lv_istore hx hb hdg hl hk hlv kk) (fun q => by cases q) K
  | iinc k n =>
    have hh := mm_if ha; clear ha; obtain ⟨⟨rfl, hk⟩, ha⟩ := hh
    split at ha
    · rename_i v hv
      obtain ⟨rfl, rfl, rfl, rfl, rfl, rfl⟩ := mm_go_eq ha
      have hin : (k, Value.int v) ∈ mm_ml b ad ls := List.mem_map.mpr ⟨(k, .int v), mm_lk_in hv, rfl⟩
      obtain ⟨j, hj⟩ := List.getElem?_of_mem hin
      exact lv_iinc hx hb hdg hl hj rfl hk (mm_s1_map (v := .int (v + Int32.ofInt n))) (fun lsr' hl' => K ad H locs lsr' mm_ag.rf ⟨hP, hD, hS, hl', hw, mm_s1_w hq mm_wv_int, ht⟩)
    · cases ha
  | iconst n =>
    have hh := mm_if ha; clear ha; obtain ⟨rfl, ha⟩ := hh
    obtain ⟨rfl, rfl, rfl, rfl, rfl, rfl⟩ := mm_go_eq ha
    exact lv_iconst hx hb hdg rfl (K ad H locs lsr mm_ag.rf ⟨hP, hD, hS, hl, hw, hq, mm_wl_cons.mpr ⟨mm_wv_int, ht⟩⟩)
  | bipush n =>
    have hh := mm_if ha; clear ha; obtain ⟨rfl, ha⟩ := hh
    obtain ⟨rfl, rfl, rfl, rfl, rfl, rfl⟩ := mm_go_eq ha
    exact lv_bipush hx hb hdg rfl (K ad H locs lsr mm_ag.rf ⟨hP, hD, hS, hl, hw, hq, mm_wl_cons.mpr ⟨mm_wv_int, ht⟩⟩)
  | sipush n =>
    have hh := mm_if ha; clear ha; obtain ⟨rfl, ha⟩ := hh
    obtain ⟨rfl, rfl, rfl, rfl, rfl, rfl⟩ := mm_go_eq ha
    exact lv_sipush hx hb hdg rfl (K ad H locs lsr mm_ag.rf ⟨hP, hD, hS, hl, hw, hq, mm_wl_cons.mpr ⟨mm_wv_int, ht⟩⟩)
  | ldc ix =>
    have hh := mm_if ha; clear ha; obtain ⟨rfl, ha⟩ := hh
    split at ha
    · rename_i o i v ps hI
      obtain ⟨rfl, rfl, rfl, rfl, rfl, rfl⟩ := mm_go_eq ha
      obtain ⟨h1, h2⟩ := mm_find mm_chkI_all hI
      simp only [Bool.and_eq_true, beq_iff_eq] at h1
      obtain ⟨rfl, rfl⟩ := h1
      exact lv_ldc hx hb hown (hts _ (mm_at_gw h2 rfl)) hdg (K ad H locs lsr mm_ag.rf ⟨hP, hD, hS, hl, hw, hq, mm_wl_cons.mpr ⟨mm_wv_int, ht⟩⟩)
    · cases ha
  | ldc2_w ix =>
    have hh := mm_if ha; clear ha; obtain ⟨rfl, ha⟩ := hh
    split at ha
    · rename_i o i v ps hI
      obtain ⟨rfl, rfl, rfl, rfl, rfl, rfl⟩ := mm_go_eq ha
      obtain ⟨h1, h2⟩ := mm_find mm_chkJ_all hI
      simp only [Bool.and_eq_true, beq_iff_eq] at h1
      obtain ⟨rfl, rfl⟩ := h1
      exact lv_ldc2 hx hb hown (hts _ (mm_at_gw h2 rfl)) hdg (K ad H locs lsr mm_ag.rf ⟨hP, hD, hS, hl, hw, hq, mm_wl_cons.mpr ⟨mm_wv_long, ht⟩⟩)
    · cases ha
  | iadd => have hh := mm_if ha; clear ha; obtain ⟨rfl, ha⟩ := hh; exact mm_i2_ok Rp0 ha (fun w y r kk => lv_iadd hx hb hdg kk) K
  | isub => have hh := mm_if ha; clear ha; obtain ⟨rfl, ha⟩ := hh; exact mm_i2_ok Rp0 ha (fun w y r kk => lv_isub hx hb hdg kk) K
  | imul => have hh := mm_if ha; clear ha; obtain ⟨rfl, ha⟩ := hh; exact mm_i2_ok Rp0 ha (fun w y r kk => lv_imul hx hb hdg kk) K
  | iand => have hh := mm_if ha; clear ha; obtain ⟨rfl, ha⟩ := hh; exact mm_i2_ok Rp0 ha (fun w y r kk => lv_iand hx hb hdg kk) K
  | ior => have hh := mm_if ha; clear ha; obtain ⟨rfl, ha⟩ := hh; exact mm_i2_ok Rp0 ha (fun w y r kk => lv_ior hx hb hdg kk) K
  | ishl => have hh := mm_if ha; clear ha; obtain ⟨rfl, ha⟩ := hh; exact mm_i2_ok Rp0 ha (fun w y r kk => lv_ishl hx hb hdg kk) K
  | ishr => have hh := mm_if ha; clear ha; obtain ⟨rfl, ha⟩ := hh; exact mm_i2_ok Rp0 ha (fun w y r kk => lv_ishr hx hb hdg kk) K
  | land => have hh := mm_if ha; clear ha; obtain ⟨rfl, ha⟩ := hh; exact mm_l2_ok Rp0 ha (fun w y r kk => lv_land hx hb hdg kk) K
  | lor => have hh := mm_if ha; clear ha; obtain ⟨rfl, ha⟩ := hh; exact mm_l2_ok Rp0 ha (fun w y r kk => lv_lor hx hb hdg kk) K
  | lshl => have hh := mm_if ha; clear ha; obtain ⟨rfl, ha⟩ := hh; exact mm_ls_ok Rp0 ha (fun w y r kk => lv_lshl hx hb hdg rfl kk) K
  | lshr => have hh := mm_if ha; clear ha; obtain ⟨rfl, ha⟩ := hh; exact mm_ls_ok Rp0 ha (fun w y r kk => lv_lshr hx hb hdg rfl kk) K
  | lushr => have hh := mm_if ha; clear ha; obtain ⟨rfl, ha⟩ := hh; exact mm_ls_ok Rp0 ha (fun w y r kk => lv_lushr hx hb hdg rfl kk) K
  | lcmp =>
    have hh := mm_if ha; clear ha; obtain ⟨rfl, ha⟩ := hh
    split at ha
    · rename_i y w r
      obtain ⟨rfl, rfl, rfl, rfl, rfl, rfl⟩ := mm_go_eq ha
      obtain ⟨-, ht⟩ := mm_wl_cons.mp ht
      obtain ⟨-, ht⟩ := mm_wl_cons.mp ht
      exact W.lcmp hx hb hdg (K ad H locs lsr mm_ag.rf ⟨hP, hD, hS, hl, hw, hq, mm_wl_cons.mpr ⟨mm_wv_int, ht⟩⟩)
    · cases ha
  | i2l =>
    have hh := mm_if ha; clear ha; obtain ⟨rfl, ha⟩ := hh
    split at ha
    · rename_i w r
      obtain ⟨rfl, rfl, rfl, rfl, rfl, rfl⟩ := mm_go_eq ha
      obtain ⟨-, ht⟩ := mm_wl_cons.mp ht
      exact lv_i2l hx hb hdg rfl (K ad H locs lsr mm_ag.rf ⟨hP, hD, hS, hl, hw, hq, mm_wl_cons.mpr ⟨mm_wv_long, ht⟩⟩)
    · cases ha
  | i2b =>
    have hh := mm_if ha; clear ha; obtain ⟨rfl, ha⟩ := hh
    split at ha
    · rename_i w r
      obtain ⟨rfl, rfl, rfl, rfl, rfl, rfl⟩ := mm_go_eq ha
      obtain ⟨-, ht⟩ := mm_wl_cons.mp ht
      exact lv_i2b hx hb hdg rfl (K ad H locs lsr mm_ag.rf ⟨hP, hD, hS, hl, hw, hq, mm_wl_cons.mpr ⟨mm_wv_int, ht⟩⟩)
    · cases ha
  | l2i =>
    have hh := mm_if ha; clear ha; obtain ⟨rfl, ha⟩ := hh
    split at ha
    · rename_i w r
      obtain ⟨rfl, rfl, rfl, rfl, rfl, rfl⟩ := mm_go_eq ha
      obtain ⟨-, ht⟩ := mm_wl_cons.mp ht
      exact lv_l2i hx hb hdg rfl (K ad H locs lsr mm_ag.rf ⟨hP, hD, hS, hl, hw, hq, mm_wl_cons.mpr ⟨mm_wv_int, ht⟩⟩)
    · cases ha
  | dup =>
    have hh := mm_if ha; clear ha; obtain ⟨rfl, ha⟩ := hh
    split at ha
    · rename_i v r
      obtain ⟨hv1, ha⟩ := mm_if ha
      obtain ⟨rfl, rfl, rfl, rfl, rfl, rfl⟩ := mm_go_eq ha
      obtain ⟨hv, ht⟩ := mm_wl_cons.mp ht
      exact lv_dup hx hb hdg (by rw [mm_v_cat]; exact hv1) (K ad H locs lsr mm_ag.rf ⟨hP, hD, hS, hl, hw, hq, mm_wl_cons.mpr ⟨hv, mm_wl_cons.mpr ⟨hv, ht⟩⟩⟩)
    · cases ha
  | dup2 =>
    have hh := mm_if ha; clear ha; obtain ⟨rfl, ha⟩ := hh
    split at ha
    · rename_i v w r
      obtain ⟨hv1, ha⟩ := mm_if ha
      obtain ⟨rfl, rfl, rfl, rfl, rfl, rfl⟩ := mm_go_eq ha
      obtain ⟨hv, ht⟩ := mm_wl_cons.mp ht
      obtain ⟨hv2, ht⟩ := mm_wl_cons.mp ht
      exact lv_dup2_11 hx hb hdg (by rw [mm_v_cat]; exact hv1.1) (by rw [mm_v_cat]; exact hv1.2) (K ad H locs lsr mm_ag.rf ⟨hP, hD, hS, hl, hw, hq, mm_wl_cons.mpr ⟨hv, mm_wl_cons.mpr ⟨hv2, mm_wl_cons.mpr ⟨hv, mm_wl_cons.mpr ⟨hv2, ht⟩⟩⟩⟩⟩)
    · cases ha
  | pop =>
    have hh := mm_if ha; clear ha; obtain ⟨rfl, ha⟩ := hh
    split at ha
    · rename_i v r
      obtain ⟨hv1, ha⟩ := mm_if ha
      obtain ⟨rfl, rfl, rfl, rfl, rfl, rfl⟩ := mm_go_eq ha
      obtain ⟨hv, ht⟩ := mm_wl_cons.mp ht
      exact lv_pop hx hb hdg (by rw [mm_v_cat]; exact hv1) (K ad H locs lsr mm_ag.rf ⟨hP, hD, hS, hl, hw, hq, ht⟩)
    · cases ha
  | goto off =>
    have hh := mm_if ha; clear ha; obtain ⟨rfl, ha⟩ := hh
    split at ha
    · rename_i t htg
      obtain ⟨rfl, rfl, rfl, rfl, rfl, rfl⟩ := mm_go_eq ha
      exact lv_goto hx hb hdg (mm_jump_eq htg) (K ad H locs lsr mm_ag.rf Rp0)
    · cases ha
  | ifCond cd off =>
    have hh := mm_if ha; clear ha; obtain ⟨rfl, ha⟩ := hh
    split at ha
    · rename_i w r
      obtain ⟨-, ht⟩ := mm_wl_cons.mp ht
      have Rp1 : mm_Rp D cy A b s.heap me.2.2.2.1 ad h ls r H locs lsr := ⟨hP, hD, hS, hl, hw, hq, ht⟩
      cases cd with
      | eq => exact mm_br_ok Rp1 ha (fun t ht k1 k2 => lv_if_eq hx hb hdg ht (fun q => k1 (decide_eq_true q)) (fun q => k2 (fun q2 => q (of_decide_eq_true q2)))) K
      | ne => exact mm_br_ok Rp1 ha (fun t ht k1 k2 => lv_if_ne hx hb hdg ht (fun q => k1 (decide_eq_true q)) (fun q => k2 (fun q2 => (of_decide_eq_true q2) q))) K
      | lt => exact mm_br_ok Rp1 ha (fun t ht k1 k2 => lv_if_lt hx hb hdg ht (fun q => k1 (decide_eq_true q)) (fun q => k2 (fun q2 => q (of_decide_eq_true q2)))) K
      | ge => exact mm_br_ok Rp1 ha (fun t ht k1 k2 => lv_if_ge hx hb hdg ht (fun q => k1 (decide_eq_true q)) (fun q => k2 (fun q2 => q (of_decide_eq_true q2)))) K
      | gt => exact mm_br_ok Rp1 ha (fun t ht k1 k2 => lv_if_gt hx hb hdg ht (fun q => k1 (decide_eq_true q)) (fun q => k2 (fun q2 => q (of_decide_eq_true q2)))) K
      | le => exact mm_br_ok Rp1 ha (fun t ht k1 k2 => lv_if_le hx hb hdg ht (fun q => k1 (decide_eq_true q)) (fun q => k2 (fun q2 => q (of_decide_eq_true q2)))) K
    · cases ha
  | if_icmp cd off =>
    have hh := mm_if ha; clear ha; obtain ⟨rfl, ha⟩ := hh
    split at ha
    · rename_i y w r
      obtain ⟨-, ht⟩ := mm_wl_cons.mp ht
      obtain ⟨-, ht⟩ := mm_wl_cons.mp ht
      have Rp1 : mm_Rp D cy A b s.heap me.2.2.2.1 ad h ls r H locs lsr := ⟨hP, hD, hS, hl, hw, hq, ht⟩
      cases cd with
      | eq => exact mm_br_ok Rp1 ha (fun t ht k1 k2 => lv_icmp_eq hx hb hdg ht (fun q => k1 (decide_eq_true q)) (fun q => k2 (fun q2 => q (of_decide_eq_true q2)))) K
      | ne => exact mm_br_ok Rp1 ha (fun t ht k1 k2 => lv_icmp_ne hx hb hdg ht (fun q => k1 (decide_eq_true q)) (fun q => k2 (fun q2 => (of_decide_eq_true q2) q))) K
      | lt => exact mm_br_ok Rp1 ha (fun t ht k1 k2 => lv_icmp_lt hx hb hdg ht (fun q => k1 (decide_eq_true q)) (fun q => k2 (fun q2 => q (of_decide_eq_true q2)))) K
      | ge => exact mm_br_ok Rp1 ha (fun t ht k1 k2 => lv_icmp_ge hx hb hdg ht (fun q => k1 (decide_eq_true q)) (fun q => k2 (fun q2 => q (of_decide_eq_true q2)))) K
      | gt => exact mm_br_ok Rp1 ha (fun t ht k1 k2 => lv_icmp_gt hx hb hdg ht (fun q => k1 (decide_eq_true q)) (fun q => k2 (fun q2 => q (of_decide_eq_true q2)))) K
      | le => exact mm_br_ok Rp1 ha (fun t ht k1 k2 => lv_icmp_le hx hb hdg ht (fun q => k1 (decide_eq_true q)) (fun q => k2 (fun q2 => q (of_decide_eq_true q2)))) K
    · cases ha
  | tableswitch dflt lo hi offs =>
    dsimp only [mm_act] at ha
    split at ha
    · rename_i w r
      obtain ⟨-, ht⟩ := mm_wl_cons.mp ht
      split at ha
      · rename_i t htg
        obtain ⟨hcnd, ha⟩ := mm_if ha
        obtain ⟨rfl, rfl, rfl, rfl, rfl, rfl⟩ := mm_go_eq ha
        have kk := K ad H locs lsr mm_ag.rf ⟨hP, hD, hS, hl, hw, hq, ht⟩
        have htg2 := mm_jump_eq htg
        unfold mm_table at htg2
        by_cases hout : w.toInt < lo ∨ hi < w.toInt
        · rw [if_pos hout] at htg2
          exact lv_tableOut hx hb hdg hout htg2 kk
        · rw [if_neg hout] at htg2
          rcases hcnd with q | q
          · exact absurd q hout
          · obtain ⟨off, hoff⟩ := Option.isSome_iff_exists.mp q
            rw [hoff] at htg2
            exact lv_tableIn hx hb hdg (fun q => hout (Or.inl q)) (fun q => hout (Or.inr q)) hoff htg2 kk
      · cases ha
    · cases ha
  | lookupswitch dflt ps =>
    dsimp only [mm_act] at ha
    split at ha
    · rename_i w r
      obtain ⟨-, ht⟩ := mm_wl_cons.mp ht
      obtain ⟨hcnd, ha⟩ := mm_if ha
      split at ha
      · rename_i t htg
        obtain ⟨rfl, rfl, rfl, rfl, rfl, rfl⟩ := mm_go_eq ha
        exact lv_lookup hx hb hdg hcnd rfl (mm_jump_eq htg) (K ad H locs lsr mm_ag.rf ⟨hP, hD, hS, hl, hw, hq, ht⟩)
      · cases ha
    · cases ha
  | getfield ix => have hh := mm_if ha; clear ha; obtain ⟨rfl, ha⟩ := hh; exact mm_getf_ok C0 Rp0 hdg ha K
  | putfield ix => have hh := mm_if ha; clear ha; obtain ⟨rfl, ha⟩ := hh; exact mm_putf_ok C0 Rp0 hdg ha K
  | iaload =>
    have hh := mm_if ha; clear ha; obtain ⟨rfl, ha⟩ := hh
    refine mm_ald_ok Rp0 ha (fun _ t n a0 f i rest ht0 he hin kk => ?_) (fun q => by cases q) (fun _ _ i rest hin kk => va_sld hx hb hG.2.2.2.2.2.1 hG.2.2.2.2.2.2.2 hG.2.2.2.2.2.2.1 hS hin hdg kk) K
    have e0 : t = 0 := by simpa using ht0
    subst e0
    exact va_iald hx hb hG.1 hP a0 0 he rfl hin hdg kk
  | baload =>
    have hh := mm_if ha; clear ha; obtain ⟨rfl, ha⟩ := hh
    refine mm_ald_ok Rp0 ha (fun _ t n a0 f i rest ht0 he hin kk => ?_) (fun q => by cases q) (fun q => by cases q) K
    have e0 : t = 1 ∨ t = 2 := by simpa using ht0
    rcases e0 with rfl | rfl
    · exact va_bald hx hb hG.1 hP a0 1 he rfl hin hdg kk
    · exact va_zald hx hb hG.1 hP a0 2 he rfl hin hdg kk
  | laload =>
    have hh := mm_if ha; clear ha; obtain ⟨rfl, ha⟩ := hh
    refine mm_ald_ok Rp0 ha (fun q => by cases q) (fun _ t n a0 f i rest ht0 he hin kk => ?_) (fun q => by cases q) K
    have e0 : t = 3 := by simpa using ht0
    subst e0
    exact va_lald hx hb hG.1 hP a0 3 he rfl hin hdg kk
  | iastore =>
    have hh := mm_if ha; clear ha; obtain ⟨rfl, ha⟩ := hh
    refine mm_ast_ok Rp0 ha (fun t n a0 f i x rest ht0 _ he hin kk => ?_) (fun n a0 f i x rest ht0 => by cases ht0) K
    have e0 : t = 0 := by simpa using ht0
    subst e0
    exact va_iast hx hb hG.1 hP hD hS a0 0 he rfl hin hdg kk
  | bastore =>
    have hh := mm_if ha; clear ha; obtain ⟨rfl, ha⟩ := hh
    refine mm_ast_ok Rp0 ha (fun t n a0 f i x rest ht0 _ he hin kk => ?_) (fun n a0 f i x rest ht0 => by cases ht0) K
    have e0 : t = 1 ∨ t = 2 := by simpa using ht0
    rcases e0 with rfl | rfl
    · exact va_bast hx hb hG.1 hP hD hS a0 1 he rfl hin hdg kk
    · exact va_zast hx hb hG.1 hP hD hS a0 2 he rfl hin hdg kk
  | lastore =>
    have hh := mm_if ha; clear ha; obtain ⟨rfl, ha⟩ := hh
    refine mm_ast_ok Rp0 ha (fun t n a0 f i x rest ht0 ht3 he hin kk => ?_) (fun n a0 f i x rest _ he hin kk => va_last hx hb hG.1 hP hD hS a0 3 he rfl hin hdg kk) K
    have e0 : t = 3 := by simpa using ht0
    omega
  | arraylength => have hh := mm_if ha; clear ha; obtain ⟨rfl, ha⟩ := hh; exact mm_alen_ok C0 Rp0 hdg ha K
  | newarray t => have hh := mm_if ha; clear ha; obtain ⟨rfl, ha⟩ := hh; exact mm_newa_ok C0 Rp0 hdg ha hc hz K
  | new ix => have hh := mm_if ha; clear ha; obtain ⟨rfl, ha⟩ := hh; exact mm_new_ok C0 Rp0 hdg ha hc hz K
  | invokevirtual ix =>
    have hh := mm_if ha; clear ha; obtain ⟨rfl, ha⟩ := hh
    exact mm_call_obj (op := 0) C0 Rp0 ⟨fun q => (by cases q), fun q => (by cases q)⟩ ha hc hz hf hlo K
  | invokestatic ix =>
    have hh := mm_if ha; clear ha; obtain ⟨rfl, ha⟩ := hh
    exact mm_call_obj (op := 1) C0 Rp0 ⟨fun q => (by cases q), fun _ => hdg⟩ ha hc hz hf hlo K
  | invokespecial ix =>
    have hh := mm_if ha; clear ha; obtain ⟨rfl, ha⟩ := hh
    exact mm_call_obj (op := 2) C0 Rp0 ⟨fun _ => hdg, fun q => (by cases q)⟩ ha hc hz hf hlo K
  | return_ =>
    have hh := mm_if ha; clear ha; obtain ⟨rfl, ha⟩ := hh
    unfold mm_ret0 at ha
    split at ha
    · cases ha
    · cases ha
  | ireturn =>
    have hh := mm_if ha; clear ha; obtain ⟨rfl, ha⟩ := hh
    unfold mm_retv at ha
    split at ha
    · obtain ⟨-, ha⟩ := mm_if ha
      cases ha
    · cases ha
  | _ => cases ha
end MMA
