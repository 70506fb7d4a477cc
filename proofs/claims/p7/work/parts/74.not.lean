/-! THE STATEMENT IS FALSE of this class: at the start of part 73 the law returns 0. -/
theorem rf_not : ¬ Claimed_1_2 := by
  intro H
  obtain ⟨hL, hW, ha, -, hc, hk, hf, hfit, hheap, happ, hcl, hrest, hpre⟩ := rf_at
  obtain ⟨n, o, a1, a2, a3, h9, -⟩ := H launch0 rfl hL hW start1.p0 start1.e0 ha hc hk _ _ _ _ hf hfit hheap happ ⟨hcl, hrest, hpre⟩
  obtain ⟨b, xs, hP⟩ := lw_pre_spec hpre hrest
  have hb : b = 0 := by
    have h8 : (#[Value.ref 0] : Array Value) = #[Value.ref b] := hP.1
    have h7 := congrArg (fun q : Array Value => q[0]?) h8
    have h6 : some (Value.ref 0) = some (Value.ref b) := h7
    cases h6
    rfl
  subst hb
  have hx : xs = rf_l := by
    obtain ⟨cell, h1, h2, -, -⟩ := hP.2.1
    have e1 : ((start1.aboutOf rf_S).arrayAt? 0).map (fun c => c.slots.toList) = some (rf_l.map Value.int) := rfl
    rw [h1] at e1
    have e2 : cell.slots.toList = rf_l.map Value.int := Option.some.inj e1
    rw [h2] at e2
    exact (List.map_inj_right (fun p q h => by cases h; rfl)).mp e2
  subst hx
  obtain ⟨n', o', b1, b2, b3, hQ⟩ := rf_walk launch0 rfl 0 rf_l rf_run start1.p0 start1.e0 ha hc hk _ _ _ _ hf ((Spec.applies_iff_loose hf).mp happ).1 hP trivial
  have hn : n = n' := by
    rcases Nat.lt_trichotomy n n' with h | h | h
    · exact absurd (b1 n h) a3.not_within
    · exact h
    · exact absurd (a1 n' h) b3.not_within
  subst hn
  have ho := a3.outcome_unique b3
  rw [hQ.1] at ho
  subst ho
  have h8 := Cond.after_iff.mp h9
  rw [show limb_1_2 = Jvm.Cond.eq .result (.int 1) from rfl, Cond.eq_ints (x := 0) (y := 1) rfl rfl] at h8
  exact absurd h8 (by decide)
theorem rf_false : ¬ (Claimed_1_1 ∧ Claimed_1_2) := fun h => rf_not h.2
