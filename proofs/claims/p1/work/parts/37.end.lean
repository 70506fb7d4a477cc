theorem p1_pure : mm_Pure := by
  intro xs L hL
  have main : ∃ (h' : mm_H) (c' z' : Nat), Ev xs L 2048 224 23 (lsQ 0) [] hq0 29 641320 (.inl (some (.int 1)), h', c', z') ∧ c' ≤ 600002 ∧ z' ≤ 7302232 := by
    rw [hq0_qh]
    have h4 : L = 0 ∨ L = 1 ∨ L = 2 ∨ L = 3 := by omega
    rcases h4 with rfl | rfl | rfl | rfl
    · exact ⟨_, _, _, law_s0, by decide, by decide⟩
    · exact ⟨_, _, _, law_s1, by decide, by decide⟩
    · exact ⟨_, _, _, law_s2, by decide, by decide⟩
    · exact law_all (by decide)
  obtain ⟨h', c', z', K, hc, hz⟩ := main
  obtain ⟨n, e⟩ := k_law (by decide) K
  exact ⟨n, h', c', z', e, hc, hz⟩
theorem i_vc : Claimed_1_1 ∧ Claimed_1_2 := mm_vc_open p1_pure
