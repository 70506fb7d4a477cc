theorem pp_pure : mm_Pure := by
  intro xs L hL
  obtain ⟨_, K, h', c', z', rfl, hc, hz⟩ := law_loop (xs := xs) hL (L + 1) 0 0 1024 hq0 (lsQ 0) 29 641320 (by omega) (by omega) gi0 (by omega) rfl rfl rfl rfl rfl
  obtain ⟨n, e⟩ := k_law (by decide) K
  exact ⟨n, h', c', z', e, by omega, by omega⟩
theorem i_vc : Claimed_1_1 ∧ Claimed_1_2 := mm_vc_open pp_pure
