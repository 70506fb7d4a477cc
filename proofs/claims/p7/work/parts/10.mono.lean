/-! Cells and slots only grow. -/
section MMM
variable {me : mm_Me} {xs : Nat → Int32} {L : Nat} {h h' : mm_H} {ls ls' : mm_L} {st st' : List Value} {pc pc' len c c' z z' ix : Nat}
def mm_Le (h : mm_H) (c z : Nat) (h' : mm_H) (c' z' : Nat) : Prop := h.length ≤ h'.length ∧ c ≤ c' ∧ z ≤ z'
theorem mm_Le.rf : mm_Le h c z h c z := ⟨Nat.le_refl _, Nat.le_refl _, Nat.le_refl _⟩
theorem mm_Le.go (ha : mm_go pc ls st h c z = some (.inl (pc', ls', st', h', c', z'))) : mm_Le h c z h' c' z' := by
  obtain ⟨-, -, -, rfl, rfl, rfl⟩ := mm_go_eq ha
  exact mm_Le.rf
theorem mm_Le.goS {k : Nat} {e : mm_E} (ha : mm_go pc ls st (h.set k e) c z = some (.inl (pc', ls', st', h', c', z'))) : mm_Le h c z h' c' z' := by
  obtain ⟨-, -, -, rfl, rfl, rfl⟩ := mm_go_eq ha
  exact ⟨by rw [List.length_set]; exact Nat.le_refl _, Nat.le_refl _, Nat.le_refl _⟩
theorem mm_Le.goN {k : Nat} {e : mm_E} (ha : mm_go pc ls st (h ++ [e]) (c + 1) (z + k) = some (.inl (pc', ls', st', h', c', z'))) : mm_Le h c z h' c' z' := by
  obtain ⟨-, -, -, rfl, rfl, rfl⟩ := mm_go_eq ha
  exact ⟨by simp, by omega, by omega⟩
theorem mm_load_le {i k : Nat} (ha : mm_load i len pc k ls st h c z = some (.inl (pc', ls', st', h', c', z'))) : mm_Le h c z h' c' z' := by
  unfold mm_load at ha
  split at ha <;> first | exact mm_Le.go ha | cases ha
theorem mm_store_le {i k nL : Nat} (ha : mm_store i len pc nL k ls st h c z = some (.inl (pc', ls', st', h', c', z'))) : mm_Le h c z h' c' z' := by
  unfold mm_store at ha
  obtain ⟨-, ha⟩ := mm_if ha
  split at ha <;> first | exact mm_Le.go ha | cases ha
theorem mm_i2_le {f : Int32 → Int32 → Int32} (ha : mm_i2 f pc ls st h c z = some (.inl (pc', ls', st', h', c', z'))) : mm_Le h c z h' c' z' := by
  unfold mm_i2 at ha
  split at ha <;> first | exact mm_Le.go ha | cases ha
theorem mm_l2_le {f : Int64 → Int64 → Int64} (ha : mm_l2 f pc ls st h c z = some (.inl (pc', ls', st', h', c', z'))) : mm_Le h c z h' c' z' := by
  unfold mm_l2 at ha
  split at ha <;> first | exact mm_Le.go ha | cases ha
theorem mm_ls_le {f : Int64 → Int32 → Int64} (ha : mm_ls f pc ls st h c z = some (.inl (pc', ls', st', h', c', z'))) : mm_Le h c z h' c' z' := by
  unfold mm_ls at ha
  split at ha <;> first | exact mm_Le.go ha | cases ha
theorem mm_br_le {off : Int} {bb : Bool} (ha : mm_br bb off pc ls st h c z = some (.inl (pc', ls', st', h', c', z'))) : mm_Le h c z h' c' z' := by
  unfold mm_br at ha
  split at ha
  · cases ha
  · split at ha <;> exact mm_Le.go ha
theorem mm_getf_le {own : String} (ha : mm_getf own ix pc ls st h c z = some (.inl (pc', ls', st', h', c', z'))) : mm_Le h c z h' c' z' := by
  unfold mm_getf at ha
  split at ha
  · split at ha
    · obtain ⟨-, ha⟩ := mm_if ha
      split at ha <;> first | exact mm_Le.go ha | cases ha
    · cases ha
  · cases ha
theorem mm_putf_le {own mn : String} (ha : mm_putf own mn ix pc ls st h c z = some (.inl (pc', ls', st', h', c', z'))) : mm_Le h c z h' c' z' := by
  unfold mm_putf at ha
  split at ha
  · split at ha
    · obtain ⟨-, ha⟩ := mm_if ha
      exact mm_Le.goS ha
    · cases ha
  · cases ha
theorem mm_ald_le {t0 : Nat → Bool} {wide : Bool} (ha : mm_ald t0 wide xs L pc ls st h c z = some (.inl (pc', ls', st', h', c', z'))) : mm_Le h c z h' c' z' := by
  unfold mm_ald at ha
  split at ha
  · split at ha
    · obtain ⟨-, ha⟩ := mm_if ha
      exact mm_Le.go ha
    · obtain ⟨-, ha⟩ := mm_if ha
      exact mm_Le.go ha
    · cases ha
  · obtain ⟨-, ha⟩ := mm_if ha
    exact mm_Le.go ha
  · cases ha
theorem mm_ast_le {t0 : Nat → Bool} (ha : mm_ast t0 pc ls st h c z = some (.inl (pc', ls', st', h', c', z'))) : mm_Le h c z h' c' z' := by
  unfold mm_ast at ha
  split at ha
  · split at ha
    · obtain ⟨-, ha⟩ := mm_if ha
      exact mm_Le.goS ha
    · cases ha
  · split at ha
    · obtain ⟨-, ha⟩ := mm_if ha
      exact mm_Le.goS ha
    · cases ha
  · cases ha
theorem mm_alen_le (ha : mm_alen L pc ls st h c z = some (.inl (pc', ls', st', h', c', z'))) : mm_Le h c z h' c' z' := by
  unfold mm_alen at ha
  split at ha
  · split at ha
    · obtain ⟨-, ha⟩ := mm_if ha
      exact mm_Le.go ha
    · cases ha
  · exact mm_Le.go ha
  · cases ha
theorem mm_newa_le {t : ArrayType} (ha : mm_newa t pc ls st h c z = some (.inl (pc', ls', st', h', c', z'))) : mm_Le h c z h' c' z' := by
  unfold mm_newa at ha
  split at ha
  · split at ha
    · cases ha
    · exact mm_Le.goN ha
  · cases ha
theorem mm_new_le (ha : mm_new me ix pc ls st h c z = some (.inl (pc', ls', st', h', c', z'))) : mm_Le h c z h' c' z' := by
  unfold mm_new at ha
  split at ha
  · split at ha
    · exact mm_Le.goN ha
    · cases ha
  · split at ha
    · obtain ⟨-, ha⟩ := mm_if ha
      cases ha
    · cases ha
theorem mm_call_le {op : Nat} (ha : mm_call me op ix pc ls st h c z = some (.inl (pc', ls', st', h', c', z'))) : mm_Le h c z h' c' z' := by
  unfold mm_call at ha
  split at ha
  · split at ha
    · split at ha
      · obtain ⟨-, ha⟩ := mm_if ha
        exact mm_Le.go ha
      · cases ha
    · split at ha
      · split at ha
        · obtain ⟨-, ha⟩ := mm_if ha
          exact mm_Le.go ha
        · cases ha
      · split at ha
        · cases ha
        · split at ha
          · cases ha
          · split at ha
            · obtain ⟨-, ha⟩ := mm_if ha
              cases ha
            · split at ha
              · split at ha
                · obtain ⟨-, ha⟩ := mm_if ha
                  cases ha
                · cases ha
              · cases ha
  · cases ha
set_option maxHeartbeats 4000000 in
theorem mm_act_le {i : Instr} (ha : mm_act me xs L i len pc ls st h c z = some (.inl (pc', ls', st', h', c', z'))) : mm_Le h c z h' c' z' := by
  cases i with
  | aload_n k => exact mm_load_le (mm_if ha).2
  | iload_n k => exact mm_load_le (mm_if ha).2
  | lload_n k => exact mm_load_le (mm_if ha).2
  | aload k => exact mm_load_le (mm_if ha).2
  | iload k => exact mm_load_le (mm_if ha).2
  | astore_n k => exact mm_store_le (mm_if ha).2
  | istore_n k => exact mm_store_le (mm_if ha).2
  | astore k => exact mm_store_le (mm_if ha).2
  | istore k => exact mm_store_le (mm_if ha).2
  | iinc k n =>
    have ha := (mm_if ha).2
    split at ha <;> first | exact mm_Le.go ha | cases ha
  | iconst n => exact mm_Le.go (mm_if ha).2
  | bipush n => exact mm_Le.go (mm_if ha).2
  | sipush n => exact mm_Le.go (mm_if ha).2
  | ldc n =>
    have ha := (mm_if ha).2
    split at ha <;> first | exact mm_Le.go ha | cases ha
  | ldc2_w n =>
    have ha := (mm_if ha).2
    split at ha <;> first | exact mm_Le.go ha | cases ha
  | iadd => exact mm_i2_le (mm_if ha).2
  | isub => exact mm_i2_le (mm_if ha).2
  | imul => exact mm_i2_le (mm_if ha).2
  | iand => exact mm_i2_le (mm_if ha).2
  | ior => exact mm_i2_le (mm_if ha).2
  | ishl => exact mm_i2_le (mm_if ha).2
  | ishr => exact mm_i2_le (mm_if ha).2
  | land => exact mm_l2_le (mm_if ha).2
  | lor => exact mm_l2_le (mm_if ha).2
  | lshl => exact mm_ls_le (mm_if ha).2
  | lshr => exact mm_ls_le (mm_if ha).2
  | lushr => exact mm_ls_le (mm_if ha).2
  | lcmp =>
    have ha := (mm_if ha).2
    split at ha <;> first | exact mm_Le.go ha | cases ha
  | i2l =>
    have ha := (mm_if ha).2
    split at ha <;> first | exact mm_Le.go ha | cases ha
  | i2b =>
    have ha := (mm_if ha).2
    split at ha <;> first | exact mm_Le.go ha | cases ha
  | l2i =>
    have ha := (mm_if ha).2
    split at ha <;> first | exact mm_Le.go ha | cases ha
  | dup =>
    have ha := (mm_if ha).2
    split at ha <;> first | exact mm_Le.go (mm_if ha).2 | cases ha
  | dup2 =>
    have ha := (mm_if ha).2
    split at ha <;> first | exact mm_Le.go (mm_if ha).2 | cases ha
  | pop =>
    have ha := (mm_if ha).2
    split at ha <;> first | exact mm_Le.go (mm_if ha).2 | cases ha
  | goto off =>
    have ha := (mm_if ha).2
    split at ha <;> first | exact mm_Le.go ha | cases ha
  | ifCond cd off =>
    have ha := (mm_if ha).2
    split at ha <;> first | exact mm_br_le ha | cases ha
  | if_icmp cd off =>
    have ha := (mm_if ha).2
    split at ha <;> first | exact mm_br_le ha | cases ha
  | tableswitch dflt lo hi offs =>
    dsimp only [mm_act] at ha
    split at ha
    · split at ha
      · exact mm_Le.go (mm_if ha).2
      · cases ha
    · cases ha
  | lookupswitch dflt ps =>
    dsimp only [mm_act] at ha
    split at ha
    · have ha := (mm_if ha).2
      split at ha
      · exact mm_Le.go ha
      · cases ha
    · cases ha
  | getfield ix => exact mm_getf_le (mm_if ha).2
  | putfield ix => exact mm_putf_le (mm_if ha).2
  | iaload => exact mm_ald_le (mm_if ha).2
  | baload => exact mm_ald_le (mm_if ha).2
  | laload => exact mm_ald_le (mm_if ha).2
  | iastore => exact mm_ast_le (mm_if ha).2
  | bastore => exact mm_ast_le (mm_if ha).2
  | lastore => exact mm_ast_le (mm_if ha).2
  | arraylength => exact mm_alen_le (mm_if ha).2
  | newarray t => exact mm_newa_le (mm_if ha).2
  | new ix => exact mm_new_le (mm_if ha).2
  | invokevirtual ix => exact mm_call_le (mm_if ha).2
  | invokestatic ix => exact mm_call_le (mm_if ha).2
  | invokespecial ix => exact mm_call_le (mm_if ha).2
  | return_ =>
    have ha := (mm_if ha).2
    unfold mm_ret0 at ha
    split at ha <;> cases ha
  | ireturn =>
    have ha := (mm_if ha).2
    unfold mm_retv at ha
    split at ha
    · cases (mm_if ha).2
    · cases ha
  | _ => cases ha
end MMM
theorem mm_ev_le {xs : Nat → Int32} {L : Nat} : ∀ (n d mi pc : Nat) (ls : mm_L) (st : List Value) (h : mm_H) (c z : Nat) (r : Option Value ⊕ String) (h' : mm_H) (c' z' : Nat), mm_ev xs L n d mi pc ls st h c z = some (r, h', c', z') → mm_Le h c z h' c' z' := by
  intro n
  induction n with
  | zero => intro d mi pc ls st h c z r h' c' z' ha; cases ha
  | succ n ih =>
    intro d mi pc ls st h c z r h' c' z' ha
    unfold mm_ev at ha
    split at ha
    · cases ha
    · split at ha
      · cases ha
      · split at ha
        · cases ha
        · rename_i q1 q2 q3 q4 q5 q6 hact
          have h1 := mm_act_le hact
          have h2 := ih _ _ _ _ _ _ _ _ _ _ _ _ ha
          exact ⟨Nat.le_trans h1.1 h2.1, Nat.le_trans h1.2.1 h2.2.1, Nat.le_trans h1.2.2 h2.2.2⟩
        · cases ha
          exact mm_Le.rf
        · split at ha
          · cases ha
          · cases ha
            exact ⟨Nat.le_refl _, by omega, by omega⟩
        · split at ha
          · cases ha
          · split at ha
            · cases ha
            · rename_i v h1 c1 z1 hc
              have g1 := ih _ _ _ _ _ _ _ _ _ _ _ _ hc
              have g2 := ih _ _ _ _ _ _ _ _ _ _ _ _ ha
              exact ⟨Nat.le_trans g1.1 g2.1, by have := g2.2.1; omega, by have := g2.2.2; omega⟩
            · rename_i E h1 c1 z1 hc
              have g1 := ih _ _ _ _ _ _ _ _ _ _ _ _ hc
              split at ha
              · cases ha
              · split at ha
                · cases ha
                  exact ⟨g1.1, by omega, by omega⟩
                · split at ha
                  · cases ha
                  · have g2 := ih _ _ _ _ _ _ _ _ _ _ _ _ ha
                    exact ⟨Nat.le_trans g1.1 g2.1, by have := g2.2.1; omega, by have := g2.2.2; omega⟩
