/-! What the small machine's instruction is that ends, throws or calls. -/
section MMJ
variable {me : mm_Me} {xs : Nat → Int32} {L : Nat} {h : mm_H} {ls : mm_L} {st : List Value} {pc len c z ix : Nat} {x : (Option Value) ⊕ (String ⊕ (Nat × List Value × List Value × Bool))}
theorem mm_no_go {pc : Nat} {ls : mm_L} {st : List Value} {h : mm_H} {c z : Nat} (ha : mm_go pc ls st h c z = some (.inr x)) : False := by
  unfold mm_go at ha
  cases ha
theorem mm_no_load {i k : Nat} (ha : mm_load i len pc k ls st h c z = some (.inr x)) : False := by
  unfold mm_load at ha
  split at ha <;> first | exact mm_no_go ha | cases ha
theorem mm_no_store {i k nL : Nat} (ha : mm_store i len pc nL k ls st h c z = some (.inr x)) : False := by
  unfold mm_store at ha
  have ha := (mm_if ha).2
  split at ha <;> first | exact mm_no_go ha | cases ha
theorem mm_no_i2 {f : Int32 → Int32 → Int32} (ha : mm_i2 f pc ls st h c z = some (.inr x)) : False := by
  unfold mm_i2 at ha
  split at ha <;> first | exact mm_no_go ha | cases ha
theorem mm_no_l2 {f : Int64 → Int64 → Int64} (ha : mm_l2 f pc ls st h c z = some (.inr x)) : False := by
  unfold mm_l2 at ha
  split at ha <;> first | exact mm_no_go ha | cases ha
theorem mm_no_ls {f : Int64 → Int32 → Int64} (ha : mm_ls f pc ls st h c z = some (.inr x)) : False := by
  unfold mm_ls at ha
  split at ha <;> first | exact mm_no_go ha | cases ha
theorem mm_no_br {off : Int} {bb : Bool} (ha : mm_br bb off pc ls st h c z = some (.inr x)) : False := by
  unfold mm_br at ha
  split at ha
  · cases ha
  · split at ha <;> exact mm_no_go ha
theorem mm_no_getf {own : String} (ha : mm_getf own ix pc ls st h c z = some (.inr x)) : False := by
  unfold mm_getf at ha
  split at ha
  · split at ha
    · have ha := (mm_if ha).2
      split at ha <;> first | exact mm_no_go ha | cases ha
    · cases ha
  · cases ha
theorem mm_no_putf {own mn : String} (ha : mm_putf own mn ix pc ls st h c z = some (.inr x)) : False := by
  unfold mm_putf at ha
  split at ha
  · split at ha
    · exact mm_no_go (mm_if ha).2
    · cases ha
  · cases ha
theorem mm_no_ald {t0 : Nat → Bool} {wide : Bool} (ha : mm_ald t0 wide xs L pc ls st h c z = some (.inr x)) : False := by
  unfold mm_ald at ha
  split at ha
  · split at ha
    · exact mm_no_go (mm_if ha).2
    · exact mm_no_go (mm_if ha).2
    · cases ha
  · exact mm_no_go (mm_if ha).2
  · cases ha
theorem mm_no_ast {t0 : Nat → Bool} (ha : mm_ast t0 pc ls st h c z = some (.inr x)) : False := by
  unfold mm_ast at ha
  split at ha
  · split at ha
    · exact mm_no_go (mm_if ha).2
    · cases ha
  · split at ha
    · exact mm_no_go (mm_if ha).2
    · cases ha
  · cases ha
theorem mm_no_alen (ha : mm_alen L pc ls st h c z = some (.inr x)) : False := by
  unfold mm_alen at ha
  split at ha
  · split at ha
    · exact mm_no_go (mm_if ha).2
    · cases ha
  · exact mm_no_go ha
  · cases ha
theorem mm_no_newa {t : ArrayType} (ha : mm_newa t pc ls st h c z = some (.inr x)) : False := by
  unfold mm_newa at ha
  split at ha
  · split at ha
    · cases ha
    · exact mm_no_go ha
  · cases ha
/-- a method's end at pc -/
def mm_Ret (me : mm_Me) (v : Option Value) (pc : Nat) : Prop := (v = none ∧ me.2.2.2.2.1 = none ∧ decode me.2.2.1 pc = .ok (.return_, 1)) ∨ ∃ (y : Int32) (ty : FieldType), v = some (.int y) ∧ me.2.2.2.2.1 = some ty ∧ (ty = .int ∨ ty = .boolean) ∧ narrow ty (.int y) = .int y ∧ decode me.2.2.1 pc = .ok (.ireturn, 1)
/-- a throw at pc -/
def mm_Thr (me : mm_Me) (E : String) (pc : Nat) (st : List Value) : Prop := me.2.2.2.2.2.1 = [] ∧ (st.map fun v => v.category).sum ≤ 8 ∧ ∃ (ix si ic : Nat), (me.1, ix, E, si, ic) ∈ [(RX1, 36, "java/lang/IllegalStateException", 38, 40), (RX5, 69, "java/util/NoSuchElementException", 71, 73), (RX5, 69, "java/util/NoSuchElementException", 92, 73), (RX5, 69, "java/util/NoSuchElementException", 94, 73)] ∧
  decode me.2.2.1 pc = .ok (.new ix, 3) ∧ decode me.2.2.1 (pc + 3) = .ok (.dup, 1) ∧ decode me.2.2.1 (pc + 4) = .ok (.ldc si, 2) ∧ decode me.2.2.1 (pc + 6) = .ok (.invokespecial ic, 3) ∧ decode me.2.2.1 (pc + 9) = .ok (.athrow, 1)
/-- a call at pc -/
def mm_Cal (me : mm_Me) (pc : Nat) (ls : mm_L) (st : List Value) (h : mm_H) (c z : Nat) (x : (Option Value) ⊕ (String ⊕ (Nat × List Value × List Value × Bool))) : Prop := ∃ (op ix : Nat), mm_call me op ix pc ls st h c z = some (.inr x) ∧ (op = 0 → decode me.2.2.1 pc = .ok (.invokevirtual ix, 3)) ∧ (op = 1 → decode me.2.2.1 pc = .ok (.invokestatic ix, 3)) ∧ (op = 2 → decode me.2.2.1 pc = .ok (.invokespecial ix, 3))
theorem mm_call_x {op : Nat} (ha : mm_call me op ix pc ls st h c z = some (.inr x)) : ∃ q, x = .inr (.inr q) := by
  unfold mm_call at ha
  split at ha
  · split at ha
    · split at ha
      · exact (mm_no_go (mm_if ha).2).elim
      · cases ha
    · split at ha
      · split at ha
        · exact (mm_no_go (mm_if ha).2).elim
        · cases ha
      · split at ha
        · cases ha
        · split at ha
          · cases ha
          · split at ha
            · have ha := (mm_if ha).2
              cases ha
              exact ⟨_, rfl⟩
            · split at ha
              · split at ha
                · have ha := (mm_if ha).2
                  cases ha
                  exact ⟨_, rfl⟩
                · cases ha
              · cases ha
  · cases ha
set_option maxHeartbeats 4000000 in
theorem mm_act_x {i : Instr} (hdg : decode me.2.2.1 pc = .ok (i, len)) (ha : mm_act me xs L i len pc ls st h c z = some (.inr x)) :
    (∃ v, x = .inl v ∧ st = v.toList ∧ mm_Ret me v pc) ∨ (∃ E, x = .inr (.inl E) ∧ mm_Thr me E pc st) ∨ mm_Cal me pc ls st h c z x := by
  cases i with
  | aload_n k => exact (mm_no_load (mm_if ha).2).elim
  | iload_n k => exact (mm_no_load (mm_if ha).2).elim
  | lload_n k => exact (mm_no_load (mm_if ha).2).elim
  | aload k => exact (mm_no_load (mm_if ha).2).elim
  | iload k => exact (mm_no_load (mm_if ha).2).elim
  | astore_n k => exact (mm_no_store (mm_if ha).2).elim
  | istore_n k => exact (mm_no_store (mm_if ha).2).elim
  | astore k => exact (mm_no_store (mm_if ha).2).elim
  | istore k => exact (mm_no_store (mm_if ha).2).elim
  | iinc k n =>
    have ha := (mm_if ha).2
    split at ha <;> first | exact (mm_no_go ha).elim | cases ha
  | iconst n => exact (mm_no_go (mm_if ha).2).elim
  | bipush n => exact (mm_no_go (mm_if ha).2).elim
  | sipush n => exact (mm_no_go (mm_if ha).2).elim
  | ldc n =>
    have ha := (mm_if ha).2
    split at ha <;> first | exact (mm_no_go ha).elim | cases ha
  | ldc2_w n =>
    have ha := (mm_if ha).2
    split at ha <;> first | exact (mm_no_go ha).elim | cases ha
  | iadd => exact (mm_no_i2 (mm_if ha).2).elim
  | isub => exact (mm_no_i2 (mm_if ha).2).elim
  | imul => exact (mm_no_i2 (mm_if ha).2).elim
  | iand => exact (mm_no_i2 (mm_if ha).2).elim
  | ior => exact (mm_no_i2 (mm_if ha).2).elim
  | ishl => exact (mm_no_i2 (mm_if ha).2).elim
  | ishr => exact (mm_no_i2 (mm_if ha).2).elim
  | land => exact (mm_no_l2 (mm_if ha).2).elim
  | lor => exact (mm_no_l2 (mm_if ha).2).elim
  | lshl => exact (mm_no_ls (mm_if ha).2).elim
  | lshr => exact (mm_no_ls (mm_if ha).2).elim
  | lushr => exact (mm_no_ls (mm_if ha).2).elim
  | lcmp =>
    have ha := (mm_if ha).2
    split at ha <;> first | exact (mm_no_go ha).elim | cases ha
  | i2l =>
    have ha := (mm_if ha).2
    split at ha <;> first | exact (mm_no_go ha).elim | cases ha
  | i2b =>
    have ha := (mm_if ha).2
    split at ha <;> first | exact (mm_no_go ha).elim | cases ha
  | l2i =>
    have ha := (mm_if ha).2
    split at ha <;> first | exact (mm_no_go ha).elim | cases ha
  | dup =>
    have ha := (mm_if ha).2
    split at ha <;> first | exact (mm_no_go (mm_if ha).2).elim | cases ha
  | dup2 =>
    have ha := (mm_if ha).2
    split at ha <;> first | exact (mm_no_go (mm_if ha).2).elim | cases ha
  | pop =>
    have ha := (mm_if ha).2
    split at ha <;> first | exact (mm_no_go (mm_if ha).2).elim | cases ha
  | goto off =>
    have ha := (mm_if ha).2
    split at ha <;> first | exact (mm_no_go ha).elim | cases ha
  | ifCond cd off =>
    have ha := (mm_if ha).2
    split at ha <;> first | exact (mm_no_br ha).elim | cases ha
  | if_icmp cd off =>
    have ha := (mm_if ha).2
    split at ha <;> first | exact (mm_no_br ha).elim | cases ha
  | tableswitch dflt lo hi offs =>
    dsimp only [mm_act] at ha
    split at ha
    · split at ha
      · exact (mm_no_go (mm_if ha).2).elim
      · cases ha
    · cases ha
  | lookupswitch dflt ps =>
    dsimp only [mm_act] at ha
    split at ha
    · have ha := (mm_if ha).2
      split at ha
      · exact (mm_no_go ha).elim
      · cases ha
    · cases ha
  | getfield ix => exact (mm_no_getf (mm_if ha).2).elim
  | putfield ix => exact (mm_no_putf (mm_if ha).2).elim
  | iaload => exact (mm_no_ald (mm_if ha).2).elim
  | baload => exact (mm_no_ald (mm_if ha).2).elim
  | laload => exact (mm_no_ald (mm_if ha).2).elim
  | iastore => exact (mm_no_ast (mm_if ha).2).elim
  | bastore => exact (mm_no_ast (mm_if ha).2).elim
  | lastore => exact (mm_no_ast (mm_if ha).2).elim
  | arraylength => exact (mm_no_alen (mm_if ha).2).elim
  | newarray t => exact (mm_no_newa (mm_if ha).2).elim
  | new ix =>
    have hh := mm_if ha; clear ha; obtain ⟨rfl, ha⟩ := hh
    unfold mm_new at ha
    split at ha
    · split at ha
      · exact (mm_no_go ha).elim
      · cases ha
    · split at ha
      · rename_i d1 d2 d3 d4
        obtain ⟨⟨g1, g2, g3⟩, ha⟩ := mm_if ha
        cases ha
        exact Or.inr (Or.inl ⟨_, rfl, g1, g2, _, _, _, g3, hdg, d1, d2, d3, d4⟩)
      · cases ha
  | invokevirtual ix =>
    have hh := mm_if ha; clear ha; obtain ⟨rfl, ha⟩ := hh
    exact Or.inr (Or.inr ⟨0, ix, ha, fun _ => hdg, fun q => (by cases q), fun q => (by cases q)⟩)
  | invokestatic ix =>
    have hh := mm_if ha; clear ha; obtain ⟨rfl, ha⟩ := hh
    exact Or.inr (Or.inr ⟨1, ix, ha, fun q => (by cases q), fun _ => hdg, fun q => (by cases q)⟩)
  | invokespecial ix =>
    have hh := mm_if ha; clear ha; obtain ⟨rfl, ha⟩ := hh
    exact Or.inr (Or.inr ⟨2, ix, ha, fun q => (by cases q), fun q => (by cases q), fun _ => hdg⟩)
  | return_ =>
    have hh := mm_if ha; clear ha; obtain ⟨rfl, ha⟩ := hh
    unfold mm_ret0 at ha
    split at ha
    · rename_i hrt
      cases ha
      exact Or.inl ⟨none, rfl, rfl, Or.inl ⟨rfl, hrt, hdg⟩⟩
    · cases ha
  | ireturn =>
    have hh := mm_if ha; clear ha; obtain ⟨rfl, ha⟩ := hh
    unfold mm_retv at ha
    split at ha
    · rename_i ty v hrt
      obtain ⟨⟨g1, g2⟩, ha⟩ := mm_if ha
      cases ha
      exact Or.inl ⟨some (.int v), rfl, rfl, Or.inr ⟨v, ty, rfl, hrt, g1, g2, hdg⟩⟩
    · cases ha
  | _ => cases ha
end MMJ
