/-! A start of the model that bears the script at which the statement is false. -/
def rf_S : Array Value := #[.int 1, .int 453072148, .int 21909330, .int 1, .int 387206735, .int 1375818323, .int 1, .int 1397641042, .int 1397970176, .int 2, .int 0, .int 0, .int 6, .int 0, .int 0]
/-- words that look at the classes' tables alone -/
def rf_vm : Jvm.Cond → Bool
  | .code .. => true
  | .codeSync .. => true
  | .codeWith .. => true
  | .arrayClass .. => true
  | .castable .. => true
  | .classLink .. => true
  | .constant .. => true
  | .constantLong .. => true
  | .declares .. => true
  | .fieldLink .. => true
  | .fieldLinkNest .. => true
  | .initialized .. => true
  | .instanceMethod .. => true
  | .instantiable .. => true
  | .lays .. => true
  | .laysFinal .. => true
  | .methodLink .. => true
  | .methodLinkNest .. => true
  | .native .. => true
  | .privateMethod .. => true
  | .sameMethod .. => true
  | .selects .. => true
  | .soleField .. => true
  | .static .. => true
  | .stringRef .. => true
  | .superclass .. => true
  | _ => false
set_option maxHeartbeats 4000000 in
theorem rf_same (A B : Array Value) (c : Jvm.Cond) (h : rf_vm c = true) : c.before start1.args0 (start1.aboutOf A) = c.before start1.args0 (start1.aboutOf B) := by
  cases c <;> first | exact Bool.noConfusion (show false = true from h) | rfl
set_option maxRecDepth 16384 in
theorem rf_rest : (tables_1.filter (fun c => !rf_vm c)).all (fun c => c.before start1.args0 (start1.aboutOf rf_S)) = true := by decide +kernel
theorem rf_words : ∀ c ∈ (Jvm.Cond.code x code maxLocals ret :: tables_1), c.before start1.args0 (start1.aboutOf rf_S) = true := by
  intro c hc
  cases hv : rf_vm c with
  | true =>
    rw [rf_same rf_S start1.cells0 c hv]
    exact start1.words c hc
  | false =>
    rcases List.mem_cons.mp hc with h | h
    · rw [h] at hv; exact Bool.noConfusion (show true = false from hv)
    · exact List.all_eq_true.mp rf_rest c (List.mem_filter.mpr ⟨h, by rw [hv]; rfl⟩)
set_option maxRecDepth 16384 in
theorem rf_at : AtStart classFile x code maxLocals ret World_1 tables_1 room_1 Calls_1 rest_1 Pre_1 launch0 start1.p0 start1.e0 (start1.aboutOf rf_S) ⟨0, 0⟩ start1.args0 Lib.HandBits.below0 := by
  refine ⟨lists_1, trivial, launch0.admits_env _ _ _, launch0.least_env, fairChoices_fair.cas, fairChoices_fair.clock, rfl, by decide +kernel, by decide +kernel, ?_, trivial, (show rest_1_c.before start1.args0 (start1.aboutOf rf_S) = true by decide +kernel), (show (Jvm.Cond.and given_1 narrow_1).before start1.args0 (start1.aboutOf rf_S) = true by decide +kernel)⟩
  refine (Spec.applies_iff rfl).mpr ⟨rfl, rfl, rfl, by decide +kernel, by decide +kernel, by decide +kernel, ?_, atoms_intro rf_words⟩
  exact launch0.hasRoom_least _ room_1 (by decide +kernel) (by decide +kernel) (by decide +kernel) (by decide +kernel) (by decide +kernel) (by decide +kernel)
