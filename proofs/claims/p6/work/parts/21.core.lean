/-! A pure reading of the code: results, and rules that go along it. -/
abbrev Rs (σ : Type) : Type := Option ((Nat × σ) ⊕ σ)
/-- a number, or -1 for 0: one above the number -/
def oI (g : Nat) : Int32 := match g with
  | 0 => -1
  | n + 1 => nI n
theorem oI_p {g : Nat} (h : g ≠ 0) : oI g = nI (g - 1) := by
  cases g with
  | zero => exact absurd rfl h
  | succ n => rfl
theorem oI_inc (g : Nat) : oI g + nI 1 = nI g := by
  cases g with
  | zero => rfl
  | succ n => exact (nI_succ n).symm
theorem oI_dec (g : Nat) : nI g - nI 1 = oI g := by
  cases g with
  | zero => rfl
  | succ n => exact nI_pred n
theorem oI_dec2 {g : Nat} (h : g ≠ 0) : oI g + Int32.ofInt (-1) = oI (g - 1) := by
  rw [oI_p h, ← oI_dec, Int32.sub_eq_add_neg]; rfl
theorem oI_neg {g : Nat} (hg : g < 2147483648) : oI g < 0 ↔ g = 0 := by
  cases g with
  | zero => exact ⟨fun _ => rfl, fun _ => by decide⟩
  | succ n => exact ⟨fun h => absurd h (nI_pos (by omega)), fun h => by cases h⟩
theorem oI_eq {a b : Nat} (ha : a < 2147483648) (hb : b < 2147483648) : oI a = oI b ↔ a = b := by
  refine ⟨fun h => ?_, fun h => by rw [h]⟩
  cases a with
  | zero => cases b with
    | zero => rfl
    | succ n => exact absurd ((oI_neg hb).mp (h ▸ (by decide : oI 0 < 0))) (by omega)
  | succ m => cases b with
    | zero => exact absurd ((oI_neg ha).mp (h ▸ (by decide : oI 0 < 0))) (by omega)
    | succ n => rw [(nI_eq (by omega) (by omega)).mp h]
theorem b01 {v : Nat} (h : v < 2) : nI v = 0 ∨ nI v = 1 := by
  have : v = 0 ∨ v = 1 := by omega
  rcases this with rfl | rfl
  · exact Or.inl rfl
  · exact Or.inr rfl
section PURE
variable {σ : Type}
def okR (v : Nat) (s : σ) : Rs σ := some (.inl (v, s))
def erR (s : σ) : Rs σ := some (.inr s)
def bn (r : Rs σ) (k : Nat → σ → Rs σ) : Rs σ := match r with
  | some (.inl (v, s)) => k v s
  | some (.inr s) => some (.inr s)
  | none => none
def ck (P : Prop) [Decidable P] (r : Rs σ) : Rs σ := if P then r else none
def ifz (v : Nat) (A B : Rs σ) : Rs σ := if v < 2147483648 then (if v = 0 then A else B) else none
def ife (a b : Nat) (A B : Rs σ) : Rs σ := if a < 2147483648 ∧ b < 2147483648 then (if a = b then A else B) else none
def ifl (a b : Nat) (A B : Rs σ) : Rs σ := if a < 2147483648 ∧ b < 2147483648 then (if a < b then A else B) else none
def eN (n : Nat) : Option Value := some (.int (nI n))
def eU (_ : Nat) : Option Value := none
def ou (e : Nat → Option Value) (T : σ → mm_H) (r : Rs σ) : mm_R := match r with
  | some (.inl (v, s)) => (.inl (e v), T s, 0, 0)
  | some (.inr s) => (.inr mm_ISE, T s, 1, 6)
  | none => (.inl none, [], 0, 0)
theorem bn_ok {v : Nat} {s : σ} {k : Nat → σ → Rs σ} : bn (okR v s) k = k v s := rfl
theorem bn_er {s : σ} {k : Nat → σ → Rs σ} : bn (erR s) k = erR s := rfl
theorem ck_t {P : Prop} [Decidable P] {r : Rs σ} (h : P) : ck P r = r := if_pos h
theorem ifz_0 {A B : Rs σ} : ifz 0 A B = A := rfl
theorem ifz_1 {A B : Rs σ} : ifz 1 A B = B := rfl
theorem ifz_b {P : Prop} [Decidable P] {A B : Rs σ} : ifz (if P then 1 else 0) A B = if P then B else A := by
  by_cases h : P
  · rw [if_pos h, if_pos h]; rfl
  · rw [if_neg h, if_neg h]; rfl
theorem ifz_of {v : Nat} {A B : Rs σ} (h : v < 2147483648) : ifz v A B = if v = 0 then A else B := if_pos h
theorem ife_of {a b : Nat} {A B : Rs σ} (ha : a < 2147483648) (hb : b < 2147483648) : ife a b A B = if a = b then A else B := if_pos ⟨ha, hb⟩
theorem ifl_of {a b : Nat} {A B : Rs σ} (ha : a < 2147483648) (hb : b < 2147483648) : ifl a b A B = if a < b then A else B := if_pos ⟨ha, hb⟩
end PURE
theorem lk_hit {ls : mm_L} {i : Nat} {v : Value} : mm_lk (mm_s1 ls i v) i = some v := by
  simp [mm_lk, mm_s1]
theorem lk_find {w : Value} (hw : w.category = 1) {i j : Nat} (hj : j ≠ i) : ∀ ls : mm_L, mm_lk ls j = some w → mm_lk (ls.filter (fun q => !(q.1 == i) && !(q.1 + 1 == i && q.2.category == 2))) j = some w := by
  intro ls
  induction ls with
  | nil => intro h; exact h
  | cons q r ih =>
    intro h
    by_cases hq : q.1 = j
    · have h2 : q.2 = w := by simpa [mm_lk, hq] using h
      have hk : (!(q.1 == i) && !(q.1 + 1 == i && q.2.category == 2)) = true := by
        rw [h2, hw, hq]; simp [hj]
      rw [List.filter_cons, if_pos hk]
      simp [mm_lk, hq, h2]
    · have h2 : mm_lk r j = some w := by simpa [mm_lk, hq] using h
      rw [List.filter_cons]
      split
      · have := ih h2
        simpa [mm_lk, hq] using this
      · exact ih h2
theorem lk_mis {ls : mm_L} {i j : Nat} {v w : Value} (hj : j ≠ i) (hw : w.category = 1) (h : mm_lk ls j = some w) : mm_lk (mm_s1 ls i v) j = some w := by
  have := lk_find hw hj ls h
  have hij : i ≠ j := fun q => hj q.symm
  simpa [mm_lk, mm_s1, hij] using this
theorem lk_dflt {dflt w : Int} : ∀ (ps : List (Int × Int)), (∀ q ∈ ps, q.1 ≠ w) → Op.lookupswitch.offset ps dflt w = dflt := by
  intro ps
  induction ps with
  | nil => intro _; rfl
  | cons q r ih =>
    intro h
    obtain ⟨a, o⟩ := q
    rw [Op.lookupswitch.offset_cons, if_neg (h (a, o) List.mem_cons_self)]
    exact ih (fun q hq => h q (List.mem_cons_of_mem _ hq))
section EVS
variable {σ : Type} {e e2 : Nat → Option Value} {T : σ → mm_H} {xs : Nat → Int32} {L d mi pc : Nat} {ls : mm_L} {st : List Value} {h : mm_H} {c z : Nat} {o : mm_R} {own nm : String} {cc : ByteArray} {nL : Nat} {rt : Option FieldType} {A B r : Rs σ} {k : Nat → σ → Rs σ} {s : σ} {v w a b t : Nat} {off : Int}
/-- a call of a method that has a pure reading r -/
theorem e_cvB {ix kind mj np nL9 q cj : Nat} {C : String} {as rst : List Value} {fs : List Value} (hN : bn r k ≠ none) (hm : Is mi own cc nL rt nm) (hd : decode cc pc = .ok (.invokevirtual ix, 3)) (hK : Cal own ix kind mj np nL9 C) (hk : kind = 0 ∨ kind = 1) (hn : as.length = np) (hst : st = as.reverse ++ .ref q :: rst) (hh : (T s)[q]? = some (.inr (cj, fs))) (hcl : (mm_cl[cj]?).map (fun q => q.1) = some C) (hs : (rst.map fun v => v.category).sum ≤ 8) (hlg : (lg_sl (.ref q :: as)).length ≤ nL9) (hd2 : 2 ≤ d)
    (hr : r ≠ none → Rn xs L (d - 1) mj (.ref q :: as) (T s) (ou e2 T r)) (K : ∀ v s', k v s' ≠ none → Ev xs L d mi (pc + 3) ls ((e2 v).toList ++ rst) (T s') 0 0 (ou e T (k v s'))) : Ev xs L d mi pc ls st (T s) 0 0 (ou e T (bn r k)) := by
  cases r with
  | none => exact absurd rfl hN
  | some y =>
    have hr := hr (by simp)
    cases y with
    | inl y =>
      obtain ⟨v, s'⟩ := y
      exact e_cv hm hd hK (by omega) hn hst hh hcl hs hlg hd2 hr (K v s' hN)
    | inr s' => exact e_cvX hm hd hK hk hn hst hh hcl hs hlg hd2 hr
theorem e_cvN {ix kind mj np nL9 q cj : Nat} {C : String} {as rst : List Value} {fs : List Value} (hN : bn r k ≠ none) (hm : Is mi own cc nL rt nm) (hd : decode cc pc = .ok (.invokevirtual ix, 3)) (hK : Cal own ix kind mj np nL9 C) (hk : kind = 0 ∨ kind = 1) (hn : as.length = np) (hst : st = as.reverse ++ .ref q :: rst) (hh : (T s)[q]? = some (.inr (cj, fs))) (hcl : (mm_cl[cj]?).map (fun q => q.1) = some C) (hs : (rst.map fun v => v.category).sum ≤ 8) (hlg : (lg_sl (.ref q :: as)).length ≤ nL9) (hd2 : 2 ≤ d)
    (hr : r ≠ none → Rn xs L (d - 1) mj (.ref q :: as) (T s) (ou eN T r)) (K : ∀ v s', k v s' ≠ none → Ev xs L d mi (pc + 3) ls (.int (nI v) :: rst) (T s') 0 0 (ou e T (k v s'))) : Ev xs L d mi pc ls st (T s) 0 0 (ou e T (bn r k)) :=
  e_cvB hN hm hd hK hk hn hst hh hcl hs hlg hd2 hr K
theorem e_cvU {ix kind mj np nL9 q cj : Nat} {C : String} {as rst : List Value} {fs : List Value} (hN : bn r k ≠ none) (hm : Is mi own cc nL rt nm) (hd : decode cc pc = .ok (.invokevirtual ix, 3)) (hK : Cal own ix kind mj np nL9 C) (hk : kind = 0 ∨ kind = 1) (hn : as.length = np) (hst : st = as.reverse ++ .ref q :: rst) (hh : (T s)[q]? = some (.inr (cj, fs))) (hcl : (mm_cl[cj]?).map (fun q => q.1) = some C) (hs : (rst.map fun v => v.category).sum ≤ 8) (hlg : (lg_sl (.ref q :: as)).length ≤ nL9) (hd2 : 2 ≤ d)
    (hr : r ≠ none → Rn xs L (d - 1) mj (.ref q :: as) (T s) (ou eU T r)) (K : ∀ v s', k v s' ≠ none → Ev xs L d mi (pc + 3) ls rst (T s') 0 0 (ou e T (k v s'))) : Ev xs L d mi pc ls st (T s) 0 0 (ou e T (bn r k)) :=
  e_cvB hN hm hd hK hk hn hst hh hcl hs hlg hd2 hr K
/-- a static call: it throws nothing -/
theorem e_csN {ix kind mj np nL9 : Nat} {C : String} {as rst : List Value} {g : Nat} (hN : bn (okR g s) k ≠ none) (hm : Is mi own cc nL rt nm) (hd : decode cc pc = .ok (.invokestatic ix, 3)) (hK : Cal own ix kind mj np nL9 C) (hk : kind = 2 ∨ kind = 3 ∨ kind = 9) (hn : as.length = np) (hst : st = as.reverse ++ rst) (hs : (rst.map fun v => v.category).sum ≤ 8) (hlg : (lg_sl as).length ≤ nL9) (hd2 : 2 ≤ d)
    (hr : Rn xs L (d - 1) mj as (T s) (.inl (some (.int (nI g))), T s, 0, 0)) (K : k g s ≠ none → Ev xs L d mi (pc + 3) ls (.int (nI g) :: rst) (T s) 0 0 (ou e T (k g s))) : Ev xs L d mi pc ls st (T s) 0 0 (ou e T (bn (okR g s) k)) :=
  e_cs hm hd hK hk hn hst hs hlg hd2 hr (K hN)
theorem e_ck {P : Prop} [Decidable P] (hN : ck P r ≠ none) (K : P → r ≠ none → Ev xs L d mi pc ls st h c z (ou e T r)) : Ev xs L d mi pc ls st h c z (ou e T (ck P r)) := by
  by_cases hp : P
  · rw [ck_t hp] at hN ⊢; exact K hp hN
  · exact absurd (if_neg hp) hN
theorem ifz_bd (hN : ifz v A B ≠ none) : v < 2147483648 := by
  by_cases hv : v < 2147483648
  · exact hv
  · exact absurd (if_neg hv) hN
theorem ife_bd (hN : ife a b A B ≠ none) : a < 2147483648 ∧ b < 2147483648 := by
  by_cases hv : a < 2147483648 ∧ b < 2147483648
  · exact hv
  · exact absurd (if_neg hv) hN
theorem ifl_bd (hN : ifl a b A B ≠ none) : a < 2147483648 ∧ b < 2147483648 := by
  by_cases hv : a < 2147483648 ∧ b < 2147483648
  · exact hv
  · exact absurd (if_neg hv) hN
theorem nI_z (hv : v < 2147483648) : nI v = 0 ↔ v = 0 := nI_eq (b := 0) hv (by decide)
theorem nI_lz (hv : v < 2147483648) : nI v ≤ 0 ↔ v = 0 := by
  rw [← nI_0, nI_leI hv (by decide)]; omega
theorem nI_gz (hv : v < 2147483648) : 0 < nI v ↔ v ≠ 0 := by
  rw [← nI_0, nI_ltI (by decide) hv]; omega
/-- the machine doesn't move: a test of the pure reading -/
theorem sw_c (hN : ife a b A B ≠ none) (K1 : a = b → A ≠ none → Ev xs L d mi pc ls st h c z (ou e T A)) (K2 : a ≠ b → B ≠ none → Ev xs L d mi pc ls st h c z (ou e T B)) : Ev xs L d mi pc ls st h c z (ou e T (ife a b A B)) := by
  obtain ⟨h1, h2⟩ := ife_bd hN
  rw [ife_of h1 h2] at hN ⊢
  by_cases hv : a = b
  · rw [if_pos hv] at hN ⊢; exact K1 hv hN
  · rw [if_neg hv] at hN ⊢; exact K2 hv hN
theorem sw_z (hN : ifz v A B ≠ none) (K1 : v = 0 → A ≠ none → Ev xs L d mi pc ls st h c z (ou e T A)) (K2 : v ≠ 0 → B ≠ none → Ev xs L d mi pc ls st h c z (ou e T B)) : Ev xs L d mi pc ls st h c z (ou e T (ifz v A B)) := by
  have h1 := ifz_bd hN
  rw [ifz_of h1] at hN ⊢
  by_cases hv : v = 0
  · rw [if_pos hv] at hN ⊢; exact K1 hv hN
  · rw [if_neg hv] at hN ⊢; exact K2 hv hN
theorem sw_l (hN : ifl a b A B ≠ none) (K1 : a < b → A ≠ none → Ev xs L d mi pc ls st h c z (ou e T A)) (K2 : ¬ a < b → B ≠ none → Ev xs L d mi pc ls st h c z (ou e T B)) : Ev xs L d mi pc ls st h c z (ou e T (ifl a b A B)) := by
  obtain ⟨h1, h2⟩ := ifl_bd hN
  rw [ifl_of h1 h2] at hN ⊢
  by_cases hv : a < b
  · rw [if_pos hv] at hN ⊢; exact K1 hv hN
  · rw [if_neg hv] at hN ⊢; exact K2 hv hN
theorem e_ifT {cd : ClassFile.Cond} {w : Int32} (hm : Is mi own cc nL rt nm) (hd : decode cc pc = .ok (.ifCond cd off, 3)) (ht : mm_jump pc off = some t) (hc : mm_cond cd w 0 = true) (K : Ev xs L d mi t ls st h c z o) : Ev xs L d mi pc ls (.int w :: st) h c z o :=
  e_if hm hd ht (fun _ => K) (fun q => by rw [hc] at q; cases q)
theorem e_ifF {cd : ClassFile.Cond} {w : Int32} (hm : Is mi own cc nL rt nm) (hd : decode cc pc = .ok (.ifCond cd off, 3)) (ht : mm_jump pc off = some t) (hc : mm_cond cd w 0 = false) (K : Ev xs L d mi (pc + 3) ls st h c z o) : Ev xs L d mi pc ls (.int w :: st) h c z o :=
  e_if hm hd ht (fun q => by rw [hc] at q; cases q) (fun _ => K)
theorem e_icT {cd : ClassFile.Cond} {w v : Int32} (hm : Is mi own cc nL rt nm) (hd : decode cc pc = .ok (.if_icmp cd off, 3)) (ht : mm_jump pc off = some t) (hc : mm_cond cd w v = true) (K : Ev xs L d mi t ls st h c z o) : Ev xs L d mi pc ls (.int v :: .int w :: st) h c z o :=
  e_icmp hm hd ht (fun _ => K) (fun q => by rw [hc] at q; cases q)
theorem e_icF {cd : ClassFile.Cond} {w v : Int32} (hm : Is mi own cc nL rt nm) (hd : decode cc pc = .ok (.if_icmp cd off, 3)) (ht : mm_jump pc off = some t) (hc : mm_cond cd w v = false) (K : Ev xs L d mi (pc + 3) ls st h c z o) : Ev xs L d mi pc ls (.int v :: .int w :: st) h c z o :=
  e_icmp hm hd ht (fun q => by rw [hc] at q; cases q) (fun _ => K)
theorem e_ifeq (hN : ifz v A B ≠ none) (hm : Is mi own cc nL rt nm) (hd : decode cc pc = .ok (.ifCond .eq off, 3)) (ht : mm_jump pc off = some t) (K1 : v = 0 → A ≠ none → Ev xs L d mi t ls st h c z (ou e T A)) (K2 : v ≠ 0 → B ≠ none → Ev xs L d mi (pc + 3) ls st h c z (ou e T B)) : Ev xs L d mi pc ls (.int (nI v) :: st) h c z (ou e T (ifz v A B)) :=
  sw_z hN (fun q n => e_ifT hm hd ht (decide_eq_true ((nI_z (ifz_bd hN)).mpr q)) (K1 q n)) (fun q n => e_ifF hm hd ht (decide_eq_false (fun w => q ((nI_z (ifz_bd hN)).mp w))) (K2 q n))
theorem e_ifne (hN : ifz v A B ≠ none) (hm : Is mi own cc nL rt nm) (hd : decode cc pc = .ok (.ifCond .ne off, 3)) (ht : mm_jump pc off = some t) (K1 : v = 0 → A ≠ none → Ev xs L d mi (pc + 3) ls st h c z (ou e T A)) (K2 : v ≠ 0 → B ≠ none → Ev xs L d mi t ls st h c z (ou e T B)) : Ev xs L d mi pc ls (.int (nI v) :: st) h c z (ou e T (ifz v A B)) :=
  sw_z hN (fun q n => e_ifF hm hd ht (decide_eq_false (fun w => w ((nI_z (ifz_bd hN)).mpr q))) (K1 q n)) (fun q n => e_ifT hm hd ht (decide_eq_true (fun w => q ((nI_z (ifz_bd hN)).mp w))) (K2 q n))
theorem e_ifle (hN : ifz v A B ≠ none) (hm : Is mi own cc nL rt nm) (hd : decode cc pc = .ok (.ifCond .le off, 3)) (ht : mm_jump pc off = some t) (K1 : v = 0 → A ≠ none → Ev xs L d mi t ls st h c z (ou e T A)) (K2 : v ≠ 0 → B ≠ none → Ev xs L d mi (pc + 3) ls st h c z (ou e T B)) : Ev xs L d mi pc ls (.int (nI v) :: st) h c z (ou e T (ifz v A B)) :=
  sw_z hN (fun q n => e_ifT hm hd ht (decide_eq_true ((nI_lz (ifz_bd hN)).mpr q)) (K1 q n)) (fun q n => e_ifF hm hd ht (decide_eq_false (fun w => q ((nI_lz (ifz_bd hN)).mp w))) (K2 q n))
theorem e_ifgt (hN : ifz v A B ≠ none) (hm : Is mi own cc nL rt nm) (hd : decode cc pc = .ok (.ifCond .gt off, 3)) (ht : mm_jump pc off = some t) (K1 : v = 0 → A ≠ none → Ev xs L d mi (pc + 3) ls st h c z (ou e T A)) (K2 : v ≠ 0 → B ≠ none → Ev xs L d mi t ls st h c z (ou e T B)) : Ev xs L d mi pc ls (.int (nI v) :: st) h c z (ou e T (ifz v A B)) :=
  sw_z hN (fun q n => e_ifF hm hd ht (decide_eq_false (fun w => (nI_gz (ifz_bd hN)).mp w q)) (K1 q n)) (fun q n => e_ifT hm hd ht (decide_eq_true ((nI_gz (ifz_bd hN)).mpr q)) (K2 q n))
/-- on -1 or a number -/
theorem e_oiflt (hN : ifz v A B ≠ none) (hm : Is mi own cc nL rt nm) (hd : decode cc pc = .ok (.ifCond .lt off, 3)) (ht : mm_jump pc off = some t) (K1 : v = 0 → A ≠ none → Ev xs L d mi t ls st h c z (ou e T A)) (K2 : v ≠ 0 → B ≠ none → Ev xs L d mi (pc + 3) ls st h c z (ou e T B)) : Ev xs L d mi pc ls (.int (oI v) :: st) h c z (ou e T (ifz v A B)) :=
  sw_z hN (fun q n => e_ifT hm hd ht (decide_eq_true ((oI_neg (ifz_bd hN)).mpr q)) (K1 q n)) (fun q n => e_ifF hm hd ht (decide_eq_false (fun w => q ((oI_neg (ifz_bd hN)).mp w))) (K2 q n))
theorem oI_nn (hv : v < 2147483648) : (0 : Int32) ≤ oI v ↔ v ≠ 0 := by
  rw [← Int32.not_lt, oI_neg hv]
theorem e_oifge (hN : ifz v A B ≠ none) (hm : Is mi own cc nL rt nm) (hd : decode cc pc = .ok (.ifCond .ge off, 3)) (ht : mm_jump pc off = some t) (K1 : v = 0 → A ≠ none → Ev xs L d mi (pc + 3) ls st h c z (ou e T A)) (K2 : v ≠ 0 → B ≠ none → Ev xs L d mi t ls st h c z (ou e T B)) : Ev xs L d mi pc ls (.int (oI v) :: st) h c z (ou e T (ifz v A B)) :=
  sw_z hN (fun q n => e_ifF hm hd ht (decide_eq_false (fun w => (oI_nn (ifz_bd hN)).mp w q)) (K1 q n)) (fun q n => e_ifT hm hd ht (decide_eq_true ((oI_nn (ifz_bd hN)).mpr q)) (K2 q n))
theorem n_nlt (hv : v < 2147483648) : mm_cond .lt (nI v) 0 = false := decide_eq_false (nI_pos hv)
theorem n_ge (hv : v < 2147483648) : mm_cond .ge (nI v) 0 = true := decide_eq_true (nI_pos' hv)
theorem e_ieq (hN : ife a b A B ≠ none) (hm : Is mi own cc nL rt nm) (hd : decode cc pc = .ok (.if_icmp .eq off, 3)) (ht : mm_jump pc off = some t) (K1 : a = b → A ≠ none → Ev xs L d mi t ls st h c z (ou e T A)) (K2 : a ≠ b → B ≠ none → Ev xs L d mi (pc + 3) ls st h c z (ou e T B)) : Ev xs L d mi pc ls (.int (nI b) :: .int (nI a) :: st) h c z (ou e T (ife a b A B)) :=
  sw_c hN (fun q n => e_icT hm hd ht (decide_eq_true (by rw [q])) (K1 q n)) (fun q n => e_icF hm hd ht (decide_eq_false (fun w => q ((nI_eq (ife_bd hN).1 (ife_bd hN).2).mp w))) (K2 q n))
theorem e_ine (hN : ife a b A B ≠ none) (hm : Is mi own cc nL rt nm) (hd : decode cc pc = .ok (.if_icmp .ne off, 3)) (ht : mm_jump pc off = some t) (K1 : a = b → A ≠ none → Ev xs L d mi (pc + 3) ls st h c z (ou e T A)) (K2 : a ≠ b → B ≠ none → Ev xs L d mi t ls st h c z (ou e T B)) : Ev xs L d mi pc ls (.int (nI b) :: .int (nI a) :: st) h c z (ou e T (ife a b A B)) :=
  sw_c hN (fun q n => e_icF hm hd ht (decide_eq_false (fun w => w (by rw [q]))) (K1 q n)) (fun q n => e_icT hm hd ht (decide_eq_true (fun w => q ((nI_eq (ife_bd hN).1 (ife_bd hN).2).mp w))) (K2 q n))
theorem e_oieq (hN : ife a b A B ≠ none) (hm : Is mi own cc nL rt nm) (hd : decode cc pc = .ok (.if_icmp .eq off, 3)) (ht : mm_jump pc off = some t) (K1 : a = b → A ≠ none → Ev xs L d mi t ls st h c z (ou e T A)) (K2 : a ≠ b → B ≠ none → Ev xs L d mi (pc + 3) ls st h c z (ou e T B)) : Ev xs L d mi pc ls (.int (oI b) :: .int (oI a) :: st) h c z (ou e T (ife a b A B)) :=
  sw_c hN (fun q n => e_icT hm hd ht (decide_eq_true (by rw [q])) (K1 q n)) (fun q n => e_icF hm hd ht (decide_eq_false (fun w => q ((oI_eq (ife_bd hN).1 (ife_bd hN).2).mp w))) (K2 q n))
theorem e_oine (hN : ife a b A B ≠ none) (hm : Is mi own cc nL rt nm) (hd : decode cc pc = .ok (.if_icmp .ne off, 3)) (ht : mm_jump pc off = some t) (K1 : a = b → A ≠ none → Ev xs L d mi (pc + 3) ls st h c z (ou e T A)) (K2 : a ≠ b → B ≠ none → Ev xs L d mi t ls st h c z (ou e T B)) : Ev xs L d mi pc ls (.int (oI b) :: .int (oI a) :: st) h c z (ou e T (ife a b A B)) :=
  sw_c hN (fun q n => e_icF hm hd ht (decide_eq_false (fun w => w (by rw [q]))) (K1 q n)) (fun q n => e_icT hm hd ht (decide_eq_true (fun w => q ((oI_eq (ife_bd hN).1 (ife_bd hN).2).mp w))) (K2 q n))
theorem e_ilt (hN : ifl a b A B ≠ none) (hm : Is mi own cc nL rt nm) (hd : decode cc pc = .ok (.if_icmp .lt off, 3)) (ht : mm_jump pc off = some t) (K1 : a < b → A ≠ none → Ev xs L d mi t ls st h c z (ou e T A)) (K2 : ¬ a < b → B ≠ none → Ev xs L d mi (pc + 3) ls st h c z (ou e T B)) : Ev xs L d mi pc ls (.int (nI b) :: .int (nI a) :: st) h c z (ou e T (ifl a b A B)) :=
  sw_l hN (fun q n => e_icT hm hd ht (decide_eq_true ((nI_ltI (ifl_bd hN).1 (ifl_bd hN).2).mpr q)) (K1 q n)) (fun q n => e_icF hm hd ht (decide_eq_false (fun w => q ((nI_ltI (ifl_bd hN).1 (ifl_bd hN).2).mp w))) (K2 q n))
theorem e_ige (hN : ifl a b A B ≠ none) (hm : Is mi own cc nL rt nm) (hd : decode cc pc = .ok (.if_icmp .ge off, 3)) (ht : mm_jump pc off = some t) (K1 : a < b → A ≠ none → Ev xs L d mi (pc + 3) ls st h c z (ou e T A)) (K2 : ¬ a < b → B ≠ none → Ev xs L d mi t ls st h c z (ou e T B)) : Ev xs L d mi pc ls (.int (nI b) :: .int (nI a) :: st) h c z (ou e T (ifl a b A B)) :=
  sw_l hN (fun q n => e_icF hm hd ht (decide_eq_false (fun w => absurd ((nI_leI (ifl_bd hN).2 (ifl_bd hN).1).mp w) (by omega))) (K1 q n)) (fun q n => e_icT hm hd ht (decide_eq_true ((nI_leI (ifl_bd hN).2 (ifl_bd hN).1).mpr (by omega))) (K2 q n))
theorem e_igt (hN : ifl b a A B ≠ none) (hm : Is mi own cc nL rt nm) (hd : decode cc pc = .ok (.if_icmp .gt off, 3)) (ht : mm_jump pc off = some t) (K1 : b < a → A ≠ none → Ev xs L d mi t ls st h c z (ou e T A)) (K2 : ¬ b < a → B ≠ none → Ev xs L d mi (pc + 3) ls st h c z (ou e T B)) : Ev xs L d mi pc ls (.int (nI b) :: .int (nI a) :: st) h c z (ou e T (ifl b a A B)) :=
  sw_l hN (fun q n => e_icT hm hd ht (decide_eq_true ((nI_ltI (ifl_bd hN).1 (ifl_bd hN).2).mpr q)) (K1 q n)) (fun q n => e_icF hm hd ht (decide_eq_false (fun w => q ((nI_ltI (ifl_bd hN).1 (ifl_bd hN).2).mp w))) (K2 q n))
theorem e_ile (hN : ifl b a A B ≠ none) (hm : Is mi own cc nL rt nm) (hd : decode cc pc = .ok (.if_icmp .le off, 3)) (ht : mm_jump pc off = some t) (K1 : b < a → A ≠ none → Ev xs L d mi (pc + 3) ls st h c z (ou e T A)) (K2 : ¬ b < a → B ≠ none → Ev xs L d mi t ls st h c z (ou e T B)) : Ev xs L d mi pc ls (.int (nI b) :: .int (nI a) :: st) h c z (ou e T (ifl b a A B)) :=
  sw_l hN (fun q n => e_icF hm hd ht (decide_eq_false (fun w => absurd ((nI_leI (ifl_bd hN).2 (ifl_bd hN).1).mp w) (by omega))) (K1 q n)) (fun q n => e_icT hm hd ht (decide_eq_true ((nI_leI (ifl_bd hN).2 (ifl_bd hN).1).mpr (by omega))) (K2 q n))
theorem e_iaddN (hm : Is mi own cc nL rt nm) (hd : decode cc pc = .ok (.iadd, 1)) (K : Ev xs L d mi (pc + 1) ls (.int (nI (a + b)) :: st) h c z o) : Ev xs L d mi pc ls (.int (nI b) :: .int (nI a) :: st) h c z o := e_iadd hm hd (by rw [nI_add]; exact K)
theorem e_iaddO (hm : Is mi own cc nL rt nm) (hd : decode cc pc = .ok (.iadd, 1)) (K : Ev xs L d mi (pc + 1) ls (.int (nI a) :: st) h c z o) : Ev xs L d mi pc ls (.int (nI 1) :: .int (oI a) :: st) h c z o := e_iadd hm hd (by rw [oI_inc]; exact K)
theorem e_isubO (hm : Is mi own cc nL rt nm) (hd : decode cc pc = .ok (.isub, 1)) (K : Ev xs L d mi (pc + 1) ls (.int (oI a) :: st) h c z o) : Ev xs L d mi pc ls (.int (nI 1) :: .int (nI a) :: st) h c z o := e_isub hm hd (by rw [oI_dec]; exact K)
theorem nI_sub (hb : b ≤ a) : nI a - nI b = nI (a - b) := by
  have := nI_add (a - b) b
  rw [Nat.sub_add_cancel hb] at this
  rw [← this, Int32.add_sub_cancel]
theorem e_isubN (hb : b ≤ a) (hm : Is mi own cc nL rt nm) (hd : decode cc pc = .ok (.isub, 1)) (K : Ev xs L d mi (pc + 1) ls (.int (nI (a - b)) :: st) h c z o) : Ev xs L d mi pc ls (.int (nI b) :: .int (nI a) :: st) h c z o := e_isub hm hd (by rw [nI_sub hb]; exact K)
theorem e_iincN {i n : Nat} {ls' : mm_L} (hm : Is mi own cc nL rt nm) (hd : decode cc pc = .ok (.iinc i (n : Int), 3)) (hn : i < nL) (hk : mm_lk ls i = some (.int (nI v))) (hl : mm_s1 ls i (.int (nI (v + n))) = ls') (K : Ev xs L d mi (pc + 3) ls' st h c z o) : Ev xs L d mi pc ls st h c z o :=
  e_iinc hm hd hn hk (w := nI (v + n)) (nI_add v n) hl K
theorem e_iincO {i : Nat} {ls' : mm_L} (hv : v ≠ 0) (hm : Is mi own cc nL rt nm) (hd : decode cc pc = .ok (.iinc i (-1), 3)) (hn : i < nL) (hk : mm_lk ls i = some (.int (oI v))) (hl : mm_s1 ls i (.int (oI (v - 1))) = ls') (K : Ev xs L d mi (pc + 3) ls' st h c z o) : Ev xs L d mi pc ls st h c z o :=
  e_iinc hm hd hn hk (w := oI (v - 1)) (oI_dec2 hv) hl K
end EVS
/-- more than any loop goes round -/
def LF : Nat := 20000
