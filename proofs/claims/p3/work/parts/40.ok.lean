/-! The parser of the class always ends: rules. -/
/-- the result is no 'none': P of an answer, E of a refusal -/
def Ok {σ : Type} (P : Nat → σ → Prop) (E : σ → Prop) (r : Rs σ) : Prop := match r with
  | none => False
  | some (.inl (v, s)) => P v s
  | some (.inr s) => E s
section OKR
variable {σ : Type} {P P' : Nat → σ → Prop} {E : σ → Prop} {r A B : Rs σ} {k : Nat → σ → Rs σ} {s : σ} {v a b : Nat}
theorem Ok_nn (h : Ok P E r) : r ≠ none := fun e => by rw [e] at h; exact h
theorem Ok_ret (h : P v s) : Ok P E (okR v s) := h
theorem Ok_er (h : E s) : Ok P E (erR s) := h
theorem Ok_bn (h : Ok P' E r) (K : ∀ v s', P' v s' → Ok P E (k v s')) : Ok P E (bn r k) := by
  cases r with
  | none => exact h.elim
  | some y => cases y with
    | inl y => exact K y.1 y.2 h
    | inr s' => exact h
theorem Ok_imp (h : Ok P' E r) (K : ∀ v s', P' v s' → P v s') : Ok P E r := by
  cases r with
  | none => exact h.elim
  | some y => cases y with
    | inl y => exact K y.1 y.2 h
    | inr s' => exact h
theorem Ok_ck {Q : Prop} [Decidable Q] (hq : Q) (h : Ok P E r) : Ok P E (ck Q r) := by rw [ck_t hq]; exact h
theorem Ok_ifz0 (h : Ok P E A) : Ok P E (ifz 0 A B) := h
theorem Ok_ifz1 (h : Ok P E B) : Ok P E (ifz 1 A B) := h
theorem Ok_ifz (hv : v < 2147483648) (h1 : v = 0 → Ok P E A) (h2 : v ≠ 0 → Ok P E B) : Ok P E (ifz v A B) := by
  rw [ifz_of hv]
  by_cases h : v = 0
  · rw [if_pos h]; exact h1 h
  · rw [if_neg h]; exact h2 h
theorem Ok_ife (ha : a < 2147483648) (hb : b < 2147483648) (h1 : a = b → Ok P E A) (h2 : a ≠ b → Ok P E B) : Ok P E (ife a b A B) := by
  rw [ife_of ha hb]
  by_cases h : a = b
  · rw [if_pos h]; exact h1 h
  · rw [if_neg h]; exact h2 h
theorem Ok_ifl (ha : a < 2147483648) (hb : b < 2147483648) (h1 : a < b → Ok P E A) (h2 : ¬ a < b → Ok P E B) : Ok P E (ifl a b A B) := by
  rw [ifl_of ha hb]
  by_cases h : a < b
  · rw [if_pos h]; exact h1 h
  · rw [if_neg h]; exact h2 h
theorem bn_as {j : Nat → σ → Rs σ} : bn (bn r k) j = bn r (fun v s => bn (k v s) j) := by
  cases r with
  | none => rfl
  | some y => cases y <;> rfl
end OKR
/-- what holds of the parser's state all along: the r3 are the spans -/
def Iv (cnt N : Nat) (s : Ss) : Prop := s_at s ≤ cnt ∧ s_op s ≤ 30 ∧ s_ih s < 2 ∧ s_gw s ≤ cnt ∧ s_wc s ≤ 155 ∧ s_us s ≤ N ∧ (∀ i, s_wf s i ≤ cnt) ∧ (∀ i, i < s_us s → s_r3 s i ≤ i + 1)
def Kg (cnt N : Nat) (K : Nat → Nat) : Prop := cnt ≤ 16384 ∧ N < 2147483640 ∧ (∀ i, K i < 128) ∧ (∀ i, K i ≠ 0 → i < cnt)
theorem Kg.b {cnt N : Nat} {K : Nat → Nat} (G : Kg cnt N K) (i : Nat) : K i < 2147483648 := Nat.lt_trans (G.2.2.1 i) (by decide)
section IVS
variable {cnt N v : Nat} {s : Ss}
theorem Iv_at (i : Iv cnt N s) (h : v ≤ cnt) : Iv cnt N (u_at s v) := ⟨h, i.2⟩
theorem Iv_op (i : Iv cnt N s) (h : v ≤ 30) : Iv cnt N (u_op s v) := ⟨i.1, h, i.2.2⟩
theorem Iv_ih (i : Iv cnt N s) (h : v < 2) : Iv cnt N (u_ih s v) := ⟨i.1, i.2.1, h, i.2.2.2⟩
theorem Iv_gw (i : Iv cnt N s) (h : v ≤ cnt) : Iv cnt N (u_gw s v) := ⟨i.1, i.2.1, i.2.2.1, h, i.2.2.2.2⟩
theorem Iv_wc (i : Iv cnt N s) (h : v ≤ 155) : Iv cnt N (u_wc s v) := ⟨i.1, i.2.1, i.2.2.1, i.2.2.2.1, h, i.2.2.2.2.2⟩
theorem Iv_wf (i : Iv cnt N s) {f : Nat → Nat} (h : ∀ j, f j ≤ cnt) : Iv cnt N (u_wf s f) := ⟨i.1, i.2.1, i.2.2.1, i.2.2.2.1, i.2.2.2.2.1, i.2.2.2.2.2.1, h, i.2.2.2.2.2.2.2⟩
end IVS
section OKP
variable {cnt N : Nat} {K : Nat → Nat} {P : Nat → Ss → Prop} {k : Nat → Ss → Rs Ss} {s : Ss} {x x1 x2 x3 : Nat}
theorem Ok_sees {E : Ss → Prop} (G : Kg cnt N K) (hx : x < 2147483648) (A : K (s_at s) = x → Ok P E (k 1 s)) (B : K (s_at s) ≠ x → Ok P E (k 0 s)) : Ok P E (bn (q_sees K x s) k) := by
  unfold q_sees
  rw [ife_of (G.b _) hx]
  by_cases h : K (s_at s) = x
  · rw [if_pos h]; exact A h
  · rw [if_neg h]; exact B h
theorem Ok_next {E : Ss → Prop} (G : Kg cnt N K) (i : Iv cnt N s) (A : Ok P E (k (K (s_at s + 1)) s)) : Ok P E (bn (q_nextKind K s) k) := by
  have h1 := G.1
  have h2 := i.1
  unfold q_nextKind
  rw [ck_t (show s_at s < 2147483647 by omega)]
  exact A
theorem Ok_kind {E : Ss → Prop} (hx : x < 2147483648) (A : Ok P E (k (K x) s)) : Ok P E (bn (q_kindAt K x s) k) := by
  unfold q_kindAt
  rw [ck_t hx]
  exact A
theorem Ok_take {E : Ss → Prop} (G : Kg cnt N K) (i : Iv cnt N s) (hz : K (s_at s) ≠ 0) (A : ∀ s', Iv cnt N s' → s_at s' = s_at s + 1 → s_op s' = s_op s → Ok P E (k (s_at s) s')) : Ok P E (bn (q_take s) k) := by
  have h1 := G.2.2.2 _ hz
  have h2 := G.1
  unfold q_take
  rw [ck_t (show s_at s < 2147483647 by omega)]
  exact A _ (Iv_at i (by omega)) rfl rfl
theorem Ok_accept {E : Ss → Prop} (G : Kg cnt N K) (i : Iv cnt N s) (hx : x ≠ 0) (hx2 : x < 2147483648) (A : ∀ s', Iv cnt N s' → s_at s' = s_at s + 1 → s_op s' = s_op s → Ok P E (k 1 s')) (B : K (s_at s) ≠ x → Ok P E (k 0 s)) : Ok P E (bn (b_X1_accept K N x s) k) := by
  unfold b_X1_accept
  rw [bn_as]
  refine Ok_sees G hx2 (fun h => ?_) (fun h => ?_)
  · change Ok P E (bn (ifz 1 _ _) k)
    rw [ifz_1, bn_as]
    refine Ok_take G i (by omega) (fun s' i' e o => ?_)
    change Ok P E (bn (ck (1 < 2) (okR 1 s')) k)
    rw [ck_t (by decide)]
    exact A s' i' e o
  · change Ok P E (bn (ifz 0 _ _) k)
    rw [ifz_0, ck_t (by decide)]
    exact B h
theorem Ok_expect (G : Kg cnt N K) (i : Iv cnt N s) (hx : x ≠ 0) (hx2 : x < 2147483648) (A : ∀ s', Iv cnt N s' → s_at s' = s_at s + 1 → s_op s' = s_op s → Ok P (Iv cnt N) (k (s_at s) s')) : Ok P (Iv cnt N) (bn (b_X1_expect K N x s) k) := by
  unfold b_X1_expect
  rw [bn_as]
  refine Ok_sees G hx2 (fun h => ?_) (fun h => ?_)
  · change Ok P (Iv cnt N) (bn (ifz 1 _ _) k)
    rw [ifz_1, bn_as]
    exact Ok_take G i (by omega) A
  · exact i
theorem Ok_opn (i : Iv cnt N s) (A : ∀ s', Iv cnt N s' → s_at s' = s_at s → s_op s' = s_op s + 1 → Ok P (Iv cnt N) (k 0 s')) : Ok P (Iv cnt N) (bn (b_X1_openPart K N s) k) := by
  have h1 := i.2.1
  unfold b_X1_openPart
  rw [ifl_of (by omega) (by decide)]
  by_cases h : s_op s < 30
  · rw [if_pos h]; exact A _ (Iv_op i (by omega)) rfl rfl
  · rw [if_neg h]; exact i
theorem Ok_close {E : Ss → Prop} (i : Iv cnt N s) (h0 : s_op s ≠ 0) (A : ∀ s', Iv cnt N s' → s_at s' = s_at s → s_op s' = s_op s - 1 → Ok P E (k 0 s')) : Ok P E (bn (b_X1_closePart K N s) k) := by
  have h1 := i.2.1
  unfold b_X1_closePart
  rw [ck_t h0]
  exact A _ (Iv_op i (by omega)) rfl rfl
theorem Ok_enter (G : Kg cnt N K) (i : Iv cnt N s) (hx : x ≠ 0) (hx2 : x < 2147483648) (A : ∀ s', Iv cnt N s' → s_at s' = s_at s + 1 → s_op s' = s_op s + 1 → Ok P (Iv cnt N) (k (s_at s) s')) : Ok P (Iv cnt N) (bn (b_X1_enter K N x s) k) := by
  unfold b_X1_enter
  rw [bn_as]
  refine Ok_sees G hx2 (fun h => ?_) (fun h => ?_)
  · change Ok P (Iv cnt N) (bn (ifz 1 _ _) k)
    rw [ifz_1, bn_as]
    refine Ok_opn i (fun s1 i1 e1 o1 => ?_)
    change Ok P (Iv cnt N) (bn (bn (q_take s1) _) k)
    rw [bn_as]
    refine Ok_take G i1 (by rw [e1]; omega) (fun s2 i2 e2 o2 => ?_)
    change Ok P (Iv cnt N) (k (s_at s1) s2)
    rw [e1]
    exact A s2 i2 (by omega) (by omega)
  · exact i
theorem Ok_leave (G : Kg cnt N K) (i : Iv cnt N s) (hx : x ≠ 0) (hx2 : x < 2147483648) (h0 : s_op s ≠ 0) (A : ∀ s', Iv cnt N s' → s_at s' = s_at s + 1 → s_op s' = s_op s - 1 → Ok P (Iv cnt N) (k 0 s')) : Ok P (Iv cnt N) (bn (b_X1_leave K N x s) k) := by
  unfold b_X1_leave
  rw [bn_as]
  refine Ok_expect G i hx hx2 (fun s1 i1 e1 o1 => ?_)
  change Ok P (Iv cnt N) (bn (bn (b_X1_closePart K N s1) _) k)
  rw [bn_as]
  exact Ok_close i1 (by omega) (fun s2 i2 e2 o2 => A s2 i2 (by omega) (by omega))
theorem Ok_putl (hN : N < 2147483640) {y1 y2 y3 y4 : Nat} (i : Iv cnt N s) (h4 : y4 = s_us s) (h4n : y4 < N) (h3 : y3 < 20000) (A : ∀ s', Iv cnt N s' → s_at s' = s_at s → s_op s' = s_op s → P 0 s') {E : Ss → Prop} : ∀ (f y5 y6 : Nat), 1 ≤ y5 → y5 ≤ y4 + 1 → y6 ≤ y3 → y3 < f + y6 → Ok P E (lp_X3_put_28 K N f y1 y2 y3 y4 y5 y6 s) := by
  intro f
  induction f with
  | zero => intro y5 y6 a b c d; omega
  | succ f ih =>
    intro y5 y6 a b c d
    rw [lp_X3_put_28]
    refine Ok_ifl (by omega) (by omega) (fun q => ?_) (fun q => ?_)
    · refine Ok_ck (by omega) ?_
      refine ih _ _ (by omega) ?_ (by omega) (by omega)
      unfold spO
      by_cases g0 : y4 + 1 - y5 = 0
      · rw [if_pos g0]; omega
      · rw [if_neg g0]
        by_cases g1 : y4 + 1 - y5 - 1 < N
        · rw [if_pos g1]
          have := i.2.2.2.2.2.2.2 (y4 + 1 - y5 - 1) (by omega)
          omega
        · rw [if_neg g1]; omega
    · refine Ok_ck h4n (Ok_ck h4n (Ok_ck h4n (Ok_ck h4n ?_)))
      refine Ok_ret (A _ ?_ rfl rfl)
      refine ⟨i.1, i.2.1, i.2.2.1, i.2.2.2.1, i.2.2.2.2.1, ?_, i.2.2.2.2.2.2.1, ?_⟩
      · show s_us s + 1 ≤ N
        omega
      · intro j hj
        have hj : j < s_us s + 1 := hj
        show upN (s_r3 s) y4 y5 j ≤ j + 1
        unfold upN
        by_cases e : j = y4
        · rw [if_pos e]; omega
        · rw [if_neg e]; exact i.2.2.2.2.2.2.2 j (by omega)
theorem Ok_put' (G : Kg cnt N K) {E : Ss → Prop} (i : Iv cnt N s) (h3 : x3 < 20000) (A : ∀ s', Iv cnt N s' → s_at s' = s_at s → s_op s' = s_op s → P 0 s') : Ok P E (b_X3_put K N x1 x2 x3 s) := by
  have hN := G.2.1
  have hu := i.2.2.2.2.2.1
  unfold b_X3_put
  refine Ok_ck (by omega) ?_
  refine Ok_ifl (by omega) (by omega) (fun q => ?_) (fun q => ?_)
  · exact Ok_putl hN i rfl q h3 A LF 1 0 (by omega) (by omega) (by omega) (by unfold LF; omega)
  · exact Ok_ret (A s i rfl rfl)
theorem Ok_put (G : Kg cnt N K) {E : Ss → Prop} (i : Iv cnt N s) (h3 : x3 < 20000) (A : ∀ s', Iv cnt N s' → s_at s' = s_at s → s_op s' = s_op s → Ok P E (k 0 s')) : Ok P E (bn (b_X3_put K N x1 x2 x3 s) k) :=
  Ok_bn (P' := fun v s' => v = 0 ∧ Iv cnt N s' ∧ s_at s' = s_at s ∧ s_op s' = s_op s) (Ok_put' G i h3 (fun s' a b c => ⟨rfl, a, b, c⟩)) (fun v s' h => by obtain ⟨rfl, a, b, c⟩ := h; exact A s' a b c)
theorem Ok_name (G : Kg cnt N K) (i : Iv cnt N s) (A : ∀ s', Iv cnt N s' → s_at s' = s_at s + 1 → s_op s' = s_op s → Ok P (Iv cnt N) (k 0 s')) : Ok P (Iv cnt N) (bn (b_X1_name K N s) k) := by
  unfold b_X1_name
  rw [bn_as]
  refine Ok_sees G (by decide) (fun h => ?_) (fun h => ?_)
  · change Ok P (Iv cnt N) (bn (ifz 1 _ _) k)
    rw [ifz_1, bn_as]
    refine Ok_take G i (by omega) (fun s1 i1 e1 o1 => ?_)
    change Ok P (Iv cnt N) (bn (bn (b_X3_put K N 5 (s_at s) 0 s1) _) k)
    rw [bn_as]
    exact Ok_put G i1 (by decide) (fun s2 i2 e2 o2 => A s2 i2 (by omega) (by omega))
  · exact i
theorem Ok_putLeaf (G : Kg cnt N K) {E : Ss → Prop} (i : Iv cnt N s) (hz : K (s_at s) ≠ 0) (A : ∀ s', Iv cnt N s' → s_at s' = s_at s + 1 → s_op s' = s_op s → Ok P E (k 0 s')) : Ok P E (bn (b_X1_putLeaf K N x s) k) := by
  unfold b_X1_putLeaf
  rw [bn_as]
  refine Ok_take G i hz (fun s1 i1 e1 o1 => ?_)
  change Ok P E (bn (bn (b_X3_put K N x (s_at s) 0 s1) _) k)
  rw [bn_as]
  exact Ok_put G i1 (by decide) (fun s2 i2 e2 o2 => A s2 i2 (by omega) (by omega))
theorem Ok_putGuard (G : Kg cnt N K) {E : Ss → Prop} (i : Iv cnt N s) (hg : s_gw s ≠ 0) (hx : x < 20000) (A : ∀ s', Iv cnt N s' → s_at s' = s_at s → s_op s' = s_op s → Ok P E (k 0 s')) : Ok P E (bn (b_X1_putGuard K N x s) k) := by
  unfold b_X1_putGuard
  rw [ck_t hg, bn_as]
  exact Ok_put G i hx (fun s2 i2 e2 o2 => A _ (Iv_gw i2 (Nat.zero_le _)) e2 o2)
theorem Ok_await {E : Ss → Prop} (i : Iv cnt N s) (hx : x ≤ cnt) (A : ∀ s', Iv cnt N s' → s_at s' = s_at s → s_op s' = s_op s → Ok P E (k 0 s')) : Ok P E (bn (b_X1_await K N x s) k) := by
  have hw := i.2.2.2.2.1
  unfold b_X1_await
  rw [ck_t (show s_wc s < 2147483648 by omega), ifl_of (by omega) (by decide)]
  by_cases h : s_wc s < 155
  · rw [if_pos h, ck_t h]
    refine A _ (Iv_wc (Iv_wf i (fun j => ?_)) (show s_wc s + 1 ≤ 155 by omega)) rfl rfl
    unfold upN
    split
    · exact hx
    · exact i.2.2.2.2.2.2.1 j
  · rw [if_neg h]; exact A s i rfl rfl
theorem Ok_isName (G : Kg cnt N K) {E : Ss → Prop} (i : Iv cnt N s) (hx : x < 20000) (A : ∀ v, v < 2 → Ok P E (k v s)) : Ok P E (bn (b_X1_isNameFrom K N x s) k) := by
  have h1 := i.1
  have h2 := G.1
  unfold b_X1_isNameFrom
  rw [ife_of (by omega) (by omega)]
  by_cases h : s_at s = x + 1
  · rw [if_pos h, bn_as]
    refine Ok_kind (by omega) ?_
    change Ok P E (bn (ife (K x) 1 _ _) k)
    rw [ife_of (G.b _) (by decide)]
    by_cases h : K x = 1
    · rw [if_pos h]; exact A 1 (by decide)
    · rw [if_neg h]; exact A 0 (by decide)
  · rw [if_neg h]; exact A 0 (by decide)
theorem fb_beginsDecl (x : Nat) : f_X0_beginsDecl x < 2147483648 := by unfold f_X0_beginsDecl; (repeat' split) <;> decide
theorem fb_beginsType (x : Nat) : f_X0_beginsType x < 2 := by unfold f_X0_beginsType; (repeat' split) <;> decide
theorem fb_isUnarySign (x : Nat) : f_X0_isUnarySign x < 2 := by unfold f_X0_isUnarySign; (repeat' split) <;> decide
theorem fb_beginsExpr (x : Nat) : f_X0_beginsExpr x < 2 := by unfold f_X0_beginsExpr; (repeat' split) <;> decide
theorem fb_isOpAssign (x : Nat) : f_X0_isOpAssign x < 2 := by unfold f_X0_isOpAssign; (repeat' split) <;> decide
theorem fb_binding (x : Nat) : f_X0_binding x < 6 := by
  unfold f_X0_binding
  repeat (refine ite_lt (by decide) ?_)
  decide
theorem fn_beginsDecl {x : Nat} (h : f_X0_beginsDecl x ≠ 0) : x ≠ 0 := fun e => h (by rw [e]; rfl)
theorem fn_beginsType {x : Nat} (h : f_X0_beginsType x ≠ 0) : x ≠ 0 := fun e => h (by rw [e]; rfl)
theorem fn_isUnarySign {x : Nat} (h : f_X0_isUnarySign x ≠ 0) : x ≠ 0 := fun e => h (by rw [e]; rfl)
theorem fn_beginsExpr {x : Nat} (h : f_X0_beginsExpr x ≠ 0) : x ≠ 0 := fun e => h (by rw [e]; rfl)
theorem fn_isOpAssign {x : Nat} (h : f_X0_isOpAssign x ≠ 0) : x ≠ 0 := fun e => h (by rw [e]; rfl)
theorem fn_binding {x : Nat} (h : f_X0_binding x ≠ 0) : x ≠ 0 := fun e => h (by rw [e]; rfl)
theorem Ok_pwl (G : Kg cnt N K) {y1 y2 : Nat} (hy1 : y1 < 20000) (hy2 : y2 < 20000) {E : Ss → Prop} {s0 : Ss} (A : ∀ s', Iv cnt N s' → s_at s' = s_at s0 → s_op s' = s_op s0 → P 0 s') : ∀ (f y3 : Nat) (s : Ss), Iv cnt N s → s_at s = s_at s0 → s_op s = s_op s0 → y3 ≤ 155 → y3 < f → Ok P E (lp_X1_putWaiting_7 K N f y1 y2 y3 s) := by
  intro f
  induction f with
  | zero => intro y3 s i e o h1 h2; omega
  | succ f ih =>
    intro y3 s i e o h1 h2
    rw [lp_X1_putWaiting_7]
    refine Ok_ifl (by omega) (by omega) (fun q => Ok_ret (A _ (Iv_wc i h1) e o)) (fun q => ?_)
    refine Ok_ifz (by omega) (fun q => Ok_ret (A _ (Iv_wc i h1) e o)) (fun q => ?_)
    refine Ok_ifl (by omega) (by decide) (fun q => ?_) (fun q => Ok_ret (A _ (Iv_wc i h1) e o))
    refine Ok_ck (by omega) (Ok_ck (by omega) ?_)
    have hw := i.2.2.2.2.2.2.1 (y3 - 1)
    have hc := G.1
    refine Ok_kind (by omega) ?_
    refine Ok_ck (G.b _) ?_
    refine Ok_ifl (Nat.lt_trans (fb_binding _) (by decide)) (by omega) (fun q => Ok_ret (A _ (Iv_wc i h1) e o)) (fun q => ?_)
    refine Ok_ck (by omega) (Ok_ck (by omega) ?_)
    refine Ok_put G i (by decide) (fun s' i' e' o' => ?_)
    refine Ok_ck (by omega) ?_
    exact ih (y3 - 1) s' i' (by omega) (by omega) (by omega) (by omega)
theorem Ok_pw (G : Kg cnt N K) {E : Ss → Prop} (i : Iv cnt N s) (hx1 : x1 < 20000) (hx2 : x2 < 20000) (A : ∀ s', Iv cnt N s' → s_at s' = s_at s → s_op s' = s_op s → Ok P E (k 0 s')) : Ok P E (bn (b_X1_putWaiting K N x1 x2 s) k) := by
  unfold b_X1_putWaiting
  have hw := i.2.2.2.2.1
  exact Ok_bn (P' := fun v s' => v = 0 ∧ Iv cnt N s' ∧ s_at s' = s_at s ∧ s_op s' = s_op s) (Ok_pwl G hx1 hx2 (fun s' a b c => ⟨rfl, a, b, c⟩) LF (s_wc s) s i rfl rfl hw (by unfold LF; omega)) (fun v s' h => by obtain ⟨rfl, a, b, c⟩ := h; exact A s' a b c)
theorem Ok_sus (G : Kg cnt N K) {E : Ss → Prop} (i : Iv cnt N s) (A : K (s_at s) ≠ 0 → Ok P E (k 1 s)) (B : Ok P E (k 0 s)) : Ok P E (bn (b_X1_seesUnarySign K N s) k) := by
  unfold b_X1_seesUnarySign
  rw [bn_as]
  refine Ok_sees G (by decide) (fun h => ?_) (fun h => ?_)
  · change Ok P E (bn (ifz 1 _ _) k)
    rw [ifz_1, bn_as]
    refine Ok_next G i ?_
    change Ok P E (bn (ife (K (s_at s + 1)) 12 _ _) k)
    rw [ife_of (G.b _) (by decide)]
    by_cases h9 : K (s_at s + 1) = 12
    · rw [if_pos h9, ck_t (G.b _), ifz_of (Nat.lt_trans (fb_isUnarySign _) (by decide))]
      split
      · exact B
      · exact B
    · rw [if_neg h9, ck_t (G.b _), ifz_of (Nat.lt_trans (fb_isUnarySign _) (by decide))]
      split
      · exact B
      · exact A (by omega)
  · change Ok P E (bn (ifz 0 _ _) k)
    rw [ifz_0, ck_t (G.b _), ifz_of (Nat.lt_trans (fb_isUnarySign _) (by decide))]
    split
    · exact B
    · rename_i h9
      exact A (fn_isUnarySign h9)
end OKP
