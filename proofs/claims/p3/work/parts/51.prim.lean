/-! The reference's primitives: what they leave. -/
theorem Ok_st {σ : Type} {P : Nat → σ → Prop} {E : σ → Prop} {s : σ} {k : σ → Rs σ} (h : Ok P E (k s)) : Ok P E (st1 s k) := h
/-- all but nodes and what is said -/
def Sm (s s' : Mm) : Prop := m_th s' = m_th s ∧ m_ct s' = m_ct s ∧ m_nd s' = m_nd s ∧ m_td s' = m_td s ∧ m_at s' = m_at s ∧ m_dp s' = m_dp s ∧ m_wr s' = m_wr s ∧ m_rw s' = m_rw s ∧ m_kd s' = m_kd s ∧ m_dz s' = m_dz s ∧ m_no s' = m_no s ∧ m_tr s' = m_tr s ∧ m_nm s' = m_nm s ∧ m_pl s' = m_pl s ∧ m_pe s' = m_pe s ∧ m_en s' = m_en s
abbrev FoS (s : Mm) : Prop := Fo (m_md s) (m_pa s) (m_fi s) (m_la s) (m_nx s)
abbrev GdS (s : Mm) (p : Nat) : Prop := Gd (m_pa s) (m_fi s) p
/-- the tree behind a child, a wrap, an unwrap -/
theorem Tt_child0 {s s' : Mm} {p : Nat} (hp : p < m_md s) (h1 : m_md s' = m_md s + 1) (h2 : m_pa s' = upN (m_pa s) (m_md s) (p + 1)) (h3 : m_fi s' = upN (upN (m_fi s) (m_md s) 0) p (m_md s + 1)) (h4 : m_nx s' = upN (m_nx s) (m_md s) 0) : Tt s → Tt s' := by
  rintro ⟨t1, t2, lo, hi, T⟩
  refine ⟨by rw [h2, upN_ne (by omega)]; exact t1, by rw [h4, upN_ne (by omega)]; exact t2, (upN (fun x => 3 * lo x) (m_md s) (3 * hi p - 2)), (upN (fun x => 3 * hi x) (m_md s) (3 * hi p - 1)), ?_⟩
  rw [h1, h2, h3, h4]
  refine Tq_child T hp (fun x hx => ?_) (by rw [upN_ne (by omega), upN_at]) (fun x hx => Or.inl (upN_ne (by omega))) upN_at (fun x hx => upN_ne (by omega)) upN_at
  by_cases e1 : x = p
  · rw [e1]; exact Or.inr ⟨rfl, upN_at⟩
  · rw [upN_ne e1, upN_ne (by omega)]; exact Or.inl rfl
theorem Tt_child1 {s s' : Mm} {p e : Nat} (hp : p < m_md s) (he : e < m_md s) (pe : m_pa s e = p + 1) (h1 : m_md s' = m_md s + 1) (h2 : m_pa s' = upN (m_pa s) (m_md s) (p + 1)) (h3 : m_fi s' = upN (m_fi s) (m_md s) 0) (h4 : m_nx s' = upN (upN (m_nx s) (m_md s) 0) e (m_md s + 1)) : Tt s → Tt s' := by
  rintro ⟨t1, t2, lo, hi, T⟩
  have e0 : e ≠ 0 := fun h => by rw [h, t1] at pe; omega
  refine ⟨by rw [h2, upN_ne (by omega)]; exact t1, by rw [h4, upN_ne (by omega), upN_ne (by omega)]; exact t2, (upN (fun x => 3 * lo x) (m_md s) (3 * hi p - 2)), (upN (fun x => 3 * hi x) (m_md s) (3 * hi p - 1)), ?_⟩
  rw [h1, h2, h3, h4]
  refine Tq_child T hp (fun x hx => Or.inl (upN_ne (by omega))) upN_at (fun x hx => ?_) (by rw [upN_ne (by omega), upN_at]) (fun x hx => upN_ne (by omega)) upN_at
  by_cases e1 : x = e
  · rw [e1]; exact Or.inr ⟨pe, upN_at⟩
  · rw [upN_ne e1, upN_ne (by omega)]; exact Or.inl rfl
theorem Sl_nb {nx : Nat → Nat} {b0 e : Nat} : ∀ (q : List Nat), Sl nx (q ++ [b0]) e → nx b0 = e + 1 := by
  intro q
  induction q with
  | nil => intro h; exact h.1
  | cons y q ihq => intro h; exact ihq h.2.2
theorem Tt_wrap {s s' : Mm} {p e : Nat} (hp : p < m_md s) (he : e < m_md s) (pe : m_pa s e = p + 1) (h1 : m_md s' = m_md s + 1) (h2 : m_pa s' = upN (upN (m_pa s) (m_md s) (p + 1)) e (m_md s + 1)) (h3 : m_fi s' = upN (upN (m_fi s) (m_md s) (e + 1)) p (m_md s + 1) ∨ m_fi s' = upN (m_fi s) (m_md s) (e + 1)) (h4 : m_nx s' = upN (m_nx s) (m_md s) 0 ∨ ∃ b, b < m_md s ∧ m_nx s b = e + 1 ∧ m_nx s' = upN (upN (m_nx s) (m_md s) 0) b (m_md s + 1)) : Tt s → Tt s' := by
  rintro ⟨t1, t2, lo, hi, T⟩
  have e0 : e ≠ 0 := fun h => by rw [h, t1] at pe; omega
  refine ⟨by rw [h2, upN_ne (by omega), upN_ne (by omega)]; exact t1, ?_, (upN (fun x => 3 * lo x) (m_md s) (3 * lo e - 1)), (upN (fun x => 3 * hi x) (m_md s) (3 * hi e + 1)), ?_⟩
  · rcases h4 with h4 | ⟨b, b1, b2, h4⟩
    · rw [h4, upN_ne (by omega)]; exact t2
    · have b0 : b ≠ 0 := fun h => by rw [h, t2] at b2; omega
      rw [h4, upN_ne (by omega), upN_ne (by omega)]; exact t2
  rw [h1]
  refine Tq_wrap T hp he pe (fun x hx => ?_) ?_ (fun x hx => ?_) ?_ (fun x hx hx2 => ?_) (by rw [h2, upN_at]) (by rw [h2, upN_ne (by omega), upN_at])
  · rcases h3 with h3 | h3
    · by_cases e1 : x = p
      · rw [h3, e1]; exact Or.inr ⟨rfl, upN_at⟩
      · rw [h3, upN_ne e1, upN_ne (by omega)]; exact Or.inl rfl
    · rw [h3, upN_ne (by omega)]; exact Or.inl rfl
  · rcases h3 with h3 | h3
    · rw [h3, upN_ne (by omega), upN_at]
    · rw [h3, upN_at]
  · rcases h4 with h4 | ⟨b, b1, b2, h4⟩
    · rw [h4, upN_ne (by omega)]; exact Or.inl rfl
    · by_cases e1 : x = b
      · rw [h4, e1]; exact Or.inr ⟨b2, upN_at⟩
      · rw [h4, upN_ne e1, upN_ne (by omega)]; exact Or.inl rfl
  · rcases h4 with h4 | ⟨b, b1, b2, h4⟩
    · rw [h4, upN_at]
    · rw [h4, upN_ne (by omega), upN_at]
  · rw [h2, upN_ne hx2, upN_ne (by omega)]
theorem Tt_unwrap {s s' : Mm} {p o w : Nat} (hp : p < m_md s) (hw : w < m_md s) (ho : o < m_md s) (po : m_pa s o = w + 1) (pw : m_pa s w = p + 1) (h1 : m_md s' = m_md s) (h2 : m_pa s' = upN (m_pa s) o (p + 1)) (h3 : m_fi s' = upN (m_fi s) p (o + 1) ∨ m_fi s' = m_fi s) (h4 : m_nx s' = upN (m_nx s) o 0 ∨ ∃ b, b < m_md s ∧ m_nx s b = w + 1 ∧ m_nx s' = upN (upN (m_nx s) o 0) b (o + 1)) : Tt s → Tt s' := by
  rintro ⟨t1, t2, lo, hi, T⟩
  have e0 : o ≠ 0 := fun h => by rw [h, t1] at po; omega
  obtain ⟨o1, -, -, o4⟩ := T o ho
  obtain ⟨w1, -, -, w4⟩ := T w hw
  rw [po, Nat.add_sub_cancel] at o4
  rw [pw, Nat.add_sub_cancel] at w4
  refine ⟨by rw [h2, upN_ne (by omega)]; exact t1, ?_, lo, hi, ?_⟩
  · rcases h4 with h4 | ⟨b, b1, b2, h4⟩
    · rw [h4, upN_ne (by omega)]; exact t2
    · have b0 : b ≠ 0 := fun h => by rw [h, t2] at b2; omega
      rw [h4, upN_ne (by omega), upN_ne (by omega)]; exact t2
  rw [h1]
  refine Tq_move T hp ho (by omega) (by omega) (fun x hx => ?_) (fun x hx => ?_) (fun x hx hx2 => by rw [h2, upN_ne hx2]) (by rw [h2, upN_at])
  · rcases h3 with h3 | h3
    · by_cases e1 : x = p
      · rw [h3, e1]; exact Or.inr ⟨rfl, upN_at⟩
      · rw [h3, upN_ne e1]; exact Or.inl rfl
    · rw [h3]; exact Or.inl rfl
  · rcases h4 with h4 | ⟨b, b1, b2, h4⟩
    · by_cases e1 : x = o
      · rw [h4, e1]; exact Or.inr (Or.inl upN_at)
      · rw [h4, upN_ne e1]; exact Or.inl rfl
    · by_cases e1 : x = b
      · obtain ⟨-, -, b3, -⟩ := T b b1
        rw [b2, Nat.add_sub_cancel] at b3
        rw [h4, e1]; exact Or.inr (Or.inr ⟨by omega, upN_at⟩)
      · by_cases e2 : x = o
        · rw [h4, e2, upN_ne (by omega)]; exact Or.inr (Or.inl upN_at)
        · rw [h4, upN_ne e1, upN_ne e2]; exact Or.inl rfl
/-- a child k of p with the token t -/
def Cr (p k : Nat) (s s' : Mm) : Prop := FoS s' ∧ Sm s s' ∧ m_md s' = m_md s + 1 ∧ m_wh s' = upN (m_wh s) (m_md s) k ∧ m_pa s' = upN (m_pa s) (m_md s) (p + 1) ∧ m_fi s' = (if m_fi s p = 0 then upN (upN (m_fi s) (m_md s) 0) p (m_md s + 1) else upN (m_fi s) (m_md s) 0) ∧ m_la s' = upN (upN (m_la s) (m_md s) 0) p (m_md s + 1) ∧ (∀ c, c ≠ m_md s → m_pa s c ≠ p + 1 → m_nx s' c = m_nx s c) ∧ (Tt s → Tt s')
theorem Ok_child {E : Mm → Prop} {p k t : Nat} {s : Mm} (F : FoS s) (hp : p < m_md s) (hg : GdS s p) (hm : m_md s < 20000) : Ok (fun v s' => v = m_md s ∧ Cr p k s s') E (b_X6_child p k t s) := by
  have h1 : m_md s < 65536 := by omega
  have h2 : p < 65536 := by omega
  have h3 : p < 2147483648 := by omega
  have hf := (F p hp).1
  unfold b_X6_child
  refine Ok_ck h1 (Ok_st (Ok_ck h1 (Ok_st (Ok_ck h1 (Ok_st (Ok_ck h1 (Ok_st (Ok_ck h1 (Ok_st (Ok_ck h1 (Ok_st ?_)))))))))))
  refine Ok_ck h3 (Ok_ck h2 ?_)
  have hfp : upN (m_fi s) (m_md s) 0 p = m_fi s p := upN_ne (by omega)
  refine Ok_ifz (show upN (m_fi s) (m_md s) 0 p < 2147483648 by rw [hfp]; omega) (fun q => ?_) (fun q => ?_)
  · have q : m_fi s p = 0 := by rw [← hfp]; exact q
    refine Ok_ck h2 (Ok_st (Ok_ck h3 (Ok_ck h2 (Ok_st (Ok_st (Ok_ck (Nat.succ_ne_zero _) (Ok_ret ⟨Nat.add_sub_cancel (m_md s) 1, ?_⟩)))))))
    refine ⟨Fo_child0 F hp q, ⟨rfl, rfl, rfl, rfl, rfl, rfl, rfl, rfl, rfl, rfl, rfl, rfl, rfl, rfl, rfl, rfl⟩, rfl, rfl, rfl, ?_, rfl, fun c hc _ => upN_ne hc, Tt_child0 hp rfl rfl rfl rfl⟩
    rw [if_pos q]
  · have q : m_fi s p ≠ 0 := by rw [← hfp]; exact q
    obtain ⟨⟨k1, k2⟩, k3⟩ := Fo_child1 F hp hg q
    have hlp : upN (m_la s) (m_md s) 0 p = m_la s p := upN_ne (by omega)
    refine Ok_ck h3 (Ok_ck h2 (Ok_ck (show upN (m_la s) (m_md s) 0 p ≠ 0 by rw [hlp]; exact k1) (Ok_ck (show upN (m_la s) (m_md s) 0 p - 1 < 65536 by rw [hlp]; omega) (Ok_st (Ok_ck h3 (Ok_ck h2 (Ok_st (Ok_st (Ok_ck (Nat.succ_ne_zero _) (Ok_ret ⟨Nat.add_sub_cancel (m_md s) 1, ?_⟩))))))))))
    refine ⟨?_, ⟨rfl, rfl, rfl, rfl, rfl, rfl, rfl, rfl, rfl, rfl, rfl, rfl, rfl, rfl, rfl, rfl⟩, rfl, rfl, rfl, ?_, rfl, fun c hc hpc => ?_, Tt_child1 hp (e := upN (m_la s) (m_md s) 0 p - 1) ?_ ?_ rfl rfl rfl rfl⟩
    · show Fo (m_md s + 1) (upN (m_pa s) (m_md s) (p + 1)) (upN (m_fi s) (m_md s) 0) (upN (upN (m_la s) (m_md s) 0) p (m_md s + 1)) (upN (upN (m_nx s) (m_md s) 0) (upN (m_la s) (m_md s) 0 p - 1) (m_md s + 1))
      rw [hlp]; exact k3
    · rw [if_neg q]
    · show upN (upN (m_nx s) (m_md s) 0) (upN (m_la s) (m_md s) 0 p - 1) (m_md s + 1) c = m_nx s c
      obtain ⟨l, e, a, b, _, _, g⟩ := Fo_ch F hp hg q
      rw [hlp, b, Nat.add_sub_cancel, upN_ne (fun h => hpc (by rw [h]; exact (g e (Or.inr rfl)).1)), upN_ne hc]
    · obtain ⟨l, e, a, b, _, d, g⟩ := Fo_ch F hp hg q
      rw [hlp, b, Nat.add_sub_cancel]; exact d
    · obtain ⟨l, e, a, b, _, d, g⟩ := Fo_ch F hp hg q
      rw [hlp, b, Nat.add_sub_cancel]; exact (g e (Or.inr rfl)).1
/-- the last child e of p is wrapped as k -/
def Wr (p k : Nat) (s s' : Mm) : Prop := FoS s' ∧ Sm s s' ∧ m_md s' = m_md s + 1 ∧ m_wh s' = upN (m_wh s) (m_md s) k ∧ m_pa s' = upN (upN (m_pa s) (m_md s) (p + 1)) (m_la s p - 1) (m_md s + 1) ∧ ((m_fi s p = m_la s p ∧ m_fi s' = upN (upN (m_fi s) (m_md s) (m_la s p)) p (m_md s + 1)) ∨ (m_fi s p ≠ m_la s p ∧ m_fi s' = upN (m_fi s) (m_md s) (m_la s p))) ∧ m_la s' = upN (upN (m_la s) (m_md s) (m_la s p)) p (m_md s + 1) ∧ (∀ c, c ≠ m_md s → m_pa s c ≠ p + 1 → m_nx s' c = m_nx s c) ∧ (Tt s → Tt s') ∧ (∀ c, c < m_md s → m_nx s c ≤ m_md s → m_nx s' c = m_md s + 1 → c + 1 < m_la s p)
def lastl (l : List Nat) (b : Nat) : Nat := match l.getLast? with
  | none => b
  | some x => x + 1
theorem Ok_wrap {E : Mm → Prop} {p k t : Nat} {s : Mm} (F : FoS s) (hp : p < m_md s) (hg : GdS s p) (h0 : m_fi s p ≠ 0) (hm : m_md s < 20000) : Ok (fun v s' => v = m_md s ∧ Wr p k s s') E (b_X6_wrap p k t s) := by
  obtain ⟨l, e, a, b, c, d, g⟩ := Fo_ch F hp hg h0
  have h1 : m_md s < 65536 := by omega
  have h2 : p < 65536 := by omega
  have hlen := Sl_len l e c
  unfold b_X6_wrap
  refine Ok_ck h2 (Ok_ck h2 ?_)
  rw [a, b]
  -- the loop: from the rest r of the chain, with what was passed before it
  have loop : ∀ (r pre : List Nat) (f : Nat), l = pre ++ r → r.length < f → Ok (fun v s' => v = m_md s ∧ Wr p k s s') E (lp_X6_wrap_19 f p k t (e + 1) (hdl r e + 1) (lastl pre 0) s) := by
    intro r
    induction r with
    | nil =>
      intro pre f hl hf
      obtain ⟨f, rfl⟩ : ∃ j, f = j + 1 := ⟨f - 1, by omega⟩
      rw [List.append_nil] at hl
      subst hl
      rw [lp_X6_wrap_19]
      refine Ok_ife (show e + 1 < 2147483648 by omega) (by omega) (fun _ => ?_) (fun q => absurd rfl q)
      refine Ok_st (Ok_ck h1 (Ok_st (Ok_ck h1 (Ok_st (Ok_ck h1 (Ok_st (Ok_ck h1 (Ok_st (Ok_ck h1 (Ok_st (Ok_ck h1 (Ok_st (Ok_ck (by omega) (Ok_ck (by omega) (Ok_st ?_)))))))))))))))
      by_cases hl : l = []
      · subst hl
        refine Ok_ifz0 (Ok_ck h2 (Ok_st (Ok_ck h2 (Ok_st (Ok_ret ⟨rfl, ?_⟩)))))
        refine ⟨Fo_wrap0 F hp b c d (g e (Or.inr rfl)), ⟨rfl, rfl, rfl, rfl, rfl, rfl, rfl, rfl, rfl, rfl, rfl, rfl, rfl, rfl, rfl, rfl⟩, rfl, rfl, ?_, Or.inl ⟨by rw [a, b]; rfl, ?_⟩, ?_, fun c hc _ => upN_ne hc, Tt_wrap hp d (g e (Or.inr rfl)).1 rfl rfl (Or.inl rfl) (Or.inl rfl), fun c hc h9 hn => ?_⟩
        · rw [b]
        · rw [b]
        · rw [b]
        · have hn : upN (m_nx s) (m_md s) 0 c = m_md s + 1 := hn
          rw [upN_ne (by omega)] at hn; omega
      · obtain ⟨l0, b0, rfl⟩ : ∃ l0 b0, l = l0 ++ [b0] := ⟨l.dropLast, l.getLast hl, (List.dropLast_concat_getLast hl).symm⟩
        have hb0 := (Sl_pre l0 e c).2
        have e1 : lastl (l0 ++ [b0]) 0 = b0 + 1 := by unfold lastl; rw [List.getLast?_append]; rfl
        rw [e1]
        refine Ok_ifz (show b0 + 1 < 2147483648 by omega) (fun q => absurd q (Nat.succ_ne_zero _)) (fun _ => ?_)
        refine Ok_ck (Nat.succ_ne_zero _) (Ok_ck (show b0 + 1 - 1 < 65536 by omega) (Ok_st (Ok_ck h2 (Ok_st (Ok_ret ⟨rfl, ?_⟩)))))
        refine ⟨Fo_wrap1 F hp a b c d g, ⟨rfl, rfl, rfl, rfl, rfl, rfl, rfl, rfl, rfl, rfl, rfl, rfl, rfl, rfl, rfl, rfl⟩, rfl, rfl, ?_, Or.inr ⟨by rw [a, b]; have := Sl_len _ e c; rw [List.length_append] at this; have h8 : [b0].length = 1 := rfl; omega, ?_⟩, ?_, fun c hc hpc => ?_, Tt_wrap hp d (g e (Or.inr rfl)).1 rfl rfl (Or.inr rfl) (Or.inr ⟨b0, by omega, Sl_nb l0 c, rfl⟩), fun c hc h9 hn => ?_⟩
        · rw [b]
        · rw [b]
        · rw [b]
        · show upN (upN (m_nx s) (m_md s) 0) (b0 + 1 - 1) (m_md s + 1) c = m_nx s c
          rw [Nat.add_sub_cancel, upN_ne (fun h => hpc (by rw [h]; exact (g b0 (Or.inl (List.mem_append.mpr (Or.inr List.mem_cons_self)))).1)), upN_ne hc]
        · have hn : upN (upN (m_nx s) (m_md s) 0) b0 (m_md s + 1) c = m_md s + 1 := hn
          by_cases e9 : c = b0
          · rw [b, e9]; omega
          · rw [upN_ne e9, upN_ne (by omega)] at hn; omega
    | cons x r ih =>
      intro pre f hl hf
      obtain ⟨f, rfl⟩ : ∃ j, f = j + 1 := ⟨f - 1, by omega⟩
      have hx : x ∈ l := by rw [hl]; exact List.mem_append.mpr (Or.inr List.mem_cons_self)
      have hxe := Sl_lt l e c x hx
      have hnx : m_nx s x = hdl r e + 1 := by
        have : ∀ (q : List Nat), Sl (m_nx s) (q ++ x :: r) e → m_nx s x = hdl r e + 1 := by
          intro q
          induction q with
          | nil => intro h; exact h.1
          | cons y q ihq => intro h; exact ihq h.2.2
        exact this pre (by rw [← hl]; exact c)
      rw [lp_X6_wrap_19]
      refine Ok_ife (show x + 1 < 2147483648 by omega) (by omega) (fun q => absurd (show x + 1 = e + 1 from q) (by omega)) (fun _ => ?_)
      refine Ok_ck (Nat.succ_ne_zero _) (Ok_ck (show x + 1 - 1 < 65536 by omega) ?_)
      have h9 := ih (pre ++ [x]) f (by rw [hl, List.append_assoc]; rfl) (by simpa using hf)
      have e2 : lastl (pre ++ [x]) 0 = x + 1 := by unfold lastl; rw [List.getLast?_append]; rfl
      rw [e2, ← hnx] at h9
      exact h9
  exact loop l [] LF rfl (by unfold LF; omega)
/-- the wrap w that is the last child of p is taken off; o stands in it -/
def Uw (p o : Nat) (s s' : Mm) : Prop := FoS s' ∧ Sm s s' ∧ m_md s' = m_md s ∧ m_wh s' = m_wh s ∧ m_pa s' = upN (m_pa s) o (p + 1) ∧ ((m_fi s p = m_la s p ∧ m_fi s' = upN (m_fi s) p (o + 1)) ∨ (m_fi s p ≠ m_la s p ∧ m_fi s' = m_fi s)) ∧ m_la s' = upN (m_la s) p (o + 1) ∧ (∀ c, c ≠ o → m_pa s c ≠ p + 1 → m_nx s' c = m_nx s c) ∧ (Tt s → Tt s')
theorem Ok_unwrap {E : Mm → Prop} {p o : Nat} {s : Mm} (F : FoS s) (hp : p < m_md s) (hg : GdS s p) (h0 : m_fi s p ≠ 0) (hm : m_md s < 20000) (ho : m_fi s (m_la s p - 1) = o + 1) (hgw : m_pa s o = m_la s p) (hpo : p < o) (hpre : ∀ c, c < m_md s → m_pa s c = p + 1 → m_nx s c = m_la s p → c < o) : Ok (fun v s' => v = 0 ∧ Uw p o s s') E (b_X6_unwrap p s) := by
  obtain ⟨l, w, a, b, c, d, g⟩ := Fo_ch F hp hg h0
  have h2 : p < 65536 := by omega
  have hlen := Sl_len l w c
  have gw := g w (Or.inr rfl)
  have fw : m_fi s w = o + 1 := by rw [b, Nat.add_sub_cancel] at ho; exact ho
  have po : m_pa s o = w + 1 := by rw [hgw, b]
  have hom : o < m_md s := by have := (F w d).1; omega
  unfold b_X6_unwrap
  refine Ok_ck h2 (Ok_ck (by omega) (Ok_ck (by omega) (Ok_ck h2 ?_)))
  rw [a, b, Nat.add_sub_cancel, fw]
  have loop : ∀ (r pre : List Nat) (f : Nat), l = pre ++ r → r.length < f → Ok (fun v s' => v = 0 ∧ Uw p o s s') E (lp_X6_unwrap_25 f p w (o + 1) (hdl r w + 1) (lastl pre 0) s) := by
    intro r
    induction r with
    | nil =>
      intro pre f hl hf
      obtain ⟨f, rfl⟩ : ∃ j, f = j + 1 := ⟨f - 1, by omega⟩
      rw [List.append_nil] at hl
      subst hl
      rw [lp_X6_unwrap_25]
      refine Ok_ife (show w + 1 < 2147483648 by omega) (by omega) (fun _ => ?_) (fun q => absurd rfl q)
      refine Ok_ck (Nat.succ_ne_zero _) (Ok_ck (show o + 1 - 1 < 65536 by omega) (Ok_st (Ok_ck (Nat.succ_ne_zero _) (Ok_ck (show o + 1 - 1 < 65536 by omega) (Ok_st ?_)))))
      by_cases hl : l = []
      · subst hl
        refine Ok_ifz0 (Ok_ck h2 (Ok_st (Ok_ck h2 (Ok_st (Ok_ret ⟨rfl, ?_⟩)))))
        exact ⟨Fo_unwrap0 F hp gw.2 hom (by omega) po fw, ⟨rfl, rfl, rfl, rfl, rfl, rfl, rfl, rfl, rfl, rfl, rfl, rfl, rfl, rfl, rfl, rfl⟩, rfl, rfl, rfl, Or.inl ⟨by rw [a, b]; rfl, rfl⟩, rfl, fun c hc _ => upN_ne hc, Tt_unwrap hp d hom po gw.1 rfl rfl (Or.inl rfl) (Or.inl rfl)⟩
      · obtain ⟨l0, b0, rfl⟩ : ∃ l0 b0, l = l0 ++ [b0] := ⟨l.dropLast, l.getLast hl, (List.dropLast_concat_getLast hl).symm⟩
        have hb0 := (Sl_pre l0 w c).2
        have e1 : lastl (l0 ++ [b0]) 0 = b0 + 1 := by unfold lastl; rw [List.getLast?_append]; rfl
        have hnb : m_nx s b0 = w + 1 := by
          have : ∀ (q : List Nat), Sl (m_nx s) (q ++ [b0]) w → m_nx s b0 = w + 1 := by
            intro q
            induction q with
            | nil => intro h; exact h.1
            | cons y q ihq => intro h; exact ihq h.2.2
          exact this l0 c
        have hbo : b0 < o := hpre b0 (by omega) (g b0 (Or.inl (List.mem_append.mpr (Or.inr List.mem_cons_self)))).1 (by rw [hnb, b])
        rw [e1]
        refine Ok_ifz (show b0 + 1 < 2147483648 by omega) (fun q => absurd q (Nat.succ_ne_zero _)) (fun _ => ?_)
        refine Ok_ck (Nat.succ_ne_zero _) (Ok_ck (show b0 + 1 - 1 < 65536 by omega) (Ok_st (Ok_ck h2 (Ok_st (Ok_ret ⟨rfl, ?_⟩)))))
        exact ⟨Fo_unwrap1 F hp a c g hom (by omega) hbo po fw, ⟨rfl, rfl, rfl, rfl, rfl, rfl, rfl, rfl, rfl, rfl, rfl, rfl, rfl, rfl, rfl, rfl⟩, rfl, rfl, rfl, Or.inr ⟨by rw [a, b]; have := Sl_len _ w c; rw [List.length_append] at this; have h8 : [b0].length = 1 := rfl; omega, rfl⟩, rfl, fun c hc hpc => by
          show upN (upN (m_nx s) o 0) (b0 + 1 - 1) (o + 1) c = m_nx s c
          rw [Nat.add_sub_cancel, upN_ne (fun h => hpc (by rw [h]; exact (g b0 (Or.inl (List.mem_append.mpr (Or.inr List.mem_cons_self)))).1)), upN_ne hc], Tt_unwrap hp d hom po gw.1 rfl rfl (Or.inr rfl) (Or.inr ⟨b0, by omega, hnb, rfl⟩)⟩
    | cons x r ih =>
      intro pre f hl hf
      obtain ⟨f, rfl⟩ : ∃ j, f = j + 1 := ⟨f - 1, by omega⟩
      have hx : x ∈ l := by rw [hl]; exact List.mem_append.mpr (Or.inr List.mem_cons_self)
      have hxe := Sl_lt l w c x hx
      have hnx : m_nx s x = hdl r w + 1 := by
        have : ∀ (q : List Nat), Sl (m_nx s) (q ++ x :: r) w → m_nx s x = hdl r w + 1 := by
          intro q
          induction q with
          | nil => intro h; exact h.1
          | cons y q ihq => intro h; exact ihq h.2.2
        exact this pre (by rw [← hl]; exact c)
      rw [lp_X6_unwrap_25]
      refine Ok_ife (show x + 1 < 2147483648 by omega) (by omega) (fun q => absurd (show x + 1 = w + 1 from q) (by omega)) (fun _ => ?_)
      refine Ok_ck (Nat.succ_ne_zero _) (Ok_ck (show x + 1 - 1 < 65536 by omega) ?_)
      have h9 := ih (pre ++ [x]) f (by rw [hl, List.append_assoc]; rfl) (by simpa using hf)
      have e2 : lastl (pre ++ [x]) 0 = x + 1 := by unfold lastl; rw [List.getLast?_append]; rfl
      rw [e2, ← hnx] at h9
      exact h9
  exact loop l [] LF rfl (by unfold LF; omega)
