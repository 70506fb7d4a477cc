/-! The reference's build, and its answers, always end. -/
/-- how many of the first n nodes begin before v -/
def Cn (lo : Nat → Nat) (v : Nat) : Nat → Nat
  | 0 => 0
  | n + 1 => Cn lo v n + (if lo n < v then 1 else 0)
theorem Cn_le (lo : Nat → Nat) (v : Nat) : ∀ n, Cn lo v n ≤ n := by
  intro n
  induction n with
  | zero => exact Nat.le_refl _
  | succ n ih =>
    show Cn lo v n + (if lo n < v then 1 else 0) ≤ n + 1
    split <;> omega
theorem Cn_mono {lo : Nat → Nat} {v w : Nat} (h : v ≤ w) : ∀ n, Cn lo v n ≤ Cn lo w n := by
  intro n
  induction n with
  | zero => exact Nat.le_refl _
  | succ n ih =>
    show Cn lo v n + (if lo n < v then 1 else 0) ≤ Cn lo w n + (if lo n < w then 1 else 0)
    by_cases h1 : lo n < v
    · rw [if_pos h1, if_pos (by omega)]; omega
    · rw [if_neg h1]; omega
theorem Cn_lt {lo : Nat → Nat} {v w q : Nat} (h : v ≤ w) (h1 : v ≤ lo q) (h2 : lo q < w) : ∀ n, q < n → Cn lo v n + 1 ≤ Cn lo w n := by
  intro n
  induction n with
  | zero => intro hq; omega
  | succ n ih =>
    intro hq
    show Cn lo v n + (if lo n < v then 1 else 0) + 1 ≤ Cn lo w n + (if lo n < w then 1 else 0)
    by_cases e : q = n
    · have := Cn_mono (lo := lo) h n
      rw [← e, if_neg (by omega), if_pos h2]; rw [e]; omega
    · have := ih (by omega)
      by_cases h3 : lo n < v
      · rw [if_pos h3, if_pos (by omega)]; omega
      · rw [if_neg h3]; omega
theorem mulD {x y D : Nat} (h : y + 1 ≤ x) : y * D + D ≤ x * D := by
  have := Nat.mul_le_mul_right D h
  rw [Nat.add_mul, Nat.one_mul] at this
  exact this
/-- what numbering leaves -/
def Kq (s s' : Mm) : Prop := m_md s' = m_md s ∧ m_pa s' = m_pa s ∧ m_fi s' = m_fi s ∧ m_nx s' = m_nx s ∧ m_ct s' = m_ct s ∧ m_wh s' = m_wh s ∧ m_pl s' = m_pl s ∧ m_nm s' = m_nm s ∧ m_en s' = m_en s
def By (md : Nat) (s : Mm) : Prop := ∀ i, i < m_nd s → m_by s i < md
theorem Num {s0 : Mm} {lo hi : Nat → Nat} {E : Mm → Prop} (T : Tq (m_md s0) (m_pa s0) (m_fi s0) (m_nx s0) lo hi) (hm : m_md s0 ≤ 16000) : ∀ (f : Nat) (s : Mm), Kq s0 s → By (m_md s0) s → m_nd s ≤ m_md s0 →
    (∀ y, y ≤ m_md s0 → 1 ≤ f → (y ≠ 0 → m_nd s ≤ Cn lo (lo (y - 1)) (m_md s0) ∧ (m_md s0 + 1 - Cn lo (lo (y - 1)) (m_md s0)) * (m_md s0 + 3) < f) → Ok (fun _ s' => Kq s0 s' ∧ By (m_md s0) s' ∧ m_nd s' ≤ m_md s0) E (lp_X6_numberAll f 0 y s)) ∧
    (∀ y v, y ≤ m_md s0 → m_nd s ≤ Cn lo (v + 1) (m_md s0) → (y ≠ 0 → v ≤ hi (y - 1)) → (m_md s0 + 1 - Cn lo (v + 1) (m_md s0)) * (m_md s0 + 3) + (if y = 0 then 0 else Cn lo (lo (y - 1)) (m_md s0) + 1) + 1 < f → Ok (fun _ s' => Kq s0 s' ∧ By (m_md s0) s' ∧ m_nd s' ≤ m_md s0) E (lp_X6_numberAll f 1 y s)) := by
  intro f
  induction f with
  | zero => intro s _ _ _; exact ⟨fun y _ h => by omega, fun y v _ _ _ h => by omega⟩
  | succ f ih =>
    intro s K hB hnd
    refine ⟨fun y hy _ hy2 => ?_, fun y v hy hv hhi hf => ?_⟩
    · rw [lp_X6_numberAll, if_pos rfl]
      refine Ok_ifz (by omega) (fun _ => Ok_ret ⟨K, hB, hnd⟩) (fun q => ?_)
      obtain ⟨hn, hf⟩ := hy2 q
      obtain ⟨k, rfl⟩ : ∃ k, y = k + 1 := ⟨y - 1, by omega⟩
      rw [Nat.add_sub_cancel] at hn hf ⊢
      obtain ⟨t1, t2, t3, t4⟩ := T k (by omega)
      have c1 := Cn_le lo (lo k) (m_md s0)
      have c2 := Cn_lt (lo := lo) (v := lo k) (w := lo k + 1) (q := k) (by omega) (Nat.le_refl _) (by omega) (m_md s0) (by omega)
      have c3 := Cn_le lo (lo k + 1) (m_md s0)
      refine Ok_ck (by omega) (Ok_ck (by omega) (Ok_st (Ok_ck (by omega) (Ok_ck (show m_nd s < 65536 by omega) (Ok_st (Ok_st (Ok_ck (by omega) (Ok_ck (by omega) (Ok_st (Ok_ck (by omega) (Ok_ck (by omega) ?_)))))))))))
      have hB' : By (m_md s0) (w_ins (w_nd (w_by (w_nu s (upN (m_nu s) k (m_nd s))) (upN (m_by s) (m_nd s) k)) (m_nd s + 1)) (upN (m_ins s) k (m_nd s + 1))) := by
        intro i hi9
        show upN (m_by s) (m_nd s) k i < m_md s0
        have hi9 : i < m_nd s + 1 := hi9
        by_cases e : i = m_nd s
        · rw [e, upN_at]; omega
        · rw [upN_ne e]; exact hB i (by omega)
      have hD := mulD (D := m_md s0 + 3) (x := m_md s0 + 1 - Cn lo (lo k) (m_md s0)) (y := m_md s0 + 1 - Cn lo (lo k + 1) (m_md s0)) (by omega)
      have IH := ih (w_ins (w_nd (w_by (w_nu s (upN (m_nu s) k (m_nd s))) (upN (m_by s) (m_nd s) k)) (m_nd s + 1)) (upN (m_ins s) k (m_nd s + 1))) K hB' (show m_nd s + 1 ≤ m_md s0 by omega)
      have efi : m_fi s = m_fi s0 := K.2.2.1
      refine Ok_ifz (show m_fi s k < 2147483648 by rw [efi]; omega) (fun q2 => ?_) (fun q2 => ?_)
      · refine IH.2 (k + 1) (lo k) hy (show m_nd s + 1 ≤ _ by omega) (fun _ => by rw [Nat.add_sub_cancel]; omega) ?_
        rw [if_neg (by omega), Nat.add_sub_cancel]
        omega
      · refine Ok_ck (by omega) (Ok_ck (by omega) ?_)
        have q2 : m_fi s k ≠ 0 := q2
        rw [efi] at q2
        have e3 : m_fi (w_ins (w_nd (w_by (w_nu s (upN (m_nu s) k (m_nd s))) (upN (m_by s) (m_nd s) k)) (m_nd s + 1)) (upN (m_ins s) k (m_nd s + 1))) k = m_fi s0 k := by
          show m_fi s k = _
          rw [efi]
        refine IH.1 _ (by rw [e3]; omega) (by omega) (fun _ => ?_)
        rw [e3]
        have c4 := Cn_mono (lo := lo) (v := lo k + 1) (w := lo (m_fi s0 k - 1)) (by omega) (m_md s0)
        refine ⟨show m_nd s + 1 ≤ _ by omega, ?_⟩
        have hD2 := Nat.mul_le_mul_right (m_md s0 + 3) (show m_md s0 + 1 - Cn lo (lo (m_fi s0 k - 1)) (m_md s0) ≤ m_md s0 + 1 - Cn lo (lo k + 1) (m_md s0) by omega)
        omega
    · rw [lp_X6_numberAll, if_neg (by decide)]
      by_cases q : y = 0
      · subst q
        refine Ok_ifz0 (Ok_ifz0 ?_)
        rw [if_pos rfl] at hf
        exact (ih s K hB hnd).1 0 hy (by omega) (fun h => absurd rfl h)
      · obtain ⟨k, rfl⟩ : ∃ k, y = k + 1 := ⟨y - 1, by omega⟩
        rw [if_neg q, Nat.add_sub_cancel] at hf
        have hhi := hhi q
        rw [Nat.add_sub_cancel] at hhi ⊢
        obtain ⟨t1, t2, t3, t4⟩ := T k (by omega)
        have enx : m_nx s = m_nx s0 := K.2.2.2.1
        have epa : m_pa s = m_pa s0 := K.2.1
        have IH := ih (w_ins s (upN (m_ins s) k (m_nd s + (4294967296 - m_nu s k % 4294967296)))) K hB hnd
        refine Ok_ifz (by omega) (fun h => absurd h q) (fun _ => ?_)
        refine Ok_ck (by omega) (Ok_ck (by omega) ?_)
        refine Ok_ifz (show m_nx s k < 2147483648 by rw [enx]; omega) (fun q2 => ?_) (fun q2 => ?_)
        · refine Ok_ck (by omega) (Ok_ck (by omega) (Ok_ck (by omega) (Ok_st (Ok_ck (by omega) (Ok_ck (by omega) ?_)))))
          have e3 : m_pa (w_ins s (upN (m_ins s) k (m_nd s + (4294967296 - m_nu s k % 4294967296)))) k = m_pa s0 k := by
            show m_pa s k = _
            rw [epa]
          refine IH.2 _ v (by rw [e3]; omega) hv (fun h => ?_) ?_
          · rw [e3] at h ⊢; omega
          · rw [e3]
            by_cases h0 : m_pa s0 k = 0
            · rw [if_pos h0]; omega
            · rw [if_neg h0]
              have c5 := Cn_lt (lo := lo) (v := lo (m_pa s0 k - 1)) (w := lo k) (q := m_pa s0 k - 1) (by omega) (Nat.le_refl _) (by omega) (m_md s0) (by omega)
              omega
        · refine Ok_ifz (by omega) (fun h => absurd h q) (fun _ => ?_)
          refine Ok_ck (by omega) (Ok_ck (by omega) (Ok_ck (by omega) (Ok_st (Ok_ck (by omega) (Ok_ck (by omega) ?_)))))
          have q2 : m_nx s k ≠ 0 := q2
          rw [enx] at q2
          have e3 : m_nx (w_ins s (upN (m_ins s) k (m_nd s + (4294967296 - m_nu s k % 4294967296)))) k = m_nx s0 k := by
            show m_nx s k = _
            rw [enx]
          have c4 := Cn_mono (lo := lo) (v := v + 1) (w := lo (m_nx s0 k - 1)) (by omega) (m_md s0)
          refine IH.1 _ (by rw [e3]; omega) (by omega) (fun _ => ?_)
          rw [e3]
          refine ⟨Nat.le_trans hv c4, ?_⟩
          have hD2 := Nat.mul_le_mul_right (m_md s0 + 3) (show m_md s0 + 1 - Cn lo (lo (m_nx s0 k - 1)) (m_md s0) ≤ m_md s0 + 1 - Cn lo (v + 1) (m_md s0) by omega)
          omega
/-- rows of truths; what holds of the reference between two calls -/
def Pbb (s : Mm) : Prop := ∀ k, m_pl s k < 2 ∧ m_nm s k < 2 ∧ m_en s k < 2
def Nmb (s : Mm) : Prop := m_md s ≤ 16000 ∧ (∃ lo hi, Tq (m_md s) (m_pa s) (m_fi s) (m_nx s) lo hi) ∧ By (m_md s) s ∧ m_nd s ≤ m_md s
def Fin6 (s : Mm) : Prop := Pbb s ∧ Wb s ∧ (m_nd s = 0 ∨ Nmb s)
theorem Ok_numberAll {s : Mm} {E : Mm → Prop} (T : Tt s) (hm : m_md s ≤ 16000) (hm0 : 0 < m_md s) (hn : m_nd s = 0) (hP : Pbb s) (hW : Wb s) : Ok (fun _ s' => Fin6 s' ∧ m_ct s' = m_ct s) E (b_X6_numberAll 0 s) := by
  obtain ⟨-, -, lo, hi, T⟩ := T
  unfold b_X6_numberAll
  have c1 := Cn_le lo (lo 0) (m_md s)
  refine Ok_imp ((Num T hm LF6 s ⟨rfl, rfl, rfl, rfl, rfl, rfl, rfl, rfl, rfl⟩ (fun i hi => by omega) (by omega)).1 (0 + 1) (by omega) (by decide) (fun _ => ⟨by omega, ?_⟩)) (fun _ s' h => ?_)
  · have h1 := Nat.mul_le_mul (show m_md s + 1 - Cn lo (lo 0) (m_md s) ≤ 16001 by omega) (show m_md s + 3 ≤ 16003 by omega)
    rw [show 0 + 1 - 1 = 0 from rfl]
    unfold LF6
    omega
  · obtain ⟨⟨k1, k2, k3, k4, k5, k6, k7, k8, k9⟩, hB, hnd⟩ := h
    refine ⟨⟨fun k => ?_, fun k => ?_, Or.inr ⟨by omega, ⟨lo, hi, ?_⟩, ?_, by omega⟩⟩, k5⟩
    · rw [k7, k8, k9]; exact hP k
    · rw [k6]; exact hW k
    · rw [k1, k2, k3, k4]; exact T
    · rw [k1]; exact hB
/-- every kind of item -/
theorem S_all {t0 : Mm} {d n t : Nat} {r : List It} (hk : kv d = true) (H : Hp t0 (d, n, t) r) {E : Mm → Prop} : Ok (Qh (mz t0 ((d, n, t) :: r))) E (b_X6_step d n t t0) := by
  have h9 : 2 ≤ d ∧ d ≤ 58 ∧ d ≠ 19 ∧ d ≠ 31 := by
    unfold kv at hk
    simp only [Bool.and_eq_true, decide_eq_true_eq, Bool.not_eq_true', beq_eq_false_iff_ne] at hk
    exact ⟨hk.1.1.1, hk.1.1.2, hk.1.2, hk.2⟩
  have h8 : d = 2 ∨ d = 3 ∨ d = 4 ∨ d = 5 ∨ d = 6 ∨ d = 7 ∨ d = 8 ∨ d = 9 ∨ d = 10 ∨ d = 11 ∨ d = 12 ∨ d = 13 ∨ d = 14 ∨ d = 15 ∨ d = 16 ∨ d = 17 ∨ d = 18 ∨ d = 20 ∨ d = 21 ∨ d = 22 ∨ d = 23 ∨ d = 24 ∨ d = 25 ∨ d = 26 ∨ d = 27 ∨ d = 28 ∨ d = 29 ∨ d = 30 ∨ d = 32 ∨ d = 33 ∨ d = 34 ∨ d = 35 ∨ d = 36 ∨ d = 37 ∨ d = 38 ∨ d = 39 ∨ d = 40 ∨ d = 41 ∨ d = 42 ∨ d = 43 ∨ d = 44 ∨ d = 45 ∨ d = 46 ∨ d = 47 ∨ d = 48 ∨ d = 49 ∨ d = 50 ∨ d = 51 ∨ d = 52 ∨ d = 53 ∨ d = 54 ∨ d = 55 ∨ d = 56 ∨ d = 57 ∨ d = 58 := by omega
  rcases h8 with rfl | rfl | rfl | rfl | rfl | rfl | rfl | rfl | rfl | rfl | rfl | rfl | rfl | rfl | rfl | rfl | rfl | rfl | rfl | rfl | rfl | rfl | rfl | rfl | rfl | rfl | rfl | rfl | rfl | rfl | rfl | rfl | rfl | rfl | rfl | rfl | rfl | rfl | rfl | rfl | rfl | rfl | rfl | rfl | rfl | rfl | rfl | rfl | rfl | rfl | rfl | rfl | rfl | rfl | rfl
  · exact S_2 H
  · exact S_3 H
  · exact S_4 H
  · exact S_5 H
  · exact S_6 H
  · exact S_7 H
  · exact S_8 H
  · exact S_9 H
  · exact S_10 H
  · exact S_11 H
  · exact S_12 H
  · exact S_13 H
  · exact S_14 H
  · exact S_15 H
  · exact S_16 H
  · exact S_17 H
  · exact S_18 H
  · exact S_20 H
  · exact S_21 H
  · exact S_22 H
  · exact S_23 H
  · exact S_24 H
  · exact S_25 H
  · exact S_26 H
  · exact S_27 H
  · exact S_28 H
  · exact S_29 H
  · exact S_30 H
  · exact S_32 H
  · exact S_33 H
  · exact S_34 H
  · exact S_35 H
  · exact S_36 H
  · exact S_37 H
  · exact S_38 H
  · exact S_39 H
  · exact S_40 H
  · exact S_41 H
  · exact S_42 H
  · exact S_43 H
  · exact S_44 H
  · exact S_45 H
  · exact S_46 H
  · exact S_47 H
  · exact S_48 H
  · exact S_49 H
  · exact S_50 H
  · exact S_51 H
  · exact S_52 H
  · exact S_53 H
  · exact S_54 H
  · exact S_55 H
  · exact S_56 H
  · exact S_57 H
  · exact S_58 H
/-- the end of the loop when something is wrong -/
theorem Ok_lperr {s : Mm} {f : Nat} {E : Mm → Prop} (h1 : m_wr s ≠ 0) (h2 : m_wr s ≤ 100000) (h3 : m_td s ≤ 5000) (hP : Pb s) (hW : Wd s) : Ok (fun _ s' => Fin6 s' ∧ m_ct s' = 0) E (lp_X6_build_88 (f + 1) 0 s) := by
  have hF : Fin6 (w_ct s 0) ∧ m_ct (w_ct s 0) = 0 := ⟨⟨fun k => ⟨(hP k).1, (hP k).2.1, (hP k).2.2.1⟩, hW.1, Or.inl hW.2.1⟩, rfl⟩
  rw [lp_X6_build_88]
  refine Ok_ifz (by omega) (fun _ => ?_) (fun _ => ?_)
  · refine Ok_st (Ok_ifz (show m_wr s < 2147483648 by omega) (fun q => absurd q h1) (fun _ => ?_))
    exact Ok_ck (show m_wr s ≤ 4294967296 by omega) (Ok_ret hF)
  · refine Ok_ifz (by omega) (fun q => absurd q h1) (fun _ => ?_)
    refine Ok_st (Ok_ifz (show m_wr s < 2147483648 by omega) (fun q => absurd q h1) (fun _ => ?_))
    exact Ok_ck (show m_wr s ≤ 4294967296 by omega) (Ok_ret hF)
/-- the loop of build -/
theorem Ok_loop {E : Mm → Prop} : ∀ (f : Nat) (s : Mm) (R : List It), Hv s R → mz s R < f → Ok (fun _ s' => Fin6 s' ∧ m_ct s' = 0) E (lp_X6_build_88 f 0 s) := by
  intro f
  induction f with
  | zero => intro s R _ h; omega
  | succ f ih =>
    intro s R H hf
    cases R with
    | nil =>
      rw [lp_X6_build_88]
      obtain ⟨-, h1, h2, h3, h4, h5, h6, h7, h8, h9, h10, h11, h12, ⟨h13, h13b⟩, h14⟩ := H
      have h6 : m_td s = 0 := h6
      have h12 : m_md s + 0 ≤ 3 * m_at s + 7 * 0 + 10 := h12
      refine Ok_ifz (by omega) (fun _ => ?_) (fun q => absurd h6 q)
      refine Ok_st (Ok_ifz (show m_wr s < 2147483648 by omega) (fun _ => ?_) (fun q => absurd h3 q))
      refine Ok_bn (Ok_numberAll (s := w_ct s 0) h14 (show m_md s ≤ 16000 by omega) h13b.2.2 h13b.2.1 (fun k => ⟨(h13 k).1, (h13 k).2.1, (h13 k).2.2.1⟩) h13b.1) (fun v s' h => Ok_ret h)
    | cons x r =>
      rw [lp_X6_build_88]
      have HP := Hv_pop H
      have hkv := H.1.1
      obtain ⟨-, h1, h2, h3, h4, h5, h6, h7, h8, h9, h10, h11, h12, ⟨h13, h13b⟩, h14⟩ := H
      obtain ⟨k, k1, k2, k3, k4, k5⟩ := h6
      have kl := Arr_len r k k5
      have hl := Aj_max h8
      have e2 : (x :: r).length = r.length + 1 := rfl
      have hmz : 4 * (600 - (r.length + 1)) ≤ mz s (x :: r) := Nat.le_add_left _ _
      refine Ok_ifz (by omega) (fun q => absurd q (by omega)) (fun _ => ?_)
      refine Ok_ifz (by omega) (fun _ => ?_) (fun q => absurd h3 q)
      refine Ok_ck (by omega) (Ok_st (Ok_ck (show m_td s - 1 < 4096 by omega) (Ok_ck (show m_td s - 1 < 4096 by omega) (Ok_ck (show m_td s - 1 < 4096 by omega) ?_))))
      have hk : m_td s - 1 = k := by omega
      have e3 : m_dz (w_td s (m_td s - 1)) (m_td (w_td s (m_td s - 1))) = x.1 := by
        show m_dz s (m_td s - 1) = _
        rw [hk]; exact k2
      have e4 : m_no (w_td s (m_td s - 1)) (m_td (w_td s (m_td s - 1))) = x.2.1 := by
        show m_no s (m_td s - 1) = _
        rw [hk]; exact k3
      have e5 : m_tr (w_td s (m_td s - 1)) (m_td (w_td s (m_td s - 1))) = x.2.2 := by
        show m_tr s (m_td s - 1) = _
        rw [hk]; exact k4
      rw [e3, e4, e5]
      obtain ⟨d, n, t⟩ := x
      refine Ok_bn (S_all hkv HP) (fun v s' h => ?_)
      rcases h with ⟨w1, w2, w3, ⟨w4, w5⟩, w6⟩ | ⟨R', H', hm'⟩
      · obtain ⟨f, rfl⟩ : ∃ j, f = j + 1 := ⟨f - 1, by omega⟩
        exact Ok_lperr w1 w2 w6 w4 w5
      · have hm' : mz s' R' < mz s ((d, n, t) :: r) := hm'
        exact ih s' R' H' (by omega)
/-- build -/
theorem Ok_build {s : Mm} {E : Mm → Prop} (hT : Tk s) (hc : m_ct s ≤ 4096) (hP : Pbb s) (hW : Wb s) : Ok (fun _ s' => Fin6 s' ∧ m_ct s' = 0) E (b_X6_build s) := by
  unfold b_X6_build
  refine Ok_st (Ok_st (Ok_st (Ok_st (Ok_st (Ok_st (Ok_st (Ok_st ?_)))))))
  refine Ok_bnc ?_
  unfold b_X6_root
  refine Ok_ck (show (0 : Nat) < 65536 by decide) (Ok_st (Ok_ck (show (0 : Nat) < 65536 by decide) (Ok_st (Ok_ck (show (0 : Nat) < 65536 by decide) (Ok_st (Ok_ck (show (0 : Nat) < 65536 by decide) (Ok_st (Ok_ck (show (0 : Nat) < 65536 by decide) (Ok_st (Ok_ck (show (0 : Nat) < 65536 by decide) (Ok_st (Ok_st (Ok_ck (show (0 + 1 : Nat) ≠ 0 by decide) (Ok_ret (show Ok _ _ _ from ?_)))))))))))))))
  have key : ∀ r1 : Mm, Tk r1 → Tt r1 → Cy 0 r1 r1 [] → m_ct r1 ≤ 4096 → m_at r1 = 0 → m_md r1 = 1 → m_dp r1 = 0 → m_wr r1 = 0 → m_rw r1 = 0 → m_td r1 = 0 → m_fi r1 0 = 0 → m_wh r1 0 = 1 → m_pa r1 0 = 0 → Ok (fun _ s' => Fin6 s' ∧ m_ct s' = 0) E (bn (b_X6_pass 27 r1) (fun v10 s10 => ifz (m_wr s10) (bn (b_X6_name 0 s10) (fun v12 s12 => ifz (m_wr s12) (bn (b_X6_pass 85 s12) (fun v14 s14 => bn (b_X6_push 54 0 0 s14) (fun v15 s15 => lp_X6_build_88 LF6 0 s15))) (bn (b_X6_push 54 0 0 s12) (fun v16 s16 => lp_X6_build_88 LF6 0 s16)))) (ifz (m_wr s10) (bn (b_X6_pass 85 s10) (fun v18 s18 => bn (b_X6_push 54 0 0 s18) (fun v19 s19 => lp_X6_build_88 LF6 0 s19))) (bn (b_X6_push 54 0 0 s10) (fun v20 s20 => lp_X6_build_88 LF6 0 s20))))) := by
    intro r1 hT hTt C hc a0 b0 d0 w0 u0 v0 f0 k0 p0
    have I0 : Nq r1 0 := ⟨by omega, Or.inl f0, by rw [k0]; decide, by omega⟩
    have bad : ∀ s', Cy 0 r1 s' [] → m_wr s' ≠ 0 → m_wr s' ≤ 100000 → m_td s' = 0 → Ok (fun _ s' => Fin6 s' ∧ m_ct s' = 0) E (bn (b_X6_push 54 0 0 s') (fun v16 s16 => lp_X6_build_88 LF6 0 s16)) := by
      intro s' C' h1 h2 h3
      refine Kp_push C' (by omega) (fun t1 C1 X1 a1 b1 d1 w1 u1 v1 j1 l1 => ?_)
      exact Ok_lperr (f := 9999999999) (by rw [w1]; exact h1) (by omega) (by omega) C1.2.2.2.2.2.1 C1.2.2.2.2.2.2
    refine Kp_pass C hT (by omega) (by decide) (by omega) (fun t1 C1 X1 a1 b1 d1 w1 u1 v1 j1 l1 => ?_)
    have e1 := C1.2.2.2.1
    have I1 := I0.flat X1
    rcases w1 with ⟨w1, y1⟩ | ⟨w1, w1b⟩
    · have z1 : m_at r1 < m_ct r1 := lo_ne (Nat.ne_of_gt (show 0 < lo r1 (m_at r1) from by omega))
      refine Ok_ifz (by omega) (fun _ => ?_) (fun q => absurd (by omega) q)
      refine Ok_bnc ?_
      unfold b_X6_name
      refine Kp_look C1 hT (by omega) ?_
      have hl1 := lo_lt (C1.tk hT) (m_at t1)
      -- a NAME, or wrong; then the child and the next token
      have rest : ∀ t2 : Mm, Cy 0 r1 t2 [] → Nq t2 0 → m_at t2 = 1 → m_md t2 = 1 → m_dp t2 = 0 → m_rw t2 = 0 → m_td t2 = 0 → ((m_wr t2 = 0 ∧ lo t2 (m_at t2) = 1) ∨ (m_wr t2 ≠ 0 ∧ m_wr t2 ≤ 50000)) → Ok (fun v s' => Ok (fun _ s' => Fin6 s' ∧ m_ct s' = 0) E (ifz (m_wr s') (bn (b_X6_pass 85 s') (fun v14 s14 => bn (b_X6_push 54 0 0 s14) (fun v15 s15 => lp_X6_build_88 LF6 0 s15))) (bn (b_X6_push 54 0 0 s') (fun v16 s16 => lp_X6_build_88 LF6 0 s16)))) E (bn (b_X6_child 0 5 (m_at t2) t2) (fun v5 s5 => st1 (w_at s5 (m_at s5 + 1)) (fun s6 => okR v5 s6))) := by
        intro t2 C2 I2 a2 b2 d2 u2 v2 w2
        have e2 := C2.2.2.2.1
        refine Kp_child C2 I2.1 I2.2.1 I2.2.2.1 (by omega) (by omega) (by decide) (by decide) (fun t3 C3 X3 a3 b3 d3 w3 u3 v3 j3 l3 => ?_)
        have I3 := I2.chd X3 j3
        refine Kp_at C3 (fun t4 C4 X4 a4 b4 d4 w4 u4 v4 j4 l4 => ?_)
        have I4 := I3.flat X4
        have e4 := C4.2.2.2.1
        refine Ok_ret (show Ok _ _ _ from ?_)
        rcases w2 with ⟨w2, y2⟩ | ⟨w2, w2b⟩
        · have z2 : m_at t2 < m_ct t2 := lo_ne (Nat.ne_of_gt (show 0 < lo t2 (m_at t2) from by omega))
          refine Ok_ifz (by omega) (fun _ => ?_) (fun q => absurd (by omega) q)
          refine Kp_pass C4 hT (by omega) (by decide) (by omega) (fun t5 C5 X5 a5 b5 d5 w5 u5 v5 j5 l5 => ?_)
          have I5 := I4.flat X5
          have e5 := C5.2.2.2.1
          rcases w5 with ⟨w5, y5⟩ | ⟨w5, w5b⟩
          · have z5 : m_at t4 < m_ct t4 := lo_ne (Nat.ne_of_gt (show 0 < lo t4 (m_at t4) from by omega))
            refine Kp_push C5 (by omega) (fun t6 C6 X6 a6 b6 d6 w6 u6 v6 j6 l6 => ?_)
            have I6 := I5.flat X6
            have e6 := C6.2.2.2.1
            refine Ok_loop LF6 t6 [(54, 0, 0)] ⟨⟨rfl, trivial⟩, C6.tk hT, by omega, by omega, by omega, C6.2.1, C6.2.2.1, ⟨Io_n (by decide) (by decide) I6.1 I6.2.1 I6.2.2.1 (fun q => absurd q (by decide)) (fun q => absurd q (by decide)) I6.2.2.2, Nd_0 (by decide) Mo_nil, trivial⟩, trivial, ?_, by omega, ?_, ?_, C6.2.2.2.2.2, C6.1.2.2.2.2.2.2 hTt⟩ ?_
            · show m_dp t6 = 0 + 0
              omega
            · show m_rw t6 = 0 + 0
              omega
            · show m_md t6 + (7 + 0) ≤ 3 * m_at t6 + 7 * 1 + 10
              omega
            · show (5 + 0) + 6 * (4096 - m_at t6) + 4 * (600 - 1) < LF6
              unfold LF6
              omega
          · exact bad t5 C5 w5 (by omega) (by omega)
        · refine Ok_ifz (by omega) (fun q => absurd q (by rw [w4, w3]; exact w2)) (fun _ => ?_)
          exact bad t4 C4 (by rw [w4, w3]; exact w2) (by omega) (by omega)
      refine Ok_ife (by omega) (by decide) (fun q => ?_) (fun q => ?_)
      · exact rest t1 C1 I1 (by omega) (by omega) (by omega) (by omega) (by omega) (Or.inl ⟨by omega, q⟩)
      · refine Kp_error C1 (by omega) (fun t2 C2 X2 a2 b2 d2 w2 u2 v2 j2 l2 => ?_)
        exact rest t2 C2 (I1.flat X2) (by omega) (by omega) (by omega) (by omega) (by omega) (Or.inr ⟨w2.1, by omega⟩)
    · refine Ok_ifz (by omega) (fun q => absurd q w1) (fun _ => ?_)
      refine Ok_ifz (by omega) (fun q => absurd q w1) (fun _ => ?_)
      exact bad t1 C1 w1 (by omega) (by omega)
  refine key _ hT ?_ ?_ hc rfl rfl rfl rfl rfl rfl (show upN (m_fi s) 0 0 0 = 0 from upN_at) (show upN (m_wh s) 0 1 0 = 1 from upN_at) (show upN (m_pa s) 0 0 0 = 0 from upN_at)
  · refine ⟨show upN (m_pa s) 0 0 0 = 0 from upN_at, show upN (m_nx s) 0 0 0 = 0 from upN_at, fun _ => 0, fun _ => 1, fun x hx => ?_⟩
    have hx : x < 1 := hx
    have hx : x = 0 := by omega
    subst hx
    exact ⟨by decide, Or.inl (show upN (m_fi s) 0 0 0 = 0 from upN_at), Or.inl (show upN (m_nx s) 0 0 0 = 0 from upN_at), Or.inl (show upN (m_pa s) 0 0 0 = 0 from upN_at)⟩
  · have F : Fo 1 (upN (m_pa s) 0 0) (upN (m_fi s) 0 0) (upN (m_la s) 0 0) (upN (m_nx s) 0 0) := by
      intro p hp
      have hx : p = 0 := by omega
      subst hx
      exact ⟨by rw [upN_at]; omega, fun _ => Or.inl ⟨upN_at, upN_at⟩⟩
    refine ⟨Ex.same F rfl rfl rfl rfl rfl rfl, F, rfl, rfl, rfl, fun k => ⟨(hP k).1, (hP k).2.1, (hP k).2.2, fun (h : k < 0) => absurd h (Nat.not_lt_zero _)⟩, fun k => ?_, rfl, Nat.one_pos⟩
    show upN (m_wh s) 0 1 k < 256
    unfold upN
    split
    · decide
    · exact hW k
/-- node and child -/
def Sam (s s' : Mm) : Prop := Fin6 s' ∧ m_ct s' = m_ct s ∧ m_kd s' = m_kd s
theorem Fin6_th {s : Mm} {v : Nat} (h : Fin6 s) : Fin6 (w_th s v) := h
theorem Ok_node {s : Mm} {x1 x2 : Nat} {E : Mm → Prop} (h : Fin6 s) (h1 : x1 < 2147483648) (h2 : x2 < 2147483648) : Ok (fun _ s' => Sam s s') E (b_X6_node x1 x2 s) := by
  have S0 : Sam s (w_th s 0) := ⟨h, rfl, rfl⟩
  have bad : Ok (fun _ s' => Sam s s') E (bn (b_X6_fail (w_th s 0)) (fun v6 s6 => okR v6 s6)) := by
    unfold b_X6_fail
    exact ⟨h, rfl, rfl⟩
  unfold b_X6_node
  refine Ok_st (Ok_ck h1 ?_)
  obtain ⟨hP, hW, h0 | ⟨m1, ⟨lo, hi, T⟩, hB, m3⟩⟩ := h
  · refine Ok_ifl h1 (show m_nd s < 2147483648 by omega) (fun q => absurd (show x1 < m_nd s from q) (by omega)) (fun _ => bad)
  · refine Ok_ifl h1 (show m_nd s < 2147483648 by omega) (fun q => ?_) (fun _ => bad)
    have q : x1 < m_nd s := q
    have hb := hB x1 q
    obtain ⟨t1, t2, t3, t4⟩ := T (m_by s x1) hb
    refine Ok_ck h2 (Ok_ifl (by decide) h2 (fun _ => bad) (fun _ => Ok_ck (by omega) ?_))
    refine Ok_ifl h2 (by decide) (fun _ => ?_) (fun _ => ?_)
    · exact Ok_ifz h2 (fun _ => Ok_ck (show m_by s x1 < 65536 by omega) (Ok_ret S0)) (fun _ => Ok_ck (show m_by s x1 < 65536 by omega) (Ok_ret S0))
    · refine Ok_ife h2 (by decide) (fun _ => Ok_ck (show m_by s x1 < 65536 by omega) (Ok_ret S0)) (fun _ => ?_)
      refine Ok_ife h2 (by decide) (fun _ => ?_) (fun _ => ?_)
      · refine Ok_ck (show m_by s x1 < 65536 by omega) ?_
        refine Ok_ifz (show m_pa s (m_by s x1) < 2147483648 by omega) (fun _ => Ok_ret S0) (fun q9 => ?_)
        have q9 : m_pa s (m_by s x1) ≠ 0 := q9
        exact Ok_ck (show m_by s x1 < 65536 by omega) (Ok_ck (show m_pa s (m_by s x1) ≠ 0 from q9) (Ok_ck (show m_pa s (m_by s x1) - 1 < 65536 by omega) (Ok_ret S0)))
      · refine Ok_ck (show m_by s x1 < 65536 by omega) ?_
        have loop : ∀ (f y4 y5 : Nat), y5 ≤ m_md s → (if y5 = 0 then 0 else m_md s + 1 - Cn lo (lo (y5 - 1)) (m_md s)) < f → Ok (fun _ s' => Sam s s') E (lp_X6_node_116 f y4 y5 (w_th s 0)) := by
          intro f
          induction f with
          | zero => intro y4 y5 _ hf; omega
          | succ f ih =>
            intro y4 y5 hy hf
            rw [lp_X6_node_116]
            refine Ok_ifz (by omega) (fun _ => Ok_ret S0) (fun q5 => ?_)
            rw [if_neg q5] at hf
            refine Ok_ck q5 (Ok_ck (by omega) ?_)
            obtain ⟨r1, r2, r3, r4⟩ := T (y5 - 1) (by omega)
            have c0 := Cn_le lo (lo (y5 - 1)) (m_md s)
            refine ih _ _ (show m_nx s (y5 - 1) ≤ m_md s by omega) ?_
            show (if m_nx s (y5 - 1) = 0 then 0 else m_md s + 1 - Cn lo (lo (m_nx s (y5 - 1) - 1)) (m_md s)) < f
            by_cases h9 : m_nx s (y5 - 1) = 0
            · rw [if_pos h9]; omega
            · rw [if_neg h9]
              have c5 := Cn_lt (lo := lo) (v := lo (y5 - 1)) (w := lo (m_nx s (y5 - 1) - 1)) (q := y5 - 1) (by omega) (Nat.le_refl _) (by omega) (m_md s) (by omega)
              have c6 := Cn_le lo (lo (m_nx s (y5 - 1) - 1)) (m_md s)
              omega
        refine loop LF6 0 _ (show m_fi s (m_by s x1) ≤ m_md s by omega) ?_
        unfold LF6
        split
        · decide
        · omega
theorem Ok_childn {s : Mm} {x1 x2 : Nat} {E : Mm → Prop} (h : Fin6 s) (h1 : x1 < 2147483648) (h2 : x2 < 2147483648) : Ok (fun _ s' => Sam s s') E (b_X6_child_ x1 x2 s) := by
  have S0 : Sam s (w_th s 0) := ⟨h, rfl, rfl⟩
  have bad : Ok (fun _ s' => Sam s s') E (bn (b_X6_fail (w_th s 0)) (fun v6 s6 => okR v6 s6)) := by
    unfold b_X6_fail
    exact ⟨h, rfl, rfl⟩
  unfold b_X6_child_
  refine Ok_st (Ok_ck h1 ?_)
  obtain ⟨hP, hW, h0 | ⟨m1, ⟨lo, hi, T⟩, hB, m3⟩⟩ := h
  · refine Ok_ifl h1 (show m_nd s < 2147483648 by omega) (fun q => absurd (show x1 < m_nd s from q) (by omega)) (fun _ => bad)
  · refine Ok_ifl h1 (show m_nd s < 2147483648 by omega) (fun q => ?_) (fun _ => bad)
    have q : x1 < m_nd s := q
    have hb := hB x1 q
    obtain ⟨t1, t2, t3, t4⟩ := T (m_by s x1) hb
    refine Ok_ck h2 (Ok_ck (by omega) (Ok_ck (show m_by s x1 < 65536 by omega) ?_))
    have loop : ∀ (f y3 y4 : Nat), y3 ≤ m_md s → y4 + (if y3 = 0 then 0 else m_md s + 1 - Cn lo (lo (y3 - 1)) (m_md s)) ≤ m_md s + 1 → (if y3 = 0 then 0 else m_md s + 1 - Cn lo (lo (y3 - 1)) (m_md s)) < f → Ok (fun _ s' => Sam s s') E (lp_X6_child__41 f x2 y3 y4 (w_th s 0)) := by
      intro f
      induction f with
      | zero => intro y3 y4 _ _ hf; omega
      | succ f ih =>
        intro y3 y4 hy h4 hf
        rw [lp_X6_child__41]
        have fin : Ok (fun _ s' => Sam s s') E (ifz y3 (bn (b_X6_fail (w_th s 0)) (fun v6 s6 => okR v6 s6)) (ck (y3 ≠ 0) (ck ((y3 - 1) < 65536) (okR (m_nu (w_th s 0) (y3 - 1)) (w_th s 0))))) := by
          refine Ok_ifz (by omega) (fun _ => bad) (fun q5 => ?_)
          exact Ok_ck q5 (Ok_ck (by omega) (Ok_ret S0))
        refine Ok_ifl (by omega) h2 (fun _ => ?_) (fun _ => fin)
        refine Ok_ifz (by omega) (fun _ => fin) (fun q5 => ?_)
        rw [if_neg q5] at hf h4
        refine Ok_ck q5 (Ok_ck (by omega) ?_)
        obtain ⟨r1, r2, r3, r4⟩ := T (y3 - 1) (by omega)
        have c0 := Cn_le lo (lo (y3 - 1)) (m_md s)
        have hd : (if m_nx s (y3 - 1) = 0 then 0 else m_md s + 1 - Cn lo (lo (m_nx s (y3 - 1) - 1)) (m_md s)) + 1 ≤ m_md s + 1 - Cn lo (lo (y3 - 1)) (m_md s) := by
          by_cases h9 : m_nx s (y3 - 1) = 0
          · rw [if_pos h9]; omega
          · rw [if_neg h9]
            have c5 := Cn_lt (lo := lo) (v := lo (y3 - 1)) (w := lo (m_nx s (y3 - 1) - 1)) (q := y3 - 1) (by omega) (Nat.le_refl _) (by omega) (m_md s) (by omega)
            have c6 := Cn_le lo (lo (m_nx s (y3 - 1) - 1)) (m_md s)
            omega
        refine ih _ _ (show m_nx s (y3 - 1) ≤ m_md s by omega) ?_ ?_
        · show y4 + 1 + (if m_nx s (y3 - 1) = 0 then 0 else m_md s + 1 - Cn lo (lo (m_nx s (y3 - 1) - 1)) (m_md s)) ≤ m_md s + 1
          omega
        · show (if m_nx s (y3 - 1) = 0 then 0 else m_md s + 1 - Cn lo (lo (m_nx s (y3 - 1) - 1)) (m_md s)) < f
          omega
    refine loop LF6 _ 0 (show m_fi s (m_by s x1) ≤ m_md s by omega) ?_ ?_
    · split
      · omega
      · omega
    · unfold LF6
      split
      · decide
      · omega
