/-! Runs with some end; the class's own cells. -/
def Es (xs : Nat → Int32) (L d mi pc : Nat) (ls : mm_L) (st : List Value) (h : mm_H) (c z : Nat) (P : mm_R → Prop) : Prop := ∃ o, Ev xs L d mi pc ls st h c z o ∧ P o
theorem Es.via {xs : Nat → Int32} {L d mi pc pc' : Nat} {ls ls' : mm_L} {st st' : List Value} {h h' : mm_H} {c c' z z' : Nat} {P : mm_R → Prop} (f : ∀ o, Ev xs L d mi pc' ls' st' h' c' z' o → Ev xs L d mi pc ls st h c z o) (g : Es xs L d mi pc' ls' st' h' c' z' P) : Es xs L d mi pc ls st h c z P := by
  obtain ⟨o, h1, h2⟩ := g
  exact ⟨o, f o h1, h2⟩
theorem Es.imp {xs : Nat → Int32} {L d mi pc : Nat} {ls : mm_L} {st : List Value} {h : mm_H} {c z : Nat} {P P' : mm_R → Prop} (g : Es xs L d mi pc ls st h c z P) (f : ∀ o, P o → P' o) : Es xs L d mi pc ls st h c z P' := by
  obtain ⟨o, h1, h2⟩ := g
  exact ⟨o, h1, f o h2⟩
/-- TreeBuilder at 0, Tokens at 1, their kinds at 2, the Tree at 3, its rows at a .. a + 5 -/
def sK (a N : Nat) (cnt us nb : Int32) (kf f1 f2 f3 f4 f5 f6 : Nat → Int32) : Nat → Option mm_E := fun k => if k = 0 then some (.inr (3, [.ref 1, .ref 3])) else if k = 1 then some (.inr (1, [.ref 2, .int cnt])) else if k = 2 then some (.inl (1, 16384, .inl kf)) else if k = 3 then some (.inr (2, [.ref a, .ref (a + 1), .ref (a + 2), .ref (a + 3), .ref (a + 4), .ref (a + 5), .int us, .int nb])) else if k = a then some (.inl (0, N, .inl f1)) else if k = a + 1 then some (.inl (0, N, .inl f2)) else if k = a + 2 then some (.inl (0, N, .inl f3)) else if k = a + 3 then some (.inl (0, N, .inl f4)) else if k = a + 4 then some (.inl (0, N, .inl f5)) else if k = a + 5 then some (.inl (0, N, .inl f6)) else none
def HK (h0 : mm_H) (a N : Nat) (cnt us nb : Int32) (kf f1 f2 f3 f4 f5 f6 : Nat → Int32) : mm_H := hp h0 (sK a N cnt us nb kf f1 f2 f3 f4 f5 f6)
def Hk (h0 : mm_H) (a N : Nat) : Prop := 4 ≤ a ∧ a + 6 ≤ h0.length ∧ N < 2147483648
section HKL
variable {h0 : mm_H} {a N : Nat} {cnt us nb x y : Int32} {kf f1 f2 f3 f4 f5 f6 g : Nat → Int32}
theorem gK_0 (hK : Hk h0 a N) : (HK h0 a N cnt us nb kf f1 f2 f3 f4 f5 f6)[0]? = some (.inr (3, [.ref 1, .ref 3])) := by
  obtain ⟨h1, h2, h3⟩ := hK
  refine hp_get (by omega) ?_
  unfold sK
  rw [if_pos rfl]
theorem gK_1 (hK : Hk h0 a N) : (HK h0 a N cnt us nb kf f1 f2 f3 f4 f5 f6)[1]? = some (.inr (1, [.ref 2, .int cnt])) := by
  obtain ⟨h1, h2, h3⟩ := hK
  refine hp_get (by omega) ?_
  unfold sK
  rw [if_neg (by omega), if_pos rfl]
theorem gK_2 (hK : Hk h0 a N) : (HK h0 a N cnt us nb kf f1 f2 f3 f4 f5 f6)[2]? = some (.inl (1, 16384, .inl kf)) := by
  obtain ⟨h1, h2, h3⟩ := hK
  refine hp_get (by omega) ?_
  unfold sK
  rw [if_neg (by omega), if_neg (by omega), if_pos rfl]
theorem gK_3 (hK : Hk h0 a N) : (HK h0 a N cnt us nb kf f1 f2 f3 f4 f5 f6)[3]? = some (.inr (2, [.ref a, .ref (a + 1), .ref (a + 2), .ref (a + 3), .ref (a + 4), .ref (a + 5), .int us, .int nb])) := by
  obtain ⟨h1, h2, h3⟩ := hK
  refine hp_get (by omega) ?_
  unfold sK
  rw [if_neg (by omega), if_neg (by omega), if_neg (by omega), if_pos rfl]
theorem gK_r1 (hK : Hk h0 a N) : (HK h0 a N cnt us nb kf f1 f2 f3 f4 f5 f6)[a]? = some (.inl (0, N, .inl f1)) := by
  obtain ⟨h1, h2, h3⟩ := hK
  refine hp_get (by omega) ?_
  unfold sK
  rw [if_neg (by omega), if_neg (by omega), if_neg (by omega), if_neg (by omega), if_pos rfl]
theorem gK_r2 (hK : Hk h0 a N) : (HK h0 a N cnt us nb kf f1 f2 f3 f4 f5 f6)[a + 1]? = some (.inl (0, N, .inl f2)) := by
  obtain ⟨h1, h2, h3⟩ := hK
  refine hp_get (by omega) ?_
  unfold sK
  rw [if_neg (by omega), if_neg (by omega), if_neg (by omega), if_neg (by omega), if_neg (by omega), if_pos rfl]
theorem gK_r3 (hK : Hk h0 a N) : (HK h0 a N cnt us nb kf f1 f2 f3 f4 f5 f6)[a + 2]? = some (.inl (0, N, .inl f3)) := by
  obtain ⟨h1, h2, h3⟩ := hK
  refine hp_get (by omega) ?_
  unfold sK
  rw [if_neg (by omega), if_neg (by omega), if_neg (by omega), if_neg (by omega), if_neg (by omega), if_neg (by omega), if_pos rfl]
theorem gK_r4 (hK : Hk h0 a N) : (HK h0 a N cnt us nb kf f1 f2 f3 f4 f5 f6)[a + 3]? = some (.inl (0, N, .inl f4)) := by
  obtain ⟨h1, h2, h3⟩ := hK
  refine hp_get (by omega) ?_
  unfold sK
  rw [if_neg (by omega), if_neg (by omega), if_neg (by omega), if_neg (by omega), if_neg (by omega), if_neg (by omega), if_neg (by omega), if_pos rfl]
theorem gK_r5 (hK : Hk h0 a N) : (HK h0 a N cnt us nb kf f1 f2 f3 f4 f5 f6)[a + 4]? = some (.inl (0, N, .inl f5)) := by
  obtain ⟨h1, h2, h3⟩ := hK
  refine hp_get (by omega) ?_
  unfold sK
  rw [if_neg (by omega), if_neg (by omega), if_neg (by omega), if_neg (by omega), if_neg (by omega), if_neg (by omega), if_neg (by omega), if_neg (by omega), if_pos rfl]
theorem gK_r6 (hK : Hk h0 a N) : (HK h0 a N cnt us nb kf f1 f2 f3 f4 f5 f6)[a + 5]? = some (.inl (0, N, .inl f6)) := by
  obtain ⟨h1, h2, h3⟩ := hK
  refine hp_get (by omega) ?_
  unfold sK
  rw [if_neg (by omega), if_neg (by omega), if_neg (by omega), if_neg (by omega), if_neg (by omega), if_neg (by omega), if_neg (by omega), if_neg (by omega), if_neg (by omega), if_pos rfl]
theorem sK_1 (hK : Hk h0 a N) : (HK h0 a N cnt us nb kf f1 f2 f3 f4 f5 f6).set 1 (.inr (1, [.ref 2, .int x])) = HK h0 a N x us nb kf f1 f2 f3 f4 f5 f6 := hp_set (fun j => by
  obtain ⟨h1, h2, h3⟩ := hK
  unfold sK
  by_cases e : j = 1
  · subst e
    rw [if_neg (by omega), if_pos rfl, if_pos rfl]
  · simp only [e, if_false])
theorem sK_2 (hK : Hk h0 a N) : (HK h0 a N cnt us nb kf f1 f2 f3 f4 f5 f6).set 2 (.inl (1, 16384, .inl g)) = HK h0 a N cnt us nb g f1 f2 f3 f4 f5 f6 := hp_set (fun j => by
  obtain ⟨h1, h2, h3⟩ := hK
  unfold sK
  by_cases e : j = 2
  · subst e
    rw [if_neg (by omega), if_neg (by omega), if_pos rfl, if_pos rfl]
  · simp only [e, if_false])
theorem sK_3 (hK : Hk h0 a N) : (HK h0 a N cnt us nb kf f1 f2 f3 f4 f5 f6).set 3 (.inr (2, [.ref a, .ref (a + 1), .ref (a + 2), .ref (a + 3), .ref (a + 4), .ref (a + 5), .int x, .int y])) = HK h0 a N cnt x y kf f1 f2 f3 f4 f5 f6 := hp_set (fun j => by
  obtain ⟨h1, h2, h3⟩ := hK
  unfold sK
  by_cases e : j = 3
  · subst e
    rw [if_neg (by omega), if_neg (by omega), if_neg (by omega), if_pos rfl, if_pos rfl]
  · simp only [e, if_false])
theorem sK_r5 (hK : Hk h0 a N) : (HK h0 a N cnt us nb kf f1 f2 f3 f4 f5 f6).set (a + 4) (.inl (0, N, .inl g)) = HK h0 a N cnt us nb kf f1 f2 f3 f4 g f6 := hp_set (fun j => by
  obtain ⟨h1, h2, h3⟩ := hK
  unfold sK
  by_cases e : j = a + 4
  · subst e
    rw [if_neg (by omega), if_neg (by omega), if_neg (by omega), if_neg (by omega), if_neg (by omega), if_neg (by omega), if_neg (by omega), if_neg (by omega), if_pos rfl, if_pos rfl]
  · simp only [e, if_false])
theorem sK_r6 (hK : Hk h0 a N) : (HK h0 a N cnt us nb kf f1 f2 f3 f4 f5 f6).set (a + 5) (.inl (0, N, .inl g)) = HK h0 a N cnt us nb kf f1 f2 f3 f4 f5 g := hp_set (fun j => by
  obtain ⟨h1, h2, h3⟩ := hK
  unfold sK
  by_cases e : j = a + 5
  · subst e
    rw [if_neg (by omega), if_neg (by omega), if_neg (by omega), if_neg (by omega), if_neg (by omega), if_neg (by omega), if_neg (by omega), if_neg (by omega), if_neg (by omega), if_pos rfl, if_pos rfl]
  · simp only [e, if_false])
end HKL
theorem in_zero {n : Nat} (h : 0 < n) (hn : n < 2147483648) : vp_in (0 : Int32) n := show vp_in (nI 0) n from nI_in h hn
theorem sw5 (w : Int32) : w = 0 ∨ w = 1 ∨ w = 2 ∨ w = 3 ∨ w = 4 ∨ (w.toInt < 0 ∨ 4 < w.toInt) := by
  by_cases h : w.toInt < 0 ∨ 4 < w.toInt
  · exact Or.inr (Or.inr (Or.inr (Or.inr (Or.inr h))))
  · have h9 : w.toInt = (0 : Int32).toInt ∨ w.toInt = (1 : Int32).toInt ∨ w.toInt = (2 : Int32).toInt ∨ w.toInt = (3 : Int32).toInt ∨ w.toInt = (4 : Int32).toInt := by
      rw [show (0 : Int32).toInt = 0 from rfl, show (1 : Int32).toInt = 1 from rfl, show (2 : Int32).toInt = 2 from rfl, show (3 : Int32).toInt = 3 from rfl, show (4 : Int32).toInt = 4 from rfl]
      omega
    rcases h9 with h9 | h9 | h9 | h9 | h9
    · exact Or.inl (Int32.toInt_inj.mp h9)
    · exact Or.inr (Or.inl (Int32.toInt_inj.mp h9))
    · exact Or.inr (Or.inr (Or.inl (Int32.toInt_inj.mp h9)))
    · exact Or.inr (Or.inr (Or.inr (Or.inl (Int32.toInt_inj.mp h9))))
    · exact Or.inr (Or.inr (Or.inr (Or.inr (Or.inl (Int32.toInt_inj.mp h9)))))
/-- a counter that is still below -/
theorem up_nat {j : Nat} {n : Int32} (hj : j < 2147483648) (h : ¬ n ≤ nI j) : j + 1 < 2147483648 := by
  have h1 := Int32.lt_iff_toInt_lt.mp (Int32.not_le.mp h)
  rw [nI_toInt hj] at h1
  have h2 := Int32.toInt_lt n
  omega
/-- some int, nothing changed -/
def Vh (h : mm_H) (o : mm_R) : Prop := ∃ v : Int32, o = (.inl (some (.int v)), h, 0, 0)
