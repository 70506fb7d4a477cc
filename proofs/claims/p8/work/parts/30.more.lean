/-! Methods with a table of catches; new objects and arrays; constants; the script; a throw that is caught. -/
def Iz (mi : Nat) (own : String) (cc : ByteArray) (nL : Nat) (rt : Option FieldType) (nm : String) : Prop := ∃ me : mm_Me, mm_all[mi]? = some me ∧ me.1 = own ∧ me.2.2.1 = cc ∧ me.2.2.2.1 = nL ∧ me.2.2.2.2.1 = rt ∧ me.2.1.name = nm
theorem Is.z {mi : Nat} {own : String} {cc : ByteArray} {nL : Nat} {rt : Option FieldType} {nm : String} (h : Is mi own cc nL rt nm) : Iz mi own cc nL rt nm := by
  obtain ⟨me, h1, h2, h3, h4, h5, h6, h7⟩ := h
  exact ⟨me, h1, h2, h3, h4, h5, h6⟩
section EVZ
variable {xs : Nat → Int32} {L d mi pc : Nat} {ls : mm_L} {st : List Value} {h : mm_H} {c z : Nat} {o : mm_R} {own nm : String} {cc : ByteArray} {nL : Nat} {rt : Option FieldType}
theorem z_iconst {n : Int} (hm : Iz mi own cc nL rt nm) (hd : decode cc pc = .ok (.iconst n, 1)) {v : Int32} (hv : Int32.ofInt n = v) (K : Ev xs L d mi (pc + 1) ls (.int v :: st) h c z o) : Ev xs L d mi pc ls st h c z o := by
  obtain ⟨me, h1, rfl, rfl, rfl, rfl, rfl⟩ := hm
  subst hv
  exact Ev.act h1 hd rfl K
theorem z_iload_n {k : Fin 4} {i : Nat} {v : Int32} (hm : Iz mi own cc nL rt nm) (hd : decode cc pc = .ok (.iload_n k, 1)) (hi : (k : Nat) = i) (hl : mm_lk ls i = some (.int v)) (K : Ev xs L d mi (pc + 1) ls (.int v :: st) h c z o) : Ev xs L d mi pc ls st h c z o := by
  obtain ⟨me, h1, rfl, rfl, rfl, rfl, rfl⟩ := hm
  subst hi
  exact Ev.act h1 hd (by simp only [mm_act, if_true, mm_load, hl, mm_go]) K
theorem z_aload_n {k : Fin 4} {i : Nat} {v : Value} (hm : Iz mi own cc nL rt nm) (hd : decode cc pc = .ok (.aload_n k, 1)) (hi : (k : Nat) = i) (hl : mm_lk ls i = some v) (hv : mm_isA v = true) (K : Ev xs L d mi (pc + 1) ls (v :: st) h c z o) : Ev xs L d mi pc ls st h c z o := by
  obtain ⟨me, h1, rfl, rfl, rfl, rfl, rfl⟩ := hm
  subst hi
  cases v with
  | ref a => exact Ev.act h1 hd (by simp only [mm_act, if_true, mm_load, hl, mm_go]) K
  | retAddr a => exact Ev.act h1 hd (by simp only [mm_act, if_true, mm_load, hl, mm_go]) K
  | _ => cases hv
theorem z_istore_n {k : Fin 4} {i : Nat} {v : Int32} {ls' : mm_L} (hm : Iz mi own cc nL rt nm) (hd : decode cc pc = .ok (.istore_n k, 1)) (hi : (k : Nat) = i) (hn : i < nL) (hl : mm_s1 ls i (.int v) = ls') (K : Ev xs L d mi (pc + 1) ls' st h c z o) : Ev xs L d mi pc ls (.int v :: st) h c z o := by
  obtain ⟨me, h1, rfl, rfl, rfl, rfl, rfl⟩ := hm
  subst hi; subst hl
  exact Ev.act h1 hd (by simp only [mm_act, if_true, mm_store, hn, mm_go]) K
theorem z_astore_n {k : Fin 4} {i a : Nat} {ls' : mm_L} (hm : Iz mi own cc nL rt nm) (hd : decode cc pc = .ok (.astore_n k, 1)) (hi : (k : Nat) = i) (hn : i < nL) (hl : mm_s1 ls i (.ref a) = ls') (K : Ev xs L d mi (pc + 1) ls' st h c z o) : Ev xs L d mi pc ls (.ref a :: st) h c z o := by
  obtain ⟨me, h1, rfl, rfl, rfl, rfl, rfl⟩ := hm
  subst hi; subst hl
  exact Ev.act h1 hd (by simp only [mm_act, if_true, mm_store, hn, mm_go]) K
theorem z_isub {v w : Int32} (hm : Iz mi own cc nL rt nm) (hd : decode cc pc = .ok (.isub, 1)) (K : Ev xs L d mi (pc + 1) ls (.int (w - v) :: st) h c z o) : Ev xs L d mi pc ls (.int v :: .int w :: st) h c z o := by
  obtain ⟨me, h1, rfl, rfl, rfl, rfl, rfl⟩ := hm
  exact Ev.act h1 hd rfl K
theorem z_i2l {w : Int32} (hm : Iz mi own cc nL rt nm) (hd : decode cc pc = .ok (.i2l, 1)) (K : Ev xs L d mi (pc + 1) ls (.long w.toInt64 :: st) h c z o) : Ev xs L d mi pc ls (.int w :: st) h c z o := by
  obtain ⟨me, h1, rfl, rfl, rfl, rfl, rfl⟩ := hm
  exact Ev.act h1 hd rfl K
theorem z_dup {v : Value} (hm : Iz mi own cc nL rt nm) (hd : decode cc pc = .ok (.dup, 1)) (hv : v.category = 1) (K : Ev xs L d mi (pc + 1) ls (v :: v :: st) h c z o) : Ev xs L d mi pc ls (v :: st) h c z o := by
  obtain ⟨me, h1, rfl, rfl, rfl, rfl, rfl⟩ := hm
  exact Ev.act h1 hd (by simp only [mm_act, if_true, hv, mm_go]) K
theorem z_goto {off : Int} {t : Nat} (hm : Iz mi own cc nL rt nm) (hd : decode cc pc = .ok (.goto off, 3)) (ht : mm_jump pc off = some t) (K : Ev xs L d mi t ls st h c z o) : Ev xs L d mi pc ls st h c z o := by
  obtain ⟨me, h1, rfl, rfl, rfl, rfl, rfl⟩ := hm
  exact Ev.act h1 hd (by simp only [mm_act, if_true, ht, mm_go]) K
theorem z_icmp {cd : ClassFile.Cond} {off : Int} {t : Nat} {w v : Int32} (hm : Iz mi own cc nL rt nm) (hd : decode cc pc = .ok (.if_icmp cd off, 3)) (ht : mm_jump pc off = some t) (K1 : mm_cond cd w v = true → Ev xs L d mi t ls st h c z o) (K2 : mm_cond cd w v = false → Ev xs L d mi (pc + 3) ls st h c z o) : Ev xs L d mi pc ls (.int v :: .int w :: st) h c z o := by
  obtain ⟨me, h1, rfl, rfl, rfl, rfl, rfl⟩ := hm
  cases hb : mm_cond cd w v with
  | true => exact Ev.act h1 hd (by simp only [mm_act, if_true, mm_br, ht, hb, mm_go]) (K1 hb)
  | false => exact Ev.act h1 hd (by simp only [mm_act, if_true, mm_br, ht, hb, mm_go]; rfl) (K2 hb)
theorem z_getf {ix a ci k i ps : Nat} {ow : String} {ns : Bool} {fs : List Value} {v : Value} (hm : Iz mi own cc nL rt nm) (hd : decode cc pc = .ok (.getfield ix, 3)) (hF : mm_F own ix = some (ow, i, ns, ci, k, ps)) (hc : h[a]? = some (.inr (ci, fs))) (hv : fs[k]? = some v) (K : Ev xs L d mi (pc + 3) ls (v :: st) h c z o) : Ev xs L d mi pc ls (.ref a :: st) h c z o := by
  obtain ⟨me, h1, rfl, rfl, rfl, rfl, rfl⟩ := hm
  exact Ev.act h1 hd (by simp only [mm_act, if_true, mm_getf, hF, hc, hv, mm_go]) K
theorem z_putf {ix a ci k i ps : Nat} {ow : String} {ns : Bool} {fs : List Value} {v : Value} {h' : mm_H} (hm : Iz mi own cc nL rt nm) (hd : decode cc pc = .ok (.putfield ix, 3)) (hF : mm_F own ix = some (ow, i, ns, ci, k, ps)) (hc : h[a]? = some (.inr (ci, fs))) (hk : k < fs.length) (hf : mm_fits ci k v = true) (hfin : mm_final ci k = false) (hh : h.set a (.inr (ci, fs.set k v)) = h') (K : Ev xs L d mi (pc + 3) ls st h' c z o) : Ev xs L d mi pc ls (v :: .ref a :: st) h c z o := by
  obtain ⟨me, h1, rfl, rfl, rfl, rfl, rfl⟩ := hm
  subst hh
  refine Ev.act h1 hd ?_ K
  simp only [mm_act, if_true, mm_putf, hF, hc]
  rw [if_pos ⟨trivial, hk, hf, Or.inl hfin⟩]
  rfl
theorem z_reti {ty : FieldType} {v : Int32} (hm : Iz mi own cc nL (some ty) nm) (hd : decode cc pc = .ok (.ireturn, 1)) (hty : ty = .int ∨ (ty = .boolean ∧ (v = 0 ∨ v = 1))) : Ev xs L d mi pc ls [.int v] h c z (.inl (some (.int v)), h, c, z) := by
  obtain ⟨me, h1, rfl, rfl, rfl, h5, rfl⟩ := hm
  refine ⟨1, ?_⟩
  unfold mm_ev
  have hn : (ty = .int ∨ ty = .boolean) ∧ narrow ty (.int v) = .int v := by
    rcases hty with rfl | ⟨rfl, rfl | rfl⟩
    · exact ⟨Or.inl rfl, rfl⟩
    · exact ⟨Or.inr rfl, by decide +kernel⟩
    · exact ⟨Or.inr rfl, by decide +kernel⟩
  have ha : mm_act me xs L .ireturn 1 pc ls [.int v] h c z = some (.inr (.inl (some (.int v)))) := by
    simp only [mm_act, if_true, mm_retv, h5]
    rw [if_pos hn]
  simp only [h1, hd, ha]
theorem z_cv {ix kind mj np nL9 a cj : Nat} {C : String} {as r : List Value} {fs : List Value} {v : Option Value} {h1 : mm_H} {c1 z1 : Nat} (hm : Iz mi own cc nL rt nm) (hd : decode cc pc = .ok (.invokevirtual ix, 3)) (hK : Cal own ix kind mj np nL9 C) (hk : kind = 0 ∨ kind = 1 ∨ kind = 8) (hn : as.length = np) (hst : st = as.reverse ++ .ref a :: r) (hh : h[a]? = some (.inr (cj, fs))) (hcl : (mm_cl[cj]?).map (fun q => q.1) = some C) (hs : (r.map fun v => v.category).sum ≤ 8) (hlg : (lg_sl (.ref a :: as)).length ≤ nL9) (hd2 : 2 ≤ d)
    (hr : Rn xs L (d - 1) mj (.ref a :: as) h (.inl v, h1, c1, z1)) (K : Ev xs L d mi (pc + 3) ls (v.toList ++ r) h1 (c + c1) (z + z1) o) : Ev xs L d mi pc ls st h c z o := by
  obtain ⟨me, q1, rfl, rfl, rfl, rfl, rfl⟩ := hm
  subst hst
  exact Ev.call2 q1 hd (by simp only [mm_act, if_true]; exact mm_call_v hK (Or.inl ⟨rfl, hk⟩) hn hh hcl hs hlg) hd2 hr K
/-- the stack, said otherwise -/
theorem e_rw {st' : List Value} (hs : st = st') (K : Ev xs L d mi pc ls st' h c z o) : Ev xs L d mi pc ls st h c z o := by rw [hs]; exact K
theorem z_new {ix i ci N ps p : Nat} {ow C : String} {T : u_T} {h' : mm_H} (hm : Iz mi own cc nL rt nm) (hd : decode cc pc = .ok (.new ix, 3)) (hN : mm_N own ix = some (ow, i, ci, ps)) (hcl : mm_cl[ci]? = some (C, T, N)) (hl : h.length = p) (hh : h ++ [.inr (ci, mm_fresh ci N)] = h') (K : Ev xs L d mi (pc + 3) ls (.ref p :: st) h' (c + 1) (z + N) o) : Ev xs L d mi pc ls st h c z o := by
  obtain ⟨me, h1, rfl, rfl, rfl, rfl, rfl⟩ := hm
  subst hl
  subst hh
  exact Ev.act h1 hd (by simp only [mm_act, if_true, mm_new, hN, hcl, mm_go]) K
theorem z_newa {t : ArrayType} {g n p : Nat} {v : Int32} {h' : mm_H} (hm : Iz mi own cc nL rt nm) (hd : decode cc pc = .ok (.newarray t, 2)) (hg : mm_tag t = some g) (hv : v.toNatClampNeg = n) (hb : ¬ (v < 0 ∨ 1000000 < v.toNatClampNeg)) (hl : h.length = p) (hh : h ++ [.inl (g, mm_zero g n)] = h') (K : Ev xs L d mi (pc + 2) ls (.ref p :: st) h' (c + 1) (z + n) o) : Ev xs L d mi pc ls (.int v :: st) h c z o := by
  obtain ⟨me, h1, rfl, rfl, rfl, rfl, rfl⟩ := hm
  subst hl
  subst hv
  subst hh
  refine Ev.act h1 hd ?_ K
  simp only [mm_act, if_true, mm_newa, hg]
  rw [if_neg hb]
  rfl
/-- the constructor of Object -/
theorem z_obj {ix i mj ps a : Nat} {ow : String} (hm : Iz mi own cc nL rt nm) (hd : decode cc pc = .ok (.invokespecial ix, 3)) (hC : mm_C own ix = some (ow, i, 10, mj, ps)) (hs : (st.map fun v => v.category).sum ≤ 8) (K : Ev xs L d mi (pc + 3) ls st h c z o) : Ev xs L d mi pc ls (.ref a :: st) h c z o := by
  obtain ⟨me, h1, rfl, rfl, rfl, rfl, rfl⟩ := hm
  refine Ev.act h1 hd ?_ K
  simp only [mm_act, if_true, mm_call, hC]
  rw [if_pos ⟨trivial, trivial⟩]
  rw [if_pos hs]
  rfl
/-- a constructor of ours -/
theorem z_csp {ix kind mj np nL9 a cj : Nat} {C : String} {as r : List Value} {fs : List Value} {v : Option Value} {h1 : mm_H} {c1 z1 : Nat} (hm : Iz mi own cc nL rt nm) (hd : decode cc pc = .ok (.invokespecial ix, 3)) (hK : Cal own ix kind mj np nL9 C) (hk : kind = 4 ∨ kind = 5) (hn : as.length = np) (hst : st = as.reverse ++ .ref a :: r) (hh : h[a]? = some (.inr (cj, fs))) (hcl : (mm_cl[cj]?).map (fun q => q.1) = some C) (hs : (r.map fun v => v.category).sum ≤ 8) (hlg : (lg_sl (.ref a :: as)).length ≤ nL9) (hd2 : 2 ≤ d)
    (hr : Rn xs L (d - 1) mj (.ref a :: as) h (.inl v, h1, c1, z1)) (K : Ev xs L d mi (pc + 3) ls (v.toList ++ r) h1 (c + c1) (z + z1) o) : Ev xs L d mi pc ls st h c z o := by
  obtain ⟨me, q1, rfl, rfl, rfl, rfl, rfl⟩ := hm
  subst hst
  exact Ev.call2 q1 hd (by simp only [mm_act, if_true]; exact mm_call_v hK (Or.inr ⟨rfl, hk⟩) hn hh hcl hs hlg) hd2 hr K
theorem z_ldc {ix i ps : Nat} {ow : String} {v : Int32} (hm : Iz mi own cc nL rt nm) (hd : decode cc pc = .ok (.ldc ix, 2)) (hI : mm_I own ix = some (ow, i, v, ps)) (K : Ev xs L d mi (pc + 2) ls (.int v :: st) h c z o) : Ev xs L d mi pc ls st h c z o := by
  obtain ⟨me, h1, rfl, rfl, rfl, rfl, rfl⟩ := hm
  exact Ev.act h1 hd (by simp only [mm_act, if_true, hI, mm_go]) K
theorem z_ldc2 {ix i ps : Nat} {ow : String} {v : Int64} (hm : Iz mi own cc nL rt nm) (hd : decode cc pc = .ok (.ldc2_w ix, 3)) (hJ : mm_J own ix = some (ow, i, v, ps)) (K : Ev xs L d mi (pc + 3) ls (.long v :: st) h c z o) : Ev xs L d mi pc ls st h c z o := by
  obtain ⟨me, h1, rfl, rfl, rfl, rfl, rfl⟩ := hm
  exact Ev.act h1 hd (by simp only [mm_act, if_true, hJ, mm_go]) K
/-- an int of the script -/
theorem z_xald {i : Int32} {a : Nat} {j : Nat} (hm : Iz mi own cc nL rt nm) (hd : decode cc pc = .ok (.iaload, 1)) (hj : i.toNatClampNeg = j) (hi : ¬ (i < 0 ∨ L ≤ i.toNatClampNeg)) (K : Ev xs L d mi (pc + 1) ls (.int (xs j) :: st) h c z o) : Ev xs L d mi pc ls (.int i :: .retAddr a :: st) h c z o := by
  obtain ⟨me, h1, rfl, rfl, rfl, rfl, rfl⟩ := hm
  subst hj
  refine Ev.act h1 hd ?_ K
  simp only [mm_act, if_true, mm_ald]
  rw [if_pos ⟨rfl, trivial, hi⟩]
  rfl
theorem z_xlen {a : Nat} (hm : Iz mi own cc nL rt nm) (hd : decode cc pc = .ok (.arraylength, 1)) (K : Ev xs L d mi (pc + 1) ls (.int (Int32.ofNat L) :: st) h c z o) : Ev xs L d mi pc ls (.retAddr a :: st) h c z o := by
  obtain ⟨me, h1, rfl, rfl, rfl, rfl, rfl⟩ := hm
  exact Ev.act h1 hd (by simp only [mm_act, if_true, mm_alen, mm_go]) K
theorem z_thr2 {me : mm_Me} {i : Instr} {len mj pc' k : Nat} {as r : List Value} {E : String} {h1 : mm_H} {c1 z1 : Nat} (hm : mm_all[mi]? = some me) (hd : decode me.2.2.1 pc = .ok (i, len)) (ha : mm_act me xs L i len pc ls st h c z = some (.inr (.inr (.inr (mj, as, r, true))))) (hd2 : 2 ≤ d) (ht : me.2.2.2.2.2.1 ≠ []) (hh : mm_hnd me pc E = some (pc', k)) (hr : Rn xs L (d - 1) mj as h (.inr E, h1, c1, z1)) (K : Ev xs L d mi pc' (mm_un ls k) [] h1 (c + c1) (z + z1) o) : Ev xs L d mi pc ls st h c z o := by
  obtain ⟨n1, e1⟩ := hr
  obtain ⟨n2, e2⟩ := K
  refine ⟨n1 + n2 + 1, ?_⟩
  have f1 := mm_ev_up e1 n2
  have f2 := mm_ev_up e2 n1
  rw [Nat.add_comm n2 n1] at f2
  unfold mm_ev
  simp only [hm, hd, ha]
  rw [if_neg (by omega)]
  simp only [f1]
  rw [if_neg (by decide)]
  cases h9 : me.2.2.2.2.2.1 with
  | nil => exact absurd h9 ht
  | cons q r => simp only [hh]; exact f2
/-- a call whose throw is caught in this method -/
theorem z_cvC {me : mm_Me} {ix kind mj np nL9 a cj pc' k : Nat} {C : String} {as r : List Value} {fs : List Value} {E : String} {h1 : mm_H} {c1 z1 : Nat} (q1 : mm_all[mi]? = some me) (hd : decode me.2.2.1 pc = .ok (.invokevirtual ix, 3)) (hK : Cal me.1 ix kind mj np nL9 C) (hk : kind = 0 ∨ kind = 1) (hn : as.length = np) (hst : st = as.reverse ++ .ref a :: r) (hh : h[a]? = some (.inr (cj, fs))) (hcl : (mm_cl[cj]?).map (fun q => q.1) = some C) (hs : (r.map fun v => v.category).sum ≤ 8) (hlg : (lg_sl (.ref a :: as)).length ≤ nL9) (hd2 : 2 ≤ d) (ht : me.2.2.2.2.2.1 ≠ []) (hH : mm_hnd me pc E = some (pc', k))
    (hr : Rn xs L (d - 1) mj (.ref a :: as) h (.inr E, h1, c1, z1)) (K : Ev xs L d mi pc' (mm_un ls k) [] h1 (c + c1) (z + z1) o) : Ev xs L d mi pc ls st h c z o := by
  subst hst
  have h9 : mm_call me 0 ix pc ls (as.reverse ++ .ref a :: r) h c z = some (.inr (.inr (.inr (mj, .ref a :: as, r, true)))) := by
    rw [mm_call_v hK (Or.inl ⟨rfl, by omega⟩) hn hh hcl hs hlg]
    have : decide (kind < 2) = true := by rw [decide_eq_true_eq]; omega
    rw [this]
  exact z_thr2 q1 hd (by simp only [mm_act, if_true]; exact h9) hd2 ht hH hr K
end EVZ
theorem y_X5_build : Iz 9 RX5 cX5_build 4 (some .int) "build" := ⟨_, rfl, rfl, rfl, rfl, rfl, rfl⟩
theorem y_L_node : Iz 115 RL cL_node 5 (some .int) "node" := ⟨_, rfl, rfl, rfl, rfl, rfl, rfl⟩
theorem y_L_child : Iz 121 RL cL_child 5 (some .int) "child" := ⟨_, rfl, rfl, rfl, rfl, rfl, rfl⟩
theorem n_RL_8 : mm_N RL 8 = some (RL, 8, 3, 200) := by decide +kernel
theorem n_RL_19 : mm_N RL 19 = some (RL, 19, 4, 857) := by decide +kernel
theorem n_RX5_7 : mm_N RX5 7 = some (RX5, 7, 1, 208) := by decide +kernel
theorem n_RX5_16 : mm_N RX5 16 = some (RX5, 16, 2, 223) := by decide +kernel
theorem n_RX5_47 : mm_N RX5 47 = some (RX5, 47, 0, 301) := by decide +kernel
theorem o_RX5_1 : mm_C RX5 1 = some (RX5, 1, 10, 0, 205) := by decide +kernel
theorem o_RX2_1 : mm_C RX2 1 = some (RX2, 1, 10, 0, 213) := by decide +kernel
theorem o_RX1_5 : mm_C RX1 5 = some (RX1, 5, 10, 0, 306) := by decide +kernel
theorem o_RX6_1 : mm_C RX6 1 = some (RX6, 1, 10, 0, 862) := by decide +kernel
theorem o_RX3_3 : mm_C RX3 3 = some (RX3, 3, 10, 0, 228) := by decide +kernel
theorem j_RX6_75 : mm_J RX6 75 = some (RX6, 75, 255, 959) := by decide +kernel
theorem j_RL_27 : mm_J RL 27 = some (RL, 27, 4294967295, 1338) := by decide +kernel
theorem i_RX6_13 : mm_I RX6 13 = some (RX6, 13, 65536, 863) := by decide +kernel
