/-! Runs of the small machine, without fuel; a rule an instruction. -/
theorem mm_ev_mono {xs : Nat → Int32} {L : Nat} : ∀ (n d mi pc : Nat) (ls : mm_L) (st : List Value) (h : mm_H) (c z : Nat) (o : mm_R), mm_ev xs L n d mi pc ls st h c z = some o → mm_ev xs L (n + 1) d mi pc ls st h c z = some o := by
  intro n
  induction n with
  | zero => intro d mi pc ls st h c z o ha; cases ha
  | succ n ih =>
    intro d mi pc ls st h c z o ha
    rw [mm_ev] at ha
    rw [mm_ev]
    split at ha
    · cases ha
    · rename_i me hme
      split at ha
      · cases ha
      · rename_i i len hdg
        split at ha
        · cases ha
        · rename_i hact
          exact ih _ _ _ _ _ _ _ _ _ ha
        · rename_i hact
          exact ha
        · rename_i hact
          exact ha
        · rename_i mj as r thr hact
          split at ha
          · cases ha
          · rename_i hd2
            try rw [if_neg hd2]
            split at ha
            · cases ha
            · rename_i v h1 c1 z1 hc
              have hc' := ih _ _ _ _ _ _ _ _ _ hc
              simp only [hc']
              exact ih _ _ _ _ _ _ _ _ _ ha
            · rename_i E h1 c1 z1 hc
              have hc' := ih _ _ _ _ _ _ _ _ _ hc
              simp only [hc']
              split at ha
              · cases ha
              · rename_i ht
                try rw [if_neg ht]
                split at ha
                · rename_i htab
                  (try simp only [htab])
                  exact ha
                · rename_i htab
                  split at ha
                  · cases ha
                  · rename_i pc1 k hh
                    (try simp only [hh])
                    exact ih _ _ _ _ _ _ _ _ _ ha
theorem mm_ev_up {xs : Nat → Int32} {L n d mi pc : Nat} {ls : mm_L} {st : List Value} {h : mm_H} {c z : Nat} {o : mm_R} (ha : mm_ev xs L n d mi pc ls st h c z = some o) (k : Nat) : mm_ev xs L (n + k) d mi pc ls st h c z = some o := by
  induction k with
  | zero => exact ha
  | succ k ih => exact mm_ev_mono _ _ _ _ _ _ _ _ _ _ ih
def Ev (xs : Nat → Int32) (L d mi pc : Nat) (ls : mm_L) (st : List Value) (h : mm_H) (c z : Nat) (o : mm_R) : Prop := ∃ n, mm_ev xs L n d mi pc ls st h c z = some o
/-- a method's run: from its arguments and the cells to its end -/
def Rn (xs : Nat → Int32) (L d mi : Nat) (as : List Value) (h : mm_H) (o : mm_R) : Prop := Ev xs L d mi 0 (lv_args 0 as) [] h 0 0 o
/-- the method of number mi: own class, code, locals, answer, table, name -/
def Is (mi : Nat) (own : String) (cc : ByteArray) (nL : Nat) (rt : Option FieldType) (nm : String) : Prop := ∃ me : mm_Me, mm_all[mi]? = some me ∧ me.1 = own ∧ me.2.2.1 = cc ∧ me.2.2.2.1 = nL ∧ me.2.2.2.2.1 = rt ∧ me.2.1.name = nm ∧ me.2.2.2.2.2.1 = []
section EVR
variable {xs : Nat → Int32} {L d mi pc : Nat} {ls : mm_L} {st : List Value} {h : mm_H} {c z : Nat} {o : mm_R} {own nm : String} {cc : ByteArray} {nL : Nat} {rt : Option FieldType}
theorem Ev.act {me : mm_Me} {i : Instr} {len pc' : Nat} {ls' : mm_L} {st' : List Value} {h' : mm_H} {c' z' : Nat} (hm : mm_all[mi]? = some me) (hd : decode me.2.2.1 pc = .ok (i, len)) (ha : mm_act me xs L i len pc ls st h c z = some (.inl (pc', ls', st', h', c', z'))) (K : Ev xs L d mi pc' ls' st' h' c' z' o) : Ev xs L d mi pc ls st h c z o := by
  obtain ⟨n, hn⟩ := K
  refine ⟨n + 1, ?_⟩
  unfold mm_ev
  simp only [hm, hd, ha]
  exact hn
theorem e_iconst {n : Int} (hm : Is mi own cc nL rt nm) (hd : decode cc pc = .ok (.iconst n, 1)) {v : Int32} (hv : Int32.ofInt n = v) (K : Ev xs L d mi (pc + 1) ls (.int v :: st) h c z o) : Ev xs L d mi pc ls st h c z o := by
  obtain ⟨me, h1, rfl, rfl, rfl, rfl, rfl, h7⟩ := hm
  subst hv
  exact Ev.act h1 hd rfl K
theorem e_bipush {n : Int} (hm : Is mi own cc nL rt nm) (hd : decode cc pc = .ok (.bipush n, 2)) {v : Int32} (hv : (Int8.ofInt n).toInt32 = v) (K : Ev xs L d mi (pc + 2) ls (.int v :: st) h c z o) : Ev xs L d mi pc ls st h c z o := by
  obtain ⟨me, h1, rfl, rfl, rfl, rfl, rfl, h7⟩ := hm
  subst hv
  exact Ev.act h1 hd rfl K
theorem e_sipush {n : Int} (hm : Is mi own cc nL rt nm) (hd : decode cc pc = .ok (.sipush n, 3)) {v : Int32} (hv : (Int16.ofInt n).toInt32 = v) (K : Ev xs L d mi (pc + 3) ls (.int v :: st) h c z o) : Ev xs L d mi pc ls st h c z o := by
  obtain ⟨me, h1, rfl, rfl, rfl, rfl, rfl, h7⟩ := hm
  subst hv
  exact Ev.act h1 hd rfl K
theorem e_iload_n {k : Fin 4} {i : Nat} {v : Int32} (hm : Is mi own cc nL rt nm) (hd : decode cc pc = .ok (.iload_n k, 1)) (hi : (k : Nat) = i) (hl : mm_lk ls i = some (.int v)) (K : Ev xs L d mi (pc + 1) ls (.int v :: st) h c z o) : Ev xs L d mi pc ls st h c z o := by
  obtain ⟨me, h1, rfl, rfl, rfl, rfl, rfl, h7⟩ := hm
  subst hi
  exact Ev.act h1 hd (by simp only [mm_act, if_true, mm_load, hl, mm_go]) K
theorem e_iload {i : Nat} {v : Int32} (hm : Is mi own cc nL rt nm) (hd : decode cc pc = .ok (.iload i, 2)) (hl : mm_lk ls i = some (.int v)) (K : Ev xs L d mi (pc + 2) ls (.int v :: st) h c z o) : Ev xs L d mi pc ls st h c z o := by
  obtain ⟨me, h1, rfl, rfl, rfl, rfl, rfl, h7⟩ := hm
  exact Ev.act h1 hd (by simp only [mm_act, if_true, mm_load, hl, mm_go]) K
theorem e_lload_n {k : Fin 4} {i : Nat} {v : Int64} (hm : Is mi own cc nL rt nm) (hd : decode cc pc = .ok (.lload_n k, 1)) (hi : (k : Nat) = i) (hl : mm_lk ls i = some (.long v)) (K : Ev xs L d mi (pc + 1) ls (.long v :: st) h c z o) : Ev xs L d mi pc ls st h c z o := by
  obtain ⟨me, h1, rfl, rfl, rfl, rfl, rfl, h7⟩ := hm
  subst hi
  exact Ev.act h1 hd (by simp only [mm_act, if_true, mm_load, hl, mm_go]) K
theorem e_aload_n {k : Fin 4} {i : Nat} {v : Value} (hm : Is mi own cc nL rt nm) (hd : decode cc pc = .ok (.aload_n k, 1)) (hi : (k : Nat) = i) (hl : mm_lk ls i = some v) (hv : mm_isA v = true) (K : Ev xs L d mi (pc + 1) ls (v :: st) h c z o) : Ev xs L d mi pc ls st h c z o := by
  obtain ⟨me, h1, rfl, rfl, rfl, rfl, rfl, h7⟩ := hm
  subst hi
  cases v with
  | ref a => exact Ev.act h1 hd (by simp only [mm_act, if_true, mm_load, hl, mm_go]) K
  | retAddr a => exact Ev.act h1 hd (by simp only [mm_act, if_true, mm_load, hl, mm_go]) K
  | _ => cases hv
theorem e_aload {i : Nat} {v : Value} (hm : Is mi own cc nL rt nm) (hd : decode cc pc = .ok (.aload i, 2)) (hl : mm_lk ls i = some v) (hv : mm_isA v = true) (K : Ev xs L d mi (pc + 2) ls (v :: st) h c z o) : Ev xs L d mi pc ls st h c z o := by
  obtain ⟨me, h1, rfl, rfl, rfl, rfl, rfl, h7⟩ := hm
  cases v with
  | ref a => exact Ev.act h1 hd (by simp only [mm_act, if_true, mm_load, hl, mm_go]) K
  | retAddr a => exact Ev.act h1 hd (by simp only [mm_act, if_true, mm_load, hl, mm_go]) K
  | _ => cases hv
theorem e_istore_n {k : Fin 4} {i : Nat} {v : Int32} {ls' : mm_L} (hm : Is mi own cc nL rt nm) (hd : decode cc pc = .ok (.istore_n k, 1)) (hi : (k : Nat) = i) (hn : i < nL) (hl : mm_s1 ls i (.int v) = ls') (K : Ev xs L d mi (pc + 1) ls' st h c z o) : Ev xs L d mi pc ls (.int v :: st) h c z o := by
  obtain ⟨me, h1, rfl, rfl, rfl, rfl, rfl, h7⟩ := hm
  subst hi; subst hl
  exact Ev.act h1 hd (by simp only [mm_act, if_true, mm_store, hn, mm_go]) K
theorem e_istore {i : Nat} {v : Int32} {ls' : mm_L} (hm : Is mi own cc nL rt nm) (hd : decode cc pc = .ok (.istore i, 2)) (hn : i < nL) (hl : mm_s1 ls i (.int v) = ls') (K : Ev xs L d mi (pc + 2) ls' st h c z o) : Ev xs L d mi pc ls (.int v :: st) h c z o := by
  obtain ⟨me, h1, rfl, rfl, rfl, rfl, rfl, h7⟩ := hm
  subst hl
  exact Ev.act h1 hd (by simp only [mm_act, if_true, mm_store, hn, mm_go]) K
theorem e_astore_n {k : Fin 4} {i a : Nat} {ls' : mm_L} (hm : Is mi own cc nL rt nm) (hd : decode cc pc = .ok (.astore_n k, 1)) (hi : (k : Nat) = i) (hn : i < nL) (hl : mm_s1 ls i (.ref a) = ls') (K : Ev xs L d mi (pc + 1) ls' st h c z o) : Ev xs L d mi pc ls (.ref a :: st) h c z o := by
  obtain ⟨me, h1, rfl, rfl, rfl, rfl, rfl, h7⟩ := hm
  subst hi; subst hl
  exact Ev.act h1 hd (by simp only [mm_act, if_true, mm_store, hn, mm_go]) K
theorem e_astore {i a : Nat} {ls' : mm_L} (hm : Is mi own cc nL rt nm) (hd : decode cc pc = .ok (.astore i, 2)) (hn : i < nL) (hl : mm_s1 ls i (.ref a) = ls') (K : Ev xs L d mi (pc + 2) ls' st h c z o) : Ev xs L d mi pc ls (.ref a :: st) h c z o := by
  obtain ⟨me, h1, rfl, rfl, rfl, rfl, rfl, h7⟩ := hm
  subst hl
  exact Ev.act h1 hd (by simp only [mm_act, if_true, mm_store, hn, mm_go]) K
theorem e_iinc {i : Nat} {n : Int} {v w : Int32} {ls' : mm_L} (hm : Is mi own cc nL rt nm) (hd : decode cc pc = .ok (.iinc i n, 3)) (hn : i < nL) (hk : mm_lk ls i = some (.int v)) (hw : v + Int32.ofInt n = w) (hl : mm_s1 ls i (.int w) = ls') (K : Ev xs L d mi (pc + 3) ls' st h c z o) : Ev xs L d mi pc ls st h c z o := by
  obtain ⟨me, h1, rfl, rfl, rfl, rfl, rfl, h7⟩ := hm
  subst hw; subst hl
  exact Ev.act h1 hd (by simp only [mm_act, true_and, hn, if_true, hk, mm_go]) K
theorem e_iadd {v w : Int32} (hm : Is mi own cc nL rt nm) (hd : decode cc pc = .ok (.iadd, 1)) (K : Ev xs L d mi (pc + 1) ls (.int (w + v) :: st) h c z o) : Ev xs L d mi pc ls (.int v :: .int w :: st) h c z o := by
  obtain ⟨me, h1, rfl, rfl, rfl, rfl, rfl, h7⟩ := hm
  exact Ev.act h1 hd rfl K
theorem e_isub {v w : Int32} (hm : Is mi own cc nL rt nm) (hd : decode cc pc = .ok (.isub, 1)) (K : Ev xs L d mi (pc + 1) ls (.int (w - v) :: st) h c z o) : Ev xs L d mi pc ls (.int v :: .int w :: st) h c z o := by
  obtain ⟨me, h1, rfl, rfl, rfl, rfl, rfl, h7⟩ := hm
  exact Ev.act h1 hd rfl K
theorem e_imul {v w : Int32} (hm : Is mi own cc nL rt nm) (hd : decode cc pc = .ok (.imul, 1)) (K : Ev xs L d mi (pc + 1) ls (.int (w * v) :: st) h c z o) : Ev xs L d mi pc ls (.int v :: .int w :: st) h c z o := by
  obtain ⟨me, h1, rfl, rfl, rfl, rfl, rfl, h7⟩ := hm
  exact Ev.act h1 hd rfl K
theorem e_iand {v w : Int32} (hm : Is mi own cc nL rt nm) (hd : decode cc pc = .ok (.iand, 1)) (K : Ev xs L d mi (pc + 1) ls (.int (w &&& v) :: st) h c z o) : Ev xs L d mi pc ls (.int v :: .int w :: st) h c z o := by
  obtain ⟨me, h1, rfl, rfl, rfl, rfl, rfl, h7⟩ := hm
  exact Ev.act h1 hd rfl K
theorem e_ior {v w : Int32} (hm : Is mi own cc nL rt nm) (hd : decode cc pc = .ok (.ior, 1)) (K : Ev xs L d mi (pc + 1) ls (.int (w ||| v) :: st) h c z o) : Ev xs L d mi pc ls (.int v :: .int w :: st) h c z o := by
  obtain ⟨me, h1, rfl, rfl, rfl, rfl, rfl, h7⟩ := hm
  exact Ev.act h1 hd rfl K
theorem e_ishl {v w : Int32} (hm : Is mi own cc nL rt nm) (hd : decode cc pc = .ok (.ishl, 1)) (K : Ev xs L d mi (pc + 1) ls (.int (w <<< (v &&& 31)) :: st) h c z o) : Ev xs L d mi pc ls (.int v :: .int w :: st) h c z o := by
  obtain ⟨me, h1, rfl, rfl, rfl, rfl, rfl, h7⟩ := hm
  exact Ev.act h1 hd rfl K
theorem e_ishr {v w : Int32} (hm : Is mi own cc nL rt nm) (hd : decode cc pc = .ok (.ishr, 1)) (K : Ev xs L d mi (pc + 1) ls (.int (w >>> (v &&& 31)) :: st) h c z o) : Ev xs L d mi pc ls (.int v :: .int w :: st) h c z o := by
  obtain ⟨me, h1, rfl, rfl, rfl, rfl, rfl, h7⟩ := hm
  exact Ev.act h1 hd rfl K
theorem e_land {v w : Int64} (hm : Is mi own cc nL rt nm) (hd : decode cc pc = .ok (.land, 1)) (K : Ev xs L d mi (pc + 1) ls (.long (w &&& v) :: st) h c z o) : Ev xs L d mi pc ls (.long v :: .long w :: st) h c z o := by
  obtain ⟨me, h1, rfl, rfl, rfl, rfl, rfl, h7⟩ := hm
  exact Ev.act h1 hd rfl K
theorem e_lor {v w : Int64} (hm : Is mi own cc nL rt nm) (hd : decode cc pc = .ok (.lor, 1)) (K : Ev xs L d mi (pc + 1) ls (.long (w ||| v) :: st) h c z o) : Ev xs L d mi pc ls (.long v :: .long w :: st) h c z o := by
  obtain ⟨me, h1, rfl, rfl, rfl, rfl, rfl, h7⟩ := hm
  exact Ev.act h1 hd rfl K
theorem e_lshl {v : Int32} {w : Int64} (hm : Is mi own cc nL rt nm) (hd : decode cc pc = .ok (.lshl, 1)) (K : Ev xs L d mi (pc + 1) ls (.long (w <<< (v.toInt64 &&& 63)) :: st) h c z o) : Ev xs L d mi pc ls (.int v :: .long w :: st) h c z o := by
  obtain ⟨me, h1, rfl, rfl, rfl, rfl, rfl, h7⟩ := hm
  exact Ev.act h1 hd rfl K
theorem e_lshr {v : Int32} {w : Int64} (hm : Is mi own cc nL rt nm) (hd : decode cc pc = .ok (.lshr, 1)) (K : Ev xs L d mi (pc + 1) ls (.long (w >>> (v.toInt64 &&& 63)) :: st) h c z o) : Ev xs L d mi pc ls (.int v :: .long w :: st) h c z o := by
  obtain ⟨me, h1, rfl, rfl, rfl, rfl, rfl, h7⟩ := hm
  exact Ev.act h1 hd rfl K
theorem e_lushr {v : Int32} {w : Int64} (hm : Is mi own cc nL rt nm) (hd : decode cc pc = .ok (.lushr, 1)) (K : Ev xs L d mi (pc + 1) ls (.long ((w.toUInt64 >>> (v.toInt64.toUInt64 &&& Int64.toUInt64 63)).toInt64) :: st) h c z o) : Ev xs L d mi pc ls (.int v :: .long w :: st) h c z o := by
  obtain ⟨me, h1, rfl, rfl, rfl, rfl, rfl, h7⟩ := hm
  exact Ev.act h1 hd rfl K
theorem e_lcmp {v w : Int64} (hm : Is mi own cc nL rt nm) (hd : decode cc pc = .ok (.lcmp, 1)) (K : Ev xs L d mi (pc + 1) ls (.int (lg_cmp w v) :: st) h c z o) : Ev xs L d mi pc ls (.long v :: .long w :: st) h c z o := by
  obtain ⟨me, h1, rfl, rfl, rfl, rfl, rfl, h7⟩ := hm
  exact Ev.act h1 hd rfl K
theorem e_i2l {w : Int32} (hm : Is mi own cc nL rt nm) (hd : decode cc pc = .ok (.i2l, 1)) (K : Ev xs L d mi (pc + 1) ls (.long w.toInt64 :: st) h c z o) : Ev xs L d mi pc ls (.int w :: st) h c z o := by
  obtain ⟨me, h1, rfl, rfl, rfl, rfl, rfl, h7⟩ := hm
  exact Ev.act h1 hd rfl K
theorem e_i2b {w : Int32} (hm : Is mi own cc nL rt nm) (hd : decode cc pc = .ok (.i2b, 1)) (K : Ev xs L d mi (pc + 1) ls (.int w.toInt8.toInt32 :: st) h c z o) : Ev xs L d mi pc ls (.int w :: st) h c z o := by
  obtain ⟨me, h1, rfl, rfl, rfl, rfl, rfl, h7⟩ := hm
  exact Ev.act h1 hd rfl K
theorem e_l2i {w : Int64} (hm : Is mi own cc nL rt nm) (hd : decode cc pc = .ok (.l2i, 1)) (K : Ev xs L d mi (pc + 1) ls (.int w.toInt32 :: st) h c z o) : Ev xs L d mi pc ls (.long w :: st) h c z o := by
  obtain ⟨me, h1, rfl, rfl, rfl, rfl, rfl, h7⟩ := hm
  exact Ev.act h1 hd rfl K
theorem e_dup {v : Value} (hm : Is mi own cc nL rt nm) (hd : decode cc pc = .ok (.dup, 1)) (hv : v.category = 1) (K : Ev xs L d mi (pc + 1) ls (v :: v :: st) h c z o) : Ev xs L d mi pc ls (v :: st) h c z o := by
  obtain ⟨me, h1, rfl, rfl, rfl, rfl, rfl, h7⟩ := hm
  exact Ev.act h1 hd (by simp only [mm_act, if_true, hv, mm_go]) K
theorem e_dup2 {v w : Value} (hm : Is mi own cc nL rt nm) (hd : decode cc pc = .ok (.dup2, 1)) (hv : v.category = 1) (hw : w.category = 1) (K : Ev xs L d mi (pc + 1) ls (v :: w :: v :: w :: st) h c z o) : Ev xs L d mi pc ls (v :: w :: st) h c z o := by
  obtain ⟨me, h1, rfl, rfl, rfl, rfl, rfl, h7⟩ := hm
  exact Ev.act h1 hd (by simp only [mm_act, if_true, hv, hw, and_self, mm_go]) K
theorem e_pop {v : Value} (hm : Is mi own cc nL rt nm) (hd : decode cc pc = .ok (.pop, 1)) (hv : v.category = 1) (K : Ev xs L d mi (pc + 1) ls st h c z o) : Ev xs L d mi pc ls (v :: st) h c z o := by
  obtain ⟨me, h1, rfl, rfl, rfl, rfl, rfl, h7⟩ := hm
  exact Ev.act h1 hd (by simp only [mm_act, if_true, hv, mm_go]) K
theorem e_goto {off : Int} {t : Nat} (hm : Is mi own cc nL rt nm) (hd : decode cc pc = .ok (.goto off, 3)) (ht : mm_jump pc off = some t) (K : Ev xs L d mi t ls st h c z o) : Ev xs L d mi pc ls st h c z o := by
  obtain ⟨me, h1, rfl, rfl, rfl, rfl, rfl, h7⟩ := hm
  exact Ev.act h1 hd (by simp only [mm_act, if_true, ht, mm_go]) K
/-- a branch: both ways -/
theorem e_if {cd : ClassFile.Cond} {off : Int} {t : Nat} {w : Int32} (hm : Is mi own cc nL rt nm) (hd : decode cc pc = .ok (.ifCond cd off, 3)) (ht : mm_jump pc off = some t) (K1 : mm_cond cd w 0 = true → Ev xs L d mi t ls st h c z o) (K2 : mm_cond cd w 0 = false → Ev xs L d mi (pc + 3) ls st h c z o) : Ev xs L d mi pc ls (.int w :: st) h c z o := by
  obtain ⟨me, h1, rfl, rfl, rfl, rfl, rfl, h7⟩ := hm
  cases hb : mm_cond cd w 0 with
  | true => exact Ev.act h1 hd (by simp only [mm_act, if_true, mm_br, ht, hb, mm_go]) (K1 hb)
  | false => exact Ev.act h1 hd (by simp only [mm_act, if_true, mm_br, ht, hb, mm_go]; rfl) (K2 hb)
theorem e_icmp {cd : ClassFile.Cond} {off : Int} {t : Nat} {w v : Int32} (hm : Is mi own cc nL rt nm) (hd : decode cc pc = .ok (.if_icmp cd off, 3)) (ht : mm_jump pc off = some t) (K1 : mm_cond cd w v = true → Ev xs L d mi t ls st h c z o) (K2 : mm_cond cd w v = false → Ev xs L d mi (pc + 3) ls st h c z o) : Ev xs L d mi pc ls (.int v :: .int w :: st) h c z o := by
  obtain ⟨me, h1, rfl, rfl, rfl, rfl, rfl, h7⟩ := hm
  cases hb : mm_cond cd w v with
  | true => exact Ev.act h1 hd (by simp only [mm_act, if_true, mm_br, ht, hb, mm_go]) (K1 hb)
  | false => exact Ev.act h1 hd (by simp only [mm_act, if_true, mm_br, ht, hb, mm_go]; rfl) (K2 hb)
theorem e_lookup {dflt : Int} {ps : Array (Int × Int)} {len t : Nat} {w : Int32} (hm : Is mi own cc nL rt nm) (hd : decode cc pc = .ok (.lookupswitch dflt ps, len)) (hs : (ps.toList.zip (ps.toList.drop 1)).all (fun (a, next) => a.1 < next.1) = true) (ht : mm_jump pc (Op.lookupswitch.offset ps.toList dflt w.toInt) = some t) (K : Ev xs L d mi t ls st h c z o) : Ev xs L d mi pc ls (.int w :: st) h c z o := by
  obtain ⟨me, h1, rfl, rfl, rfl, rfl, rfl, h7⟩ := hm
  refine Ev.act h1 hd ?_ K
  simp only [mm_act]
  rw [if_pos hs]
  simp only [ht, mm_go]
theorem e_table {dflt lo hi : Int} {offs : Array Int} {len t : Nat} {w : Int32} (hm : Is mi own cc nL rt nm) (hd : decode cc pc = .ok (.tableswitch dflt lo hi offs, len)) (ht : mm_jump pc (mm_table dflt lo hi offs w) = some t) (hi9 : (w.toInt < lo ∨ hi < w.toInt) ∨ (offs[(w.toInt - lo).toNat]?).isSome = true) (K : Ev xs L d mi t ls st h c z o) : Ev xs L d mi pc ls (.int w :: st) h c z o := by
  obtain ⟨me, h1, rfl, rfl, rfl, rfl, rfl, h7⟩ := hm
  refine Ev.act h1 hd ?_ K
  simp only [mm_act, ht]
  rw [if_pos hi9]
  rfl
theorem e_getf {ix a ci k i ps : Nat} {ow : String} {ns : Bool} {fs : List Value} {v : Value} (hm : Is mi own cc nL rt nm) (hd : decode cc pc = .ok (.getfield ix, 3)) (hF : mm_F own ix = some (ow, i, ns, ci, k, ps)) (hc : h[a]? = some (.inr (ci, fs))) (hv : fs[k]? = some v) (K : Ev xs L d mi (pc + 3) ls (v :: st) h c z o) : Ev xs L d mi pc ls (.ref a :: st) h c z o := by
  obtain ⟨me, h1, rfl, rfl, rfl, rfl, rfl, h7⟩ := hm
  exact Ev.act h1 hd (by simp only [mm_act, if_true, mm_getf, hF, hc, hv, mm_go]) K
theorem e_putf {ix a ci k i ps : Nat} {ow : String} {ns : Bool} {fs : List Value} {v : Value} {h' : mm_H} (hm : Is mi own cc nL rt nm) (hd : decode cc pc = .ok (.putfield ix, 3)) (hF : mm_F own ix = some (ow, i, ns, ci, k, ps)) (hc : h[a]? = some (.inr (ci, fs))) (hk : k < fs.length) (hf : mm_fits ci k v = true) (hfin : mm_final ci k = false) (hh : h.set a (.inr (ci, fs.set k v)) = h') (K : Ev xs L d mi (pc + 3) ls st h' c z o) : Ev xs L d mi pc ls (v :: .ref a :: st) h c z o := by
  obtain ⟨me, h1, rfl, rfl, rfl, rfl, rfl, h7⟩ := hm
  subst hh
  refine Ev.act h1 hd ?_ K
  simp only [mm_act, if_true, mm_putf, hF, hc]
  rw [if_pos ⟨trivial, hk, hf, Or.inl hfin⟩]
  rfl
theorem e_putF {ix a ci k i ps : Nat} {ow : String} {fs : List Value} {v : Value} {h' : mm_H} (hm : Is mi own cc nL rt "<init>") (hd : decode cc pc = .ok (.putfield ix, 3)) (hF : mm_F own ix = some (ow, i, false, ci, k, ps)) (hc : h[a]? = some (.inr (ci, fs))) (hk : k < fs.length) (hf : mm_fits ci k v = true) (hfin : mm_final ci k = true) (hcl : (mm_cl[ci]?).map (fun q => q.1) = some own) (hh : h.set a (.inr (ci, fs.set k v)) = h') (K : Ev xs L d mi (pc + 3) ls st h' c z o) : Ev xs L d mi pc ls (v :: .ref a :: st) h c z o := by
  obtain ⟨me, h1, rfl, rfl, rfl, rfl, hn, h7⟩ := hm
  subst hh
  refine Ev.act h1 hd ?_ K
  simp only [mm_act, if_true, mm_putf, hF, hc]
  rw [if_pos ⟨trivial, hk, hf, Or.inr ⟨hfin, trivial, hn, hcl⟩⟩]
  rfl
theorem e_iald {a n t : Nat} {f : Nat → Int32} {i : Int32} {ins : Instr} (hins : (ins = .iaload ∧ t = 0) ∨ (ins = .baload ∧ (t = 1 ∨ t = 2))) (hm : Is mi own cc nL rt nm) (hd : decode cc pc = .ok (ins, 1)) (hc : h[a]? = some (.inl (t, n, .inl f))) (hi : vp_in i n) (K : Ev xs L d mi (pc + 1) ls (.int (f i.toNatClampNeg) :: st) h c z o) : Ev xs L d mi pc ls (.int i :: .ref a :: st) h c z o := by
  obtain ⟨me, h1, rfl, rfl, rfl, rfl, rfl, h7⟩ := hm
  refine Ev.act h1 hd ?_ K
  rcases hins with ⟨rfl, rfl⟩ | ⟨rfl, rfl | rfl⟩
  · simp only [mm_act, if_true, mm_ald, hc]
    rw [if_pos ⟨rfl, trivial, hi⟩]
    rfl
  · simp only [mm_act, if_true, mm_ald, hc]
    rw [if_pos ⟨rfl, trivial, hi⟩]
    rfl
  · simp only [mm_act, if_true, mm_ald, hc]
    rw [if_pos ⟨rfl, trivial, hi⟩]
    rfl
theorem e_iast {a n t : Nat} {f : Nat → Int32} {i v : Int32} {ins : Instr} {h' : mm_H} (hins : (ins = .iastore ∧ t = 0) ∨ (ins = .bastore ∧ (t = 1 ∨ t = 2))) (hm : Is mi own cc nL rt nm) (hd : decode cc pc = .ok (ins, 1)) (hc : h[a]? = some (.inl (t, n, .inl f))) (hi : vp_in i n) (hh : h.set a (.inl (t, n, .inl (upd f i.toNatClampNeg (vp_nar (mm_ty t) v)))) = h') (K : Ev xs L d mi (pc + 1) ls st h' c z o) : Ev xs L d mi pc ls (.int v :: .int i :: .ref a :: st) h c z o := by
  obtain ⟨me, h1, rfl, rfl, rfl, rfl, rfl, h7⟩ := hm
  subst hh
  refine Ev.act h1 hd ?_ K
  rcases hins with ⟨rfl, rfl⟩ | ⟨rfl, rfl | rfl⟩
  · simp only [mm_act, if_true, mm_ast, hc]
    rw [if_pos ⟨rfl, by decide, hi⟩]
    rfl
  · simp only [mm_act, if_true, mm_ast, hc]
    rw [if_pos ⟨rfl, by decide, hi⟩]
    rfl
  · simp only [mm_act, if_true, mm_ast, hc]
    rw [if_pos ⟨rfl, by decide, hi⟩]
    rfl
theorem e_alen {a n t : Nat} {y : (Nat → Int32) ⊕ (Nat → Int64) ⊕ (Nat → UInt32) ⊕ (Nat → UInt64) ⊕ (Nat → Option Nat)} (hm : Is mi own cc nL rt nm) (hd : decode cc pc = .ok (.arraylength, 1)) (hc : h[a]? = some (.inl (t, n, y))) (ht : t < 4) (K : Ev xs L d mi (pc + 1) ls (.int (Int32.ofNat n) :: st) h c z o) : Ev xs L d mi pc ls (.ref a :: st) h c z o := by
  obtain ⟨me, h1, rfl, rfl, rfl, rfl, rfl, h7⟩ := hm
  refine Ev.act h1 hd ?_ K
  simp only [mm_act, if_true, mm_alen, hc]
  rw [if_pos ht]
  rfl
theorem e_ret0 (hm : Is mi own cc nL none nm) (hd : decode cc pc = .ok (.return_, 1)) : Ev xs L d mi pc ls [] h c z (.inl none, h, c, z) := by
  obtain ⟨me, h1, rfl, rfl, rfl, h5, rfl, h7⟩ := hm
  refine ⟨1, ?_⟩
  unfold mm_ev
  have ha : mm_act me xs L .return_ 1 pc ls [] h c z = some (.inr (.inl none)) := by simp only [mm_act, if_true, mm_ret0, h5]
  simp only [h1, hd, ha]
theorem e_reti {ty : FieldType} {v : Int32} (hm : Is mi own cc nL (some ty) nm) (hd : decode cc pc = .ok (.ireturn, 1)) (hty : ty = .int ∨ (ty = .boolean ∧ (v = 0 ∨ v = 1))) : Ev xs L d mi pc ls [.int v] h c z (.inl (some (.int v)), h, c, z) := by
  obtain ⟨me, h1, rfl, rfl, rfl, h5, rfl, h7⟩ := hm
  refine ⟨1, ?_⟩
  unfold mm_ev
  have hn : (ty = .int ∨ ty = .boolean) ∧ narrow ty (.int v) = .int v := by
    rcases hty with rfl | ⟨rfl, rfl | rfl⟩
    · exact ⟨Or.inl rfl, rfl⟩
    · exact ⟨Or.inr rfl, by decide +kernel⟩
    · exact ⟨Or.inr rfl, by decide +kernel⟩
  have ha : mm_act me xs L .ireturn 1 pc ls [.int v] h c z = some (.inr (.inl (some (.int v)))) := by
    simp only [mm_act, if_true, mm_retv, h5]
    rw [if_pos hn]
  simp only [h1, hd, ha]
/-- a call that returns -/
theorem Ev.call {me : mm_Me} {i : Instr} {len mj : Nat} {as r : List Value} {thr : Bool} {v : Option Value} {h1 : mm_H} {c1 z1 : Nat} (hm : mm_all[mi]? = some me) (hd : decode me.2.2.1 pc = .ok (i, len)) (ha : mm_act me xs L i len pc ls st h c z = some (.inr (.inr (.inr (mj, as, r, thr))))) (hd2 : 1 ≤ d) (hr : Rn xs L d mj as h (.inl v, h1, c1, z1)) (K : Ev xs L (d + 1) mi (pc + 3) ls (v.toList ++ r) h1 (c + c1) (z + z1) o) : Ev xs L (d + 1) mi pc ls st h c z o := by
  obtain ⟨n1, e1⟩ := hr
  obtain ⟨n2, e2⟩ := K
  refine ⟨n1 + n2 + 1, ?_⟩
  have f1 := mm_ev_up e1 n2
  have f2 := mm_ev_up e2 n1
  rw [Nat.add_comm n2 n1] at f2
  unfold mm_ev
  simp only [hm, hd, ha]
  rw [if_neg (by omega), Nat.add_sub_cancel]
  simp only [f1]
  exact f2
theorem Ev.callX {me : mm_Me} {i : Instr} {len mj : Nat} {as r : List Value} {E : String} {h1 : mm_H} {c1 z1 : Nat} (hm : mm_all[mi]? = some me) (hd : decode me.2.2.1 pc = .ok (i, len)) (ha : mm_act me xs L i len pc ls st h c z = some (.inr (.inr (.inr (mj, as, r, true))))) (hd2 : 1 ≤ d) (htab : me.2.2.2.2.2.1 = []) (hr : Rn xs L d mj as h (.inr E, h1, c1, z1)) : Ev xs L (d + 1) mi pc ls st h c z (.inr E, h1, c + c1, z + z1) := by
  obtain ⟨n1, e1⟩ := hr
  refine ⟨n1 + 1, ?_⟩
  unfold mm_ev
  simp only [hm, hd, ha]
  rw [if_neg (by omega), Nat.add_sub_cancel]
  simp only [e1, htab]
  rfl
end EVR
