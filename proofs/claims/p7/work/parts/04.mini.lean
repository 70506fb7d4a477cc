/-! A small machine over lists: the same instructions, with cells by their places, values that are Values (a cell: .ref of its place; the script: .retAddr 0). -/
abbrev mm_E : Type := (Nat × vp_A) ⊕ (Nat × List Value)
abbrev mm_H : Type := List mm_E
abbrev mm_L : Type := List (Nat × Value)
/-- the end of a method: returned or threw; the cells; cells and slots made -/
abbrev mm_R : Type := (Option Value ⊕ String) × mm_H × Nat × Nat
def mm_law : mm_Me := (RL, x, code, 7, ret, [], 1, 0)
def mm_all : List mm_Me := mm_MT ++ [mm_law]
def mm_F (own : String) (ix : Nat) : Option (String × Nat × Bool × Nat × Nat × Nat) := mm_FT.find? (fun e => e.1 == own && e.2.1 == ix)
def mm_C (own : String) (ix : Nat) : Option (String × Nat × Nat × Nat × Nat) := mm_CT.find? (fun e => e.1 == own && e.2.1 == ix)
def mm_N (own : String) (ix : Nat) : Option (String × Nat × Nat × Nat) := mm_NT.find? (fun e => e.1 == own && e.2.1 == ix)
def mm_X (own : String) (ix : Nat) : Option (String × Nat × String × Nat) := mm_XT.find? (fun e => e.1 == own && e.2.1 == ix)
def mm_I (own : String) (ix : Nat) : Option (String × Nat × Int32 × Nat) := mm_IT.find? (fun e => e.1 == own && e.2.1 == ix)
def mm_J (own : String) (ix : Nat) : Option (String × Nat × Int64 × Nat) := mm_JT.find? (fun e => e.1 == own && e.2.1 == ix)
def mm_lk (ls : mm_L) (i : Nat) : Option Value := (ls.find? (fun q => q.1 == i)).map (·.2)
def mm_s1 (ls : mm_L) (i : Nat) (v : Value) : mm_L := (i, v) :: ls.filter (fun q => !(q.1 == i) && !(q.1 + 1 == i && q.2.category == 2))
def mm_un (ls : mm_L) (i : Nat) : mm_L := ls.filter (fun q => !(q.1 == i) && !(q.1 + 1 == i && q.2.category == 2))
def mm_isA (v : Value) : Bool := match v with
  | .ref _ => true
  | .retAddr _ => true
  | _ => false
/-- types of arrays: 0 int, 1 byte, 2 boolean, 3 long -/
def mm_tag (t : ArrayType) : Option Nat := match t with
  | .int => some 0
  | .byte => some 1
  | .boolean => some 2
  | .long => some 3
  | _ => none
def mm_ty (t : Nat) : FieldType := match t with
  | 0 => .int
  | 1 => .byte
  | 2 => .boolean
  | _ => .long
def mm_zero (t n : Nat) : vp_A := if t = 3 then (n, .inr (.inl (fun _ => 0))) else (n, .inl (fun _ => 0))
def mm_tyT (ci : Nat) : Nat → FieldType := match ci with
  | 0 => tyX1
  | 1 => tyX2
  | 2 => tyX3
  | 3 => tyX5
  | _ => tyX6
def mm_fresh (ci N : Nat) : List Value := (List.range N).map (fun k => defaultValue (mm_tyT ci k))
/-- what an instruction does: on in this method; an end; a throw; a call (method, arguments, what stays on the stack, whether it may throw) -/
abbrev mm_A : Type := (Nat × mm_L × List Value × mm_H × Nat × Nat) ⊕ ((Option Value) ⊕ (String ⊕ (Nat × List Value × List Value × Bool)))
def mm_jump (pc : Nat) (off : Int) : Option Nat := if 0 ≤ (pc : Int) + off then some ((pc : Int) + off).toNat else none
def mm_cond (cd : ClassFile.Cond) (x y : Int32) : Bool := match cd with
  | .eq => decide (x = y)
  | .ne => decide (¬ x = y)
  | .lt => decide (x < y)
  | .ge => decide (y ≤ x)
  | .gt => decide (y < x)
  | .le => decide (x ≤ y)
def mm_go (pc : Nat) (ls : mm_L) (st : List Value) (h : mm_H) (c z : Nat) : Option mm_A := some (.inl (pc, ls, st, h, c, z))
def mm_br (b : Bool) (off : Int) (pc : Nat) (ls : mm_L) (st : List Value) (h : mm_H) (c z : Nat) : Option mm_A :=
  match mm_jump pc off with
  | none => none
  | some t => if b = true then mm_go t ls st h c z else mm_go (pc + 3) ls st h c z
def mm_load (i len pc : Nat) (k : Nat) (ls : mm_L) (st : List Value) (h : mm_H) (c z : Nat) : Option mm_A :=
  match i, mm_lk ls k with
  | 0, some (.int v) => mm_go (pc + len) ls (.int v :: st) h c z
  | 1, some (.long v) => mm_go (pc + len) ls (.long v :: st) h c z
  | 2, some (.ref a) => mm_go (pc + len) ls (.ref a :: st) h c z
  | 2, some (.retAddr a) => mm_go (pc + len) ls (.retAddr a :: st) h c z
  | _, _ => none
def mm_store (i len pc nL : Nat) (k : Nat) (ls : mm_L) (st : List Value) (h : mm_H) (c z : Nat) : Option mm_A :=
  if k < nL then
    match i, st with
    | 0, .int v :: r => mm_go (pc + len) (mm_s1 ls k (.int v)) r h c z
    | 2, .ref a :: r => mm_go (pc + len) (mm_s1 ls k (.ref a)) r h c z
    | 2, .retAddr a :: r => mm_go (pc + len) (mm_s1 ls k (.retAddr a)) r h c z
    | _, _ => none
  else none
/-- two ints on top -/
def mm_i2 (f : Int32 → Int32 → Int32) (pc : Nat) (ls : mm_L) (st : List Value) (h : mm_H) (c z : Nat) : Option mm_A := match st with
  | .int y :: .int w :: r => mm_go (pc + 1) ls (.int (f w y) :: r) h c z
  | _ => none
def mm_l2 (f : Int64 → Int64 → Int64) (pc : Nat) (ls : mm_L) (st : List Value) (h : mm_H) (c z : Nat) : Option mm_A := match st with
  | .long y :: .long w :: r => mm_go (pc + 1) ls (.long (f w y) :: r) h c z
  | _ => none
def mm_ls (f : Int64 → Int32 → Int64) (pc : Nat) (ls : mm_L) (st : List Value) (h : mm_H) (c z : Nat) : Option mm_A := match st with
  | .int y :: .long w :: r => mm_go (pc + 1) ls (.long (f w y) :: r) h c z
  | _ => none
def mm_getf (own : String) (ix pc : Nat) (ls : mm_L) (st : List Value) (h : mm_H) (c z : Nat) : Option mm_A := match st, mm_F own ix with
  | .ref a :: r, some (_, _, _, ci, k, _) => (match h[a]? with
    | some (.inr (cj, fs)) => if cj = ci then (match fs[k]? with
      | some v => mm_go (pc + 3) ls (v :: r) h c z
      | none => none) else none
    | _ => none)
  | _, _ => none
def mm_final (ci k : Nat) : Bool := match mm_cl[ci]? with
  | some (_, T, _) => (T k).2.2.2
  | none => false
/-- a value that a field of that type keeps as it is -/
def mm_fits (ci k : Nat) (v : Value) : Bool := match v with
  | .retAddr _ => false
  | w => decide (narrow (mm_tyT ci k) w = w) && fits (mm_tyT ci k) w
def mm_putf (own mname : String) (ix pc : Nat) (ls : mm_L) (st : List Value) (h : mm_H) (c z : Nat) : Option mm_A := match st, mm_F own ix with
  | v :: .ref a :: r, some (_, _, ns, ci, k, _) => (match h[a]? with
    | some (.inr (cj, fs)) => if cj = ci ∧ k < fs.length ∧ mm_fits ci k v = true ∧ (mm_final ci k = false ∨ (mm_final ci k = true ∧ ns = false ∧ mname = "<init>" ∧ (mm_cl[ci]?).map (fun q => q.1) = some own))
      then mm_go (pc + 3) ls r (h.set a (.inr (ci, fs.set k v))) c z else none
    | _ => none)
  | _, _ => none
def mm_ald (t0 : Nat → Bool) (wide : Bool) (xs : Nat → Int32) (L pc : Nat) (ls : mm_L) (st : List Value) (h : mm_H) (c z : Nat) : Option mm_A := match st with
  | .int i :: .ref a :: r => (match h[a]? with
    | some (.inl (t, n, .inl f)) => if t0 t = true ∧ wide = false ∧ ¬ (i < 0 ∨ n ≤ i.toNatClampNeg) then mm_go (pc + 1) ls (.int (f i.toNatClampNeg) :: r) h c z else none
    | some (.inl (t, n, .inr (.inl f))) => if t0 t = true ∧ wide = true ∧ ¬ (i < 0 ∨ n ≤ i.toNatClampNeg) then mm_go (pc + 1) ls (.long (f i.toNatClampNeg) :: r) h c z else none
    | _ => none)
  | .int i :: .retAddr _ :: r => if t0 0 = true ∧ wide = false ∧ ¬ (i < 0 ∨ L ≤ i.toNatClampNeg) then mm_go (pc + 1) ls (.int (xs i.toNatClampNeg) :: r) h c z else none
  | _ => none
def mm_ast (t0 : Nat → Bool) (pc : Nat) (ls : mm_L) (st : List Value) (h : mm_H) (c z : Nat) : Option mm_A := match st with
  | .int v :: .int i :: .ref a :: r => (match h[a]? with
    | some (.inl (t, n, .inl f)) => if t0 t = true ∧ t < 3 ∧ ¬ (i < 0 ∨ n ≤ i.toNatClampNeg) then mm_go (pc + 1) ls r (h.set a (.inl (t, n, .inl (upd f i.toNatClampNeg (vp_nar (mm_ty t) v))))) c z else none
    | _ => none)
  | .long v :: .int i :: .ref a :: r => (match h[a]? with
    | some (.inl (t, n, .inr (.inl f))) => if t0 t = true ∧ t = 3 ∧ ¬ (i < 0 ∨ n ≤ i.toNatClampNeg) then mm_go (pc + 1) ls r (h.set a (.inl (t, n, .inr (.inl (vp_updL f i.toNatClampNeg v))))) c z else none
    | _ => none)
  | _ => none
def mm_alen (L pc : Nat) (ls : mm_L) (st : List Value) (h : mm_H) (c z : Nat) : Option mm_A := match st with
  | .ref a :: r => (match h[a]? with
    | some (.inl (t, n, _)) => if t < 4 then mm_go (pc + 1) ls (.int (Int32.ofNat n) :: r) h c z else none
    | _ => none)
  | .retAddr _ :: r => mm_go (pc + 1) ls (.int (Int32.ofNat L) :: r) h c z
  | _ => none
def mm_newa (t : ArrayType) (pc : Nat) (ls : mm_L) (st : List Value) (h : mm_H) (c z : Nat) : Option mm_A := match st, mm_tag t with
  | .int n :: r, some g => if n < 0 ∨ 1000000 < n.toNatClampNeg then none else mm_go (pc + 2) ls (.ref h.length :: r) (h ++ [.inl (g, mm_zero g n.toNatClampNeg)]) (c + 1) (z + n.toNatClampNeg)
  | _, _ => none
/-- 'new': an object of ours; or the first of the five instructions of 'throw new E(text)' -/
def mm_new (me : mm_Me) (ix pc : Nat) (ls : mm_L) (st : List Value) (h : mm_H) (c z : Nat) : Option mm_A := match mm_N me.1 ix with
  | some (_, _, ci, _) => (match mm_cl[ci]? with
    | some (_, _, N) => mm_go (pc + 3) ls (.ref h.length :: st) (h ++ [.inr (ci, mm_fresh ci N)]) (c + 1) (z + N)
    | none => none)
  | none => (match mm_X me.1 ix, decode me.2.2.1 (pc + 3), decode me.2.2.1 (pc + 4), decode me.2.2.1 (pc + 6), decode me.2.2.1 (pc + 9) with
    | some (_, _, E, _), .ok (.dup, 1), .ok (.ldc si, 2), .ok (.invokespecial ic, 3), .ok (.athrow, 1) =>
      if me.2.2.2.2.2.1 = [] ∧ (st.map fun v => v.category).sum ≤ 8 ∧ ((me.1, ix, E, si, ic) ∈ [(RX1, 36, "java/lang/IllegalStateException", 38, 40), (RX5, 69, "java/util/NoSuchElementException", 71, 73), (RX5, 69, "java/util/NoSuchElementException", 92, 73), (RX5, 69, "java/util/NoSuchElementException", 94, 73)]) then some (.inr (.inr (.inl E))) else none
    | _, _, _, _, _ => none)
/-- the arguments off the stack: n of them, the last on top -/
def mm_pop (n : Nat) (st : List Value) : Option (List Value × List Value) := if n ≤ st.length then some ((st.take n).reverse, st.drop n) else none
/-- a call: op 0 virtual, 1 static, 2 special -/
def mm_call (me : mm_Me) (op ix pc : Nat) (ls : mm_L) (st : List Value) (h : mm_H) (c z : Nat) : Option mm_A := match mm_C me.1 ix with
  | some (_, _, kind, mj, _) =>
    if kind = 10 ∧ op = 2 then (match st with
      | .ref _ :: r => if (r.map fun v => v.category).sum ≤ 8 then mm_go (pc + 3) ls r h c z else none
      | _ => none)
    else if kind = 11 ∧ op = 1 then (match st with
      | .int y :: .int w :: r => if (r.map fun v => v.category).sum ≤ 8 then mm_go (pc + 3) ls (.int (if w < y then y else w) :: r) h c z else none
      | _ => none)
    else (match mm_all[mj]? with
      | none => none
      | some mf => (match mm_pop mf.2.2.2.2.2.2.1 st with
        | none => none
        | some (as, r) =>
          if op = 1 then (if (kind = 2 ∨ kind = 3 ∨ kind = 9) ∧ (r.map fun v => v.category).sum ≤ 8 ∧ (lg_sl as).length ≤ mf.2.2.2.1 then some (.inr (.inr (.inr (mj, as, r, false)))) else none)
          else (match r with
            | .ref a :: r' => (match h[a]? with
              | some (.inr (cj, _)) => if (r'.map fun v => v.category).sum ≤ 8 ∧ (mm_cl[cj]?).map (fun q => q.1) = some mf.1 ∧ ((op = 0 ∧ (kind = 0 ∨ kind = 1 ∨ kind = 8)) ∨ (op = 2 ∧ (kind = 4 ∨ kind = 5))) ∧ (lg_sl (.ref a :: as)).length ≤ mf.2.2.2.1 then some (.inr (.inr (.inr (mj, .ref a :: as, r', decide (kind < 2))))) else none
              | _ => none)
            | _ => none)))
  | none => none
def mm_retv (rt : Option FieldType) (st : List Value) : Option mm_A := match rt, st with
  | some ty, [.int v] => if (ty = .int ∨ ty = .boolean) ∧ narrow ty (.int v) = .int v then some (.inr (.inl (some (.int v)))) else none
  | _, _ => none
def mm_ret0 (rt : Option FieldType) (st : List Value) : Option mm_A := match rt, st with
  | none, [] => some (.inr (.inl none))
  | _, _ => none
def mm_table (dflt lo hi : Int) (offs : Array Int) (v : Int32) : Int := if v.toInt < lo ∨ hi < v.toInt then dflt else (offs[(v.toInt - lo).toNat]?).getD dflt
/-- what the instruction i, of length len, at pc does -/
def mm_act (me : mm_Me) (xs : Nat → Int32) (L : Nat) (i : Instr) (len pc : Nat) (ls : mm_L) (st : List Value) (h : mm_H) (c z : Nat) : Option mm_A := match i with
  | .aload_n k => if len = 1 then mm_load 2 1 pc k ls st h c z else none
  | .iload_n k => if len = 1 then mm_load 0 1 pc k ls st h c z else none
  | .lload_n k => if len = 1 then mm_load 1 1 pc k ls st h c z else none
  | .aload k => if len = 2 then mm_load 2 2 pc k ls st h c z else none
  | .iload k => if len = 2 then mm_load 0 2 pc k ls st h c z else none
  | .astore_n k => if len = 1 then mm_store 2 1 pc me.2.2.2.1 k ls st h c z else none
  | .istore_n k => if len = 1 then mm_store 0 1 pc me.2.2.2.1 k ls st h c z else none
  | .astore k => if len = 2 then mm_store 2 2 pc me.2.2.2.1 k ls st h c z else none
  | .istore k => if len = 2 then mm_store 0 2 pc me.2.2.2.1 k ls st h c z else none
  | .iinc k n => if len = 3 ∧ k < me.2.2.2.1 then (match mm_lk ls k with
    | some (.int v) => mm_go (pc + 3) (mm_s1 ls k (.int (v + Int32.ofInt n))) st h c z
    | _ => none) else none
  | .iconst n => if len = 1 then mm_go (pc + 1) ls (.int (Int32.ofInt n) :: st) h c z else none
  | .bipush n => if len = 2 then mm_go (pc + 2) ls (.int (Int8.ofInt n).toInt32 :: st) h c z else none
  | .sipush n => if len = 3 then mm_go (pc + 3) ls (.int (Int16.ofInt n).toInt32 :: st) h c z else none
  | .ldc ix => if len = 2 then (match mm_I me.1 ix with
    | some (_, _, v, _) => mm_go (pc + 2) ls (.int v :: st) h c z
    | none => none) else none
  | .ldc2_w ix => if len = 3 then (match mm_J me.1 ix with
    | some (_, _, v, _) => mm_go (pc + 3) ls (.long v :: st) h c z
    | none => none) else none
  | .iadd => if len = 1 then mm_i2 (fun w y => w + y) pc ls st h c z else none
  | .isub => if len = 1 then mm_i2 (fun w y => w - y) pc ls st h c z else none
  | .imul => if len = 1 then mm_i2 (fun w y => w * y) pc ls st h c z else none
  | .iand => if len = 1 then mm_i2 (fun w y => w &&& y) pc ls st h c z else none
  | .ior => if len = 1 then mm_i2 (fun w y => w ||| y) pc ls st h c z else none
  | .ishl => if len = 1 then mm_i2 (fun w y => w <<< (y &&& 31)) pc ls st h c z else none
  | .ishr => if len = 1 then mm_i2 (fun w y => w >>> (y &&& 31)) pc ls st h c z else none
  | .land => if len = 1 then mm_l2 (fun w y => w &&& y) pc ls st h c z else none
  | .lor => if len = 1 then mm_l2 (fun w y => w ||| y) pc ls st h c z else none
  | .lshl => if len = 1 then mm_ls (fun w y => w <<< (y.toInt64 &&& 63)) pc ls st h c z else none
  | .lshr => if len = 1 then mm_ls (fun w y => w >>> (y.toInt64 &&& 63)) pc ls st h c z else none
  | .lushr => if len = 1 then mm_ls (fun w y => (w.toUInt64 >>> (y.toInt64.toUInt64 &&& Int64.toUInt64 63)).toInt64) pc ls st h c z else none
  | .lcmp => if len = 1 then (match st with
    | .long y :: .long w :: r => mm_go (pc + 1) ls (.int (lg_cmp w y) :: r) h c z
    | _ => none) else none
  | .i2l => if len = 1 then (match st with
    | .int w :: r => mm_go (pc + 1) ls (.long w.toInt64 :: r) h c z
    | _ => none) else none
  | .i2b => if len = 1 then (match st with
    | .int w :: r => mm_go (pc + 1) ls (.int w.toInt8.toInt32 :: r) h c z
    | _ => none) else none
  | .l2i => if len = 1 then (match st with
    | .long w :: r => mm_go (pc + 1) ls (.int w.toInt32 :: r) h c z
    | _ => none) else none
  | .dup => if len = 1 then (match st with
    | v :: r => if v.category = 1 then mm_go (pc + 1) ls (v :: v :: r) h c z else none
    | _ => none) else none
  | .dup2 => if len = 1 then (match st with
    | v :: w :: r => if v.category = 1 ∧ w.category = 1 then mm_go (pc + 1) ls (v :: w :: v :: w :: r) h c z else none
    | _ => none) else none
  | .pop => if len = 1 then (match st with
    | v :: r => if v.category = 1 then mm_go (pc + 1) ls r h c z else none
    | _ => none) else none
  | .goto off => if len = 3 then (match mm_jump pc off with
    | some t => mm_go t ls st h c z
    | none => none) else none
  | .ifCond cd off => if len = 3 then (match st with
    | .int w :: r => mm_br (mm_cond cd w 0) off pc ls r h c z
    | _ => none) else none
  | .if_icmp cd off => if len = 3 then (match st with
    | .int y :: .int w :: r => mm_br (mm_cond cd w y) off pc ls r h c z
    | _ => none) else none
  | .tableswitch dflt lo hi offs => (match st with
    | .int w :: r => (match mm_jump pc (mm_table dflt lo hi offs w) with
      | some t => if (w.toInt < lo ∨ hi < w.toInt) ∨ (offs[(w.toInt - lo).toNat]?).isSome = true then mm_go t ls r h c z else none
      | none => none)
    | _ => none)
  | .lookupswitch dflt ps => (match st with
    | .int w :: r => if (ps.toList.zip (ps.toList.drop 1)).all (fun (a, next) => a.1 < next.1) = true then (match mm_jump pc (Op.lookupswitch.offset ps.toList dflt w.toInt) with
      | some t => mm_go t ls r h c z
      | none => none) else none
    | _ => none)
  | .getfield ix => if len = 3 then mm_getf me.1 ix pc ls st h c z else none
  | .putfield ix => if len = 3 then mm_putf me.1 me.2.1.name ix pc ls st h c z else none
  | .iaload => if len = 1 then mm_ald (fun t => t == 0) false xs L pc ls st h c z else none
  | .baload => if len = 1 then mm_ald (fun t => t == 1 || t == 2) false xs L pc ls st h c z else none
  | .laload => if len = 1 then mm_ald (fun t => t == 3) true xs L pc ls st h c z else none
  | .iastore => if len = 1 then mm_ast (fun t => t == 0) pc ls st h c z else none
  | .bastore => if len = 1 then mm_ast (fun t => t == 1 || t == 2) pc ls st h c z else none
  | .lastore => if len = 1 then mm_ast (fun t => t == 3) pc ls st h c z else none
  | .arraylength => if len = 1 then mm_alen L pc ls st h c z else none
  | .newarray t => if len = 2 then mm_newa t pc ls st h c z else none
  | .new ix => if len = 3 then mm_new me ix pc ls st h c z else none
  | .invokevirtual ix => if len = 3 then mm_call me 0 ix pc ls st h c z else none
  | .invokestatic ix => if len = 3 then mm_call me 1 ix pc ls st h c z else none
  | .invokespecial ix => if len = 3 then mm_call me 2 ix pc ls st h c z else none
  | .return_ => if len = 1 then mm_ret0 me.2.2.2.2.1 st else none
  | .ireturn => if len = 1 then mm_retv me.2.2.2.2.1 st else none
  | _ => none
/-- the row of a method's table that takes an E thrown at pc: where it goes on (behind the instruction that keeps the exception), the place that it takes -/
def mm_hnd (me : mm_Me) (pc : Nat) (E : String) : Option (Nat × Nat) := match me.2.2.2.2.2.1 with
  | [(fr, to, tg, ci)] => if fr ≤ pc ∧ pc < to then (match mm_X me.1 ci with
      | some (_, _, E', _) => if E' = E then (match decode me.2.2.1 tg with
        | .ok (.astore_n k, 1) => if k.val < me.2.2.2.1 then some (tg + 1, k.val) else none
        | .ok (.astore k, 2) => if k < me.2.2.2.1 then some (tg + 2, k) else none
        | _ => none) else none
      | none => none) else none
  | _ => none
def mm_ev (xs : Nat → Int32) (L : Nat) : Nat → Nat → Nat → Nat → mm_L → List Value → mm_H → Nat → Nat → Option mm_R
  | 0, _, _, _, _, _, _, _, _ => none
  | n + 1, d, mi, pc, ls, st, h, c, z => match mm_all[mi]? with
    | none => none
    | some me => match decode me.2.2.1 pc with
      | .error _ => none
      | .ok (i, len) => match mm_act me xs L i len pc ls st h c z with
        | none => none
        | some (.inl (pc', ls', st', h', c', z')) => mm_ev xs L n d mi pc' ls' st' h' c' z'
        | some (.inr (.inl v)) => some (.inl v, h, c, z)
        | some (.inr (.inr (.inl E))) => if d < 8 then none else some (.inr E, h, c + 1, z + 6)
        | some (.inr (.inr (.inr (mj, as, r, thr)))) => if d < 2 then none else match mm_ev xs L n (d - 1) mj 0 (lv_args 0 as) [] h 0 0 with
          | none => none
          | some (.inl v, h', c', z') => mm_ev xs L n d mi (pc + 3) ls (v.toList ++ r) h' (c + c') (z + z')
          | some (.inr E, h', c', z') => if thr = false then none else match me.2.2.2.2.2.1 with
            | [] => some (.inr E, h', c + c', z + z')
            | _ => match mm_hnd me pc E with
              | none => none
              | some (pc', k) => mm_ev xs L n d mi pc' (mm_un ls k) [] h' (c + c') (z + z')
