/-! MY MACHINE: a store of cells by sequential labels, one step (jN), runs with fuel (jE), the value of a run (jV) -/
/-- a cell: its kind and length; ints; longs; references -/
abbrev jC : Type := (Nat × Nat) × (Nat → Int32) × (Nat → Int64) × (Nat → Option Nat)
/-- the cells; the next label; how many slots were made -/
abbrev jH : Type := (Nat → jC) × Nat × Nat
abbrev jL : Type := List (Option Value)
def jk (h : jH) (a : Nat) : Nat × Nat := (h.1 a).1
def ji (h : jH) (a k : Nat) : Int32 := (h.1 a).2.1 k
def jj (h : jH) (a k : Nat) : Int64 := (h.1 a).2.2.1 k
def jp (h : jH) (a k : Nat) : Option Nat := (h.1 a).2.2.2 k
def jset (h : jH) (a : Nat) (c : jC) : jH := (fun b => if b = a then c else h.1 b, h.2)
def jci (h : jH) (a : Nat) (f : Nat → Int32) : jH := jset h a ((h.1 a).1, f, (h.1 a).2.2)
def jcj (h : jH) (a : Nat) (f : Nat → Int64) : jH := jset h a ((h.1 a).1, (h.1 a).2.1, f, (h.1 a).2.2.2)
def jcp (h : jH) (a : Nat) (f : Nat → Option Nat) : jH := jset h a ((h.1 a).1, (h.1 a).2.1, (h.1 a).2.2.1, f)
def jsi (h : jH) (a k : Nat) (v : Int32) : jH := jci h a (upd (ji h a) k v)
def jsj (h : jH) (a k : Nat) (v : Int64) : jH := jcj h a (vp_updL (jj h a) k v)
def jsp (h : jH) (a k : Nat) (v : Option Nat) : jH := jcp h a (va_up (jp h a) k v)
def jnew (h : jH) (k n z : Nat) : jH := (fun b => if b = h.2.1 then ((k, n), fun _ => 0, fun _ => 0, fun _ => none) else h.1 b, h.2.1 + 1, h.2.2 + z)
/-- the fields of a made class: declarer, name, descriptor, final; types; how many -/
def jtT : Nat → u_T := fun c => match c with
  | 0 => TX2 | 1 => TX3 | 2 => TX4 | 3 => TX5 | 4 => TX6 | 5 => TX7 | 6 => TX8 | 7 => TX9 | _ => TX10
def jty : Nat → Nat → FieldType := fun c => match c with
  | 0 => tyX2 | 1 => tyX3 | 2 => tyX4 | 3 => tyX5 | 4 => tyX6 | 5 => tyX7 | 6 => tyX8 | 7 => tyX9 | _ => tyX10
def jcR : Nat → String := fun c => match c with
  | 0 => RX2 | 1 => RX3 | 2 => RX4 | 3 => RX5 | 4 => RX6 | 5 => RX7 | 6 => RX8 | 7 => RX9 | _ => RX10
def jcN : Nat → Nat := fun c => match c with
  | 0 => 10 | 1 => 7 | 2 => 4 | 3 => 17 | 4 => 3 | 5 => 13 | 6 => 5 | 7 => 12 | _ => 57
def jfv (ty : FieldType) (c : jC) (k : Nat) : Value := match ty with
  | .long => .long (c.2.2.1 k)
  | .object _ => va_rf (c.2.2.2 k)
  | .array _ => va_rf (c.2.2.2 k)
  | _ => .int (c.2.1 k)
def jput (ty : FieldType) (h : jH) (a k : Nat) (v : Value) : Option jH := match ty with
  | .long => match v with
    | .long x => some (jsj h a k x)
    | _ => none
  | .object _ => match v with
    | .ref r => some (jsp h a k (some r))
    | .null => some (jsp h a k none)
    | _ => none
  | .array _ => match v with
    | .ref r => some (jsp h a k (some r))
    | .null => some (jsp h a k none)
    | _ => none
  | .boolean => match v with
    | .int x => if x = 0 ∨ x = 1 then some (jsi h a k x) else none
    | _ => none
  | .int => match v with
    | .int x => some (jsi h a k x)
    | _ => none
  | _ => none
/-- the arrays: their element types, by kind minus 20 -/
def jet : Nat → FieldType := fun t => match t with
  | 0 => .int | 1 => .long | 2 => .boolean | 3 => .object RX5 | _ => .object RX7
abbrev jR : Type := (Nat × jL × List Value × jH) ⊕ (Option Value × jH) ⊕ (Nat × jL × List Value)
abbrev jgo (pc : Nat) (ls : jL) (st : List Value) (h : jH) : Option jR := some (.inl (pc, ls, st, h))
def jlv (vs : List Value) (n : Nat) : jL :=
  (vs.flatMap fun v => if v.category = 2 then [some v, none] else [some v]) ++ List.replicate (n - (vs.flatMap fun v => if v.category = 2 then [some v, none] else [some v]).length) none
def jcl (y cal k : Nat) (st : List Value) : Option jR :=
  bif Nat.ble k st.length && (Nat.blt (jm_fr cal) (jm_fr y) && (Nat.ble ((st.take k).map fun v => v.category).sum (jm_max cal) && Nat.ble ((st.drop k).map fun v => v.category).sum 8)) then some (.inr (.inr (cal, jlv (st.take k).reverse (jm_max cal), st.drop k))) else none
/-- the class number of the receiver of an instance method -/
def jm_ci (y : Nat) : Nat := match jm_cn y with
  | 2 => 0 | 3 => 1 | 4 => 2 | 5 => 3 | 6 => 4 | 7 => 5 | 8 => 6 | 9 => 7 | 10 => 8 | _ => 99
def jlng : Option (Option Value) → Bool := fun o => match o with
  | some (some v) => v.category == 2
  | _ => false
/-- a store to a local: not over the second half of a long -/
def jst1 (ls : jL) (i : Nat) (v : Value) : Option jL := match i with
  | 0 => bif Nat.blt 0 ls.length then some (ls.set 0 (some v)) else none
  | j + 1 => bif Nat.blt (j + 1) ls.length && !jlng ls[j]? then some (ls.set (j + 1) (some v)) else none
def jst2 (ls : jL) (i : Nat) (v : Value) : Option jL := match i with
  | 0 => bif Nat.blt 1 ls.length then some ((ls.set 0 (some v)).set 1 none) else none
  | j + 1 => bif Nat.blt (j + 2) ls.length && !jlng ls[j]? then some ((ls.set (j + 1) (some v)).set (j + 2) none) else none
def jin (i : Int32) (n : Nat) : Bool := !(decide (i < 0) || decide (n ≤ i.toNatClampNeg))
/-- where a comparison goes -/
def jbr (c : ClassFile.Cond) (x y : Int32) (t f : Nat) : Nat := match c with
  | .eq => if x = y then t else f
  | .ne => if x = y then f else t
  | .lt => if x < y then t else f
  | .ge => if x < y then f else t
  | .gt => if y < x then t else f
  | .le => if y < x then f else t
def jtgt (pc : Nat) (off : Int) : Nat := ((pc : Int) + off).toNat
def jokt (pc : Nat) (off : Int) : Bool := decide (0 ≤ (pc : Int) + off)
def jld (ls : jL) (i : Nat) : Option Value := match ls[i]? with
  | some o => o
  | none => none
def jN_load (n : Nat) (ls : jL) (i pc : Nat) (st : List Value) (h : jH) (want : Value → Bool) : Option jR := match jld ls i with
  | some v => bif want v then jgo (pc + n) ls (v :: st) h else none
  | none => none
def j_isI : Value → Bool := fun v => match v with | .int _ => true | _ => false
def j_isJ : Value → Bool := fun v => match v with | .long _ => true | _ => false
def j_isA : Value → Bool := fun v => match v with | .ref _ => true | .null => true | _ => false
def jN_st1 (n : Nat) (ls : jL) (i pc : Nat) (st : List Value) (h : jH) (want : Value → Bool) : Option jR := match st with
  | v :: st => bif want v then match jst1 ls i v with
    | some ls' => jgo (pc + n) ls' st h
    | none => none else none
  | _ => none
def jN_st2 (n : Nat) (ls : jL) (i pc : Nat) (st : List Value) (h : jH) : Option jR := match st with
  | .long x :: st => match jst2 ls i (.long x) with
    | some ls' => jgo (pc + n) ls' st h
    | none => none
  | _ => none
def jN_i2 (f : Int32 → Int32 → Int32) (pc : Nat) (ls : jL) (st : List Value) (h : jH) : Option jR := match st with
  | .int b :: .int a :: st => jgo (pc + 1) ls (.int (f a b) :: st) h
  | _ => none
def jN_l2 (f : Int64 → Int64 → Int64) (pc : Nat) (ls : jL) (st : List Value) (h : jH) : Option jR := match st with
  | .long b :: .long a :: st => jgo (pc + 1) ls (.long (f a b) :: st) h
  | _ => none
def jN_li (f : Int64 → Int32 → Int64) (pc : Nat) (ls : jL) (st : List Value) (h : jH) : Option jR := match st with
  | .int b :: .long a :: st => jgo (pc + 1) ls (.long (f a b) :: st) h
  | _ => none
/-- an element of an array: the kinds that an instruction takes -/
def jN_ald (k : Nat) (pc : Nat) (ls : jL) (st : List Value) (h : jH) (val : jC → Nat → Value) : Option jR := match st with
  | .int i :: .ref a :: st => if (jk h a).1 = k ∧ jin i (jk h a).2 = true then jgo (pc + 1) ls (val (h.1 a) i.toNatClampNeg :: st) h else none
  | _ => none
def jN_ast (k : Nat) (pc : Nat) (ls : jL) (st : List Value) (h : jH) (put : Nat → Nat → Value → Option jH) : Option jR := match st with
  | v :: .int i :: .ref a :: st => if (jk h a).1 = k ∧ jin i (jk h a).2 = true then match put a i.toNatClampNeg v with
    | some h' => jgo (pc + 1) ls st h'
    | none => none else none
  | _ => none
def j_aval (c : jC) (j : Nat) : Value := va_rf (c.2.2.2 j)
def j_ival (c : jC) (j : Nat) : Value := .int (c.2.1 j)
def j_jval (c : jC) (j : Nat) : Value := .long (c.2.2.1 j)
/-- a reference into an array: null, or an object of the array's class -/
def jN_aast (pc : Nat) (ls : jL) (st : List Value) (h : jH) : Option jR := match st with
  | .ref r :: .int i :: .ref a :: st => if (jin i (jk h a).2 = true) ∧ ((jk h a).1 = 23 ∧ (jk h r).1 = 4 ∨ (jk h a).1 = 24 ∧ (jk h r).1 = 6) then jgo (pc + 1) ls st (jsp h a i.toNatClampNeg (some r)) else none
  | _ => none
def jN_copy (pc : Nat) (ls : jL) (st : List Value) (h : jH) : Option jR := match st with
  | .int n :: .int dp :: .ref b :: .int sp :: .ref a :: st =>
    bif Nat.ble (st.map fun v => v.category).sum 8 then (if ¬ sp < 0 ∧ ¬ dp < 0 ∧ ¬ n < 0 ∧ sp.toNatClampNeg + n.toNatClampNeg ≤ (jk h a).2 ∧ dp.toNatClampNeg + n.toNatClampNeg ≤ (jk h b).2 then
      if (jk h a).1 = 20 ∧ (jk h b).1 = 20 then jgo (pc + 3) ls st (jci h b (va_cpy (ji h a) (ji h b) sp.toNatClampNeg dp.toNatClampNeg n.toNatClampNeg))
      else if (jk h a).1 = 21 ∧ (jk h b).1 = 21 then jgo (pc + 3) ls st (jcj h b (va_cpy (jj h a) (jj h b) sp.toNatClampNeg dp.toNatClampNeg n.toNatClampNeg))
      else none
    else none) else none
  | _ => none
def jm_ini (y : Nat) : Bool := jm_inits.elem y
def jt_f (c i : Nat) : Option (Nat × Nat × Bool × Nat) := jt_fL.lookup (c, i)
def jt_m (c i : Nat) : Option (Nat × Nat × Nat) := jt_mL.lookup (c, i)
def jt_n (c i : Nat) : Option (Nat × Nat × Nat × Nat) := jt_nL.lookup (c, i)
def jt_a (c i : Nat) : Option (Nat × Nat) := jt_aL.lookup (c, i)
def jt_k (c i : Nat) : Option (Int32 × Nat) := jt_kL.lookup (c, i)
def jt_l (c i : Nat) : Option (Int64 × Nat) := jt_lL.lookup (c, i)
def jN_get (y i pc : Nat) (ls : jL) (st : List Value) (h : jH) : Option jR := match jt_f (jm_cn y) i with
  | some (c, k, _, _) => match st with
    | .ref a :: st => if (jk h a).1 = 1 + c then jgo (pc + 3) ls (jfv (jty c k) (h.1 a) k :: st) h else none
    | _ => none
  | none => none
def jN_put (y i pc : Nat) (ls : jL) (st : List Value) (h : jH) : Option jR := match jt_f (jm_cn y) i with
  | some (c, k, nest, _) => match st with
    | v :: .ref a :: st => bif !(jtT c k).2.2.2 || (jm_ini y && (jm_ci y == c && !nest)) then (if (jk h a).1 = 1 + c then match jput (jty c k) h a k v with
      | some h' => jgo (pc + 3) ls st h'
      | none => none else none) else none
    | _ => none
  | none => none
def jN_call (y i pc : Nat) (ls : jL) (st : List Value) (h : jH) (op : Nat) : Option jR := match jt_m (jm_cn y) i with
  | some (kind, cal, _) => match op, kind with
    | 0, 0 => jcl y cal (jm_na cal) st
    | 0, 1 => jcl y cal (jm_na cal) st
    | 0, 7 => match st with
      | .int b :: .int a :: st => bif Nat.ble 1 (jm_fr y) && Nat.ble (st.map fun v => v.category).sum 8 then jgo (pc + 3) ls (.int (if a < b then b else a) :: st) h else none
      | _ => none
    | 0, 8 => match st with
      | .int b :: .int a :: st => bif Nat.ble 1 (jm_fr y) && Nat.ble (st.map fun v => v.category).sum 8 then jgo (pc + 3) ls (.int (if b < a then b else a) :: st) h else none
      | _ => none
    | 0, 9 => bif Nat.ble 1 (jm_fr y) then jN_copy pc ls st h else none
    | 1, 2 => match st[jm_na cal]? with
      | some (.ref a) => if (jk h a).1 = 1 + jm_ci cal then jcl y cal (jm_na cal + 1) st else none
      | _ => none
    | 1, 3 => match st[jm_na cal]? with
      | some (.ref a) => if (jk h a).1 = 1 + jm_ci cal then jcl y cal (jm_na cal + 1) st else none
      | _ => none
    | 2, 4 => match st[jm_na cal]? with
      | some (.ref _) => jcl y cal (jm_na cal + 1) st
      | _ => none
    | 2, 5 => match st[jm_na cal]? with
      | some (.ref _) => jcl y cal (jm_na cal + 1) st
      | _ => none
    | 2, 6 => match st with
      | .ref _ :: st => bif Nat.ble 1 (jm_fr y) && Nat.ble (st.map fun v => v.category).sum 8 then jgo (pc + 3) ls st h else none
      | _ => none
    | _, _ => none
  | none => none
/-- one step -/
def jN (i : Instr) (y pc : Nat) (ls : jL) (st : List Value) (h : jH) : Option jR := match i with
  | .iconst n => jgo (pc + 1) ls (.int (Int32.ofInt n) :: st) h
  | .bipush n => jgo (pc + 2) ls (.int (Int8.ofInt n).toInt32 :: st) h
  | .sipush n => jgo (pc + 3) ls (.int (Int16.ofInt n).toInt32 :: st) h
  | .lconst n => jgo (pc + 1) ls (.long (Int64.ofNat (n : Nat)) :: st) h
  | .aconst_null => jgo (pc + 1) ls (.null :: st) h
  | .ldc k => match jt_k (jm_cn y) k with
    | some (v, _) => jgo (pc + 2) ls (.int v :: st) h
    | none => none
  | .ldc_w k => match jt_k (jm_cn y) k with
    | some (v, _) => jgo (pc + 3) ls (.int v :: st) h
    | none => none
  | .ldc2_w k => match jt_l (jm_cn y) k with
    | some (v, _) => jgo (pc + 3) ls (.long v :: st) h
    | none => none
  | .iload_n k => jN_load 1 ls k.val pc st h j_isI
  | .iload k => jN_load 2 ls k pc st h j_isI
  | .lload_n k => jN_load 1 ls k.val pc st h j_isJ
  | .lload k => jN_load 2 ls k pc st h j_isJ
  | .aload_n k => jN_load 1 ls k.val pc st h j_isA
  | .aload k => jN_load 2 ls k pc st h j_isA
  | .istore_n k => jN_st1 1 ls k.val pc st h j_isI
  | .istore k => jN_st1 2 ls k pc st h j_isI
  | .astore_n k => jN_st1 1 ls k.val pc st h j_isA
  | .astore k => jN_st1 2 ls k pc st h j_isA
  | .lstore_n k => jN_st2 1 ls k.val pc st h
  | .lstore k => jN_st2 2 ls k pc st h
  | .iinc k n => match jld ls k with
    | some (.int x) => match jst1 ls k (.int (x + Int32.ofInt n)) with
      | some ls' => jgo (pc + 3) ls' st h
      | none => none
    | _ => none
  | .iadd => jN_i2 (fun a b => a + b) pc ls st h
  | .isub => jN_i2 (fun a b => a - b) pc ls st h
  | .imul => jN_i2 (fun a b => a * b) pc ls st h
  | .iand => jN_i2 (fun a b => a &&& b) pc ls st h
  | .ior => jN_i2 (fun a b => a ||| b) pc ls st h
  | .ixor => jN_i2 (fun a b => a ^^^ b) pc ls st h
  | .ishl => jN_i2 (fun a b => a <<< (b &&& 31)) pc ls st h
  | .ishr => jN_i2 (fun a b => a >>> (b &&& 31)) pc ls st h
  | .iushr => jN_i2 (fun a b => (a.toUInt32 >>> (b.toUInt32 &&& Int32.toUInt32 31)).toInt32) pc ls st h
  | .idiv => match st with
    | .int b :: .int a :: st => if b = 0 then none else jgo (pc + 1) ls (.int (a / b) :: st) h
    | _ => none
  | .irem => match st with
    | .int b :: .int a :: st => if b = 0 then none else jgo (pc + 1) ls (.int (a - a / b * b) :: st) h
    | _ => none
  | .land => jN_l2 (fun a b => a &&& b) pc ls st h
  | .lor => jN_l2 (fun a b => a ||| b) pc ls st h
  | .lxor => jN_l2 (fun a b => a ^^^ b) pc ls st h
  | .lshl => jN_li (fun a b => a <<< (b.toInt64 &&& 63)) pc ls st h
  | .lshr => jN_li (fun a b => a >>> (b.toInt64 &&& 63)) pc ls st h
  | .lcmp => match st with
    | .long b :: .long a :: st => jgo (pc + 1) ls (.int (lg_cmp a b) :: st) h
    | _ => none
  | .i2l => match st with
    | .int a :: st => jgo (pc + 1) ls (.long a.toInt64 :: st) h
    | _ => none
  | .l2i => match st with
    | .long a :: st => jgo (pc + 1) ls (.int a.toInt32 :: st) h
    | _ => none
  | .dup => match st with
    | v :: st => bif v.category == 1 then jgo (pc + 1) ls (v :: v :: st) h else none
    | _ => none
  | .dup2 => match st with
    | v :: w :: st => bif v.category == 1 && w.category == 1 then jgo (pc + 1) ls (v :: w :: v :: w :: st) h else none
    | _ => none
  | .ifCond c off => match st with
    | .int x :: st => bif jokt pc off then jgo (jbr c x 0 (jtgt pc off) (pc + 3)) ls st h else none
    | _ => none
  | .if_icmp c off => match st with
    | .int b :: .int a :: st => bif jokt pc off then jgo (jbr c a b (jtgt pc off) (pc + 3)) ls st h else none
    | _ => none
  | .ifnull off => match st with
    | .null :: st => bif jokt pc off then jgo (jtgt pc off) ls st h else none
    | .ref _ :: st => jgo (pc + 3) ls st h
    | _ => none
  | .ifnonnull off => match st with
    | .ref _ :: st => bif jokt pc off then jgo (jtgt pc off) ls st h else none
    | .null :: st => jgo (pc + 3) ls st h
    | _ => none
  | .goto off => bif jokt pc off then jgo (jtgt pc off) ls st h else none
  | .tableswitch d lo hi offs => match st with
    | .int x :: st => if x.toInt < lo ∨ hi < x.toInt then (bif jokt pc d then jgo (jtgt pc d) ls st h else none) else match offs[(x.toInt - lo).toNat]? with
      | some off => bif jokt pc off then jgo (jtgt pc off) ls st h else none
      | none => none
    | _ => none
  | .getfield i => jN_get y i pc ls st h
  | .putfield i => jN_put y i pc ls st h
  | .iaload => jN_ald (bif jm_cn y == 12 then 30 else 20) pc ls st h j_ival
  | .laload => jN_ald 21 pc ls st h j_jval
  | .baload => jN_ald 22 pc ls st h j_ival
  | .aaload => jN_ald (bif jm_cn y == 2 then 23 else 24) pc ls st h j_aval
  | .iastore => jN_ast 20 pc ls st h (fun a j v => jput .int h a j v)
  | .lastore => jN_ast 21 pc ls st h (fun a j v => jput .long h a j v)
  | .bastore => jN_ast 22 pc ls st h (fun a j v => jput .boolean h a j v)
  | .aastore => jN_aast pc ls st h
  | .arraylength => match st with
    | .ref a :: st => if 20 ≤ (jk h a).1 ∧ (jk h a).1 ≤ 24 ∨ (jk h a).1 = 30 then jgo (pc + 1) ls (.int (nI (jk h a).2) :: st) h else none
    | _ => none
  | .newarray t => match st with
    | .int n :: st => if n < 0 ∨ 1000000 < n then none else match t with
      | .int => jgo (pc + 2) ls (.ref h.2.1 :: st) (jnew h 20 n.toNatClampNeg n.toNatClampNeg)
      | .long => jgo (pc + 2) ls (.ref h.2.1 :: st) (jnew h 21 n.toNatClampNeg n.toNatClampNeg)
      | .boolean => jgo (pc + 2) ls (.ref h.2.1 :: st) (jnew h 22 n.toNatClampNeg n.toNatClampNeg)
      | _ => none
    | _ => none
  | .anewarray i => match jt_a (jm_cn y) i with
    | some (t, _) => match st with
      | .int n :: st => if n < 0 ∨ 1000000 < n then none else jgo (pc + 3) ls (.ref h.2.1 :: st) (jnew h (20 + t) n.toNatClampNeg n.toNatClampNeg)
      | _ => none
    | none => none
  | .new i => match jt_n (jm_cn y) i with
    | some (c, _, _, _) => jgo (pc + 3) ls (.ref h.2.1 :: st) (jnew h (1 + c) 0 (jcN c))
    | none => none
  | .invokestatic i => jN_call y i pc ls st h 0
  | .invokevirtual i => jN_call y i pc ls st h 1
  | .invokespecial i => jN_call y i pc ls st h 2
  | .ireturn => match st with
    | .int x :: [] => match jm_ret y with
      | some .int => some (.inr (.inl (some (.int x), h)))
      | some .boolean => if x = 0 ∨ x = 1 then some (.inr (.inl (some (.int x), h))) else none
      | _ => none
    | _ => none
  | .lreturn => match st with
    | .long x :: [] => match jm_ret y with
      | some .long => some (.inr (.inl (some (.long x), h)))
      | _ => none
    | _ => none
  | .areturn => match st with
    | .ref a :: [] => match jm_ret y with
      | some (.object _) => some (.inr (.inl (some (.ref a), h)))
      | _ => none
    | .null :: [] => match jm_ret y with
      | some (.object _) => some (.inr (.inl (some .null, h)))
      | _ => none
    | _ => none
  | .return_ => match st with
    | [] => match jm_ret y with
      | none => some (.inr (.inl (none, h)))
      | _ => none
    | _ => none
  | _ => none
/-- an instruction has the length that it has -/
def jlk (i : Instr) (n : Nat) : Bool := match i with
  | .bipush _ => n == 2
  | .ldc _ => n == 2
  | .iload _ => n == 2
  | .lload _ => n == 2
  | .aload _ => n == 2
  | .istore _ => n == 2
  | .lstore _ => n == 2
  | .astore _ => n == 2
  | .newarray _ => n == 2
  | .sipush _ => n == 3
  | .ldc_w _ => n == 3
  | .ldc2_w _ => n == 3
  | .iinc _ _ => n == 3
  | .ifCond _ _ => n == 3
  | .if_icmp _ _ => n == 3
  | .ifnull _ => n == 3
  | .ifnonnull _ => n == 3
  | .goto _ => n == 3
  | .getfield _ => n == 3
  | .putfield _ => n == 3
  | .anewarray _ => n == 3
  | .new _ => n == 3
  | .invokestatic _ => n == 3
  | .invokevirtual _ => n == 3
  | .invokespecial _ => n == 3
  | .tableswitch _ _ _ _ => true
  | _ => n == 1
def jD (y pc : Nat) : Option Instr := match decode (jm_code y) pc with
  | .ok (i, n) => bif jlk i n then some i else none
  | _ => none
/-- runs -/
def jE : Nat → Nat → Nat → jL → List Value → jH → Option (Option Value × jH)
  | 0, _, _, _, _, _ => none
  | n + 1, y, pc, ls, st, h => match jD y pc with
    | some i => match jN i y pc ls st h with
      | some (.inl (pc', ls', st', h')) => jE n y pc' ls' st' h'
      | some (.inr (.inl x)) => some x
      | some (.inr (.inr (cal, lc, rest))) => (jE n cal 0 lc [] h).bind fun x => jE n y (pc + 3) ls (x.1.toList ++ rest) x.2
      | none => none
    | _ => none
theorem jE_mono1 : ∀ (n y pc : Nat) (ls : jL) (st : List Value) (h : jH) (x : Option Value × jH), jE n y pc ls st h = some x → jE (n + 1) y pc ls st h = some x
  | 0, y, pc, ls, st, h, x, e => by simp [jE] at e
  | n + 1, y, pc, ls, st, h, x, e => by
    rw [jE] at e ⊢
    split at e
    · next i hd =>
      split at e
      · exact jE_mono1 n _ _ _ _ _ _ e
      · exact e
      · next cal lc rest hN =>
        cases h1 : jE n cal 0 lc [] h with
        | none => rw [h1] at e; simp at e
        | some z =>
          rw [h1] at e
          rw [jE_mono1 n _ _ _ _ _ _ h1]
          simp only [Option.bind_some] at e ⊢
          exact jE_mono1 n _ _ _ _ _ _ e
      · simp at e
    · simp at e
theorem jE_mono {n m y pc : Nat} {ls : jL} {st : List Value} {h : jH} {x : Option Value × jH} (hn : n ≤ m) (e : jE n y pc ls st h = some x) : jE m y pc ls st h = some x := by
  induction hn with
  | refl => exact e
  | step _ ih => exact jE_mono1 _ _ _ _ _ _ _ ih
theorem jE_same {n m y pc : Nat} {ls : jL} {st : List Value} {h : jH} {x z : Option Value × jH} (e : jE n y pc ls st h = some x) (e2 : jE m y pc ls st h = some z) : x = z := by
  have h1 := jE_mono (Nat.le_max_left n m) e
  have h2 := jE_mono (Nat.le_max_right n m) e2
  exact Option.some.inj (h1.symm.trans h2)
/-- the value of a run, whatever the fuel -/
noncomputable def jV (y pc : Nat) (ls : jL) (st : List Value) (h : jH) : Option (Option Value × jH) :=
  @dite _ (∃ n x, jE n y pc ls st h = some x) (Classical.propDecidable _) (fun e => some (Classical.choose (Classical.choose_spec e))) (fun _ => none)
theorem jV_of {n y pc : Nat} {ls : jL} {st : List Value} {h : jH} {x : Option Value × jH} (e : jE n y pc ls st h = some x) : jV y pc ls st h = some x := by
  have hx : ∃ n x, jE n y pc ls st h = some x := ⟨n, x, e⟩
  unfold jV
  rw [dif_pos hx]
  exact congrArg some (jE_same (Classical.choose_spec (Classical.choose_spec hx)) e)
theorem jV_to {y pc : Nat} {ls : jL} {st : List Value} {h : jH} {x : Option Value × jH} (e : jV y pc ls st h = some x) : ∃ n, jE n y pc ls st h = some x := by
  unfold jV at e
  split at e
  · next hx =>
    have h1 := Classical.choose_spec (Classical.choose_spec hx)
    have h2 := Option.some.inj e
    exact ⟨_, by rw [← h2]; exact h1⟩
  · cases e
theorem jV_eq_of {y pc y' pc' : Nat} {ls ls' : jL} {st st' : List Value} {h h' : jH} (e : ∀ n, jE (n + 1) y pc ls st h = jE n y' pc' ls' st' h') : jV y pc ls st h = jV y' pc' ls' st' h' := by
  cases hv : jV y' pc' ls' st' h' with
  | some x =>
    obtain ⟨n, hn⟩ := jV_to hv
    exact jV_of (n := n + 1) ((e n).trans hn)
  | none =>
    cases hu : jV y pc ls st h with
    | none => rfl
    | some x =>
      obtain ⟨n, hn⟩ := jV_to hu
      have := jV_of ((e n).symm.trans (jE_mono1 _ _ _ _ _ _ _ hn))
      rw [hv] at this
      exact this.symm
theorem jV_go {y pc : Nat} {i : Instr} {ls : jL} {st : List Value} {h : jH} {pc' : Nat} {ls' : jL} {st' : List Value} {h' : jH} (d : jD y pc = some i) (e : jN i y pc ls st h = some (.inl (pc', ls', st', h'))) : jV y pc ls st h = jV y pc' ls' st' h' :=
  jV_eq_of fun n => by rw [jE, d]; simp only [e]
theorem jV_ret {y pc : Nat} {i : Instr} {ls : jL} {st : List Value} {h : jH} {x : Option Value × jH} (d : jD y pc = some i) (e : jN i y pc ls st h = some (.inr (.inl x))) : jV y pc ls st h = some x :=
  jV_of (n := 1) (by rw [jE, d]; simp only [e])
theorem jV_stuck {y pc : Nat} {i : Instr} {ls : jL} {st : List Value} {h : jH} (d : jD y pc = some i) (e : jN i y pc ls st h = none) : jV y pc ls st h = none := by
  cases hu : jV y pc ls st h with
  | none => rfl
  | some x =>
    obtain ⟨n, hn⟩ := jV_to hu
    have h1 := jE_mono1 _ _ _ _ _ _ _ hn
    rw [jE, d] at h1
    simp only [e] at h1
    cases h1
theorem jV_call {y pc : Nat} {i : Instr} {ls : jL} {st : List Value} {h : jH} {cal : Nat} {lc : jL} {rest : List Value} (d : jD y pc = some i) (e : jN i y pc ls st h = some (.inr (.inr (cal, lc, rest)))) :
    jV y pc ls st h = (jV cal 0 lc [] h).bind fun x => jV y (pc + 3) ls (x.1.toList ++ rest) x.2 := by
  have he : ∀ n, jE (n + 1) y pc ls st h = (jE n cal 0 lc [] h).bind fun x => jE n y (pc + 3) ls (x.1.toList ++ rest) x.2 := fun n => by rw [jE, d]; simp only [e]
  cases h1 : jV cal 0 lc [] h with
  | none =>
    show jV y pc ls st h = none
    cases hu : jV y pc ls st h with
    | none => rfl
    | some x =>
      obtain ⟨n, hn⟩ := jV_to hu
      have h2 := (he n).symm.trans (jE_mono1 _ _ _ _ _ _ _ hn)
      cases h3 : jE n cal 0 lc [] h with
      | none => rw [h3] at h2; cases h2
      | some z => rw [jV_of h3] at h1; cases h1
  | some z =>
    show jV y pc ls st h = jV y (pc + 3) ls (z.1.toList ++ rest) z.2
    obtain ⟨k, hk⟩ := jV_to h1
    cases hv : jV y (pc + 3) ls (z.1.toList ++ rest) z.2 with
    | some x =>
      obtain ⟨n, hn⟩ := jV_to hv
      refine jV_of (n := max k n + 1) ((he _).trans ?_)
      rw [jE_mono (Nat.le_max_left k n) hk]
      exact jE_mono (Nat.le_max_right k n) hn
    | none =>
      cases hu : jV y pc ls st h with
      | none => rfl
      | some x =>
        obtain ⟨n, hn⟩ := jV_to hu
        have h2 := (he n).symm.trans (jE_mono1 _ _ _ _ _ _ _ hn)
        cases h3 : jE n cal 0 lc [] h with
        | none => rw [h3] at h2; cases h2
        | some w =>
          have hw := jE_same h3 hk
          subst hw
          rw [h3] at h2
          have h4 := jV_of (show jE n y (pc + 3) ls (w.1.toList ++ rest) w.2 = some x from h2)
          rw [hv] at h4
          cases h4
