/-! A SMALL MACHINE over handles: references are numbers of cells in the order in which they were made (.ref), or constants' numbers (.retAddr); the heap is a list of cells. -/
abbrev qx_E : Type := (FieldType × Nat × (Nat → Int32)) ⊕ (Nat × List Value)
abbrev qx_L : Type := List (Nat × Value)
abbrev qx_S : Type := Nat × qx_L × List Value × List qx_E
def qx_g {α : Type} (a b : Nat) (x : Option α) : Option α := if a = b then x else none
/-- a variable of the frame -/
def qx_lk : qx_L → Nat → Option Value
  | [], _ => none
  | (j, v) :: l, i => if j = i then some v else qx_lk l i
def qx_ins (i : Nat) (v : Value) : qx_L → qx_L
  | [] => [(i, v)]
  | (j, w) :: l => if i < j then (i, v) :: (j, w) :: l else (j, w) :: qx_ins i v l
/-- a store of a value of one slot, of two -/
def qx_st1 (l : qx_L) (i : Nat) (v : Value) : qx_L := qx_ins i v (l.filter (fun q => !(q.1 == i) && !(q.1 + 1 == i && q.2.category == 2)))
def qx_st2 (l : qx_L) (i : Nat) (v : Value) : qx_L := qx_ins i v (l.filter (fun q => !(q.1 == i) && (!(q.1 == i + 1) && !(q.1 + 1 == i && q.2.category == 2))))
/-- where a jump goes -/
def qx_tg (pc : Nat) (off : Int) : Option Nat := if 0 ≤ (pc : Int) + off then some ((pc : Int) + off).toNat else none
def qx_to (pc : Nat) (off : Int) (lv : qx_L) (st : List Value) (h : List qx_E) : Option qx_S := match qx_tg pc off with
  | some t => some (t, lv, st, h)
  | none => none
def qx_if (c : Bool) (pc : Nat) (off : Int) (lv : qx_L) (st : List Value) (h : List qx_E) : Option qx_S := match qx_tg pc off with
  | some t => some (if c = true then t else pc + 3, lv, st, h)
  | none => none
def qx_ldI (pc' : Nat) (i : Nat) (lv : qx_L) (st : List Value) (h : List qx_E) : Option qx_S := match qx_lk lv i with
  | some (.int x) => some (pc', lv, .int x :: st, h)
  | _ => none
def qx_ldL (pc' : Nat) (i : Nat) (lv : qx_L) (st : List Value) (h : List qx_E) : Option qx_S := match qx_lk lv i with
  | some (.long x) => some (pc', lv, .long x :: st, h)
  | _ => none
def qx_ldA (pc' : Nat) (i : Nat) (lv : qx_L) (st : List Value) (h : List qx_E) : Option qx_S := match qx_lk lv i with
  | some (.ref x) => some (pc', lv, .ref x :: st, h)
  | some (.retAddr x) => some (pc', lv, .retAddr x :: st, h)
  | some .null => some (pc', lv, .null :: st, h)
  | _ => none
def qx_stI (nL pc' : Nat) (i : Nat) (lv : qx_L) (st : List Value) (h : List qx_E) : Option qx_S := match st with
  | .int x :: r => if i < nL then some (pc', qx_st1 lv i (.int x), r, h) else none
  | _ => none
def qx_stL (nL pc' : Nat) (i : Nat) (lv : qx_L) (st : List Value) (h : List qx_E) : Option qx_S := match st with
  | .long x :: r => if i + 1 < nL then some (pc', qx_st2 lv i (.long x), r, h) else none
  | _ => none
def qx_stA (nL pc' : Nat) (i : Nat) (lv : qx_L) (st : List Value) (h : List qx_E) : Option qx_S := match st with
  | .ref x :: r => if i < nL then some (pc', qx_st1 lv i (.ref x), r, h) else none
  | .retAddr x :: r => if i < nL then some (pc', qx_st1 lv i (.retAddr x), r, h) else none
  | .null :: r => if i < nL then some (pc', qx_st1 lv i .null, r, h) else none
  | _ => none
def qx_ii (f : Int32 → Int32 → Int32) (pc : Nat) (lv : qx_L) (st : List Value) (h : List qx_E) : Option qx_S := match st with
  | .int y :: .int x :: r => some (pc + 1, lv, .int (f x y) :: r, h)
  | _ => none
def qx_ll (f : Int64 → Int64 → Int64) (pc : Nat) (lv : qx_L) (st : List Value) (h : List qx_E) : Option qx_S := match st with
  | .long y :: .long x :: r => some (pc + 1, lv, .long (f x y) :: r, h)
  | _ => none
def qx_li (f : Int64 → Int32 → Int64) (pc : Nat) (lv : qx_L) (st : List Value) (h : List qx_E) : Option qx_S := match st with
  | .int y :: .long x :: r => some (pc + 1, lv, .long (f x y) :: r, h)
  | _ => none
def qx_i1 (f : Int32 → Value) (pc : Nat) (lv : qx_L) (st : List Value) (h : List qx_E) : Option qx_S := match st with
  | .int x :: r => some (pc + 1, lv, f x :: r, h)
  | _ => none
def qx_l1 (f : Int64 → Value) (pc : Nat) (lv : qx_L) (st : List Value) (h : List qx_E) : Option qx_S := match st with
  | .long x :: r => some (pc + 1, lv, f x :: r, h)
  | _ => none
/-- what an object is -/
def qx_ob (h : List qx_E) (v : Value) : Option (Nat × List Value) := match v with
  | .ref k => match h[k]? with
    | some (.inr o) => some o
    | _ => none
  | .retAddr k => qx_ko k
  | _ => none
def qx_in (i : Int32) (n : Nat) : Bool := !(decide (i < 0) || decide (n ≤ i.toNatClampNeg))
/-- a load from an array of the type -/
def qx_ald (ty : FieldType) (L : Nat) (xs : Nat → Int32) (pc : Nat) (lv : qx_L) (st : List Value) (h : List qx_E) : Option qx_S := match st with
  | .int i :: .ref k :: r => match h[k]? with
    | some (.inl (t, n, f)) => if t = ty ∧ qx_in i n = true then some (pc + 1, lv, .int (f i.toNatClampNeg) :: r, h) else none
    | _ => none
  | .int i :: .retAddr 0 :: r => if ty = .int ∧ qx_in i L = true then some (pc + 1, lv, .int (xs i.toNatClampNeg) :: r, h) else none
  | .int i :: .retAddr (k + 1) :: r => match qx_ka (k + 1) with
    | some (t, n, f) => if t = ty ∧ qx_in i n = true then some (pc + 1, lv, f i.toNatClampNeg :: r, h) else none
    | _ => none
  | _ => none
def qx_aln (L : Nat) (pc : Nat) (lv : qx_L) (st : List Value) (h : List qx_E) : Option qx_S := match st with
  | .ref k :: r => match h[k]? with
    | some (.inl (t, n, _)) => if t = .int ∨ t = .byte then some (pc + 1, lv, .int (Int32.ofNat n) :: r, h) else none
    | _ => none
  | .retAddr 0 :: r => some (pc + 1, lv, .int (Int32.ofNat L) :: r, h)
  | .retAddr (k + 1) :: r => match qx_ka (k + 1) with
    | some (_, n, _) => some (pc + 1, lv, .int (Int32.ofNat n) :: r, h)
    | _ => none
  | _ => none
def qx_ast (ty : FieldType) (pc : Nat) (lv : qx_L) (st : List Value) (h : List qx_E) : Option qx_S := match st with
  | .int x :: .int i :: .ref k :: r => match h[k]? with
    | some (.inl (t, n, f)) => if t = ty ∧ qx_in i n = true then some (pc + 1, lv, r, h.set k (.inl (t, n, upd f i.toNatClampNeg (vp_nar ty x)))) else none
    | _ => none
  | _ => none
def qx_cpy (d pc : Nat) (lv : qx_L) (st : List Value) (h : List qx_E) : Option qx_S := match st with
  | .int n :: .int dp :: .ref k1 :: .int sp :: .ref k0 :: r => match h[k0]?, h[k1]? with
    | some (.inl (t0, n0, f)), some (.inl (t1, n1, g)) =>
      if t0 = .byte ∧ t1 = .byte ∧ 1 ≤ d ∧ (r.map fun v => v.category).sum ≤ 8 ∧ ¬ sp < 0 ∧ ¬ dp < 0 ∧ ¬ n < 0 ∧ sp.toNatClampNeg + n.toNatClampNeg ≤ n0 ∧ dp.toNatClampNeg + n.toNatClampNeg ≤ n1 ∧ (∀ i, i < n.toNatClampNeg → fits .byte (.int (f (sp.toNatClampNeg + i))) = true)
      then some (pc + 3, lv, r, h.set k1 (.inl (t1, n1, va_cpy f g sp.toNatClampNeg dp.toNatClampNeg n.toNatClampNeg))) else none
    | _, _ => none
  | _ => none
def qx_nwa (at_ : ArrayType) (pc : Nat) (lv : qx_L) (st : List Value) (h : List qx_E) : Option qx_S := match st with
  | .int n :: r => if (at_ = .int ∨ at_ = .byte) ∧ ¬ n < 0 ∧ n.toNatClampNeg * 4 ≤ 536870912 then some (pc + 2, lv, .ref h.length :: r, h ++ [.inl (newarray.typeOf at_, n.toNatClampNeg, fun _ => 0)]) else none
  | _ => none
def qx_gf (m k pc : Nat) (lv : qx_L) (st : List Value) (h : List qx_E) : Option qx_S := match st with
  | v :: r => match qx_ob h v, qx_fld m k with
    | some (ci, fs), some (ci', j) => if ci = ci' then (match fs[j]? with
      | some w => some (pc + 3, lv, w :: r, h)
      | none => none) else none
    | _, _ => none
  | _ => none
/-- may the value stand in a field of the type -/
def qx_fit (ty : FieldType) (v : Value) : Bool := match ty, v with
  | .int, .int _ => true
  | .long, .long _ => true
  | .boolean, .int x => x == 0 || x == 1
  | .object _, .ref _ => true
  | .object _, .null => true
  | .object _, .retAddr _ => true
  | .array _, .ref _ => true
  | .array _, .null => true
  | _, _ => false
def qx_pf (m k pc : Nat) (lv : qx_L) (st : List Value) (h : List qx_E) : Option qx_S := match st with
  | v :: .ref a :: r => match h[a]?, qx_fld m k with
    | some (.inr (ci, fs)), some (ci', j) => if ci = ci' ∧ j < fs.length ∧ qx_fit (qx_fty ci j) v = true ∧ qx_pok m k = true then some (pc + 3, lv, r, h.set a (.inr (ci, fs.set j v))) else none
    | _, _ => none
  | _ => none
/-- one instruction that is no call and no return; d: the depth that is left -/
def qx_step (L : Nat) (xs : Nat → Int32) (d m pc : Nat) (i : Instr) (len : Nat) (lv : qx_L) (st : List Value) (h : List qx_E) : Option qx_S :=
  match i with
  | .iconst n => qx_g len 1 (some (pc + 1, lv, .int (Int32.ofInt n) :: st, h))
  | .bipush n => qx_g len 2 (some (pc + 2, lv, .int (Int8.ofInt n).toInt32 :: st, h))
  | .sipush n => qx_g len 3 (some (pc + 3, lv, .int (Int16.ofInt n).toInt32 :: st, h))
  | .lconst n => qx_g len 1 (some (pc + 1, lv, .long (Int64.ofNat (n : Nat)) :: st, h))
  | .aconst_null => qx_g len 1 (some (pc + 1, lv, .null :: st, h))
  | .ldc k => qx_g len 2 (match qx_ldc m k with
    | some v => some (pc + 2, lv, v :: st, h)
    | none => none)
  | .ldc_w k => qx_g len 3 (match qx_ldcw m k with
    | some v => some (pc + 3, lv, .int v :: st, h)
    | none => none)
  | .ldc2_w k => qx_g len 3 (match qx_ldc2 m k with
    | some v => some (pc + 3, lv, .long v :: st, h)
    | none => none)
  | .iload_n k => qx_g len 1 (qx_ldI (pc + 1) k lv st h)
  | .iload k => qx_g len 2 (qx_ldI (pc + 2) k lv st h)
  | .lload_n k => qx_g len 1 (qx_ldL (pc + 1) k lv st h)
  | .lload k => qx_g len 2 (qx_ldL (pc + 2) k lv st h)
  | .aload_n k => qx_g len 1 (qx_ldA (pc + 1) k lv st h)
  | .aload k => qx_g len 2 (qx_ldA (pc + 2) k lv st h)
  | .istore_n k => qx_g len 1 (qx_stI (qx_mL m) (pc + 1) k lv st h)
  | .istore k => qx_g len 2 (qx_stI (qx_mL m) (pc + 2) k lv st h)
  | .lstore_n k => qx_g len 1 (qx_stL (qx_mL m) (pc + 1) k lv st h)
  | .lstore k => qx_g len 2 (qx_stL (qx_mL m) (pc + 2) k lv st h)
  | .astore_n k => qx_g len 1 (qx_stA (qx_mL m) (pc + 1) k lv st h)
  | .astore k => qx_g len 2 (qx_stA (qx_mL m) (pc + 2) k lv st h)
  | .iinc k n => qx_g len 3 (match qx_lk lv k with
    | some (.int x) => if k < qx_mL m then some (pc + 3, qx_st1 lv k (.int (x + Int32.ofInt n)), st, h) else none
    | _ => none)
  | .iadd => qx_g len 1 (qx_ii (fun x y => x + y) pc lv st h)
  | .isub => qx_g len 1 (qx_ii (fun x y => x - y) pc lv st h)
  | .imul => qx_g len 1 (qx_ii (fun x y => x * y) pc lv st h)
  | .iand => qx_g len 1 (qx_ii (fun x y => x &&& y) pc lv st h)
  | .ior => qx_g len 1 (qx_ii (fun x y => x ||| y) pc lv st h)
  | .ixor => qx_g len 1 (qx_ii (fun x y => x ^^^ y) pc lv st h)
  | .ishl => qx_g len 1 (qx_ii (fun x y => x <<< (y &&& 31)) pc lv st h)
  | .ishr => qx_g len 1 (qx_ii (fun x y => x >>> (y &&& 31)) pc lv st h)
  | .iushr => qx_g len 1 (qx_ii (fun x y => (x.toUInt32 >>> (y.toUInt32 &&& Int32.toUInt32 31)).toInt32) pc lv st h)
  | .irem => qx_g len 1 (match st with
    | .int y :: .int x :: r => if y = 0 then none else some (pc + 1, lv, .int (x - x / y * y) :: r, h)
    | _ => none)
  | .ineg => qx_g len 1 (qx_i1 (fun x => .int (-x)) pc lv st h)
  | .ladd => qx_g len 1 (qx_ll (fun x y => x + y) pc lv st h)
  | .lsub => qx_g len 1 (qx_ll (fun x y => x - y) pc lv st h)
  | .lmul => qx_g len 1 (qx_ll (fun x y => x * y) pc lv st h)
  | .land => qx_g len 1 (qx_ll (fun x y => x &&& y) pc lv st h)
  | .lor => qx_g len 1 (qx_ll (fun x y => x ||| y) pc lv st h)
  | .lshl => qx_g len 1 (qx_li (fun x y => x <<< (y.toInt64 &&& 63)) pc lv st h)
  | .lshr => qx_g len 1 (qx_li (fun x y => x >>> (y.toInt64 &&& 63)) pc lv st h)
  | .lcmp => qx_g len 1 (match st with
    | .long y :: .long x :: r => some (pc + 1, lv, .int (lg_cmp x y) :: r, h)
    | _ => none)
  | .i2l => qx_g len 1 (qx_i1 (fun x => .long x.toInt64) pc lv st h)
  | .l2i => qx_g len 1 (qx_l1 (fun x => .int x.toInt32) pc lv st h)
  | .i2b => qx_g len 1 (qx_i1 (fun x => .int x.toInt8.toInt32) pc lv st h)
  | .i2c => qx_g len 1 (qx_i1 (fun x => .int (x.toUInt32 % 65536).toInt32) pc lv st h)
  | .dup => qx_g len 1 (match st with
    | v :: r => if v.category = 1 then some (pc + 1, lv, v :: v :: r, h) else none
    | _ => none)
  | .dup_x1 => qx_g len 1 (match st with
    | v :: w :: r => if v.category = 1 ∧ w.category = 1 then some (pc + 1, lv, v :: w :: v :: r, h) else none
    | _ => none)
  | .pop => qx_g len 1 (match st with
    | v :: r => if v.category = 1 then some (pc + 1, lv, r, h) else none
    | _ => none)
  | .pop2 => qx_g len 1 (match st with
    | v :: r => if v.category = 2 then some (pc + 1, lv, r, h) else none
    | _ => none)
  | .ifCond cd off => qx_g len 3 (match st with
    | .int x :: r => (match cd with
      | .eq => qx_if (decide (x = 0)) pc off lv r h
      | .ne => qx_if (decide (¬ x = 0)) pc off lv r h
      | .lt => qx_if (decide (x < 0)) pc off lv r h
      | .ge => qx_if (decide (0 ≤ x)) pc off lv r h
      | .gt => qx_if (decide (0 < x)) pc off lv r h
      | .le => qx_if (decide (x ≤ 0)) pc off lv r h)
    | _ => none)
  | .if_icmp cd off => qx_g len 3 (match st with
    | .int y :: .int x :: r => (match cd with
      | .eq => qx_if (decide (x = y)) pc off lv r h
      | .ne => qx_if (decide (¬ x = y)) pc off lv r h
      | .lt => qx_if (decide (x < y)) pc off lv r h
      | .ge => qx_if (decide (y ≤ x)) pc off lv r h
      | .gt => qx_if (decide (y < x)) pc off lv r h
      | .le => qx_if (decide (x ≤ y)) pc off lv r h)
    | _ => none)
  | .ifnull off => qx_g len 3 (match st with
    | .null :: r => qx_to pc off lv r h
    | .ref _ :: r => some (pc + 3, lv, r, h)
    | .retAddr k :: r => if qx_en k = true then some (pc + 3, lv, r, h) else none
    | _ => none)
  | .ifnonnull off => qx_g len 3 (match st with
    | .null :: r => some (pc + 3, lv, r, h)
    | .ref _ :: r => qx_to pc off lv r h
    | .retAddr k :: r => if qx_en k = true then qx_to pc off lv r h else none
    | _ => none)
  | .if_acmp .ne off => qx_g len 3 (match st with
    | .retAddr y :: .retAddr x :: r => if qx_en x = true ∧ qx_en y = true then qx_if (decide (¬ x = y)) pc off lv r h else none
    | .retAddr y :: .null :: r => if qx_en y = true then qx_to pc off lv r h else none
    | _ => none)
  | .goto off => qx_g len 3 (qx_to pc off lv st h)
  | .tableswitch dflt lo hi offs => match st with
    | .int x :: r => if x.toInt < lo ∨ hi < x.toInt then qx_to pc dflt lv r h else (match offs[(x.toInt - lo).toNat]? with
      | some off => qx_to pc off lv r h
      | none => none)
    | _ => none
  | .lookupswitch dflt ps => match st with
    | .int x :: r => if (ps.toList.zip (ps.toList.drop 1)).all (fun (a, next) => a.1 < next.1) = true then qx_to pc (Op.lookupswitch.offset ps.toList dflt x.toInt) lv r h else none
    | _ => none
  | .iaload => qx_g len 1 (qx_ald .int L xs pc lv st h)
  | .baload => qx_g len 1 (qx_ald .byte L xs pc lv st h)
  | .iastore => qx_g len 1 (qx_ast .int pc lv st h)
  | .bastore => qx_g len 1 (qx_ast .byte pc lv st h)
  | .aaload => qx_g len 1 (match st with
    | .int i :: .retAddr (k + 1) :: r => (match qx_ka (k + 1) with
      | some (.object _, n, f) => if qx_in i n = true then some (pc + 1, lv, f i.toNatClampNeg :: r, h) else none
      | _ => none)
    | _ => none)
  | .arraylength => qx_g len 1 (qx_aln L pc lv st h)
  | .newarray at_ => qx_g len 2 (qx_nwa at_ pc lv st h)
  | .new k => qx_g len 3 (match qx_new m k with
    | some (ci, fs) => some (pc + 3, lv, .ref h.length :: st, h ++ [.inr (ci, fs)])
    | none => none)
  | .getfield k => qx_g len 3 (qx_gf m k pc lv st h)
  | .putfield k => qx_g len 3 (qx_pf m k pc lv st h)
  | .getstatic k => qx_g len 3 (match qx_sta m k with
    | some v => some (pc + 3, lv, v :: st, h)
    | none => none)
  | .invokespecial k => qx_g len 3 (if qx_oi m k = true ∧ 1 ≤ d then (match st with
    | .ref _ :: r => if (r.map fun v => v.category).sum ≤ 8 then some (pc + 3, lv, r, h) else none
    | _ => none) else none)
  | .invokestatic k => qx_g len 3 (if qx_cp m k = true then qx_cpy d pc lv st h else none)
  | _ => none
/-- a return: what is answered -/
def qx_re (m : Nat) (i : Instr) (len : Nat) (st : List Value) : Option (Option Value) := match i, len, st with
  | .ireturn, 1, [.int v] => match qx_rt m with
    | some ty => if narrow ty (.int v) = .int v ∧ (ty = .int ∨ ty = .boolean ∨ ty = .char ∨ ty = .byte) then some (some (.int v)) else none
    | none => none
  | .lreturn, 1, [.long v] => if qx_rt m = some .long then some (some (.long v)) else none
  | .areturn, 1, [.ref v] => if qx_rr (qx_rt m) = true then some (some (.ref v)) else none
  | .areturn, 1, [.retAddr v] => if qx_rr (qx_rt m) = true then some (some (.retAddr v)) else none
  | .areturn, 1, [.null] => if qx_rr (qx_rt m) = true then some (some .null) else none
  | .return_, 1, [] => if qx_rt m = none then some none else none
  | _, _, _ => none
/-- a call: whom, how many values it takes off the stack (the receiver counts) -/
def qx_ca (m : Nat) (i : Instr) (len : Nat) (st : List Value) (h : List qx_E) : Option (Nat × Nat) := match i with
  | .invokevirtual k => if len = 3 then (match qx_mth m k with
    | some (y, n) => (match st[n]? with
      | some v => (match qx_ob h v with
        | some (ci, _) => if ci = qx_ow y ∧ qx_kd y = 0 then some (y, n + 1) else none
        | none => none)
      | none => none)
    | none => none) else none
  | .invokestatic k => if len = 3 then (match qx_mth m k with
    | some (y, n) => if qx_kd y = 1 then some (y, n) else none
    | none => none) else none
  | .invokespecial k => if len = 3 then (match qx_mth m k with
    | some (y, n) => (match st[n]? with
      | some (.ref _) => if qx_kd y = 2 then some (y, n + 1) else none
      | _ => none)
    | none => none) else none
  | _ => none
def qx_run (L : Nat) (xs : Nat → Int32) : Nat → Nat → Nat → Nat → qx_L → List Value → List qx_E → Option (Option Value × List qx_E)
  | 0, _, _, _, _, _, _ => none
  | n + 1, d, m, pc, lv, st, h => match decode (qx_code m) pc with
    | .ok (i, len) => match qx_step L xs d m pc i len lv st h with
      | some (pc', lv', st', h') => qx_run L xs n d m pc' lv' st' h'
      | none => match qx_re m i len st with
        | some v => some (v, h)
        | none => match qx_ca m i len st h with
          | some (y, k) => if 1 ≤ d ∧ k ≤ st.length ∧ ((st.drop k).map fun v => v.category).sum ≤ 8 ∧ (lg_sl (st.take k).reverse).length ≤ qx_mL y then (match qx_run L xs n (d - 1) y 0 (lv_args 0 (st.take k).reverse) [] h with
            | some (v, h') => qx_run L xs n d m (pc + 3) lv (v.toList ++ st.drop k) h'
            | none => none) else none
          | none => none
    | .error _ => none
