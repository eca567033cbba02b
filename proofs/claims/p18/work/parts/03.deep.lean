abbrev ev_M : Type := MethodName × ByteArray × Nat × Option FieldType
abbrev ev_H : Type := Nat → va_E
abbrev ev_L : Type := List (Option Value)
abbrev ev_Q : Type := Nat → ev_H → List Value → Prop
abbrev ev_X : Type := Nat → Nat → Nat → ev_M → Nat → ev_H → Nat → ev_L → List Value → ev_Q → Prop
/-- locals: a store of one word, of two -/
def ev_kl (ls : ev_L) (i : Nat) : ev_L := match i with
  | 0 => ls
  | j + 1 => match ls[j]? with
    | some (some (.long _)) => ls.set j none
    | some (some (.double _)) => ls.set j none
    | _ => ls
def ev_s1 (ls : ev_L) (i : Nat) (v : Value) : ev_L := (ev_kl ls i).set i (some v)
def ev_s2 (ls : ev_L) (i : Nat) (v : Value) : ev_L := ((ev_kl ls i).set (i + 1) none).set i (some v)
def ev_2i (f : Int32 → Int32 → Value) (st : List Value) : Option (List Value) := match st with
  | .int y :: .int x :: r => some (f x y :: r)
  | _ => none
def ev_2l (f : Int64 → Int64 → Value) (st : List Value) : Option (List Value) := match st with
  | .long y :: .long x :: r => some (f x y :: r)
  | _ => none
def ev_li (f : Int64 → Int32 → Value) (st : List Value) : Option (List Value) := match st with
  | .int y :: .long x :: r => some (f x y :: r)
  | _ => none
def ev_1i (f : Int32 → Value) (st : List Value) : Option (List Value) := match st with
  | .int x :: r => some (f x :: r)
  | _ => none
def ev_1l (f : Int64 → Value) (st : List Value) : Option (List Value) := match st with
  | .long x :: r => some (f x :: r)
  | _ => none
def ev_ldi (ls : ev_L) (k : Nat) : Option Value := match ls[k]? with
  | some (some (.int x)) => some (.int x)
  | _ => none
def ev_ldl (ls : ev_L) (k : Nat) : Option Value := match ls[k]? with
  | some (some (.long x)) => some (.long x)
  | _ => none
def ev_lda (ls : ev_L) (k : Nat) : Option Value := match ls[k]? with
  | some (some (.ref x)) => some (.ref x)
  | some (some .null) => some .null
  | _ => none
def ev_sti (ls : ev_L) (k : Nat) (st : List Value) : Option (ev_L × List Value) := match st with
  | .int x :: r => if k < ls.length then some (ev_s1 ls k (.int x), r) else none
  | _ => none
def ev_stl (ls : ev_L) (k : Nat) (st : List Value) : Option (ev_L × List Value) := match st with
  | .long x :: r => if k + 1 < ls.length then some (ev_s2 ls k (.long x), r) else none
  | _ => none
def ev_sta (ls : ev_L) (k : Nat) (st : List Value) : Option (ev_L × List Value) := match st with
  | .ref x :: r => if k < ls.length then some (ev_s1 ls k (.ref x), r) else none
  | .null :: r => if k < ls.length then some (ev_s1 ls k .null, r) else none
  | _ => none
def ev_inc (ls : ev_L) (k : Nat) (n : Int) : Option ev_L := match ls[k]? with
  | some (some (.int x)) => if k < ls.length then some (ev_s1 ls k (.int (x + Int32.ofInt n))) else none
  | _ => none
def ev_dup (st : List Value) : Option (List Value) := match st with
  | v :: r => if v.category = 1 then some (v :: v :: r) else none
  | _ => none
def ev_pop (st : List Value) : Option (List Value) := match st with
  | v :: r => if v.category = 1 then some r else none
  | _ => none
def ev_dup2 (st : List Value) : Option (List Value) := match st with
  | v :: r => if v.category = 2 then some (v :: v :: r) else match r with
    | w :: r => if w.category = 2 then none else some (v :: w :: v :: w :: r)
    | _ => none
  | _ => none
def ev_pop2 (st : List Value) : Option (List Value) := match st with
  | v :: r => if v.category = 2 then some r else none
  | _ => none
def ev_div (st : List Value) : Option (List Value) := match st with
  | .int y :: .int x :: r => if y = 0 then none else some (.int (x / y) :: r)
  | _ => none
def ev_to (pc : Nat) (off : Int) : Option Nat := if 0 ≤ (pc : Int) + off then some ((pc : Int) + off).toNat else none
/-- the length of an instruction -/
def ev_ln (i : Instr) : Nat := match i with
  | .bipush _ => 2
  | .sipush _ => 3
  | .iload _ => 2
  | .lload _ => 2
  | .aload _ => 2
  | .istore _ => 2
  | .lstore _ => 2
  | .astore _ => 2
  | .iinc _ _ => 3
  | .goto _ => 3
  | _ => 1
/-- instructions that touch no cell -/
def ev_pu (i : Instr) (pc : Nat) (ls : ev_L) (st : List Value) : Option (Nat × ev_L × List Value) := match i with
  | .iconst k => some (pc + 1, ls, .int (Int32.ofInt k) :: st)
  | .bipush k => some (pc + 2, ls, .int (Int8.ofInt k).toInt32 :: st)
  | .sipush k => some (pc + 3, ls, .int (Int16.ofInt k).toInt32 :: st)
  | .lconst k => some (pc + 1, ls, .long (Int64.ofNat (k : Nat)) :: st)
  | .aconst_null => some (pc + 1, ls, .null :: st)
  | .iload_n k => (ev_ldi ls (k : Nat)).map (fun v => (pc + 1, ls, v :: st))
  | .iload k => (ev_ldi ls k).map (fun v => (pc + 2, ls, v :: st))
  | .lload_n k => (ev_ldl ls (k : Nat)).map (fun v => (pc + 1, ls, v :: st))
  | .lload k => (ev_ldl ls k).map (fun v => (pc + 2, ls, v :: st))
  | .aload_n k => (ev_lda ls (k : Nat)).map (fun v => (pc + 1, ls, v :: st))
  | .aload k => (ev_lda ls k).map (fun v => (pc + 2, ls, v :: st))
  | .istore_n k => (ev_sti ls (k : Nat) st).map (fun q => (pc + 1, q.1, q.2))
  | .istore k => (ev_sti ls k st).map (fun q => (pc + 2, q.1, q.2))
  | .lstore_n k => (ev_stl ls (k : Nat) st).map (fun q => (pc + 1, q.1, q.2))
  | .lstore k => (ev_stl ls k st).map (fun q => (pc + 2, q.1, q.2))
  | .astore_n k => (ev_sta ls (k : Nat) st).map (fun q => (pc + 1, q.1, q.2))
  | .astore k => (ev_sta ls k st).map (fun q => (pc + 2, q.1, q.2))
  | .iinc k n => (ev_inc ls k n).map (fun q => (pc + 3, q, st))
  | .iadd => (ev_2i (fun x y => .int (x + y)) st).map (fun q => (pc + 1, ls, q))
  | .isub => (ev_2i (fun x y => .int (x - y)) st).map (fun q => (pc + 1, ls, q))
  | .imul => (ev_2i (fun x y => .int (x * y)) st).map (fun q => (pc + 1, ls, q))
  | .iand => (ev_2i (fun x y => .int (x &&& y)) st).map (fun q => (pc + 1, ls, q))
  | .ior => (ev_2i (fun x y => .int (x ||| y)) st).map (fun q => (pc + 1, ls, q))
  | .ixor => (ev_2i (fun x y => .int (x ^^^ y)) st).map (fun q => (pc + 1, ls, q))
  | .ishl => (ev_2i (fun x y => .int (x <<< (y &&& 31))) st).map (fun q => (pc + 1, ls, q))
  | .ishr => (ev_2i (fun x y => .int (x >>> (y &&& 31))) st).map (fun q => (pc + 1, ls, q))
  | .iushr => (ev_2i (fun x y => .int (x.toUInt32 >>> (y.toUInt32 &&& Int32.toUInt32 31)).toInt32) st).map (fun q => (pc + 1, ls, q))
  | .idiv => (ev_div st).map (fun q => (pc + 1, ls, q))
  | .ladd => (ev_2l (fun x y => .long (x + y)) st).map (fun q => (pc + 1, ls, q))
  | .lsub => (ev_2l (fun x y => .long (x - y)) st).map (fun q => (pc + 1, ls, q))
  | .land => (ev_2l (fun x y => .long (x &&& y)) st).map (fun q => (pc + 1, ls, q))
  | .lor => (ev_2l (fun x y => .long (x ||| y)) st).map (fun q => (pc + 1, ls, q))
  | .lxor => (ev_2l (fun x y => .long (x ^^^ y)) st).map (fun q => (pc + 1, ls, q))
  | .lcmp => (ev_2l (fun x y => .int (lg_cmp x y)) st).map (fun q => (pc + 1, ls, q))
  | .lneg => (ev_1l (fun x => .long (-x)) st).map (fun q => (pc + 1, ls, q))
  | .lshl => (ev_li (fun x y => .long (x <<< (y.toInt64 &&& 63))) st).map (fun q => (pc + 1, ls, q))
  | .lshr => (ev_li (fun x y => .long (x >>> (y.toInt64 &&& 63))) st).map (fun q => (pc + 1, ls, q))
  | .lushr => (ev_li (fun x y => .long (x.toUInt64 >>> (y.toInt64.toUInt64 &&& Int64.toUInt64 63)).toInt64) st).map (fun q => (pc + 1, ls, q))
  | .i2l => (ev_1i (fun x => .long x.toInt64) st).map (fun q => (pc + 1, ls, q))
  | .i2b => (ev_1i (fun x => .int x.toInt8.toInt32) st).map (fun q => (pc + 1, ls, q))
  | .l2i => (ev_1l (fun x => .int x.toInt32) st).map (fun q => (pc + 1, ls, q))
  | .dup => (ev_dup st).map (fun q => (pc + 1, ls, q))
  | .pop => (ev_pop st).map (fun q => (pc + 1, ls, q))
  | .dup2 => (ev_dup2 st).map (fun q => (pc + 1, ls, q))
  | .pop2 => (ev_pop2 st).map (fun q => (pc + 1, ls, q))
  | .goto off => (ev_to pc off).map (fun q => (q, ls, st))
  | _ => none
/-- a fork: what it asks, what is left of the stack, how far it goes -/
def ev_br (i : Instr) (st : List Value) : Option (Prop × Prop × List Value × Int) := match i with
  | .ifCond cd off => match st with
    | .int x :: r => match cd with
      | .eq => some (x = 0, ¬ x = 0, r, off)
      | .ne => some (¬ x = 0, x = 0, r, off)
      | .lt => some (x < 0, ¬ x < 0, r, off)
      | .ge => some (0 ≤ x, ¬ 0 ≤ x, r, off)
      | .gt => some (0 < x, ¬ 0 < x, r, off)
      | .le => some (x ≤ 0, ¬ x ≤ 0, r, off)
    | _ => none
  | .if_icmp cd off => match st with
    | .int y :: .int x :: r => match cd with
      | .eq => some (x = y, ¬ x = y, r, off)
      | .ne => some (¬ x = y, x = y, r, off)
      | .lt => some (x < y, ¬ x < y, r, off)
      | .ge => some (y ≤ x, ¬ y ≤ x, r, off)
      | .gt => some (y < x, ¬ y < x, r, off)
      | .le => some (x ≤ y, ¬ x ≤ y, r, off)
    | _ => none
  | .ifnull off => match st with
    | .ref _ :: r => some (False, True, r, off)
    | .null :: r => some (True, False, r, off)
    | _ => none
  | .ifnonnull off => match st with
    | .ref _ :: r => some (True, False, r, off)
    | .null :: r => some (False, True, r, off)
    | _ => none
  | _ => none
