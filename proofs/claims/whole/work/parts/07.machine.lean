/-! the abstract machine: a memory of cells by number (shape, ints, longs, references), methods as blocks of instructions; a run by fuel, and its limit -/
abbrev am_M : Type := Nat × Nat × (Nat → Nat × Nat) × (Nat → Nat → Int32) × (Nat → Nat → Int64) × (Nat → Nat → Option Nat)
abbrev am_L : Type := List (Option Value)
abbrev am_Act : Type := (List am_op × am_L × List Value × am_M) ⊕ ((Option Value × am_M) ⊕ (Nat × List Value × List Value))
abbrev am_R : Type := Option (Option Value × am_M)
def am_up {α : Type} (f : Nat → Nat → α) (a k : Nat) (x : α) : Nat → Nat → α := fun a' k' => if a' = a ∧ k' = k then x else f a' k'
def am_row {α : Type} (f : Nat → Nat → α) (a : Nat) (g : Nat → α) : Nat → Nat → α := fun a' => if a' = a then g else f a'
def am_sh (S : Nat → Nat × Nat) (a : Nat) (x : Nat × Nat) : Nat → Nat × Nat := fun a' => if a' = a then x else S a'
def am_c1 : Option Value → Option Value
  | some (.long _) => none
  | some (.double _) => none
  | x => x
def am_set1 : am_L → Nat → Value → am_L
  | [], _, _ => []
  | _ :: ls, 0, v => some v :: ls
  | l :: ls, 1, v => am_c1 l :: am_set1 ls 0 v
  | l :: ls, n + 2, v => l :: am_set1 ls (n + 1) v
def am_set2 : am_L → Nat → Value → am_L
  | [], _, _ => []
  | _ :: ls, 0, v => some v :: (match ls with | [] => [] | _ :: t => none :: t)
  | l :: ls, 1, v => am_c1 l :: am_set2 ls 0 v
  | l :: ls, n + 2, v => l :: am_set2 ls (n + 1) v
def am_rem (x y : Int32) : Int32 := x - x / y * y
def am_lrem (x y : Int64) : Int64 := x - x / y * y
def am_shl (x y : Int32) : Int32 := x <<< (y &&& 31)
def am_shr (x y : Int32) : Int32 := x >>> (y &&& 31)
def am_ushr (x y : Int32) : Int32 := (x.toUInt32 >>> (y.toUInt32 &&& Int32.toUInt32 31)).toInt32
def am_lshl (x : Int64) (y : Int32) : Int64 := x <<< (y.toInt64 &&& 63)
def am_lshr (x : Int64) (y : Int32) : Int64 := x >>> (y.toInt64 &&& 63)
def am_ic (x : Int32) : Int32 := (x.toUInt32 % 65536).toInt32
def am_ix (f : Nat → Int32) (ch : Int32) : Nat → Nat → Int32
  | 0, _ => -1
  | n + 1, j => if f j = ch then Int32.ofNat j else am_ix f ch n (j + 1)
def am_ldi (k : Nat) (loc : am_L) (stk : List Value) (M : am_M) : Option (am_L × List Value × am_M) :=
  match loc[k]? with
  | some (some (.int v)) => some (loc, .int v :: stk, M)
  | _ => none
def am_ldl (k : Nat) (loc : am_L) (stk : List Value) (M : am_M) : Option (am_L × List Value × am_M) :=
  match loc[k]? with
  | some (some (.long v)) => some (loc, .long v :: stk, M)
  | _ => none
def am_lda (k : Nat) (loc : am_L) (stk : List Value) (M : am_M) : Option (am_L × List Value × am_M) :=
  match loc[k]? with
  | some (some (.ref v)) => some (loc, .ref v :: stk, M)
  | _ => none
def am_sti (k : Nat) (loc : am_L) (stk : List Value) (M : am_M) : Option (am_L × List Value × am_M) :=
  match stk with
  | .int v :: st => if k < loc.length then some (am_set1 loc k (.int v), st, M) else none
  | _ => none
def am_sta (k : Nat) (loc : am_L) (stk : List Value) (M : am_M) : Option (am_L × List Value × am_M) :=
  match stk with
  | .ref v :: st => if k < loc.length then some (am_set1 loc k (.ref v), st, M) else none
  | _ => none
def am_stl (k : Nat) (loc : am_L) (stk : List Value) (M : am_M) : Option (am_L × List Value × am_M) :=
  match stk with
  | .long v :: st => if k + 1 < loc.length then some (am_set2 loc k (.long v), st, M) else none
  | _ => none
def am_bi (f : Int32 → Int32 → Int32) (loc : am_L) (stk : List Value) (M : am_M) : Option (am_L × List Value × am_M) :=
  match stk with
  | .int y :: .int x :: st => some (loc, .int (f x y) :: st, M)
  | _ => none
def am_bl (f : Int64 → Int64 → Int64) (loc : am_L) (stk : List Value) (M : am_M) : Option (am_L × List Value × am_M) :=
  match stk with
  | .long y :: .long x :: st => some (loc, .long (f x y) :: st, M)
  | _ => none
/-- the words of a stack -/
def am_cs : List Value → Nat
  | [] => 0
  | .long _ :: s => 2 + am_cs s
  | .double _ :: s => 2 + am_cs s
  | _ :: s => 1 + am_cs s
/-- an index within a row of this shape -/
abbrev am_in (q : Nat × Nat) (t : Nat) (j : Int32) : Prop := q.1 = t ∧ ¬ j < 0 ∧ j.toNatClampNeg < q.2
def am_ex (i : Instr) (x y : Nat) (z : Int) (loc : am_L) (stk : List Value) (M : am_M) : Option (am_L × List Value × am_M) :=
  match i with
  | .iconst _ => some (loc, .int (Int32.ofInt z) :: stk, M)
  | .bipush _ => some (loc, .int (Int32.ofInt z) :: stk, M)
  | .sipush _ => some (loc, .int (Int32.ofInt z) :: stk, M)
  | .ldc _ => if x = 0 then some (loc, .int (Int32.ofInt z) :: stk, M) else some (loc, .ref (1000000 + y) :: stk, M)
  | .ldc_w _ => some (loc, .int (Int32.ofInt z) :: stk, M)
  | .lconst _ => some (loc, .long (Int64.ofInt z) :: stk, M)
  | .ldc2_w _ => some (loc, .long (Int64.ofInt z) :: stk, M)
  | .getstatic _ => if z = 3 then some (loc, .ref (1000000 + y) :: stk, M) else none
  | .iload_n k => am_ldi k.val loc stk M
  | .iload k => am_ldi k loc stk M
  | .lload_n k => am_ldl k.val loc stk M
  | .lload k => am_ldl k loc stk M
  | .aload_n k => am_lda k.val loc stk M
  | .aload k => am_lda k loc stk M
  | .istore_n k => am_sti k.val loc stk M
  | .istore k => am_sti k loc stk M
  | .lstore_n k => am_stl k.val loc stk M
  | .lstore k => am_stl k loc stk M
  | .astore_n k => am_sta k.val loc stk M
  | .astore k => am_sta k loc stk M
  | .iinc k n => (match loc[k]? with
    | some (some (.int v)) => some (am_set1 loc k (.int (v + Int32.ofInt n)), stk, M)
    | _ => none)
  | .iadd => am_bi (· + ·) loc stk M
  | .isub => am_bi (· - ·) loc stk M
  | .imul => am_bi (· * ·) loc stk M
  | .iand => am_bi (· &&& ·) loc stk M
  | .ior => am_bi (· ||| ·) loc stk M
  | .ixor => am_bi (· ^^^ ·) loc stk M
  | .ishl => am_bi am_shl loc stk M
  | .ishr => am_bi am_shr loc stk M
  | .iushr => am_bi am_ushr loc stk M
  | .idiv => (match stk with
    | .int y :: .int x :: st => if y = 0 then none else some (loc, .int (x / y) :: st, M)
    | _ => none)
  | .irem => (match stk with
    | .int y :: .int x :: st => if y = 0 then none else some (loc, .int (am_rem x y) :: st, M)
    | _ => none)
  | .ineg => (match stk with
    | .int x :: st => some (loc, .int (-x) :: st, M)
    | _ => none)
  | .ladd => am_bl (· + ·) loc stk M
  | .lsub => am_bl (· - ·) loc stk M
  | .lmul => am_bl (· * ·) loc stk M
  | .lor => am_bl (· ||| ·) loc stk M
  | .ldiv => (match stk with
    | .long y :: .long x :: st => if y = 0 then none else some (loc, .long (x / y) :: st, M)
    | _ => none)
  | .lrem => (match stk with
    | .long y :: .long x :: st => if y = 0 then none else some (loc, .long (am_lrem x y) :: st, M)
    | _ => none)
  | .lneg => (match stk with
    | .long x :: st => some (loc, .long (-x) :: st, M)
    | _ => none)
  | .lshl => (match stk with
    | .int y :: .long x :: st => some (loc, .long (am_lshl x y) :: st, M)
    | _ => none)
  | .lshr => (match stk with
    | .int y :: .long x :: st => some (loc, .long (am_lshr x y) :: st, M)
    | _ => none)
  | .i2l => (match stk with
    | .int x :: st => some (loc, .long x.toInt64 :: st, M)
    | _ => none)
  | .l2i => (match stk with
    | .long x :: st => some (loc, .int x.toInt32 :: st, M)
    | _ => none)
  | .i2c => (match stk with
    | .int x :: st => some (loc, .int (am_ic x) :: st, M)
    | _ => none)
  | .lcmp => (match stk with
    | .long y :: .long x :: st => some (loc, .int (lg_cmp x y) :: st, M)
    | _ => none)
  | .dup => (match stk with
    | .int v :: st => some (loc, .int v :: .int v :: st, M)
    | .ref v :: st => some (loc, .ref v :: .ref v :: st, M)
    | _ => none)
  | .pop => (match stk with
    | .int _ :: st => some (loc, st, M)
    | .ref _ :: st => some (loc, st, M)
    | _ => none)
  | .dup2 => (match stk with
    | .int v :: .ref w :: st => some (loc, .int v :: .ref w :: .int v :: .ref w :: st, M)
    | _ => none)
  | .iaload => (match stk with
    | .int j :: .ref a :: st => if am_in (M.2.2.1 a) 0 j ∨ am_in (M.2.2.1 a) 5 j then some (loc, .int (M.2.2.2.1 a j.toNatClampNeg) :: st, M) else none
    | _ => none)
  | .laload => (match stk with
    | .int j :: .ref a :: st => if am_in (M.2.2.1 a) 1 j then some (loc, .long (M.2.2.2.2.1 a j.toNatClampNeg) :: st, M) else none
    | _ => none)
  | .baload => (match stk with
    | .int j :: .ref a :: st => if am_in (M.2.2.1 a) 2 j then some (loc, .int (M.2.2.2.1 a j.toNatClampNeg) :: st, M) else none
    | _ => none)
  | .aaload => (match stk with
    | .int j :: .ref a :: st => if am_in (M.2.2.1 a) 3 j ∨ am_in (M.2.2.1 a) 4 j then (match M.2.2.2.2.2 a j.toNatClampNeg with
        | some q => some (loc, .ref q :: st, M)
        | none => none) else none
    | _ => none)
  | .iastore => (match stk with
    | .int v :: .int j :: .ref a :: st => if am_in (M.2.2.1 a) 0 j then some (loc, st, (M.1, M.2.1, M.2.2.1, am_up M.2.2.2.1 a j.toNatClampNeg v, M.2.2.2.2.1, M.2.2.2.2.2)) else none
    | _ => none)
  | .lastore => (match stk with
    | .long v :: .int j :: .ref a :: st => if am_in (M.2.2.1 a) 1 j then some (loc, st, (M.1, M.2.1, M.2.2.1, M.2.2.2.1, am_up M.2.2.2.2.1 a j.toNatClampNeg v, M.2.2.2.2.2)) else none
    | _ => none)
  | .bastore => (match stk with
    | .int v :: .int j :: .ref a :: st => if am_in (M.2.2.1 a) 2 j ∧ (v = 0 ∨ v = 1) then some (loc, st, (M.1, M.2.1, M.2.2.1, am_up M.2.2.2.1 a j.toNatClampNeg v, M.2.2.2.2.1, M.2.2.2.2.2)) else none
    | _ => none)
  | .aastore => (match stk with
    | .ref q :: .int j :: .ref a :: st => if (am_in (M.2.2.1 a) 3 j ∧ M.2.2.1 q = (18, 0)) ∨ (am_in (M.2.2.1 a) 4 j ∧ M.2.2.1 q = (17, 0)) then some (loc, st, (M.1, M.2.1, M.2.2.1, M.2.2.2.1, M.2.2.2.2.1, am_up M.2.2.2.2.2 a j.toNatClampNeg (some q))) else none
    | _ => none)
  | .arraylength => (match stk with
    | .ref a :: st => if (M.2.2.1 a).1 < 6 then some (loc, .int (Int32.ofNat (M.2.2.1 a).2) :: st, M) else none
    | _ => none)
  | .getfield _ => (match stk with
    | .ref a :: st => if M.2.2.1 a = (x, 0) then
        (if z = 0 then some (loc, .int (M.2.2.2.1 a y) :: st, M) else if z = 1 then some (loc, .long (M.2.2.2.2.1 a y) :: st, M) else (match M.2.2.2.2.2 a y with
          | some q => some (loc, .ref q :: st, M)
          | none => none)) else none
    | _ => none)
  | .putfield _ => (match stk with
    | .int v :: .ref a :: st => if M.2.2.1 a = (x, 0) ∧ (z = 0 ∨ (z = 2 ∧ (v = 0 ∨ v = 1))) then some (loc, st, (M.1, M.2.1, M.2.2.1, am_up M.2.2.2.1 a y v, M.2.2.2.2.1, M.2.2.2.2.2)) else none
    | .long v :: .ref a :: st => if M.2.2.1 a = (x, 0) ∧ z = 1 then some (loc, st, (M.1, M.2.1, M.2.2.1, M.2.2.2.1, am_up M.2.2.2.2.1 a y v, M.2.2.2.2.2)) else none
    | .ref q :: .ref a :: st => if M.2.2.1 a = (x, 0) ∧ z = 3 then some (loc, st, (M.1, M.2.1, M.2.2.1, M.2.2.2.1, M.2.2.2.2.1, am_up M.2.2.2.2.2 a y (some q))) else none
    | _ => none)
  | .new _ => if M.1 < 900000 then some (loc, .ref M.1 :: stk, (M.1 + 1, M.2.1 + y, am_sh M.2.2.1 M.1 (x, 0), am_row M.2.2.2.1 M.1 (fun _ => 0), am_row M.2.2.2.2.1 M.1 (fun _ => 0), am_row M.2.2.2.2.2 M.1 (fun _ => none))) else none
  | .newarray _ => (match stk with
    | .int n :: st => if ¬ n < 0 ∧ n.toNatClampNeg ≤ 100000 ∧ M.1 < 900000 then some (loc, .ref M.1 :: st, (M.1 + 1, M.2.1 + n.toNatClampNeg, am_sh M.2.2.1 M.1 (x, n.toNatClampNeg), am_row M.2.2.2.1 M.1 (fun _ => 0), am_row M.2.2.2.2.1 M.1 (fun _ => 0), am_row M.2.2.2.2.2 M.1 (fun _ => none))) else none
    | _ => none)
  | .anewarray _ => (match stk with
    | .int n :: st => if ¬ n < 0 ∧ n.toNatClampNeg ≤ 100000 ∧ M.1 < 900000 then some (loc, .ref M.1 :: st, (M.1 + 1, M.2.1 + n.toNatClampNeg, am_sh M.2.2.1 M.1 (x, n.toNatClampNeg), am_row M.2.2.2.1 M.1 (fun _ => 0), am_row M.2.2.2.2.1 M.1 (fun _ => 0), am_row M.2.2.2.2.2 M.1 (fun _ => none))) else none
    | _ => none)
  | .invokestatic _ => if x = 900 then (match stk with
      | .int b :: .int a :: st => if am_cs st ≤ 8 then some (loc, .int (if b < a then b else a) :: st, M) else none
      | _ => none)
    else if x = 901 then (match stk with
      | .int b :: .int a :: st => if am_cs st ≤ 8 then some (loc, .int (if a < b then b else a) :: st, M) else none
      | _ => none)
    else if x = 902 then (match stk with
      | .int n :: .int dp :: .ref a :: .int sp :: .ref a0 :: st => if ((M.2.2.1 a).1 = 0 ∧ (M.2.2.1 a0).1 = 0 ∧ ¬ sp < 0 ∧ ¬ dp < 0 ∧ ¬ n < 0 ∧ sp.toNatClampNeg + n.toNatClampNeg ≤ (M.2.2.1 a0).2 ∧ dp.toNatClampNeg + n.toNatClampNeg ≤ (M.2.2.1 a).2) ∧ am_cs st ≤ 8 then
          some (loc, st, (M.1, M.2.1, M.2.2.1, am_row M.2.2.2.1 a (va_cpy (M.2.2.2.1 a0) (M.2.2.2.1 a) sp.toNatClampNeg dp.toNatClampNeg n.toNatClampNeg), M.2.2.2.2.1, M.2.2.2.2.2)) else none
      | _ => none) else none
  | .invokevirtual _ => if x = 910 then (match stk with
      | .ref a :: st => if (M.2.2.1 a).1 = 7 ∧ am_cs st ≤ 8 then some (loc, .int (Int32.ofNat (M.2.2.1 a).2) :: st, M) else none
      | _ => none)
    else if x = 911 then (match stk with
      | .int j :: .ref a :: st => if am_in (M.2.2.1 a) 7 j ∧ am_cs st ≤ 8 then some (loc, .int (M.2.2.2.1 a j.toNatClampNeg) :: st, M) else none
      | _ => none)
    else if x = 912 then (match stk with
      | .int ch :: .ref a :: st => if (M.2.2.1 a).1 = 7 ∧ am_cs st ≤ 8 then some (loc, .int (am_ix (M.2.2.2.1 a) ch (M.2.2.1 a).2 0) :: st, M) else none
      | _ => none) else none
  | .invokespecial _ => if x = 950 then (match stk with
      | .ref _ :: st => if am_cs st ≤ 8 then some (loc, st, M) else none
      | _ => none) else none
  | _ => none
def am_if0 (c : Jvm.ClassFile.Cond) (v : Int32) : Bool := match c with
  | .eq => decide (v = 0)
  | .ne => decide (¬ v = 0)
  | .lt => decide (v < 0)
  | .ge => decide (0 ≤ v)
  | .gt => decide (0 < v)
  | .le => decide (v ≤ 0)
def am_if2 (c : Jvm.ClassFile.Cond) (v w : Int32) : Bool := match c with
  | .eq => decide (v = w)
  | .ne => decide (¬ v = w)
  | .lt => decide (v < w)
  | .ge => decide (w ≤ v)
  | .gt => decide (w < v)
  | .le => decide (v ≤ w)
def am_swt : List (Int × Nat) → Nat → Int → Nat
  | [], t, _ => t
  | (c, g) :: r, t, z => if z = c then g else am_swt r t z
def am_rk (y : Nat) (v : Int32) : Bool := if y = 0 then true else if y = 1 then (decide (v = 0) || decide (v = 1)) else false
def am_cl (stk : List Value) (n : Nat) : Option (List Value × List Value) := if n ≤ stk.length ∧ am_cs (stk.drop n) ≤ 8 then some ((stk.take n).reverse, stk.drop n) else none
def am_act (m : Nat) (o : am_op) (rest : List am_op) (loc : am_L) (stk : List Value) (M : am_M) : Option am_Act :=
  match o.1 with
  | .nop => some (.inl (am_B m o.2.1, loc, stk, M))
  | .goto _ => some (.inl (am_B m o.2.1, loc, stk, M))
  | .ifCond c _ => (match stk with
    | .int v :: st => some (.inl (if am_if0 c v then am_B m o.2.1 else rest, loc, st, M))
    | _ => none)
  | .if_icmp c _ => (match stk with
    | .int w :: .int v :: st => some (.inl (if am_if2 c v w then am_B m o.2.1 else rest, loc, st, M))
    | _ => none)
  | .tableswitch _ _ _ _ => (match stk with
    | .int v :: st => some (.inl (am_B m (am_swt (am_sw m o.2.2.1) o.2.1 v.toInt), loc, st, M))
    | _ => none)
  | .lookupswitch _ _ => (match stk with
    | .int v :: st => some (.inl (am_B m (am_swt (am_sw m o.2.2.1) o.2.1 v.toInt), loc, st, M))
    | _ => none)
  | .ireturn => (match stk with
    | [.int v] => if am_rk o.2.2.1 v then some (.inr (.inl (some (.int v), M))) else none
    | _ => none)
  | .lreturn => (match stk with
    | [.long v] => some (.inr (.inl (some (.long v), M)))
    | _ => none)
  | .areturn => (match stk with
    | [.ref v] => some (.inr (.inl (some (.ref v), M)))
    | _ => none)
  | .return_ => (match stk with
    | [] => some (.inr (.inl (none, M)))
    | _ => none)
  | .invokestatic _ => if o.2.1 < 900 then (am_cl stk o.2.2.1).bind (fun q => if am_cs q.1 ≤ am_mx o.2.1 then some (.inr (.inr (o.2.1, q.1, q.2))) else none)
    else (am_ex o.1 o.2.1 o.2.2.1 o.2.2.2 loc stk M).bind (fun q => some (.inl (rest, q.1, q.2.1, q.2.2)))
  | .invokevirtual _ => if o.2.1 < 900 then (am_cl stk o.2.2.1).bind (fun q => match q.1 with
      | .ref a :: _ => if M.2.2.1 a = (o.2.2.2.toNat, 0) ∧ am_cs q.1 ≤ am_mx o.2.1 then some (.inr (.inr (o.2.1, q.1, q.2))) else none
      | _ => none)
    else (am_ex o.1 o.2.1 o.2.2.1 o.2.2.2 loc stk M).bind (fun q => some (.inl (rest, q.1, q.2.1, q.2.2)))
  | .invokespecial _ => if o.2.1 < 900 then (am_cl stk o.2.2.1).bind (fun q => match q.1 with
      | .ref a :: _ => if M.2.2.1 a = (o.2.2.2.toNat, 0) ∧ am_cs q.1 ≤ am_mx o.2.1 then some (.inr (.inr (o.2.1, q.1, q.2))) else none
      | _ => none)
    else (am_ex o.1 o.2.1 o.2.2.1 o.2.2.2 loc stk M).bind (fun q => some (.inl (rest, q.1, q.2.1, q.2.2)))
  | _ => (am_ex o.1 o.2.1 o.2.2.1 o.2.2.2 loc stk M).bind (fun q => some (.inl (rest, q.1, q.2.1, q.2.2)))
def am_slots : List Value → am_L
  | [] => []
  | v :: vs => if v.category = 2 then some v :: none :: am_slots vs else some v :: am_slots vs
def am_init (n : Nat) (vs : List Value) : am_L := am_slots vs ++ List.replicate (n - (am_slots vs).length) none
abbrev am_X : Type := Nat → Nat → List am_op → am_L → List Value → am_M → am_R
def am_F (X : am_X) (d m : Nat) (ops : List am_op) (loc : am_L) (stk : List Value) (M : am_M) : am_R :=
  match ops with
  | [] => none
  | o :: rest => (match am_act m o rest loc stk M with
    | none => none
    | some (.inl q) => X d m q.1 q.2.1 q.2.2.1 q.2.2.2
    | some (.inr (.inl q)) => some q
    | some (.inr (.inr q)) => (match d with
      | 0 => none
      | d' + 1 => (X d' q.1 (am_B q.1 0) (am_init (am_mx q.1) q.2.1) [] M).bind (fun w => X (d' + 1) m rest loc (w.1.toList ++ q.2.2) w.2)))
def am_rf : Nat → am_X
  | 0 => fun _ _ _ _ _ _ => none
  | n + 1 => am_F (am_rf n)
theorem am_F_mono {X Y : am_X} (h : ∀ d m ops loc stk M r, X d m ops loc stk M = some r → Y d m ops loc stk M = some r) :
    ∀ d m ops loc stk M r, am_F X d m ops loc stk M = some r → am_F Y d m ops loc stk M = some r := by
  intro d m ops loc stk M r hr
  unfold am_F at hr ⊢
  cases ops with
  | nil => exact hr
  | cons o rest =>
    dsimp only at hr ⊢
    cases ha : am_act m o rest loc stk M with
    | none => rw [ha] at hr; exact hr
    | some q =>
      rw [ha] at hr
      rcases q with q | q | q
      · exact h _ _ _ _ _ _ _ hr
      · exact hr
      · cases d with
        | zero => exact hr
        | succ d' =>
          dsimp only at hr ⊢
          obtain ⟨w, h1, h2⟩ := Option.bind_eq_some_iff.mp hr
          exact Option.bind_eq_some_iff.mpr ⟨w, h _ _ _ _ _ _ _ h1, h _ _ _ _ _ _ _ h2⟩
theorem am_rf_succ : ∀ (n d m : Nat) (ops : List am_op) (loc : am_L) (stk : List Value) (M : am_M) (r : Option Value × am_M), am_rf n d m ops loc stk M = some r → am_rf (n + 1) d m ops loc stk M = some r
  | 0 => fun _ _ _ _ _ _ _ h => by cases h
  | n + 1 => fun d m ops loc stk M r h => am_F_mono (am_rf_succ n) d m ops loc stk M r h
theorem am_rf_le {n k : Nat} (hk : n ≤ k) {d m : Nat} {ops : List am_op} {loc : am_L} {stk : List Value} {M : am_M} {r : Option Value × am_M} (h : am_rf n d m ops loc stk M = some r) : am_rf k d m ops loc stk M = some r := by
  induction hk with
  | refl => exact h
  | step _ ih => exact am_rf_succ _ _ _ _ _ _ _ _ ih
/-- the limit -/
noncomputable def am_run (d m : Nat) (ops : List am_op) (loc : am_L) (stk : List Value) (M : am_M) : am_R :=
  Classical.epsilon (fun r : am_R => ∀ x, r = some x ↔ ∃ n, am_rf n d m ops loc stk M = some x)
theorem am_run_iff {d m : Nat} {ops : List am_op} {loc : am_L} {stk : List Value} {M : am_M} (x : Option Value × am_M) : am_run d m ops loc stk M = some x ↔ ∃ n, am_rf n d m ops loc stk M = some x := by
  have key : ∃ r : am_R, ∀ x, r = some x ↔ ∃ n, am_rf n d m ops loc stk M = some x := by
    by_cases h : ∃ x n, am_rf n d m ops loc stk M = some x
    · obtain ⟨x, n, hx⟩ := h
      refine ⟨some x, fun y => ⟨fun e => ⟨n, by rw [hx, e]⟩, fun ⟨k, hy⟩ => ?_⟩⟩
      have h1 := am_rf_le (Nat.le_max_left n k) hx
      have h2 := am_rf_le (Nat.le_max_right n k) hy
      rw [h1] at h2
      exact h2
    · exact ⟨none, fun y => ⟨fun e => (by cases e), fun ⟨n, hn⟩ => absurd ⟨y, n, hn⟩ h⟩⟩
  exact Classical.epsilon_spec key x
theorem am_run_eq (d m : Nat) (ops : List am_op) (loc : am_L) (stk : List Value) (M : am_M) : am_run d m ops loc stk M = am_F am_run d m ops loc stk M := by
  apply Option.ext
  intro x
  rw [am_run_iff]
  constructor
  · rintro ⟨n, hn⟩
    cases n with
    | zero => cases hn
    | succ n => exact am_F_mono (fun d m ops loc stk M r h => (am_run_iff r).mpr ⟨n, h⟩) _ _ _ _ _ _ _ hn
  · intro h
    unfold am_F at h
    cases ops with
    | nil => cases h
    | cons o rest =>
      dsimp only at h
      cases ha : am_act m o rest loc stk M with
      | none => rw [ha] at h; cases h
      | some q =>
        rw [ha] at h
        rcases q with q | q | q
        · obtain ⟨n, hn⟩ := (am_run_iff _).mp h
          refine ⟨n + 1, ?_⟩
          show am_F (am_rf n) _ _ _ _ _ _ = _
          unfold am_F
          dsimp only
          rw [ha]
          exact hn
        · refine ⟨1, ?_⟩
          show am_F (am_rf 0) _ _ _ _ _ _ = _
          unfold am_F
          dsimp only
          rw [ha]
          exact h
        · cases d with
          | zero => cases h
          | succ d' =>
            dsimp only at h
            obtain ⟨w, h1, h2⟩ := Option.bind_eq_some_iff.mp h
            obtain ⟨n1, k1⟩ := (am_run_iff _).mp h1
            obtain ⟨n2, k2⟩ := (am_run_iff _).mp h2
            refine ⟨max n1 n2 + 1, ?_⟩
            show am_F (am_rf (max n1 n2)) _ _ _ _ _ _ = _
            unfold am_F
            dsimp only
            rw [ha]
            dsimp only
            exact Option.bind_eq_some_iff.mpr ⟨w, am_rf_le (Nat.le_max_left _ _) k1, am_rf_le (Nat.le_max_right _ _) k2⟩
noncomputable def am_call (d m : Nat) (vs : List Value) (M : am_M) : am_R := am_run d m (am_B m 0) (am_init (am_mx m) vs) [] M
