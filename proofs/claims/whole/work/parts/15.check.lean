def am_ln (i : Instr) : Nat := match i with
  | .bipush _ => 2
  | .sipush _ => 3
  | .ldc _ => 2
  | .ldc_w _ => 3
  | .ldc2_w _ => 3
  | .iload _ => 2
  | .lload _ => 2
  | .aload _ => 2
  | .istore _ => 2
  | .lstore _ => 2
  | .astore _ => 2
  | .iinc _ _ => 3
  | .getfield _ => 3
  | .putfield _ => 3
  | .getstatic _ => 3
  | .new _ => 3
  | .newarray _ => 2
  | .anewarray _ => 3
  | .invokestatic _ => 3
  | .invokevirtual _ => 3
  | .invokespecial _ => 3
  | .goto _ => 3
  | .ifCond _ _ => 3
  | .if_icmp _ _ => 3
  | _ => 1
def am_ip (i : Nat) : Nat × Nat := ([(286, 9), (333, 12), (81, 4), (292, 10), (316, 11), (109, 5), (210, 7), (216, 8), (37, 3), (179, 6), (31, 2), (23, 1), (1183, 13)] : List (Nat × Nat)).getD i (0, 0)
theorem am_ip_ok : ((List.range 13).all fun i => am_has (am_ip i).1 (.instantiable (am_CN i) (am_NN i)) && (am_has (am_ip i).2 (.initialized (am_CN i)) && ((List.range (am_NN i)).all fun k => am_tz (am_ty i k) 0 || (am_tz (am_ty i k) 1 || am_tz (am_ty i k) 3)))) = true := by decide +kernel
theorem am_aw_int : Cond.arrayClass .int ∈ am_T := am_has_in (i := 78) (by decide +kernel)
theorem am_aw_long : Cond.arrayClass .long ∈ am_T := am_has_in (i := 1297) (by decide +kernel)
theorem am_aw_boolean : Cond.arrayClass .boolean ∈ am_T := am_has_in (i := 1298) (by decide +kernel)
theorem am_wmin : Cond.static Lib.Math.min.name ∈ am_T ∧ Cond.initialized "java/lang/Math" ∈ am_T ∧ Cond.code Lib.Math.min.name Lib.Math.min.code 2 (some .int) ∈ am_T := ⟨am_has_in (i := 495) (by decide +kernel), am_has_in (i := 18) (by decide +kernel), am_has_in (i := 496) (by decide +kernel)⟩
theorem am_wmax : Cond.static Lib.Math.max.name ∈ am_T ∧ Cond.initialized "java/lang/Math" ∈ am_T ∧ Cond.code Lib.Math.max.name Lib.Math.max.code 2 (some .int) ∈ am_T := ⟨am_has_in (i := 518) (by decide +kernel), am_has_in (i := 18) (by decide +kernel), am_has_in (i := 519) (by decide +kernel)⟩
theorem am_wobj : Cond.instanceMethod Lib.objectInit ∈ am_T ∧ Cond.code Lib.objectInit ⟨#[0xb1]⟩ 1 none ∈ am_T := ⟨am_has_in (i := 28) (by decide +kernel), am_has_in (i := 29) (by decide +kernel)⟩
theorem am_wcopy : Cond.native arraycopyName ∈ am_T ∧ Cond.static arraycopyName ∈ am_T ∧ Cond.initialized "java/lang/System" ∈ am_T := ⟨am_has_in (i := 694) (by decide +kernel), am_has_in (i := 693) (by decide +kernel), am_has_in (i := 20) (by decide +kernel)⟩
/-- is this a step that reads what was there before the law began -/
def am_stat (o : am_op) : Bool := match o.1 with
  | .getstatic _ => true
  | .ldc _ => decide (o.2.1 ≠ 0)
  | .invokevirtual _ => decide (900 ≤ o.2.1)
  | _ => false
def am_ckx (own : Nat) (ini : Bool) (o : am_op) : Bool := match o.1 with
  | .iconst n => decide (o.2.2.2 = n)
  | .bipush n => decide (o.2.2.2 = n) && decide ((Int8.ofInt n).toInt32 = Int32.ofInt n)
  | .sipush n => decide (o.2.2.2 = n) && decide ((Int16.ofInt n).toInt32 = Int32.ofInt n)
  | .lconst n => decide (Int64.ofNat n.val = Int64.ofInt o.2.2.2)
  | .ldc k => decide (o.2.1 ≠ 0) || (am_kl own).any fun e => e.1 == k && e.2.1 == o.2.2.2
  | .ldc_w k => (am_kl own).any fun e => e.1 == k && e.2.1 == o.2.2.2
  | .ldc2_w k => (am_jl own).any fun e => e.1 == k && e.2.1 == o.2.2.2
  | .getfield k => decide (10 ≤ o.2.1) && (am_tz (am_ty (o.2.1 - 10) o.2.2.1) o.2.2.2 && (am_fl own).any fun e => e.1 == k && (e.2.1 + 10 == o.2.1 && e.2.2.1 == o.2.2.1))
  | .putfield k => decide (10 ≤ o.2.1) && (am_tp (am_ty (o.2.1 - 10) o.2.2.1) o.2.2.2 && ((!(am_TT (o.2.1 - 10) o.2.2.1).2.2.2 || (ini && own + 10 == o.2.1)) && (am_fl own).any fun e => e.1 == k && (e.2.1 + 10 == o.2.1 && e.2.2.1 == o.2.2.1)))
  | .new k => decide (10 ≤ o.2.1) && (decide (o.2.2.1 = am_NN (o.2.1 - 10)) && (am_cl0 own).any fun e => e.1 == k && e.2.1 + 10 == o.2.1)
  | .newarray t => decide (o.2.1 = am_nt t) && decide (o.2.1 < 3)
  | .anewarray k => (am_al own).any fun e => e.1 == k && e.2.1 == o.2.1
  | .invokestatic k => (am_pl own).any fun e => e.1 == k && e.2.1 == o.2.1
  | .invokespecial k => (am_pl own).any fun e => e.1 == k && e.2.1 == o.2.1
  | .invokevirtual k => (am_pl own).any fun e => e.1 == k && e.2.1 == o.2.1
  | _ => true
def am_tck (pc : Nat) : Int → List Int → List (Int × Nat) → Bool
  | _, [], [] => true
  | lo, x :: os, (c, t) :: r => decide (c = lo) && (decide ((pc : Int) + x = (t : Int)) && am_tck pc (lo + 1) os r)
  | _, _, _ => false
def am_lck (pc : Nat) : List (Int × Int) → List (Int × Nat) → Bool
  | [], [] => true
  | (a, x) :: os, (c, t) :: r => decide (c = a) && (decide ((pc : Int) + x = (t : Int)) && am_lck pc os r)
  | _, _ => false
def am_dec (cc : ByteArray) (pc : Nat) (i : Instr) : Bool := match decode cc pc with
  | .ok (j, _) => decide (j = i)
  | _ => false
def am_lnk (own k x : Nat) : Bool := ((am_ml own).any fun e => e.1 == k && e.2.1 == x) || ((am_nl own).any fun e => e.1 == k && e.2.1 == x)
def am_ini (m : Nat) : Bool := decide ((am_my m).name = "<init>")
def am_ck1 (m pc : Nat) (o : am_op) : Bool := match o.1 with
  | .nop => decide (pc = o.2.1)
  | .goto off => decide (decode (am_mc m) pc = .ok (o.1, 3)) && decide ((pc : Int) + off = (o.2.1 : Int))
  | .ifCond _ off => decide (decode (am_mc m) pc = .ok (o.1, 3)) && decide ((pc : Int) + off = (o.2.1 : Int))
  | .if_icmp _ off => decide (decode (am_mc m) pc = .ok (o.1, 3)) && decide ((pc : Int) + off = (o.2.1 : Int))
  | .tableswitch d lo hi offs => am_dec (am_mc m) pc o.1 && (decide ((pc : Int) + d = (o.2.1 : Int)) && (decide (o.2.2.1 = pc) && (decide (hi + 1 = lo + (offs.toList.length : Int)) && am_tck pc lo offs.toList (am_sw m pc))))
  | .lookupswitch d ps => am_dec (am_mc m) pc o.1 && (decide ((pc : Int) + d = (o.2.1 : Int)) && (decide (o.2.2.1 = pc) && ((ps.toList.zip (ps.toList.drop 1)).all (fun (a, next) => a.1 < next.1) && am_lck pc ps.toList (am_sw m pc))))
  | .ireturn => decide (decode (am_mc m) pc = .ok (o.1, 1)) && decide ((o.2.2.1 = 0 ∧ am_mr m = some .int) ∨ (o.2.2.1 = 1 ∧ am_mr m = some .boolean))
  | .lreturn => decide (decode (am_mc m) pc = .ok (o.1, 1)) && decide (am_mr m = some .long)
  | .areturn => decide (decode (am_mc m) pc = .ok (o.1, 1)) && (match am_mr m with | some (.object _) => true | _ => false)
  | .return_ => decide (decode (am_mc m) pc = .ok (o.1, 1)) && decide (am_mr m = none)
  | .invokestatic k => decide (decode (am_mc m) pc = .ok (o.1, 3)) && (if o.2.1 < 900 then decide (0 < o.2.1 ∧ o.2.1 < 328) && (decide ((am_mp o.2.1).2.2.2.1 = 0) && (decide (o.2.2.1 = am_np o.2.1) && am_lnk (am_mo m) k o.2.1)) else am_ckx (am_mo m) (am_ini m) o)
  | .invokevirtual k => decide (decode (am_mc m) pc = .ok (o.1, 3)) && (if o.2.1 < 900 then decide (0 < o.2.1 ∧ o.2.1 < 328) && (decide ((am_mp o.2.1).2.2.2.1 ≠ 0 ∧ (am_mp o.2.1).2.2.2.1 ≠ 1) && (decide (o.2.2.1 = am_np o.2.1 + 1) && (decide (o.2.2.2.toNat = 10 + am_mo o.2.1 ∧ am_mo o.2.1 < 13) && am_lnk (am_mo m) k o.2.1))) else am_ckx (am_mo m) (am_ini m) o)
  | .invokespecial k => decide (decode (am_mc m) pc = .ok (o.1, 3)) && (if o.2.1 < 900 then decide (0 < o.2.1 ∧ o.2.1 < 328) && (decide ((am_mp o.2.1).2.2.2.1 = 1) && (decide (o.2.2.1 = am_np o.2.1 + 1) && am_lnk (am_mo m) k o.2.1)) else am_ckx (am_mo m) (am_ini m) o)
  | _ => decide (decode (am_mc m) pc = .ok (o.1, am_ln o.1)) && am_ckx (am_mo m) (am_ini m) o
def am_term (i : Instr) : Bool := match i with
  | .nop => true
  | .goto _ => true
  | .tableswitch _ _ _ _ => true
  | .lookupswitch _ _ => true
  | .ireturn => true
  | .lreturn => true
  | .areturn => true
  | .return_ => true
  | .athrow => true
  | _ => false
def am_chk (m : Nat) : Nat → List am_op → Bool
  | _, [] => true
  | pc, x :: rest => (am_term x.1 && (match x.1 with | .athrow => true | _ => am_ck1 m pc x)) || (!am_term x.1 && (am_ck1 m pc x && am_chk m (pc + am_ln x.1) rest))
theorem am_any {α : Type} {l : List α} {p : α → Bool} (h : l.any p = true) : ∃ x ∈ l, p x = true := List.any_eq_true.mp h
theorem am_all2 {f : Nat → List (Nat × Nat × Nat × Nat)} {p : Nat → Nat × Nat × Nat × Nat → Bool} (h : ((List.range 23).all fun i => (f i).all fun e => p i e) = true) {i : Nat} (hi : i < 23) {e : Nat × Nat × Nat × Nat} (he : e ∈ f i) : p i e = true := List.all_eq_true.mp (List.all_eq_true.mp h i (List.mem_range.mpr hi)) e he
theorem am_all3 {α : Type} {f : Nat → List α} {p : Nat → α → Bool} (h : ((List.range 23).all fun i => (f i).all fun e => p i e) = true) {i : Nat} (hi : i < 23) {e : α} (he : e ∈ f i) : p i e = true := List.all_eq_true.mp (List.all_eq_true.mp h i (List.mem_range.mpr hi)) e he
theorem am_ex_mono {i : Instr} {x y : Nat} {z : Int} {loc : am_L} {stk : List Value} {M : am_M} {q : am_L × List Value × am_M} (h : am_ex i x y z loc stk M = some q) : M.1 ≤ q.2.2.1 ∧ M.2.1 ≤ q.2.2.2.1 := by
  unfold am_ex am_ldi am_ldl am_lda am_sti am_sta am_stl am_bi am_bl at h
  repeat' split at h
  all_goals first
    | (cases h; done)
    | (cases h; exact ⟨Nat.le_refl _, Nat.le_refl _⟩)
    | (cases h; exact ⟨Nat.le_succ _, Nat.le_add_right _ _⟩)
