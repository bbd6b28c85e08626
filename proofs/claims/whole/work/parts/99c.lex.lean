/-- the token that begins at q -/
def tkQ (p : Bts) (q : Int) : Bool := (decide (q + 1 < p.1) && decide (p.2 (q + 1) = 61)) && (decide (p.2 q = 60) || decide (p.2 q = 62))
def tkK (p : Bts) (q : Int) : Int := if p.1 ≤ q then 39 else if isL (p.2 q) = true then wdK p q (sc isL p q) 25 0 else if isD (p.2 q) = true then 38 else if tkQ p q = true then (if p.2 q = 60 then 36 else 37) else sgK (p.2 q)
def tkE (p : Bts) (q : Int) : Int := if p.1 ≤ q then q else if isL (p.2 q) = true then sc isL p q else if isD (p.2 q) = true then sc isD p q else if tkQ p q = true then q + 2 else q + 1
def tkN (p : Bts) (q : Int) : Int × Int := dgP p q (sc isD p q - q).toNat
def tps (p : Bts) : Nat → Int
  | 0 => 0
  | i + 1 => tkE p (sc isB p (tps p i))
def tst (p : Bts) (i : Nat) : Int := sc isB p (tps p i)
def tK (p : Bts) (i : Nat) : Int := tkK p (tst p i)
def tN (p : Bts) (i : Nat) : Int × Int := tkN p (tst p i)
section TS
variable {p : Bts}
theorem wdK_bd {q e : Int} : ∀ m j : Nat, j + m = 25 → (0 ≤ wdK p q e m j ∧ wdK p q e m j ≤ 24) ∨ wdK p q e m j = 40
  | 0, j, _ => Or.inr rfl
  | m + 1, j, h => by
    rw [wdK]
    split
    · left; omega
    · exact wdK_bd m (j + 1) (by omega)
theorem tkQ_lt {q : Int} (h : tkQ p q = true) : q + 1 < p.1 := by
  unfold tkQ at h
  rw [Bool.and_eq_true, Bool.and_eq_true] at h
  exact of_decide_eq_true h.1.1
theorem tkE_ok (O : TpOk p) {q : Int} (h1 : q ≤ p.1) : q ≤ tkE p q ∧ tkE p q ≤ p.1 ∧ (q < p.1 → q + 1 ≤ tkE p q) := by
  unfold tkE
  split
  · omega
  · rename_i g
    split
    · rename_i c
      have a := sc_ok (P := isL) (p := p) (x := q) h1
      have b := sc_ok (P := isL) (p := p) (x := q + 1) (by omega)
      rw [sc_s (by omega) c]
      omega
    · split
      · rename_i c
        have a := sc_ok (P := isD) (p := p) (x := q) h1
        have b := sc_ok (P := isD) (p := p) (x := q + 1) (by omega)
        rw [sc_s (by omega) c]
        omega
      · split
        · rename_i c
          have := tkQ_lt c
          omega
        · omega
theorem tps_ok (O : TpOk p) : ∀ i : Nat, 0 ≤ tps p i ∧ tps p i ≤ p.1
  | 0 => ⟨Int.le_refl _, O.1.1⟩
  | i + 1 => by
    have ih := tps_ok O i
    have a := sc_ok (P := isB) (p := p) (x := tps p i) ih.2
    have b := tkE_ok O (q := sc isB p (tps p i)) a.2.1
    rw [tps]
    omega
theorem tst_ok (O : TpOk p) (i : Nat) : tps p i ≤ tst p i ∧ tst p i ≤ p.1 ∧ 0 ≤ tst p i ∧ tst p i ≤ tps p (i + 1) ∧ (tst p i < p.1 → tst p i + 1 ≤ tps p (i + 1)) ∧ tps p (i + 1) ≤ p.1 := by
  have h := tps_ok O i
  have h2 := tps_ok O (i + 1)
  have a := sc_ok (P := isB) (p := p) (x := tps p i) h.2
  have b := tkE_ok O (q := sc isB p (tps p i)) a.2.1
  have e1 : tst p i = sc isB p (tps p i) := rfl
  have e2 : tps p (i + 1) = tkE p (sc isB p (tps p i)) := rfl
  omega
theorem sgK_bd {x : Int} : (25 ≤ sgK x ∧ sgK x ≤ 35) ∨ sgK x = 40 := by
  have := sg_bd (x := x)
  unfold sgK
  split <;> omega
theorem tK_39 (O : TpOk p) (i : Nat) : tK p i = 39 ↔ tst p i = p.1 := by
  have h := tst_ok O i
  unfold tK tkK
  constructor
  · intro g
    by_cases c : p.1 ≤ tst p i
    · omega
    · rw [if_neg c] at g
      split at g
      · have := wdK_bd (p := p) (q := tst p i) (e := sc isL p (tst p i)) 25 0 rfl
        omega
      · split at g
        · omega
        · split at g
          · split at g <;> omega
          · have := sgK_bd (x := p.2 (tst p i))
            omega
  · intro g
    rw [if_pos (by omega)]
theorem tK_bd (p : Bts) (i : Nat) : 0 ≤ tK p i ∧ tK p i ≤ 40 := by
  unfold tK tkK
  split
  · omega
  · split
    · have := wdK_bd (p := p) (q := tst p i) (e := sc isL p (tst p i)) 25 0 rfl
      omega
    · split
      · omega
      · split
        · split <;> omega
        · have := sgK_bd (x := p.2 (tst p i))
          omega
/-- no more tokens than bytes -/
theorem tk_le (O : TpOk p) : ∀ i : Nat, tK p i ≠ 39 → (i : Int) ≤ tps p i ∧ (i : Int) + 1 ≤ tps p (i + 1)
  | 0, h => by
    have a := tst_ok O 0
    have b : ¬ tst p 0 = p.1 := fun e => h ((tK_39 O 0).mpr e)
    have c := tps_ok O 0
    omega
  | i + 1, h => by
    have a := tst_ok O i
    have b := tst_ok O (i + 1)
    have c : ¬ tst p (i + 1) = p.1 := fun e => h ((tK_39 O (i + 1)).mpr e)
    have g : tK p i ≠ 39 := fun e => by
      have := (tK_39 O i).mp e
      omega
    have ih := tk_le O i g
    omega
end TS
/-- the token i is come to by tokens that are not the end -/
def Lv (p : Bts) (i : Nat) : Prop := ∀ k, k < i → tK p k ≠ 39
/-- the rows of the tokens, up to the end -/
def Cut (w : Nat → Int → Int) (p : Bts) : Prop := ∀ j : Nat, Lv p j → w 348 (j : Int) = tK p j ∧ w 349 (j : Int) = tst p j ∧ (tK p j = 38 → w 350 (j : Int) = (tN p j).1)
def CTk (w : Nat → Int → Int) (p : Bts) (i : Nat) : Prop := CTp w p ∧ w 352 2 = tK p i ∧ w 352 1 = (i : Int) ∧ Lv p i ∧ Cut w p
section STP
variable {d L T o n : Nat} {w : Nat → Int → Int} {v : Nat → Nat → Int64} {p : Bts} {q : Int}
theorem Lv.le (O : TpOk p) : ∀ {i : Nat}, Lv p i → i ≤ 300
  | 0, _ => by omega
  | i + 1, h => by
    have a := tk_le O i (h i (by omega))
    have b := (tps_ok O (i + 1)).2
    have c := O.1
    omega
theorem Lv.succ {i : Nat} (h : Lv p i) (hn : tK p i ≠ 39) : Lv p (i + 1) := fun k hk => by
  by_cases g : k = i
  · rw [g]; exact hn
  · exact h k (by omega)
set_option maxHeartbeats 1000000 in
theorem c_cutWord (O : TpOk p) (hS : StcR w) (C : CTp w p) (q0 : 0 ≤ q) (q1 : q < p.1) (h5 : w 346 2 = q) : ∃ w2, am_call (d + 1) 276 [.ref 346] (L, T, S0 n, am_w w, v, R0 o) = some (some (.int (iI (wdK p q (sc isL p q) 25 0))), (L, T, S0 n, am_w w2, v, R0 o)) ∧ w2 346 2 = sc isL p q ∧ (∀ b, b ≠ 346 → w2 b = w b) ∧ (∀ k, k ≠ 2 → w2 346 k = w 346 k) := by
  have o1 := O.1
  have key : ∀ (k : Nat) (x : Int) (w1 : Nat → Int → Int), (p.1 - x).toNat = k → 0 ≤ x → x ≤ p.1 → (∀ b, b ≠ 346 → w1 b = w b) → (∀ k, k ≠ 2 → w1 346 k = w 346 k) → w1 346 2 = x → ∃ w2, am_run (d + 1) 276 (am_B 276 5) [some (.ref 346), some (.int (iI q))] [] (L, T, S0 n, am_w w1, v, R0 o) = am_run (d + 1) 276 (am_B 276 44) [some (.ref 346), some (.int (iI q))] [] (L, T, S0 n, am_w w2, v, R0 o) ∧ w2 346 2 = sc isL p x ∧ (∀ b, b ≠ 346 → w2 b = w b) ∧ (∀ k, k ≠ 2 → w2 346 k = w 346 k) := by
    intro k
    induction k with
    | zero =>
      intro x w1 hk x0 x1 F G e5
      have e1 : w1 346 1 = p.1 := by rw [G 1 (by decide)]; exact C.1
      refine ⟨w1, ?_, by rw [sc_z (by omega)]; exact e5, F, G⟩
      conv => lhs; rw [bk_276_5]
      have g : p.1 ≤ x := by omega
      simp (decide := true) (disch := omega) only [en_276, bk_276_0, bq_276_0, bq_276_5, bq_276_44, rn_iconst, rn_bipush, rn_sipush, rn_ldc_w, rn_ldc, rn_ldcS, rn_lconst, rn_ldc2, rn_gets, rn_iload0, rn_lload0, rn_aload0, rn_istore0, rn_astore0, rn_lstore0, rn_iinc0, rn_iload1, rn_lload1, rn_aload1, rn_istore1, rn_astore1, rn_lstore1, rn_iinc1, rn_iload2, rn_lload2, rn_aload2, rn_istore2, rn_astore2, rn_lstore2, rn_iinc2, rn_iload3, rn_lload3, rn_aload3, rn_istore3, rn_astore3, rn_lstore3, rn_iinc3, rn_iload4, rn_lload4, rn_aload4, rn_istore4, rn_astore4, rn_lstore4, rn_iinc4, rn_iload5, rn_lload5, rn_aload5, rn_istore5, rn_astore5, rn_lstore5, rn_iinc5, rn_iload6, rn_lload6, rn_aload6, rn_istore6, rn_astore6, rn_lstore6, rn_iinc6, rn_iload7, rn_aload7, rn_istore7, rn_astore7, rn_iinc7, rn_iload8, rn_aload8, rn_istore8, rn_astore8, rn_iinc8, rn_iload9, rn_aload9, rn_istore9, rn_astore9, rn_iinc9, rn_iadd, rn_isub, rn_imul, rn_iand, rn_ior, rn_ixor, rn_ishl, rn_ishr, rn_iushr, rn_idiv, rn_irem, rn_ineg, rn_ladd, rn_lsub, rn_lmul, rn_lor, rn_ldiv, rn_lrem, rn_lneg, rn_lshl, rn_lshr, rn_i2l, rn_l2i, rn_i2c, rn_lcmp, rn_dupi, rn_dupa, rn_popi, rn_popa, rn_dup2, rn_aast, rn_alen, rn_geta, rn_aald, rn_puta, rn_new, rn_newa, rn_anew, rn_min, rn_max, rn_slen, rn_chat, rn_indx, rn_objI, rn_nop, rn_goto, rn_ifeq, rn_ifne, rn_iflt, rn_ifge, rn_ifgt, rn_ifle, rn_iceq, rn_icne, rn_iclt, rn_icge, rn_icgt, rn_icle, rn_tsw, rn_lsw, rn_iret, rn_zret, rn_lret, rn_aret, rn_vret, rn_cs0, rn_cs1, rn_cs2, rn_cs3, rn_cs4, rn_cs5, rn_cs6, rn_cs7, rn_cv1, rn_ci1, rn_cv2, rn_ci2, rn_cv3, rn_ci3, rn_cv4, rn_cv5, rn_cv6, rn_cv7, cs_n, cs_i, cs_a, cs_l, rc_i, rc_a, rc_l, rc_n, rw_iald, rw_bald, rw_lald, rw_iast, rw_bast, rw_last, rw_geti, rw_getl, rw_puti, rw_putz, rw_putl, iI_add, iI_sub, iI_mul, iI_neg, iI_lt, iI_le, iI_eq, iI_lt0, iI_le0, iI_0lt, iI_0le, iI_eq0, iI_eq1, iI_div, iI_rem, am_in_ok, am_in_no, iI_toInt, iL_add, iL_sub, iL_mul, iL_neg, iL_div, iL_rem, iI_i2l, iL_l2i, iL_cmp, iL_eq0, iI_or, iI_and, iI_shl, if_true, if_false, true_or, or_true, true_and, and_true, false_or, or_false, not_true_eq_false, not_false_eq_true, Option.bind_some, Option.toList_some, Option.toList_none, List.nil_append, List.cons_append, ite_self, nc_0, nc_1, nc_2, nc_3, nc_4, nc_5, nc_6, nc_7, nc_8, nc_9, nc_10, nc_11, nc_12, nc_13, nc_14, nc_15, nc_16, nc_17, nc_18, nc_19, nc_20, nc_21, nc_22, nc_23, nc_24, nc_25, nc_26, nc_27, nc_28, nc_29, nc_30, nc_31, nc_32, nc_33, nc_34, nc_35, nc_36, nc_40, nc_48, nc_100, nc_256, nc_300, nc_304, sh_346, rf_346_0, rf_346_3, rf_346_4, rf_346_5, sh_347, e1, e5, g, if_pos, if_neg, sh_0, sh_393, rw_copy, am_cp_ok]
    | succ k ih =>
      intro x w1 hk x0 x1 F G e5
      have e1 : w1 346 1 = p.1 := by rw [G 1 (by decide)]; exact C.1
      have g : ¬ p.1 ≤ x := by omega
      have cx : w1 347 x = p.2 x := by rw [F 347 (by decide)]; exact C.2 x x0 (by omega)
      have bx := O.2 x x0 (by omega)
      have il := c_isLetter (d := d) (M := (L, T, S0 n, am_w w1, v, R0 o)) (x := p.2 x) bx.1 bx.2
      by_cases c : isL (p.2 x) = true
      · rw [bI_t c] at il
        obtain ⟨w2, q2, a2, b2, k2⟩ := ih (x + 1) (upI w1 346 2 (x + 1)) (by omega) (by omega) (by omega) (fun b hb => by rw [upI_c hb]; exact F b hb) (fun k hk => by rw [upI_2 hk]; exact G k hk) upI_s
        refine ⟨w2, Eq.trans ?_ q2, by rw [sc_s (by omega) c]; exact a2, b2, k2⟩
        conv => lhs; rw [bk_276_5]
        simp (decide := true) (disch := omega) only [en_276, bk_276_0, bq_276_0, bq_276_5, bq_276_44, rn_iconst, rn_bipush, rn_sipush, rn_ldc_w, rn_ldc, rn_ldcS, rn_lconst, rn_ldc2, rn_gets, rn_iload0, rn_lload0, rn_aload0, rn_istore0, rn_astore0, rn_lstore0, rn_iinc0, rn_iload1, rn_lload1, rn_aload1, rn_istore1, rn_astore1, rn_lstore1, rn_iinc1, rn_iload2, rn_lload2, rn_aload2, rn_istore2, rn_astore2, rn_lstore2, rn_iinc2, rn_iload3, rn_lload3, rn_aload3, rn_istore3, rn_astore3, rn_lstore3, rn_iinc3, rn_iload4, rn_lload4, rn_aload4, rn_istore4, rn_astore4, rn_lstore4, rn_iinc4, rn_iload5, rn_lload5, rn_aload5, rn_istore5, rn_astore5, rn_lstore5, rn_iinc5, rn_iload6, rn_lload6, rn_aload6, rn_istore6, rn_astore6, rn_lstore6, rn_iinc6, rn_iload7, rn_aload7, rn_istore7, rn_astore7, rn_iinc7, rn_iload8, rn_aload8, rn_istore8, rn_astore8, rn_iinc8, rn_iload9, rn_aload9, rn_istore9, rn_astore9, rn_iinc9, rn_iadd, rn_isub, rn_imul, rn_iand, rn_ior, rn_ixor, rn_ishl, rn_ishr, rn_iushr, rn_idiv, rn_irem, rn_ineg, rn_ladd, rn_lsub, rn_lmul, rn_lor, rn_ldiv, rn_lrem, rn_lneg, rn_lshl, rn_lshr, rn_i2l, rn_l2i, rn_i2c, rn_lcmp, rn_dupi, rn_dupa, rn_popi, rn_popa, rn_dup2, rn_aast, rn_alen, rn_geta, rn_aald, rn_puta, rn_new, rn_newa, rn_anew, rn_min, rn_max, rn_slen, rn_chat, rn_indx, rn_objI, rn_nop, rn_goto, rn_ifeq, rn_ifne, rn_iflt, rn_ifge, rn_ifgt, rn_ifle, rn_iceq, rn_icne, rn_iclt, rn_icge, rn_icgt, rn_icle, rn_tsw, rn_lsw, rn_iret, rn_zret, rn_lret, rn_aret, rn_vret, rn_cs0, rn_cs1, rn_cs2, rn_cs3, rn_cs4, rn_cs5, rn_cs6, rn_cs7, rn_cv1, rn_ci1, rn_cv2, rn_ci2, rn_cv3, rn_ci3, rn_cv4, rn_cv5, rn_cv6, rn_cv7, cs_n, cs_i, cs_a, cs_l, rc_i, rc_a, rc_l, rc_n, rw_iald, rw_bald, rw_lald, rw_iast, rw_bast, rw_last, rw_geti, rw_getl, rw_puti, rw_putz, rw_putl, iI_add, iI_sub, iI_mul, iI_neg, iI_lt, iI_le, iI_eq, iI_lt0, iI_le0, iI_0lt, iI_0le, iI_eq0, iI_eq1, iI_div, iI_rem, am_in_ok, am_in_no, iI_toInt, iL_add, iL_sub, iL_mul, iL_neg, iL_div, iL_rem, iI_i2l, iL_l2i, iL_cmp, iL_eq0, iI_or, iI_and, iI_shl, if_true, if_false, true_or, or_true, true_and, and_true, false_or, or_false, not_true_eq_false, not_false_eq_true, Option.bind_some, Option.toList_some, Option.toList_none, List.nil_append, List.cons_append, ite_self, nc_0, nc_1, nc_2, nc_3, nc_4, nc_5, nc_6, nc_7, nc_8, nc_9, nc_10, nc_11, nc_12, nc_13, nc_14, nc_15, nc_16, nc_17, nc_18, nc_19, nc_20, nc_21, nc_22, nc_23, nc_24, nc_25, nc_26, nc_27, nc_28, nc_29, nc_30, nc_31, nc_32, nc_33, nc_34, nc_35, nc_36, nc_40, nc_48, nc_100, nc_256, nc_300, nc_304, sh_346, rf_346_0, rf_346_3, rf_346_4, rf_346_5, sh_347, e1, e5, cx, il, mx_275, g, if_pos, if_neg, sh_0, sh_393, rw_copy, am_cp_ok]
      · have cb : isL (p.2 x) = false := by simpa using c
        rw [bI_f c] at il
        refine ⟨w1, ?_, by rw [sc_e (by omega) cb]; exact e5, F, G⟩
        conv => lhs; rw [bk_276_5]
        simp (decide := true) (disch := omega) only [en_276, bk_276_0, bq_276_0, bq_276_5, bq_276_44, rn_iconst, rn_bipush, rn_sipush, rn_ldc_w, rn_ldc, rn_ldcS, rn_lconst, rn_ldc2, rn_gets, rn_iload0, rn_lload0, rn_aload0, rn_istore0, rn_astore0, rn_lstore0, rn_iinc0, rn_iload1, rn_lload1, rn_aload1, rn_istore1, rn_astore1, rn_lstore1, rn_iinc1, rn_iload2, rn_lload2, rn_aload2, rn_istore2, rn_astore2, rn_lstore2, rn_iinc2, rn_iload3, rn_lload3, rn_aload3, rn_istore3, rn_astore3, rn_lstore3, rn_iinc3, rn_iload4, rn_lload4, rn_aload4, rn_istore4, rn_astore4, rn_lstore4, rn_iinc4, rn_iload5, rn_lload5, rn_aload5, rn_istore5, rn_astore5, rn_lstore5, rn_iinc5, rn_iload6, rn_lload6, rn_aload6, rn_istore6, rn_astore6, rn_lstore6, rn_iinc6, rn_iload7, rn_aload7, rn_istore7, rn_astore7, rn_iinc7, rn_iload8, rn_aload8, rn_istore8, rn_astore8, rn_iinc8, rn_iload9, rn_aload9, rn_istore9, rn_astore9, rn_iinc9, rn_iadd, rn_isub, rn_imul, rn_iand, rn_ior, rn_ixor, rn_ishl, rn_ishr, rn_iushr, rn_idiv, rn_irem, rn_ineg, rn_ladd, rn_lsub, rn_lmul, rn_lor, rn_ldiv, rn_lrem, rn_lneg, rn_lshl, rn_lshr, rn_i2l, rn_l2i, rn_i2c, rn_lcmp, rn_dupi, rn_dupa, rn_popi, rn_popa, rn_dup2, rn_aast, rn_alen, rn_geta, rn_aald, rn_puta, rn_new, rn_newa, rn_anew, rn_min, rn_max, rn_slen, rn_chat, rn_indx, rn_objI, rn_nop, rn_goto, rn_ifeq, rn_ifne, rn_iflt, rn_ifge, rn_ifgt, rn_ifle, rn_iceq, rn_icne, rn_iclt, rn_icge, rn_icgt, rn_icle, rn_tsw, rn_lsw, rn_iret, rn_zret, rn_lret, rn_aret, rn_vret, rn_cs0, rn_cs1, rn_cs2, rn_cs3, rn_cs4, rn_cs5, rn_cs6, rn_cs7, rn_cv1, rn_ci1, rn_cv2, rn_ci2, rn_cv3, rn_ci3, rn_cv4, rn_cv5, rn_cv6, rn_cv7, cs_n, cs_i, cs_a, cs_l, rc_i, rc_a, rc_l, rc_n, rw_iald, rw_bald, rw_lald, rw_iast, rw_bast, rw_last, rw_geti, rw_getl, rw_puti, rw_putz, rw_putl, iI_add, iI_sub, iI_mul, iI_neg, iI_lt, iI_le, iI_eq, iI_lt0, iI_le0, iI_0lt, iI_0le, iI_eq0, iI_eq1, iI_div, iI_rem, am_in_ok, am_in_no, iI_toInt, iL_add, iL_sub, iL_mul, iL_neg, iL_div, iL_rem, iI_i2l, iL_l2i, iL_cmp, iL_eq0, iI_or, iI_and, iI_shl, if_true, if_false, true_or, or_true, true_and, and_true, false_or, or_false, not_true_eq_false, not_false_eq_true, Option.bind_some, Option.toList_some, Option.toList_none, List.nil_append, List.cons_append, ite_self, nc_0, nc_1, nc_2, nc_3, nc_4, nc_5, nc_6, nc_7, nc_8, nc_9, nc_10, nc_11, nc_12, nc_13, nc_14, nc_15, nc_16, nc_17, nc_18, nc_19, nc_20, nc_21, nc_22, nc_23, nc_24, nc_25, nc_26, nc_27, nc_28, nc_29, nc_30, nc_31, nc_32, nc_33, nc_34, nc_35, nc_36, nc_40, nc_48, nc_100, nc_256, nc_300, nc_304, sh_346, rf_346_0, rf_346_3, rf_346_4, rf_346_5, sh_347, e1, e5, cx, il, mx_275, g, if_pos, if_neg, sh_0, sh_393, rw_copy, am_cp_ok]
  obtain ⟨w1, e1, a1, b1, k1⟩ := key (p.1 - q).toNat q w rfl q0 (by omega) (fun _ _ => rfl) (fun _ _ => rfl) h5
  have sq := sc_ok (P := isL) (p := p) (x := q) (by omega)
  have C1 : CTp w1 p := ⟨by rw [k1 1 (by decide)]; exact C.1, by rw [b1 347 (by decide)]; exact C.2⟩
  have S1 : StcR w1 := hS.keep (fun a ha => b1 a (by omega))
  have wk := c_wordKind (d := d) (L := L) (T := T) (o := o) (n := n) (v := v) (w := w1) O S1 C1 q0 sq.1 sq.2.1 a1
  refine ⟨w1, ?_, a1, b1, k1⟩
  refine Eq.trans ?_ (e1.trans ?_)
  · simp (decide := true) (disch := omega) only [en_276, bk_276_0, bk_276_44, bq_276_0, bq_276_5, bq_276_44, rn_iconst, rn_bipush, rn_sipush, rn_ldc_w, rn_ldc, rn_ldcS, rn_lconst, rn_ldc2, rn_gets, rn_iload0, rn_lload0, rn_aload0, rn_istore0, rn_astore0, rn_lstore0, rn_iinc0, rn_iload1, rn_lload1, rn_aload1, rn_istore1, rn_astore1, rn_lstore1, rn_iinc1, rn_iload2, rn_lload2, rn_aload2, rn_istore2, rn_astore2, rn_lstore2, rn_iinc2, rn_iload3, rn_lload3, rn_aload3, rn_istore3, rn_astore3, rn_lstore3, rn_iinc3, rn_iload4, rn_lload4, rn_aload4, rn_istore4, rn_astore4, rn_lstore4, rn_iinc4, rn_iload5, rn_lload5, rn_aload5, rn_istore5, rn_astore5, rn_lstore5, rn_iinc5, rn_iload6, rn_lload6, rn_aload6, rn_istore6, rn_astore6, rn_lstore6, rn_iinc6, rn_iload7, rn_aload7, rn_istore7, rn_astore7, rn_iinc7, rn_iload8, rn_aload8, rn_istore8, rn_astore8, rn_iinc8, rn_iload9, rn_aload9, rn_istore9, rn_astore9, rn_iinc9, rn_iadd, rn_isub, rn_imul, rn_iand, rn_ior, rn_ixor, rn_ishl, rn_ishr, rn_iushr, rn_idiv, rn_irem, rn_ineg, rn_ladd, rn_lsub, rn_lmul, rn_lor, rn_ldiv, rn_lrem, rn_lneg, rn_lshl, rn_lshr, rn_i2l, rn_l2i, rn_i2c, rn_lcmp, rn_dupi, rn_dupa, rn_popi, rn_popa, rn_dup2, rn_aast, rn_alen, rn_geta, rn_aald, rn_puta, rn_new, rn_newa, rn_anew, rn_min, rn_max, rn_slen, rn_chat, rn_indx, rn_objI, rn_nop, rn_goto, rn_ifeq, rn_ifne, rn_iflt, rn_ifge, rn_ifgt, rn_ifle, rn_iceq, rn_icne, rn_iclt, rn_icge, rn_icgt, rn_icle, rn_tsw, rn_lsw, rn_iret, rn_zret, rn_lret, rn_aret, rn_vret, rn_cs0, rn_cs1, rn_cs2, rn_cs3, rn_cs4, rn_cs5, rn_cs6, rn_cs7, rn_cv1, rn_ci1, rn_cv2, rn_ci2, rn_cv3, rn_ci3, rn_cv4, rn_cv5, rn_cv6, rn_cv7, cs_n, cs_i, cs_a, cs_l, rc_i, rc_a, rc_l, rc_n, rw_iald, rw_bald, rw_lald, rw_iast, rw_bast, rw_last, rw_geti, rw_getl, rw_puti, rw_putz, rw_putl, iI_add, iI_sub, iI_mul, iI_neg, iI_lt, iI_le, iI_eq, iI_lt0, iI_le0, iI_0lt, iI_0le, iI_eq0, iI_eq1, iI_div, iI_rem, am_in_ok, am_in_no, iI_toInt, iL_add, iL_sub, iL_mul, iL_neg, iL_div, iL_rem, iI_i2l, iL_l2i, iL_cmp, iL_eq0, iI_or, iI_and, iI_shl, if_true, if_false, true_or, or_true, true_and, and_true, false_or, or_false, not_true_eq_false, not_false_eq_true, Option.bind_some, Option.toList_some, Option.toList_none, List.nil_append, List.cons_append, ite_self, nc_0, nc_1, nc_2, nc_3, nc_4, nc_5, nc_6, nc_7, nc_8, nc_9, nc_10, nc_11, nc_12, nc_13, nc_14, nc_15, nc_16, nc_17, nc_18, nc_19, nc_20, nc_21, nc_22, nc_23, nc_24, nc_25, nc_26, nc_27, nc_28, nc_29, nc_30, nc_31, nc_32, nc_33, nc_34, nc_35, nc_36, nc_40, nc_48, nc_100, nc_256, nc_300, nc_304, sh_346, rf_346_0, rf_346_3, rf_346_4, rf_346_5, h5, if_pos, if_neg, sh_0, sh_393, rw_copy, am_cp_ok]
  · simp (decide := true) (disch := omega) only [en_276, bk_276_0, bk_276_44, bq_276_0, bq_276_5, bq_276_44, rn_iconst, rn_bipush, rn_sipush, rn_ldc_w, rn_ldc, rn_ldcS, rn_lconst, rn_ldc2, rn_gets, rn_iload0, rn_lload0, rn_aload0, rn_istore0, rn_astore0, rn_lstore0, rn_iinc0, rn_iload1, rn_lload1, rn_aload1, rn_istore1, rn_astore1, rn_lstore1, rn_iinc1, rn_iload2, rn_lload2, rn_aload2, rn_istore2, rn_astore2, rn_lstore2, rn_iinc2, rn_iload3, rn_lload3, rn_aload3, rn_istore3, rn_astore3, rn_lstore3, rn_iinc3, rn_iload4, rn_lload4, rn_aload4, rn_istore4, rn_astore4, rn_lstore4, rn_iinc4, rn_iload5, rn_lload5, rn_aload5, rn_istore5, rn_astore5, rn_lstore5, rn_iinc5, rn_iload6, rn_lload6, rn_aload6, rn_istore6, rn_astore6, rn_lstore6, rn_iinc6, rn_iload7, rn_aload7, rn_istore7, rn_astore7, rn_iinc7, rn_iload8, rn_aload8, rn_istore8, rn_astore8, rn_iinc8, rn_iload9, rn_aload9, rn_istore9, rn_astore9, rn_iinc9, rn_iadd, rn_isub, rn_imul, rn_iand, rn_ior, rn_ixor, rn_ishl, rn_ishr, rn_iushr, rn_idiv, rn_irem, rn_ineg, rn_ladd, rn_lsub, rn_lmul, rn_lor, rn_ldiv, rn_lrem, rn_lneg, rn_lshl, rn_lshr, rn_i2l, rn_l2i, rn_i2c, rn_lcmp, rn_dupi, rn_dupa, rn_popi, rn_popa, rn_dup2, rn_aast, rn_alen, rn_geta, rn_aald, rn_puta, rn_new, rn_newa, rn_anew, rn_min, rn_max, rn_slen, rn_chat, rn_indx, rn_objI, rn_nop, rn_goto, rn_ifeq, rn_ifne, rn_iflt, rn_ifge, rn_ifgt, rn_ifle, rn_iceq, rn_icne, rn_iclt, rn_icge, rn_icgt, rn_icle, rn_tsw, rn_lsw, rn_iret, rn_zret, rn_lret, rn_aret, rn_vret, rn_cs0, rn_cs1, rn_cs2, rn_cs3, rn_cs4, rn_cs5, rn_cs6, rn_cs7, rn_cv1, rn_ci1, rn_cv2, rn_ci2, rn_cv3, rn_ci3, rn_cv4, rn_cv5, rn_cv6, rn_cv7, cs_n, cs_i, cs_a, cs_l, rc_i, rc_a, rc_l, rc_n, rw_iald, rw_bald, rw_lald, rw_iast, rw_bast, rw_last, rw_geti, rw_getl, rw_puti, rw_putz, rw_putl, iI_add, iI_sub, iI_mul, iI_neg, iI_lt, iI_le, iI_eq, iI_lt0, iI_le0, iI_0lt, iI_0le, iI_eq0, iI_eq1, iI_div, iI_rem, am_in_ok, am_in_no, iI_toInt, iL_add, iL_sub, iL_mul, iL_neg, iL_div, iL_rem, iI_i2l, iL_l2i, iL_cmp, iL_eq0, iI_or, iI_and, iI_shl, if_true, if_false, true_or, or_true, true_and, and_true, false_or, or_false, not_true_eq_false, not_false_eq_true, Option.bind_some, Option.toList_some, Option.toList_none, List.nil_append, List.cons_append, ite_self, nc_0, nc_1, nc_2, nc_3, nc_4, nc_5, nc_6, nc_7, nc_8, nc_9, nc_10, nc_11, nc_12, nc_13, nc_14, nc_15, nc_16, nc_17, nc_18, nc_19, nc_20, nc_21, nc_22, nc_23, nc_24, nc_25, nc_26, nc_27, nc_28, nc_29, nc_30, nc_31, nc_32, nc_33, nc_34, nc_35, nc_36, nc_40, nc_48, nc_100, nc_256, nc_300, nc_304, sh_346, rf_346_0, rf_346_3, rf_346_4, rf_346_5, wk, mx_299, if_pos, if_neg, sh_0, sh_393, rw_copy, am_cp_ok]
set_option maxHeartbeats 1000000 in
theorem c_cutDigits (O : TpOk p) (C : CTp w p) (q0 : 0 ≤ q) (q1 : q < p.1) (h5 : w 346 2 = q) : ∃ w2, am_call (d + 1) 278 [.ref 346] (L, T, S0 n, am_w w, v, R0 o) = some (some (.int (iI (tkN p q).1)), (L, T, S0 n, am_w w2, v, R0 o)) ∧ w2 346 2 = sc isD p q ∧ (∀ b, b ≠ 346 → w2 b = w b) ∧ (∀ k, k ≠ 2 → w2 346 k = w 346 k) := by
  have o1 := O.1
  have sq := sc_ok (P := isD) (p := p) (x := q) (by omega)
  obtain ⟨N, hN⟩ := Int.eq_ofNat_of_zero_le (show 0 ≤ sc isD p q - q by omega)
  have tn : tkN p q = dgP p q N := by unfold tkN; rw [hN, Int.toNat_natCast]
  obtain ⟨w1, ⟨a5, b1, k1⟩, e1⟩ := loop_p (fun (k : Nat) (w1 : Nat → Int → Int) => w1 346 2 = q + (k : Int) ∧ (∀ b, b ≠ 346 → w1 b = w b) ∧ (∀ k, k ≠ 2 → w1 346 k = w 346 k)) (fun (k : Nat) (w1 : Nat → Int → Int) => am_run (d + 1) 278 (am_B 278 2) [some (.ref 346), some (.int (iI (dgP p q k).1))] [] (L, T, S0 n, am_w w1, v, R0 o)) N (by
    rintro k hk w1 ⟨a5, b1, k1⟩
    have e1 : w1 346 1 = p.1 := by rw [k1 1 (by decide)]; exact C.1
    have g : ¬ p.1 ≤ q + (k : Int) := by omega
    have cx : w1 347 (q + (k : Int)) = p.2 (q + (k : Int)) := by rw [b1 347 (by decide)]; exact C.2 _ (by omega) (by omega)
    have bx := O.2 (q + (k : Int)) (by omega) (by omega)
    have cd := sq.2.2.1 (q + (k : Int)) (by omega) (by omega)
    have il := c_isDigit (d := d) (M := (L, T, S0 n, am_w w1, v, R0 o)) (x := p.2 (q + (k : Int))) bx.1 bx.2
    rw [bI_t cd] at il
    have db := (dg_ok (p := p) (q := q) k (fun x h1 h2 => sq.2.2.1 x h1 (by omega))).1
    have cd2 : 48 ≤ p.2 (q + (k : Int)) ∧ p.2 (q + (k : Int)) ≤ 57 := by unfold isD at cd; simpa using cd
    have ed : q + ((k + 1 : Nat) : Int) = q + (k : Int) + 1 := by omega
    have edg : (dgP p q (k + 1)).1 = if 10000 < (dgP p q k).1 * 10 + p.2 (q + (k : Int)) - 48 then 10000 else (dgP p q k).1 * 10 + p.2 (q + (k : Int)) - 48 := rfl
    refine ⟨upI w1 346 2 (q + (k : Int) + 1), ⟨by rw [upI_s, ed], fun b hb => by rw [upI_c hb]; exact b1 b hb, fun k h2 => by rw [upI_2 h2]; exact k1 k h2⟩, ?_⟩
    rw [edg]
    generalize (dgP p q k).1 = z at *
    generalize p.2 (q + (k : Int)) = y at *
    conv => lhs; rw [bk_278_2]
    by_cases c : 10000 < z * 10 + y - 48
    · rw [if_pos c]
      have c' : ¬ z * 10 + y - 48 < 10000 := by omega
      have m1 : (if iI 10000 < iI (z * 10 + y - 48) then iI 10000 else iI (z * 10 + y - 48)) = iI 10000 := if_pos ((iI_lt (by omega) (by omega) (by omega) (by omega)).mpr c)
      simp (decide := true) (disch := omega) only [en_278, bk_278_0, bk_278_65, bq_278_0, bq_278_2, bq_278_65, rn_iconst, rn_bipush, rn_sipush, rn_ldc_w, rn_ldc, rn_ldcS, rn_lconst, rn_ldc2, rn_gets, rn_iload0, rn_lload0, rn_aload0, rn_istore0, rn_astore0, rn_lstore0, rn_iinc0, rn_iload1, rn_lload1, rn_aload1, rn_istore1, rn_astore1, rn_lstore1, rn_iinc1, rn_iload2, rn_lload2, rn_aload2, rn_istore2, rn_astore2, rn_lstore2, rn_iinc2, rn_iload3, rn_lload3, rn_aload3, rn_istore3, rn_astore3, rn_lstore3, rn_iinc3, rn_iload4, rn_lload4, rn_aload4, rn_istore4, rn_astore4, rn_lstore4, rn_iinc4, rn_iload5, rn_lload5, rn_aload5, rn_istore5, rn_astore5, rn_lstore5, rn_iinc5, rn_iload6, rn_lload6, rn_aload6, rn_istore6, rn_astore6, rn_lstore6, rn_iinc6, rn_iload7, rn_aload7, rn_istore7, rn_astore7, rn_iinc7, rn_iload8, rn_aload8, rn_istore8, rn_astore8, rn_iinc8, rn_iload9, rn_aload9, rn_istore9, rn_astore9, rn_iinc9, rn_iadd, rn_isub, rn_imul, rn_iand, rn_ior, rn_ixor, rn_ishl, rn_ishr, rn_iushr, rn_idiv, rn_irem, rn_ineg, rn_ladd, rn_lsub, rn_lmul, rn_lor, rn_ldiv, rn_lrem, rn_lneg, rn_lshl, rn_lshr, rn_i2l, rn_l2i, rn_i2c, rn_lcmp, rn_dupi, rn_dupa, rn_popi, rn_popa, rn_dup2, rn_aast, rn_alen, rn_geta, rn_aald, rn_puta, rn_new, rn_newa, rn_anew, rn_min, rn_max, rn_slen, rn_chat, rn_indx, rn_objI, rn_nop, rn_goto, rn_ifeq, rn_ifne, rn_iflt, rn_ifge, rn_ifgt, rn_ifle, rn_iceq, rn_icne, rn_iclt, rn_icge, rn_icgt, rn_icle, rn_tsw, rn_lsw, rn_iret, rn_zret, rn_lret, rn_aret, rn_vret, rn_cs0, rn_cs1, rn_cs2, rn_cs3, rn_cs4, rn_cs5, rn_cs6, rn_cs7, rn_cv1, rn_ci1, rn_cv2, rn_ci2, rn_cv3, rn_ci3, rn_cv4, rn_cv5, rn_cv6, rn_cv7, cs_n, cs_i, cs_a, cs_l, rc_i, rc_a, rc_l, rc_n, rw_iald, rw_bald, rw_lald, rw_iast, rw_bast, rw_last, rw_geti, rw_getl, rw_puti, rw_putz, rw_putl, iI_add, iI_sub, iI_mul, iI_neg, iI_lt, iI_le, iI_eq, iI_lt0, iI_le0, iI_0lt, iI_0le, iI_eq0, iI_eq1, iI_div, iI_rem, am_in_ok, am_in_no, iI_toInt, iL_add, iL_sub, iL_mul, iL_neg, iL_div, iL_rem, iI_i2l, iL_l2i, iL_cmp, iL_eq0, iI_or, iI_and, iI_shl, if_true, if_false, true_or, or_true, true_and, and_true, false_or, or_false, not_true_eq_false, not_false_eq_true, Option.bind_some, Option.toList_some, Option.toList_none, List.nil_append, List.cons_append, ite_self, nc_0, nc_1, nc_2, nc_3, nc_4, nc_5, nc_6, nc_7, nc_8, nc_9, nc_10, nc_11, nc_12, nc_13, nc_14, nc_15, nc_16, nc_17, nc_18, nc_19, nc_20, nc_21, nc_22, nc_23, nc_24, nc_25, nc_26, nc_27, nc_28, nc_29, nc_30, nc_31, nc_32, nc_33, nc_34, nc_35, nc_36, nc_40, nc_48, nc_100, nc_256, nc_300, nc_304, sh_346, rf_346_0, rf_346_3, rf_346_4, rf_346_5, sh_347, e1, a5, cx, il, m1, mx_277, g, if_pos, if_neg, sh_0, sh_393, rw_copy, am_cp_ok]
    · rw [if_neg c]
      have m1 : (if iI 10000 < iI (z * 10 + y - 48) then iI 10000 else iI (z * 10 + y - 48)) = iI (z * 10 + y - 48) := if_neg (fun h => c ((iI_lt (by omega) (by omega) (by omega) (by omega)).mp h))
      simp (decide := true) (disch := omega) only [en_278, bk_278_0, bk_278_65, bq_278_0, bq_278_2, bq_278_65, rn_iconst, rn_bipush, rn_sipush, rn_ldc_w, rn_ldc, rn_ldcS, rn_lconst, rn_ldc2, rn_gets, rn_iload0, rn_lload0, rn_aload0, rn_istore0, rn_astore0, rn_lstore0, rn_iinc0, rn_iload1, rn_lload1, rn_aload1, rn_istore1, rn_astore1, rn_lstore1, rn_iinc1, rn_iload2, rn_lload2, rn_aload2, rn_istore2, rn_astore2, rn_lstore2, rn_iinc2, rn_iload3, rn_lload3, rn_aload3, rn_istore3, rn_astore3, rn_lstore3, rn_iinc3, rn_iload4, rn_lload4, rn_aload4, rn_istore4, rn_astore4, rn_lstore4, rn_iinc4, rn_iload5, rn_lload5, rn_aload5, rn_istore5, rn_astore5, rn_lstore5, rn_iinc5, rn_iload6, rn_lload6, rn_aload6, rn_istore6, rn_astore6, rn_lstore6, rn_iinc6, rn_iload7, rn_aload7, rn_istore7, rn_astore7, rn_iinc7, rn_iload8, rn_aload8, rn_istore8, rn_astore8, rn_iinc8, rn_iload9, rn_aload9, rn_istore9, rn_astore9, rn_iinc9, rn_iadd, rn_isub, rn_imul, rn_iand, rn_ior, rn_ixor, rn_ishl, rn_ishr, rn_iushr, rn_idiv, rn_irem, rn_ineg, rn_ladd, rn_lsub, rn_lmul, rn_lor, rn_ldiv, rn_lrem, rn_lneg, rn_lshl, rn_lshr, rn_i2l, rn_l2i, rn_i2c, rn_lcmp, rn_dupi, rn_dupa, rn_popi, rn_popa, rn_dup2, rn_aast, rn_alen, rn_geta, rn_aald, rn_puta, rn_new, rn_newa, rn_anew, rn_min, rn_max, rn_slen, rn_chat, rn_indx, rn_objI, rn_nop, rn_goto, rn_ifeq, rn_ifne, rn_iflt, rn_ifge, rn_ifgt, rn_ifle, rn_iceq, rn_icne, rn_iclt, rn_icge, rn_icgt, rn_icle, rn_tsw, rn_lsw, rn_iret, rn_zret, rn_lret, rn_aret, rn_vret, rn_cs0, rn_cs1, rn_cs2, rn_cs3, rn_cs4, rn_cs5, rn_cs6, rn_cs7, rn_cv1, rn_ci1, rn_cv2, rn_ci2, rn_cv3, rn_ci3, rn_cv4, rn_cv5, rn_cv6, rn_cv7, cs_n, cs_i, cs_a, cs_l, rc_i, rc_a, rc_l, rc_n, rw_iald, rw_bald, rw_lald, rw_iast, rw_bast, rw_last, rw_geti, rw_getl, rw_puti, rw_putz, rw_putl, iI_add, iI_sub, iI_mul, iI_neg, iI_lt, iI_le, iI_eq, iI_lt0, iI_le0, iI_0lt, iI_0le, iI_eq0, iI_eq1, iI_div, iI_rem, am_in_ok, am_in_no, iI_toInt, iL_add, iL_sub, iL_mul, iL_neg, iL_div, iL_rem, iI_i2l, iL_l2i, iL_cmp, iL_eq0, iI_or, iI_and, iI_shl, if_true, if_false, true_or, or_true, true_and, and_true, false_or, or_false, not_true_eq_false, not_false_eq_true, Option.bind_some, Option.toList_some, Option.toList_none, List.nil_append, List.cons_append, ite_self, nc_0, nc_1, nc_2, nc_3, nc_4, nc_5, nc_6, nc_7, nc_8, nc_9, nc_10, nc_11, nc_12, nc_13, nc_14, nc_15, nc_16, nc_17, nc_18, nc_19, nc_20, nc_21, nc_22, nc_23, nc_24, nc_25, nc_26, nc_27, nc_28, nc_29, nc_30, nc_31, nc_32, nc_33, nc_34, nc_35, nc_36, nc_40, nc_48, nc_100, nc_256, nc_300, nc_304, sh_346, rf_346_0, rf_346_3, rf_346_4, rf_346_5, sh_347, e1, a5, cx, il, m1, mx_277, g, if_pos, if_neg, sh_0, sh_393, rw_copy, am_cp_ok]) w ⟨by rw [h5]; omega, fun _ _ => rfl, fun _ _ => rfl⟩
  rw [tn]
  refine ⟨w1, ?_, by rw [a5]; omega, b1, k1⟩
  have e1' : w1 346 1 = p.1 := by rw [k1 1 (by decide)]; exact C.1
  have eq : q + (N : Int) = sc isD p q := by omega
  rw [eq] at a5
  refine Eq.trans ?_ (e1.trans ?_)
  · show _ = am_run (d + 1) 278 (am_B 278 2) [some (.ref 346), some (.int (iI 0))] [] (L, T, S0 n, am_w w, v, R0 o)
    simp (decide := true) (disch := omega) only [en_278, bk_278_0, bk_278_65, bq_278_0, bq_278_2, bq_278_65, rn_iconst, rn_bipush, rn_sipush, rn_ldc_w, rn_ldc, rn_ldcS, rn_lconst, rn_ldc2, rn_gets, rn_iload0, rn_lload0, rn_aload0, rn_istore0, rn_astore0, rn_lstore0, rn_iinc0, rn_iload1, rn_lload1, rn_aload1, rn_istore1, rn_astore1, rn_lstore1, rn_iinc1, rn_iload2, rn_lload2, rn_aload2, rn_istore2, rn_astore2, rn_lstore2, rn_iinc2, rn_iload3, rn_lload3, rn_aload3, rn_istore3, rn_astore3, rn_lstore3, rn_iinc3, rn_iload4, rn_lload4, rn_aload4, rn_istore4, rn_astore4, rn_lstore4, rn_iinc4, rn_iload5, rn_lload5, rn_aload5, rn_istore5, rn_astore5, rn_lstore5, rn_iinc5, rn_iload6, rn_lload6, rn_aload6, rn_istore6, rn_astore6, rn_lstore6, rn_iinc6, rn_iload7, rn_aload7, rn_istore7, rn_astore7, rn_iinc7, rn_iload8, rn_aload8, rn_istore8, rn_astore8, rn_iinc8, rn_iload9, rn_aload9, rn_istore9, rn_astore9, rn_iinc9, rn_iadd, rn_isub, rn_imul, rn_iand, rn_ior, rn_ixor, rn_ishl, rn_ishr, rn_iushr, rn_idiv, rn_irem, rn_ineg, rn_ladd, rn_lsub, rn_lmul, rn_lor, rn_ldiv, rn_lrem, rn_lneg, rn_lshl, rn_lshr, rn_i2l, rn_l2i, rn_i2c, rn_lcmp, rn_dupi, rn_dupa, rn_popi, rn_popa, rn_dup2, rn_aast, rn_alen, rn_geta, rn_aald, rn_puta, rn_new, rn_newa, rn_anew, rn_min, rn_max, rn_slen, rn_chat, rn_indx, rn_objI, rn_nop, rn_goto, rn_ifeq, rn_ifne, rn_iflt, rn_ifge, rn_ifgt, rn_ifle, rn_iceq, rn_icne, rn_iclt, rn_icge, rn_icgt, rn_icle, rn_tsw, rn_lsw, rn_iret, rn_zret, rn_lret, rn_aret, rn_vret, rn_cs0, rn_cs1, rn_cs2, rn_cs3, rn_cs4, rn_cs5, rn_cs6, rn_cs7, rn_cv1, rn_ci1, rn_cv2, rn_ci2, rn_cv3, rn_ci3, rn_cv4, rn_cv5, rn_cv6, rn_cv7, cs_n, cs_i, cs_a, cs_l, rc_i, rc_a, rc_l, rc_n, rw_iald, rw_bald, rw_lald, rw_iast, rw_bast, rw_last, rw_geti, rw_getl, rw_puti, rw_putz, rw_putl, iI_add, iI_sub, iI_mul, iI_neg, iI_lt, iI_le, iI_eq, iI_lt0, iI_le0, iI_0lt, iI_0le, iI_eq0, iI_eq1, iI_div, iI_rem, am_in_ok, am_in_no, iI_toInt, iL_add, iL_sub, iL_mul, iL_neg, iL_div, iL_rem, iI_i2l, iL_l2i, iL_cmp, iL_eq0, iI_or, iI_and, iI_shl, if_true, if_false, true_or, or_true, true_and, and_true, false_or, or_false, not_true_eq_false, not_false_eq_true, Option.bind_some, Option.toList_some, Option.toList_none, List.nil_append, List.cons_append, ite_self, nc_0, nc_1, nc_2, nc_3, nc_4, nc_5, nc_6, nc_7, nc_8, nc_9, nc_10, nc_11, nc_12, nc_13, nc_14, nc_15, nc_16, nc_17, nc_18, nc_19, nc_20, nc_21, nc_22, nc_23, nc_24, nc_25, nc_26, nc_27, nc_28, nc_29, nc_30, nc_31, nc_32, nc_33, nc_34, nc_35, nc_36, nc_40, nc_48, nc_100, nc_256, nc_300, nc_304, sh_346, rf_346_0, rf_346_3, rf_346_4, rf_346_5, if_pos, if_neg, sh_0, sh_393, rw_copy, am_cp_ok]
  · conv => lhs; rw [bk_278_2]
    by_cases c : sc isD p q < p.1
    · have cx : w1 347 (sc isD p q) = p.2 (sc isD p q) := by rw [b1 347 (by decide)]; exact C.2 _ (by omega) c
      have bx := O.2 (sc isD p q) (by omega) c
      have il := c_isDigit (d := d) (M := (L, T, S0 n, am_w w1, v, R0 o)) (x := p.2 (sc isD p q)) bx.1 bx.2
      rw [bI_f (by rw [sq.2.2.2 c]; decide)] at il
      have g : ¬ p.1 ≤ sc isD p q := by omega
      simp (decide := true) (disch := omega) only [en_278, bk_278_0, bk_278_65, bq_278_0, bq_278_2, bq_278_65, rn_iconst, rn_bipush, rn_sipush, rn_ldc_w, rn_ldc, rn_ldcS, rn_lconst, rn_ldc2, rn_gets, rn_iload0, rn_lload0, rn_aload0, rn_istore0, rn_astore0, rn_lstore0, rn_iinc0, rn_iload1, rn_lload1, rn_aload1, rn_istore1, rn_astore1, rn_lstore1, rn_iinc1, rn_iload2, rn_lload2, rn_aload2, rn_istore2, rn_astore2, rn_lstore2, rn_iinc2, rn_iload3, rn_lload3, rn_aload3, rn_istore3, rn_astore3, rn_lstore3, rn_iinc3, rn_iload4, rn_lload4, rn_aload4, rn_istore4, rn_astore4, rn_lstore4, rn_iinc4, rn_iload5, rn_lload5, rn_aload5, rn_istore5, rn_astore5, rn_lstore5, rn_iinc5, rn_iload6, rn_lload6, rn_aload6, rn_istore6, rn_astore6, rn_lstore6, rn_iinc6, rn_iload7, rn_aload7, rn_istore7, rn_astore7, rn_iinc7, rn_iload8, rn_aload8, rn_istore8, rn_astore8, rn_iinc8, rn_iload9, rn_aload9, rn_istore9, rn_astore9, rn_iinc9, rn_iadd, rn_isub, rn_imul, rn_iand, rn_ior, rn_ixor, rn_ishl, rn_ishr, rn_iushr, rn_idiv, rn_irem, rn_ineg, rn_ladd, rn_lsub, rn_lmul, rn_lor, rn_ldiv, rn_lrem, rn_lneg, rn_lshl, rn_lshr, rn_i2l, rn_l2i, rn_i2c, rn_lcmp, rn_dupi, rn_dupa, rn_popi, rn_popa, rn_dup2, rn_aast, rn_alen, rn_geta, rn_aald, rn_puta, rn_new, rn_newa, rn_anew, rn_min, rn_max, rn_slen, rn_chat, rn_indx, rn_objI, rn_nop, rn_goto, rn_ifeq, rn_ifne, rn_iflt, rn_ifge, rn_ifgt, rn_ifle, rn_iceq, rn_icne, rn_iclt, rn_icge, rn_icgt, rn_icle, rn_tsw, rn_lsw, rn_iret, rn_zret, rn_lret, rn_aret, rn_vret, rn_cs0, rn_cs1, rn_cs2, rn_cs3, rn_cs4, rn_cs5, rn_cs6, rn_cs7, rn_cv1, rn_ci1, rn_cv2, rn_ci2, rn_cv3, rn_ci3, rn_cv4, rn_cv5, rn_cv6, rn_cv7, cs_n, cs_i, cs_a, cs_l, rc_i, rc_a, rc_l, rc_n, rw_iald, rw_bald, rw_lald, rw_iast, rw_bast, rw_last, rw_geti, rw_getl, rw_puti, rw_putz, rw_putl, iI_add, iI_sub, iI_mul, iI_neg, iI_lt, iI_le, iI_eq, iI_lt0, iI_le0, iI_0lt, iI_0le, iI_eq0, iI_eq1, iI_div, iI_rem, am_in_ok, am_in_no, iI_toInt, iL_add, iL_sub, iL_mul, iL_neg, iL_div, iL_rem, iI_i2l, iL_l2i, iL_cmp, iL_eq0, iI_or, iI_and, iI_shl, if_true, if_false, true_or, or_true, true_and, and_true, false_or, or_false, not_true_eq_false, not_false_eq_true, Option.bind_some, Option.toList_some, Option.toList_none, List.nil_append, List.cons_append, ite_self, nc_0, nc_1, nc_2, nc_3, nc_4, nc_5, nc_6, nc_7, nc_8, nc_9, nc_10, nc_11, nc_12, nc_13, nc_14, nc_15, nc_16, nc_17, nc_18, nc_19, nc_20, nc_21, nc_22, nc_23, nc_24, nc_25, nc_26, nc_27, nc_28, nc_29, nc_30, nc_31, nc_32, nc_33, nc_34, nc_35, nc_36, nc_40, nc_48, nc_100, nc_256, nc_300, nc_304, sh_346, rf_346_0, rf_346_3, rf_346_4, rf_346_5, sh_347, e1', a5, cx, il, mx_277, g, if_pos, if_neg, sh_0, sh_393, rw_copy, am_cp_ok]
    · have g : p.1 ≤ sc isD p q := by omega
      simp (decide := true) (disch := omega) only [en_278, bk_278_0, bk_278_65, bq_278_0, bq_278_2, bq_278_65, rn_iconst, rn_bipush, rn_sipush, rn_ldc_w, rn_ldc, rn_ldcS, rn_lconst, rn_ldc2, rn_gets, rn_iload0, rn_lload0, rn_aload0, rn_istore0, rn_astore0, rn_lstore0, rn_iinc0, rn_iload1, rn_lload1, rn_aload1, rn_istore1, rn_astore1, rn_lstore1, rn_iinc1, rn_iload2, rn_lload2, rn_aload2, rn_istore2, rn_astore2, rn_lstore2, rn_iinc2, rn_iload3, rn_lload3, rn_aload3, rn_istore3, rn_astore3, rn_lstore3, rn_iinc3, rn_iload4, rn_lload4, rn_aload4, rn_istore4, rn_astore4, rn_lstore4, rn_iinc4, rn_iload5, rn_lload5, rn_aload5, rn_istore5, rn_astore5, rn_lstore5, rn_iinc5, rn_iload6, rn_lload6, rn_aload6, rn_istore6, rn_astore6, rn_lstore6, rn_iinc6, rn_iload7, rn_aload7, rn_istore7, rn_astore7, rn_iinc7, rn_iload8, rn_aload8, rn_istore8, rn_astore8, rn_iinc8, rn_iload9, rn_aload9, rn_istore9, rn_astore9, rn_iinc9, rn_iadd, rn_isub, rn_imul, rn_iand, rn_ior, rn_ixor, rn_ishl, rn_ishr, rn_iushr, rn_idiv, rn_irem, rn_ineg, rn_ladd, rn_lsub, rn_lmul, rn_lor, rn_ldiv, rn_lrem, rn_lneg, rn_lshl, rn_lshr, rn_i2l, rn_l2i, rn_i2c, rn_lcmp, rn_dupi, rn_dupa, rn_popi, rn_popa, rn_dup2, rn_aast, rn_alen, rn_geta, rn_aald, rn_puta, rn_new, rn_newa, rn_anew, rn_min, rn_max, rn_slen, rn_chat, rn_indx, rn_objI, rn_nop, rn_goto, rn_ifeq, rn_ifne, rn_iflt, rn_ifge, rn_ifgt, rn_ifle, rn_iceq, rn_icne, rn_iclt, rn_icge, rn_icgt, rn_icle, rn_tsw, rn_lsw, rn_iret, rn_zret, rn_lret, rn_aret, rn_vret, rn_cs0, rn_cs1, rn_cs2, rn_cs3, rn_cs4, rn_cs5, rn_cs6, rn_cs7, rn_cv1, rn_ci1, rn_cv2, rn_ci2, rn_cv3, rn_ci3, rn_cv4, rn_cv5, rn_cv6, rn_cv7, cs_n, cs_i, cs_a, cs_l, rc_i, rc_a, rc_l, rc_n, rw_iald, rw_bald, rw_lald, rw_iast, rw_bast, rw_last, rw_geti, rw_getl, rw_puti, rw_putz, rw_putl, iI_add, iI_sub, iI_mul, iI_neg, iI_lt, iI_le, iI_eq, iI_lt0, iI_le0, iI_0lt, iI_0le, iI_eq0, iI_eq1, iI_div, iI_rem, am_in_ok, am_in_no, iI_toInt, iL_add, iL_sub, iL_mul, iL_neg, iL_div, iL_rem, iI_i2l, iL_l2i, iL_cmp, iL_eq0, iI_or, iI_and, iI_shl, if_true, if_false, true_or, or_true, true_and, and_true, false_or, or_false, not_true_eq_false, not_false_eq_true, Option.bind_some, Option.toList_some, Option.toList_none, List.nil_append, List.cons_append, ite_self, nc_0, nc_1, nc_2, nc_3, nc_4, nc_5, nc_6, nc_7, nc_8, nc_9, nc_10, nc_11, nc_12, nc_13, nc_14, nc_15, nc_16, nc_17, nc_18, nc_19, nc_20, nc_21, nc_22, nc_23, nc_24, nc_25, nc_26, nc_27, nc_28, nc_29, nc_30, nc_31, nc_32, nc_33, nc_34, nc_35, nc_36, nc_40, nc_48, nc_100, nc_256, nc_300, nc_304, sh_346, rf_346_0, rf_346_3, rf_346_4, rf_346_5, sh_347, e1', a5, g, if_pos, if_neg, sh_0, sh_393, rw_copy, am_cp_ok]
end STP
