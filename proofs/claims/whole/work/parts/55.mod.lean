def MRep (bk : Bool) (u : Nat → Int → Int) (A : AT) : Prop := u 394 7 = A.din ∧ u 394 8 = A.x ∧ u 394 9 = A.mood ∧ (∀ s, 0 ≤ s → s < 8 → u 394 (11 + s) = A.h s) ∧
  (∀ s i, 0 ≤ s → s < 8 → 0 ≤ i → i < A.h s → u 394 (19 + 5 * s + i) = 100 * A.m s i + A.g s i) ∧ u 393 23 = (if bk = true then 1 else 0) ∧
  (bk = true → u 394 10 = A.nb ∧ ∀ i, 0 ≤ i → i < A.nb → u 394 (2493 + i) = ((A.b i 0 * 3 + A.b i 1) * 8 + A.b i 2) * 7 + A.b i 3 + 1)
def FrM (bk : Bool) (u u2 : Nat → Int → Int) : Prop := (∀ a, a ≠ 393 → a ≠ 394 → a ≠ 399 → a ≠ 401 → u2 a = u a) ∧ (∀ k, k ≠ -1 → k ≠ -1 → u2 393 k = u 393 k) ∧ (∀ k, (k < 7 ∨ (59 ≤ k ∧ k < 2493) ∨ (bk = false ∧ 2493 ≤ k)) → u2 394 k = u 394 k)
theorem FrM.refl {bk : Bool} {u : Nat → Int → Int} : FrM bk u u := ⟨fun _ _ _ _ _ => rfl, fun _ _ _ => rfl, fun _ _ => rfl⟩
theorem FrM.trans {bk : Bool} {u u1 u2 : Nat → Int → Int} (h : FrM bk u u1) (k : FrM bk u1 u2) : FrM bk u u2 := ⟨fun a g1 g2 g3 g4 => (k.1 a g1 g2 g3 g4).trans (h.1 a g1 g2 g3 g4), fun a g1 g2 => (k.2.1 a g1 g2).trans (h.2.1 a g1 g2), fun a g => (k.2.2 a g).trans (h.2.2 a g)⟩
theorem shD_lo {w : Nat → Int → Int} {A1 A2 a : Nat} {lo k e : Int} (h : e < lo) : shD w A1 A2 lo k a e = w a e := by
  unfold shD; rw [if_neg (by omega)]
theorem shD_in {w : Nat → Int → Int} {a : Nat} {lo k e : Int} (h1 : lo ≤ e) (h2 : e < lo + k) : shD w a a lo k a e = w a (e + 1) := by
  unfold shD; rw [if_pos ⟨Or.inl rfl, h1, h2⟩]
theorem shD_s1 {w : Nat → Int → Int} {a : Nat} {lo k p : Int} (hk : 0 ≤ k) (hp : p = lo + k) : upI (shD w a a lo k) a p (w a (p + 1)) = shD w a a lo (k + 1) := by
  subst hp
  funext a' e
  unfold upI shD
  by_cases e1 : a' = a ∧ e = lo + k
  · rw [if_pos e1, if_pos (by omega), e1.1, e1.2]
  · rw [if_neg e1]
    by_cases e3 : (a' = a ∨ a' = a) ∧ lo ≤ e ∧ e < lo + k
    · rw [if_pos e3, if_pos (by omega)]
    · rw [if_neg e3, if_neg (by omega)]
section MP
variable {d L T o n : Nat} {u : Nat → Int → Int} {v : Nat → Nat → Int64} {A : AT} {N : Int} {bk : Bool}
theorem MRep.h (R : MRep bk u A) : ∀ s, 0 ≤ s → s < 8 → u 394 (11 + s) = A.h s := R.2.2.2.1
theorem MRep.l (R : MRep bk u A) : ∀ s i, 0 ≤ s → s < 8 → 0 ≤ i → i < A.h s → u 394 (19 + 5 * s + i) = 100 * A.m s i + A.g s i := R.2.2.2.2.1
theorem MRep.f (R : MRep bk u A) : u 393 23 = (if bk = true then 1 else 0) := R.2.2.2.2.2.1
theorem MRep.b (R : MRep bk u A) : bk = true → u 394 10 = A.nb ∧ ∀ i, 0 ≤ i → i < A.nb → u 394 (2493 + i) = ((A.b i 0 * 3 + A.b i 1) * 8 + A.b i 2) * 7 + A.b i 3 + 1 := R.2.2.2.2.2.2
theorem MRep.view (R : MRep bk u A) (O : AOk A N) (hN : N ≤ 6) {s i : Int} (h0 : 0 ≤ s) (h1 : s < 8) (i0 : 0 ≤ i) (i1 : i < A.h s) : (u 394 (19 + 5 * s + i)).tdiv 100 = A.m s i ∧ (u 394 (19 + 5 * s + i)).tmod 100 = A.g s i ∧ 0 ≤ u 394 (19 + 5 * s + i) ∧ u 394 (19 + 5 * s + i) ≤ 600 := by
  have r := R.l s i h0 h1 i0 i1
  have a := O.l s i h0 h1 i0 i1
  have hp : 0 ≤ u 394 (19 + 5 * s + i) := by omega
  rw [Int.tdiv_eq_ediv_of_nonneg hp, Int.tmod_eq_emod_of_nonneg hp]
  omega
set_option maxHeartbeats 1000000 in
theorem m_takeLayer (O : AOk A N) (R : MRep bk u A) {s i : Int} (h0 : 0 ≤ s) (h1 : s < 8) (i0 : 0 ≤ i) (i1 : i < A.h s) :
    ∃ u2, am_call (d + 1) 229 [.ref 393, .int (iI s), .int (iI i)] (L, T, S0 n, am_w u, v, R0 o) = some (none, (L, T, S0 n, am_w u2, v, R0 o)) ∧ MRep bk u2 (A.take s i) ∧ FrM bk u u2 := by
  have rh := R.h s h0 h1
  have hh := O.h s h0 h1
  obtain ⟨K, hK⟩ := Int.eq_ofNat_of_zero_le (show 0 ≤ A.h s - 1 - i by omega)
  refine ⟨upI (shD (upI u 394 (11 + s) (A.h s - 1)) 394 394 (19 + 5 * s + i) K) 394 (19 + 5 * s + (A.h s - 1)) 0, ?_, ?_, ?_⟩
  · have e0 : ∀ k : Nat, shD (upI u 394 (11 + s) (A.h s - 1)) 394 394 (19 + 5 * s + i) (k : Int) 394 (11 + s) = A.h s - 1 := fun k => by rw [shD_lo (by omega), upI_s]
    refine Eq.trans ?_ ((loop_up (fun k : Nat => am_run (d + 1) 229 (am_B 229 15) [some (.ref 393), some (.int (iI s)), some (.int (iI i)), some (.int (iI (i + (k : Int))))] [] (L, T, S0 n, am_w (shD (upI u 394 (11 + s) (A.h s - 1)) 394 394 (19 + 5 * s + i) (k : Int)), v, R0 o)) K ?_).trans ?_)
    · simp (decide := true) (disch := omega) only [en_229, bk_229_0, bk_229_58, bq_229_0, bq_229_15, bq_229_58, rn_iconst, rn_bipush, rn_sipush, rn_ldc_w, rn_ldc, rn_ldcS, rn_lconst, rn_ldc2, rn_gets, rn_iload0, rn_lload0, rn_aload0, rn_istore0, rn_astore0, rn_lstore0, rn_iinc0, rn_iload1, rn_lload1, rn_aload1, rn_istore1, rn_astore1, rn_lstore1, rn_iinc1, rn_iload2, rn_lload2, rn_aload2, rn_istore2, rn_astore2, rn_lstore2, rn_iinc2, rn_iload3, rn_lload3, rn_aload3, rn_istore3, rn_astore3, rn_lstore3, rn_iinc3, rn_iload4, rn_lload4, rn_aload4, rn_istore4, rn_astore4, rn_lstore4, rn_iinc4, rn_iload5, rn_lload5, rn_aload5, rn_istore5, rn_astore5, rn_lstore5, rn_iinc5, rn_iload6, rn_lload6, rn_aload6, rn_istore6, rn_astore6, rn_lstore6, rn_iinc6, rn_iload7, rn_aload7, rn_istore7, rn_astore7, rn_iinc7, rn_iload8, rn_aload8, rn_istore8, rn_astore8, rn_iinc8, rn_iload9, rn_aload9, rn_istore9, rn_astore9, rn_iinc9, rn_iadd, rn_isub, rn_imul, rn_iand, rn_ior, rn_ixor, rn_ishl, rn_ishr, rn_iushr, rn_idiv, rn_irem, rn_ineg, rn_ladd, rn_lsub, rn_lmul, rn_lor, rn_ldiv, rn_lrem, rn_lneg, rn_lshl, rn_lshr, rn_i2l, rn_l2i, rn_i2c, rn_lcmp, rn_dupi, rn_dupa, rn_popi, rn_popa, rn_dup2, rn_aast, rn_alen, rn_geta, rn_aald, rn_puta, rn_new, rn_newa, rn_anew, rn_min, rn_max, rn_slen, rn_chat, rn_indx, rn_objI, rn_nop, rn_goto, rn_ifeq, rn_ifne, rn_iflt, rn_ifge, rn_ifgt, rn_ifle, rn_iceq, rn_icne, rn_iclt, rn_icge, rn_icgt, rn_icle, rn_tsw, rn_lsw, rn_iret, rn_zret, rn_lret, rn_aret, rn_vret, rn_cs0, rn_cs1, rn_cs2, rn_cs3, rn_cs4, rn_cs5, rn_cs6, rn_cs7, rn_cv1, rn_ci1, rn_cv2, rn_ci2, rn_cv3, rn_ci3, rn_cv4, rn_cv5, rn_cv6, rn_cv7, cs_n, cs_i, cs_a, cs_l, rc_i, rc_a, rc_l, rc_n, rw_iald, rw_bald, rw_lald, rw_iast, rw_bast, rw_last, rw_geti, rw_getl, rw_puti, rw_putz, rw_putl, iI_add, iI_sub, iI_mul, iI_neg, iI_lt, iI_le, iI_eq, iI_lt0, iI_le0, iI_0lt, iI_0le, iI_eq0, iI_eq1, iI_div, iI_rem, am_in_ok, am_in_no, iI_toInt, iL_add, iL_sub, iL_mul, iL_neg, iL_div, iL_rem, iI_i2l, iL_l2i, iL_cmp, iL_eq0, iI_or, iI_and, iI_shl, if_true, if_false, true_or, or_true, true_and, and_true, false_or, or_false, not_true_eq_false, not_false_eq_true, Option.bind_some, Option.toList_some, Option.toList_none, List.nil_append, List.cons_append, ite_self, nc_0, nc_1, nc_2, nc_3, nc_4, nc_5, nc_6, nc_7, nc_8, nc_9, nc_10, nc_11, nc_12, nc_13, nc_14, nc_15, nc_16, nc_17, nc_18, nc_19, nc_20, nc_21, nc_22, nc_23, nc_24, nc_25, nc_26, nc_27, nc_28, nc_29, nc_30, nc_31, nc_32, nc_33, nc_34, nc_35, nc_36, nc_40, nc_48, nc_100, nc_256, nc_300, nc_304, sh_393, rf_393_0, rf_393_1, rf_393_2, rf_393_3, rf_393_15, rf_393_20, rf_393_21, rf_393_22, rf_393_27, rf_393_28, rf_393_29, rf_393_30, rf_393_34, sh_394, rh, Int.add_zero, shD_0, if_pos, if_neg, sh_0, sh_393, rw_copy, am_cp_ok]
    · intro k hk
      conv => lhs; rw [bk_229_15]
      have g1 : ¬ A.h s - 1 ≤ i + (k : Int) := by omega
      have e1 := e0 k
      have e2 : shD (upI u 394 (11 + s) (A.h s - 1)) 394 394 (19 + 5 * s + i) (k : Int) 394 (19 + 5 * s + (i + (k : Int)) + 1) = upI u 394 (11 + s) (A.h s - 1) 394 (19 + 5 * s + (i + (k : Int)) + 1) := shD_hi (by omega)
      have e4 := shD_s1 (w := upI u 394 (11 + s) (A.h s - 1)) (a := 394) (lo := 19 + 5 * s + i) (k := (k : Int)) (p := 19 + 5 * s + (i + (k : Int))) (by omega) (by omega)
      have ec : i + ((k + 1 : Nat) : Int) = i + (k : Int) + 1 := by omega
      have ed : ((k + 1 : Nat) : Int) = (k : Int) + 1 := by omega
      rw [ec, ed]
      simp (decide := true) (disch := omega) only [en_229, bk_229_0, bk_229_58, bq_229_0, bq_229_15, bq_229_58, rn_iconst, rn_bipush, rn_sipush, rn_ldc_w, rn_ldc, rn_ldcS, rn_lconst, rn_ldc2, rn_gets, rn_iload0, rn_lload0, rn_aload0, rn_istore0, rn_astore0, rn_lstore0, rn_iinc0, rn_iload1, rn_lload1, rn_aload1, rn_istore1, rn_astore1, rn_lstore1, rn_iinc1, rn_iload2, rn_lload2, rn_aload2, rn_istore2, rn_astore2, rn_lstore2, rn_iinc2, rn_iload3, rn_lload3, rn_aload3, rn_istore3, rn_astore3, rn_lstore3, rn_iinc3, rn_iload4, rn_lload4, rn_aload4, rn_istore4, rn_astore4, rn_lstore4, rn_iinc4, rn_iload5, rn_lload5, rn_aload5, rn_istore5, rn_astore5, rn_lstore5, rn_iinc5, rn_iload6, rn_lload6, rn_aload6, rn_istore6, rn_astore6, rn_lstore6, rn_iinc6, rn_iload7, rn_aload7, rn_istore7, rn_astore7, rn_iinc7, rn_iload8, rn_aload8, rn_istore8, rn_astore8, rn_iinc8, rn_iload9, rn_aload9, rn_istore9, rn_astore9, rn_iinc9, rn_iadd, rn_isub, rn_imul, rn_iand, rn_ior, rn_ixor, rn_ishl, rn_ishr, rn_iushr, rn_idiv, rn_irem, rn_ineg, rn_ladd, rn_lsub, rn_lmul, rn_lor, rn_ldiv, rn_lrem, rn_lneg, rn_lshl, rn_lshr, rn_i2l, rn_l2i, rn_i2c, rn_lcmp, rn_dupi, rn_dupa, rn_popi, rn_popa, rn_dup2, rn_aast, rn_alen, rn_geta, rn_aald, rn_puta, rn_new, rn_newa, rn_anew, rn_min, rn_max, rn_slen, rn_chat, rn_indx, rn_objI, rn_nop, rn_goto, rn_ifeq, rn_ifne, rn_iflt, rn_ifge, rn_ifgt, rn_ifle, rn_iceq, rn_icne, rn_iclt, rn_icge, rn_icgt, rn_icle, rn_tsw, rn_lsw, rn_iret, rn_zret, rn_lret, rn_aret, rn_vret, rn_cs0, rn_cs1, rn_cs2, rn_cs3, rn_cs4, rn_cs5, rn_cs6, rn_cs7, rn_cv1, rn_ci1, rn_cv2, rn_ci2, rn_cv3, rn_ci3, rn_cv4, rn_cv5, rn_cv6, rn_cv7, cs_n, cs_i, cs_a, cs_l, rc_i, rc_a, rc_l, rc_n, rw_iald, rw_bald, rw_lald, rw_iast, rw_bast, rw_last, rw_geti, rw_getl, rw_puti, rw_putz, rw_putl, iI_add, iI_sub, iI_mul, iI_neg, iI_lt, iI_le, iI_eq, iI_lt0, iI_le0, iI_0lt, iI_0le, iI_eq0, iI_eq1, iI_div, iI_rem, am_in_ok, am_in_no, iI_toInt, iL_add, iL_sub, iL_mul, iL_neg, iL_div, iL_rem, iI_i2l, iL_l2i, iL_cmp, iL_eq0, iI_or, iI_and, iI_shl, if_true, if_false, true_or, or_true, true_and, and_true, false_or, or_false, not_true_eq_false, not_false_eq_true, Option.bind_some, Option.toList_some, Option.toList_none, List.nil_append, List.cons_append, ite_self, nc_0, nc_1, nc_2, nc_3, nc_4, nc_5, nc_6, nc_7, nc_8, nc_9, nc_10, nc_11, nc_12, nc_13, nc_14, nc_15, nc_16, nc_17, nc_18, nc_19, nc_20, nc_21, nc_22, nc_23, nc_24, nc_25, nc_26, nc_27, nc_28, nc_29, nc_30, nc_31, nc_32, nc_33, nc_34, nc_35, nc_36, nc_40, nc_48, nc_100, nc_256, nc_300, nc_304, sh_393, rf_393_0, rf_393_1, rf_393_2, rf_393_3, rf_393_15, rf_393_20, rf_393_21, rf_393_22, rf_393_27, rf_393_28, rf_393_29, rf_393_30, rf_393_34, sh_394, m_manyOf, mx_145, e1, e2, e4, g1, if_pos, if_neg, sh_0, sh_393, rw_copy, am_cp_ok]
    · conv => lhs; rw [bk_229_15]
      have g1 : A.h s - 1 ≤ i + (K : Int) := by omega
      have e1 := e0 K
      simp (decide := true) (disch := omega) only [en_229, bk_229_0, bk_229_58, bq_229_0, bq_229_15, bq_229_58, rn_iconst, rn_bipush, rn_sipush, rn_ldc_w, rn_ldc, rn_ldcS, rn_lconst, rn_ldc2, rn_gets, rn_iload0, rn_lload0, rn_aload0, rn_istore0, rn_astore0, rn_lstore0, rn_iinc0, rn_iload1, rn_lload1, rn_aload1, rn_istore1, rn_astore1, rn_lstore1, rn_iinc1, rn_iload2, rn_lload2, rn_aload2, rn_istore2, rn_astore2, rn_lstore2, rn_iinc2, rn_iload3, rn_lload3, rn_aload3, rn_istore3, rn_astore3, rn_lstore3, rn_iinc3, rn_iload4, rn_lload4, rn_aload4, rn_istore4, rn_astore4, rn_lstore4, rn_iinc4, rn_iload5, rn_lload5, rn_aload5, rn_istore5, rn_astore5, rn_lstore5, rn_iinc5, rn_iload6, rn_lload6, rn_aload6, rn_istore6, rn_astore6, rn_lstore6, rn_iinc6, rn_iload7, rn_aload7, rn_istore7, rn_astore7, rn_iinc7, rn_iload8, rn_aload8, rn_istore8, rn_astore8, rn_iinc8, rn_iload9, rn_aload9, rn_istore9, rn_astore9, rn_iinc9, rn_iadd, rn_isub, rn_imul, rn_iand, rn_ior, rn_ixor, rn_ishl, rn_ishr, rn_iushr, rn_idiv, rn_irem, rn_ineg, rn_ladd, rn_lsub, rn_lmul, rn_lor, rn_ldiv, rn_lrem, rn_lneg, rn_lshl, rn_lshr, rn_i2l, rn_l2i, rn_i2c, rn_lcmp, rn_dupi, rn_dupa, rn_popi, rn_popa, rn_dup2, rn_aast, rn_alen, rn_geta, rn_aald, rn_puta, rn_new, rn_newa, rn_anew, rn_min, rn_max, rn_slen, rn_chat, rn_indx, rn_objI, rn_nop, rn_goto, rn_ifeq, rn_ifne, rn_iflt, rn_ifge, rn_ifgt, rn_ifle, rn_iceq, rn_icne, rn_iclt, rn_icge, rn_icgt, rn_icle, rn_tsw, rn_lsw, rn_iret, rn_zret, rn_lret, rn_aret, rn_vret, rn_cs0, rn_cs1, rn_cs2, rn_cs3, rn_cs4, rn_cs5, rn_cs6, rn_cs7, rn_cv1, rn_ci1, rn_cv2, rn_ci2, rn_cv3, rn_ci3, rn_cv4, rn_cv5, rn_cv6, rn_cv7, cs_n, cs_i, cs_a, cs_l, rc_i, rc_a, rc_l, rc_n, rw_iald, rw_bald, rw_lald, rw_iast, rw_bast, rw_last, rw_geti, rw_getl, rw_puti, rw_putz, rw_putl, iI_add, iI_sub, iI_mul, iI_neg, iI_lt, iI_le, iI_eq, iI_lt0, iI_le0, iI_0lt, iI_0le, iI_eq0, iI_eq1, iI_div, iI_rem, am_in_ok, am_in_no, iI_toInt, iL_add, iL_sub, iL_mul, iL_neg, iL_div, iL_rem, iI_i2l, iL_l2i, iL_cmp, iL_eq0, iI_or, iI_and, iI_shl, if_true, if_false, true_or, or_true, true_and, and_true, false_or, or_false, not_true_eq_false, not_false_eq_true, Option.bind_some, Option.toList_some, Option.toList_none, List.nil_append, List.cons_append, ite_self, nc_0, nc_1, nc_2, nc_3, nc_4, nc_5, nc_6, nc_7, nc_8, nc_9, nc_10, nc_11, nc_12, nc_13, nc_14, nc_15, nc_16, nc_17, nc_18, nc_19, nc_20, nc_21, nc_22, nc_23, nc_24, nc_25, nc_26, nc_27, nc_28, nc_29, nc_30, nc_31, nc_32, nc_33, nc_34, nc_35, nc_36, nc_40, nc_48, nc_100, nc_256, nc_300, nc_304, sh_393, rf_393_0, rf_393_1, rf_393_2, rf_393_3, rf_393_15, rf_393_20, rf_393_21, rf_393_22, rf_393_27, rf_393_28, rf_393_29, rf_393_30, rf_393_34, sh_394, m_manyOf, mx_145, e1, g1, if_pos, if_neg, sh_0, sh_393, rw_copy, am_cp_ok]
  · refine ⟨?_, ?_, ?_, ?_, ?_, ?_, ?_⟩
    · rw [upI_2 (by omega), shD_lo (by omega), upI_2 (by omega)]; exact R.1
    · rw [upI_2 (by omega), shD_lo (by omega), upI_2 (by omega)]; exact R.2.1
    · rw [upI_2 (by omega), shD_lo (by omega), upI_2 (by omega)]; exact R.2.2.1
    · intro q q0 q1
      show _ = if q = s then A.h s - 1 else A.h q
      rw [upI_2 (by omega), shD_lo (by omega)]
      by_cases e : q = s
      · subst e; rw [upI_s, if_pos rfl]
      · rw [upI_2 (by omega), if_neg e]; exact R.h q q0 q1
    · intro q k q0 q1 k0 k1
      have k1 : k < if q = s then A.h s - 1 else A.h q := k1
      have ho := O.h q q0 q1
      show _ = 100 * (if q = s ∧ i ≤ k then A.m s (k + 1) else A.m q k) + (if q = s ∧ i ≤ k then A.g s (k + 1) else A.g q k)
      by_cases e : q = s
      · subst e
        rw [if_pos rfl] at k1
        by_cases e2 : i ≤ k
        · rw [if_pos ⟨rfl, e2⟩, if_pos ⟨rfl, e2⟩, upI_2 (by omega), shD_in (by omega) (by omega), upI_2 (by omega), show 19 + 5 * q + k + 1 = 19 + 5 * q + (k + 1) by omega]
          exact R.l q (k + 1) q0 q1 (by omega) (by omega)
        · rw [if_neg (by omega), if_neg (by omega), upI_2 (by omega), shD_lo (by omega), upI_2 (by omega)]
          exact R.l q k q0 q1 k0 (by omega)
      · rw [if_neg e] at k1
        rw [if_neg (by omega), if_neg (by omega), upI_2 (by omega)]
        by_cases e2 : 19 + 5 * q + k < 19 + 5 * s + i
        · rw [shD_lo e2, upI_2 (by omega)]; exact R.l q k q0 q1 k0 k1
        · rw [shD_hi (by omega), upI_2 (by omega)]; exact R.l q k q0 q1 k0 k1
    · rw [upI_1 (by decide), shD_n (by decide) (by decide), upI_1 (by decide)]; exact R.f
    · intro hb
      refine ⟨?_, fun k k0 k1 => ?_⟩
      · rw [upI_2 (by omega), shD_lo (by omega), upI_2 (by omega)]; exact (R.b hb).1
      · rw [upI_2 (by omega), shD_hi (by omega), upI_2 (by omega)]; exact (R.b hb).2 k k0 k1
  · refine ⟨fun a g1 g2 _ _ => ?_, fun k _ _ => ?_, fun k hk => ?_⟩
    · funext e; rw [upI_1 g2, shD_n g2 g2, upI_1 g2]
    · rw [upI_1 (by decide), shD_n (by decide) (by decide), upI_1 (by decide)]
    · rw [upI_2 (by omega)]
      by_cases e2 : k < 19 + 5 * s + i
      · rw [shD_lo e2, upI_2 (by omega)]
      · rw [shD_hi (by omega), upI_2 (by omega)]
end MP
