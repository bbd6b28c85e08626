/-! the fading of tables beyond the last dinner -/
def AOkD (A : AT) (n : Int) : Prop := (0 ≤ A.din ∧ A.din ≤ 10100 ∧ 0 ≤ A.x ∧ A.x ≤ 31050 ∧ -99999 ≤ A.mood ∧ A.mood ≤ 99999 ∧ 0 ≤ A.nb ∧ A.nb ≤ 25) ∧ (∀ s, 0 ≤ s → s < 8 → 0 ≤ A.h s ∧ A.h s ≤ 5) ∧ (∀ s i, 0 ≤ s → s < 8 → 0 ≤ i → i < A.h s → 0 ≤ A.m s i ∧ A.m s i < n ∧ 1 ≤ A.g s i ∧ A.g s i ≤ 99) ∧ (∀ i, 0 ≤ i → i < A.nb → 0 ≤ A.b i 0 ∧ A.b i 0 ≤ 9999 ∧ 0 ≤ A.b i 1 ∧ A.b i 1 ≤ 2 ∧ 0 ≤ A.b i 2 ∧ A.b i 2 ≤ 7 ∧ -1 ≤ A.b i 3 ∧ A.b i 3 ≤ 5)
theorem AOk.far {A : AT} {n : Int} (O : AOk A n) : AOkD A n := ⟨⟨O.1.1, by have := O.1.2.1; omega, O.1.2.2⟩, O.2⟩
section FX1
theorem AOkD.h {A : AT} {n : Int} (O : AOkD A n) : ∀ s, 0 ≤ s → s < 8 → 0 ≤ A.h s ∧ A.h s ≤ 5 := O.2.1
end FX1
section FX2
theorem AOkD.l {A : AT} {n : Int} (O : AOkD A n) : ∀ s i, 0 ≤ s → s < 8 → 0 ≤ i → i < A.h s → 0 ≤ A.m s i ∧ A.m s i < n ∧ 1 ≤ A.g s i ∧ A.g s i ≤ 99 := O.2.2.1
end FX2
section FX3
variable {d t L T : Nat} {S : Nat → Nat × Nat} {w : Nat → Int → Int} {v : Nat → Nat → Int64} {r : Nat → Nat → Option Nat} {A : AT}
set_option maxHeartbeats 1000000 in
theorem c_takeFrom_D (hT : TbS S r t) {n : Int} (O : AOkD A n) (C : CRep w t A) {s p : Int} (h0 : 0 ≤ s) (h1 : s < 8) (p0 : 0 ≤ p) (p1 : p < A.h s) :
    ∃ w2, am_call d 266 [.ref t, .int (iI s), .int (iI p)] (L, T, S, am_w w, v, r) = some (none, (L, T, S, am_w w2, v, r)) ∧ CRep w2 t (A.take s (A.h s - 1 - p)) ∧ FrT t w w2 := by
  obtain ⟨t1, t2, t3, t4, t5, t6, t7, t8, t9⟩ := hT
  have ch := C.h s h0 h1
  have hh := O.h s h0 h1
  obtain ⟨N, hN⟩ := Int.eq_ofNat_of_zero_le (show 0 ≤ A.h s - 1 - p by omega)
  refine ⟨upI (shD w (t + 1) (t + 2) (s * 5 + p) N) (t + 3) s (A.h s - 1), ?_, ?_, ?_⟩
  · refine Eq.trans ?_ ((loop_up (fun k : Nat => am_run d 266 (am_B 266 7) [some (.ref t), some (.int (iI s)), some (.int (iI p)), some (.int (iI (s * 5))), some (.int (iI (p + (k : Int))))] [] (L, T, S, am_w (shD w (t + 1) (t + 2) (s * 5 + p) (k : Int)), v, r)) N ?_).trans ?_)
    · simp (decide := true) (disch := omega) only [en_266, bk_266_0, bk_266_66, bq_266_0, bq_266_7, bq_266_66, rn_iconst, rn_bipush, rn_sipush, rn_ldc_w, rn_ldc, rn_ldcS, rn_lconst, rn_ldc2, rn_gets, rn_iload0, rn_lload0, rn_aload0, rn_istore0, rn_astore0, rn_lstore0, rn_iinc0, rn_iload1, rn_lload1, rn_aload1, rn_istore1, rn_astore1, rn_lstore1, rn_iinc1, rn_iload2, rn_lload2, rn_aload2, rn_istore2, rn_astore2, rn_lstore2, rn_iinc2, rn_iload3, rn_lload3, rn_aload3, rn_istore3, rn_astore3, rn_lstore3, rn_iinc3, rn_iload4, rn_lload4, rn_aload4, rn_istore4, rn_astore4, rn_lstore4, rn_iinc4, rn_iload5, rn_lload5, rn_aload5, rn_istore5, rn_astore5, rn_lstore5, rn_iinc5, rn_iload6, rn_lload6, rn_aload6, rn_istore6, rn_astore6, rn_lstore6, rn_iinc6, rn_iload7, rn_aload7, rn_istore7, rn_astore7, rn_iinc7, rn_iload8, rn_aload8, rn_istore8, rn_astore8, rn_iinc8, rn_iload9, rn_aload9, rn_istore9, rn_astore9, rn_iinc9, rn_iadd, rn_isub, rn_imul, rn_iand, rn_ior, rn_ixor, rn_ishl, rn_ishr, rn_iushr, rn_idiv, rn_irem, rn_ineg, rn_ladd, rn_lsub, rn_lmul, rn_lor, rn_ldiv, rn_lrem, rn_lneg, rn_lshl, rn_lshr, rn_i2l, rn_l2i, rn_i2c, rn_lcmp, rn_dupi, rn_dupa, rn_popi, rn_popa, rn_dup2, rn_aast, rn_alen, rn_geta, rn_aald, rn_puta, rn_new, rn_newa, rn_anew, rn_min, rn_max, rn_slen, rn_chat, rn_indx, rn_objI, rn_nop, rn_goto, rn_ifeq, rn_ifne, rn_iflt, rn_ifge, rn_ifgt, rn_ifle, rn_iceq, rn_icne, rn_iclt, rn_icge, rn_icgt, rn_icle, rn_tsw, rn_lsw, rn_iret, rn_zret, rn_lret, rn_aret, rn_vret, rn_cs0, rn_cs1, rn_cs2, rn_cs3, rn_cs4, rn_cs5, rn_cs6, rn_cs7, rn_cv1, rn_ci1, rn_cv2, rn_ci2, rn_cv3, rn_ci3, rn_cv4, rn_cv5, rn_cv6, rn_cv7, cs_n, cs_i, cs_a, cs_l, rc_i, rc_a, rc_l, rc_n, rw_iald, rw_bald, rw_lald, rw_iast, rw_bast, rw_last, rw_geti, rw_getl, rw_puti, rw_putz, rw_putl, iI_add, iI_sub, iI_mul, iI_neg, iI_lt, iI_le, iI_eq, iI_lt0, iI_le0, iI_0lt, iI_0le, iI_eq0, iI_eq1, iI_div, iI_rem, am_in_ok, am_in_no, iI_toInt, iL_add, iL_sub, iL_mul, iL_neg, iL_div, iL_rem, iI_i2l, iL_l2i, iL_cmp, iL_eq0, iI_or, iI_and, iI_shl, if_true, if_false, true_or, or_true, true_and, and_true, false_or, or_false, not_true_eq_false, not_false_eq_true, Option.bind_some, Option.toList_some, Option.toList_none, List.nil_append, List.cons_append, ite_self, nc_0, nc_1, nc_2, nc_3, nc_4, nc_5, nc_6, nc_7, nc_8, nc_9, nc_10, nc_11, nc_12, nc_13, nc_14, nc_15, nc_16, nc_17, nc_18, nc_19, nc_20, nc_21, nc_22, nc_23, nc_24, nc_25, nc_26, nc_27, nc_28, nc_29, nc_30, nc_31, nc_32, nc_33, nc_34, nc_35, nc_36, nc_40, nc_48, nc_100, nc_256, nc_300, nc_304, Int.add_zero, shD_0, rw_copy, am_cp_ok]
    · intro k hk
      conv => lhs; rw [bk_266_7]
      have g1 : ¬ A.h s - 1 ≤ p + (k : Int) := by omega
      have e1 : shD w (t + 1) (t + 2) (s * 5 + p) (k : Int) (t + 3) s = A.h s := by rw [shD_n (by omega) (by omega), ch]
      have e2 : shD w (t + 1) (t + 2) (s * 5 + p) (k : Int) (t + 1) (s * 5 + (p + (k : Int)) + 1) = w (t + 1) (s * 5 + (p + (k : Int)) + 1) := shD_hi (by omega)
      have e3 : upI (shD w (t + 1) (t + 2) (s * 5 + p) (k : Int)) (t + 1) (s * 5 + (p + (k : Int))) (w (t + 1) (s * 5 + (p + (k : Int)) + 1)) (t + 2) (s * 5 + (p + (k : Int)) + 1) = w (t + 2) (s * 5 + (p + (k : Int)) + 1) := by rw [upI_1 (by omega), shD_hi (by omega)]
      have e4 := shD_s (w := w) (A1 := t + 1) (A2 := t + 2) (lo := s * 5 + p) (k := (k : Int)) (p := s * 5 + (p + (k : Int))) (by omega) (by omega)
      have ec : p + ((k + 1 : Nat) : Int) = p + (k : Int) + 1 := by omega
      have ed : ((k + 1 : Nat) : Int) = (k : Int) + 1 := by omega
      rw [ec, ed]
      simp (decide := true) (disch := omega) only [en_266, bk_266_0, bk_266_66, bq_266_0, bq_266_7, bq_266_66, rn_iconst, rn_bipush, rn_sipush, rn_ldc_w, rn_ldc, rn_ldcS, rn_lconst, rn_ldc2, rn_gets, rn_iload0, rn_lload0, rn_aload0, rn_istore0, rn_astore0, rn_lstore0, rn_iinc0, rn_iload1, rn_lload1, rn_aload1, rn_istore1, rn_astore1, rn_lstore1, rn_iinc1, rn_iload2, rn_lload2, rn_aload2, rn_istore2, rn_astore2, rn_lstore2, rn_iinc2, rn_iload3, rn_lload3, rn_aload3, rn_istore3, rn_astore3, rn_lstore3, rn_iinc3, rn_iload4, rn_lload4, rn_aload4, rn_istore4, rn_astore4, rn_lstore4, rn_iinc4, rn_iload5, rn_lload5, rn_aload5, rn_istore5, rn_astore5, rn_lstore5, rn_iinc5, rn_iload6, rn_lload6, rn_aload6, rn_istore6, rn_astore6, rn_lstore6, rn_iinc6, rn_iload7, rn_aload7, rn_istore7, rn_astore7, rn_iinc7, rn_iload8, rn_aload8, rn_istore8, rn_astore8, rn_iinc8, rn_iload9, rn_aload9, rn_istore9, rn_astore9, rn_iinc9, rn_iadd, rn_isub, rn_imul, rn_iand, rn_ior, rn_ixor, rn_ishl, rn_ishr, rn_iushr, rn_idiv, rn_irem, rn_ineg, rn_ladd, rn_lsub, rn_lmul, rn_lor, rn_ldiv, rn_lrem, rn_lneg, rn_lshl, rn_lshr, rn_i2l, rn_l2i, rn_i2c, rn_lcmp, rn_dupi, rn_dupa, rn_popi, rn_popa, rn_dup2, rn_aast, rn_alen, rn_geta, rn_aald, rn_puta, rn_new, rn_newa, rn_anew, rn_min, rn_max, rn_slen, rn_chat, rn_indx, rn_objI, rn_nop, rn_goto, rn_ifeq, rn_ifne, rn_iflt, rn_ifge, rn_ifgt, rn_ifle, rn_iceq, rn_icne, rn_iclt, rn_icge, rn_icgt, rn_icle, rn_tsw, rn_lsw, rn_iret, rn_zret, rn_lret, rn_aret, rn_vret, rn_cs0, rn_cs1, rn_cs2, rn_cs3, rn_cs4, rn_cs5, rn_cs6, rn_cs7, rn_cv1, rn_ci1, rn_cv2, rn_ci2, rn_cv3, rn_ci3, rn_cv4, rn_cv5, rn_cv6, rn_cv7, cs_n, cs_i, cs_a, cs_l, rc_i, rc_a, rc_l, rc_n, rw_iald, rw_bald, rw_lald, rw_iast, rw_bast, rw_last, rw_geti, rw_getl, rw_puti, rw_putz, rw_putl, iI_add, iI_sub, iI_mul, iI_neg, iI_lt, iI_le, iI_eq, iI_lt0, iI_le0, iI_0lt, iI_0le, iI_eq0, iI_eq1, iI_div, iI_rem, am_in_ok, am_in_no, iI_toInt, iL_add, iL_sub, iL_mul, iL_neg, iL_div, iL_rem, iI_i2l, iL_l2i, iL_cmp, iL_eq0, iI_or, iI_and, iI_shl, if_true, if_false, true_or, or_true, true_and, and_true, false_or, or_false, not_true_eq_false, not_false_eq_true, Option.bind_some, Option.toList_some, Option.toList_none, List.nil_append, List.cons_append, ite_self, nc_0, nc_1, nc_2, nc_3, nc_4, nc_5, nc_6, nc_7, nc_8, nc_9, nc_10, nc_11, nc_12, nc_13, nc_14, nc_15, nc_16, nc_17, nc_18, nc_19, nc_20, nc_21, nc_22, nc_23, nc_24, nc_25, nc_26, nc_27, nc_28, nc_29, nc_30, nc_31, nc_32, nc_33, nc_34, nc_35, nc_36, nc_40, nc_48, nc_100, nc_256, nc_300, nc_304, t1, t2, t3, t4, t5, t6, t7, t8, t9, e1, e2, e3, e4, g1, if_pos, if_neg, sh_0, sh_393, rw_copy, am_cp_ok]
    · conv => lhs; rw [bk_266_7]
      have g1 : A.h s - 1 ≤ p + (N : Int) := by omega
      have e1 : shD w (t + 1) (t + 2) (s * 5 + p) (N : Int) (t + 3) s = A.h s := by rw [shD_n (by omega) (by omega), ch]
      simp (decide := true) (disch := omega) only [en_266, bk_266_0, bk_266_66, bq_266_0, bq_266_7, bq_266_66, rn_iconst, rn_bipush, rn_sipush, rn_ldc_w, rn_ldc, rn_ldcS, rn_lconst, rn_ldc2, rn_gets, rn_iload0, rn_lload0, rn_aload0, rn_istore0, rn_astore0, rn_lstore0, rn_iinc0, rn_iload1, rn_lload1, rn_aload1, rn_istore1, rn_astore1, rn_lstore1, rn_iinc1, rn_iload2, rn_lload2, rn_aload2, rn_istore2, rn_astore2, rn_lstore2, rn_iinc2, rn_iload3, rn_lload3, rn_aload3, rn_istore3, rn_astore3, rn_lstore3, rn_iinc3, rn_iload4, rn_lload4, rn_aload4, rn_istore4, rn_astore4, rn_lstore4, rn_iinc4, rn_iload5, rn_lload5, rn_aload5, rn_istore5, rn_astore5, rn_lstore5, rn_iinc5, rn_iload6, rn_lload6, rn_aload6, rn_istore6, rn_astore6, rn_lstore6, rn_iinc6, rn_iload7, rn_aload7, rn_istore7, rn_astore7, rn_iinc7, rn_iload8, rn_aload8, rn_istore8, rn_astore8, rn_iinc8, rn_iload9, rn_aload9, rn_istore9, rn_astore9, rn_iinc9, rn_iadd, rn_isub, rn_imul, rn_iand, rn_ior, rn_ixor, rn_ishl, rn_ishr, rn_iushr, rn_idiv, rn_irem, rn_ineg, rn_ladd, rn_lsub, rn_lmul, rn_lor, rn_ldiv, rn_lrem, rn_lneg, rn_lshl, rn_lshr, rn_i2l, rn_l2i, rn_i2c, rn_lcmp, rn_dupi, rn_dupa, rn_popi, rn_popa, rn_dup2, rn_aast, rn_alen, rn_geta, rn_aald, rn_puta, rn_new, rn_newa, rn_anew, rn_min, rn_max, rn_slen, rn_chat, rn_indx, rn_objI, rn_nop, rn_goto, rn_ifeq, rn_ifne, rn_iflt, rn_ifge, rn_ifgt, rn_ifle, rn_iceq, rn_icne, rn_iclt, rn_icge, rn_icgt, rn_icle, rn_tsw, rn_lsw, rn_iret, rn_zret, rn_lret, rn_aret, rn_vret, rn_cs0, rn_cs1, rn_cs2, rn_cs3, rn_cs4, rn_cs5, rn_cs6, rn_cs7, rn_cv1, rn_ci1, rn_cv2, rn_ci2, rn_cv3, rn_ci3, rn_cv4, rn_cv5, rn_cv6, rn_cv7, cs_n, cs_i, cs_a, cs_l, rc_i, rc_a, rc_l, rc_n, rw_iald, rw_bald, rw_lald, rw_iast, rw_bast, rw_last, rw_geti, rw_getl, rw_puti, rw_putz, rw_putl, iI_add, iI_sub, iI_mul, iI_neg, iI_lt, iI_le, iI_eq, iI_lt0, iI_le0, iI_0lt, iI_0le, iI_eq0, iI_eq1, iI_div, iI_rem, am_in_ok, am_in_no, iI_toInt, iL_add, iL_sub, iL_mul, iL_neg, iL_div, iL_rem, iI_i2l, iL_l2i, iL_cmp, iL_eq0, iI_or, iI_and, iI_shl, if_true, if_false, true_or, or_true, true_and, and_true, false_or, or_false, not_true_eq_false, not_false_eq_true, Option.bind_some, Option.toList_some, Option.toList_none, List.nil_append, List.cons_append, ite_self, nc_0, nc_1, nc_2, nc_3, nc_4, nc_5, nc_6, nc_7, nc_8, nc_9, nc_10, nc_11, nc_12, nc_13, nc_14, nc_15, nc_16, nc_17, nc_18, nc_19, nc_20, nc_21, nc_22, nc_23, nc_24, nc_25, nc_26, nc_27, nc_28, nc_29, nc_30, nc_31, nc_32, nc_33, nc_34, nc_35, nc_36, nc_40, nc_48, nc_100, nc_256, nc_300, nc_304, t1, t2, t3, t4, t5, t6, t7, t8, t9, e1, g1, if_pos, if_neg, sh_0, sh_393, rw_copy, am_cp_ok]
  · refine ⟨?_, ?_, ?_, ?_, ?_, ?_, ?_⟩
    · rw [upI_1 (by omega), shD_n (by omega) (by omega)]; exact C.d
    · rw [upI_1 (by omega), shD_n (by omega) (by omega)]; exact C.x
    · rw [upI_1 (by omega), shD_n (by omega) (by omega)]; exact C.m
    · rw [upI_1 (by omega), shD_n (by omega) (by omega)]; exact C.nb
    · intro q q0 q1
      show _ = if q = s then A.h s - 1 else A.h q
      by_cases e : q = s
      · subst e; rw [upI_s, if_pos rfl]
      · rw [upI_2 e, if_neg e, shD_n (by omega) (by omega)]; exact C.h q q0 q1
    · intro q k q0 q1 k0 k1
      have k1 : k < if q = s then A.h s - 1 else A.h q := k1
      show upI _ _ _ _ _ (q * 5 + ((if q = s then A.h s - 1 else A.h q) - 1 - k)) = (if q = s ∧ A.h s - 1 - p ≤ k then A.m s (k + 1) else A.m q k) ∧ upI _ _ _ _ _ (q * 5 + ((if q = s then A.h s - 1 else A.h q) - 1 - k)) = (if q = s ∧ A.h s - 1 - p ≤ k then A.g s (k + 1) else A.g q k)
      rw [upI_1 (by omega), upI_1 (by omega)]
      by_cases e : q = s
      · subst e
        rw [if_pos rfl] at k1 ⊢
        by_cases e2 : A.h q - 1 - p ≤ k
        · have := C.l q (k + 1) q0 q1 (by omega) (by omega)
          rw [show q * 5 + (A.h q - 1 - (k + 1)) = q * 5 + (A.h q - 1 - 1 - k) by omega] at this
          rw [if_pos ⟨rfl, e2⟩, if_pos ⟨rfl, e2⟩]
          unfold shD
          rw [if_neg (by omega), if_neg (by omega)]
          exact this
        · have := C.l q k q0 q1 (by omega) (by omega)
          rw [show q * 5 + (A.h q - 1 - k) = q * 5 + (A.h q - 1 - 1 - k) + 1 by omega] at this
          rw [if_neg (by omega), if_neg (by omega)]
          unfold shD
          rw [if_pos (by omega), if_pos (by omega)]
          exact this
      · rw [if_neg e] at k1 ⊢
        have := C.l q k q0 q1 k0 k1
        have ho := O.h q q0 q1
        rw [if_neg (by omega), if_neg (by omega)]
        unfold shD
        rw [if_neg (by omega), if_neg (by omega)]
        exact this
    · intro i k i0 i1 k0 k1
      rw [upI_1 (by omega), shD_n (by omega) (by omega)]; exact C.b i k i0 i1 k0 k1
  · intro a ha _ _
    funext e
    rw [upI_1 (by omega), shD_n (by omega) (by omega)]
end FX3
section FX4
variable {d t L T : Nat} {S : Nat → Nat × Nat} {w : Nat → Int → Int} {v : Nat → Nat → Int64} {r : Nat → Nat → Option Nat} {A : AT} {n : Int}
set_option maxHeartbeats 1000000 in
theorem c_setStrong1_D (hT : TbS S r t) (O : AOkD A n) (C : CRep w t A) {s i z : Int} (h0 : 0 ≤ s) (h1 : s < 8) (i0 : 0 ≤ i) (i1 : i < A.h s) (z0 : 1 ≤ z) (z1 : z ≤ 1000000) :
    ∃ w2, am_call d 231 [.ref t, .int (iI s), .int (iI i), .int (iI z)] (L, T, S, am_w w, v, r) = some (none, (L, T, S, am_w w2, v, r)) ∧ CRep w2 t (A.str s i (min99 z)) ∧ FrT t w w2 := by
  obtain ⟨t1, t2, t3, t4, t5, t6, t7, t8, t9⟩ := hT
  have ch := C.h s h0 h1
  have hh := O.h s h0 h1
  refine ⟨upI w (t + 2) (s * 5 + (A.h s - 1 - i)) (min99 z), ?_, ?_, ?_⟩
  · have e1 : ¬ A.h s - 1 - i < 0 := by omega
    by_cases c : 99 < z
    · have e2 : min99 z = 99 := by unfold min99; rw [if_pos c]
      simp (decide := true) (disch := omega) only [en_231, bk_231_0, bk_231_21, bk_231_22, bk_231_46, bk_231_53, bq_231_0, bq_231_21, bq_231_22, bq_231_46, bq_231_53, rn_iconst, rn_bipush, rn_sipush, rn_ldc_w, rn_ldc, rn_ldcS, rn_lconst, rn_ldc2, rn_gets, rn_iload0, rn_lload0, rn_aload0, rn_istore0, rn_astore0, rn_lstore0, rn_iinc0, rn_iload1, rn_lload1, rn_aload1, rn_istore1, rn_astore1, rn_lstore1, rn_iinc1, rn_iload2, rn_lload2, rn_aload2, rn_istore2, rn_astore2, rn_lstore2, rn_iinc2, rn_iload3, rn_lload3, rn_aload3, rn_istore3, rn_astore3, rn_lstore3, rn_iinc3, rn_iload4, rn_lload4, rn_aload4, rn_istore4, rn_astore4, rn_lstore4, rn_iinc4, rn_iload5, rn_lload5, rn_aload5, rn_istore5, rn_astore5, rn_lstore5, rn_iinc5, rn_iload6, rn_lload6, rn_aload6, rn_istore6, rn_astore6, rn_lstore6, rn_iinc6, rn_iload7, rn_aload7, rn_istore7, rn_astore7, rn_iinc7, rn_iload8, rn_aload8, rn_istore8, rn_astore8, rn_iinc8, rn_iload9, rn_aload9, rn_istore9, rn_astore9, rn_iinc9, rn_iadd, rn_isub, rn_imul, rn_iand, rn_ior, rn_ixor, rn_ishl, rn_ishr, rn_iushr, rn_idiv, rn_irem, rn_ineg, rn_ladd, rn_lsub, rn_lmul, rn_lor, rn_ldiv, rn_lrem, rn_lneg, rn_lshl, rn_lshr, rn_i2l, rn_l2i, rn_i2c, rn_lcmp, rn_dupi, rn_dupa, rn_popi, rn_popa, rn_dup2, rn_aast, rn_alen, rn_geta, rn_aald, rn_puta, rn_new, rn_newa, rn_anew, rn_min, rn_max, rn_slen, rn_chat, rn_indx, rn_objI, rn_nop, rn_goto, rn_ifeq, rn_ifne, rn_iflt, rn_ifge, rn_ifgt, rn_ifle, rn_iceq, rn_icne, rn_iclt, rn_icge, rn_icgt, rn_icle, rn_tsw, rn_lsw, rn_iret, rn_zret, rn_lret, rn_aret, rn_vret, rn_cs0, rn_cs1, rn_cs2, rn_cs3, rn_cs4, rn_cs5, rn_cs6, rn_cs7, rn_cv1, rn_ci1, rn_cv2, rn_ci2, rn_cv3, rn_ci3, rn_cv4, rn_cv5, rn_cv6, rn_cv7, cs_n, cs_i, cs_a, cs_l, rc_i, rc_a, rc_l, rc_n, rw_iald, rw_bald, rw_lald, rw_iast, rw_bast, rw_last, rw_geti, rw_getl, rw_puti, rw_putz, rw_putl, iI_add, iI_sub, iI_mul, iI_neg, iI_lt, iI_le, iI_eq, iI_lt0, iI_le0, iI_0lt, iI_0le, iI_eq0, iI_eq1, iI_div, iI_rem, am_in_ok, am_in_no, iI_toInt, iL_add, iL_sub, iL_mul, iL_neg, iL_div, iL_rem, iI_i2l, iL_l2i, iL_cmp, iL_eq0, iI_or, iI_and, iI_shl, if_true, if_false, true_or, or_true, true_and, and_true, false_or, or_false, not_true_eq_false, not_false_eq_true, Option.bind_some, Option.toList_some, Option.toList_none, List.nil_append, List.cons_append, ite_self, nc_0, nc_1, nc_2, nc_3, nc_4, nc_5, nc_6, nc_7, nc_8, nc_9, nc_10, nc_11, nc_12, nc_13, nc_14, nc_15, nc_16, nc_17, nc_18, nc_19, nc_20, nc_21, nc_22, nc_23, nc_24, nc_25, nc_26, nc_27, nc_28, nc_29, nc_30, nc_31, nc_32, nc_33, nc_34, nc_35, nc_36, nc_40, nc_48, nc_100, nc_256, nc_300, nc_304, t1, t2, t3, t4, t5, t6, t7, t8, t9, ch, e1, e2, if_pos, if_neg, sh_0, sh_393, rw_copy, am_cp_ok]
    · have e2 : min99 z = z := by unfold min99; rw [if_neg c]
      simp (decide := true) (disch := omega) only [en_231, bk_231_0, bk_231_21, bk_231_22, bk_231_46, bk_231_53, bq_231_0, bq_231_21, bq_231_22, bq_231_46, bq_231_53, rn_iconst, rn_bipush, rn_sipush, rn_ldc_w, rn_ldc, rn_ldcS, rn_lconst, rn_ldc2, rn_gets, rn_iload0, rn_lload0, rn_aload0, rn_istore0, rn_astore0, rn_lstore0, rn_iinc0, rn_iload1, rn_lload1, rn_aload1, rn_istore1, rn_astore1, rn_lstore1, rn_iinc1, rn_iload2, rn_lload2, rn_aload2, rn_istore2, rn_astore2, rn_lstore2, rn_iinc2, rn_iload3, rn_lload3, rn_aload3, rn_istore3, rn_astore3, rn_lstore3, rn_iinc3, rn_iload4, rn_lload4, rn_aload4, rn_istore4, rn_astore4, rn_lstore4, rn_iinc4, rn_iload5, rn_lload5, rn_aload5, rn_istore5, rn_astore5, rn_lstore5, rn_iinc5, rn_iload6, rn_lload6, rn_aload6, rn_istore6, rn_astore6, rn_lstore6, rn_iinc6, rn_iload7, rn_aload7, rn_istore7, rn_astore7, rn_iinc7, rn_iload8, rn_aload8, rn_istore8, rn_astore8, rn_iinc8, rn_iload9, rn_aload9, rn_istore9, rn_astore9, rn_iinc9, rn_iadd, rn_isub, rn_imul, rn_iand, rn_ior, rn_ixor, rn_ishl, rn_ishr, rn_iushr, rn_idiv, rn_irem, rn_ineg, rn_ladd, rn_lsub, rn_lmul, rn_lor, rn_ldiv, rn_lrem, rn_lneg, rn_lshl, rn_lshr, rn_i2l, rn_l2i, rn_i2c, rn_lcmp, rn_dupi, rn_dupa, rn_popi, rn_popa, rn_dup2, rn_aast, rn_alen, rn_geta, rn_aald, rn_puta, rn_new, rn_newa, rn_anew, rn_min, rn_max, rn_slen, rn_chat, rn_indx, rn_objI, rn_nop, rn_goto, rn_ifeq, rn_ifne, rn_iflt, rn_ifge, rn_ifgt, rn_ifle, rn_iceq, rn_icne, rn_iclt, rn_icge, rn_icgt, rn_icle, rn_tsw, rn_lsw, rn_iret, rn_zret, rn_lret, rn_aret, rn_vret, rn_cs0, rn_cs1, rn_cs2, rn_cs3, rn_cs4, rn_cs5, rn_cs6, rn_cs7, rn_cv1, rn_ci1, rn_cv2, rn_ci2, rn_cv3, rn_ci3, rn_cv4, rn_cv5, rn_cv6, rn_cv7, cs_n, cs_i, cs_a, cs_l, rc_i, rc_a, rc_l, rc_n, rw_iald, rw_bald, rw_lald, rw_iast, rw_bast, rw_last, rw_geti, rw_getl, rw_puti, rw_putz, rw_putl, iI_add, iI_sub, iI_mul, iI_neg, iI_lt, iI_le, iI_eq, iI_lt0, iI_le0, iI_0lt, iI_0le, iI_eq0, iI_eq1, iI_div, iI_rem, am_in_ok, am_in_no, iI_toInt, iL_add, iL_sub, iL_mul, iL_neg, iL_div, iL_rem, iI_i2l, iL_l2i, iL_cmp, iL_eq0, iI_or, iI_and, iI_shl, if_true, if_false, true_or, or_true, true_and, and_true, false_or, or_false, not_true_eq_false, not_false_eq_true, Option.bind_some, Option.toList_some, Option.toList_none, List.nil_append, List.cons_append, ite_self, nc_0, nc_1, nc_2, nc_3, nc_4, nc_5, nc_6, nc_7, nc_8, nc_9, nc_10, nc_11, nc_12, nc_13, nc_14, nc_15, nc_16, nc_17, nc_18, nc_19, nc_20, nc_21, nc_22, nc_23, nc_24, nc_25, nc_26, nc_27, nc_28, nc_29, nc_30, nc_31, nc_32, nc_33, nc_34, nc_35, nc_36, nc_40, nc_48, nc_100, nc_256, nc_300, nc_304, t1, t2, t3, t4, t5, t6, t7, t8, t9, ch, e1, e2, if_pos, if_neg, sh_0, sh_393, rw_copy, am_cp_ok]
  · refine ⟨?_, ?_, ?_, ?_, ?_, ?_, ?_⟩
    · rw [upI_1 (by omega)]; exact C.d
    · rw [upI_1 (by omega)]; exact C.x
    · rw [upI_1 (by omega)]; exact C.m
    · rw [upI_1 (by omega)]; exact C.nb
    · intro q q0 q1; rw [upI_1 (by omega)]; exact C.h q q0 q1
    · intro q k q0 q1 k0 k1
      have k1 : k < A.h q := k1
      have cl := C.l q k q0 q1 k0 k1
      have ho := O.h q q0 q1
      refine ⟨by rw [upI_1 (by omega)]; exact cl.1, ?_⟩
      show upI _ _ _ _ _ (q * 5 + (A.h q - 1 - k)) = if q = s ∧ k = i then min99 z else A.g q k
      by_cases e : q = s ∧ k = i
      · rw [if_pos e, e.1, e.2, upI_s]
      · rw [if_neg e]
        by_cases e2 : q = s
        · subst e2
          rw [upI_2 (by omega)]; exact cl.2
        · rw [upI_2 (by omega)]; exact cl.2
    · intro i k i0 i1 k0 k1; rw [upI_1 (by omega)]; exact C.b i k i0 i1 k0 k1
  · intro a ha _ _
    funext e
    rw [upI_1 (by omega)]
end FX4
section FX5
variable {d t L T : Nat} {S : Nat → Nat × Nat} {w : Nat → Int → Int} {v : Nat → Nat → Int64} {r : Nat → Nat → Option Nat} {A : AT} {n : Int}
set_option maxHeartbeats 1000000 in
theorem c_setStrong0_D (hT : TbS S r t) (O : AOkD A n) (C : CRep w t A) {s i z : Int} (h0 : 0 ≤ s) (h1 : s < 8) (i0 : 0 ≤ i) (i1 : i < A.h s) (z0 : -1000000 ≤ z) (z1 : z ≤ 0) :
    ∃ w2, am_call (d + 1) 231 [.ref t, .int (iI s), .int (iI i), .int (iI z)] (L, T, S, am_w w, v, r) = some (none, (L, T, S, am_w w2, v, r)) ∧ CRep w2 t (A.take s i) ∧ FrT t w w2 := by
  have hT' := hT
  obtain ⟨t1, t2, t3, t4, t5, t6, t7, t8, t9⟩ := hT
  have ch := C.h s h0 h1
  have hh := O.h s h0 h1
  obtain ⟨w2, e, C2, F2⟩ := c_takeFrom_D (d := d) (L := L) (T := T) (v := v) hT' O C (s := s) (p := A.h s - 1 - i) h0 h1 (by omega) (by omega)
  rw [show A.h s - 1 - (A.h s - 1 - i) = i by omega] at C2
  refine ⟨w2, ?_, C2, F2⟩
  have e1 : ¬ A.h s - 1 - i < 0 := by omega
  simp (decide := true) (disch := omega) only [en_231, bk_231_0, bk_231_21, bk_231_22, bk_231_46, bk_231_53, bq_231_0, bq_231_21, bq_231_22, bq_231_46, bq_231_53, rn_iconst, rn_bipush, rn_sipush, rn_ldc_w, rn_ldc, rn_ldcS, rn_lconst, rn_ldc2, rn_gets, rn_iload0, rn_lload0, rn_aload0, rn_istore0, rn_astore0, rn_lstore0, rn_iinc0, rn_iload1, rn_lload1, rn_aload1, rn_istore1, rn_astore1, rn_lstore1, rn_iinc1, rn_iload2, rn_lload2, rn_aload2, rn_istore2, rn_astore2, rn_lstore2, rn_iinc2, rn_iload3, rn_lload3, rn_aload3, rn_istore3, rn_astore3, rn_lstore3, rn_iinc3, rn_iload4, rn_lload4, rn_aload4, rn_istore4, rn_astore4, rn_lstore4, rn_iinc4, rn_iload5, rn_lload5, rn_aload5, rn_istore5, rn_astore5, rn_lstore5, rn_iinc5, rn_iload6, rn_lload6, rn_aload6, rn_istore6, rn_astore6, rn_lstore6, rn_iinc6, rn_iload7, rn_aload7, rn_istore7, rn_astore7, rn_iinc7, rn_iload8, rn_aload8, rn_istore8, rn_astore8, rn_iinc8, rn_iload9, rn_aload9, rn_istore9, rn_astore9, rn_iinc9, rn_iadd, rn_isub, rn_imul, rn_iand, rn_ior, rn_ixor, rn_ishl, rn_ishr, rn_iushr, rn_idiv, rn_irem, rn_ineg, rn_ladd, rn_lsub, rn_lmul, rn_lor, rn_ldiv, rn_lrem, rn_lneg, rn_lshl, rn_lshr, rn_i2l, rn_l2i, rn_i2c, rn_lcmp, rn_dupi, rn_dupa, rn_popi, rn_popa, rn_dup2, rn_aast, rn_alen, rn_geta, rn_aald, rn_puta, rn_new, rn_newa, rn_anew, rn_min, rn_max, rn_slen, rn_chat, rn_indx, rn_objI, rn_nop, rn_goto, rn_ifeq, rn_ifne, rn_iflt, rn_ifge, rn_ifgt, rn_ifle, rn_iceq, rn_icne, rn_iclt, rn_icge, rn_icgt, rn_icle, rn_tsw, rn_lsw, rn_iret, rn_zret, rn_lret, rn_aret, rn_vret, rn_cs0, rn_cs1, rn_cs2, rn_cs3, rn_cs4, rn_cs5, rn_cs6, rn_cs7, rn_cv1, rn_ci1, rn_cv2, rn_ci2, rn_cv3, rn_ci3, rn_cv4, rn_cv5, rn_cv6, rn_cv7, cs_n, cs_i, cs_a, cs_l, rc_i, rc_a, rc_l, rc_n, rw_iald, rw_bald, rw_lald, rw_iast, rw_bast, rw_last, rw_geti, rw_getl, rw_puti, rw_putz, rw_putl, iI_add, iI_sub, iI_mul, iI_neg, iI_lt, iI_le, iI_eq, iI_lt0, iI_le0, iI_0lt, iI_0le, iI_eq0, iI_eq1, iI_div, iI_rem, am_in_ok, am_in_no, iI_toInt, iL_add, iL_sub, iL_mul, iL_neg, iL_div, iL_rem, iI_i2l, iL_l2i, iL_cmp, iL_eq0, iI_or, iI_and, iI_shl, if_true, if_false, true_or, or_true, true_and, and_true, false_or, or_false, not_true_eq_false, not_false_eq_true, Option.bind_some, Option.toList_some, Option.toList_none, List.nil_append, List.cons_append, ite_self, nc_0, nc_1, nc_2, nc_3, nc_4, nc_5, nc_6, nc_7, nc_8, nc_9, nc_10, nc_11, nc_12, nc_13, nc_14, nc_15, nc_16, nc_17, nc_18, nc_19, nc_20, nc_21, nc_22, nc_23, nc_24, nc_25, nc_26, nc_27, nc_28, nc_29, nc_30, nc_31, nc_32, nc_33, nc_34, nc_35, nc_36, nc_40, nc_48, nc_100, nc_256, nc_300, nc_304, t1, t2, t3, t4, t5, t6, t7, t8, t9, ch, e1, e, mx_266, if_pos, if_neg, sh_0, sh_393, rw_copy, am_cp_ok]
end FX5
section FX6
variable {A : AT} {n s i z e c : Int}
theorem AOkD.take (O : AOkD A n) (h0 : 0 ≤ s) (h1 : s < 8) (i0 : 0 ≤ i) (i1 : i < A.h s) : AOkD (A.take s i) n := by
  refine ⟨O.1, fun q q0 q1 => ?_, fun q k q0 q1 k0 k1 => ?_, O.2.2.2⟩
  · have := O.h q q0 q1
    show 0 ≤ (if q = s then A.h s - 1 else A.h q) ∧ (if q = s then A.h s - 1 else A.h q) ≤ 5
    split
    · rename_i e; subst e; omega
    · exact this
  · have k1 : k < if q = s then A.h s - 1 else A.h q := k1
    show 0 ≤ (if q = s ∧ i ≤ k then A.m s (k + 1) else A.m q k) ∧ (if q = s ∧ i ≤ k then A.m s (k + 1) else A.m q k) < n ∧ 1 ≤ (if q = s ∧ i ≤ k then A.g s (k + 1) else A.g q k) ∧ (if q = s ∧ i ≤ k then A.g s (k + 1) else A.g q k) ≤ 99
    by_cases e : q = s ∧ i ≤ k
    · simp only [if_pos e]
      rw [if_pos e.1] at k1
      exact O.l s (k + 1) h0 h1 (by omega) (by omega)
    · simp only [if_neg e]
      refine O.l q k q0 q1 k0 ?_
      by_cases e2 : q = s
      · rw [if_pos e2] at k1; subst e2; omega
      · rw [if_neg e2] at k1; exact k1
end FX6
section FX7
variable {A : AT} {n s i z e c : Int}
theorem AOkD.str (O : AOkD A n) (z0 : 1 ≤ z) (z1 : z ≤ 99) : AOkD (A.str s i z) n := by
  refine ⟨O.1, O.2.1, fun q k q0 q1 k0 k1 => ?_, O.2.2.2⟩
  have := O.l q k q0 q1 k0 k1
  show 0 ≤ A.m q k ∧ A.m q k < n ∧ 1 ≤ (if q = s ∧ k = i then z else A.g q k) ∧ (if q = s ∧ k = i then z else A.g q k) ≤ 99
  by_cases e : q = s ∧ k = i
  · simp only [if_pos e]; omega
  · simp only [if_neg e]; exact this
end FX7
section FX8
variable {A : AT} {n s i z e c : Int}
theorem AOkD.top (O : AOkD A n) (hn : n ≤ 6) (h0 : 0 ≤ s) (h1 : s < 8) : -1 ≤ A.top s ∧ A.top s ≤ 5 := by
  unfold AT.top
  split
  · rename_i g; have := O.l s 0 h0 h1 (by omega) g; omega
  · omega
end FX8
section FX9
variable {A : AT} {n s i z e c : Int}
theorem AOkD.nxt (O : AOkD A n) (h : A.din < 10100) : AOkD A.nxt n := by
  obtain ⟨o1, o2, o3, o4, o5, o6, o7, o8⟩ := O.1
  exact ⟨⟨by show 0 ≤ A.din + 1; omega, by show A.din + 1 ≤ 10100; omega, o3, o4, o5, o6, o7, o8⟩, O.2.1, O.2.2.1, O.2.2.2⟩
end FX9
section FX10
variable {d L T o n : Nat} {u : Nat → Int → Int} {v : Nat → Nat → Int64} {A : AT} {N : Int} {bk : Bool}
theorem MRep.viewD (R : MRep bk u A) (O : AOkD A N) (hN : N ≤ 6) {s i : Int} (h0 : 0 ≤ s) (h1 : s < 8) (i0 : 0 ≤ i) (i1 : i < A.h s) : (u 394 (19 + 5 * s + i)).tdiv 100 = A.m s i ∧ (u 394 (19 + 5 * s + i)).tmod 100 = A.g s i ∧ 0 ≤ u 394 (19 + 5 * s + i) ∧ u 394 (19 + 5 * s + i) ≤ 600 := by
  have r := R.l s i h0 h1 i0 i1
  have a := O.l s i h0 h1 i0 i1
  have hp : 0 ≤ u 394 (19 + 5 * s + i) := by omega
  rw [Int.tdiv_eq_ediv_of_nonneg hp, Int.tmod_eq_emod_of_nonneg hp]
  omega
end FX10
section FX11
variable {d L T o n : Nat} {u : Nat → Int → Int} {v : Nat → Nat → Int64} {A : AT} {N : Int} {bk : Bool}
set_option maxHeartbeats 1000000 in
theorem m_takeLayer_D (O : AOkD A N) (R : MRep bk u A) {s i : Int} (h0 : 0 ≤ s) (h1 : s < 8) (i0 : 0 ≤ i) (i1 : i < A.h s) :
    ∃ u2, am_call (d + 1) 229 [.ref 393, .int (iI s), .int (iI i)] (L, T, S0 n, am_w u, v, R0 o) = some (none, (L, T, S0 n, am_w u2, v, R0 o)) ∧ MRep bk u2 (A.take s i) ∧ FrM bk u u2 := by
  have rh := R.h s h0 h1
  have hh := O.h s h0 h1
  obtain ⟨K, hK⟩ := Int.eq_ofNat_of_zero_le (show 0 ≤ A.h s - 1 - i by omega)
  refine ⟨upI (shD (upI u 394 (11 + s) (A.h s - 1)) 394 394 (19 + 5 * s + i) K) 394 (19 + 5 * s + (A.h s - 1)) 0, ?_, ?_, ?_⟩
  · have e0 : ∀ k : Nat, shD (upI u 394 (11 + s) (A.h s - 1)) 394 394 (19 + 5 * s + i) (k : Int) 394 (11 + s) = A.h s - 1 := fun k => by rw [shD_lo (by omega), upI_s]
    refine Eq.trans ?_ ((loop_up (fun k : Nat => am_run (d + 1) 229 (am_B 229 15) [some (.ref 393), some (.int (iI s)), some (.int (iI i)), some (.int (iI (i + (k : Int))))] [] (L, T, S0 n, am_w (shD (upI u 394 (11 + s) (A.h s - 1)) 394 394 (19 + 5 * s + i) (k : Int)), v, R0 o)) K ?_).trans ?_)
    · simp (decide := true) (disch := omega) only [en_229, bk_229_0, bk_229_58, bq_229_0, bq_229_15, bq_229_58, rn_iconst, rn_bipush, rn_sipush, rn_ldc_w, rn_ldc, rn_ldcS, rn_lconst, rn_ldc2, rn_gets, rn_iload0, rn_lload0, rn_aload0, rn_istore0, rn_astore0, rn_lstore0, rn_iinc0, rn_iload1, rn_lload1, rn_aload1, rn_istore1, rn_astore1, rn_lstore1, rn_iinc1, rn_iload2, rn_lload2, rn_aload2, rn_istore2, rn_astore2, rn_lstore2, rn_iinc2, rn_iload3, rn_lload3, rn_aload3, rn_istore3, rn_astore3, rn_lstore3, rn_iinc3, rn_iload4, rn_lload4, rn_aload4, rn_istore4, rn_astore4, rn_lstore4, rn_iinc4, rn_iload5, rn_lload5, rn_aload5, rn_istore5, rn_astore5, rn_lstore5, rn_iinc5, rn_iload6, rn_lload6, rn_aload6, rn_istore6, rn_astore6, rn_lstore6, rn_iinc6, rn_iload7, rn_aload7, rn_istore7, rn_astore7, rn_iinc7, rn_iload8, rn_aload8, rn_istore8, rn_astore8, rn_iinc8, rn_iload9, rn_aload9, rn_istore9, rn_astore9, rn_iinc9, rn_iadd, rn_isub, rn_imul, rn_iand, rn_ior, rn_ixor, rn_ishl, rn_ishr, rn_iushr, rn_idiv, rn_irem, rn_ineg, rn_ladd, rn_lsub, rn_lmul, rn_lor, rn_ldiv, rn_lrem, rn_lneg, rn_lshl, rn_lshr, rn_i2l, rn_l2i, rn_i2c, rn_lcmp, rn_dupi, rn_dupa, rn_popi, rn_popa, rn_dup2, rn_aast, rn_alen, rn_geta, rn_aald, rn_puta, rn_new, rn_newa, rn_anew, rn_min, rn_max, rn_slen, rn_chat, rn_indx, rn_objI, rn_nop, rn_goto, rn_ifeq, rn_ifne, rn_iflt, rn_ifge, rn_ifgt, rn_ifle, rn_iceq, rn_icne, rn_iclt, rn_icge, rn_icgt, rn_icle, rn_tsw, rn_lsw, rn_iret, rn_zret, rn_lret, rn_aret, rn_vret, rn_cs0, rn_cs1, rn_cs2, rn_cs3, rn_cs4, rn_cs5, rn_cs6, rn_cs7, rn_cv1, rn_ci1, rn_cv2, rn_ci2, rn_cv3, rn_ci3, rn_cv4, rn_cv5, rn_cv6, rn_cv7, cs_n, cs_i, cs_a, cs_l, rc_i, rc_a, rc_l, rc_n, rw_iald, rw_bald, rw_lald, rw_iast, rw_bast, rw_last, rw_geti, rw_getl, rw_puti, rw_putz, rw_putl, iI_add, iI_sub, iI_mul, iI_neg, iI_lt, iI_le, iI_eq, iI_lt0, iI_le0, iI_0lt, iI_0le, iI_eq0, iI_eq1, iI_div, iI_rem, am_in_ok, am_in_no, iI_toInt, iL_add, iL_sub, iL_mul, iL_neg, iL_div, iL_rem, iI_i2l, iL_l2i, iL_cmp, iL_eq0, iI_or, iI_and, iI_shl, if_true, if_false, true_or, or_true, true_and, and_true, false_or, or_false, not_true_eq_false, not_false_eq_true, Option.bind_some, Option.toList_some, Option.toList_none, List.nil_append, List.cons_append, ite_self, nc_0, nc_1, nc_2, nc_3, nc_4, nc_5, nc_6, nc_7, nc_8, nc_9, nc_10, nc_11, nc_12, nc_13, nc_14, nc_15, nc_16, nc_17, nc_18, nc_19, nc_20, nc_21, nc_22, nc_23, nc_24, nc_25, nc_26, nc_27, nc_28, nc_29, nc_30, nc_31, nc_32, nc_33, nc_34, nc_35, nc_36, nc_40, nc_48, nc_100, nc_256, nc_300, nc_304, sh_393, rf_393_0, rf_393_1, rf_393_2, rf_393_3, rf_393_15, rf_393_20, rf_393_21, rf_393_22, rf_393_27, rf_393_28, rf_393_29, rf_393_30, rf_393_34, sh_394, rh, Int.add_zero, shD_0, if_pos, if_neg, sh_0, sh_393, rw_copy, am_cp_ok]
    · intro k hk
      conv => lhs; rw [bk_229_15]
      have g1 : ¬ A.h s - 1 ≤ i + (k : Int) := by omega
      have e1 := e0 k
      have e2 : shD (upI u 394 (11 + s) (A.h s - 1)) 394 394 (19 + 5 * s + i) (k : Int) 394 (19 + 5 * s + (i + (k : Int)) + 1) = upI u 394 (11 + s) (A.h s - 1) 394 (19 + 5 * s + (i + (k : Int)) + 1) := shD_hi (by omega)
      have e4 := shD_s1 (w := upI u 394 (11 + s) (A.h s - 1)) (a := 394) (lo := 19 + 5 * s + i) (k := (k : Int)) (p := 19 + 5 * s + (i + (k : Int))) (by omega) (by omega)
      have ec : i + ((k + 1 : Nat) : Int) = i + (k : Int) + 1 := by omega
      have ed : ((k + 1 : Nat) : Int) = (k : Int) + 1 := by omega
      rw [ec, ed]
      simp (decide := true) (disch := omega) only [en_229, bk_229_0, bk_229_58, bq_229_0, bq_229_15, bq_229_58, rn_iconst, rn_bipush, rn_sipush, rn_ldc_w, rn_ldc, rn_ldcS, rn_lconst, rn_ldc2, rn_gets, rn_iload0, rn_lload0, rn_aload0, rn_istore0, rn_astore0, rn_lstore0, rn_iinc0, rn_iload1, rn_lload1, rn_aload1, rn_istore1, rn_astore1, rn_lstore1, rn_iinc1, rn_iload2, rn_lload2, rn_aload2, rn_istore2, rn_astore2, rn_lstore2, rn_iinc2, rn_iload3, rn_lload3, rn_aload3, rn_istore3, rn_astore3, rn_lstore3, rn_iinc3, rn_iload4, rn_lload4, rn_aload4, rn_istore4, rn_astore4, rn_lstore4, rn_iinc4, rn_iload5, rn_lload5, rn_aload5, rn_istore5, rn_astore5, rn_lstore5, rn_iinc5, rn_iload6, rn_lload6, rn_aload6, rn_istore6, rn_astore6, rn_lstore6, rn_iinc6, rn_iload7, rn_aload7, rn_istore7, rn_astore7, rn_iinc7, rn_iload8, rn_aload8, rn_istore8, rn_astore8, rn_iinc8, rn_iload9, rn_aload9, rn_istore9, rn_astore9, rn_iinc9, rn_iadd, rn_isub, rn_imul, rn_iand, rn_ior, rn_ixor, rn_ishl, rn_ishr, rn_iushr, rn_idiv, rn_irem, rn_ineg, rn_ladd, rn_lsub, rn_lmul, rn_lor, rn_ldiv, rn_lrem, rn_lneg, rn_lshl, rn_lshr, rn_i2l, rn_l2i, rn_i2c, rn_lcmp, rn_dupi, rn_dupa, rn_popi, rn_popa, rn_dup2, rn_aast, rn_alen, rn_geta, rn_aald, rn_puta, rn_new, rn_newa, rn_anew, rn_min, rn_max, rn_slen, rn_chat, rn_indx, rn_objI, rn_nop, rn_goto, rn_ifeq, rn_ifne, rn_iflt, rn_ifge, rn_ifgt, rn_ifle, rn_iceq, rn_icne, rn_iclt, rn_icge, rn_icgt, rn_icle, rn_tsw, rn_lsw, rn_iret, rn_zret, rn_lret, rn_aret, rn_vret, rn_cs0, rn_cs1, rn_cs2, rn_cs3, rn_cs4, rn_cs5, rn_cs6, rn_cs7, rn_cv1, rn_ci1, rn_cv2, rn_ci2, rn_cv3, rn_ci3, rn_cv4, rn_cv5, rn_cv6, rn_cv7, cs_n, cs_i, cs_a, cs_l, rc_i, rc_a, rc_l, rc_n, rw_iald, rw_bald, rw_lald, rw_iast, rw_bast, rw_last, rw_geti, rw_getl, rw_puti, rw_putz, rw_putl, iI_add, iI_sub, iI_mul, iI_neg, iI_lt, iI_le, iI_eq, iI_lt0, iI_le0, iI_0lt, iI_0le, iI_eq0, iI_eq1, iI_div, iI_rem, am_in_ok, am_in_no, iI_toInt, iL_add, iL_sub, iL_mul, iL_neg, iL_div, iL_rem, iI_i2l, iL_l2i, iL_cmp, iL_eq0, iI_or, iI_and, iI_shl, if_true, if_false, true_or, or_true, true_and, and_true, false_or, or_false, not_true_eq_false, not_false_eq_true, Option.bind_some, Option.toList_some, Option.toList_none, List.nil_append, List.cons_append, ite_self, nc_0, nc_1, nc_2, nc_3, nc_4, nc_5, nc_6, nc_7, nc_8, nc_9, nc_10, nc_11, nc_12, nc_13, nc_14, nc_15, nc_16, nc_17, nc_18, nc_19, nc_20, nc_21, nc_22, nc_23, nc_24, nc_25, nc_26, nc_27, nc_28, nc_29, nc_30, nc_31, nc_32, nc_33, nc_34, nc_35, nc_36, nc_40, nc_48, nc_100, nc_256, nc_300, nc_304, sh_393, rf_393_0, rf_393_1, rf_393_2, rf_393_3, rf_393_15, rf_393_20, rf_393_21, rf_393_22, rf_393_27, rf_393_28, rf_393_29, rf_393_30, rf_393_34, sh_394, m_manyOf, mx_145, e1, e2, e4, g1, if_pos, if_neg, sh_0, sh_393, rw_copy, am_cp_ok]
    · conv => lhs; rw [bk_229_15]
      have g1 : A.h s - 1 ≤ i + (K : Int) := by omega
      have e1 := e0 K
      simp (decide := true) (disch := omega) only [en_229, bk_229_0, bk_229_58, bq_229_0, bq_229_15, bq_229_58, rn_iconst, rn_bipush, rn_sipush, rn_ldc_w, rn_ldc, rn_ldcS, rn_lconst, rn_ldc2, rn_gets, rn_iload0, rn_lload0, rn_aload0, rn_istore0, rn_astore0, rn_lstore0, rn_iinc0, rn_iload1, rn_lload1, rn_aload1, rn_istore1, rn_astore1, rn_lstore1, rn_iinc1, rn_iload2, rn_lload2, rn_aload2, rn_istore2, rn_astore2, rn_lstore2, rn_iinc2, rn_iload3, rn_lload3, rn_aload3, rn_istore3, rn_astore3, rn_lstore3, rn_iinc3, rn_iload4, rn_lload4, rn_aload4, rn_istore4, rn_astore4, rn_lstore4, rn_iinc4, rn_iload5, rn_lload5, rn_aload5, rn_istore5, rn_astore5, rn_lstore5, rn_iinc5, rn_iload6, rn_lload6, rn_aload6, rn_istore6, rn_astore6, rn_lstore6, rn_iinc6, rn_iload7, rn_aload7, rn_istore7, rn_astore7, rn_iinc7, rn_iload8, rn_aload8, rn_istore8, rn_astore8, rn_iinc8, rn_iload9, rn_aload9, rn_istore9, rn_astore9, rn_iinc9, rn_iadd, rn_isub, rn_imul, rn_iand, rn_ior, rn_ixor, rn_ishl, rn_ishr, rn_iushr, rn_idiv, rn_irem, rn_ineg, rn_ladd, rn_lsub, rn_lmul, rn_lor, rn_ldiv, rn_lrem, rn_lneg, rn_lshl, rn_lshr, rn_i2l, rn_l2i, rn_i2c, rn_lcmp, rn_dupi, rn_dupa, rn_popi, rn_popa, rn_dup2, rn_aast, rn_alen, rn_geta, rn_aald, rn_puta, rn_new, rn_newa, rn_anew, rn_min, rn_max, rn_slen, rn_chat, rn_indx, rn_objI, rn_nop, rn_goto, rn_ifeq, rn_ifne, rn_iflt, rn_ifge, rn_ifgt, rn_ifle, rn_iceq, rn_icne, rn_iclt, rn_icge, rn_icgt, rn_icle, rn_tsw, rn_lsw, rn_iret, rn_zret, rn_lret, rn_aret, rn_vret, rn_cs0, rn_cs1, rn_cs2, rn_cs3, rn_cs4, rn_cs5, rn_cs6, rn_cs7, rn_cv1, rn_ci1, rn_cv2, rn_ci2, rn_cv3, rn_ci3, rn_cv4, rn_cv5, rn_cv6, rn_cv7, cs_n, cs_i, cs_a, cs_l, rc_i, rc_a, rc_l, rc_n, rw_iald, rw_bald, rw_lald, rw_iast, rw_bast, rw_last, rw_geti, rw_getl, rw_puti, rw_putz, rw_putl, iI_add, iI_sub, iI_mul, iI_neg, iI_lt, iI_le, iI_eq, iI_lt0, iI_le0, iI_0lt, iI_0le, iI_eq0, iI_eq1, iI_div, iI_rem, am_in_ok, am_in_no, iI_toInt, iL_add, iL_sub, iL_mul, iL_neg, iL_div, iL_rem, iI_i2l, iL_l2i, iL_cmp, iL_eq0, iI_or, iI_and, iI_shl, if_true, if_false, true_or, or_true, true_and, and_true, false_or, or_false, not_true_eq_false, not_false_eq_true, Option.bind_some, Option.toList_some, Option.toList_none, List.nil_append, List.cons_append, ite_self, nc_0, nc_1, nc_2, nc_3, nc_4, nc_5, nc_6, nc_7, nc_8, nc_9, nc_10, nc_11, nc_12, nc_13, nc_14, nc_15, nc_16, nc_17, nc_18, nc_19, nc_20, nc_21, nc_22, nc_23, nc_24, nc_25, nc_26, nc_27, nc_28, nc_29, nc_30, nc_31, nc_32, nc_33, nc_34, nc_35, nc_36, nc_40, nc_48, nc_100, nc_256, nc_300, nc_304, sh_393, rf_393_0, rf_393_1, rf_393_2, rf_393_3, rf_393_15, rf_393_20, rf_393_21, rf_393_22, rf_393_27, rf_393_28, rf_393_29, rf_393_30, rf_393_34, sh_394, m_manyOf, mx_145, e1, g1, if_pos, if_neg, sh_0, sh_393, rw_copy, am_cp_ok]
  · refine ⟨?_, ?_, ?_, ?_, ?_, ?_, ?_⟩
    · rw [upI_2 (by omega), shD_lo (by omega), upI_2 (by omega)]; exact R.1
    · rw [upI_2 (by omega), shD_lo (by omega), upI_2 (by omega)]; exact R.2.1
    · rw [upI_2 (by omega), shD_lo (by omega), upI_2 (by omega)]; exact R.2.2.1
    · intro q q0 q1
      show _ = if q = s then A.h s - 1 else A.h q
      rw [upI_2 (by omega), shD_lo (by omega)]
      by_cases e : q = s
      · subst e; rw [upI_s, if_pos rfl]
      · rw [upI_2 (by omega), if_neg e]; exact R.h q q0 q1
    · intro q k q0 q1 k0 k1
      have k1 : k < if q = s then A.h s - 1 else A.h q := k1
      have ho := O.h q q0 q1
      show _ = 100 * (if q = s ∧ i ≤ k then A.m s (k + 1) else A.m q k) + (if q = s ∧ i ≤ k then A.g s (k + 1) else A.g q k)
      by_cases e : q = s
      · subst e
        rw [if_pos rfl] at k1
        by_cases e2 : i ≤ k
        · rw [if_pos ⟨rfl, e2⟩, if_pos ⟨rfl, e2⟩, upI_2 (by omega), shD_in (by omega) (by omega), upI_2 (by omega), show 19 + 5 * q + k + 1 = 19 + 5 * q + (k + 1) by omega]
          exact R.l q (k + 1) q0 q1 (by omega) (by omega)
        · rw [if_neg (by omega), if_neg (by omega), upI_2 (by omega), shD_lo (by omega), upI_2 (by omega)]
          exact R.l q k q0 q1 k0 (by omega)
      · rw [if_neg e] at k1
        rw [if_neg (by omega), if_neg (by omega), upI_2 (by omega)]
        by_cases e2 : 19 + 5 * q + k < 19 + 5 * s + i
        · rw [shD_lo e2, upI_2 (by omega)]; exact R.l q k q0 q1 k0 k1
        · rw [shD_hi (by omega), upI_2 (by omega)]; exact R.l q k q0 q1 k0 k1
    · rw [upI_1 (by decide), shD_n (by decide) (by decide), upI_1 (by decide)]; exact R.f
    · intro hb
      refine ⟨?_, fun k k0 k1 => ?_⟩
      · rw [upI_2 (by omega), shD_lo (by omega), upI_2 (by omega)]; exact (R.b hb).1
      · rw [upI_2 (by omega), shD_hi (by omega), upI_2 (by omega)]; exact (R.b hb).2 k k0 k1
  · refine ⟨fun a g1 g2 _ _ => ?_, fun k _ _ => ?_, fun k hk => ?_⟩
    · funext e; rw [upI_1 g2, shD_n g2 g2, upI_1 g2]
    · rw [upI_1 (by decide), shD_n (by decide) (by decide), upI_1 (by decide)]
    · rw [upI_2 (by omega)]
      by_cases e2 : k < 19 + 5 * s + i
      · rw [shD_lo e2, upI_2 (by omega)]
      · rw [shD_hi (by omega), upI_2 (by omega)]
end FX11
section FX12
variable {d L T o n : Nat} {u : Nat → Int → Int} {v : Nat → Nat → Int64} {A : AT} {N : Int} {bk : Bool} {M : Nat × Nat × (Nat → Nat × Nat) × (Nat → Nat → Int32) × (Nat → Nat → Int64) × (Nat → Nat → Option Nat)}
theorem MRep.strD (O : AOkD A N) (R : MRep bk u A) {s i z : Int} (h0 : 0 ≤ s) (h1 : s < 8) (i0 : 0 ≤ i) (i1 : i < A.h s) : MRep bk (upI u 394 (19 + 5 * s + i) (100 * A.m s i + z)) (A.str s i z) ∧ FrM bk u (upI u 394 (19 + 5 * s + i) (100 * A.m s i + z)) := by
  have hh := O.h s h0 h1
  refine ⟨⟨?_, ?_, ?_, fun q q0 q1 => ?_, fun q k q0 q1 k0 k1 => ?_, ?_, fun hb => ⟨?_, fun k k0 k1 => ?_⟩⟩, fun a g1 g2 _ _ => upI_c g2, fun k _ _ => upI_1 (by decide), fun k hk => upI_2 (by omega)⟩
  · rw [upI_2 (by omega)]; exact R.1
  · rw [upI_2 (by omega)]; exact R.2.1
  · rw [upI_2 (by omega)]; exact R.2.2.1
  · rw [upI_2 (by omega)]; exact R.h q q0 q1
  · have k1 : k < A.h q := k1
    have ho := O.h q q0 q1
    show _ = 100 * A.m q k + (if q = s ∧ k = i then z else A.g q k)
    by_cases e : q = s ∧ k = i
    · rw [if_pos e, e.1, e.2, upI_s]
    · rw [if_neg e]
      rw [upI_2 (by omega)]; exact R.l q k q0 q1 k0 k1
  · rw [upI_1 (by decide)]; exact R.f
  · rw [upI_2 (by omega)]; exact (R.b hb).1
  · rw [upI_2 (by omega)]; exact (R.b hb).2 k k0 k1
end FX12
section FX13
variable {d L T o n : Nat} {u u1 : Nat → Int → Int} {v v1 : Nat → Nat → Int64} {A : AT} {N : Int} {bk : Bool}
theorem MRep.oneD {k x : Int} {B : AT} (O : AOkD A N) (R : MRep bk u A) (hk : 7 ≤ k ∧ k ≤ 9) (h1 : B.h = A.h) (h2 : B.m = A.m) (h3 : B.g = A.g) (h4 : B.nb = A.nb) (h5 : B.b = A.b) (e1 : upI u 394 k x 394 7 = B.din) (e2 : upI u 394 k x 394 8 = B.x) (e3 : upI u 394 k x 394 9 = B.mood) : MRep bk (upI u 394 k x) B ∧ FrM bk u (upI u 394 k x) := by
  refine ⟨⟨e1, e2, e3, fun q q0 q1 => ?_, fun q j q0 q1 k0 k1 => ?_, ?_, fun hb => ?_⟩, fun a g1 g2 _ _ => upI_c g2, fun k _ _ => upI_1 (by decide), fun k hk => upI_2 (by omega)⟩
  · rw [upI_2 (by omega), h1]; exact R.h q q0 q1
  · rw [h1] at k1
    have ho := O.h q q0 q1
    rw [upI_2 (by omega), h2, h3]; exact R.l q j q0 q1 k0 k1
  · rw [upI_1 (by decide)]; exact R.f
  · rw [h4, h5, upI_2 (by omega)]
    refine ⟨(R.b hb).1, fun i i0 i1 => ?_⟩
    rw [upI_2 (by omega)]; exact (R.b hb).2 i i0 i1
end FX13
section FX14
variable {d L T o n : Nat} {u u1 : Nat → Int → Int} {v v1 : Nat → Nat → Int64} {A : AT} {N : Int} {bk : Bool}
theorem MRep.nxtD (O : AOkD A N) (R : MRep bk u A) : MRep bk (upI u 394 7 (A.din + 1)) A.nxt ∧ FrM bk u (upI u 394 7 (A.din + 1)) :=
  R.oneD O (by decide) rfl rfl rfl rfl rfl (by rw [upI_s]; rfl) (by rw [upI_2 (by decide)]; exact R.2.1) (by rw [upI_2 (by decide)]; exact R.2.2.1)
end FX14
section FX15
theorem envL_ok_D {A : AT} {N : Int} {w : Nat → Int → Int} {gv fl cd : Int → Int} (O : AOkD A N) (hN : N ≤ 6) (G : CGst w N gv fl cd) {s i e f : Int} (h0 : 0 ≤ s) (h1 : s < 8) (i0 : 0 ≤ i) (i1 : i < A.h s) (e0 : 0 ≤ e) (e1 : e < 6) (f0 : -9 ≤ f) (f1 : f ≤ 9) : EOk (envL A gv s i e f) := by
  obtain ⟨o1, o2, o3, o4, o5, o6, o7, o8⟩ := O.1
  have hl := O.l s i h0 h1 i0 i1
  have hh := O.h s h0 h1
  refine ⟨fun k k0 k1 => ?_, fun x => G.2.2.1 x, fun x => ?_⟩
  · rcases (show k = 0 ∨ k = 1 ∨ k = 2 ∨ k = 3 ∨ k = 4 ∨ k = 5 ∨ k = 6 ∨ k = 7 by omega) with rfl | rfl | rfl | rfl | rfl | rfl | rfl | rfl
    · show -100000 ≤ A.din ∧ A.din ≤ 100000; omega
    · show -100000 ≤ s ∧ s ≤ 100000; omega
    · show -100000 ≤ A.m s i ∧ A.m s i ≤ 100000; omega
    · show -100000 ≤ A.g s i ∧ A.g s i ≤ 100000; omega
    · show -100000 ≤ i ∧ i ≤ 100000; omega
    · show -100000 ≤ A.h s ∧ A.h s ≤ 100000; omega
    · show -100000 ≤ e ∧ e ≤ 100000; omega
    · show -100000 ≤ f ∧ f ≤ 100000; omega
  · show 0 ≤ (if 0 ≤ x ∧ x < 8 then A.top x + 1 else 0) ∧ (if 0 ≤ x ∧ x < 8 then A.top x + 1 else 0) ≤ 6
    by_cases c : 0 ≤ x ∧ x < 8
    · have := O.top hN c.1 c.2
      rw [if_pos c]; omega
    · rw [if_neg c]; omega
end FX15
section FX16
variable {d L T o n a t : Nat} {w : Nat → Int → Int} {v : Nat → Nat → Int64} {A : AT} {N : Int} {gv fl cd : Int → Int} {VF VT : Option (LEnv → Int)} {s i : Int}
set_option maxHeartbeats 1000000 in
theorem c_nameLayer_D (ht : t = 2 ∨ t = 341) (O : AOkD A N) (C : CRep w t A) (h0 : 0 ≤ s) (h1 : s < 8) (i0 : 0 ≤ i) (i1 : i < A.h s) :
    am_call (d + 1) 235 [.ref 359, .ref t, .int (iI s), .int (iI i)] (L, T, S0 n, am_w w, v, R0 o) = some (none, (L, T, S0 n, am_w (upI (upI (upI (upI (upI w 360 7 A.din) 360 19 s) 360 20 (A.m s i)) 360 21 (A.g s i)) 360 22 i), v, R0 o)) := by
  have hT := lay_tab (n := n) (o := o) (a := t) (by omega)
  have t1 := hT.1
  have hh := O.h s h0 h1
  have ch := C.h s h0 h1
  have cd := C.d
  have cv := C.view h0 h1 i0 i1
  have c1 := c_mouthAt (d := d) (L := L) (T := T) (v := v) (w := upI (upI w 360 7 A.din) 360 19 s) (s := s) (i := i) hT h0 h1 (by simp (disch := omega) only [upI_1]; omega) (by simp (disch := omega) only [upI_1]; omega) (by omega) (by omega)
  have c2 := c_strongAt (d := d) (L := L) (T := T) (v := v) (w := upI (upI (upI w 360 7 A.din) 360 19 s) 360 20 (A.m s i)) (s := s) (i := i) hT h0 h1 (by simp (disch := omega) only [upI_1]; omega) (by simp (disch := omega) only [upI_1]; omega) (by omega) (by omega)
  have e2 : tS (upI (upI (upI w 360 7 A.din) 360 19 s) 360 20 (A.m s i)) t s i = A.g s i := by rw [← cv.2]; unfold tS; simp (disch := omega) only [upI_1]
  rw [e2] at c2
  simp (disch := omega) only [tM_up, cv.1] at c1
  simp (decide := true) (disch := omega) only [en_235, bk_235_0, bq_235_0, rn_iconst, rn_bipush, rn_sipush, rn_ldc_w, rn_ldc, rn_ldcS, rn_lconst, rn_ldc2, rn_gets, rn_iload0, rn_lload0, rn_aload0, rn_istore0, rn_astore0, rn_lstore0, rn_iinc0, rn_iload1, rn_lload1, rn_aload1, rn_istore1, rn_astore1, rn_lstore1, rn_iinc1, rn_iload2, rn_lload2, rn_aload2, rn_istore2, rn_astore2, rn_lstore2, rn_iinc2, rn_iload3, rn_lload3, rn_aload3, rn_istore3, rn_astore3, rn_lstore3, rn_iinc3, rn_iload4, rn_lload4, rn_aload4, rn_istore4, rn_astore4, rn_lstore4, rn_iinc4, rn_iload5, rn_lload5, rn_aload5, rn_istore5, rn_astore5, rn_lstore5, rn_iinc5, rn_iload6, rn_lload6, rn_aload6, rn_istore6, rn_astore6, rn_lstore6, rn_iinc6, rn_iload7, rn_aload7, rn_istore7, rn_astore7, rn_iinc7, rn_iload8, rn_aload8, rn_istore8, rn_astore8, rn_iinc8, rn_iload9, rn_aload9, rn_istore9, rn_astore9, rn_iinc9, rn_iadd, rn_isub, rn_imul, rn_iand, rn_ior, rn_ixor, rn_ishl, rn_ishr, rn_iushr, rn_idiv, rn_irem, rn_ineg, rn_ladd, rn_lsub, rn_lmul, rn_lor, rn_ldiv, rn_lrem, rn_lneg, rn_lshl, rn_lshr, rn_i2l, rn_l2i, rn_i2c, rn_lcmp, rn_dupi, rn_dupa, rn_popi, rn_popa, rn_dup2, rn_aast, rn_alen, rn_geta, rn_aald, rn_puta, rn_new, rn_newa, rn_anew, rn_min, rn_max, rn_slen, rn_chat, rn_indx, rn_objI, rn_nop, rn_goto, rn_ifeq, rn_ifne, rn_iflt, rn_ifge, rn_ifgt, rn_ifle, rn_iceq, rn_icne, rn_iclt, rn_icge, rn_icgt, rn_icle, rn_tsw, rn_lsw, rn_iret, rn_zret, rn_lret, rn_aret, rn_vret, rn_cs0, rn_cs1, rn_cs2, rn_cs3, rn_cs4, rn_cs5, rn_cs6, rn_cs7, rn_cv1, rn_ci1, rn_cv2, rn_ci2, rn_cv3, rn_ci3, rn_cv4, rn_cv5, rn_cv6, rn_cv7, cs_n, cs_i, cs_a, cs_l, rc_i, rc_a, rc_l, rc_n, rw_iald, rw_bald, rw_lald, rw_iast, rw_bast, rw_last, rw_geti, rw_getl, rw_puti, rw_putz, rw_putl, iI_add, iI_sub, iI_mul, iI_neg, iI_lt, iI_le, iI_eq, iI_lt0, iI_le0, iI_0lt, iI_0le, iI_eq0, iI_eq1, iI_div, iI_rem, am_in_ok, am_in_no, iI_toInt, iL_add, iL_sub, iL_mul, iL_neg, iL_div, iL_rem, iI_i2l, iL_l2i, iL_cmp, iL_eq0, iI_or, iI_and, iI_shl, if_true, if_false, true_or, or_true, true_and, and_true, false_or, or_false, not_true_eq_false, not_false_eq_true, Option.bind_some, Option.toList_some, Option.toList_none, List.nil_append, List.cons_append, ite_self, nc_0, nc_1, nc_2, nc_3, nc_4, nc_5, nc_6, nc_7, nc_8, nc_9, nc_10, nc_11, nc_12, nc_13, nc_14, nc_15, nc_16, nc_17, nc_18, nc_19, nc_20, nc_21, nc_22, nc_23, nc_24, nc_25, nc_26, nc_27, nc_28, nc_29, nc_30, nc_31, nc_32, nc_33, nc_34, nc_35, nc_36, nc_40, nc_48, nc_100, nc_256, nc_300, nc_304, sh_359, rf_359_0, rf_359_1, rf_359_2, sh_360, sh_361, t1, cd, c1, c2, mx_163, mx_164, if_pos, if_neg, sh_0, sh_393, rw_copy, am_cp_ok]
end FX16
section FX17
variable {d L T o n a t : Nat} {w : Nat → Int → Int} {v : Nat → Nat → Int64} {A : AT} {N : Int} {gv fl cd : Int → Int} {VF VT : Option (LEnv → Int)} {s i : Int}
theorem c_env_D {z e f : Int} (ht : t = 2 ∨ t = 341) (O : AOkD A N) (hN : N ≤ 6) (C : CRep w t A) (G : CGst w N gv fl cd) {w2 : Nat → Int → Int} (hw : ∀ b, b ≠ 360 → w2 b = w b) (hn : ∀ k, allow z k → w2 360 (cnm k) = (envL A gv s i e f).1 k) : CEnv z w2 t (envL A gv s i e f) := by
  have C2 : CRep w2 t A := C.keep (fun b q1 q2 => hw b (by omega))
  have gn := G.gN
  refine ⟨hn, ⟨by rw [hw 8 (by decide), gn]; exact G.1.1, by rw [hw 8 (by decide), gn]; exact G.1.2.1, fun x => ?_⟩, fun q q0 q1 => ?_, fun x => ?_⟩
  · rw [hw 8 (by decide), hw 9 (by decide), gn]; exact G.2.1 x
  · rw [C2.h q q0 q1]; exact O.h q q0 q1
  · show (if 0 ≤ x ∧ x < 8 then A.top x + 1 else 0) = _
    by_cases c : 0 ≤ x ∧ x < 8
    · rw [if_pos c, if_pos c, C2.top c.1 c.2]
    · rw [if_neg c, if_neg c]
end FX17
section FX18
variable {d L T o n a t : Nat} {w : Nat → Int → Int} {v : Nat → Nat → Int64} {A : AT} {N : Int} {gv fl cd : Int → Int} {VF VT : Option (LEnv → Int)} {s i : Int}
set_option maxHeartbeats 1000000 in
theorem c_fadesOf_D (ha : ScrC a) (ht : t = 2 ∨ t = 341) (O : AOkD A N) (hN : N ≤ 6) (C : CRep w t A) (G : CGst w N gv fl cd) (K : CLaw w a VF VT) (h0 : 0 ≤ s) (h1 : s < 8) (i0 : 0 ≤ i) (i1 : i < A.h s) :
    ∃ w2, am_call (d + 3) 165 [.ref 359, .ref a, .ref t, .int (iI s), .int (iI i)] (L, T, S0 n, am_w w, v, R0 o) = some (some (.int (iI (fadeV VF A gv s i))), (L, T, S0 n, am_w w2, v, R0 o)) ∧ ∀ b, b ≠ 360 → b ≠ 361 → w2 b = w b := by
  obtain ⟨s1, s2, s3, s4, s5, s6, s7, s8, s9⟩ := lay_scr (n := n) (o := o) ha
  have hT := lay_tab (n := n) (o := o) (a := t) (by omega)
  obtain ⟨t1, t2, t3, t4, t5, t6, t7, t8, t9⟩ := hT
  obtain ⟨⟨k1, k2, k3, k4, k5, k6, k7, k8, k9, k10⟩, kF, kT⟩ := K
  have hh := O.h s h0 h1
  have ch := C.h s h0 h1
  have na := ha.ne
  have na2 : a ≠ 360 ∧ a + 1 ≠ 360 := by rcases ha with rfl | rfl | rfl | rfl | rfl <;> decide
  cases VF with
  | none =>
    dsimp only at kF
    refine ⟨w, ?_, fun _ _ _ => rfl⟩
    rw [show fadeV none A gv s i = 1 from rfl]
    simp (decide := true) (disch := omega) only [en_165, bk_165_0, bk_165_9, bq_165_0, bq_165_9, en_234, bk_234_0, bk_234_15, bk_234_16, bq_234_0, bq_234_15, bq_234_16, rn_iconst, rn_bipush, rn_sipush, rn_ldc_w, rn_ldc, rn_ldcS, rn_lconst, rn_ldc2, rn_gets, rn_iload0, rn_lload0, rn_aload0, rn_istore0, rn_astore0, rn_lstore0, rn_iinc0, rn_iload1, rn_lload1, rn_aload1, rn_istore1, rn_astore1, rn_lstore1, rn_iinc1, rn_iload2, rn_lload2, rn_aload2, rn_istore2, rn_astore2, rn_lstore2, rn_iinc2, rn_iload3, rn_lload3, rn_aload3, rn_istore3, rn_astore3, rn_lstore3, rn_iinc3, rn_iload4, rn_lload4, rn_aload4, rn_istore4, rn_astore4, rn_lstore4, rn_iinc4, rn_iload5, rn_lload5, rn_aload5, rn_istore5, rn_astore5, rn_lstore5, rn_iinc5, rn_iload6, rn_lload6, rn_aload6, rn_istore6, rn_astore6, rn_lstore6, rn_iinc6, rn_iload7, rn_aload7, rn_istore7, rn_astore7, rn_iinc7, rn_iload8, rn_aload8, rn_istore8, rn_astore8, rn_iinc8, rn_iload9, rn_aload9, rn_istore9, rn_astore9, rn_iinc9, rn_iadd, rn_isub, rn_imul, rn_iand, rn_ior, rn_ixor, rn_ishl, rn_ishr, rn_iushr, rn_idiv, rn_irem, rn_ineg, rn_ladd, rn_lsub, rn_lmul, rn_lor, rn_ldiv, rn_lrem, rn_lneg, rn_lshl, rn_lshr, rn_i2l, rn_l2i, rn_i2c, rn_lcmp, rn_dupi, rn_dupa, rn_popi, rn_popa, rn_dup2, rn_aast, rn_alen, rn_geta, rn_aald, rn_puta, rn_new, rn_newa, rn_anew, rn_min, rn_max, rn_slen, rn_chat, rn_indx, rn_objI, rn_nop, rn_goto, rn_ifeq, rn_ifne, rn_iflt, rn_ifge, rn_ifgt, rn_ifle, rn_iceq, rn_icne, rn_iclt, rn_icge, rn_icgt, rn_icle, rn_tsw, rn_lsw, rn_iret, rn_zret, rn_lret, rn_aret, rn_vret, rn_cs0, rn_cs1, rn_cs2, rn_cs3, rn_cs4, rn_cs5, rn_cs6, rn_cs7, rn_cv1, rn_ci1, rn_cv2, rn_ci2, rn_cv3, rn_ci3, rn_cv4, rn_cv5, rn_cv6, rn_cv7, cs_n, cs_i, cs_a, cs_l, rc_i, rc_a, rc_l, rc_n, rw_iald, rw_bald, rw_lald, rw_iast, rw_bast, rw_last, rw_geti, rw_getl, rw_puti, rw_putz, rw_putl, iI_add, iI_sub, iI_mul, iI_neg, iI_lt, iI_le, iI_eq, iI_lt0, iI_le0, iI_0lt, iI_0le, iI_eq0, iI_eq1, iI_div, iI_rem, am_in_ok, am_in_no, iI_toInt, iL_add, iL_sub, iL_mul, iL_neg, iL_div, iL_rem, iI_i2l, iL_l2i, iL_cmp, iL_eq0, iI_or, iI_and, iI_shl, if_true, if_false, true_or, or_true, true_and, and_true, false_or, or_false, not_true_eq_false, not_false_eq_true, Option.bind_some, Option.toList_some, Option.toList_none, List.nil_append, List.cons_append, ite_self, nc_0, nc_1, nc_2, nc_3, nc_4, nc_5, nc_6, nc_7, nc_8, nc_9, nc_10, nc_11, nc_12, nc_13, nc_14, nc_15, nc_16, nc_17, nc_18, nc_19, nc_20, nc_21, nc_22, nc_23, nc_24, nc_25, nc_26, nc_27, nc_28, nc_29, nc_30, nc_31, nc_32, nc_33, nc_34, nc_35, nc_36, nc_40, nc_48, nc_100, nc_256, nc_300, nc_304, s1, mx_234, if_pos, if_neg, sh_0, sh_393, rw_copy, am_cp_ok]
  | some V =>
    dsimp only at kF
    have lt := kF.1.2.1
    have eV : fadeV (some V) A gv s i = clmp 0 9 (V (envL A gv s i 0 0)) := rfl
    have hE := envL_ok_D (s := s) (i := i) (e := 0) (f := 0) O hN G h0 h1 i0 i1 (by decide) (by decide) (by decide) (by decide)
    have hV := kF.1.2.2 _ hE
    have nl := c_nameLayer_D (d := d + 1) (L := L) (T := T) (o := o) (n := n) (v := v) ht O C h0 h1 i0 i1
    have hu : ∀ b, b ≠ 360 → upI (upI (upI (upI (upI (upI w 360 7 A.din) 360 19 s) 360 20 (A.m s i)) 360 21 (A.g s i)) 360 22 i) 360 23 (A.h s) b = w b := fun b hb => by simp (disch := omega) only [upI_c]
    have eh : upI (upI (upI (upI (upI w 360 7 A.din) 360 19 s) 360 20 (A.m s i)) 360 21 (A.g s i)) 360 22 i (t + 3) s = A.h s := by simp (disch := omega) only [upI_1]; exact ch
    have hC : CEnv 0 (upI (upI (upI (upI (upI (upI w 360 7 A.din) 360 19 s) 360 20 (A.m s i)) 360 21 (A.g s i)) 360 22 i) 360 23 (A.h s)) t (envL A gv s i 0 0) := by
      refine c_env_D ht O hN C G hu (fun k hk => ?_)
      rcases hk with rfl | rfl | rfl | rfl | rfl | ⟨_, rfl⟩ | ⟨h, _⟩
      · show upI _ _ _ _ _ 7 = A.din; simp (disch := omega) only [upI_2, upI_s]
      · show upI _ _ _ _ _ 19 = s; simp (disch := omega) only [upI_2, upI_s]
      · show upI _ _ _ _ _ 20 = A.m s i; simp (disch := omega) only [upI_2, upI_s]
      · show upI _ _ _ _ _ 21 = A.g s i; simp (disch := omega) only [upI_2, upI_s]
      · show upI _ _ _ _ _ 22 = i; simp (disch := omega) only [upI_2, upI_s]
      · show upI _ _ _ _ _ 23 = A.h s; simp (disch := omega) only [upI_2, upI_s]
      · omega
    have ea : upI (upI (upI (upI (upI (upI w 360 7 A.din) 360 19 s) 360 20 (A.m s i)) 360 21 (A.g s i)) 360 22 i) 360 23 (A.h s) a = w a := hu a na2.1
    have eb : upI (upI (upI (upI (upI (upI w 360 7 A.din) 360 19 s) 360 20 (A.m s i)) 360 21 (A.g s i)) 360 22 i) 360 23 (A.h s) (a + 1) = w (a + 1) := hu (a + 1) na2.2
    obtain ⟨w2, q2, b2⟩ := c_run (d := d) (L := L) (T := T) (o := o) (n := n) (v := v) (fr := w a 2) (to := w a 3) ha ht hE hC (by rw [eb]; exact kF) (by rw [ea]; exact k6) (by rw [ea]; exact k2)
    refine ⟨w2, ?_, fun b n1 n2 => (b2 b n2).trans (hu b n1)⟩
    rw [eV]
    have mm := iI_mm (lo := 0) (hi := 9) (z := V (envL A gv s i 0 0)) (by decide) (by decide) (by decide) (by omega) (by omega)
    simp (decide := true) (disch := omega) only [en_165, bk_165_0, bk_165_9, bq_165_0, bq_165_9, en_234, bk_234_0, bk_234_15, bk_234_16, bq_234_0, bq_234_15, bq_234_16, rn_iconst, rn_bipush, rn_sipush, rn_ldc_w, rn_ldc, rn_ldcS, rn_lconst, rn_ldc2, rn_gets, rn_iload0, rn_lload0, rn_aload0, rn_istore0, rn_astore0, rn_lstore0, rn_iinc0, rn_iload1, rn_lload1, rn_aload1, rn_istore1, rn_astore1, rn_lstore1, rn_iinc1, rn_iload2, rn_lload2, rn_aload2, rn_istore2, rn_astore2, rn_lstore2, rn_iinc2, rn_iload3, rn_lload3, rn_aload3, rn_istore3, rn_astore3, rn_lstore3, rn_iinc3, rn_iload4, rn_lload4, rn_aload4, rn_istore4, rn_astore4, rn_lstore4, rn_iinc4, rn_iload5, rn_lload5, rn_aload5, rn_istore5, rn_astore5, rn_lstore5, rn_iinc5, rn_iload6, rn_lload6, rn_aload6, rn_istore6, rn_astore6, rn_lstore6, rn_iinc6, rn_iload7, rn_aload7, rn_istore7, rn_astore7, rn_iinc7, rn_iload8, rn_aload8, rn_istore8, rn_astore8, rn_iinc8, rn_iload9, rn_aload9, rn_istore9, rn_astore9, rn_iinc9, rn_iadd, rn_isub, rn_imul, rn_iand, rn_ior, rn_ixor, rn_ishl, rn_ishr, rn_iushr, rn_idiv, rn_irem, rn_ineg, rn_ladd, rn_lsub, rn_lmul, rn_lor, rn_ldiv, rn_lrem, rn_lneg, rn_lshl, rn_lshr, rn_i2l, rn_l2i, rn_i2c, rn_lcmp, rn_dupi, rn_dupa, rn_popi, rn_popa, rn_dup2, rn_aast, rn_alen, rn_geta, rn_aald, rn_puta, rn_new, rn_newa, rn_anew, rn_min, rn_max, rn_slen, rn_chat, rn_indx, rn_objI, rn_nop, rn_goto, rn_ifeq, rn_ifne, rn_iflt, rn_ifge, rn_ifgt, rn_ifle, rn_iceq, rn_icne, rn_iclt, rn_icge, rn_icgt, rn_icle, rn_tsw, rn_lsw, rn_iret, rn_zret, rn_lret, rn_aret, rn_vret, rn_cs0, rn_cs1, rn_cs2, rn_cs3, rn_cs4, rn_cs5, rn_cs6, rn_cs7, rn_cv1, rn_ci1, rn_cv2, rn_ci2, rn_cv3, rn_ci3, rn_cv4, rn_cv5, rn_cv6, rn_cv7, cs_n, cs_i, cs_a, cs_l, rc_i, rc_a, rc_l, rc_n, rw_iald, rw_bald, rw_lald, rw_iast, rw_bast, rw_last, rw_geti, rw_getl, rw_puti, rw_putz, rw_putl, iI_add, iI_sub, iI_mul, iI_neg, iI_lt, iI_le, iI_eq, iI_lt0, iI_le0, iI_0lt, iI_0le, iI_eq0, iI_eq1, iI_div, iI_rem, am_in_ok, am_in_no, iI_toInt, iL_add, iL_sub, iL_mul, iL_neg, iL_div, iL_rem, iI_i2l, iL_l2i, iL_cmp, iL_eq0, iI_or, iI_and, iI_shl, if_true, if_false, true_or, or_true, true_and, and_true, false_or, or_false, not_true_eq_false, not_false_eq_true, Option.bind_some, Option.toList_some, Option.toList_none, List.nil_append, List.cons_append, ite_self, nc_0, nc_1, nc_2, nc_3, nc_4, nc_5, nc_6, nc_7, nc_8, nc_9, nc_10, nc_11, nc_12, nc_13, nc_14, nc_15, nc_16, nc_17, nc_18, nc_19, nc_20, nc_21, nc_22, nc_23, nc_24, nc_25, nc_26, nc_27, nc_28, nc_29, nc_30, nc_31, nc_32, nc_33, nc_34, nc_35, nc_36, nc_40, nc_48, nc_100, nc_256, nc_300, nc_304, sh_359, rf_359_0, rf_359_1, rf_359_2, sh_360, sh_361, s1, t1, t4, t8, nl, eh, ea, q2, mm, mx_234, mx_235, mx_236, if_pos, if_neg, sh_0, sh_393, rw_copy, am_cp_ok]
end FX18
section FX19
variable {d L T o n : Nat} {u wl : Nat → Int → Int} {v : Nat → Nat → Int64} {A : AT} {N : Int} {gv fl cd : Int → Int} {VF VT : Option (LEnv → Int)} {bk : Bool} {s i q : Int}
theorem MRep.topsD (R : MRep bk u A) (O : AOkD A N) (hN : N ≤ 6) : MTop u ∧ ∀ s, 0 ≤ s → s < 8 → uTop u s = A.top s := by
  refine ⟨fun s h0 h1 => ?_, fun s h0 h1 => ?_⟩
  · have rh := R.h s h0 h1
    have hh := O.h s h0 h1
    refine ⟨by omega, by omega, fun c => ?_⟩
    have := R.viewD O hN h0 h1 (Int.le_refl 0) (by omega)
    exact ⟨this.2.2.1, this.2.2.2⟩
  · have rh := R.h s h0 h1
    have hh := O.h s h0 h1
    unfold uTop AT.top
    rw [rh]
    by_cases c : A.h s = 0
    · rw [if_pos c, if_neg (by omega)]
    · rw [if_neg c, if_pos (by omega)]
      exact (R.viewD O hN h0 h1 (Int.le_refl 0) (by omega)).1
end FX19
section FX20
variable {d L T o n : Nat} {u wl : Nat → Int → Int} {v : Nat → Nat → Int64} {A : AT} {N : Int} {gv fl cd : Int → Int} {VF VT : Option (LEnv → Int)} {bk : Bool} {s i q : Int}
theorem m_env_D {z e f : Int} (O : AOkD A N) (hN : N ≤ 6) (R : MRep bk u A) (G : MGst u N gv fl cd) {u2 : Nat → Int → Int} (hw : ∀ b, b ≠ 399 → u2 b = u b) (hn : ∀ k, allow z k → u2 399 k = (envL A gv s i e f).1 k) : MEnv z u2 (envL A gv s i e f) := by
  obtain ⟨ht, hu⟩ := R.topsD O hN
  have e1 := hw 394 (by decide)
  refine ⟨hn, ⟨?_, ?_, fun x => ?_⟩, ?_, fun x => ?_⟩
  · rw [e1, G.1.2.2]; exact G.1.1
  · rw [e1, G.1.2.2]; exact G.1.2.1
  · rw [e1, G.1.2.2]; exact G.2.1 x
  · unfold MTop; rw [e1]; exact ht
  · show (if 0 ≤ x ∧ x < 8 then A.top x + 1 else 0) = _
    by_cases c : 0 ≤ x ∧ x < 8
    · rw [if_pos c, if_pos c, ← hu x c.1 c.2]
      unfold uTop
      rw [e1, Int.add_comm]
    · rw [if_neg c, if_neg c]
end FX20
section FX21
variable {d L T o n : Nat} {u wl : Nat → Int → Int} {v : Nat → Nat → Int64} {A : AT} {N : Int} {gv fl cd : Int → Int} {VF VT : Option (LEnv → Int)} {bk : Bool} {s i q : Int}
theorem envL_ok2_D {A : AT} {N : Int} {u : Nat → Int → Int} {gv fl cd : Int → Int} (O : AOkD A N) (hN : N ≤ 6) (G : MGst u N gv fl cd) {s i e f : Int} (h0 : 0 ≤ s) (h1 : s < 8) (i0 : 0 ≤ i) (i1 : i < A.h s) (e0 : 0 ≤ e) (e1 : e < 6) (f0 : -9 ≤ f) (f1 : f ≤ 9) : EOk (envL A gv s i e f) := by
  obtain ⟨o1, o2, o3, o4, o5, o6, o7, o8⟩ := O.1
  have hl := O.l s i h0 h1 i0 i1
  have hh := O.h s h0 h1
  refine ⟨fun k k0 k1 => ?_, fun x => G.2.2.1 x, fun x => ?_⟩
  · rcases (show k = 0 ∨ k = 1 ∨ k = 2 ∨ k = 3 ∨ k = 4 ∨ k = 5 ∨ k = 6 ∨ k = 7 by omega) with rfl | rfl | rfl | rfl | rfl | rfl | rfl | rfl
    · show -100000 ≤ A.din ∧ A.din ≤ 100000; omega
    · show -100000 ≤ s ∧ s ≤ 100000; omega
    · show -100000 ≤ A.m s i ∧ A.m s i ≤ 100000; omega
    · show -100000 ≤ A.g s i ∧ A.g s i ≤ 100000; omega
    · show -100000 ≤ i ∧ i ≤ 100000; omega
    · show -100000 ≤ A.h s ∧ A.h s ≤ 100000; omega
    · show -100000 ≤ e ∧ e ≤ 100000; omega
    · show -100000 ≤ f ∧ f ≤ 100000; omega
  · show 0 ≤ (if 0 ≤ x ∧ x < 8 then A.top x + 1 else 0) ∧ (if 0 ≤ x ∧ x < 8 then A.top x + 1 else 0) ≤ 6
    by_cases c : 0 ≤ x ∧ x < 8
    · have := O.top hN c.1 c.2
      rw [if_pos c]; omega
    · rw [if_neg c]; omega
end FX21
section FX22
variable {d L T o n : Nat} {u : Nat → Int → Int} {v : Nat → Nat → Int64} {A : AT} {N : Int} {gv fl cd : Int → Int} {VF VT : Option (LEnv → Int)} {bk : Bool} {s i q e : Int}
set_option maxHeartbeats 1000000 in
theorem m_fadesOf_D (O : AOkD A N) (hN : N ≤ 6) (R : MRep bk u A) (G : MGst u N gv fl cd) (K : MLaw u (u 394 2) VF VT) (h0 : 0 ≤ s) (h1 : s < 8) (i0 : 0 ≤ i) (i1 : i < A.h s) :
    ∃ u2 v2, am_call (d + 5) 167 [.ref 393, .int (iI s), .int (iI i)] (L, T, S0 n, am_w u, v, R0 o) = some (some (.int (iI (fadeV VF A gv s i))), (L, T, S0 n, am_w u2, v2, R0 o)) ∧ ∀ b, b ≠ 399 → b ≠ 401 → u2 b = u b := by
  have hh := O.h s h0 h1
  have rv := R.viewD O hN h0 h1 i0 i1
  have hE := envL_ok2_D (s := s) (i := i) (e := 0) (f := 0) O hN G h0 h1 i0 i1 (by decide) (by decide) (by decide) (by decide)
  have hC : MEnv 0 (nmM u A s i) (envL A gv s i 0 0) := by
    refine m_env_D O hN R G (fun b hb => nmM_o hb) (fun k hk => ?_)
    unfold nmM
    rcases hk with rfl | rfl | rfl | rfl | rfl | ⟨_, rfl⟩ | ⟨h, _⟩
    · show upI _ _ _ _ _ 0 = A.din; simp (disch := omega) only [upI_2, upI_s]
    · show upI _ _ _ _ _ 1 = s; simp (disch := omega) only [upI_2, upI_s]
    · show upI _ _ _ _ _ 2 = A.m s i; simp (disch := omega) only [upI_2, upI_s]
    · show upI _ _ _ _ _ 3 = A.g s i; simp (disch := omega) only [upI_2, upI_s]
    · show upI _ _ _ _ _ 4 = i; simp (disch := omega) only [upI_2, upI_s]
    · show upI _ _ _ _ _ 5 = A.h s; simp (disch := omega) only [upI_2, upI_s]
    · omega
  have ea : nmM u A s i 394 = u 394 := nmM_o (by decide)
  have nm := m_name (d := d + 3) (L := L) (T := T) (o := o) (n := n) (v := v) (i := i) R h0 h1
  obtain ⟨u2, v2, e2, b2⟩ := m_saysF (d := d) (L := L) (T := T) (o := o) (n := n) (v := v) (wo := 1) (lo := 0) (hi := 9) (K.keep (nmM_o (s := s) (i := i) (A := A) (by decide))) hE hC (by decide) (by decide) (by decide) (by decide) (by decide)
  refine ⟨u2, v2, ?_, fun b n1 n2 => (b2 b n2).trans (nmM_o n1)⟩
  rw [fadeV_eq]
  simp (decide := true) (disch := omega) only [en_167, bk_167_0, bq_167_0, rn_iconst, rn_bipush, rn_sipush, rn_ldc_w, rn_ldc, rn_ldcS, rn_lconst, rn_ldc2, rn_gets, rn_iload0, rn_lload0, rn_aload0, rn_istore0, rn_astore0, rn_lstore0, rn_iinc0, rn_iload1, rn_lload1, rn_aload1, rn_istore1, rn_astore1, rn_lstore1, rn_iinc1, rn_iload2, rn_lload2, rn_aload2, rn_istore2, rn_astore2, rn_lstore2, rn_iinc2, rn_iload3, rn_lload3, rn_aload3, rn_istore3, rn_astore3, rn_lstore3, rn_iinc3, rn_iload4, rn_lload4, rn_aload4, rn_istore4, rn_astore4, rn_lstore4, rn_iinc4, rn_iload5, rn_lload5, rn_aload5, rn_istore5, rn_astore5, rn_lstore5, rn_iinc5, rn_iload6, rn_lload6, rn_aload6, rn_istore6, rn_astore6, rn_lstore6, rn_iinc6, rn_iload7, rn_aload7, rn_istore7, rn_astore7, rn_iinc7, rn_iload8, rn_aload8, rn_istore8, rn_astore8, rn_iinc8, rn_iload9, rn_aload9, rn_istore9, rn_astore9, rn_iinc9, rn_iadd, rn_isub, rn_imul, rn_iand, rn_ior, rn_ixor, rn_ishl, rn_ishr, rn_iushr, rn_idiv, rn_irem, rn_ineg, rn_ladd, rn_lsub, rn_lmul, rn_lor, rn_ldiv, rn_lrem, rn_lneg, rn_lshl, rn_lshr, rn_i2l, rn_l2i, rn_i2c, rn_lcmp, rn_dupi, rn_dupa, rn_popi, rn_popa, rn_dup2, rn_aast, rn_alen, rn_geta, rn_aald, rn_puta, rn_new, rn_newa, rn_anew, rn_min, rn_max, rn_slen, rn_chat, rn_indx, rn_objI, rn_nop, rn_goto, rn_ifeq, rn_ifne, rn_iflt, rn_ifge, rn_ifgt, rn_ifle, rn_iceq, rn_icne, rn_iclt, rn_icge, rn_icgt, rn_icle, rn_tsw, rn_lsw, rn_iret, rn_zret, rn_lret, rn_aret, rn_vret, rn_cs0, rn_cs1, rn_cs2, rn_cs3, rn_cs4, rn_cs5, rn_cs6, rn_cs7, rn_cv1, rn_ci1, rn_cv2, rn_ci2, rn_cv3, rn_ci3, rn_cv4, rn_cv5, rn_cv6, rn_cv7, cs_n, cs_i, cs_a, cs_l, rc_i, rc_a, rc_l, rc_n, rw_iald, rw_bald, rw_lald, rw_iast, rw_bast, rw_last, rw_geti, rw_getl, rw_puti, rw_putz, rw_putl, iI_add, iI_sub, iI_mul, iI_neg, iI_lt, iI_le, iI_eq, iI_lt0, iI_le0, iI_0lt, iI_0le, iI_eq0, iI_eq1, iI_div, iI_rem, am_in_ok, am_in_no, iI_toInt, iL_add, iL_sub, iL_mul, iL_neg, iL_div, iL_rem, iI_i2l, iL_l2i, iL_cmp, iL_eq0, iI_or, iI_and, iI_shl, if_true, if_false, true_or, or_true, true_and, and_true, false_or, or_false, not_true_eq_false, not_false_eq_true, Option.bind_some, Option.toList_some, Option.toList_none, List.nil_append, List.cons_append, ite_self, nc_0, nc_1, nc_2, nc_3, nc_4, nc_5, nc_6, nc_7, nc_8, nc_9, nc_10, nc_11, nc_12, nc_13, nc_14, nc_15, nc_16, nc_17, nc_18, nc_19, nc_20, nc_21, nc_22, nc_23, nc_24, nc_25, nc_26, nc_27, nc_28, nc_29, nc_30, nc_31, nc_32, nc_33, nc_34, nc_35, nc_36, nc_40, nc_48, nc_100, nc_256, nc_300, nc_304, sh_393, rf_393_0, rf_393_1, rf_393_2, rf_393_3, rf_393_15, rf_393_20, rf_393_21, rf_393_22, rf_393_27, rf_393_28, rf_393_29, rf_393_30, rf_393_34, sh_394, m_mouthOf, m_strongOf, rv.1, rv.2.1, nm, ea, e2, mx_159, mx_160, mx_237, mx_238, if_pos, if_neg, sh_0, sh_393, rw_copy, am_cp_ok]
end FX22
section FX23
variable {VF : Option (LEnv → Int)} {gv : Int → Int} {s N : Int} {A : AT}
theorem fI_ok_D (O : AOkD A N) (h0 : 0 ≤ s) (h1 : s < 8) : ∀ k : Nat, (k : Int) ≤ A.h s → AOkD (fIter VF gv s A k).1 N ∧ 0 ≤ (fIter VF gv s A k).2 ∧ (fIter VF gv s A k).1.h s - (fIter VF gv s A k).2 = A.h s - k ∧ (fIter VF gv s A k).1.din = A.din
  | 0, _ => ⟨O, Int.le_refl 0, by show A.h s - 0 = A.h s - 0; rfl, rfl⟩
  | k + 1, hk => by
    obtain ⟨a1, a2, a3, a4⟩ := fI_ok_D O h0 h1 k (by omega)
    have al := a1.l s (fIter VF gv s A k).2 h0 h1 a2 (by omega)
    have fb := fadeV_bd (VF := VF) (A := (fIter VF gv s A k).1) (gv := gv) (s := s) (i := (fIter VF gv s A k).2)
    rw [fIter, fStep]
    by_cases c : 0 < fLeft VF gv s (fIter VF gv s A k)
    · rw [if_pos c]
      refine ⟨a1.str (by omega) (by unfold fLeft; omega), by show 0 ≤ (fIter VF gv s A k).2 + 1; omega, ?_, a4⟩
      show (fIter VF gv s A k).1.h s - ((fIter VF gv s A k).2 + 1) = _
      omega
    · rw [if_neg c]
      refine ⟨a1.take h0 h1 a2 (by omega), a2, ?_, a4⟩
      show (if s = s then (fIter VF gv s A k).1.h s - 1 else (fIter VF gv s A k).1.h s) - (fIter VF gv s A k).2 = _
      rw [if_pos rfl]
      omega
end FX23
section FX24
variable {VF : Option (LEnv → Int)} {gv : Int → Int} {s N : Int} {A : AT}
theorem wI_ok_D (O : AOkD A N) (h0 : 0 ≤ s) (h1 : s < 8) {wt : Int} (w0 : -1 ≤ wt) (w1 : wt < A.h s) : ∀ k : Nat, (k : Int) ≤ A.h s → -1 ≤ wIter VF gv s A wt k ∧ wIter VF gv s A wt k < (fIter VF gv s A k).1.h s
  | 0, _ => ⟨w0, w1⟩
  | k + 1, hk => by
    have ih := wI_ok_D O h0 h1 w0 w1 k (by omega)
    obtain ⟨a1, a2, a3, a4⟩ := fI_ok_D (VF := VF) (gv := gv) O h0 h1 k (by omega)
    rw [fIter, fStep, wIter]
    by_cases c : 0 < fLeft VF gv s (fIter VF gv s A k)
    · rw [if_pos c, if_pos c]
      exact ih
    · rw [if_neg c, if_neg c]
      show _ ∧ _ < (if s = s then (fIter VF gv s A k).1.h s - 1 else (fIter VF gv s A k).1.h s)
      rw [if_pos rfl]
      unfold wStep
      split
      · omega
      · split <;> omega
end FX24
section FX25
variable {VF : Option (LEnv → Int)} {gv : Int → Int} {s N : Int} {A : AT}
theorem AOkD.fade (O : AOkD A N) (h0 : 0 ≤ s) (h1 : s < 8) : AOkD (A.fade VF gv s) N ∧ (A.fade VF gv s).din = A.din := by
  have hh := O.h s h0 h1
  obtain ⟨a1, a2, a3, a4⟩ := fI_ok_D (VF := VF) (gv := gv) O h0 h1 (A.h s).toNat (by omega)
  exact ⟨a1, a4⟩
end FX25
section FX26
variable {d L T o n a t : Nat} {w : Nat → Int → Int} {v : Nat → Nat → Int64} {A : AT} {N : Int} {gv fl cd : Int → Int} {VF VT : Option (LEnv → Int)} {s e wt : Int}
set_option maxHeartbeats 2000000 in
theorem c_fadeSpoon_D (ha : ScrC a) (ht : t = 2 ∨ t = 341) (O : AOkD A N) (hN : N ≤ 6) (C : CRep w t A) (G : CGst w N gv fl cd) (K : CLaw w a VF VT) (h0 : 0 ≤ s) (h1 : s < 8) (w0 : -1 ≤ wt) (w1 : wt < A.h s ∨ wt = -1) :
    ∃ w2, am_call (d + 4) 239 [.ref 358, .ref a, .ref t, .int (iI s), .int (iI (ckp wt (A.h s)))] (L, T, S0 n, am_w w, v, R0 o) = some (some (.int (iI (ckp (A.fadeW VF gv s wt) ((A.fade VF gv s).h s)))), (L, T, S0 n, am_w w2, v, R0 o)) ∧ CRep w2 t (A.fade VF gv s) ∧ FrT t w w2 := by
  have hT := lay_tab (n := n) (o := o) (a := t) (by omega)
  obtain ⟨t1, t2, t3, t4, t5, t6, t7, t8, t9⟩ := hT
  have hh := O.h s h0 h1
  have ch0 := C.h s h0 h1
  obtain ⟨H, hH⟩ := Int.eq_ofNat_of_zero_le hh.1
  have w2 : wt < A.h s := by omega
  obtain ⟨⟨jf, wf⟩, ⟨Cf, Ff⟩, ef⟩ := loop_p (fun (k : Nat) (p : (Option Value × Option Value) × (Nat → Int → Int)) => CRep p.2 t (fIter VF gv s A k).1 ∧ FrT t w p.2) (fun (k : Nat) (p : (Option Value × Option Value) × (Nat → Int → Int)) => am_run (d + 4) 239 (am_B 239 15) [some (.ref 358), some (.ref a), some (.ref t), some (.int (iI s)), some (.int (iI (ckp wt (A.h s)))), some (.int (iI (ckp (wIter VF gv s A wt k) ((fIter VF gv s A k).1.h s)))), some (.int (iI (fIter VF gv s A k).2)), some (.int (iI ((H : Int) - (k : Int)))), p.1.1, p.1.2] [] (L, T, S0 n, am_w p.2, v, R0 o)) H (by
    rintro k hk ⟨jj, wk⟩ ⟨Ck, Fk⟩
    dsimp only at Ck Fk ⊢
    obtain ⟨a1, a2, a3, a4⟩ := fI_ok_D (VF := VF) (gv := gv) O h0 h1 k (by omega)
    obtain ⟨b1, b2⟩ := wI_ok_D (VF := VF) (gv := gv) O h0 h1 w0 w2 k (by omega)
    have hhk := a1.h s h0 h1
    have al := a1.l s (fIter VF gv s A k).2 h0 h1 a2 (by omega)
    have ch := Ck.h s h0 h1
    have cv := Ck.view h0 h1 a2 (by omega)
    have fb := fadeV_bd (VF := VF) (A := (fIter VF gv s A k).1) (gv := gv) (s := s) (i := (fIter VF gv s A k).2)
    have eL : fLeft VF gv s (fIter VF gv s A k) = (fIter VF gv s A k).1.g s (fIter VF gv s A k).2 - fadeV VF (fIter VF gv s A k).1 gv s (fIter VF gv s A k).2 := rfl
    have cs := c_strongAt (d := d + 3) (L := L) (T := T) (v := v) (w := wk) (s := s) (i := (fIter VF gv s A k).2) (lay_tab (n := n) (o := o) (a := t) (by omega)) h0 h1 (by omega) (by omega) (by omega) (by omega)
    rw [cv.2] at cs
    obtain ⟨wf, qf, bf⟩ := c_fadesOf_D (d := d) (L := L) (T := T) (o := o) (n := n) (v := v) ha ht a1 hN Ck (G.fr ht Fk) (K.fr ha ht Fk) h0 h1 a2 (by omega)
    have Cf : CRep wf t (fIter VF gv s A k).1 := Ck.keep (fun b q1 q2 => bf b (by omega) (by omega))
    have Ff : FrT t wk wf := fun b q1 q2 q3 => bf b q2 q3
    have e1 : (H : Int) - ((k + 1 : Nat) : Int) = (H : Int) - (k : Int) + -1 := by omega
    generalize hi : (fIter VF gv s A k).2 = i at *
    generalize hB : (fIter VF gv s A k).1 = B at *
    generalize hl : fLeft VF gv s (fIter VF gv s A k) = l at *
    generalize hw : wIter VF gv s A wt k = wq at *
    by_cases c : 0 < l
    · have e2 : fIter VF gv s A (k + 1) = (B.str s i l, i + 1) := by rw [fIter, fStep, hl, if_pos c, hB, hi]
      have e3 : wIter VF gv s A wt (k + 1) = wq := by rw [wIter, hl, if_pos c, hw]
      obtain ⟨ws, qs, Cs, Fs⟩ := c_setStrong1_D (d := d + 3) (L := L) (T := T) (v := v) (lay_tab (n := n) (o := o) (a := t) (by omega)) a1 Cf (s := s) (i := i) (z := l) h0 h1 a2 (by omega) (by omega) (by omega)
      have em : min99 l = l := by unfold min99; rw [if_neg (by omega)]
      rw [em] at Cs
      refine ⟨((some (.int (iI (B.h s - 1 - i))), some (.int (iI l))), ws), ⟨by rw [e2]; exact Cs, (Fk.trans Ff).trans Fs⟩, ?_⟩
      dsimp only
      rw [e1, e2, e3]
      dsimp only
      have e4 : (B.str s i l).h s = B.h s := rfl
      rw [e4]
      conv => lhs; rw [bk_239_15]
      simp (decide := true) (disch := omega) only [en_239, bk_239_0, bk_239_75, bk_239_88, bk_239_98, bk_239_104, bq_239_0, bq_239_15, bq_239_75, bq_239_88, bq_239_98, bq_239_104, rn_iconst, rn_bipush, rn_sipush, rn_ldc_w, rn_ldc, rn_ldcS, rn_lconst, rn_ldc2, rn_gets, rn_iload0, rn_lload0, rn_aload0, rn_istore0, rn_astore0, rn_lstore0, rn_iinc0, rn_iload1, rn_lload1, rn_aload1, rn_istore1, rn_astore1, rn_lstore1, rn_iinc1, rn_iload2, rn_lload2, rn_aload2, rn_istore2, rn_astore2, rn_lstore2, rn_iinc2, rn_iload3, rn_lload3, rn_aload3, rn_istore3, rn_astore3, rn_lstore3, rn_iinc3, rn_iload4, rn_lload4, rn_aload4, rn_istore4, rn_astore4, rn_lstore4, rn_iinc4, rn_iload5, rn_lload5, rn_aload5, rn_istore5, rn_astore5, rn_lstore5, rn_iinc5, rn_iload6, rn_lload6, rn_aload6, rn_istore6, rn_astore6, rn_lstore6, rn_iinc6, rn_iload7, rn_aload7, rn_istore7, rn_astore7, rn_iinc7, rn_iload8, rn_aload8, rn_istore8, rn_astore8, rn_iinc8, rn_iload9, rn_aload9, rn_istore9, rn_astore9, rn_iinc9, rn_iadd, rn_isub, rn_imul, rn_iand, rn_ior, rn_ixor, rn_ishl, rn_ishr, rn_iushr, rn_idiv, rn_irem, rn_ineg, rn_ladd, rn_lsub, rn_lmul, rn_lor, rn_ldiv, rn_lrem, rn_lneg, rn_lshl, rn_lshr, rn_i2l, rn_l2i, rn_i2c, rn_lcmp, rn_dupi, rn_dupa, rn_popi, rn_popa, rn_dup2, rn_aast, rn_alen, rn_geta, rn_aald, rn_puta, rn_new, rn_newa, rn_anew, rn_min, rn_max, rn_slen, rn_chat, rn_indx, rn_objI, rn_nop, rn_goto, rn_ifeq, rn_ifne, rn_iflt, rn_ifge, rn_ifgt, rn_ifle, rn_iceq, rn_icne, rn_iclt, rn_icge, rn_icgt, rn_icle, rn_tsw, rn_lsw, rn_iret, rn_zret, rn_lret, rn_aret, rn_vret, rn_cs0, rn_cs1, rn_cs2, rn_cs3, rn_cs4, rn_cs5, rn_cs6, rn_cs7, rn_cv1, rn_ci1, rn_cv2, rn_ci2, rn_cv3, rn_ci3, rn_cv4, rn_cv5, rn_cv6, rn_cv7, cs_n, cs_i, cs_a, cs_l, rc_i, rc_a, rc_l, rc_n, rw_iald, rw_bald, rw_lald, rw_iast, rw_bast, rw_last, rw_geti, rw_getl, rw_puti, rw_putz, rw_putl, iI_add, iI_sub, iI_mul, iI_neg, iI_lt, iI_le, iI_eq, iI_lt0, iI_le0, iI_0lt, iI_0le, iI_eq0, iI_eq1, iI_div, iI_rem, am_in_ok, am_in_no, iI_toInt, iL_add, iL_sub, iL_mul, iL_neg, iL_div, iL_rem, iI_i2l, iL_l2i, iL_cmp, iL_eq0, iI_or, iI_and, iI_shl, if_true, if_false, true_or, or_true, true_and, and_true, false_or, or_false, not_true_eq_false, not_false_eq_true, Option.bind_some, Option.toList_some, Option.toList_none, List.nil_append, List.cons_append, ite_self, nc_0, nc_1, nc_2, nc_3, nc_4, nc_5, nc_6, nc_7, nc_8, nc_9, nc_10, nc_11, nc_12, nc_13, nc_14, nc_15, nc_16, nc_17, nc_18, nc_19, nc_20, nc_21, nc_22, nc_23, nc_24, nc_25, nc_26, nc_27, nc_28, nc_29, nc_30, nc_31, nc_32, nc_33, nc_34, nc_35, nc_36, nc_40, nc_48, nc_100, nc_256, nc_300, nc_304, sh_358, rf_358_0, rf_358_1, sh_359, rf_359_0, rf_359_1, rf_359_2, t1, t4, t8, ch, cs, qf, ← eL, qs, mx_164, mx_165, mx_231, if_pos, if_neg, sh_0, sh_393, rw_copy, am_cp_ok]
    · have e2 : fIter VF gv s A (k + 1) = (B.take s i, i) := by rw [fIter, fStep, hl, if_neg c, hB, hi]
      have e3 : wIter VF gv s A wt (k + 1) = wStep i wq := by rw [wIter, hl, if_neg c, hw, hi]
      obtain ⟨ws, qs, Cs, Fs⟩ := c_setStrong0_D (d := d + 2) (L := L) (T := T) (v := v) (lay_tab (n := n) (o := o) (a := t) (by omega)) a1 Cf (s := s) (i := i) (z := l) h0 h1 a2 (by omega) (by omega) (by omega)
      refine ⟨((some (.int (iI (B.h s - 1 - i))), some (.int (iI l))), ws), ⟨by rw [e2]; exact Cs, (Fk.trans Ff).trans Fs⟩, ?_⟩
      dsimp only
      rw [e1, e2, e3]
      dsimp only
      have e4 : (B.take s i).h s = B.h s - 1 := by show (if s = s then B.h s - 1 else B.h s) = _; rw [if_pos rfl]
      rw [e4]
      conv => lhs; rw [bk_239_15]
      by_cases z1 : i = wq
      · have e5 : ckp (wStep i wq) (B.h s - 1) = -1 := by unfold wStep ckp; rw [if_pos z1, if_pos rfl]
        have e6 : ckp wq (B.h s) = B.h s - 1 - i := by unfold ckp; rw [if_neg (by omega), z1]
        rw [e5, e6]
        simp (decide := true) (disch := omega) only [en_239, bk_239_0, bk_239_75, bk_239_88, bk_239_98, bk_239_104, bq_239_0, bq_239_15, bq_239_75, bq_239_88, bq_239_98, bq_239_104, rn_iconst, rn_bipush, rn_sipush, rn_ldc_w, rn_ldc, rn_ldcS, rn_lconst, rn_ldc2, rn_gets, rn_iload0, rn_lload0, rn_aload0, rn_istore0, rn_astore0, rn_lstore0, rn_iinc0, rn_iload1, rn_lload1, rn_aload1, rn_istore1, rn_astore1, rn_lstore1, rn_iinc1, rn_iload2, rn_lload2, rn_aload2, rn_istore2, rn_astore2, rn_lstore2, rn_iinc2, rn_iload3, rn_lload3, rn_aload3, rn_istore3, rn_astore3, rn_lstore3, rn_iinc3, rn_iload4, rn_lload4, rn_aload4, rn_istore4, rn_astore4, rn_lstore4, rn_iinc4, rn_iload5, rn_lload5, rn_aload5, rn_istore5, rn_astore5, rn_lstore5, rn_iinc5, rn_iload6, rn_lload6, rn_aload6, rn_istore6, rn_astore6, rn_lstore6, rn_iinc6, rn_iload7, rn_aload7, rn_istore7, rn_astore7, rn_iinc7, rn_iload8, rn_aload8, rn_istore8, rn_astore8, rn_iinc8, rn_iload9, rn_aload9, rn_istore9, rn_astore9, rn_iinc9, rn_iadd, rn_isub, rn_imul, rn_iand, rn_ior, rn_ixor, rn_ishl, rn_ishr, rn_iushr, rn_idiv, rn_irem, rn_ineg, rn_ladd, rn_lsub, rn_lmul, rn_lor, rn_ldiv, rn_lrem, rn_lneg, rn_lshl, rn_lshr, rn_i2l, rn_l2i, rn_i2c, rn_lcmp, rn_dupi, rn_dupa, rn_popi, rn_popa, rn_dup2, rn_aast, rn_alen, rn_geta, rn_aald, rn_puta, rn_new, rn_newa, rn_anew, rn_min, rn_max, rn_slen, rn_chat, rn_indx, rn_objI, rn_nop, rn_goto, rn_ifeq, rn_ifne, rn_iflt, rn_ifge, rn_ifgt, rn_ifle, rn_iceq, rn_icne, rn_iclt, rn_icge, rn_icgt, rn_icle, rn_tsw, rn_lsw, rn_iret, rn_zret, rn_lret, rn_aret, rn_vret, rn_cs0, rn_cs1, rn_cs2, rn_cs3, rn_cs4, rn_cs5, rn_cs6, rn_cs7, rn_cv1, rn_ci1, rn_cv2, rn_ci2, rn_cv3, rn_ci3, rn_cv4, rn_cv5, rn_cv6, rn_cv7, cs_n, cs_i, cs_a, cs_l, rc_i, rc_a, rc_l, rc_n, rw_iald, rw_bald, rw_lald, rw_iast, rw_bast, rw_last, rw_geti, rw_getl, rw_puti, rw_putz, rw_putl, iI_add, iI_sub, iI_mul, iI_neg, iI_lt, iI_le, iI_eq, iI_lt0, iI_le0, iI_0lt, iI_0le, iI_eq0, iI_eq1, iI_div, iI_rem, am_in_ok, am_in_no, iI_toInt, iL_add, iL_sub, iL_mul, iL_neg, iL_div, iL_rem, iI_i2l, iL_l2i, iL_cmp, iL_eq0, iI_or, iI_and, iI_shl, if_true, if_false, true_or, or_true, true_and, and_true, false_or, or_false, not_true_eq_false, not_false_eq_true, Option.bind_some, Option.toList_some, Option.toList_none, List.nil_append, List.cons_append, ite_self, nc_0, nc_1, nc_2, nc_3, nc_4, nc_5, nc_6, nc_7, nc_8, nc_9, nc_10, nc_11, nc_12, nc_13, nc_14, nc_15, nc_16, nc_17, nc_18, nc_19, nc_20, nc_21, nc_22, nc_23, nc_24, nc_25, nc_26, nc_27, nc_28, nc_29, nc_30, nc_31, nc_32, nc_33, nc_34, nc_35, nc_36, nc_40, nc_48, nc_100, nc_256, nc_300, nc_304, sh_358, rf_358_0, rf_358_1, sh_359, rf_359_0, rf_359_1, rf_359_2, t1, t4, t8, ch, cs, qf, ← eL, qs, mx_164, mx_165, mx_231, if_pos, if_neg, sh_0, sh_393, rw_copy, am_cp_ok]
      · by_cases z2 : i < wq
        · have e5 : ckp (wStep i wq) (B.h s - 1) = B.h s - 1 - wq := by unfold wStep ckp; rw [if_neg z1, if_pos z2, if_neg (by omega)]; omega
          have e6 : ckp wq (B.h s) = B.h s - 1 - wq := by unfold ckp; rw [if_neg (by omega)]
          have e7 : ¬ B.h s - 1 - i = B.h s - 1 - wq := by omega
          rw [e5, e6]
          simp (decide := true) (disch := omega) only [en_239, bk_239_0, bk_239_75, bk_239_88, bk_239_98, bk_239_104, bq_239_0, bq_239_15, bq_239_75, bq_239_88, bq_239_98, bq_239_104, rn_iconst, rn_bipush, rn_sipush, rn_ldc_w, rn_ldc, rn_ldcS, rn_lconst, rn_ldc2, rn_gets, rn_iload0, rn_lload0, rn_aload0, rn_istore0, rn_astore0, rn_lstore0, rn_iinc0, rn_iload1, rn_lload1, rn_aload1, rn_istore1, rn_astore1, rn_lstore1, rn_iinc1, rn_iload2, rn_lload2, rn_aload2, rn_istore2, rn_astore2, rn_lstore2, rn_iinc2, rn_iload3, rn_lload3, rn_aload3, rn_istore3, rn_astore3, rn_lstore3, rn_iinc3, rn_iload4, rn_lload4, rn_aload4, rn_istore4, rn_astore4, rn_lstore4, rn_iinc4, rn_iload5, rn_lload5, rn_aload5, rn_istore5, rn_astore5, rn_lstore5, rn_iinc5, rn_iload6, rn_lload6, rn_aload6, rn_istore6, rn_astore6, rn_lstore6, rn_iinc6, rn_iload7, rn_aload7, rn_istore7, rn_astore7, rn_iinc7, rn_iload8, rn_aload8, rn_istore8, rn_astore8, rn_iinc8, rn_iload9, rn_aload9, rn_istore9, rn_astore9, rn_iinc9, rn_iadd, rn_isub, rn_imul, rn_iand, rn_ior, rn_ixor, rn_ishl, rn_ishr, rn_iushr, rn_idiv, rn_irem, rn_ineg, rn_ladd, rn_lsub, rn_lmul, rn_lor, rn_ldiv, rn_lrem, rn_lneg, rn_lshl, rn_lshr, rn_i2l, rn_l2i, rn_i2c, rn_lcmp, rn_dupi, rn_dupa, rn_popi, rn_popa, rn_dup2, rn_aast, rn_alen, rn_geta, rn_aald, rn_puta, rn_new, rn_newa, rn_anew, rn_min, rn_max, rn_slen, rn_chat, rn_indx, rn_objI, rn_nop, rn_goto, rn_ifeq, rn_ifne, rn_iflt, rn_ifge, rn_ifgt, rn_ifle, rn_iceq, rn_icne, rn_iclt, rn_icge, rn_icgt, rn_icle, rn_tsw, rn_lsw, rn_iret, rn_zret, rn_lret, rn_aret, rn_vret, rn_cs0, rn_cs1, rn_cs2, rn_cs3, rn_cs4, rn_cs5, rn_cs6, rn_cs7, rn_cv1, rn_ci1, rn_cv2, rn_ci2, rn_cv3, rn_ci3, rn_cv4, rn_cv5, rn_cv6, rn_cv7, cs_n, cs_i, cs_a, cs_l, rc_i, rc_a, rc_l, rc_n, rw_iald, rw_bald, rw_lald, rw_iast, rw_bast, rw_last, rw_geti, rw_getl, rw_puti, rw_putz, rw_putl, iI_add, iI_sub, iI_mul, iI_neg, iI_lt, iI_le, iI_eq, iI_lt0, iI_le0, iI_0lt, iI_0le, iI_eq0, iI_eq1, iI_div, iI_rem, am_in_ok, am_in_no, iI_toInt, iL_add, iL_sub, iL_mul, iL_neg, iL_div, iL_rem, iI_i2l, iL_l2i, iL_cmp, iL_eq0, iI_or, iI_and, iI_shl, if_true, if_false, true_or, or_true, true_and, and_true, false_or, or_false, not_true_eq_false, not_false_eq_true, Option.bind_some, Option.toList_some, Option.toList_none, List.nil_append, List.cons_append, ite_self, nc_0, nc_1, nc_2, nc_3, nc_4, nc_5, nc_6, nc_7, nc_8, nc_9, nc_10, nc_11, nc_12, nc_13, nc_14, nc_15, nc_16, nc_17, nc_18, nc_19, nc_20, nc_21, nc_22, nc_23, nc_24, nc_25, nc_26, nc_27, nc_28, nc_29, nc_30, nc_31, nc_32, nc_33, nc_34, nc_35, nc_36, nc_40, nc_48, nc_100, nc_256, nc_300, nc_304, sh_358, rf_358_0, rf_358_1, sh_359, rf_359_0, rf_359_1, rf_359_2, t1, t4, t8, ch, cs, qf, ← eL, qs, e7, mx_164, mx_165, mx_231, if_pos, if_neg, sh_0, sh_393, rw_copy, am_cp_ok]
        · by_cases z3 : wq = -1
          · have e5 : ckp (wStep i wq) (B.h s - 1) = -1 := by unfold wStep ckp; rw [if_neg z1, if_neg z2, if_pos z3]
            have e6 : ckp wq (B.h s) = -1 := by unfold ckp; rw [if_pos z3]
            have e7 : ¬ B.h s - 1 - i = -1 := by omega
            rw [e5, e6]
            simp (decide := true) (disch := omega) only [en_239, bk_239_0, bk_239_75, bk_239_88, bk_239_98, bk_239_104, bq_239_0, bq_239_15, bq_239_75, bq_239_88, bq_239_98, bq_239_104, rn_iconst, rn_bipush, rn_sipush, rn_ldc_w, rn_ldc, rn_ldcS, rn_lconst, rn_ldc2, rn_gets, rn_iload0, rn_lload0, rn_aload0, rn_istore0, rn_astore0, rn_lstore0, rn_iinc0, rn_iload1, rn_lload1, rn_aload1, rn_istore1, rn_astore1, rn_lstore1, rn_iinc1, rn_iload2, rn_lload2, rn_aload2, rn_istore2, rn_astore2, rn_lstore2, rn_iinc2, rn_iload3, rn_lload3, rn_aload3, rn_istore3, rn_astore3, rn_lstore3, rn_iinc3, rn_iload4, rn_lload4, rn_aload4, rn_istore4, rn_astore4, rn_lstore4, rn_iinc4, rn_iload5, rn_lload5, rn_aload5, rn_istore5, rn_astore5, rn_lstore5, rn_iinc5, rn_iload6, rn_lload6, rn_aload6, rn_istore6, rn_astore6, rn_lstore6, rn_iinc6, rn_iload7, rn_aload7, rn_istore7, rn_astore7, rn_iinc7, rn_iload8, rn_aload8, rn_istore8, rn_astore8, rn_iinc8, rn_iload9, rn_aload9, rn_istore9, rn_astore9, rn_iinc9, rn_iadd, rn_isub, rn_imul, rn_iand, rn_ior, rn_ixor, rn_ishl, rn_ishr, rn_iushr, rn_idiv, rn_irem, rn_ineg, rn_ladd, rn_lsub, rn_lmul, rn_lor, rn_ldiv, rn_lrem, rn_lneg, rn_lshl, rn_lshr, rn_i2l, rn_l2i, rn_i2c, rn_lcmp, rn_dupi, rn_dupa, rn_popi, rn_popa, rn_dup2, rn_aast, rn_alen, rn_geta, rn_aald, rn_puta, rn_new, rn_newa, rn_anew, rn_min, rn_max, rn_slen, rn_chat, rn_indx, rn_objI, rn_nop, rn_goto, rn_ifeq, rn_ifne, rn_iflt, rn_ifge, rn_ifgt, rn_ifle, rn_iceq, rn_icne, rn_iclt, rn_icge, rn_icgt, rn_icle, rn_tsw, rn_lsw, rn_iret, rn_zret, rn_lret, rn_aret, rn_vret, rn_cs0, rn_cs1, rn_cs2, rn_cs3, rn_cs4, rn_cs5, rn_cs6, rn_cs7, rn_cv1, rn_ci1, rn_cv2, rn_ci2, rn_cv3, rn_ci3, rn_cv4, rn_cv5, rn_cv6, rn_cv7, cs_n, cs_i, cs_a, cs_l, rc_i, rc_a, rc_l, rc_n, rw_iald, rw_bald, rw_lald, rw_iast, rw_bast, rw_last, rw_geti, rw_getl, rw_puti, rw_putz, rw_putl, iI_add, iI_sub, iI_mul, iI_neg, iI_lt, iI_le, iI_eq, iI_lt0, iI_le0, iI_0lt, iI_0le, iI_eq0, iI_eq1, iI_div, iI_rem, am_in_ok, am_in_no, iI_toInt, iL_add, iL_sub, iL_mul, iL_neg, iL_div, iL_rem, iI_i2l, iL_l2i, iL_cmp, iL_eq0, iI_or, iI_and, iI_shl, if_true, if_false, true_or, or_true, true_and, and_true, false_or, or_false, not_true_eq_false, not_false_eq_true, Option.bind_some, Option.toList_some, Option.toList_none, List.nil_append, List.cons_append, ite_self, nc_0, nc_1, nc_2, nc_3, nc_4, nc_5, nc_6, nc_7, nc_8, nc_9, nc_10, nc_11, nc_12, nc_13, nc_14, nc_15, nc_16, nc_17, nc_18, nc_19, nc_20, nc_21, nc_22, nc_23, nc_24, nc_25, nc_26, nc_27, nc_28, nc_29, nc_30, nc_31, nc_32, nc_33, nc_34, nc_35, nc_36, nc_40, nc_48, nc_100, nc_256, nc_300, nc_304, sh_358, rf_358_0, rf_358_1, sh_359, rf_359_0, rf_359_1, rf_359_2, t1, t4, t8, ch, cs, qf, ← eL, qs, e7, mx_164, mx_165, mx_231, if_pos, if_neg, sh_0, sh_393, rw_copy, am_cp_ok]
          · have e5 : ckp (wStep i wq) (B.h s - 1) = B.h s - 1 - wq + -1 := by unfold wStep ckp; rw [if_neg z1, if_neg z2, if_neg z3]; omega
            have e6 : ckp wq (B.h s) = B.h s - 1 - wq := by unfold ckp; rw [if_neg z3]
            have e7 : ¬ B.h s - 1 - i = B.h s - 1 - wq := by omega
            rw [e5, e6]
            simp (decide := true) (disch := omega) only [en_239, bk_239_0, bk_239_75, bk_239_88, bk_239_98, bk_239_104, bq_239_0, bq_239_15, bq_239_75, bq_239_88, bq_239_98, bq_239_104, rn_iconst, rn_bipush, rn_sipush, rn_ldc_w, rn_ldc, rn_ldcS, rn_lconst, rn_ldc2, rn_gets, rn_iload0, rn_lload0, rn_aload0, rn_istore0, rn_astore0, rn_lstore0, rn_iinc0, rn_iload1, rn_lload1, rn_aload1, rn_istore1, rn_astore1, rn_lstore1, rn_iinc1, rn_iload2, rn_lload2, rn_aload2, rn_istore2, rn_astore2, rn_lstore2, rn_iinc2, rn_iload3, rn_lload3, rn_aload3, rn_istore3, rn_astore3, rn_lstore3, rn_iinc3, rn_iload4, rn_lload4, rn_aload4, rn_istore4, rn_astore4, rn_lstore4, rn_iinc4, rn_iload5, rn_lload5, rn_aload5, rn_istore5, rn_astore5, rn_lstore5, rn_iinc5, rn_iload6, rn_lload6, rn_aload6, rn_istore6, rn_astore6, rn_lstore6, rn_iinc6, rn_iload7, rn_aload7, rn_istore7, rn_astore7, rn_iinc7, rn_iload8, rn_aload8, rn_istore8, rn_astore8, rn_iinc8, rn_iload9, rn_aload9, rn_istore9, rn_astore9, rn_iinc9, rn_iadd, rn_isub, rn_imul, rn_iand, rn_ior, rn_ixor, rn_ishl, rn_ishr, rn_iushr, rn_idiv, rn_irem, rn_ineg, rn_ladd, rn_lsub, rn_lmul, rn_lor, rn_ldiv, rn_lrem, rn_lneg, rn_lshl, rn_lshr, rn_i2l, rn_l2i, rn_i2c, rn_lcmp, rn_dupi, rn_dupa, rn_popi, rn_popa, rn_dup2, rn_aast, rn_alen, rn_geta, rn_aald, rn_puta, rn_new, rn_newa, rn_anew, rn_min, rn_max, rn_slen, rn_chat, rn_indx, rn_objI, rn_nop, rn_goto, rn_ifeq, rn_ifne, rn_iflt, rn_ifge, rn_ifgt, rn_ifle, rn_iceq, rn_icne, rn_iclt, rn_icge, rn_icgt, rn_icle, rn_tsw, rn_lsw, rn_iret, rn_zret, rn_lret, rn_aret, rn_vret, rn_cs0, rn_cs1, rn_cs2, rn_cs3, rn_cs4, rn_cs5, rn_cs6, rn_cs7, rn_cv1, rn_ci1, rn_cv2, rn_ci2, rn_cv3, rn_ci3, rn_cv4, rn_cv5, rn_cv6, rn_cv7, cs_n, cs_i, cs_a, cs_l, rc_i, rc_a, rc_l, rc_n, rw_iald, rw_bald, rw_lald, rw_iast, rw_bast, rw_last, rw_geti, rw_getl, rw_puti, rw_putz, rw_putl, iI_add, iI_sub, iI_mul, iI_neg, iI_lt, iI_le, iI_eq, iI_lt0, iI_le0, iI_0lt, iI_0le, iI_eq0, iI_eq1, iI_div, iI_rem, am_in_ok, am_in_no, iI_toInt, iL_add, iL_sub, iL_mul, iL_neg, iL_div, iL_rem, iI_i2l, iL_l2i, iL_cmp, iL_eq0, iI_or, iI_and, iI_shl, if_true, if_false, true_or, or_true, true_and, and_true, false_or, or_false, not_true_eq_false, not_false_eq_true, Option.bind_some, Option.toList_some, Option.toList_none, List.nil_append, List.cons_append, ite_self, nc_0, nc_1, nc_2, nc_3, nc_4, nc_5, nc_6, nc_7, nc_8, nc_9, nc_10, nc_11, nc_12, nc_13, nc_14, nc_15, nc_16, nc_17, nc_18, nc_19, nc_20, nc_21, nc_22, nc_23, nc_24, nc_25, nc_26, nc_27, nc_28, nc_29, nc_30, nc_31, nc_32, nc_33, nc_34, nc_35, nc_36, nc_40, nc_48, nc_100, nc_256, nc_300, nc_304, sh_358, rf_358_0, rf_358_1, sh_359, rf_359_0, rf_359_1, rf_359_2, t1, t4, t8, ch, cs, qf, ← eL, qs, e7, mx_164, mx_165, mx_231, if_pos, if_neg, sh_0, sh_393, rw_copy, am_cp_ok]) ((none, none), w) ⟨C, FrT.refl⟩
  refine ⟨wf, ?_, ?_, Ff⟩
  · refine Eq.trans ?_ (ef.trans ?_)
    · have z0 : fIter VF gv s A 0 = (A, 0) := rfl
      have z1 : wIter VF gv s A wt 0 = wt := rfl
      simp (decide := true) (disch := omega) only [en_239, bk_239_0, bk_239_75, bk_239_88, bk_239_98, bk_239_104, bq_239_0, bq_239_15, bq_239_75, bq_239_88, bq_239_98, bq_239_104, rn_iconst, rn_bipush, rn_sipush, rn_ldc_w, rn_ldc, rn_ldcS, rn_lconst, rn_ldc2, rn_gets, rn_iload0, rn_lload0, rn_aload0, rn_istore0, rn_astore0, rn_lstore0, rn_iinc0, rn_iload1, rn_lload1, rn_aload1, rn_istore1, rn_astore1, rn_lstore1, rn_iinc1, rn_iload2, rn_lload2, rn_aload2, rn_istore2, rn_astore2, rn_lstore2, rn_iinc2, rn_iload3, rn_lload3, rn_aload3, rn_istore3, rn_astore3, rn_lstore3, rn_iinc3, rn_iload4, rn_lload4, rn_aload4, rn_istore4, rn_astore4, rn_lstore4, rn_iinc4, rn_iload5, rn_lload5, rn_aload5, rn_istore5, rn_astore5, rn_lstore5, rn_iinc5, rn_iload6, rn_lload6, rn_aload6, rn_istore6, rn_astore6, rn_lstore6, rn_iinc6, rn_iload7, rn_aload7, rn_istore7, rn_astore7, rn_iinc7, rn_iload8, rn_aload8, rn_istore8, rn_astore8, rn_iinc8, rn_iload9, rn_aload9, rn_istore9, rn_astore9, rn_iinc9, rn_iadd, rn_isub, rn_imul, rn_iand, rn_ior, rn_ixor, rn_ishl, rn_ishr, rn_iushr, rn_idiv, rn_irem, rn_ineg, rn_ladd, rn_lsub, rn_lmul, rn_lor, rn_ldiv, rn_lrem, rn_lneg, rn_lshl, rn_lshr, rn_i2l, rn_l2i, rn_i2c, rn_lcmp, rn_dupi, rn_dupa, rn_popi, rn_popa, rn_dup2, rn_aast, rn_alen, rn_geta, rn_aald, rn_puta, rn_new, rn_newa, rn_anew, rn_min, rn_max, rn_slen, rn_chat, rn_indx, rn_objI, rn_nop, rn_goto, rn_ifeq, rn_ifne, rn_iflt, rn_ifge, rn_ifgt, rn_ifle, rn_iceq, rn_icne, rn_iclt, rn_icge, rn_icgt, rn_icle, rn_tsw, rn_lsw, rn_iret, rn_zret, rn_lret, rn_aret, rn_vret, rn_cs0, rn_cs1, rn_cs2, rn_cs3, rn_cs4, rn_cs5, rn_cs6, rn_cs7, rn_cv1, rn_ci1, rn_cv2, rn_ci2, rn_cv3, rn_ci3, rn_cv4, rn_cv5, rn_cv6, rn_cv7, cs_n, cs_i, cs_a, cs_l, rc_i, rc_a, rc_l, rc_n, rw_iald, rw_bald, rw_lald, rw_iast, rw_bast, rw_last, rw_geti, rw_getl, rw_puti, rw_putz, rw_putl, iI_add, iI_sub, iI_mul, iI_neg, iI_lt, iI_le, iI_eq, iI_lt0, iI_le0, iI_0lt, iI_0le, iI_eq0, iI_eq1, iI_div, iI_rem, am_in_ok, am_in_no, iI_toInt, iL_add, iL_sub, iL_mul, iL_neg, iL_div, iL_rem, iI_i2l, iL_l2i, iL_cmp, iL_eq0, iI_or, iI_and, iI_shl, if_true, if_false, true_or, or_true, true_and, and_true, false_or, or_false, not_true_eq_false, not_false_eq_true, Option.bind_some, Option.toList_some, Option.toList_none, List.nil_append, List.cons_append, ite_self, nc_0, nc_1, nc_2, nc_3, nc_4, nc_5, nc_6, nc_7, nc_8, nc_9, nc_10, nc_11, nc_12, nc_13, nc_14, nc_15, nc_16, nc_17, nc_18, nc_19, nc_20, nc_21, nc_22, nc_23, nc_24, nc_25, nc_26, nc_27, nc_28, nc_29, nc_30, nc_31, nc_32, nc_33, nc_34, nc_35, nc_36, nc_40, nc_48, nc_100, nc_256, nc_300, nc_304, t1, t4, t8, ch0, z0, z1, hH, Int.sub_zero, if_pos, if_neg, sh_0, sh_393, rw_copy, am_cp_ok]
    · conv => lhs; rw [bk_239_15]
      unfold AT.fadeW AT.fade
      simp (decide := true) (disch := omega) only [en_239, bk_239_0, bk_239_75, bk_239_88, bk_239_98, bk_239_104, bq_239_0, bq_239_15, bq_239_75, bq_239_88, bq_239_98, bq_239_104, rn_iconst, rn_bipush, rn_sipush, rn_ldc_w, rn_ldc, rn_ldcS, rn_lconst, rn_ldc2, rn_gets, rn_iload0, rn_lload0, rn_aload0, rn_istore0, rn_astore0, rn_lstore0, rn_iinc0, rn_iload1, rn_lload1, rn_aload1, rn_istore1, rn_astore1, rn_lstore1, rn_iinc1, rn_iload2, rn_lload2, rn_aload2, rn_istore2, rn_astore2, rn_lstore2, rn_iinc2, rn_iload3, rn_lload3, rn_aload3, rn_istore3, rn_astore3, rn_lstore3, rn_iinc3, rn_iload4, rn_lload4, rn_aload4, rn_istore4, rn_astore4, rn_lstore4, rn_iinc4, rn_iload5, rn_lload5, rn_aload5, rn_istore5, rn_astore5, rn_lstore5, rn_iinc5, rn_iload6, rn_lload6, rn_aload6, rn_istore6, rn_astore6, rn_lstore6, rn_iinc6, rn_iload7, rn_aload7, rn_istore7, rn_astore7, rn_iinc7, rn_iload8, rn_aload8, rn_istore8, rn_astore8, rn_iinc8, rn_iload9, rn_aload9, rn_istore9, rn_astore9, rn_iinc9, rn_iadd, rn_isub, rn_imul, rn_iand, rn_ior, rn_ixor, rn_ishl, rn_ishr, rn_iushr, rn_idiv, rn_irem, rn_ineg, rn_ladd, rn_lsub, rn_lmul, rn_lor, rn_ldiv, rn_lrem, rn_lneg, rn_lshl, rn_lshr, rn_i2l, rn_l2i, rn_i2c, rn_lcmp, rn_dupi, rn_dupa, rn_popi, rn_popa, rn_dup2, rn_aast, rn_alen, rn_geta, rn_aald, rn_puta, rn_new, rn_newa, rn_anew, rn_min, rn_max, rn_slen, rn_chat, rn_indx, rn_objI, rn_nop, rn_goto, rn_ifeq, rn_ifne, rn_iflt, rn_ifge, rn_ifgt, rn_ifle, rn_iceq, rn_icne, rn_iclt, rn_icge, rn_icgt, rn_icle, rn_tsw, rn_lsw, rn_iret, rn_zret, rn_lret, rn_aret, rn_vret, rn_cs0, rn_cs1, rn_cs2, rn_cs3, rn_cs4, rn_cs5, rn_cs6, rn_cs7, rn_cv1, rn_ci1, rn_cv2, rn_ci2, rn_cv3, rn_ci3, rn_cv4, rn_cv5, rn_cv6, rn_cv7, cs_n, cs_i, cs_a, cs_l, rc_i, rc_a, rc_l, rc_n, rw_iald, rw_bald, rw_lald, rw_iast, rw_bast, rw_last, rw_geti, rw_getl, rw_puti, rw_putz, rw_putl, iI_add, iI_sub, iI_mul, iI_neg, iI_lt, iI_le, iI_eq, iI_lt0, iI_le0, iI_0lt, iI_0le, iI_eq0, iI_eq1, iI_div, iI_rem, am_in_ok, am_in_no, iI_toInt, iL_add, iL_sub, iL_mul, iL_neg, iL_div, iL_rem, iI_i2l, iL_l2i, iL_cmp, iL_eq0, iI_or, iI_and, iI_shl, if_true, if_false, true_or, or_true, true_and, and_true, false_or, or_false, not_true_eq_false, not_false_eq_true, Option.bind_some, Option.toList_some, Option.toList_none, List.nil_append, List.cons_append, ite_self, nc_0, nc_1, nc_2, nc_3, nc_4, nc_5, nc_6, nc_7, nc_8, nc_9, nc_10, nc_11, nc_12, nc_13, nc_14, nc_15, nc_16, nc_17, nc_18, nc_19, nc_20, nc_21, nc_22, nc_23, nc_24, nc_25, nc_26, nc_27, nc_28, nc_29, nc_30, nc_31, nc_32, nc_33, nc_34, nc_35, nc_36, nc_40, nc_48, nc_100, nc_256, nc_300, nc_304, Int.sub_self, hH, Int.toNat_natCast, if_pos, if_neg, sh_0, sh_393, rw_copy, am_cp_ok]
  · unfold AT.fade
    rw [hH, Int.toNat_natCast]
    exact Cf
end FX26
section FX27
theorem wI_rg_D {VF : Option (LEnv → Int)} {gv : Int → Int} {s N : Int} {A : AT} (O : AOkD A N) (h0 : 0 ≤ s) (h1 : s < 8) {wt : Int} (w0 : -2147483648 ≤ wt) (w1 : wt ≤ 2147483647) : ∀ k : Nat, (k : Int) ≤ A.h s → -2147483648 ≤ wIter VF gv s A wt k ∧ wIter VF gv s A wt k ≤ 2147483647
  | 0, _ => ⟨w0, w1⟩
  | k + 1, hk => by
    have ih := wI_rg_D (VF := VF) (gv := gv) O h0 h1 w0 w1 k (by omega)
    obtain ⟨a1, a2, a3, a4⟩ := fI_ok_D (VF := VF) (gv := gv) O h0 h1 k (by omega)
    rw [wIter]
    split
    · exact ih
    · unfold wStep
      split
      · omega
      · split <;> omega
end FX27
section FX28
variable {d L T o n : Nat} {u : Nat → Int → Int} {v : Nat → Nat → Int64} {A : AT} {N : Int} {gv fl cd : Int → Int} {VF VT : Option (LEnv → Int)} {bk : Bool} {s wt ws : Int}
set_option maxHeartbeats 2000000 in
theorem m_fadeSpoon_D (O : AOkD A N) (hN : N ≤ 6) (R : MRep bk u A) (G : MGst u N gv fl cd) (K : MLaw u (u 394 2) VF VT) (h0 : 0 ≤ s) (h1 : s < 8) (hws : u 393 25 = ws) (s0 : -2147483648 ≤ ws) (s1 : ws ≤ 2147483647) (hwt : u 393 26 = wt) (w0 : -2147483648 ≤ wt) (w1 : wt ≤ 2147483647) :
    ∃ u2 v2, am_call (d + 6) 246 [.ref 393, .int (iI s)] (L, T, S0 n, am_w u, v, R0 o) = some (none, (L, T, S0 n, am_w u2, v2, R0 o)) ∧ MRep bk u2 (A.fade VF gv s) ∧ FrW bk u u2 ∧ u2 393 26 = (if s = ws then A.fadeW VF gv s wt else wt) := by
  have hh := O.h s h0 h1
  obtain ⟨H, hH⟩ := Int.eq_ofNat_of_zero_le hh.1
  obtain ⟨⟨jf, uf, vf⟩, ⟨Rf, Ff, Wf⟩, ef⟩ := loop_p (fun (k : Nat) (p : Option Value × (Nat → Int → Int) × (Nat → Nat → Int64)) => MRep bk p.2.1 (fIter VF gv s A k).1 ∧ FrW bk u p.2.1 ∧ p.2.1 393 26 = (if s = ws then wIter VF gv s A wt k else wt)) (fun (k : Nat) (p : Option Value × (Nat → Int → Int) × (Nat → Nat → Int64)) => am_run (d + 6) 246 (am_B 246 2) [some (.ref 393), some (.int (iI s)), some (.int (iI (fIter VF gv s A k).2)), p.1] [] (L, T, S0 n, am_w p.2.1, p.2.2, R0 o)) H (by
    rintro k hk ⟨jj, uk, vk⟩ ⟨Rk, Fk, Wk⟩
    dsimp only at Rk Fk Wk ⊢
    obtain ⟨a1, a2, a3, a4⟩ := fI_ok_D (VF := VF) (gv := gv) O h0 h1 k (by omega)
    have wr := wI_rg_D (VF := VF) (gv := gv) O h0 h1 w0 w1 k (by omega)
    have hhk := a1.h s h0 h1
    have al := a1.l s (fIter VF gv s A k).2 h0 h1 a2 (by omega)
    have rh := Rk.h s h0 h1
    have rv := Rk.viewD a1 hN h0 h1 a2 (by omega)
    have fb := fadeV_bd (VF := VF) (A := (fIter VF gv s A k).1) (gv := gv) (s := s) (i := (fIter VF gv s A k).2)
    have eL : fLeft VF gv s (fIter VF gv s A k) = (fIter VF gv s A k).1.g s (fIter VF gv s A k).2 - fadeV VF (fIter VF gv s A k).1 gv s (fIter VF gv s A k).2 := rfl
    obtain ⟨ug, vg, qf, bf⟩ := m_fadesOf_D (d := d) (L := L) (T := T) (o := o) (n := n) (v := vk) a1 hN Rk (Fk.p.gst G) (Fk.p.law K) h0 h1 a2 (by omega)
    have Rg : MRep bk ug (fIter VF gv s A k).1 := Rk.keep (bf 393 (by decide) (by decide)) (bf 394 (by decide) (by decide))
    have Fg : FrW bk uk ug := ⟨fun b q1 q2 q3 q4 => bf b q3 q4, fun b _ _ => by rw [bf 393 (by decide) (by decide)], fun b _ => by rw [bf 394 (by decide) (by decide)]⟩
    have rvg := Rg.viewD a1 hN h0 h1 a2 (by omega)
    have Wg : ug 393 26 = (if s = ws then wIter VF gv s A wt k else wt) := by rw [bf 393 (by decide) (by decide)]; exact Wk
    generalize hi : (fIter VF gv s A k).2 = i at *
    generalize hB : (fIter VF gv s A k).1 = B at *
    generalize hl : fLeft VF gv s (fIter VF gv s A k) = l at *
    generalize hw : wIter VF gv s A wt k = wq at *
    have g1 : ¬ B.h s ≤ i := by omega
    by_cases c : 0 < l
    · have e2 : fIter VF gv s A (k + 1) = (B.str s i l, i + 1) := by rw [fIter, fStep, hl, if_pos c, hB, hi]
      have e3 : wIter VF gv s A wt (k + 1) = wq := by rw [wIter, hl, if_pos c, hw]
      obtain ⟨Rs, Fs⟩ := Rg.strD a1 (z := l) h0 h1 a2 (by omega)
      refine ⟨(some (.int (iI l)), upI ug 394 (19 + 5 * s + i) (100 * B.m s i + l), vg), ⟨by rw [e2]; exact Rs, (Fk.trans Fg).trans Fs.w, by rw [e3]; dsimp only; rw [upI_1 (by decide)]; exact Wg⟩, ?_⟩
      dsimp only
      rw [e2]
      dsimp only
      conv => lhs; rw [bk_246_2]
      simp (decide := true) (disch := omega) only [en_246, bk_246_0, bk_246_48, bk_246_75, bk_246_101, bk_246_104, bq_246_0, bq_246_2, bq_246_48, bq_246_75, bq_246_101, bq_246_104, rn_iconst, rn_bipush, rn_sipush, rn_ldc_w, rn_ldc, rn_ldcS, rn_lconst, rn_ldc2, rn_gets, rn_iload0, rn_lload0, rn_aload0, rn_istore0, rn_astore0, rn_lstore0, rn_iinc0, rn_iload1, rn_lload1, rn_aload1, rn_istore1, rn_astore1, rn_lstore1, rn_iinc1, rn_iload2, rn_lload2, rn_aload2, rn_istore2, rn_astore2, rn_lstore2, rn_iinc2, rn_iload3, rn_lload3, rn_aload3, rn_istore3, rn_astore3, rn_lstore3, rn_iinc3, rn_iload4, rn_lload4, rn_aload4, rn_istore4, rn_astore4, rn_lstore4, rn_iinc4, rn_iload5, rn_lload5, rn_aload5, rn_istore5, rn_astore5, rn_lstore5, rn_iinc5, rn_iload6, rn_lload6, rn_aload6, rn_istore6, rn_astore6, rn_lstore6, rn_iinc6, rn_iload7, rn_aload7, rn_istore7, rn_astore7, rn_iinc7, rn_iload8, rn_aload8, rn_istore8, rn_astore8, rn_iinc8, rn_iload9, rn_aload9, rn_istore9, rn_astore9, rn_iinc9, rn_iadd, rn_isub, rn_imul, rn_iand, rn_ior, rn_ixor, rn_ishl, rn_ishr, rn_iushr, rn_idiv, rn_irem, rn_ineg, rn_ladd, rn_lsub, rn_lmul, rn_lor, rn_ldiv, rn_lrem, rn_lneg, rn_lshl, rn_lshr, rn_i2l, rn_l2i, rn_i2c, rn_lcmp, rn_dupi, rn_dupa, rn_popi, rn_popa, rn_dup2, rn_aast, rn_alen, rn_geta, rn_aald, rn_puta, rn_new, rn_newa, rn_anew, rn_min, rn_max, rn_slen, rn_chat, rn_indx, rn_objI, rn_nop, rn_goto, rn_ifeq, rn_ifne, rn_iflt, rn_ifge, rn_ifgt, rn_ifle, rn_iceq, rn_icne, rn_iclt, rn_icge, rn_icgt, rn_icle, rn_tsw, rn_lsw, rn_iret, rn_zret, rn_lret, rn_aret, rn_vret, rn_cs0, rn_cs1, rn_cs2, rn_cs3, rn_cs4, rn_cs5, rn_cs6, rn_cs7, rn_cv1, rn_ci1, rn_cv2, rn_ci2, rn_cv3, rn_ci3, rn_cv4, rn_cv5, rn_cv6, rn_cv7, cs_n, cs_i, cs_a, cs_l, rc_i, rc_a, rc_l, rc_n, rw_iald, rw_bald, rw_lald, rw_iast, rw_bast, rw_last, rw_geti, rw_getl, rw_puti, rw_putz, rw_putl, iI_add, iI_sub, iI_mul, iI_neg, iI_lt, iI_le, iI_eq, iI_lt0, iI_le0, iI_0lt, iI_0le, iI_eq0, iI_eq1, iI_div, iI_rem, am_in_ok, am_in_no, iI_toInt, iL_add, iL_sub, iL_mul, iL_neg, iL_div, iL_rem, iI_i2l, iL_l2i, iL_cmp, iL_eq0, iI_or, iI_and, iI_shl, if_true, if_false, true_or, or_true, true_and, and_true, false_or, or_false, not_true_eq_false, not_false_eq_true, Option.bind_some, Option.toList_some, Option.toList_none, List.nil_append, List.cons_append, ite_self, nc_0, nc_1, nc_2, nc_3, nc_4, nc_5, nc_6, nc_7, nc_8, nc_9, nc_10, nc_11, nc_12, nc_13, nc_14, nc_15, nc_16, nc_17, nc_18, nc_19, nc_20, nc_21, nc_22, nc_23, nc_24, nc_25, nc_26, nc_27, nc_28, nc_29, nc_30, nc_31, nc_32, nc_33, nc_34, nc_35, nc_36, nc_40, nc_48, nc_100, nc_256, nc_300, nc_304, sh_393, rf_393_0, rf_393_1, rf_393_2, rf_393_3, rf_393_15, rf_393_20, rf_393_21, rf_393_22, rf_393_27, rf_393_28, rf_393_29, rf_393_30, rf_393_34, sh_394, m_manyOf, m_strongOf, m_mouthOf, m_putLayer, rh, rv.2.1, qf, ← eL, rvg.1, mx_145, mx_160, mx_167, mx_159, mx_228, g1, if_pos, if_neg, sh_0, sh_393, rw_copy, am_cp_ok]
    · have e2 : fIter VF gv s A (k + 1) = (B.take s i, i) := by rw [fIter, fStep, hl, if_neg c, hB, hi]
      have e3 : wIter VF gv s A wt (k + 1) = wStep i wq := by rw [wIter, hl, if_neg c, hw, hi]
      obtain ⟨us, qs, Rs, Fs⟩ := m_takeLayer_D (d := d + 4) (L := L) (T := T) (o := o) (n := n) (v := vg) a1 Rg (s := s) (i := i) h0 h1 a2 (by omega)
      have Fa := (Fk.trans Fg).trans Fs.w
      have k25 : us 393 25 = ws := by rw [Fa.2.1 25 (by decide) (by decide)]; exact hws
      have k26 : us 393 26 = (if s = ws then wq else wt) := by rw [Fs.2.1 26 (by decide) (by decide)]; exact Wg
      by_cases z0 : s = ws
      · rw [if_pos z0] at k26
        by_cases z1 : i = wq
        · have e5 : wStep i wq = -1 := by unfold wStep; rw [if_pos z1]
          refine ⟨(some (.int (iI l)), upI us 393 26 (-1), vg), ⟨by rw [e2]; dsimp only; exact Rs.keep2 (upI_2 (by decide)) (upI_c (by decide)), Fa.w26, by rw [e3, e5, if_pos z0]; dsimp only; exact upI_s⟩, ?_⟩
          dsimp only
          rw [e2]
          dsimp only
          conv => lhs; rw [bk_246_2]
          simp (decide := true) (disch := omega) only [en_246, bk_246_0, bk_246_48, bk_246_75, bk_246_101, bk_246_104, bq_246_0, bq_246_2, bq_246_48, bq_246_75, bq_246_101, bq_246_104, rn_iconst, rn_bipush, rn_sipush, rn_ldc_w, rn_ldc, rn_ldcS, rn_lconst, rn_ldc2, rn_gets, rn_iload0, rn_lload0, rn_aload0, rn_istore0, rn_astore0, rn_lstore0, rn_iinc0, rn_iload1, rn_lload1, rn_aload1, rn_istore1, rn_astore1, rn_lstore1, rn_iinc1, rn_iload2, rn_lload2, rn_aload2, rn_istore2, rn_astore2, rn_lstore2, rn_iinc2, rn_iload3, rn_lload3, rn_aload3, rn_istore3, rn_astore3, rn_lstore3, rn_iinc3, rn_iload4, rn_lload4, rn_aload4, rn_istore4, rn_astore4, rn_lstore4, rn_iinc4, rn_iload5, rn_lload5, rn_aload5, rn_istore5, rn_astore5, rn_lstore5, rn_iinc5, rn_iload6, rn_lload6, rn_aload6, rn_istore6, rn_astore6, rn_lstore6, rn_iinc6, rn_iload7, rn_aload7, rn_istore7, rn_astore7, rn_iinc7, rn_iload8, rn_aload8, rn_istore8, rn_astore8, rn_iinc8, rn_iload9, rn_aload9, rn_istore9, rn_astore9, rn_iinc9, rn_iadd, rn_isub, rn_imul, rn_iand, rn_ior, rn_ixor, rn_ishl, rn_ishr, rn_iushr, rn_idiv, rn_irem, rn_ineg, rn_ladd, rn_lsub, rn_lmul, rn_lor, rn_ldiv, rn_lrem, rn_lneg, rn_lshl, rn_lshr, rn_i2l, rn_l2i, rn_i2c, rn_lcmp, rn_dupi, rn_dupa, rn_popi, rn_popa, rn_dup2, rn_aast, rn_alen, rn_geta, rn_aald, rn_puta, rn_new, rn_newa, rn_anew, rn_min, rn_max, rn_slen, rn_chat, rn_indx, rn_objI, rn_nop, rn_goto, rn_ifeq, rn_ifne, rn_iflt, rn_ifge, rn_ifgt, rn_ifle, rn_iceq, rn_icne, rn_iclt, rn_icge, rn_icgt, rn_icle, rn_tsw, rn_lsw, rn_iret, rn_zret, rn_lret, rn_aret, rn_vret, rn_cs0, rn_cs1, rn_cs2, rn_cs3, rn_cs4, rn_cs5, rn_cs6, rn_cs7, rn_cv1, rn_ci1, rn_cv2, rn_ci2, rn_cv3, rn_ci3, rn_cv4, rn_cv5, rn_cv6, rn_cv7, cs_n, cs_i, cs_a, cs_l, rc_i, rc_a, rc_l, rc_n, rw_iald, rw_bald, rw_lald, rw_iast, rw_bast, rw_last, rw_geti, rw_getl, rw_puti, rw_putz, rw_putl, iI_add, iI_sub, iI_mul, iI_neg, iI_lt, iI_le, iI_eq, iI_lt0, iI_le0, iI_0lt, iI_0le, iI_eq0, iI_eq1, iI_div, iI_rem, am_in_ok, am_in_no, iI_toInt, iL_add, iL_sub, iL_mul, iL_neg, iL_div, iL_rem, iI_i2l, iL_l2i, iL_cmp, iL_eq0, iI_or, iI_and, iI_shl, if_true, if_false, true_or, or_true, true_and, and_true, false_or, or_false, not_true_eq_false, not_false_eq_true, Option.bind_some, Option.toList_some, Option.toList_none, List.nil_append, List.cons_append, ite_self, nc_0, nc_1, nc_2, nc_3, nc_4, nc_5, nc_6, nc_7, nc_8, nc_9, nc_10, nc_11, nc_12, nc_13, nc_14, nc_15, nc_16, nc_17, nc_18, nc_19, nc_20, nc_21, nc_22, nc_23, nc_24, nc_25, nc_26, nc_27, nc_28, nc_29, nc_30, nc_31, nc_32, nc_33, nc_34, nc_35, nc_36, nc_40, nc_48, nc_100, nc_256, nc_300, nc_304, sh_393, rf_393_0, rf_393_1, rf_393_2, rf_393_3, rf_393_15, rf_393_20, rf_393_21, rf_393_22, rf_393_27, rf_393_28, rf_393_29, rf_393_30, rf_393_34, sh_394, m_manyOf, m_strongOf, rh, rv.2.1, qf, ← eL, qs, k25, k26, upI_s, upI_2, mx_145, mx_160, mx_167, mx_229, g1, if_pos, if_neg, sh_0, sh_393, rw_copy, am_cp_ok]
        · by_cases z2 : i < wq
          · have e5 : wStep i wq = wq - 1 := by unfold wStep; rw [if_neg z1, if_pos z2]
            refine ⟨(some (.int (iI l)), upI us 393 26 (wq - 1), vg), ⟨by rw [e2]; dsimp only; exact Rs.keep2 (upI_2 (by decide)) (upI_c (by decide)), Fa.w26, by rw [e3, e5, if_pos z0]; dsimp only; exact upI_s⟩, ?_⟩
            dsimp only
            rw [e2]
            dsimp only
            conv => lhs; rw [bk_246_2]
            simp (decide := true) (disch := omega) only [en_246, bk_246_0, bk_246_48, bk_246_75, bk_246_101, bk_246_104, bq_246_0, bq_246_2, bq_246_48, bq_246_75, bq_246_101, bq_246_104, rn_iconst, rn_bipush, rn_sipush, rn_ldc_w, rn_ldc, rn_ldcS, rn_lconst, rn_ldc2, rn_gets, rn_iload0, rn_lload0, rn_aload0, rn_istore0, rn_astore0, rn_lstore0, rn_iinc0, rn_iload1, rn_lload1, rn_aload1, rn_istore1, rn_astore1, rn_lstore1, rn_iinc1, rn_iload2, rn_lload2, rn_aload2, rn_istore2, rn_astore2, rn_lstore2, rn_iinc2, rn_iload3, rn_lload3, rn_aload3, rn_istore3, rn_astore3, rn_lstore3, rn_iinc3, rn_iload4, rn_lload4, rn_aload4, rn_istore4, rn_astore4, rn_lstore4, rn_iinc4, rn_iload5, rn_lload5, rn_aload5, rn_istore5, rn_astore5, rn_lstore5, rn_iinc5, rn_iload6, rn_lload6, rn_aload6, rn_istore6, rn_astore6, rn_lstore6, rn_iinc6, rn_iload7, rn_aload7, rn_istore7, rn_astore7, rn_iinc7, rn_iload8, rn_aload8, rn_istore8, rn_astore8, rn_iinc8, rn_iload9, rn_aload9, rn_istore9, rn_astore9, rn_iinc9, rn_iadd, rn_isub, rn_imul, rn_iand, rn_ior, rn_ixor, rn_ishl, rn_ishr, rn_iushr, rn_idiv, rn_irem, rn_ineg, rn_ladd, rn_lsub, rn_lmul, rn_lor, rn_ldiv, rn_lrem, rn_lneg, rn_lshl, rn_lshr, rn_i2l, rn_l2i, rn_i2c, rn_lcmp, rn_dupi, rn_dupa, rn_popi, rn_popa, rn_dup2, rn_aast, rn_alen, rn_geta, rn_aald, rn_puta, rn_new, rn_newa, rn_anew, rn_min, rn_max, rn_slen, rn_chat, rn_indx, rn_objI, rn_nop, rn_goto, rn_ifeq, rn_ifne, rn_iflt, rn_ifge, rn_ifgt, rn_ifle, rn_iceq, rn_icne, rn_iclt, rn_icge, rn_icgt, rn_icle, rn_tsw, rn_lsw, rn_iret, rn_zret, rn_lret, rn_aret, rn_vret, rn_cs0, rn_cs1, rn_cs2, rn_cs3, rn_cs4, rn_cs5, rn_cs6, rn_cs7, rn_cv1, rn_ci1, rn_cv2, rn_ci2, rn_cv3, rn_ci3, rn_cv4, rn_cv5, rn_cv6, rn_cv7, cs_n, cs_i, cs_a, cs_l, rc_i, rc_a, rc_l, rc_n, rw_iald, rw_bald, rw_lald, rw_iast, rw_bast, rw_last, rw_geti, rw_getl, rw_puti, rw_putz, rw_putl, iI_add, iI_sub, iI_mul, iI_neg, iI_lt, iI_le, iI_eq, iI_lt0, iI_le0, iI_0lt, iI_0le, iI_eq0, iI_eq1, iI_div, iI_rem, am_in_ok, am_in_no, iI_toInt, iL_add, iL_sub, iL_mul, iL_neg, iL_div, iL_rem, iI_i2l, iL_l2i, iL_cmp, iL_eq0, iI_or, iI_and, iI_shl, if_true, if_false, true_or, or_true, true_and, and_true, false_or, or_false, not_true_eq_false, not_false_eq_true, Option.bind_some, Option.toList_some, Option.toList_none, List.nil_append, List.cons_append, ite_self, nc_0, nc_1, nc_2, nc_3, nc_4, nc_5, nc_6, nc_7, nc_8, nc_9, nc_10, nc_11, nc_12, nc_13, nc_14, nc_15, nc_16, nc_17, nc_18, nc_19, nc_20, nc_21, nc_22, nc_23, nc_24, nc_25, nc_26, nc_27, nc_28, nc_29, nc_30, nc_31, nc_32, nc_33, nc_34, nc_35, nc_36, nc_40, nc_48, nc_100, nc_256, nc_300, nc_304, sh_393, rf_393_0, rf_393_1, rf_393_2, rf_393_3, rf_393_15, rf_393_20, rf_393_21, rf_393_22, rf_393_27, rf_393_28, rf_393_29, rf_393_30, rf_393_34, sh_394, m_manyOf, m_strongOf, rh, rv.2.1, qf, ← eL, qs, k25, k26, upI_s, upI_2, mx_145, mx_160, mx_167, mx_229, g1, if_pos, if_neg, sh_0, sh_393, rw_copy, am_cp_ok]
          · have e5 : wStep i wq = wq := by unfold wStep; rw [if_neg z1, if_neg z2]
            refine ⟨(some (.int (iI l)), us, vg), ⟨by rw [e2]; exact Rs, Fa, by rw [e3, e5, if_pos z0]; exact k26⟩, ?_⟩
            dsimp only
            rw [e2]
            dsimp only
            conv => lhs; rw [bk_246_2]
            simp (decide := true) (disch := omega) only [en_246, bk_246_0, bk_246_48, bk_246_75, bk_246_101, bk_246_104, bq_246_0, bq_246_2, bq_246_48, bq_246_75, bq_246_101, bq_246_104, rn_iconst, rn_bipush, rn_sipush, rn_ldc_w, rn_ldc, rn_ldcS, rn_lconst, rn_ldc2, rn_gets, rn_iload0, rn_lload0, rn_aload0, rn_istore0, rn_astore0, rn_lstore0, rn_iinc0, rn_iload1, rn_lload1, rn_aload1, rn_istore1, rn_astore1, rn_lstore1, rn_iinc1, rn_iload2, rn_lload2, rn_aload2, rn_istore2, rn_astore2, rn_lstore2, rn_iinc2, rn_iload3, rn_lload3, rn_aload3, rn_istore3, rn_astore3, rn_lstore3, rn_iinc3, rn_iload4, rn_lload4, rn_aload4, rn_istore4, rn_astore4, rn_lstore4, rn_iinc4, rn_iload5, rn_lload5, rn_aload5, rn_istore5, rn_astore5, rn_lstore5, rn_iinc5, rn_iload6, rn_lload6, rn_aload6, rn_istore6, rn_astore6, rn_lstore6, rn_iinc6, rn_iload7, rn_aload7, rn_istore7, rn_astore7, rn_iinc7, rn_iload8, rn_aload8, rn_istore8, rn_astore8, rn_iinc8, rn_iload9, rn_aload9, rn_istore9, rn_astore9, rn_iinc9, rn_iadd, rn_isub, rn_imul, rn_iand, rn_ior, rn_ixor, rn_ishl, rn_ishr, rn_iushr, rn_idiv, rn_irem, rn_ineg, rn_ladd, rn_lsub, rn_lmul, rn_lor, rn_ldiv, rn_lrem, rn_lneg, rn_lshl, rn_lshr, rn_i2l, rn_l2i, rn_i2c, rn_lcmp, rn_dupi, rn_dupa, rn_popi, rn_popa, rn_dup2, rn_aast, rn_alen, rn_geta, rn_aald, rn_puta, rn_new, rn_newa, rn_anew, rn_min, rn_max, rn_slen, rn_chat, rn_indx, rn_objI, rn_nop, rn_goto, rn_ifeq, rn_ifne, rn_iflt, rn_ifge, rn_ifgt, rn_ifle, rn_iceq, rn_icne, rn_iclt, rn_icge, rn_icgt, rn_icle, rn_tsw, rn_lsw, rn_iret, rn_zret, rn_lret, rn_aret, rn_vret, rn_cs0, rn_cs1, rn_cs2, rn_cs3, rn_cs4, rn_cs5, rn_cs6, rn_cs7, rn_cv1, rn_ci1, rn_cv2, rn_ci2, rn_cv3, rn_ci3, rn_cv4, rn_cv5, rn_cv6, rn_cv7, cs_n, cs_i, cs_a, cs_l, rc_i, rc_a, rc_l, rc_n, rw_iald, rw_bald, rw_lald, rw_iast, rw_bast, rw_last, rw_geti, rw_getl, rw_puti, rw_putz, rw_putl, iI_add, iI_sub, iI_mul, iI_neg, iI_lt, iI_le, iI_eq, iI_lt0, iI_le0, iI_0lt, iI_0le, iI_eq0, iI_eq1, iI_div, iI_rem, am_in_ok, am_in_no, iI_toInt, iL_add, iL_sub, iL_mul, iL_neg, iL_div, iL_rem, iI_i2l, iL_l2i, iL_cmp, iL_eq0, iI_or, iI_and, iI_shl, if_true, if_false, true_or, or_true, true_and, and_true, false_or, or_false, not_true_eq_false, not_false_eq_true, Option.bind_some, Option.toList_some, Option.toList_none, List.nil_append, List.cons_append, ite_self, nc_0, nc_1, nc_2, nc_3, nc_4, nc_5, nc_6, nc_7, nc_8, nc_9, nc_10, nc_11, nc_12, nc_13, nc_14, nc_15, nc_16, nc_17, nc_18, nc_19, nc_20, nc_21, nc_22, nc_23, nc_24, nc_25, nc_26, nc_27, nc_28, nc_29, nc_30, nc_31, nc_32, nc_33, nc_34, nc_35, nc_36, nc_40, nc_48, nc_100, nc_256, nc_300, nc_304, sh_393, rf_393_0, rf_393_1, rf_393_2, rf_393_3, rf_393_15, rf_393_20, rf_393_21, rf_393_22, rf_393_27, rf_393_28, rf_393_29, rf_393_30, rf_393_34, sh_394, m_manyOf, m_strongOf, rh, rv.2.1, qf, ← eL, qs, k25, k26, mx_145, mx_160, mx_167, mx_229, g1, if_pos, if_neg, sh_0, sh_393, rw_copy, am_cp_ok]
      · rw [if_neg z0] at k26
        refine ⟨(some (.int (iI l)), us, vg), ⟨by rw [e2]; exact Rs, Fa, by rw [if_neg z0]; exact k26⟩, ?_⟩
        dsimp only
        rw [e2]
        dsimp only
        conv => lhs; rw [bk_246_2]
        simp (decide := true) (disch := omega) only [en_246, bk_246_0, bk_246_48, bk_246_75, bk_246_101, bk_246_104, bq_246_0, bq_246_2, bq_246_48, bq_246_75, bq_246_101, bq_246_104, rn_iconst, rn_bipush, rn_sipush, rn_ldc_w, rn_ldc, rn_ldcS, rn_lconst, rn_ldc2, rn_gets, rn_iload0, rn_lload0, rn_aload0, rn_istore0, rn_astore0, rn_lstore0, rn_iinc0, rn_iload1, rn_lload1, rn_aload1, rn_istore1, rn_astore1, rn_lstore1, rn_iinc1, rn_iload2, rn_lload2, rn_aload2, rn_istore2, rn_astore2, rn_lstore2, rn_iinc2, rn_iload3, rn_lload3, rn_aload3, rn_istore3, rn_astore3, rn_lstore3, rn_iinc3, rn_iload4, rn_lload4, rn_aload4, rn_istore4, rn_astore4, rn_lstore4, rn_iinc4, rn_iload5, rn_lload5, rn_aload5, rn_istore5, rn_astore5, rn_lstore5, rn_iinc5, rn_iload6, rn_lload6, rn_aload6, rn_istore6, rn_astore6, rn_lstore6, rn_iinc6, rn_iload7, rn_aload7, rn_istore7, rn_astore7, rn_iinc7, rn_iload8, rn_aload8, rn_istore8, rn_astore8, rn_iinc8, rn_iload9, rn_aload9, rn_istore9, rn_astore9, rn_iinc9, rn_iadd, rn_isub, rn_imul, rn_iand, rn_ior, rn_ixor, rn_ishl, rn_ishr, rn_iushr, rn_idiv, rn_irem, rn_ineg, rn_ladd, rn_lsub, rn_lmul, rn_lor, rn_ldiv, rn_lrem, rn_lneg, rn_lshl, rn_lshr, rn_i2l, rn_l2i, rn_i2c, rn_lcmp, rn_dupi, rn_dupa, rn_popi, rn_popa, rn_dup2, rn_aast, rn_alen, rn_geta, rn_aald, rn_puta, rn_new, rn_newa, rn_anew, rn_min, rn_max, rn_slen, rn_chat, rn_indx, rn_objI, rn_nop, rn_goto, rn_ifeq, rn_ifne, rn_iflt, rn_ifge, rn_ifgt, rn_ifle, rn_iceq, rn_icne, rn_iclt, rn_icge, rn_icgt, rn_icle, rn_tsw, rn_lsw, rn_iret, rn_zret, rn_lret, rn_aret, rn_vret, rn_cs0, rn_cs1, rn_cs2, rn_cs3, rn_cs4, rn_cs5, rn_cs6, rn_cs7, rn_cv1, rn_ci1, rn_cv2, rn_ci2, rn_cv3, rn_ci3, rn_cv4, rn_cv5, rn_cv6, rn_cv7, cs_n, cs_i, cs_a, cs_l, rc_i, rc_a, rc_l, rc_n, rw_iald, rw_bald, rw_lald, rw_iast, rw_bast, rw_last, rw_geti, rw_getl, rw_puti, rw_putz, rw_putl, iI_add, iI_sub, iI_mul, iI_neg, iI_lt, iI_le, iI_eq, iI_lt0, iI_le0, iI_0lt, iI_0le, iI_eq0, iI_eq1, iI_div, iI_rem, am_in_ok, am_in_no, iI_toInt, iL_add, iL_sub, iL_mul, iL_neg, iL_div, iL_rem, iI_i2l, iL_l2i, iL_cmp, iL_eq0, iI_or, iI_and, iI_shl, if_true, if_false, true_or, or_true, true_and, and_true, false_or, or_false, not_true_eq_false, not_false_eq_true, Option.bind_some, Option.toList_some, Option.toList_none, List.nil_append, List.cons_append, ite_self, nc_0, nc_1, nc_2, nc_3, nc_4, nc_5, nc_6, nc_7, nc_8, nc_9, nc_10, nc_11, nc_12, nc_13, nc_14, nc_15, nc_16, nc_17, nc_18, nc_19, nc_20, nc_21, nc_22, nc_23, nc_24, nc_25, nc_26, nc_27, nc_28, nc_29, nc_30, nc_31, nc_32, nc_33, nc_34, nc_35, nc_36, nc_40, nc_48, nc_100, nc_256, nc_300, nc_304, sh_393, rf_393_0, rf_393_1, rf_393_2, rf_393_3, rf_393_15, rf_393_20, rf_393_21, rf_393_22, rf_393_27, rf_393_28, rf_393_29, rf_393_30, rf_393_34, sh_394, m_manyOf, m_strongOf, rh, rv.2.1, qf, ← eL, qs, k25, k26, mx_145, mx_160, mx_167, mx_229, g1, if_pos, if_neg, sh_0, sh_393, rw_copy, am_cp_ok]) (none, u, v) ⟨R, FrW.refl, by dsimp only; rw [hwt]; split <;> rfl⟩
  dsimp only at Rf Ff Wf
  refine ⟨uf, vf, ?_, ?_, Ff, ?_⟩
  · refine Eq.trans ?_ (ef.trans ?_)
    · have z0 : fIter VF gv s A 0 = (A, 0) := rfl
      simp (decide := true) (disch := omega) only [en_246, bk_246_0, bk_246_48, bk_246_75, bk_246_101, bk_246_104, bq_246_0, bq_246_2, bq_246_48, bq_246_75, bq_246_101, bq_246_104, rn_iconst, rn_bipush, rn_sipush, rn_ldc_w, rn_ldc, rn_ldcS, rn_lconst, rn_ldc2, rn_gets, rn_iload0, rn_lload0, rn_aload0, rn_istore0, rn_astore0, rn_lstore0, rn_iinc0, rn_iload1, rn_lload1, rn_aload1, rn_istore1, rn_astore1, rn_lstore1, rn_iinc1, rn_iload2, rn_lload2, rn_aload2, rn_istore2, rn_astore2, rn_lstore2, rn_iinc2, rn_iload3, rn_lload3, rn_aload3, rn_istore3, rn_astore3, rn_lstore3, rn_iinc3, rn_iload4, rn_lload4, rn_aload4, rn_istore4, rn_astore4, rn_lstore4, rn_iinc4, rn_iload5, rn_lload5, rn_aload5, rn_istore5, rn_astore5, rn_lstore5, rn_iinc5, rn_iload6, rn_lload6, rn_aload6, rn_istore6, rn_astore6, rn_lstore6, rn_iinc6, rn_iload7, rn_aload7, rn_istore7, rn_astore7, rn_iinc7, rn_iload8, rn_aload8, rn_istore8, rn_astore8, rn_iinc8, rn_iload9, rn_aload9, rn_istore9, rn_astore9, rn_iinc9, rn_iadd, rn_isub, rn_imul, rn_iand, rn_ior, rn_ixor, rn_ishl, rn_ishr, rn_iushr, rn_idiv, rn_irem, rn_ineg, rn_ladd, rn_lsub, rn_lmul, rn_lor, rn_ldiv, rn_lrem, rn_lneg, rn_lshl, rn_lshr, rn_i2l, rn_l2i, rn_i2c, rn_lcmp, rn_dupi, rn_dupa, rn_popi, rn_popa, rn_dup2, rn_aast, rn_alen, rn_geta, rn_aald, rn_puta, rn_new, rn_newa, rn_anew, rn_min, rn_max, rn_slen, rn_chat, rn_indx, rn_objI, rn_nop, rn_goto, rn_ifeq, rn_ifne, rn_iflt, rn_ifge, rn_ifgt, rn_ifle, rn_iceq, rn_icne, rn_iclt, rn_icge, rn_icgt, rn_icle, rn_tsw, rn_lsw, rn_iret, rn_zret, rn_lret, rn_aret, rn_vret, rn_cs0, rn_cs1, rn_cs2, rn_cs3, rn_cs4, rn_cs5, rn_cs6, rn_cs7, rn_cv1, rn_ci1, rn_cv2, rn_ci2, rn_cv3, rn_ci3, rn_cv4, rn_cv5, rn_cv6, rn_cv7, cs_n, cs_i, cs_a, cs_l, rc_i, rc_a, rc_l, rc_n, rw_iald, rw_bald, rw_lald, rw_iast, rw_bast, rw_last, rw_geti, rw_getl, rw_puti, rw_putz, rw_putl, iI_add, iI_sub, iI_mul, iI_neg, iI_lt, iI_le, iI_eq, iI_lt0, iI_le0, iI_0lt, iI_0le, iI_eq0, iI_eq1, iI_div, iI_rem, am_in_ok, am_in_no, iI_toInt, iL_add, iL_sub, iL_mul, iL_neg, iL_div, iL_rem, iI_i2l, iL_l2i, iL_cmp, iL_eq0, iI_or, iI_and, iI_shl, if_true, if_false, true_or, or_true, true_and, and_true, false_or, or_false, not_true_eq_false, not_false_eq_true, Option.bind_some, Option.toList_some, Option.toList_none, List.nil_append, List.cons_append, ite_self, nc_0, nc_1, nc_2, nc_3, nc_4, nc_5, nc_6, nc_7, nc_8, nc_9, nc_10, nc_11, nc_12, nc_13, nc_14, nc_15, nc_16, nc_17, nc_18, nc_19, nc_20, nc_21, nc_22, nc_23, nc_24, nc_25, nc_26, nc_27, nc_28, nc_29, nc_30, nc_31, nc_32, nc_33, nc_34, nc_35, nc_36, nc_40, nc_48, nc_100, nc_256, nc_300, nc_304, z0, if_pos, if_neg, sh_0, sh_393, rw_copy, am_cp_ok]
    · obtain ⟨a1, a2, a3, a4⟩ := fI_ok_D (VF := VF) (gv := gv) O h0 h1 H (by omega)
      have rh := Rf.h s h0 h1
      have hhk := a1.h s h0 h1
      have g1 : (fIter VF gv s A H).1.h s ≤ (fIter VF gv s A H).2 := by omega
      conv => lhs; rw [bk_246_2]
      simp (decide := true) (disch := omega) only [en_246, bk_246_0, bk_246_48, bk_246_75, bk_246_101, bk_246_104, bq_246_0, bq_246_2, bq_246_48, bq_246_75, bq_246_101, bq_246_104, rn_iconst, rn_bipush, rn_sipush, rn_ldc_w, rn_ldc, rn_ldcS, rn_lconst, rn_ldc2, rn_gets, rn_iload0, rn_lload0, rn_aload0, rn_istore0, rn_astore0, rn_lstore0, rn_iinc0, rn_iload1, rn_lload1, rn_aload1, rn_istore1, rn_astore1, rn_lstore1, rn_iinc1, rn_iload2, rn_lload2, rn_aload2, rn_istore2, rn_astore2, rn_lstore2, rn_iinc2, rn_iload3, rn_lload3, rn_aload3, rn_istore3, rn_astore3, rn_lstore3, rn_iinc3, rn_iload4, rn_lload4, rn_aload4, rn_istore4, rn_astore4, rn_lstore4, rn_iinc4, rn_iload5, rn_lload5, rn_aload5, rn_istore5, rn_astore5, rn_lstore5, rn_iinc5, rn_iload6, rn_lload6, rn_aload6, rn_istore6, rn_astore6, rn_lstore6, rn_iinc6, rn_iload7, rn_aload7, rn_istore7, rn_astore7, rn_iinc7, rn_iload8, rn_aload8, rn_istore8, rn_astore8, rn_iinc8, rn_iload9, rn_aload9, rn_istore9, rn_astore9, rn_iinc9, rn_iadd, rn_isub, rn_imul, rn_iand, rn_ior, rn_ixor, rn_ishl, rn_ishr, rn_iushr, rn_idiv, rn_irem, rn_ineg, rn_ladd, rn_lsub, rn_lmul, rn_lor, rn_ldiv, rn_lrem, rn_lneg, rn_lshl, rn_lshr, rn_i2l, rn_l2i, rn_i2c, rn_lcmp, rn_dupi, rn_dupa, rn_popi, rn_popa, rn_dup2, rn_aast, rn_alen, rn_geta, rn_aald, rn_puta, rn_new, rn_newa, rn_anew, rn_min, rn_max, rn_slen, rn_chat, rn_indx, rn_objI, rn_nop, rn_goto, rn_ifeq, rn_ifne, rn_iflt, rn_ifge, rn_ifgt, rn_ifle, rn_iceq, rn_icne, rn_iclt, rn_icge, rn_icgt, rn_icle, rn_tsw, rn_lsw, rn_iret, rn_zret, rn_lret, rn_aret, rn_vret, rn_cs0, rn_cs1, rn_cs2, rn_cs3, rn_cs4, rn_cs5, rn_cs6, rn_cs7, rn_cv1, rn_ci1, rn_cv2, rn_ci2, rn_cv3, rn_ci3, rn_cv4, rn_cv5, rn_cv6, rn_cv7, cs_n, cs_i, cs_a, cs_l, rc_i, rc_a, rc_l, rc_n, rw_iald, rw_bald, rw_lald, rw_iast, rw_bast, rw_last, rw_geti, rw_getl, rw_puti, rw_putz, rw_putl, iI_add, iI_sub, iI_mul, iI_neg, iI_lt, iI_le, iI_eq, iI_lt0, iI_le0, iI_0lt, iI_0le, iI_eq0, iI_eq1, iI_div, iI_rem, am_in_ok, am_in_no, iI_toInt, iL_add, iL_sub, iL_mul, iL_neg, iL_div, iL_rem, iI_i2l, iL_l2i, iL_cmp, iL_eq0, iI_or, iI_and, iI_shl, if_true, if_false, true_or, or_true, true_and, and_true, false_or, or_false, not_true_eq_false, not_false_eq_true, Option.bind_some, Option.toList_some, Option.toList_none, List.nil_append, List.cons_append, ite_self, nc_0, nc_1, nc_2, nc_3, nc_4, nc_5, nc_6, nc_7, nc_8, nc_9, nc_10, nc_11, nc_12, nc_13, nc_14, nc_15, nc_16, nc_17, nc_18, nc_19, nc_20, nc_21, nc_22, nc_23, nc_24, nc_25, nc_26, nc_27, nc_28, nc_29, nc_30, nc_31, nc_32, nc_33, nc_34, nc_35, nc_36, nc_40, nc_48, nc_100, nc_256, nc_300, nc_304, sh_393, rf_393_0, rf_393_1, rf_393_2, rf_393_3, rf_393_15, rf_393_20, rf_393_21, rf_393_22, rf_393_27, rf_393_28, rf_393_29, rf_393_30, rf_393_34, sh_394, m_manyOf, rh, mx_145, g1, if_pos, if_neg, sh_0, sh_393, rw_copy, am_cp_ok]
  · unfold AT.fade
    rw [hH, Int.toNat_natCast]
    exact Rf
  · unfold AT.fadeW
    rw [hH, Int.toNat_natCast]
    exact Wf
end FX28
section FX29
variable {VF VT : Option (LEnv → Int)} {gv fl cd : Int → Int} {s e z c N ws wt : Int} {A : AT}
theorem fN_ok_D (O : AOkD A N) : ∀ k : Nat, k ≤ 8 → AOkD (A.fadeN VF gv k) N ∧ (A.fadeN VF gv k).din = A.din
  | 0, _ => ⟨O, rfl⟩
  | k + 1, hk => by
    obtain ⟨a1, a2⟩ := fN_ok_D O k (by omega)
    obtain ⟨b1, b2⟩ := a1.fade (VF := VF) (gv := gv) (s := (k : Int)) (by omega) (by omega)
    exact ⟨b1, b2.trans a2⟩
end FX29
section FX30
variable {VF VT : Option (LEnv → Int)} {gv fl cd : Int → Int} {s e z c N ws wt : Int} {A : AT}
theorem fNW_rg_D (O : AOkD A N) (w0 : -2147483648 ≤ wt) (w1 : wt ≤ 2147483647) : ∀ k : Nat, k ≤ 8 → -2147483648 ≤ A.fadeNW VF gv ws wt k ∧ A.fadeNW VF gv ws wt k ≤ 2147483647
  | 0, _ => ⟨w0, w1⟩
  | k + 1, hk => by
    have ih := fNW_rg_D O w0 w1 k (by omega)
    obtain ⟨a1, a2⟩ := fN_ok_D (VF := VF) (gv := gv) O k (by omega)
    have hh := a1.h (k : Int) (by omega) (by omega)
    rw [AT.fadeNW]
    split
    · exact wI_rg_D a1 (by omega) (by omega) ih.1 ih.2 _ (by omega)
    · exact ih
end FX30
section FX31
variable {d L T o n : Nat} {u : Nat → Int → Int} {v : Nat → Nat → Int64} {A : AT} {N : Int} {gv fl cd : Int → Int} {VF VT : Option (LEnv → Int)} {bk : Bool} {s wt ws : Int}
set_option maxHeartbeats 1000000 in
theorem m_fadeAll_D (O : AOkD A N) (hN : N ≤ 6) (R : MRep bk u A) (G : MGst u N gv fl cd) (K : MLaw u (u 394 2) VF VT) (hws : u 393 25 = ws) (s0 : -2147483648 ≤ ws) (s1 : ws ≤ 2147483647) (hwt : u 393 26 = wt) (w0 : -2147483648 ≤ wt) (w1 : wt ≤ 2147483647) :
    ∃ u2 v2, am_call (d + 7) 189 [.ref 393] (L, T, S0 n, am_w u, v, R0 o) = some (none, (L, T, S0 n, am_w u2, v2, R0 o)) ∧ MRep bk u2 (A.fadeN VF gv 8).nxt ∧ FrW bk u u2 ∧ u2 393 26 = A.fadeNW VF gv ws wt 8 := by
  obtain ⟨⟨uf, vf⟩, ⟨Rf, Ff, Wf⟩, ef⟩ := loop_p (fun (k : Nat) (p : (Nat → Int → Int) × (Nat → Nat → Int64)) => MRep bk p.1 (A.fadeN VF gv k) ∧ FrW bk u p.1 ∧ p.1 393 26 = A.fadeNW VF gv ws wt k) (fun (k : Nat) (p : (Nat → Int → Int) × (Nat → Nat → Int64)) => am_run (d + 7) 189 (am_B 189 2) [some (.ref 393), some (.int (iI (k : Int)))] [] (L, T, S0 n, am_w p.1, p.2, R0 o)) 8 (by
    rintro k hk ⟨uk, vk⟩ ⟨Rk, Fk, Wk⟩
    dsimp only at Rk Fk Wk ⊢
    obtain ⟨b1, b2⟩ := fN_ok_D (VF := VF) (gv := gv) O k (by omega)
    have wr := fNW_rg_D (VF := VF) (gv := gv) (ws := ws) O w0 w1 k (by omega)
    obtain ⟨u2, v2, q2, R2, F2, W2⟩ := m_fadeSpoon_D (d := d) (L := L) (T := T) (o := o) (n := n) (v := vk) (s := (k : Int)) b1 hN Rk (Fk.p.gst G) (Fk.p.law K) (by omega) (by omega) ((Fk.2.1 25 (by decide) (by decide)).trans hws) s0 s1 Wk wr.1 wr.2
    have ec : ((k + 1 : Nat) : Int) = (k : Int) + 1 := by omega
    refine ⟨(u2, v2), ⟨R2, Fk.trans F2, by dsimp only; rw [W2]; rfl⟩, ?_⟩
    dsimp only
    rw [ec]
    conv => lhs; rw [bk_189_2]
    simp (decide := true) (disch := omega) only [en_189, bk_189_0, bk_189_19, bq_189_0, bq_189_2, bq_189_19, rn_iconst, rn_bipush, rn_sipush, rn_ldc_w, rn_ldc, rn_ldcS, rn_lconst, rn_ldc2, rn_gets, rn_iload0, rn_lload0, rn_aload0, rn_istore0, rn_astore0, rn_lstore0, rn_iinc0, rn_iload1, rn_lload1, rn_aload1, rn_istore1, rn_astore1, rn_lstore1, rn_iinc1, rn_iload2, rn_lload2, rn_aload2, rn_istore2, rn_astore2, rn_lstore2, rn_iinc2, rn_iload3, rn_lload3, rn_aload3, rn_istore3, rn_astore3, rn_lstore3, rn_iinc3, rn_iload4, rn_lload4, rn_aload4, rn_istore4, rn_astore4, rn_lstore4, rn_iinc4, rn_iload5, rn_lload5, rn_aload5, rn_istore5, rn_astore5, rn_lstore5, rn_iinc5, rn_iload6, rn_lload6, rn_aload6, rn_istore6, rn_astore6, rn_lstore6, rn_iinc6, rn_iload7, rn_aload7, rn_istore7, rn_astore7, rn_iinc7, rn_iload8, rn_aload8, rn_istore8, rn_astore8, rn_iinc8, rn_iload9, rn_aload9, rn_istore9, rn_astore9, rn_iinc9, rn_iadd, rn_isub, rn_imul, rn_iand, rn_ior, rn_ixor, rn_ishl, rn_ishr, rn_iushr, rn_idiv, rn_irem, rn_ineg, rn_ladd, rn_lsub, rn_lmul, rn_lor, rn_ldiv, rn_lrem, rn_lneg, rn_lshl, rn_lshr, rn_i2l, rn_l2i, rn_i2c, rn_lcmp, rn_dupi, rn_dupa, rn_popi, rn_popa, rn_dup2, rn_aast, rn_alen, rn_geta, rn_aald, rn_puta, rn_new, rn_newa, rn_anew, rn_min, rn_max, rn_slen, rn_chat, rn_indx, rn_objI, rn_nop, rn_goto, rn_ifeq, rn_ifne, rn_iflt, rn_ifge, rn_ifgt, rn_ifle, rn_iceq, rn_icne, rn_iclt, rn_icge, rn_icgt, rn_icle, rn_tsw, rn_lsw, rn_iret, rn_zret, rn_lret, rn_aret, rn_vret, rn_cs0, rn_cs1, rn_cs2, rn_cs3, rn_cs4, rn_cs5, rn_cs6, rn_cs7, rn_cv1, rn_ci1, rn_cv2, rn_ci2, rn_cv3, rn_ci3, rn_cv4, rn_cv5, rn_cv6, rn_cv7, cs_n, cs_i, cs_a, cs_l, rc_i, rc_a, rc_l, rc_n, rw_iald, rw_bald, rw_lald, rw_iast, rw_bast, rw_last, rw_geti, rw_getl, rw_puti, rw_putz, rw_putl, iI_add, iI_sub, iI_mul, iI_neg, iI_lt, iI_le, iI_eq, iI_lt0, iI_le0, iI_0lt, iI_0le, iI_eq0, iI_eq1, iI_div, iI_rem, am_in_ok, am_in_no, iI_toInt, iL_add, iL_sub, iL_mul, iL_neg, iL_div, iL_rem, iI_i2l, iL_l2i, iL_cmp, iL_eq0, iI_or, iI_and, iI_shl, if_true, if_false, true_or, or_true, true_and, and_true, false_or, or_false, not_true_eq_false, not_false_eq_true, Option.bind_some, Option.toList_some, Option.toList_none, List.nil_append, List.cons_append, ite_self, nc_0, nc_1, nc_2, nc_3, nc_4, nc_5, nc_6, nc_7, nc_8, nc_9, nc_10, nc_11, nc_12, nc_13, nc_14, nc_15, nc_16, nc_17, nc_18, nc_19, nc_20, nc_21, nc_22, nc_23, nc_24, nc_25, nc_26, nc_27, nc_28, nc_29, nc_30, nc_31, nc_32, nc_33, nc_34, nc_35, nc_36, nc_40, nc_48, nc_100, nc_256, nc_300, nc_304, q2, mx_246, if_pos, if_neg, sh_0, sh_393, rw_copy, am_cp_ok]) (u, v) ⟨R, FrW.refl, hwt⟩
  dsimp only at Rf Ff Wf
  obtain ⟨b1, b2⟩ := fN_ok_D (VF := VF) (gv := gv) O 8 (by omega)
  obtain ⟨R3, F3⟩ := Rf.nxtD b1
  refine ⟨upI uf 394 7 ((A.fadeN VF gv 8).din + 1), vf, ?_, R3, Ff.trans F3.w, by rw [upI_1 (by decide)]; exact Wf⟩
  refine Eq.trans ?_ (ef.trans ?_)
  · simp (decide := true) (disch := omega) only [en_189, bk_189_0, bk_189_19, bq_189_0, bq_189_2, bq_189_19, rn_iconst, rn_bipush, rn_sipush, rn_ldc_w, rn_ldc, rn_ldcS, rn_lconst, rn_ldc2, rn_gets, rn_iload0, rn_lload0, rn_aload0, rn_istore0, rn_astore0, rn_lstore0, rn_iinc0, rn_iload1, rn_lload1, rn_aload1, rn_istore1, rn_astore1, rn_lstore1, rn_iinc1, rn_iload2, rn_lload2, rn_aload2, rn_istore2, rn_astore2, rn_lstore2, rn_iinc2, rn_iload3, rn_lload3, rn_aload3, rn_istore3, rn_astore3, rn_lstore3, rn_iinc3, rn_iload4, rn_lload4, rn_aload4, rn_istore4, rn_astore4, rn_lstore4, rn_iinc4, rn_iload5, rn_lload5, rn_aload5, rn_istore5, rn_astore5, rn_lstore5, rn_iinc5, rn_iload6, rn_lload6, rn_aload6, rn_istore6, rn_astore6, rn_lstore6, rn_iinc6, rn_iload7, rn_aload7, rn_istore7, rn_astore7, rn_iinc7, rn_iload8, rn_aload8, rn_istore8, rn_astore8, rn_iinc8, rn_iload9, rn_aload9, rn_istore9, rn_astore9, rn_iinc9, rn_iadd, rn_isub, rn_imul, rn_iand, rn_ior, rn_ixor, rn_ishl, rn_ishr, rn_iushr, rn_idiv, rn_irem, rn_ineg, rn_ladd, rn_lsub, rn_lmul, rn_lor, rn_ldiv, rn_lrem, rn_lneg, rn_lshl, rn_lshr, rn_i2l, rn_l2i, rn_i2c, rn_lcmp, rn_dupi, rn_dupa, rn_popi, rn_popa, rn_dup2, rn_aast, rn_alen, rn_geta, rn_aald, rn_puta, rn_new, rn_newa, rn_anew, rn_min, rn_max, rn_slen, rn_chat, rn_indx, rn_objI, rn_nop, rn_goto, rn_ifeq, rn_ifne, rn_iflt, rn_ifge, rn_ifgt, rn_ifle, rn_iceq, rn_icne, rn_iclt, rn_icge, rn_icgt, rn_icle, rn_tsw, rn_lsw, rn_iret, rn_zret, rn_lret, rn_aret, rn_vret, rn_cs0, rn_cs1, rn_cs2, rn_cs3, rn_cs4, rn_cs5, rn_cs6, rn_cs7, rn_cv1, rn_ci1, rn_cv2, rn_ci2, rn_cv3, rn_ci3, rn_cv4, rn_cv5, rn_cv6, rn_cv7, cs_n, cs_i, cs_a, cs_l, rc_i, rc_a, rc_l, rc_n, rw_iald, rw_bald, rw_lald, rw_iast, rw_bast, rw_last, rw_geti, rw_getl, rw_puti, rw_putz, rw_putl, iI_add, iI_sub, iI_mul, iI_neg, iI_lt, iI_le, iI_eq, iI_lt0, iI_le0, iI_0lt, iI_0le, iI_eq0, iI_eq1, iI_div, iI_rem, am_in_ok, am_in_no, iI_toInt, iL_add, iL_sub, iL_mul, iL_neg, iL_div, iL_rem, iI_i2l, iL_l2i, iL_cmp, iL_eq0, iI_or, iI_and, iI_shl, if_true, if_false, true_or, or_true, true_and, and_true, false_or, or_false, not_true_eq_false, not_false_eq_true, Option.bind_some, Option.toList_some, Option.toList_none, List.nil_append, List.cons_append, ite_self, nc_0, nc_1, nc_2, nc_3, nc_4, nc_5, nc_6, nc_7, nc_8, nc_9, nc_10, nc_11, nc_12, nc_13, nc_14, nc_15, nc_16, nc_17, nc_18, nc_19, nc_20, nc_21, nc_22, nc_23, nc_24, nc_25, nc_26, nc_27, nc_28, nc_29, nc_30, nc_31, nc_32, nc_33, nc_34, nc_35, nc_36, nc_40, nc_48, nc_100, nc_256, nc_300, nc_304, if_pos, if_neg, sh_0, sh_393, rw_copy, am_cp_ok]
  · have rd := Rf.1
    conv => lhs; rw [bk_189_2]
    simp (decide := true) (disch := omega) only [en_189, bk_189_0, bk_189_19, bq_189_0, bq_189_2, bq_189_19, rn_iconst, rn_bipush, rn_sipush, rn_ldc_w, rn_ldc, rn_ldcS, rn_lconst, rn_ldc2, rn_gets, rn_iload0, rn_lload0, rn_aload0, rn_istore0, rn_astore0, rn_lstore0, rn_iinc0, rn_iload1, rn_lload1, rn_aload1, rn_istore1, rn_astore1, rn_lstore1, rn_iinc1, rn_iload2, rn_lload2, rn_aload2, rn_istore2, rn_astore2, rn_lstore2, rn_iinc2, rn_iload3, rn_lload3, rn_aload3, rn_istore3, rn_astore3, rn_lstore3, rn_iinc3, rn_iload4, rn_lload4, rn_aload4, rn_istore4, rn_astore4, rn_lstore4, rn_iinc4, rn_iload5, rn_lload5, rn_aload5, rn_istore5, rn_astore5, rn_lstore5, rn_iinc5, rn_iload6, rn_lload6, rn_aload6, rn_istore6, rn_astore6, rn_lstore6, rn_iinc6, rn_iload7, rn_aload7, rn_istore7, rn_astore7, rn_iinc7, rn_iload8, rn_aload8, rn_istore8, rn_astore8, rn_iinc8, rn_iload9, rn_aload9, rn_istore9, rn_astore9, rn_iinc9, rn_iadd, rn_isub, rn_imul, rn_iand, rn_ior, rn_ixor, rn_ishl, rn_ishr, rn_iushr, rn_idiv, rn_irem, rn_ineg, rn_ladd, rn_lsub, rn_lmul, rn_lor, rn_ldiv, rn_lrem, rn_lneg, rn_lshl, rn_lshr, rn_i2l, rn_l2i, rn_i2c, rn_lcmp, rn_dupi, rn_dupa, rn_popi, rn_popa, rn_dup2, rn_aast, rn_alen, rn_geta, rn_aald, rn_puta, rn_new, rn_newa, rn_anew, rn_min, rn_max, rn_slen, rn_chat, rn_indx, rn_objI, rn_nop, rn_goto, rn_ifeq, rn_ifne, rn_iflt, rn_ifge, rn_ifgt, rn_ifle, rn_iceq, rn_icne, rn_iclt, rn_icge, rn_icgt, rn_icle, rn_tsw, rn_lsw, rn_iret, rn_zret, rn_lret, rn_aret, rn_vret, rn_cs0, rn_cs1, rn_cs2, rn_cs3, rn_cs4, rn_cs5, rn_cs6, rn_cs7, rn_cv1, rn_ci1, rn_cv2, rn_ci2, rn_cv3, rn_ci3, rn_cv4, rn_cv5, rn_cv6, rn_cv7, cs_n, cs_i, cs_a, cs_l, rc_i, rc_a, rc_l, rc_n, rw_iald, rw_bald, rw_lald, rw_iast, rw_bast, rw_last, rw_geti, rw_getl, rw_puti, rw_putz, rw_putl, iI_add, iI_sub, iI_mul, iI_neg, iI_lt, iI_le, iI_eq, iI_lt0, iI_le0, iI_0lt, iI_0le, iI_eq0, iI_eq1, iI_div, iI_rem, am_in_ok, am_in_no, iI_toInt, iL_add, iL_sub, iL_mul, iL_neg, iL_div, iL_rem, iI_i2l, iL_l2i, iL_cmp, iL_eq0, iI_or, iI_and, iI_shl, if_true, if_false, true_or, or_true, true_and, and_true, false_or, or_false, not_true_eq_false, not_false_eq_true, Option.bind_some, Option.toList_some, Option.toList_none, List.nil_append, List.cons_append, ite_self, nc_0, nc_1, nc_2, nc_3, nc_4, nc_5, nc_6, nc_7, nc_8, nc_9, nc_10, nc_11, nc_12, nc_13, nc_14, nc_15, nc_16, nc_17, nc_18, nc_19, nc_20, nc_21, nc_22, nc_23, nc_24, nc_25, nc_26, nc_27, nc_28, nc_29, nc_30, nc_31, nc_32, nc_33, nc_34, nc_35, nc_36, nc_40, nc_48, nc_100, nc_256, nc_300, nc_304, sh_393, rf_393_0, rf_393_1, rf_393_2, rf_393_3, rf_393_15, rf_393_20, rf_393_21, rf_393_22, rf_393_27, rf_393_28, rf_393_29, rf_393_30, rf_393_34, sh_394, rd, Int.le_refl, if_pos, if_neg, sh_0, sh_393, rw_copy, am_cp_ok]
end FX31
