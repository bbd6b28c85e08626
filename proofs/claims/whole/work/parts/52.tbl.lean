theorem tM_up {w : Nat → Int → Int} {a t : Nat} {e z s i : Int} (h1 : a ≠ t + 3) (h2 : a ≠ t + 1) : tM (upI w a e z) t s i = tM w t s i := by
  unfold tM; rw [upI_1 (by omega), upI_1 (by omega)]
def min99 (z : Int) : Int := if 99 < z then 99 else z
section CU
variable {d t L T : Nat} {S : Nat → Nat × Nat} {w : Nat → Int → Int} {v : Nat → Nat → Int64} {r : Nat → Nat → Option Nat} {A : AT} {n : Int}
set_option maxHeartbeats 1000000 in
theorem c_setStrong1 (hT : TbS S r t) (O : AOk A n) (C : CRep w t A) {s i z : Int} (h0 : 0 ≤ s) (h1 : s < 8) (i0 : 0 ≤ i) (i1 : i < A.h s) (z0 : 1 ≤ z) (z1 : z ≤ 1000000) :
    ∃ w2, am_call d 231 [.ref t, .int (iI s), .int (iI i), .int (iI z)] (L, T, S, am_w w, v, r) = some (none, (L, T, S, am_w w2, v, r)) ∧ CRep w2 t (A.str s i (min99 z)) ∧ FrT t w w2 := by
  obtain ⟨t1, t2, t3, t4, t5, t6, t7, t8, t9⟩ := hT
  have ch := C.h s h0 h1
  have hh := O.h s h0 h1
  refine ⟨upI w (t + 2) (s * 5 + (A.h s - 1 - i)) (min99 z), ?_, ?_, ?_⟩
  · have e1 : ¬ A.h s - 1 - i < 0 := by omega
    by_cases c : 99 < z
    · have e2 : min99 z = 99 := by unfold min99; rw [if_pos c]
      simp (decide := true) (disch := omega) only [en_231, bk_231_0, bk_231_21, bk_231_22, bk_231_46, bk_231_53, bq_231_0, bq_231_21, bq_231_22, bq_231_46, bq_231_53, rn_iconst, rn_bipush, rn_sipush, rn_ldc_w, rn_ldc, rn_ldcS, rn_lconst, rn_ldc2, rn_gets, rn_iload0, rn_lload0, rn_aload0, rn_istore0, rn_astore0, rn_lstore0, rn_iinc0, rn_iload1, rn_lload1, rn_aload1, rn_istore1, rn_astore1, rn_lstore1, rn_iinc1, rn_iload2, rn_lload2, rn_aload2, rn_istore2, rn_astore2, rn_lstore2, rn_iinc2, rn_iload3, rn_lload3, rn_aload3, rn_istore3, rn_astore3, rn_lstore3, rn_iinc3, rn_iload4, rn_lload4, rn_aload4, rn_istore4, rn_astore4, rn_lstore4, rn_iinc4, rn_iload5, rn_lload5, rn_aload5, rn_istore5, rn_astore5, rn_lstore5, rn_iinc5, rn_iload6, rn_lload6, rn_aload6, rn_istore6, rn_astore6, rn_lstore6, rn_iinc6, rn_iload7, rn_aload7, rn_istore7, rn_astore7, rn_iinc7, rn_iload8, rn_aload8, rn_istore8, rn_astore8, rn_iinc8, rn_iload9, rn_aload9, rn_istore9, rn_astore9, rn_iinc9, rn_iadd, rn_isub, rn_imul, rn_iand, rn_ior, rn_ixor, rn_ishl, rn_ishr, rn_iushr, rn_idiv, rn_irem, rn_ineg, rn_ladd, rn_lsub, rn_lmul, rn_lor, rn_ldiv, rn_lrem, rn_lneg, rn_lshl, rn_lshr, rn_i2l, rn_l2i, rn_i2c, rn_lcmp, rn_dupi, rn_dupa, rn_popi, rn_popa, rn_dup2, rn_aast, rn_alen, rn_geta, rn_aald, rn_puta, rn_new, rn_newa, rn_anew, rn_min, rn_max, rn_slen, rn_chat, rn_indx, rn_objI, rn_nop, rn_goto, rn_ifeq, rn_ifne, rn_iflt, rn_ifge, rn_ifgt, rn_ifle, rn_iceq, rn_icne, rn_iclt, rn_icge, rn_icgt, rn_icle, rn_tsw, rn_lsw, rn_iret, rn_zret, rn_lret, rn_aret, rn_vret, rn_cs0, rn_cs1, rn_cs2, rn_cs3, rn_cs4, rn_cs5, rn_cs6, rn_cs7, rn_cv1, rn_ci1, rn_cv2, rn_ci2, rn_cv3, rn_ci3, rn_cv4, rn_cv5, rn_cv6, rn_cv7, cs_n, cs_i, cs_a, cs_l, rc_i, rc_a, rc_l, rc_n, rw_iald, rw_bald, rw_lald, rw_iast, rw_bast, rw_last, rw_geti, rw_getl, rw_puti, rw_putz, rw_putl, iI_add, iI_sub, iI_mul, iI_neg, iI_lt, iI_le, iI_eq, iI_lt0, iI_le0, iI_0lt, iI_0le, iI_eq0, iI_eq1, iI_div, iI_rem, am_in_ok, am_in_no, iI_toInt, iL_add, iL_sub, iL_mul, iL_neg, iL_div, iL_rem, iI_i2l, iL_l2i, iL_cmp, iL_eq0, iI_or, iI_and, iI_shl, if_true, if_false, true_or, or_true, true_and, and_true, false_or, or_false, not_true_eq_false, not_false_eq_true, Option.bind_some, Option.toList_some, Option.toList_none, List.nil_append, List.cons_append, ite_self, nc_0, nc_1, nc_2, nc_3, nc_4, nc_5, nc_6, nc_7, nc_8, nc_9, nc_10, nc_11, nc_12, nc_13, nc_14, nc_15, nc_16, nc_17, nc_18, nc_19, nc_20, nc_21, nc_22, nc_23, nc_24, nc_25, nc_26, nc_27, nc_28, nc_29, nc_30, nc_31, nc_32, nc_33, nc_34, nc_35, nc_36, nc_40, nc_48, nc_100, nc_256, nc_300, nc_304, t1, t2, t3, t4, t5, t6, t7, t8, t9, ch, e1, e2, if_pos, if_neg, sh_0, sh_393, rw_copy, am_cp_ok]
    · have e2 : min99 z = z := by unfold min99; rw [if_neg c]
      simp (decide := true) (disch := omega) only [en_231, bk_231_0, bk_231_21, bk_231_22, bk_231_46, bk_231_53, bq_231_0, bq_231_21, bq_231_22, bq_231_46, bq_231_53, rn_iconst, rn_bipush, rn_sipush, rn_ldc_w, rn_ldc, rn_ldcS, rn_lconst, rn_ldc2, rn_gets, rn_iload0, rn_lload0, rn_aload0, rn_istore0, rn_astore0, rn_lstore0, rn_iinc0, rn_iload1, rn_lload1, rn_aload1, rn_istore1, rn_astore1, rn_lstore1, rn_iinc1, rn_iload2, rn_lload2, rn_aload2, rn_istore2, rn_astore2, rn_lstore2, rn_iinc2, rn_iload3, rn_lload3, rn_aload3, rn_istore3, rn_astore3, rn_lstore3, rn_iinc3, rn_iload4, rn_lload4, rn_aload4, rn_istore4, rn_astore4, rn_lstore4, rn_iinc4, rn_iload5, rn_lload5, rn_aload5, rn_istore5, rn_astore5, rn_lstore5, rn_iinc5, rn_iload6, rn_lload6, rn_aload6, rn_istore6, rn_astore6, rn_lstore6, rn_iinc6, rn_iload7, rn_aload7, rn_istore7, rn_astore7, rn_iinc7, rn_iload8, rn_aload8, rn_istore8, rn_astore8, rn_iinc8, rn_iload9, rn_aload9, rn_istore9, rn_astore9, rn_iinc9, rn_iadd, rn_isub, rn_imul, rn_iand, rn_ior, rn_ixor, rn_ishl, rn_ishr, rn_iushr, rn_idiv, rn_irem, rn_ineg, rn_ladd, rn_lsub, rn_lmul, rn_lor, rn_ldiv, rn_lrem, rn_lneg, rn_lshl, rn_lshr, rn_i2l, rn_l2i, rn_i2c, rn_lcmp, rn_dupi, rn_dupa, rn_popi, rn_popa, rn_dup2, rn_aast, rn_alen, rn_geta, rn_aald, rn_puta, rn_new, rn_newa, rn_anew, rn_min, rn_max, rn_slen, rn_chat, rn_indx, rn_objI, rn_nop, rn_goto, rn_ifeq, rn_ifne, rn_iflt, rn_ifge, rn_ifgt, rn_ifle, rn_iceq, rn_icne, rn_iclt, rn_icge, rn_icgt, rn_icle, rn_tsw, rn_lsw, rn_iret, rn_zret, rn_lret, rn_aret, rn_vret, rn_cs0, rn_cs1, rn_cs2, rn_cs3, rn_cs4, rn_cs5, rn_cs6, rn_cs7, rn_cv1, rn_ci1, rn_cv2, rn_ci2, rn_cv3, rn_ci3, rn_cv4, rn_cv5, rn_cv6, rn_cv7, cs_n, cs_i, cs_a, cs_l, rc_i, rc_a, rc_l, rc_n, rw_iald, rw_bald, rw_lald, rw_iast, rw_bast, rw_last, rw_geti, rw_getl, rw_puti, rw_putz, rw_putl, iI_add, iI_sub, iI_mul, iI_neg, iI_lt, iI_le, iI_eq, iI_lt0, iI_le0, iI_0lt, iI_0le, iI_eq0, iI_eq1, iI_div, iI_rem, am_in_ok, am_in_no, iI_toInt, iL_add, iL_sub, iL_mul, iL_neg, iL_div, iL_rem, iI_i2l, iL_l2i, iL_cmp, iL_eq0, iI_or, iI_and, iI_shl, if_true, if_false, true_or, or_true, true_and, and_true, false_or, or_false, not_true_eq_false, not_false_eq_true, Option.bind_some, Option.toList_some, Option.toList_none, List.nil_append, List.cons_append, ite_self, nc_0, nc_1, nc_2, nc_3, nc_4, nc_5, nc_6, nc_7, nc_8, nc_9, nc_10, nc_11, nc_12, nc_13, nc_14, nc_15, nc_16, nc_17, nc_18, nc_19, nc_20, nc_21, nc_22, nc_23, nc_24, nc_25, nc_26, nc_27, nc_28, nc_29, nc_30, nc_31, nc_32, nc_33, nc_34, nc_35, nc_36, nc_40, nc_48, nc_100, nc_256, nc_300, nc_304, t1, t2, t3, t4, t5, t6, t7, t8, t9, ch, e1, e2, if_pos, if_neg, sh_0, sh_393, rw_copy, am_cp_ok]
  · refine ⟨?_, ?_, ?_, ?_, ?_, ?_, ?_⟩
    · rw [upI_1 (by omega)]; exact C.d
    · rw [upI_1 (by omega)]; exact C.x
    · rw [upI_1 (by omega)]; exact C.m
    · rw [upI_1 (by omega)]; exact C.nb
    · intro q q0 q1; rw [upI_1 (by omega)]; exact C.h q q0 q1
    · intro q k q0 q1 k0 k1
      have k1 : k < A.h q := k1
      have cl := C.l q k q0 q1 k0 k1
      have ho := O.h q q0 q1
      refine ⟨by rw [upI_1 (by omega)]; exact cl.1, ?_⟩
      show upI _ _ _ _ _ (q * 5 + (A.h q - 1 - k)) = if q = s ∧ k = i then min99 z else A.g q k
      by_cases e : q = s ∧ k = i
      · rw [if_pos e, e.1, e.2, upI_s]
      · rw [if_neg e]
        by_cases e2 : q = s
        · subst e2
          rw [upI_2 (by omega)]; exact cl.2
        · rw [upI_2 (by omega)]; exact cl.2
    · intro i k i0 i1 k0 k1; rw [upI_1 (by omega)]; exact C.b i k i0 i1 k0 k1
  · intro a ha _ _
    funext e
    rw [upI_1 (by omega)]
set_option maxHeartbeats 1000000 in
theorem c_setStrong0 (hT : TbS S r t) (O : AOk A n) (C : CRep w t A) {s i z : Int} (h0 : 0 ≤ s) (h1 : s < 8) (i0 : 0 ≤ i) (i1 : i < A.h s) (z0 : -1000000 ≤ z) (z1 : z ≤ 0) :
    ∃ w2, am_call (d + 1) 231 [.ref t, .int (iI s), .int (iI i), .int (iI z)] (L, T, S, am_w w, v, r) = some (none, (L, T, S, am_w w2, v, r)) ∧ CRep w2 t (A.take s i) ∧ FrT t w w2 := by
  have hT' := hT
  obtain ⟨t1, t2, t3, t4, t5, t6, t7, t8, t9⟩ := hT
  have ch := C.h s h0 h1
  have hh := O.h s h0 h1
  obtain ⟨w2, e, C2, F2⟩ := c_takeFrom (d := d) (L := L) (T := T) (v := v) hT' O C (s := s) (p := A.h s - 1 - i) h0 h1 (by omega) (by omega)
  rw [show A.h s - 1 - (A.h s - 1 - i) = i by omega] at C2
  refine ⟨w2, ?_, C2, F2⟩
  have e1 : ¬ A.h s - 1 - i < 0 := by omega
  simp (decide := true) (disch := omega) only [en_231, bk_231_0, bk_231_21, bk_231_22, bk_231_46, bk_231_53, bq_231_0, bq_231_21, bq_231_22, bq_231_46, bq_231_53, rn_iconst, rn_bipush, rn_sipush, rn_ldc_w, rn_ldc, rn_ldcS, rn_lconst, rn_ldc2, rn_gets, rn_iload0, rn_lload0, rn_aload0, rn_istore0, rn_astore0, rn_lstore0, rn_iinc0, rn_iload1, rn_lload1, rn_aload1, rn_istore1, rn_astore1, rn_lstore1, rn_iinc1, rn_iload2, rn_lload2, rn_aload2, rn_istore2, rn_astore2, rn_lstore2, rn_iinc2, rn_iload3, rn_lload3, rn_aload3, rn_istore3, rn_astore3, rn_lstore3, rn_iinc3, rn_iload4, rn_lload4, rn_aload4, rn_istore4, rn_astore4, rn_lstore4, rn_iinc4, rn_iload5, rn_lload5, rn_aload5, rn_istore5, rn_astore5, rn_lstore5, rn_iinc5, rn_iload6, rn_lload6, rn_aload6, rn_istore6, rn_astore6, rn_lstore6, rn_iinc6, rn_iload7, rn_aload7, rn_istore7, rn_astore7, rn_iinc7, rn_iload8, rn_aload8, rn_istore8, rn_astore8, rn_iinc8, rn_iload9, rn_aload9, rn_istore9, rn_astore9, rn_iinc9, rn_iadd, rn_isub, rn_imul, rn_iand, rn_ior, rn_ixor, rn_ishl, rn_ishr, rn_iushr, rn_idiv, rn_irem, rn_ineg, rn_ladd, rn_lsub, rn_lmul, rn_lor, rn_ldiv, rn_lrem, rn_lneg, rn_lshl, rn_lshr, rn_i2l, rn_l2i, rn_i2c, rn_lcmp, rn_dupi, rn_dupa, rn_popi, rn_popa, rn_dup2, rn_aast, rn_alen, rn_geta, rn_aald, rn_puta, rn_new, rn_newa, rn_anew, rn_min, rn_max, rn_slen, rn_chat, rn_indx, rn_objI, rn_nop, rn_goto, rn_ifeq, rn_ifne, rn_iflt, rn_ifge, rn_ifgt, rn_ifle, rn_iceq, rn_icne, rn_iclt, rn_icge, rn_icgt, rn_icle, rn_tsw, rn_lsw, rn_iret, rn_zret, rn_lret, rn_aret, rn_vret, rn_cs0, rn_cs1, rn_cs2, rn_cs3, rn_cs4, rn_cs5, rn_cs6, rn_cs7, rn_cv1, rn_ci1, rn_cv2, rn_ci2, rn_cv3, rn_ci3, rn_cv4, rn_cv5, rn_cv6, rn_cv7, cs_n, cs_i, cs_a, cs_l, rc_i, rc_a, rc_l, rc_n, rw_iald, rw_bald, rw_lald, rw_iast, rw_bast, rw_last, rw_geti, rw_getl, rw_puti, rw_putz, rw_putl, iI_add, iI_sub, iI_mul, iI_neg, iI_lt, iI_le, iI_eq, iI_lt0, iI_le0, iI_0lt, iI_0le, iI_eq0, iI_eq1, iI_div, iI_rem, am_in_ok, am_in_no, iI_toInt, iL_add, iL_sub, iL_mul, iL_neg, iL_div, iL_rem, iI_i2l, iL_l2i, iL_cmp, iL_eq0, iI_or, iI_and, iI_shl, if_true, if_false, true_or, or_true, true_and, and_true, false_or, or_false, not_true_eq_false, not_false_eq_true, Option.bind_some, Option.toList_some, Option.toList_none, List.nil_append, List.cons_append, ite_self, nc_0, nc_1, nc_2, nc_3, nc_4, nc_5, nc_6, nc_7, nc_8, nc_9, nc_10, nc_11, nc_12, nc_13, nc_14, nc_15, nc_16, nc_17, nc_18, nc_19, nc_20, nc_21, nc_22, nc_23, nc_24, nc_25, nc_26, nc_27, nc_28, nc_29, nc_30, nc_31, nc_32, nc_33, nc_34, nc_35, nc_36, nc_40, nc_48, nc_100, nc_256, nc_300, nc_304, t1, t2, t3, t4, t5, t6, t7, t8, t9, ch, e1, e, mx_266, if_pos, if_neg, sh_0, sh_393, rw_copy, am_cp_ok]
set_option maxHeartbeats 1000000 in
theorem c_write (hT : TbS S r t) (O : AOk A n) (C : CRep w t A) {s c : Int} (h0 : 0 ≤ s) (h1 : s < 8) (c0 : 0 ≤ c) (c1 : c ≤ 2) :
    ∃ w2, am_call (d + 1) 232 [.ref t, .int (iI c), .int (iI s)] (L, T, S, am_w w, v, r) = some (none, (L, T, S, am_w w2, v, r)) ∧ CRep w2 t (A.wr c s) ∧ FrT t w w2 := by
  have hT' := hT
  obtain ⟨t1, t2, t3, t4, t5, t6, t7, t8, t9⟩ := hT
  have ch := C.h s h0 h1
  have hh := O.h s h0 h1
  have cn := C.nb
  have cd := C.d
  have ct := C.top h0 h1
  have o1 : 0 ≤ A.nb ∧ A.nb ≤ 25 := O.1.2.2.2.2.2.2
  by_cases g : A.nb < 25
  · have ea : A.wr c s = AT.mk A.din A.x A.mood (A.nb + 1) A.h A.m A.g (fun i k => if i = A.nb then A.line c s k else A.b i k) := by unfold AT.wr; rw [if_pos g]
    refine ⟨upI (upI (upI (upI (upI w (t + 4) (A.nb * 4) A.din) (t + 4) (A.nb * 4 + 1) c) (t + 4) (A.nb * 4 + 2) s) (t + 4) (A.nb * 4 + 3) (A.top s)) t 4 (A.nb + 1), ?_, ?_, ?_⟩
    · have cm := c_mouthAt (d := d) (L := L) (T := T) (v := v) (w := upI (upI (upI w (t + 4) (A.nb * 4) A.din) (t + 4) (A.nb * 4 + 1) c) (t + 4) (A.nb * 4 + 2) s) (s := s) (i := 0) hT' h0 h1 (by simp (disch := omega) only [upI_1]; omega) (by simp (disch := omega) only [upI_1]; omega) (by decide) (by decide)
      simp (disch := omega) only [tM_up, ct] at cm
      simp (decide := true) (disch := omega) only [en_232, bk_232_0, bk_232_35, bq_232_0, bq_232_35, rn_iconst, rn_bipush, rn_sipush, rn_ldc_w, rn_ldc, rn_ldcS, rn_lconst, rn_ldc2, rn_gets, rn_iload0, rn_lload0, rn_aload0, rn_istore0, rn_astore0, rn_lstore0, rn_iinc0, rn_iload1, rn_lload1, rn_aload1, rn_istore1, rn_astore1, rn_lstore1, rn_iinc1, rn_iload2, rn_lload2, rn_aload2, rn_istore2, rn_astore2, rn_lstore2, rn_iinc2, rn_iload3, rn_lload3, rn_aload3, rn_istore3, rn_astore3, rn_lstore3, rn_iinc3, rn_iload4, rn_lload4, rn_aload4, rn_istore4, rn_astore4, rn_lstore4, rn_iinc4, rn_iload5, rn_lload5, rn_aload5, rn_istore5, rn_astore5, rn_lstore5, rn_iinc5, rn_iload6, rn_lload6, rn_aload6, rn_istore6, rn_astore6, rn_lstore6, rn_iinc6, rn_iload7, rn_aload7, rn_istore7, rn_astore7, rn_iinc7, rn_iload8, rn_aload8, rn_istore8, rn_astore8, rn_iinc8, rn_iload9, rn_aload9, rn_istore9, rn_astore9, rn_iinc9, rn_iadd, rn_isub, rn_imul, rn_iand, rn_ior, rn_ixor, rn_ishl, rn_ishr, rn_iushr, rn_idiv, rn_irem, rn_ineg, rn_ladd, rn_lsub, rn_lmul, rn_lor, rn_ldiv, rn_lrem, rn_lneg, rn_lshl, rn_lshr, rn_i2l, rn_l2i, rn_i2c, rn_lcmp, rn_dupi, rn_dupa, rn_popi, rn_popa, rn_dup2, rn_aast, rn_alen, rn_geta, rn_aald, rn_puta, rn_new, rn_newa, rn_anew, rn_min, rn_max, rn_slen, rn_chat, rn_indx, rn_objI, rn_nop, rn_goto, rn_ifeq, rn_ifne, rn_iflt, rn_ifge, rn_ifgt, rn_ifle, rn_iceq, rn_icne, rn_iclt, rn_icge, rn_icgt, rn_icle, rn_tsw, rn_lsw, rn_iret, rn_zret, rn_lret, rn_aret, rn_vret, rn_cs0, rn_cs1, rn_cs2, rn_cs3, rn_cs4, rn_cs5, rn_cs6, rn_cs7, rn_cv1, rn_ci1, rn_cv2, rn_ci2, rn_cv3, rn_ci3, rn_cv4, rn_cv5, rn_cv6, rn_cv7, cs_n, cs_i, cs_a, cs_l, rc_i, rc_a, rc_l, rc_n, rw_iald, rw_bald, rw_lald, rw_iast, rw_bast, rw_last, rw_geti, rw_getl, rw_puti, rw_putz, rw_putl, iI_add, iI_sub, iI_mul, iI_neg, iI_lt, iI_le, iI_eq, iI_lt0, iI_le0, iI_0lt, iI_0le, iI_eq0, iI_eq1, iI_div, iI_rem, am_in_ok, am_in_no, iI_toInt, iL_add, iL_sub, iL_mul, iL_neg, iL_div, iL_rem, iI_i2l, iL_l2i, iL_cmp, iL_eq0, iI_or, iI_and, iI_shl, if_true, if_false, true_or, or_true, true_and, and_true, false_or, or_false, not_true_eq_false, not_false_eq_true, Option.bind_some, Option.toList_some, Option.toList_none, List.nil_append, List.cons_append, ite_self, nc_0, nc_1, nc_2, nc_3, nc_4, nc_5, nc_6, nc_7, nc_8, nc_9, nc_10, nc_11, nc_12, nc_13, nc_14, nc_15, nc_16, nc_17, nc_18, nc_19, nc_20, nc_21, nc_22, nc_23, nc_24, nc_25, nc_26, nc_27, nc_28, nc_29, nc_30, nc_31, nc_32, nc_33, nc_34, nc_35, nc_36, nc_40, nc_48, nc_100, nc_256, nc_300, nc_304, t1, t2, t3, t4, t5, t6, t7, t8, t9, upI_1, cn, cd, cm, mx_163, if_pos, if_neg, sh_0, sh_393, rw_copy, am_cp_ok]
    · rw [ea]
      refine ⟨?_, ?_, ?_, ?_, ?_, ?_, ?_⟩
      · simp (disch := omega) only [upI_1, upI_2]; exact C.d
      · simp (disch := omega) only [upI_1, upI_2]; exact C.x
      · simp (disch := omega) only [upI_1, upI_2]; exact C.m
      · rw [upI_s]; rfl
      · intro q q0 q1; simp (disch := omega) only [upI_1, upI_2]; exact C.h q q0 q1
      · intro q k q0 q1 k0 k1; simp (disch := omega) only [upI_1, upI_2]; exact C.l q k q0 q1 k0 k1
      · intro i k i0 i1 k0 k1
        have i1 : i < A.nb + 1 := i1
        show _ = if i = A.nb then A.line c s k else A.b i k
        by_cases e : i = A.nb
        · subst e
          rw [if_pos rfl]
          unfold AT.line
          rcases (show k = 0 ∨ k = 1 ∨ k = 2 ∨ k = 3 by omega) with rfl | rfl | rfl | rfl
          · simp (disch := omega) only [upI_1, upI_2, upI_s, Int.add_zero, if_true]
          · simp (disch := omega) only [upI_1, upI_2, upI_s, if_true, if_neg]
          · simp (disch := omega) only [upI_1, upI_2, upI_s, if_true, if_neg]
          · simp (disch := omega) only [upI_1, upI_2, upI_s, if_true, if_neg]
        · rw [if_neg e]
          simp (disch := omega) only [upI_1, upI_2]
          exact C.b i k i0 (by omega) k0 k1
    · intro a ha _ _
      simp (disch := omega) only [upI_c]
  · have ea : A.wr c s = AT.mk A.din A.x A.mood 25 A.h A.m A.g (fun i k => if i = 24 then A.line c s k else A.b (i + 1) k) := by unfold AT.wr; rw [if_neg g]
    refine ⟨upI (upI (upI (upI (upI (upI (cpI w (t + 4) (t + 4) 4 0 96) t 4 24) (t + 4) 96 A.din) (t + 4) 97 c) (t + 4) 98 s) (t + 4) 99 (A.top s)) t 4 25, ?_, ?_, ?_⟩
    · have cm := c_mouthAt (d := d) (L := L) (T := T) (v := v) (w := upI (upI (upI (upI (cpI w (t + 4) (t + 4) 4 0 96) t 4 24) (t + 4) 96 A.din) (t + 4) 97 c) (t + 4) 98 s) (s := s) (i := 0) hT' h0 h1 (by simp (disch := omega) only [upI_1, cpI_n]; omega) (by simp (disch := omega) only [upI_1, cpI_n]; omega) (by decide) (by decide)
      have et : tM (cpI w (t + 4) (t + 4) 4 0 96) t s 0 = A.top s := by unfold tM; rw [cpI_n (by omega), cpI_n (by omega)]; exact ct
      simp (disch := omega) only [tM_up, et] at cm
      simp (decide := true) (disch := omega) only [en_232, bk_232_0, bk_232_35, bq_232_0, bq_232_35, rn_iconst, rn_bipush, rn_sipush, rn_ldc_w, rn_ldc, rn_ldcS, rn_lconst, rn_ldc2, rn_gets, rn_iload0, rn_lload0, rn_aload0, rn_istore0, rn_astore0, rn_lstore0, rn_iinc0, rn_iload1, rn_lload1, rn_aload1, rn_istore1, rn_astore1, rn_lstore1, rn_iinc1, rn_iload2, rn_lload2, rn_aload2, rn_istore2, rn_astore2, rn_lstore2, rn_iinc2, rn_iload3, rn_lload3, rn_aload3, rn_istore3, rn_astore3, rn_lstore3, rn_iinc3, rn_iload4, rn_lload4, rn_aload4, rn_istore4, rn_astore4, rn_lstore4, rn_iinc4, rn_iload5, rn_lload5, rn_aload5, rn_istore5, rn_astore5, rn_lstore5, rn_iinc5, rn_iload6, rn_lload6, rn_aload6, rn_istore6, rn_astore6, rn_lstore6, rn_iinc6, rn_iload7, rn_aload7, rn_istore7, rn_astore7, rn_iinc7, rn_iload8, rn_aload8, rn_istore8, rn_astore8, rn_iinc8, rn_iload9, rn_aload9, rn_istore9, rn_astore9, rn_iinc9, rn_iadd, rn_isub, rn_imul, rn_iand, rn_ior, rn_ixor, rn_ishl, rn_ishr, rn_iushr, rn_idiv, rn_irem, rn_ineg, rn_ladd, rn_lsub, rn_lmul, rn_lor, rn_ldiv, rn_lrem, rn_lneg, rn_lshl, rn_lshr, rn_i2l, rn_l2i, rn_i2c, rn_lcmp, rn_dupi, rn_dupa, rn_popi, rn_popa, rn_dup2, rn_aast, rn_alen, rn_geta, rn_aald, rn_puta, rn_new, rn_newa, rn_anew, rn_min, rn_max, rn_slen, rn_chat, rn_indx, rn_objI, rn_nop, rn_goto, rn_ifeq, rn_ifne, rn_iflt, rn_ifge, rn_ifgt, rn_ifle, rn_iceq, rn_icne, rn_iclt, rn_icge, rn_icgt, rn_icle, rn_tsw, rn_lsw, rn_iret, rn_zret, rn_lret, rn_aret, rn_vret, rn_cs0, rn_cs1, rn_cs2, rn_cs3, rn_cs4, rn_cs5, rn_cs6, rn_cs7, rn_cv1, rn_ci1, rn_cv2, rn_ci2, rn_cv3, rn_ci3, rn_cv4, rn_cv5, rn_cv6, rn_cv7, cs_n, cs_i, cs_a, cs_l, rc_i, rc_a, rc_l, rc_n, rw_iald, rw_bald, rw_lald, rw_iast, rw_bast, rw_last, rw_geti, rw_getl, rw_puti, rw_putz, rw_putl, iI_add, iI_sub, iI_mul, iI_neg, iI_lt, iI_le, iI_eq, iI_lt0, iI_le0, iI_0lt, iI_0le, iI_eq0, iI_eq1, iI_div, iI_rem, am_in_ok, am_in_no, iI_toInt, iL_add, iL_sub, iL_mul, iL_neg, iL_div, iL_rem, iI_i2l, iL_l2i, iL_cmp, iL_eq0, iI_or, iI_and, iI_shl, if_true, if_false, true_or, or_true, true_and, and_true, false_or, or_false, not_true_eq_false, not_false_eq_true, Option.bind_some, Option.toList_some, Option.toList_none, List.nil_append, List.cons_append, ite_self, nc_0, nc_1, nc_2, nc_3, nc_4, nc_5, nc_6, nc_7, nc_8, nc_9, nc_10, nc_11, nc_12, nc_13, nc_14, nc_15, nc_16, nc_17, nc_18, nc_19, nc_20, nc_21, nc_22, nc_23, nc_24, nc_25, nc_26, nc_27, nc_28, nc_29, nc_30, nc_31, nc_32, nc_33, nc_34, nc_35, nc_36, nc_40, nc_48, nc_100, nc_256, nc_300, nc_304, t1, t2, t3, t4, t5, t6, t7, t8, t9, upI_1, upI_2, upI_s, cpI_n, cn, cd, cm, Int.reduceAdd, Int.reduceSub, Int.reduceMul, mx_163, if_pos, if_neg, sh_0, sh_393, rw_copy, am_cp_ok]
    · rw [ea]
      refine ⟨?_, ?_, ?_, ?_, ?_, ?_, ?_⟩
      · simp (disch := omega) only [upI_1, upI_2, cpI_n]; exact C.d
      · simp (disch := omega) only [upI_1, upI_2, cpI_n]; exact C.x
      · simp (disch := omega) only [upI_1, upI_2, cpI_n]; exact C.m
      · rw [upI_s]; rfl
      · intro q q0 q1; simp (disch := omega) only [upI_1, upI_2, cpI_n]; exact C.h q q0 q1
      · intro q k q0 q1 k0 k1; simp (disch := omega) only [upI_1, upI_2, cpI_n]; exact C.l q k q0 q1 k0 k1
      · intro i k i0 i1 k0 k1
        have i1 : i < 25 := i1
        show _ = if i = 24 then A.line c s k else A.b (i + 1) k
        by_cases e : i = 24
        · subst e
          rw [if_pos rfl]
          unfold AT.line
          rcases (show k = 0 ∨ k = 1 ∨ k = 2 ∨ k = 3 by omega) with rfl | rfl | rfl | rfl
          · rw [show (24 : Int) * 4 + 0 = 96 by decide]; simp (disch := omega) only [upI_1, upI_2, upI_s, if_true]
          · rw [show (24 : Int) * 4 + 1 = 97 by decide]; simp (disch := omega) only [upI_1, upI_2, upI_s, if_true, if_neg]
          · rw [show (24 : Int) * 4 + 2 = 98 by decide]; simp (disch := omega) only [upI_1, upI_2, upI_s, if_true, if_neg]
          · rw [show (24 : Int) * 4 + 3 = 99 by decide]; simp (disch := omega) only [upI_1, upI_2, upI_s, if_true, if_neg]
        · rw [if_neg e]
          simp (disch := omega) only [upI_1, upI_2, cpI_s]
          rw [show 4 + (i * 4 + k - 0) = (i + 1) * 4 + k by omega]
          exact C.b (i + 1) k (by omega) (by omega) k0 k1
    · intro a ha _ _
      simp (disch := omega) only [upI_c, cpI_c]
end CU
