section CV
variable {d t L T : Nat} {S : Nat → Nat × Nat} {w : Nat → Int → Int} {v : Nat → Nat → Int64} {r : Nat → Nat → Option Nat} {A : AT} {n : Int}
set_option maxHeartbeats 1000000 in
theorem CRep.push (O : AOk A n) (C : CRep w t A) {s e z : Int} (h0 : 0 ≤ s) (h1 : s < 8) (h2 : A.h s ≤ 4) :
    CRep (upI (upI (upI w (t + 1) (s * 5 + A.h s) e) (t + 2) (s * 5 + A.h s) z) (t + 3) s (A.h s + 1)) t (A.push s e z) := by
  have hh := O.h s h0 h1
  refine ⟨?_, ?_, ?_, ?_, ?_, ?_, ?_⟩
  · simp (disch := omega) only [upI_1, upI_2]; exact C.d
  · simp (disch := omega) only [upI_1, upI_2]; exact C.x
  · simp (disch := omega) only [upI_1, upI_2]; exact C.m
  · simp (disch := omega) only [upI_1, upI_2]; exact C.nb
  · intro q q0 q1
    show _ = if q = s then A.h s + 1 else A.h q
    by_cases c : q = s
    · subst c; rw [upI_s, if_pos rfl]
    · rw [if_neg c]; simp (disch := omega) only [upI_1, upI_2]; exact C.h q q0 q1
  · intro q k q0 q1 k0 k1
    have k1 : k < if q = s then A.h s + 1 else A.h q := k1
    show upI _ _ _ _ _ (q * 5 + ((if q = s then A.h s + 1 else A.h q) - 1 - k)) = (if q = s then (if k = 0 then e else A.m s (k - 1)) else A.m q k) ∧ upI _ _ _ _ _ (q * 5 + ((if q = s then A.h s + 1 else A.h q) - 1 - k)) = (if q = s then (if k = 0 then z else A.g s (k - 1)) else A.g q k)
    by_cases c : q = s
    · subst c
      rw [if_pos rfl] at k1 ⊢
      rw [if_pos rfl, if_pos rfl]
      by_cases c2 : k = 0
      · subst c2
        rw [if_pos rfl, if_pos rfl, show A.h q + 1 - 1 - 0 = A.h q by omega]
        simp (disch := omega) only [upI_1, upI_2, upI_s, and_self]
      · rw [if_neg c2, if_neg c2]
        have := C.l q (k - 1) q0 q1 (by omega) (by omega)
        rw [show A.h q - 1 - (k - 1) = A.h q + 1 - 1 - k by omega] at this
        simp (disch := omega) only [upI_1, upI_2]
        exact this
    · rw [if_neg c] at k1 ⊢
      rw [if_neg c, if_neg c]
      have := C.l q k q0 q1 k0 k1
      have ho := O.h q q0 q1
      simp (disch := omega) only [upI_1, upI_2]
      exact this
  · intro i k i0 i1 k0 k1
    simp (disch := omega) only [upI_1, upI_2]
    exact C.b i k i0 i1 k0 k1
set_option maxHeartbeats 1000000 in
theorem c_putMouth (hT : TbS S r t) (O : AOk A n) (hn : n ≤ 6) (C : CRep w t A) {s e z : Int} (h0 : 0 ≤ s) (h1 : s < 8) (e0 : 0 ≤ e) (e1 : e < n) (z0 : 1 ≤ z) (z1 : z ≤ 9) :
    ∃ w2, am_call (d + 3) 225 [.ref t, .int (iI s), .int (iI e), .int (iI z)] (L, T, S, am_w w, v, r) = some (none, (L, T, S, am_w w2, v, r)) ∧ CRep w2 t (A.put s e z) ∧ FrT t w w2 := by
  have hT' := hT
  obtain ⟨t1, t2, t3, t4, t5, t6, t7, t8, t9⟩ := hT
  have ch := C.h s h0 h1
  have hh := O.h s h0 h1
  have ct := C.top h0 h1
  have ht := O.top hn h0 h1
  have O2 := O.put0 (z := z) h0 h1 e0 e1 z0 (by omega)
  by_cases g : A.top s = e
  · have hp := O.top_h e0 g
    have cv := C.view h0 h1 (Int.le_refl 0) hp
    have ol := O.l s 0 h0 h1 (Int.le_refl 0) hp
    obtain ⟨w1, q1, C1, F1⟩ := c_setStrong1 (d := d + 2) (L := L) (T := T) (v := v) hT' O C (s := s) (i := 0) (z := A.g s 0 + z) h0 h1 (Int.le_refl 0) hp (by omega) (by omega)
    rw [if_pos g] at O2
    obtain ⟨w2, q2, C2, F2⟩ := c_write (d := d + 1) (L := L) (T := T) (v := v) hT' O2 C1 (s := s) (c := 0) h0 h1 (by decide) (by decide)
    refine ⟨w2, ?_, ?_, F1.trans F2⟩
    · simp (decide := true) (disch := omega) only [en_225, bk_225_0, bk_225_27, bk_225_43, bk_225_81, bq_225_0, bq_225_27, bq_225_43, bq_225_81, rn_iconst, rn_bipush, rn_sipush, rn_ldc_w, rn_ldc, rn_ldcS, rn_lconst, rn_ldc2, rn_gets, rn_iload0, rn_lload0, rn_aload0, rn_istore0, rn_astore0, rn_lstore0, rn_iinc0, rn_iload1, rn_lload1, rn_aload1, rn_istore1, rn_astore1, rn_lstore1, rn_iinc1, rn_iload2, rn_lload2, rn_aload2, rn_istore2, rn_astore2, rn_lstore2, rn_iinc2, rn_iload3, rn_lload3, rn_aload3, rn_istore3, rn_astore3, rn_lstore3, rn_iinc3, rn_iload4, rn_lload4, rn_aload4, rn_istore4, rn_astore4, rn_lstore4, rn_iinc4, rn_iload5, rn_lload5, rn_aload5, rn_istore5, rn_astore5, rn_lstore5, rn_iinc5, rn_iload6, rn_lload6, rn_aload6, rn_istore6, rn_astore6, rn_lstore6, rn_iinc6, rn_iload7, rn_aload7, rn_istore7, rn_astore7, rn_iinc7, rn_iload8, rn_aload8, rn_istore8, rn_astore8, rn_iinc8, rn_iload9, rn_aload9, rn_istore9, rn_astore9, rn_iinc9, rn_iadd, rn_isub, rn_imul, rn_iand, rn_ior, rn_ixor, rn_ishl, rn_ishr, rn_iushr, rn_idiv, rn_irem, rn_ineg, rn_ladd, rn_lsub, rn_lmul, rn_lor, rn_ldiv, rn_lrem, rn_lneg, rn_lshl, rn_lshr, rn_i2l, rn_l2i, rn_i2c, rn_lcmp, rn_dupi, rn_dupa, rn_popi, rn_popa, rn_dup2, rn_aast, rn_alen, rn_geta, rn_aald, rn_puta, rn_new, rn_newa, rn_anew, rn_min, rn_max, rn_slen, rn_chat, rn_indx, rn_objI, rn_nop, rn_goto, rn_ifeq, rn_ifne, rn_iflt, rn_ifge, rn_ifgt, rn_ifle, rn_iceq, rn_icne, rn_iclt, rn_icge, rn_icgt, rn_icle, rn_tsw, rn_lsw, rn_iret, rn_zret, rn_lret, rn_aret, rn_vret, rn_cs0, rn_cs1, rn_cs2, rn_cs3, rn_cs4, rn_cs5, rn_cs6, rn_cs7, rn_cv1, rn_ci1, rn_cv2, rn_ci2, rn_cv3, rn_ci3, rn_cv4, rn_cv5, rn_cv6, rn_cv7, cs_n, cs_i, cs_a, cs_l, rc_i, rc_a, rc_l, rc_n, rw_iald, rw_bald, rw_lald, rw_iast, rw_bast, rw_last, rw_geti, rw_getl, rw_puti, rw_putz, rw_putl, iI_add, iI_sub, iI_mul, iI_neg, iI_lt, iI_le, iI_eq, iI_lt0, iI_le0, iI_0lt, iI_0le, iI_eq0, iI_eq1, iI_div, iI_rem, am_in_ok, am_in_no, iI_toInt, iL_add, iL_sub, iL_mul, iL_neg, iL_div, iL_rem, iI_i2l, iL_l2i, iL_cmp, iL_eq0, iI_or, iI_and, iI_shl, if_true, if_false, true_or, or_true, true_and, and_true, false_or, or_false, not_true_eq_false, not_false_eq_true, Option.bind_some, Option.toList_some, Option.toList_none, List.nil_append, List.cons_append, ite_self, nc_0, nc_1, nc_2, nc_3, nc_4, nc_5, nc_6, nc_7, nc_8, nc_9, nc_10, nc_11, nc_12, nc_13, nc_14, nc_15, nc_16, nc_17, nc_18, nc_19, nc_20, nc_21, nc_22, nc_23, nc_24, nc_25, nc_26, nc_27, nc_28, nc_29, nc_30, nc_31, nc_32, nc_33, nc_34, nc_35, nc_36, nc_40, nc_48, nc_100, nc_256, nc_300, nc_304, t1, t2, t3, t4, t5, t6, t7, t8, t9, c_mouthAt hT', c_strongAt hT', mx_163, mx_164, mx_231, mx_232, ch, ct, cv.2, g, q1, q2, if_pos, if_neg, sh_0, sh_393, rw_copy, am_cp_ok]
    · unfold AT.put; rw [if_pos g]; exact C2
  · rw [if_neg g] at O2
    by_cases g5 : A.h s = 5
    · rw [if_pos g5] at O2
      obtain ⟨w1, q1, C1, F1⟩ := c_takeFrom (d := d + 2) (L := L) (T := T) (v := v) hT' O C (s := s) (p := 0) h0 h1 (by omega) (by omega)
      rw [g5, show (5 : Int) - 1 - 0 = 4 by decide] at C1
      have O1 := O.take (i := 4) h0 h1 (by decide) (by omega)
      have h4 : (A.take s 4).h s = 4 := by show (if s = s then A.h s - 1 else A.h s) = 4; rw [if_pos rfl]; omega
      have ch1 := C1.h s h0 h1
      have C1' := C1.push (e := e) (z := z) O1 h0 h1 (by omega)
      rw [h4] at C1' ch1
      obtain ⟨w2, q2, C2, F2⟩ := c_write (d := d + 1) (L := L) (T := T) (v := v) hT' O2 C1' (s := s) (c := 0) h0 h1 (by decide) (by decide)
      refine ⟨w2, ?_, ?_, fun a k1 k2 k3 => ?_⟩
      · simp (decide := true) (disch := omega) only [en_225, bk_225_0, bk_225_27, bk_225_43, bk_225_81, bq_225_0, bq_225_27, bq_225_43, bq_225_81, rn_iconst, rn_bipush, rn_sipush, rn_ldc_w, rn_ldc, rn_ldcS, rn_lconst, rn_ldc2, rn_gets, rn_iload0, rn_lload0, rn_aload0, rn_istore0, rn_astore0, rn_lstore0, rn_iinc0, rn_iload1, rn_lload1, rn_aload1, rn_istore1, rn_astore1, rn_lstore1, rn_iinc1, rn_iload2, rn_lload2, rn_aload2, rn_istore2, rn_astore2, rn_lstore2, rn_iinc2, rn_iload3, rn_lload3, rn_aload3, rn_istore3, rn_astore3, rn_lstore3, rn_iinc3, rn_iload4, rn_lload4, rn_aload4, rn_istore4, rn_astore4, rn_lstore4, rn_iinc4, rn_iload5, rn_lload5, rn_aload5, rn_istore5, rn_astore5, rn_lstore5, rn_iinc5, rn_iload6, rn_lload6, rn_aload6, rn_istore6, rn_astore6, rn_lstore6, rn_iinc6, rn_iload7, rn_aload7, rn_istore7, rn_astore7, rn_iinc7, rn_iload8, rn_aload8, rn_istore8, rn_astore8, rn_iinc8, rn_iload9, rn_aload9, rn_istore9, rn_astore9, rn_iinc9, rn_iadd, rn_isub, rn_imul, rn_iand, rn_ior, rn_ixor, rn_ishl, rn_ishr, rn_iushr, rn_idiv, rn_irem, rn_ineg, rn_ladd, rn_lsub, rn_lmul, rn_lor, rn_ldiv, rn_lrem, rn_lneg, rn_lshl, rn_lshr, rn_i2l, rn_l2i, rn_i2c, rn_lcmp, rn_dupi, rn_dupa, rn_popi, rn_popa, rn_dup2, rn_aast, rn_alen, rn_geta, rn_aald, rn_puta, rn_new, rn_newa, rn_anew, rn_min, rn_max, rn_slen, rn_chat, rn_indx, rn_objI, rn_nop, rn_goto, rn_ifeq, rn_ifne, rn_iflt, rn_ifge, rn_ifgt, rn_ifle, rn_iceq, rn_icne, rn_iclt, rn_icge, rn_icgt, rn_icle, rn_tsw, rn_lsw, rn_iret, rn_zret, rn_lret, rn_aret, rn_vret, rn_cs0, rn_cs1, rn_cs2, rn_cs3, rn_cs4, rn_cs5, rn_cs6, rn_cs7, rn_cv1, rn_ci1, rn_cv2, rn_ci2, rn_cv3, rn_ci3, rn_cv4, rn_cv5, rn_cv6, rn_cv7, cs_n, cs_i, cs_a, cs_l, rc_i, rc_a, rc_l, rc_n, rw_iald, rw_bald, rw_lald, rw_iast, rw_bast, rw_last, rw_geti, rw_getl, rw_puti, rw_putz, rw_putl, iI_add, iI_sub, iI_mul, iI_neg, iI_lt, iI_le, iI_eq, iI_lt0, iI_le0, iI_0lt, iI_0le, iI_eq0, iI_eq1, iI_div, iI_rem, am_in_ok, am_in_no, iI_toInt, iL_add, iL_sub, iL_mul, iL_neg, iL_div, iL_rem, iI_i2l, iL_l2i, iL_cmp, iL_eq0, iI_or, iI_and, iI_shl, if_true, if_false, true_or, or_true, true_and, and_true, false_or, or_false, not_true_eq_false, not_false_eq_true, Option.bind_some, Option.toList_some, Option.toList_none, List.nil_append, List.cons_append, ite_self, nc_0, nc_1, nc_2, nc_3, nc_4, nc_5, nc_6, nc_7, nc_8, nc_9, nc_10, nc_11, nc_12, nc_13, nc_14, nc_15, nc_16, nc_17, nc_18, nc_19, nc_20, nc_21, nc_22, nc_23, nc_24, nc_25, nc_26, nc_27, nc_28, nc_29, nc_30, nc_31, nc_32, nc_33, nc_34, nc_35, nc_36, nc_40, nc_48, nc_100, nc_256, nc_300, nc_304, t1, t2, t3, t4, t5, t6, t7, t8, t9, c_mouthAt hT', mx_163, mx_266, mx_232, ch, ct, g, g5, q1, ch1, upI_1, q2, if_pos, if_neg, sh_0, sh_393, rw_copy, am_cp_ok]
      · unfold AT.put; rw [if_neg g, if_pos g5]; exact C2
      · rw [F2 a k1 k2 k3, upI_c (by omega), upI_c (by omega), upI_c (by omega)]; exact F1 a k1 k2 k3
    · rw [if_neg g5] at O2
      have C1' := C.push (e := e) (z := z) O h0 h1 (by omega)
      obtain ⟨w2, q2, C2, F2⟩ := c_write (d := d + 1) (L := L) (T := T) (v := v) hT' O2 C1' (s := s) (c := 0) h0 h1 (by decide) (by decide)
      refine ⟨w2, ?_, ?_, fun a k1 k2 k3 => ?_⟩
      · simp (decide := true) (disch := omega) only [en_225, bk_225_0, bk_225_27, bk_225_43, bk_225_81, bq_225_0, bq_225_27, bq_225_43, bq_225_81, rn_iconst, rn_bipush, rn_sipush, rn_ldc_w, rn_ldc, rn_ldcS, rn_lconst, rn_ldc2, rn_gets, rn_iload0, rn_lload0, rn_aload0, rn_istore0, rn_astore0, rn_lstore0, rn_iinc0, rn_iload1, rn_lload1, rn_aload1, rn_istore1, rn_astore1, rn_lstore1, rn_iinc1, rn_iload2, rn_lload2, rn_aload2, rn_istore2, rn_astore2, rn_lstore2, rn_iinc2, rn_iload3, rn_lload3, rn_aload3, rn_istore3, rn_astore3, rn_lstore3, rn_iinc3, rn_iload4, rn_lload4, rn_aload4, rn_istore4, rn_astore4, rn_lstore4, rn_iinc4, rn_iload5, rn_lload5, rn_aload5, rn_istore5, rn_astore5, rn_lstore5, rn_iinc5, rn_iload6, rn_lload6, rn_aload6, rn_istore6, rn_astore6, rn_lstore6, rn_iinc6, rn_iload7, rn_aload7, rn_istore7, rn_astore7, rn_iinc7, rn_iload8, rn_aload8, rn_istore8, rn_astore8, rn_iinc8, rn_iload9, rn_aload9, rn_istore9, rn_astore9, rn_iinc9, rn_iadd, rn_isub, rn_imul, rn_iand, rn_ior, rn_ixor, rn_ishl, rn_ishr, rn_iushr, rn_idiv, rn_irem, rn_ineg, rn_ladd, rn_lsub, rn_lmul, rn_lor, rn_ldiv, rn_lrem, rn_lneg, rn_lshl, rn_lshr, rn_i2l, rn_l2i, rn_i2c, rn_lcmp, rn_dupi, rn_dupa, rn_popi, rn_popa, rn_dup2, rn_aast, rn_alen, rn_geta, rn_aald, rn_puta, rn_new, rn_newa, rn_anew, rn_min, rn_max, rn_slen, rn_chat, rn_indx, rn_objI, rn_nop, rn_goto, rn_ifeq, rn_ifne, rn_iflt, rn_ifge, rn_ifgt, rn_ifle, rn_iceq, rn_icne, rn_iclt, rn_icge, rn_icgt, rn_icle, rn_tsw, rn_lsw, rn_iret, rn_zret, rn_lret, rn_aret, rn_vret, rn_cs0, rn_cs1, rn_cs2, rn_cs3, rn_cs4, rn_cs5, rn_cs6, rn_cs7, rn_cv1, rn_ci1, rn_cv2, rn_ci2, rn_cv3, rn_ci3, rn_cv4, rn_cv5, rn_cv6, rn_cv7, cs_n, cs_i, cs_a, cs_l, rc_i, rc_a, rc_l, rc_n, rw_iald, rw_bald, rw_lald, rw_iast, rw_bast, rw_last, rw_geti, rw_getl, rw_puti, rw_putz, rw_putl, iI_add, iI_sub, iI_mul, iI_neg, iI_lt, iI_le, iI_eq, iI_lt0, iI_le0, iI_0lt, iI_0le, iI_eq0, iI_eq1, iI_div, iI_rem, am_in_ok, am_in_no, iI_toInt, iL_add, iL_sub, iL_mul, iL_neg, iL_div, iL_rem, iI_i2l, iL_l2i, iL_cmp, iL_eq0, iI_or, iI_and, iI_shl, if_true, if_false, true_or, or_true, true_and, and_true, false_or, or_false, not_true_eq_false, not_false_eq_true, Option.bind_some, Option.toList_some, Option.toList_none, List.nil_append, List.cons_append, ite_self, nc_0, nc_1, nc_2, nc_3, nc_4, nc_5, nc_6, nc_7, nc_8, nc_9, nc_10, nc_11, nc_12, nc_13, nc_14, nc_15, nc_16, nc_17, nc_18, nc_19, nc_20, nc_21, nc_22, nc_23, nc_24, nc_25, nc_26, nc_27, nc_28, nc_29, nc_30, nc_31, nc_32, nc_33, nc_34, nc_35, nc_36, nc_40, nc_48, nc_100, nc_256, nc_300, nc_304, t1, t2, t3, t4, t5, t6, t7, t8, t9, c_mouthAt hT', mx_163, mx_232, ch, ct, g, upI_1, q2, if_pos, if_neg, sh_0, sh_393, rw_copy, am_cp_ok]
      · unfold AT.put; rw [if_neg g, if_neg g5]; exact C2
      · rw [F2 a k1 k2 k3, upI_c (by omega), upI_c (by omega), upI_c (by omega)]
set_option maxHeartbeats 1000000 in
theorem c_takeLowest (hT : TbS S r t) (O : AOk A n) (C : CRep w t A) {s : Int} (h0 : 0 ≤ s) (h1 : s < 8) (h2 : 0 < A.h s) :
    ∃ w2, am_call (d + 3) 144 [.ref t, .int (iI s)] (L, T, S, am_w w, v, r) = some (some (.int (iI (A.m s (A.h s - 1)))), (L, T, S, am_w w2, v, r)) ∧ CRep w2 t (A.smi s) ∧ FrT t w w2 := by
  have hT' := hT
  obtain ⟨t1, t2, t3, t4, t5, t6, t7, t8, t9⟩ := hT
  have ch := C.h s h0 h1
  have hh := O.h s h0 h1
  have cv := C.view h0 h1 (show 0 ≤ A.h s - 1 by omega) (by omega)
  obtain ⟨w1, q1, C1, F1⟩ := c_setStrong0 (d := d + 1) (L := L) (T := T) (v := v) hT' O C (s := s) (i := A.h s - 1) (z := 0) h0 h1 (by omega) (by omega) (by decide) (by decide)
  obtain ⟨w2, q2, C2, F2⟩ := c_write (d := d + 1) (L := L) (T := T) (v := v) hT' (O.take (i := A.h s - 1) h0 h1 (by omega) (by omega)) C1 (s := s) (c := 1) h0 h1 (by decide) (by decide)
  refine ⟨w2, ?_, C2, F1.trans F2⟩
  simp (decide := true) (disch := omega) only [en_144, bk_144_0, bq_144_0, rn_iconst, rn_bipush, rn_sipush, rn_ldc_w, rn_ldc, rn_ldcS, rn_lconst, rn_ldc2, rn_gets, rn_iload0, rn_lload0, rn_aload0, rn_istore0, rn_astore0, rn_lstore0, rn_iinc0, rn_iload1, rn_lload1, rn_aload1, rn_istore1, rn_astore1, rn_lstore1, rn_iinc1, rn_iload2, rn_lload2, rn_aload2, rn_istore2, rn_astore2, rn_lstore2, rn_iinc2, rn_iload3, rn_lload3, rn_aload3, rn_istore3, rn_astore3, rn_lstore3, rn_iinc3, rn_iload4, rn_lload4, rn_aload4, rn_istore4, rn_astore4, rn_lstore4, rn_iinc4, rn_iload5, rn_lload5, rn_aload5, rn_istore5, rn_astore5, rn_lstore5, rn_iinc5, rn_iload6, rn_lload6, rn_aload6, rn_istore6, rn_astore6, rn_lstore6, rn_iinc6, rn_iload7, rn_aload7, rn_istore7, rn_astore7, rn_iinc7, rn_iload8, rn_aload8, rn_istore8, rn_astore8, rn_iinc8, rn_iload9, rn_aload9, rn_istore9, rn_astore9, rn_iinc9, rn_iadd, rn_isub, rn_imul, rn_iand, rn_ior, rn_ixor, rn_ishl, rn_ishr, rn_iushr, rn_idiv, rn_irem, rn_ineg, rn_ladd, rn_lsub, rn_lmul, rn_lor, rn_ldiv, rn_lrem, rn_lneg, rn_lshl, rn_lshr, rn_i2l, rn_l2i, rn_i2c, rn_lcmp, rn_dupi, rn_dupa, rn_popi, rn_popa, rn_dup2, rn_aast, rn_alen, rn_geta, rn_aald, rn_puta, rn_new, rn_newa, rn_anew, rn_min, rn_max, rn_slen, rn_chat, rn_indx, rn_objI, rn_nop, rn_goto, rn_ifeq, rn_ifne, rn_iflt, rn_ifge, rn_ifgt, rn_ifle, rn_iceq, rn_icne, rn_iclt, rn_icge, rn_icgt, rn_icle, rn_tsw, rn_lsw, rn_iret, rn_zret, rn_lret, rn_aret, rn_vret, rn_cs0, rn_cs1, rn_cs2, rn_cs3, rn_cs4, rn_cs5, rn_cs6, rn_cs7, rn_cv1, rn_ci1, rn_cv2, rn_ci2, rn_cv3, rn_ci3, rn_cv4, rn_cv5, rn_cv6, rn_cv7, cs_n, cs_i, cs_a, cs_l, rc_i, rc_a, rc_l, rc_n, rw_iald, rw_bald, rw_lald, rw_iast, rw_bast, rw_last, rw_geti, rw_getl, rw_puti, rw_putz, rw_putl, iI_add, iI_sub, iI_mul, iI_neg, iI_lt, iI_le, iI_eq, iI_lt0, iI_le0, iI_0lt, iI_0le, iI_eq0, iI_eq1, iI_div, iI_rem, am_in_ok, am_in_no, iI_toInt, iL_add, iL_sub, iL_mul, iL_neg, iL_div, iL_rem, iI_i2l, iL_l2i, iL_cmp, iL_eq0, iI_or, iI_and, iI_shl, if_true, if_false, true_or, or_true, true_and, and_true, false_or, or_false, not_true_eq_false, not_false_eq_true, Option.bind_some, Option.toList_some, Option.toList_none, List.nil_append, List.cons_append, ite_self, nc_0, nc_1, nc_2, nc_3, nc_4, nc_5, nc_6, nc_7, nc_8, nc_9, nc_10, nc_11, nc_12, nc_13, nc_14, nc_15, nc_16, nc_17, nc_18, nc_19, nc_20, nc_21, nc_22, nc_23, nc_24, nc_25, nc_26, nc_27, nc_28, nc_29, nc_30, nc_31, nc_32, nc_33, nc_34, nc_35, nc_36, nc_40, nc_48, nc_100, nc_256, nc_300, nc_304, t1, t2, t3, t4, t5, t6, t7, t8, t9, c_mouthAt hT', mx_163, mx_231, mx_232, ch, cv.1, q1, q2, if_pos, if_neg, sh_0, sh_393, rw_copy, am_cp_ok]
set_option maxHeartbeats 1000000 in
theorem c_polishTop (hT : TbS S r t) (O : AOk A n) (C : CRep w t A) {s : Int} (h0 : 0 ≤ s) (h1 : s < 8) (h2 : 0 < A.h s) :
    ∃ w2, am_call (d + 3) 147 [.ref t, .int (iI s)] (L, T, S, am_w w, v, r) = some (some (.int (iI (min99 (A.g s 0 * 2)))), (L, T, S, am_w w2, v, r)) ∧ CRep w2 t (A.pol s) ∧ FrT t w w2 := by
  have hT' := hT
  obtain ⟨t1, t2, t3, t4, t5, t6, t7, t8, t9⟩ := hT
  have ch := C.h s h0 h1
  have hh := O.h s h0 h1
  have cv := C.view h0 h1 (Int.le_refl 0) h2
  have ol := O.l s 0 h0 h1 (Int.le_refl 0) h2
  have hm := min99_bd (z := A.g s 0 * 2) (by omega)
  obtain ⟨w1, q1, C1, F1⟩ := c_setStrong1 (d := d + 2) (L := L) (T := T) (v := v) hT' O C (s := s) (i := 0) (z := A.g s 0 * 2) h0 h1 (by omega) (by omega) (by omega) (by omega)
  obtain ⟨w2, q2, C2, F2⟩ := c_write (d := d + 1) (L := L) (T := T) (v := v) hT' (O.str (s := s) (i := 0) hm.1 hm.2) C1 (s := s) (c := 2) h0 h1 (by decide) (by decide)
  have C2' : CRep w2 t (A.pol s) := C2
  have hw : (A.pol s).h s = A.h s ∧ (A.pol s).g s 0 = min99 (A.g s 0 * 2) := by
    unfold AT.pol AT.wr
    split
    · refine ⟨rfl, ?_⟩
      show (if s = s ∧ (0 : Int) = 0 then min99 (A.g s 0 * 2) else A.g s 0) = _
      rw [if_pos ⟨rfl, rfl⟩]
    · refine ⟨rfl, ?_⟩
      show (if s = s ∧ (0 : Int) = 0 then min99 (A.g s 0 * 2) else A.g s 0) = _
      rw [if_pos ⟨rfl, rfl⟩]
  have ch2 := C2'.h s h0 h1
  have cv2 := C2'.view h0 h1 (Int.le_refl 0) (by omega)
  rw [hw.1] at ch2
  rw [hw.2] at cv2
  refine ⟨w2, ?_, C2', F1.trans F2⟩
  simp (decide := true) (disch := omega) only [en_147, bk_147_0, bq_147_0, rn_iconst, rn_bipush, rn_sipush, rn_ldc_w, rn_ldc, rn_ldcS, rn_lconst, rn_ldc2, rn_gets, rn_iload0, rn_lload0, rn_aload0, rn_istore0, rn_astore0, rn_lstore0, rn_iinc0, rn_iload1, rn_lload1, rn_aload1, rn_istore1, rn_astore1, rn_lstore1, rn_iinc1, rn_iload2, rn_lload2, rn_aload2, rn_istore2, rn_astore2, rn_lstore2, rn_iinc2, rn_iload3, rn_lload3, rn_aload3, rn_istore3, rn_astore3, rn_lstore3, rn_iinc3, rn_iload4, rn_lload4, rn_aload4, rn_istore4, rn_astore4, rn_lstore4, rn_iinc4, rn_iload5, rn_lload5, rn_aload5, rn_istore5, rn_astore5, rn_lstore5, rn_iinc5, rn_iload6, rn_lload6, rn_aload6, rn_istore6, rn_astore6, rn_lstore6, rn_iinc6, rn_iload7, rn_aload7, rn_istore7, rn_astore7, rn_iinc7, rn_iload8, rn_aload8, rn_istore8, rn_astore8, rn_iinc8, rn_iload9, rn_aload9, rn_istore9, rn_astore9, rn_iinc9, rn_iadd, rn_isub, rn_imul, rn_iand, rn_ior, rn_ixor, rn_ishl, rn_ishr, rn_iushr, rn_idiv, rn_irem, rn_ineg, rn_ladd, rn_lsub, rn_lmul, rn_lor, rn_ldiv, rn_lrem, rn_lneg, rn_lshl, rn_lshr, rn_i2l, rn_l2i, rn_i2c, rn_lcmp, rn_dupi, rn_dupa, rn_popi, rn_popa, rn_dup2, rn_aast, rn_alen, rn_geta, rn_aald, rn_puta, rn_new, rn_newa, rn_anew, rn_min, rn_max, rn_slen, rn_chat, rn_indx, rn_objI, rn_nop, rn_goto, rn_ifeq, rn_ifne, rn_iflt, rn_ifge, rn_ifgt, rn_ifle, rn_iceq, rn_icne, rn_iclt, rn_icge, rn_icgt, rn_icle, rn_tsw, rn_lsw, rn_iret, rn_zret, rn_lret, rn_aret, rn_vret, rn_cs0, rn_cs1, rn_cs2, rn_cs3, rn_cs4, rn_cs5, rn_cs6, rn_cs7, rn_cv1, rn_ci1, rn_cv2, rn_ci2, rn_cv3, rn_ci3, rn_cv4, rn_cv5, rn_cv6, rn_cv7, cs_n, cs_i, cs_a, cs_l, rc_i, rc_a, rc_l, rc_n, rw_iald, rw_bald, rw_lald, rw_iast, rw_bast, rw_last, rw_geti, rw_getl, rw_puti, rw_putz, rw_putl, iI_add, iI_sub, iI_mul, iI_neg, iI_lt, iI_le, iI_eq, iI_lt0, iI_le0, iI_0lt, iI_0le, iI_eq0, iI_eq1, iI_div, iI_rem, am_in_ok, am_in_no, iI_toInt, iL_add, iL_sub, iL_mul, iL_neg, iL_div, iL_rem, iI_i2l, iL_l2i, iL_cmp, iL_eq0, iI_or, iI_and, iI_shl, if_true, if_false, true_or, or_true, true_and, and_true, false_or, or_false, not_true_eq_false, not_false_eq_true, Option.bind_some, Option.toList_some, Option.toList_none, List.nil_append, List.cons_append, ite_self, nc_0, nc_1, nc_2, nc_3, nc_4, nc_5, nc_6, nc_7, nc_8, nc_9, nc_10, nc_11, nc_12, nc_13, nc_14, nc_15, nc_16, nc_17, nc_18, nc_19, nc_20, nc_21, nc_22, nc_23, nc_24, nc_25, nc_26, nc_27, nc_28, nc_29, nc_30, nc_31, nc_32, nc_33, nc_34, nc_35, nc_36, nc_40, nc_48, nc_100, nc_256, nc_300, nc_304, t1, t2, t3, t4, t5, t6, t7, t8, t9, c_strongAt hT', mx_164, mx_231, mx_232, ch, cv.2, q1, q2, cv2.2, if_pos, if_neg, sh_0, sh_393, rw_copy, am_cp_ok]
set_option maxHeartbeats 1000000 in
theorem c_drawX (hT : TbS S r t) (O : AOk A n) (C : CRep w t A) :
    ∃ w2, am_call d 233 [.ref t] (L, T, S, am_w w, v, r) = some (some (.int (iI A.x)), (L, T, S, am_w w2, v, r)) ∧ CRep w2 t A.draw ∧ FrT t w w2 := by
  obtain ⟨t1, t2, t3, t4, t5, t6, t7, t8, t9⟩ := hT
  obtain ⟨o1, o2, o3, o4, o5, o6, o7, o8⟩ := O.1
  have cx := C.x
  refine ⟨upI w t 7 ((A.x * 727 + 593).tmod 31051), ?_, ?_, ?_⟩
  · simp (decide := true) (disch := omega) only [en_233, bk_233_0, bq_233_0, rn_iconst, rn_bipush, rn_sipush, rn_ldc_w, rn_ldc, rn_ldcS, rn_lconst, rn_ldc2, rn_gets, rn_iload0, rn_lload0, rn_aload0, rn_istore0, rn_astore0, rn_lstore0, rn_iinc0, rn_iload1, rn_lload1, rn_aload1, rn_istore1, rn_astore1, rn_lstore1, rn_iinc1, rn_iload2, rn_lload2, rn_aload2, rn_istore2, rn_astore2, rn_lstore2, rn_iinc2, rn_iload3, rn_lload3, rn_aload3, rn_istore3, rn_astore3, rn_lstore3, rn_iinc3, rn_iload4, rn_lload4, rn_aload4, rn_istore4, rn_astore4, rn_lstore4, rn_iinc4, rn_iload5, rn_lload5, rn_aload5, rn_istore5, rn_astore5, rn_lstore5, rn_iinc5, rn_iload6, rn_lload6, rn_aload6, rn_istore6, rn_astore6, rn_lstore6, rn_iinc6, rn_iload7, rn_aload7, rn_istore7, rn_astore7, rn_iinc7, rn_iload8, rn_aload8, rn_istore8, rn_astore8, rn_iinc8, rn_iload9, rn_aload9, rn_istore9, rn_astore9, rn_iinc9, rn_iadd, rn_isub, rn_imul, rn_iand, rn_ior, rn_ixor, rn_ishl, rn_ishr, rn_iushr, rn_idiv, rn_irem, rn_ineg, rn_ladd, rn_lsub, rn_lmul, rn_lor, rn_ldiv, rn_lrem, rn_lneg, rn_lshl, rn_lshr, rn_i2l, rn_l2i, rn_i2c, rn_lcmp, rn_dupi, rn_dupa, rn_popi, rn_popa, rn_dup2, rn_aast, rn_alen, rn_geta, rn_aald, rn_puta, rn_new, rn_newa, rn_anew, rn_min, rn_max, rn_slen, rn_chat, rn_indx, rn_objI, rn_nop, rn_goto, rn_ifeq, rn_ifne, rn_iflt, rn_ifge, rn_ifgt, rn_ifle, rn_iceq, rn_icne, rn_iclt, rn_icge, rn_icgt, rn_icle, rn_tsw, rn_lsw, rn_iret, rn_zret, rn_lret, rn_aret, rn_vret, rn_cs0, rn_cs1, rn_cs2, rn_cs3, rn_cs4, rn_cs5, rn_cs6, rn_cs7, rn_cv1, rn_ci1, rn_cv2, rn_ci2, rn_cv3, rn_ci3, rn_cv4, rn_cv5, rn_cv6, rn_cv7, cs_n, cs_i, cs_a, cs_l, rc_i, rc_a, rc_l, rc_n, rw_iald, rw_bald, rw_lald, rw_iast, rw_bast, rw_last, rw_geti, rw_getl, rw_puti, rw_putz, rw_putl, iI_add, iI_sub, iI_mul, iI_neg, iI_lt, iI_le, iI_eq, iI_lt0, iI_le0, iI_0lt, iI_0le, iI_eq0, iI_eq1, iI_div, iI_rem, am_in_ok, am_in_no, iI_toInt, iL_add, iL_sub, iL_mul, iL_neg, iL_div, iL_rem, iI_i2l, iL_l2i, iL_cmp, iL_eq0, iI_or, iI_and, iI_shl, if_true, if_false, true_or, or_true, true_and, and_true, false_or, or_false, not_true_eq_false, not_false_eq_true, Option.bind_some, Option.toList_some, Option.toList_none, List.nil_append, List.cons_append, ite_self, nc_0, nc_1, nc_2, nc_3, nc_4, nc_5, nc_6, nc_7, nc_8, nc_9, nc_10, nc_11, nc_12, nc_13, nc_14, nc_15, nc_16, nc_17, nc_18, nc_19, nc_20, nc_21, nc_22, nc_23, nc_24, nc_25, nc_26, nc_27, nc_28, nc_29, nc_30, nc_31, nc_32, nc_33, nc_34, nc_35, nc_36, nc_40, nc_48, nc_100, nc_256, nc_300, nc_304, t1, cx, if_pos, if_neg, sh_0, sh_393, rw_copy, am_cp_ok]
  · refine ⟨?_, ?_, ?_, ?_, ?_, ?_, ?_⟩
    · simp (disch := omega) only [upI_1, upI_2]; exact C.d
    · rw [upI_s]; rfl
    · simp (disch := omega) only [upI_1, upI_2]; exact C.m
    · simp (disch := omega) only [upI_1, upI_2]; exact C.nb
    · intro q q0 q1; simp (disch := omega) only [upI_1, upI_2]; exact C.h q q0 q1
    · intro q k q0 q1 k0 k1; simp (disch := omega) only [upI_1, upI_2]; exact C.l q k q0 q1 k0 k1
    · intro i k i0 i1 k0 k1; simp (disch := omega) only [upI_1, upI_2]; exact C.b i k i0 i1 k0 k1
  · intro a ha _ _
    exact upI_c (by omega)
end CV
