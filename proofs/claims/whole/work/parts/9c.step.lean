section SS
variable {d L T o n : Nat} {u u0 u1 u2 : Nat → Int → Int} {wl wl0 wl1 wl2 : Nat → Int → Int} {v : Nat → Nat → Int64} {p : Bts} {i i0 : Nat} {q k k0 x y l z m c : Int} {S R : List Int} {wh wh2 : Bool} {D D2 : List (Int × Int)} {jj : Option Value} {M2 : am_M} {s t : MSt}
set_option maxHeartbeats 1000000 in
theorem s_beg (h18 : u 393 18 = 0) (e : am_call (d + 7) 308 [.ref 393] (L, T, S0 n, am_w u, am_wl wl, R0 o) = some (some (.int (iI 0)), M2)) : am_run (d + 8) 302 (am_B 302 15) [some (.ref 393), jj] [] (L, T, S0 n, am_w u, am_wl wl, R0 o) = am_run (d + 8) 302 (am_B 302 15) [some (.ref 393), some (.int (iI 0))] [] M2 := by
  conv => lhs; rw [bk_302_15]
  simp (decide := true) (disch := omega) only [en_302, bk_302_0, bk_302_32, bk_302_41, bk_302_48, bk_302_59, bq_302_0, bq_302_15, bq_302_32, bq_302_41, bq_302_48, bq_302_59, rn_iconst, rn_bipush, rn_sipush, rn_ldc_w, rn_ldc, rn_ldcS, rn_lconst, rn_ldc2, rn_gets, rn_iload0, rn_lload0, rn_aload0, rn_istore0, rn_astore0, rn_lstore0, rn_iinc0, rn_iload1, rn_lload1, rn_aload1, rn_istore1, rn_astore1, rn_lstore1, rn_iinc1, rn_iload2, rn_lload2, rn_aload2, rn_istore2, rn_astore2, rn_lstore2, rn_iinc2, rn_iload3, rn_lload3, rn_aload3, rn_istore3, rn_astore3, rn_lstore3, rn_iinc3, rn_iload4, rn_lload4, rn_aload4, rn_istore4, rn_astore4, rn_lstore4, rn_iinc4, rn_iload5, rn_lload5, rn_aload5, rn_istore5, rn_astore5, rn_lstore5, rn_iinc5, rn_iload6, rn_lload6, rn_aload6, rn_istore6, rn_astore6, rn_lstore6, rn_iinc6, rn_iload7, rn_aload7, rn_istore7, rn_astore7, rn_iinc7, rn_iload8, rn_aload8, rn_istore8, rn_astore8, rn_iinc8, rn_iload9, rn_aload9, rn_istore9, rn_astore9, rn_iinc9, rn_iadd, rn_isub, rn_imul, rn_iand, rn_ior, rn_ixor, rn_ishl, rn_ishr, rn_iushr, rn_idiv, rn_irem, rn_ineg, rn_ladd, rn_lsub, rn_lmul, rn_lor, rn_ldiv, rn_lrem, rn_lneg, rn_lshl, rn_lshr, rn_i2l, rn_l2i, rn_i2c, rn_lcmp, rn_dupi, rn_dupa, rn_popi, rn_popa, rn_dup2, rn_aast, rn_alen, rn_geta, rn_aald, rn_puta, rn_new, rn_newa, rn_anew, rn_min, rn_max, rn_slen, rn_chat, rn_indx, rn_objI, rn_nop, rn_goto, rn_ifeq, rn_ifne, rn_iflt, rn_ifge, rn_ifgt, rn_ifle, rn_iceq, rn_icne, rn_iclt, rn_icge, rn_icgt, rn_icle, rn_tsw, rn_lsw, rn_iret, rn_zret, rn_lret, rn_aret, rn_vret, rn_cs0, rn_cs1, rn_cs2, rn_cs3, rn_cs4, rn_cs5, rn_cs6, rn_cs7, rn_cv1, rn_ci1, rn_cv2, rn_ci2, rn_cv3, rn_ci3, rn_cv4, rn_cv5, rn_cv6, rn_cv7, cs_n, cs_i, cs_a, cs_l, rc_i, rc_a, rc_l, rc_n, rw_iald, rw_bald, rw_lald, rw_iast, rw_bast, rw_last, rw_geti, rw_getl, rw_puti, rw_putz, rw_putl, iI_add, iI_sub, iI_mul, iI_neg, iI_lt, iI_le, iI_eq, iI_lt0, iI_le0, iI_0lt, iI_0le, iI_eq0, iI_eq1, iI_div, iI_rem, am_in_ok, am_in_no, iI_toInt, iL_add, iL_sub, iL_mul, iL_neg, iL_div, iL_rem, iI_i2l, iL_l2i, iL_cmp, iL_eq0, iI_or, iI_and, iI_shl, if_true, if_false, true_or, or_true, true_and, and_true, false_or, or_false, not_true_eq_false, not_false_eq_true, Option.bind_some, Option.toList_some, Option.toList_none, List.nil_append, List.cons_append, ite_self, nc_0, nc_1, nc_2, nc_3, nc_4, nc_5, nc_6, nc_7, nc_8, nc_9, nc_10, nc_11, nc_12, nc_13, nc_14, nc_15, nc_16, nc_17, nc_18, nc_19, nc_20, nc_21, nc_22, nc_23, nc_24, nc_25, nc_26, nc_27, nc_28, nc_29, nc_30, nc_31, nc_32, nc_33, nc_34, nc_35, nc_36, nc_40, nc_48, nc_100, nc_256, nc_300, nc_304, sh_393, rf_393_0, rf_393_1, rf_393_2, rf_393_3, rf_393_15, rf_393_20, rf_393_21, rf_393_22, rf_393_27, rf_393_28, rf_393_29, rf_393_30, rf_393_34, h18, e, mx_308, if_pos, if_neg, sh_0, sh_393, rw_copy, am_cp_ok]
set_option maxHeartbeats 1000000 in
theorem s_begF (h18 : u 393 18 = 0) (c0 : 1 ≤ c) (c1 : c ≤ 9) (e : am_call (d + 7) 308 [.ref 393] (L, T, S0 n, am_w u, am_wl wl, R0 o) = some (some (.int (iI c)), M2)) : am_run (d + 8) 302 (am_B 302 15) [some (.ref 393), jj] [] (L, T, S0 n, am_w u, am_wl wl, R0 o) = some (some (.int (iI c)), M2) := by
  conv => lhs; rw [bk_302_15]
  have g : ¬ c = 0 := by omega
  simp (decide := true) (disch := omega) only [en_302, bk_302_0, bk_302_32, bk_302_41, bk_302_48, bk_302_59, bq_302_0, bq_302_15, bq_302_32, bq_302_41, bq_302_48, bq_302_59, rn_iconst, rn_bipush, rn_sipush, rn_ldc_w, rn_ldc, rn_ldcS, rn_lconst, rn_ldc2, rn_gets, rn_iload0, rn_lload0, rn_aload0, rn_istore0, rn_astore0, rn_lstore0, rn_iinc0, rn_iload1, rn_lload1, rn_aload1, rn_istore1, rn_astore1, rn_lstore1, rn_iinc1, rn_iload2, rn_lload2, rn_aload2, rn_istore2, rn_astore2, rn_lstore2, rn_iinc2, rn_iload3, rn_lload3, rn_aload3, rn_istore3, rn_astore3, rn_lstore3, rn_iinc3, rn_iload4, rn_lload4, rn_aload4, rn_istore4, rn_astore4, rn_lstore4, rn_iinc4, rn_iload5, rn_lload5, rn_aload5, rn_istore5, rn_astore5, rn_lstore5, rn_iinc5, rn_iload6, rn_lload6, rn_aload6, rn_istore6, rn_astore6, rn_lstore6, rn_iinc6, rn_iload7, rn_aload7, rn_istore7, rn_astore7, rn_iinc7, rn_iload8, rn_aload8, rn_istore8, rn_astore8, rn_iinc8, rn_iload9, rn_aload9, rn_istore9, rn_astore9, rn_iinc9, rn_iadd, rn_isub, rn_imul, rn_iand, rn_ior, rn_ixor, rn_ishl, rn_ishr, rn_iushr, rn_idiv, rn_irem, rn_ineg, rn_ladd, rn_lsub, rn_lmul, rn_lor, rn_ldiv, rn_lrem, rn_lneg, rn_lshl, rn_lshr, rn_i2l, rn_l2i, rn_i2c, rn_lcmp, rn_dupi, rn_dupa, rn_popi, rn_popa, rn_dup2, rn_aast, rn_alen, rn_geta, rn_aald, rn_puta, rn_new, rn_newa, rn_anew, rn_min, rn_max, rn_slen, rn_chat, rn_indx, rn_objI, rn_nop, rn_goto, rn_ifeq, rn_ifne, rn_iflt, rn_ifge, rn_ifgt, rn_ifle, rn_iceq, rn_icne, rn_iclt, rn_icge, rn_icgt, rn_icle, rn_tsw, rn_lsw, rn_iret, rn_zret, rn_lret, rn_aret, rn_vret, rn_cs0, rn_cs1, rn_cs2, rn_cs3, rn_cs4, rn_cs5, rn_cs6, rn_cs7, rn_cv1, rn_ci1, rn_cv2, rn_ci2, rn_cv3, rn_ci3, rn_cv4, rn_cv5, rn_cv6, rn_cv7, cs_n, cs_i, cs_a, cs_l, rc_i, rc_a, rc_l, rc_n, rw_iald, rw_bald, rw_lald, rw_iast, rw_bast, rw_last, rw_geti, rw_getl, rw_puti, rw_putz, rw_putl, iI_add, iI_sub, iI_mul, iI_neg, iI_lt, iI_le, iI_eq, iI_lt0, iI_le0, iI_0lt, iI_0le, iI_eq0, iI_eq1, iI_div, iI_rem, am_in_ok, am_in_no, iI_toInt, iL_add, iL_sub, iL_mul, iL_neg, iL_div, iL_rem, iI_i2l, iL_l2i, iL_cmp, iL_eq0, iI_or, iI_and, iI_shl, if_true, if_false, true_or, or_true, true_and, and_true, false_or, or_false, not_true_eq_false, not_false_eq_true, Option.bind_some, Option.toList_some, Option.toList_none, List.nil_append, List.cons_append, ite_self, nc_0, nc_1, nc_2, nc_3, nc_4, nc_5, nc_6, nc_7, nc_8, nc_9, nc_10, nc_11, nc_12, nc_13, nc_14, nc_15, nc_16, nc_17, nc_18, nc_19, nc_20, nc_21, nc_22, nc_23, nc_24, nc_25, nc_26, nc_27, nc_28, nc_29, nc_30, nc_31, nc_32, nc_33, nc_34, nc_35, nc_36, nc_40, nc_48, nc_100, nc_256, nc_300, nc_304, sh_393, rf_393_0, rf_393_1, rf_393_2, rf_393_3, rf_393_15, rf_393_20, rf_393_21, rf_393_22, rf_393_27, rf_393_28, rf_393_29, rf_393_30, rf_393_34, h18, e, g, mx_308, if_pos, if_neg, sh_0, sh_393, rw_copy, am_cp_ok]
set_option maxHeartbeats 1000000 in
theorem s_beh (h18 : u 393 18 = 1) (e : am_call (d + 7) 305 [.ref 393] (L, T, S0 n, am_w u, am_wl wl, R0 o) = some (some (.int (iI 1)), M2)) : am_run (d + 8) 302 (am_B 302 15) [some (.ref 393), jj] [] (L, T, S0 n, am_w u, am_wl wl, R0 o) = am_run (d + 8) 302 (am_B 302 15) [some (.ref 393), jj] [] M2 := by
  conv => lhs; rw [bk_302_15]
  simp (decide := true) (disch := omega) only [en_302, bk_302_0, bk_302_32, bk_302_41, bk_302_48, bk_302_59, bq_302_0, bq_302_15, bq_302_32, bq_302_41, bq_302_48, bq_302_59, rn_iconst, rn_bipush, rn_sipush, rn_ldc_w, rn_ldc, rn_ldcS, rn_lconst, rn_ldc2, rn_gets, rn_iload0, rn_lload0, rn_aload0, rn_istore0, rn_astore0, rn_lstore0, rn_iinc0, rn_iload1, rn_lload1, rn_aload1, rn_istore1, rn_astore1, rn_lstore1, rn_iinc1, rn_iload2, rn_lload2, rn_aload2, rn_istore2, rn_astore2, rn_lstore2, rn_iinc2, rn_iload3, rn_lload3, rn_aload3, rn_istore3, rn_astore3, rn_lstore3, rn_iinc3, rn_iload4, rn_lload4, rn_aload4, rn_istore4, rn_astore4, rn_lstore4, rn_iinc4, rn_iload5, rn_lload5, rn_aload5, rn_istore5, rn_astore5, rn_lstore5, rn_iinc5, rn_iload6, rn_lload6, rn_aload6, rn_istore6, rn_astore6, rn_lstore6, rn_iinc6, rn_iload7, rn_aload7, rn_istore7, rn_astore7, rn_iinc7, rn_iload8, rn_aload8, rn_istore8, rn_astore8, rn_iinc8, rn_iload9, rn_aload9, rn_istore9, rn_astore9, rn_iinc9, rn_iadd, rn_isub, rn_imul, rn_iand, rn_ior, rn_ixor, rn_ishl, rn_ishr, rn_iushr, rn_idiv, rn_irem, rn_ineg, rn_ladd, rn_lsub, rn_lmul, rn_lor, rn_ldiv, rn_lrem, rn_lneg, rn_lshl, rn_lshr, rn_i2l, rn_l2i, rn_i2c, rn_lcmp, rn_dupi, rn_dupa, rn_popi, rn_popa, rn_dup2, rn_aast, rn_alen, rn_geta, rn_aald, rn_puta, rn_new, rn_newa, rn_anew, rn_min, rn_max, rn_slen, rn_chat, rn_indx, rn_objI, rn_nop, rn_goto, rn_ifeq, rn_ifne, rn_iflt, rn_ifge, rn_ifgt, rn_ifle, rn_iceq, rn_icne, rn_iclt, rn_icge, rn_icgt, rn_icle, rn_tsw, rn_lsw, rn_iret, rn_zret, rn_lret, rn_aret, rn_vret, rn_cs0, rn_cs1, rn_cs2, rn_cs3, rn_cs4, rn_cs5, rn_cs6, rn_cs7, rn_cv1, rn_ci1, rn_cv2, rn_ci2, rn_cv3, rn_ci3, rn_cv4, rn_cv5, rn_cv6, rn_cv7, cs_n, cs_i, cs_a, cs_l, rc_i, rc_a, rc_l, rc_n, rw_iald, rw_bald, rw_lald, rw_iast, rw_bast, rw_last, rw_geti, rw_getl, rw_puti, rw_putz, rw_putl, iI_add, iI_sub, iI_mul, iI_neg, iI_lt, iI_le, iI_eq, iI_lt0, iI_le0, iI_0lt, iI_0le, iI_eq0, iI_eq1, iI_div, iI_rem, am_in_ok, am_in_no, iI_toInt, iL_add, iL_sub, iL_mul, iL_neg, iL_div, iL_rem, iI_i2l, iL_l2i, iL_cmp, iL_eq0, iI_or, iI_and, iI_shl, if_true, if_false, true_or, or_true, true_and, and_true, false_or, or_false, not_true_eq_false, not_false_eq_true, Option.bind_some, Option.toList_some, Option.toList_none, List.nil_append, List.cons_append, ite_self, nc_0, nc_1, nc_2, nc_3, nc_4, nc_5, nc_6, nc_7, nc_8, nc_9, nc_10, nc_11, nc_12, nc_13, nc_14, nc_15, nc_16, nc_17, nc_18, nc_19, nc_20, nc_21, nc_22, nc_23, nc_24, nc_25, nc_26, nc_27, nc_28, nc_29, nc_30, nc_31, nc_32, nc_33, nc_34, nc_35, nc_36, nc_40, nc_48, nc_100, nc_256, nc_300, nc_304, sh_393, rf_393_0, rf_393_1, rf_393_2, rf_393_3, rf_393_15, rf_393_20, rf_393_21, rf_393_22, rf_393_27, rf_393_28, rf_393_29, rf_393_30, rf_393_34, h18, e, mx_305, if_pos, if_neg, sh_0, sh_393, rw_copy, am_cp_ok]
set_option maxHeartbeats 1000000 in
theorem s_behF (h18 : u 393 18 = 1) (x0 : 0 ≤ x) (x1 : x ≤ 43) (e : am_call (d + 7) 305 [.ref 393] (L, T, S0 n, am_w u, am_wl wl, R0 o) = some (some (.int (iI 0)), (L, T, S0 n, am_w u, am_wl wl, R0 o))) (e2 : am_call (d + 7) 306 [.ref 393] (L, T, S0 n, am_w u, am_wl wl, R0 o) = some (some (.int (iI x)), (L, T, S0 n, am_w u, am_wl wl, R0 o))) : am_run (d + 8) 302 (am_B 302 15) [some (.ref 393), jj] [] (L, T, S0 n, am_w u, am_wl wl, R0 o) = some (some (.int (iI 1)), (L, T, S0 n, am_w u, am_wl wl, R0 o)) := by
  conv => lhs; rw [bk_302_15]
  simp (decide := true) (disch := omega) only [en_302, bk_302_0, bk_302_32, bk_302_41, bk_302_48, bk_302_59, bq_302_0, bq_302_15, bq_302_32, bq_302_41, bq_302_48, bq_302_59, rn_iconst, rn_bipush, rn_sipush, rn_ldc_w, rn_ldc, rn_ldcS, rn_lconst, rn_ldc2, rn_gets, rn_iload0, rn_lload0, rn_aload0, rn_istore0, rn_astore0, rn_lstore0, rn_iinc0, rn_iload1, rn_lload1, rn_aload1, rn_istore1, rn_astore1, rn_lstore1, rn_iinc1, rn_iload2, rn_lload2, rn_aload2, rn_istore2, rn_astore2, rn_lstore2, rn_iinc2, rn_iload3, rn_lload3, rn_aload3, rn_istore3, rn_astore3, rn_lstore3, rn_iinc3, rn_iload4, rn_lload4, rn_aload4, rn_istore4, rn_astore4, rn_lstore4, rn_iinc4, rn_iload5, rn_lload5, rn_aload5, rn_istore5, rn_astore5, rn_lstore5, rn_iinc5, rn_iload6, rn_lload6, rn_aload6, rn_istore6, rn_astore6, rn_lstore6, rn_iinc6, rn_iload7, rn_aload7, rn_istore7, rn_astore7, rn_iinc7, rn_iload8, rn_aload8, rn_istore8, rn_astore8, rn_iinc8, rn_iload9, rn_aload9, rn_istore9, rn_astore9, rn_iinc9, rn_iadd, rn_isub, rn_imul, rn_iand, rn_ior, rn_ixor, rn_ishl, rn_ishr, rn_iushr, rn_idiv, rn_irem, rn_ineg, rn_ladd, rn_lsub, rn_lmul, rn_lor, rn_ldiv, rn_lrem, rn_lneg, rn_lshl, rn_lshr, rn_i2l, rn_l2i, rn_i2c, rn_lcmp, rn_dupi, rn_dupa, rn_popi, rn_popa, rn_dup2, rn_aast, rn_alen, rn_geta, rn_aald, rn_puta, rn_new, rn_newa, rn_anew, rn_min, rn_max, rn_slen, rn_chat, rn_indx, rn_objI, rn_nop, rn_goto, rn_ifeq, rn_ifne, rn_iflt, rn_ifge, rn_ifgt, rn_ifle, rn_iceq, rn_icne, rn_iclt, rn_icge, rn_icgt, rn_icle, rn_tsw, rn_lsw, rn_iret, rn_zret, rn_lret, rn_aret, rn_vret, rn_cs0, rn_cs1, rn_cs2, rn_cs3, rn_cs4, rn_cs5, rn_cs6, rn_cs7, rn_cv1, rn_ci1, rn_cv2, rn_ci2, rn_cv3, rn_ci3, rn_cv4, rn_cv5, rn_cv6, rn_cv7, cs_n, cs_i, cs_a, cs_l, rc_i, rc_a, rc_l, rc_n, rw_iald, rw_bald, rw_lald, rw_iast, rw_bast, rw_last, rw_geti, rw_getl, rw_puti, rw_putz, rw_putl, iI_add, iI_sub, iI_mul, iI_neg, iI_lt, iI_le, iI_eq, iI_lt0, iI_le0, iI_0lt, iI_0le, iI_eq0, iI_eq1, iI_div, iI_rem, am_in_ok, am_in_no, iI_toInt, iL_add, iL_sub, iL_mul, iL_neg, iL_div, iL_rem, iI_i2l, iL_l2i, iL_cmp, iL_eq0, iI_or, iI_and, iI_shl, if_true, if_false, true_or, or_true, true_and, and_true, false_or, or_false, not_true_eq_false, not_false_eq_true, Option.bind_some, Option.toList_some, Option.toList_none, List.nil_append, List.cons_append, ite_self, nc_0, nc_1, nc_2, nc_3, nc_4, nc_5, nc_6, nc_7, nc_8, nc_9, nc_10, nc_11, nc_12, nc_13, nc_14, nc_15, nc_16, nc_17, nc_18, nc_19, nc_20, nc_21, nc_22, nc_23, nc_24, nc_25, nc_26, nc_27, nc_28, nc_29, nc_30, nc_31, nc_32, nc_33, nc_34, nc_35, nc_36, nc_40, nc_48, nc_100, nc_256, nc_300, nc_304, sh_393, rf_393_0, rf_393_1, rf_393_2, rf_393_3, rf_393_15, rf_393_20, rf_393_21, rf_393_22, rf_393_27, rf_393_28, rf_393_29, rf_393_30, rf_393_34, h18, e, e2, mx_305, mx_306, if_pos, if_neg, sh_0, sh_393, rw_copy, am_cp_ok]
set_option maxHeartbeats 1000000 in
theorem s_end (h18 : u 393 18 = 1) (e : am_call (d + 7) 305 [.ref 393] (L, T, S0 n, am_w u, am_wl wl, R0 o) = some (some (.int (iI 0)), (L, T, S0 n, am_w u, am_wl wl, R0 o))) (e2 : am_call (d + 7) 306 [.ref 393] (L, T, S0 n, am_w u, am_wl wl, R0 o) = some (some (.int (iI (-1))), (L, T, S0 n, am_w u, am_wl wl, R0 o))) (e3 : am_call (d + 7) 307 [.ref 393, .int (iI 1)] (L, T, S0 n, am_w u, am_wl wl, R0 o) = some (none, M2)) : am_run (d + 8) 302 (am_B 302 15) [some (.ref 393), jj] [] (L, T, S0 n, am_w u, am_wl wl, R0 o) = some (some (.int (iI 0)), M2) := by
  conv => lhs; rw [bk_302_15]
  simp (decide := true) (disch := omega) only [en_302, bk_302_0, bk_302_32, bk_302_41, bk_302_48, bk_302_59, bq_302_0, bq_302_15, bq_302_32, bq_302_41, bq_302_48, bq_302_59, rn_iconst, rn_bipush, rn_sipush, rn_ldc_w, rn_ldc, rn_ldcS, rn_lconst, rn_ldc2, rn_gets, rn_iload0, rn_lload0, rn_aload0, rn_istore0, rn_astore0, rn_lstore0, rn_iinc0, rn_iload1, rn_lload1, rn_aload1, rn_istore1, rn_astore1, rn_lstore1, rn_iinc1, rn_iload2, rn_lload2, rn_aload2, rn_istore2, rn_astore2, rn_lstore2, rn_iinc2, rn_iload3, rn_lload3, rn_aload3, rn_istore3, rn_astore3, rn_lstore3, rn_iinc3, rn_iload4, rn_lload4, rn_aload4, rn_istore4, rn_astore4, rn_lstore4, rn_iinc4, rn_iload5, rn_lload5, rn_aload5, rn_istore5, rn_astore5, rn_lstore5, rn_iinc5, rn_iload6, rn_lload6, rn_aload6, rn_istore6, rn_astore6, rn_lstore6, rn_iinc6, rn_iload7, rn_aload7, rn_istore7, rn_astore7, rn_iinc7, rn_iload8, rn_aload8, rn_istore8, rn_astore8, rn_iinc8, rn_iload9, rn_aload9, rn_istore9, rn_astore9, rn_iinc9, rn_iadd, rn_isub, rn_imul, rn_iand, rn_ior, rn_ixor, rn_ishl, rn_ishr, rn_iushr, rn_idiv, rn_irem, rn_ineg, rn_ladd, rn_lsub, rn_lmul, rn_lor, rn_ldiv, rn_lrem, rn_lneg, rn_lshl, rn_lshr, rn_i2l, rn_l2i, rn_i2c, rn_lcmp, rn_dupi, rn_dupa, rn_popi, rn_popa, rn_dup2, rn_aast, rn_alen, rn_geta, rn_aald, rn_puta, rn_new, rn_newa, rn_anew, rn_min, rn_max, rn_slen, rn_chat, rn_indx, rn_objI, rn_nop, rn_goto, rn_ifeq, rn_ifne, rn_iflt, rn_ifge, rn_ifgt, rn_ifle, rn_iceq, rn_icne, rn_iclt, rn_icge, rn_icgt, rn_icle, rn_tsw, rn_lsw, rn_iret, rn_zret, rn_lret, rn_aret, rn_vret, rn_cs0, rn_cs1, rn_cs2, rn_cs3, rn_cs4, rn_cs5, rn_cs6, rn_cs7, rn_cv1, rn_ci1, rn_cv2, rn_ci2, rn_cv3, rn_ci3, rn_cv4, rn_cv5, rn_cv6, rn_cv7, cs_n, cs_i, cs_a, cs_l, rc_i, rc_a, rc_l, rc_n, rw_iald, rw_bald, rw_lald, rw_iast, rw_bast, rw_last, rw_geti, rw_getl, rw_puti, rw_putz, rw_putl, iI_add, iI_sub, iI_mul, iI_neg, iI_lt, iI_le, iI_eq, iI_lt0, iI_le0, iI_0lt, iI_0le, iI_eq0, iI_eq1, iI_div, iI_rem, am_in_ok, am_in_no, iI_toInt, iL_add, iL_sub, iL_mul, iL_neg, iL_div, iL_rem, iI_i2l, iL_l2i, iL_cmp, iL_eq0, iI_or, iI_and, iI_shl, if_true, if_false, true_or, or_true, true_and, and_true, false_or, or_false, not_true_eq_false, not_false_eq_true, Option.bind_some, Option.toList_some, Option.toList_none, List.nil_append, List.cons_append, ite_self, nc_0, nc_1, nc_2, nc_3, nc_4, nc_5, nc_6, nc_7, nc_8, nc_9, nc_10, nc_11, nc_12, nc_13, nc_14, nc_15, nc_16, nc_17, nc_18, nc_19, nc_20, nc_21, nc_22, nc_23, nc_24, nc_25, nc_26, nc_27, nc_28, nc_29, nc_30, nc_31, nc_32, nc_33, nc_34, nc_35, nc_36, nc_40, nc_48, nc_100, nc_256, nc_300, nc_304, sh_393, rf_393_0, rf_393_1, rf_393_2, rf_393_3, rf_393_15, rf_393_20, rf_393_21, rf_393_22, rf_393_27, rf_393_28, rf_393_29, rf_393_30, rf_393_34, h18, e, e2, e3, mx_305, mx_306, mx_307, if_pos, if_neg, sh_0, sh_393, rw_copy, am_cp_ok]
/-- how far pile and code have grown -/
def MBd (i0 : Nat) (s : MSt) : Prop := (i0 ≤ s.1 ∧ s.1 ≤ 300) ∧ opC s.2.1 ≤ 8 ∧ 2 * (s.2.1.length : Int) + bI (s.2.2.1 = true) ≤ (s.1 : Int) - i0 + opC s.2.1 ∧ (s.2.2.2.length : Int) + s.2.1.length ≤ (s.1 : Int) - i0
def MHd (p : Bts) (z q : Int) (i0 : Nat) (k0 : Int) (u0 wl0 : Nat → Int → Int) (s : MSt) (u wl : Nat → Int → Int) : Prop := MPS p z q u wl s.1 s.2.1 s.2.2.1 (k0 + s.2.2.2.length) ∧ MEf q k0 u0 u wl0 wl s.2.2.2 ∧ MBd i0 s
theorem stO_le : ∀ S : List Int, stO l S ≤ (stN l S : Int)
  | [] => Int.le_refl 0
  | x :: r => by
    have := stO_le r
    rw [stO, stN]
    by_cases c : l ≤ rkO x
    · rw [if_pos c, if_pos c]
      split <;> omega
    · rw [if_neg c, if_neg c]; omega
theorem sd_bd (hl : 1 ≤ l) : ((sdr l S).length : Int) + ((em0 (stk l S)).length : Int) = (S.length : Int) ∧ opC (sdr l S) ≤ opC S ∧ opC S ≤ opC (sdr l S) + ((em0 (stk l S)).length : Int) := by
  have a := opC_sdr hl S
  have b := stO_le (l := l) S
  have b2 := stO_nn (l := l) S
  have c := stN_le (l := l) S
  have e := stk_len (l := l) (S := S)
  have f : ((sdr l S).length : Int) = (S.length : Int) - (stN l S : Int) := by unfold sdr; rw [List.length_drop]; omega
  omega
theorem op_39 : opK 39 S = -1 := by
  unfold opK
  rw [if_neg (by decide), if_neg (by decide), if_neg (by decide), if_neg (by decide), if_neg (by decide), if_neg (fun h => absurd h.1 (by decide))]
theorem bt_39 : btO 39 S = -1 := by
  unfold btO
  rw [if_neg (by decide), if_neg (by decide), if_neg (by decide), if_neg (by decide), if_neg (show ¬ (39 : Int) = 17 by decide), if_neg (show ¬ (39 : Int) = 16 by decide)]
  repeat' split
  all_goals rfl
theorem pt_39 : ptO 39 S = -1 := by
  unfold ptO
  rw [if_neg (show ¬ (39 : Int) = 30 by decide), if_neg (show ¬ ((39 : Int) = 13 ∧ cpd S = true) from fun h => absurd h.1 (by decide)), if_neg (show ¬ (39 : Int) = 14 by decide), if_neg (show ¬ (39 : Int) = 15 by decide)]
  repeat' split
  all_goals rfl
theorem op_bd {K : Int} (h : 0 ≤ opK K S) : opK K S ≤ 43 ∧ (rkO (opK K S) = 7 ∨ opK K S = 20 ∨ 40 ≤ opK K S) := by
  unfold opK at h ⊢
  repeat' split at h
  all_goals first | (exact absurd h (by decide)) | skip
  all_goals simp_all
  all_goals decide
theorem len1 {D : List (Int × Int)} {x : Int × Int} : ((x :: D).length : Int) = D.length + 1 := by show ((D.length + 1 : Nat) : Int) = _; omega
theorem lenS {x : Int} : ((x :: S).length : Int) = S.length + 1 := by show ((S.length + 1 : Nat) : Int) = _; omega
theorem lenA {D D2 : List (Int × Int)} : ((D ++ D2).length : Int) = (D.length : Int) + D2.length := by rw [List.length_append]; omega
theorem ef_fin {C D : List (Int × Int)} (h : MEf q k0 u0 u wl0 wl C) (g : MEf q (k0 + C.length) u u2 wl wl2 D) : MEf q k0 u0 u2 wl0 wl2 (C ++ D) := h.trans rfl g
theorem s_step (O : TpOk p) (hz : z = 0 ∨ z = 1) (hk0 : 0 ≤ k0) (hk1 : k0 ≤ i0) (st : MStep p z s t) (h : MHd p z q i0 k0 u0 wl0 s u wl) : ∃ u2 wl2 jj2, am_run (d + 8) 302 (am_B 302 15) [some (.ref 393), jj] [] (L, T, S0 n, am_w u, am_wl wl, R0 o) = am_run (d + 8) 302 (am_B 302 15) [some (.ref 393), jj2] [] (L, T, S0 n, am_w u2, am_wl wl2, R0 o) ∧ MHd p z q i0 k0 u0 wl0 t u2 wl2 := by
  have b1 : bI (true = true) = 1 := rfl
  have b0 : bI (false = true) = 0 := rfl
  obtain ⟨i, S, wh, C⟩ := s
  rcases st with ⟨hw, ⟨hK, hN, rfl⟩ | ⟨hK, hN, rfl⟩ | ⟨hx, ho, rfl⟩⟩ | ⟨hw, ⟨hx, rfl⟩ | ⟨y, R, hx, hpt, hs, rfl⟩ | ⟨y, R, hx, hpt, hs, rfl⟩⟩
  · have hw : wh = false := hw
    subst hw
    dsimp only at hK hN
    obtain ⟨hp, he, hb⟩ := h
    dsimp only at hp he
    unfold MBd at hb
    dsimp only at hb
    have i9 := tk_299 O (i := i) (by omega)
    have sd := sd_bd (l := 7) (S := S) (by decide)
    rw [b0] at hb
    obtain ⟨u2, wl2, e, g, f⟩ := b_num (d := d + 1) (L := L) (T := T) (o := o) (n := n) O hp hK hN (by omega) (by omega)
    refine ⟨u2, wl2, _, s_beg hp.2.2.2.2.1 e, ?_, ef_fin he f, ?_⟩
    · dsimp only
      rw [lenA, ← Int.add_assoc]
      exact g
    · unfold MBd
      dsimp only
      rw [lenA, len1, b1]
      omega
  · have hw : wh = false := hw
    subst hw
    dsimp only at hK hN
    obtain ⟨hp, he, hb⟩ := h
    dsimp only at hp he
    unfold MBd at hb
    dsimp only at hb
    have i9 := tk_299 O (i := i) (by omega)
    have sd := sd_bd (l := 7) (S := S) (by decide)
    rw [b0] at hb
    obtain ⟨u2, wl2, e, g, f⟩ := b_name (d := d + 1) (L := L) (T := T) (o := o) (n := n) O hp hz hK hN (by omega) (by omega)
    refine ⟨u2, wl2, _, s_beg hp.2.2.2.2.1 e, ?_, ef_fin he f, ?_⟩
    · dsimp only
      rw [lenA, ← Int.add_assoc]
      exact g
    · unfold MBd
      dsimp only
      rw [lenA, len1, b1]
      omega
  · have hw : wh = false := hw
    subst hw
    dsimp only at hx ho
    obtain ⟨hp, he, hb⟩ := h
    dsimp only at hp he
    unfold MBd at hb
    dsimp only at hb
    have i9 := tk_299 O (i := i) (fun g => by rw [g, op_39] at hx; exact absurd hx (by decide))
    have ob := op_bd hx
    rw [b0] at hb
    obtain ⟨u2, wl2, e, g, f⟩ := m_opened (d := d + 4) (L := L) (T := T) (o := o) (n := n) O hp (by omega) hx ob.1 ob.2 ho
    refine ⟨u2, wl2, _, s_beg hp.2.2.2.2.1 (b_open (d := d + 1) O hp hx e), g, ?_, ?_⟩
    · have t := ef_fin he f
      rw [List.append_nil] at t
      exact t
    · unfold MBd
      dsimp only
      rw [lenS, opC_1 ob.2, b0]
      omega
  · have hw : wh = true := hw
    subst hw
    dsimp only at hx
    obtain ⟨hp, he, hb⟩ := h
    dsimp only at hp he
    unfold MBd at hb
    dsimp only at hb
    have i9 := tk_299 O (i := i) (fun g => by rw [g, bt_39] at hx; exact absurd hx (by decide))
    have bb := bt_bd2 hx
    have sd := sd_bd (l := rkB (btO (tK p i) S)) (S := S) bb.2.2.2.2.1
    rw [b1] at hb
    obtain ⟨u2, wl2, e, g, f⟩ := h_bet (d := d) (L := L) (T := T) (o := o) (n := n) O hp hx (by omega) (by omega) (by omega)
    refine ⟨u2, wl2, _, s_beh hp.2.2.2.2.1 e, ?_, ef_fin he f, ?_⟩
    · dsimp only
      rw [lenA, ← Int.add_assoc]
      exact g
    · unfold MBd
      dsimp only
      rw [lenA, lenS, opC_0 bb.2.2.1 bb.2.1 (by omega), b0]
      omega
  · have hw : wh = true := hw
    subst hw
    dsimp only at hx hpt hs
    obtain ⟨hp, he, hb⟩ := h
    dsimp only at hp he
    unfold MBd at hb
    dsimp only at hb
    have i9 := tk_299 O (i := i) (fun g => by rw [g, pt_39] at hpt; exact absurd hpt (by decide))
    have po := pt_op (K := tK p i) (S := S) (by omega)
    have sd := sd_bd (l := 1) (S := S) (by decide)
    rw [b1] at hb
    obtain ⟨R', hr⟩ := sdr1_op S (by omega)
    have hy : y = opN S := by rw [hs] at hr; injection hr
    rw [hs, lenS, opC_1 (Or.inr (Or.inr (by omega)))] at sd
    obtain ⟨u2, wl2, e, g, f⟩ := h_part (d := d) (L := L) (T := T) (o := o) (n := n) O hp hx hpt hs (by omega) (by omega) (by omega)
    refine ⟨u2, wl2, _, s_beh hp.2.2.2.2.1 e, ?_, ef_fin he f, ?_⟩
    · dsimp only
      rw [lenA, ← Int.add_assoc]
      exact g
    · unfold MBd
      dsimp only
      rw [lenA, lenS, opC_1 (Or.inr (Or.inr (by omega))), b0]
      omega
  · have hw : wh = true := hw
    subst hw
    dsimp only at hx hpt hs
    obtain ⟨hp, he, hb⟩ := h
    dsimp only at hp he
    unfold MBd at hb
    dsimp only at hb
    have i9 := tk_299 O (i := i) (fun g => by rw [g, pt_39] at hpt; exact absurd hpt (by decide))
    have po := pt_op (K := tK p i) (S := S) (by omega)
    have sd := sd_bd (l := 1) (S := S) (by decide)
    have sd2 := sd_bd (l := 7) (S := R) (by decide)
    rw [b1] at hb
    obtain ⟨R', hr⟩ := sdr1_op S (by omega)
    have hy : y = opN S := by rw [hs] at hr; injection hr
    rw [hs, lenS, opC_1 (Or.inr (Or.inr (by omega)))] at sd
    have il : ((if y = 43 then [((3 : Int), (0 : Int))] else []).length : Int) ≤ 1 := by split <;> decide
    obtain ⟨u2, wl2, e, g, f⟩ := h_shut (d := d) (L := L) (T := T) (o := o) (n := n) O hp hx hpt hs (by omega) (by omega) (by omega)
    refine ⟨u2, wl2, _, s_beh hp.2.2.2.2.1 e, ?_, ef_fin he f, ?_⟩
    · dsimp only
      rw [lenA, ← Int.add_assoc]
      exact g
    · unfold MBd
      dsimp only
      rw [lenA, lenA, lenA, b1]
      omega
theorem s_starN (O : TpOk p) (hz : z = 0 ∨ z = 1) (hk0 : 0 ≤ k0) (hk1 : k0 ≤ i0) : ∀ (N : Nat) (s : MSt) (u wl : Nat → Int → Int) (jj : Option Value), MStN p z N s t → MHd p z q i0 k0 u0 wl0 s u wl → ∃ u2 wl2 jj2, am_run (d + 8) 302 (am_B 302 15) [some (.ref 393), jj] [] (L, T, S0 n, am_w u, am_wl wl, R0 o) = am_run (d + 8) 302 (am_B 302 15) [some (.ref 393), jj2] [] (L, T, S0 n, am_w u2, am_wl wl2, R0 o) ∧ MHd p z q i0 k0 u0 wl0 t u2 wl2
  | 0, s, u, wl, jj, st, h => by
    have st : s = t := st
    subst st
    exact ⟨u, wl, jj, rfl, h⟩
  | N + 1, s, u, wl, jj, st, h => by
    obtain ⟨m, h1, h2⟩ := st
    obtain ⟨u1, wl1, j1, e1, g1⟩ := s_step (d := d) (L := L) (T := T) (o := o) (n := n) (jj := jj) O hz hk0 hk1 h1 h
    obtain ⟨u2, wl2, j2, e2, g2⟩ := s_starN O hz hk0 hk1 N m u1 wl1 j1 h2 g1
    exact ⟨u2, wl2, j2, e1.trans e2, g2⟩
theorem s_star (O : TpOk p) (hz : z = 0 ∨ z = 1) (hk0 : 0 ≤ k0) (hk1 : k0 ≤ i0) (st : MStar p z s t) (u wl : Nat → Int → Int) (jj : Option Value) (h : MHd p z q i0 k0 u0 wl0 s u wl) : ∃ u2 wl2 jj2, am_run (d + 8) 302 (am_B 302 15) [some (.ref 393), jj] [] (L, T, S0 n, am_w u, am_wl wl, R0 o) = am_run (d + 8) 302 (am_B 302 15) [some (.ref 393), jj2] [] (L, T, S0 n, am_w u2, am_wl wl2, R0 o) ∧ MHd p z q i0 k0 u0 wl0 t u2 wl2 := by
  obtain ⟨N, st⟩ := st
  exact s_starN O hz hk0 hk1 N s u wl jj st h
theorem s_flt (O : TpOk p) (hz : z = 0 ∨ z = 1) (st : MFlt p z t c) (h : MHd p z q i0 k0 u0 wl0 t u wl) : am_run (d + 8) 302 (am_B 302 15) [some (.ref 393), jj] [] (L, T, S0 n, am_w u, am_wl wl, R0 o) = some (some (.int (iI c)), (L, T, S0 n, am_w u, am_wl wl, R0 o)) := by
  obtain ⟨i, S, wh, C⟩ := t
  rcases st with ⟨hw, ⟨hK, hN, rfl⟩ | ⟨hK, hN, rfl⟩ | ⟨h1, h2, h3, rfl⟩ | ⟨h1, h2, rfl⟩⟩ | ⟨hw, h1, h2, h3, rfl⟩
  · have hw : wh = false := hw
    subst hw
    exact s_begF h.1.2.2.2.2.1 (by decide) (by decide) (b_f2 (d := d + 1) O h.1 hK hN)
  · have hw : wh = false := hw
    subst hw
    exact s_begF h.1.2.2.2.2.1 (by decide) (by decide) (b_f5 (d := d + 1) O h.1 hz hK hN)
  · have hw : wh = false := hw
    subst hw
    exact s_begF h.1.2.2.2.2.1 (by decide) (by decide) (b_none (d := d + 1) O h.1 h1 h2 h3)
  · have hw : wh = false := hw
    subst hw
    have b := h.2.2.2.1
    dsimp only at b h2
    exact s_begF h.1.2.2.2.2.1 (by decide) (by decide) (b_open (d := d + 1) O h.1 h1 (m_openF (by rw [h.1.2.2.2.1]; dsimp only; omega)))
  · have hw : wh = true := hw
    subst hw
    have ok := opI_ok S h.1.2.1.2.1 h.1.2.1.2.2.2
    have h3 : 0 ≤ opN S := h3
    exact s_behF (x := opN S) h.1.2.2.2.2.1 h3 (by omega) (h_no (d := d) O h.1 h1 h2) (m_openNow (d := d + 6) h.1.2.1)
set_option maxHeartbeats 1000000 in
theorem s_start : am_call (d + 8) 302 [.ref 393] (L, T, S0 n, am_w u, am_wl wl, R0 o) = am_run (d + 8) 302 (am_B 302 15) [some (.ref 393), none] [] (L, T, S0 n, am_w (upI (upI (upI u 393 16 0) 393 17 0) 393 18 0), am_wl wl, R0 o) := by
  simp (decide := true) (disch := omega) only [en_302, bk_302_0, bk_302_32, bk_302_41, bk_302_48, bk_302_59, bq_302_0, bq_302_15, bq_302_32, bq_302_41, bq_302_48, bq_302_59, rn_iconst, rn_bipush, rn_sipush, rn_ldc_w, rn_ldc, rn_ldcS, rn_lconst, rn_ldc2, rn_gets, rn_iload0, rn_lload0, rn_aload0, rn_istore0, rn_astore0, rn_lstore0, rn_iinc0, rn_iload1, rn_lload1, rn_aload1, rn_istore1, rn_astore1, rn_lstore1, rn_iinc1, rn_iload2, rn_lload2, rn_aload2, rn_istore2, rn_astore2, rn_lstore2, rn_iinc2, rn_iload3, rn_lload3, rn_aload3, rn_istore3, rn_astore3, rn_lstore3, rn_iinc3, rn_iload4, rn_lload4, rn_aload4, rn_istore4, rn_astore4, rn_lstore4, rn_iinc4, rn_iload5, rn_lload5, rn_aload5, rn_istore5, rn_astore5, rn_lstore5, rn_iinc5, rn_iload6, rn_lload6, rn_aload6, rn_istore6, rn_astore6, rn_lstore6, rn_iinc6, rn_iload7, rn_aload7, rn_istore7, rn_astore7, rn_iinc7, rn_iload8, rn_aload8, rn_istore8, rn_astore8, rn_iinc8, rn_iload9, rn_aload9, rn_istore9, rn_astore9, rn_iinc9, rn_iadd, rn_isub, rn_imul, rn_iand, rn_ior, rn_ixor, rn_ishl, rn_ishr, rn_iushr, rn_idiv, rn_irem, rn_ineg, rn_ladd, rn_lsub, rn_lmul, rn_lor, rn_ldiv, rn_lrem, rn_lneg, rn_lshl, rn_lshr, rn_i2l, rn_l2i, rn_i2c, rn_lcmp, rn_dupi, rn_dupa, rn_popi, rn_popa, rn_dup2, rn_aast, rn_alen, rn_geta, rn_aald, rn_puta, rn_new, rn_newa, rn_anew, rn_min, rn_max, rn_slen, rn_chat, rn_indx, rn_objI, rn_nop, rn_goto, rn_ifeq, rn_ifne, rn_iflt, rn_ifge, rn_ifgt, rn_ifle, rn_iceq, rn_icne, rn_iclt, rn_icge, rn_icgt, rn_icle, rn_tsw, rn_lsw, rn_iret, rn_zret, rn_lret, rn_aret, rn_vret, rn_cs0, rn_cs1, rn_cs2, rn_cs3, rn_cs4, rn_cs5, rn_cs6, rn_cs7, rn_cv1, rn_ci1, rn_cv2, rn_ci2, rn_cv3, rn_ci3, rn_cv4, rn_cv5, rn_cv6, rn_cv7, cs_n, cs_i, cs_a, cs_l, rc_i, rc_a, rc_l, rc_n, rw_iald, rw_bald, rw_lald, rw_iast, rw_bast, rw_last, rw_geti, rw_getl, rw_puti, rw_putz, rw_putl, iI_add, iI_sub, iI_mul, iI_neg, iI_lt, iI_le, iI_eq, iI_lt0, iI_le0, iI_0lt, iI_0le, iI_eq0, iI_eq1, iI_div, iI_rem, am_in_ok, am_in_no, iI_toInt, iL_add, iL_sub, iL_mul, iL_neg, iL_div, iL_rem, iI_i2l, iL_l2i, iL_cmp, iL_eq0, iI_or, iI_and, iI_shl, if_true, if_false, true_or, or_true, true_and, and_true, false_or, or_false, not_true_eq_false, not_false_eq_true, Option.bind_some, Option.toList_some, Option.toList_none, List.nil_append, List.cons_append, ite_self, nc_0, nc_1, nc_2, nc_3, nc_4, nc_5, nc_6, nc_7, nc_8, nc_9, nc_10, nc_11, nc_12, nc_13, nc_14, nc_15, nc_16, nc_17, nc_18, nc_19, nc_20, nc_21, nc_22, nc_23, nc_24, nc_25, nc_26, nc_27, nc_28, nc_29, nc_30, nc_31, nc_32, nc_33, nc_34, nc_35, nc_36, nc_40, nc_48, nc_100, nc_256, nc_300, nc_304, sh_393, rf_393_0, rf_393_1, rf_393_2, rf_393_3, rf_393_15, rf_393_20, rf_393_21, rf_393_22, rf_393_27, rf_393_28, rf_393_29, rf_393_30, rf_393_34, if_pos, if_neg, sh_0, sh_393, rw_copy, am_cp_ok]
/-- the model's sum is the language's -/
theorem m_summed (O : TpOk p) (hz : z = 0 ∨ z = 1) (H : MTk u wl p i) (W : MWr u q k0) (hS : u 393 14 = z) (hi : i ≤ 300) (hk : k0 ≤ i) : ∃ u2 wl2, am_call (d + 8) 302 [.ref 393] (L, T, S0 n, am_w u, am_wl wl, R0 o) = some (some (.int (iI (pP p z 3000 3 i 0 V0 B0).1)), (L, T, S0 n, am_w u2, am_wl wl2, R0 o)) ∧ MRf u u2 wl wl2 ∧ (∀ y, y < 681 * q + 73 + 2 * k0 → u2 396 y = u 396 y) ∧ MTk u2 wl2 p (pP p z 3000 3 i 0 V0 B0).2.1 ∧ ∃ C : List (Int × Int), MWr u2 q (k0 + C.length) ∧ k0 + C.length ≤ 300 ∧ ((pP p z 3000 3 i 0 V0 B0).1 = 0 → (i < (pP p z 3000 3 i 0 V0 B0).2.1 ∧ (pP p z 3000 3 i 0 V0 B0).2.1 ≤ 300) ∧ k0 + C.length ≤ (pP p z 3000 3 i 0 V0 B0).2.1 ∧ Hol (cC u2 q) (cV u2 q) k0 C ∧ LSeg z C (pP p z 3000 3 i 0 V0 B0).2.2.1) := by
  obtain ⟨ms, n9⟩ := ms_sum O hz hi
  have W0 := W.2.2.2.2
  have W1 := W.2.2.2.1
  generalize pP p z 3000 3 i 0 V0 B0 = a at *
  have h0 : MHd p z q i k0 u wl (i, [], false, []) (upI (upI (upI u 393 16 0) 393 17 0) 393 18 0) wl := by
    have f1 : ∀ b, b ≠ 393 → upI (upI (upI u 393 16 0) 393 17 0) 393 18 0 b = u b := fun b h1 => by rw [upI_c h1, upI_c h1, upI_c h1]
    have f2 : ∀ y, y ≠ 16 → y ≠ 17 → y ≠ 18 → upI (upI (upI u 393 16 0) 393 17 0) 393 18 0 393 y = u 393 y := fun y h1 h2 h3 => by rw [upI_2 h3, upI_2 h2, upI_2 h1]
    refine ⟨⟨H.keep (f1 397 (by decide)) (fun y hy => f2 y (by omega) (by omega) (by omega)) rfl, ⟨by rw [upI_2 (by decide), upI_2 (by decide), upI_s]; rfl, trivial, by show (0 : Nat) ≤ 160; decide, trivial⟩, ?_, by rw [upI_2 (by decide), upI_s]; rfl, upI_s, (f2 14 (by decide) (by decide) (by decide)).trans hS⟩, ⟨trivial, fun y _ => by rw [f1 396 (by decide)], fun b h1 _ _ => f1 b h1, fun y _ _ h3 h4 h5 => f2 y h3 h4 h5, fun _ _ => rfl, fun _ _ => rfl⟩, ?_⟩
    · show MWr _ q (k0 + 0)
      rw [Int.add_zero]
      exact W.keep (f2 12 (by decide) (by decide) (by decide)) (f2 13 (by decide) (by decide) (by decide))
    · refine ⟨⟨Nat.le_refl i, hi⟩, by show (0 : Int) ≤ 8; decide, ?_, ?_⟩
      · show (0 : Int) + 0 ≤ (i : Int) - i + 0
        omega
      · show (0 : Int) + 0 ≤ (i : Int) - i
        omega
  rw [s_start]
  by_cases a0 : a.1 = 0
  · obtain ⟨P, C, g1, g2, g3, g4⟩ := ms.1 a0
    obtain ⟨u1, wl1, j1, e1, hp, he, hb⟩ := s_star (d := d) (L := L) (T := T) (o := o) (n := n) O hz W0 hk g1 _ _ none h0
    dsimp only at hp he
    unfold MBd at hb
    dsimp only at hb
    rw [List.append_nil, List.nil_append] at hp hb
    rw [List.nil_append] at he
    have pp : ∀ x, x ∈ P → 1 ≤ rkO x := fun x hx => by have := g2 x hx; omega
    have on := opN_app (S := []) P pp
    have sa := st_app (S := []) pp rfl
    rw [List.append_nil] at on sa
    have on1 : opN P = -1 := on
    have bt := n4_bt (S := P) g4 (by rw [on1]; decide)
    have pt : ptO (tK p a.2.1) P = -1 := by unfold ptO; rw [on1]; rfl
    have e2 := h_no (d := d) (L := L) (T := T) (o := o) (n := n) O hp (by rw [bt]; decide) (by rw [pt]; decide)
    have e3 := m_openNow (d := d + 6) (L := L) (T := T) (o := o) (n := n) (v := am_wl wl1) hp.2.1
    rw [on1] at e3
    have b1 : bI (true = true) = 1 := rfl
    rw [b1] at hb
    obtain ⟨u2, e4, g5, f5⟩ := m_st (d := d + 6) (L := L) (T := T) (o := o) (n := n) (l := 1) hp (by omega) (by decide) (by decide) (by omega)
    rw [sa.1, sa.2] at g5
    rw [sa.1] at f5
    have ef := ef_fin he f5
    have el : ((C ++ em0 P).length : Int) = C.length + (em0 P).length := lenA
    have el2 : ((em0 P).length : Int) = P.length := by unfold em0; rw [List.length_map]
    refine ⟨u2, wl1, by rw [e1, a0]; exact s_end hp.2.2.2.2.1 e2 e3 e4, ef.2.2, ef.2.1, g5.1, C ++ em0 P, ?_, by omega, fun _ => ⟨n9.2 a0, by omega, ef.1, g3⟩⟩
    rw [el, ← Int.add_assoc]
    exact g5.2.2.1
  · rcases ms.2 a0 with g | ⟨t, g1, g2, g3⟩
    · exact absurd g n9.1
    · obtain ⟨u1, wl1, j1, e1, hh⟩ := s_star (d := d) (L := L) (T := T) (o := o) (n := n) O hz W0 hk g1 _ _ none h0
      have hb := hh.2.2
      unfold MBd at hb
      refine ⟨u1, wl1, by rw [e1]; exact s_flt O hz g2 hh, hh.2.1.2.2, hh.2.1.2.1, by rw [← g3]; exact hh.1.1, t.2.2.2, hh.1.2.2.1, by omega, fun h => absurd h a0⟩
end SS
