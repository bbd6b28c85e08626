section IW
variable {d n T : Nat} {G : Msk} {z : Nat → Int → Int}
theorem past_1 : ∀ i : Fin 30, R0 353 7 i.val = some (21 + 5 * i.val) ∧ W0 7 (i.val : Int) = 0 := by decide +kernel
theorem hous_1 : ∀ i : Fin 8, R0 353 18 i.val = none ∧ W0 18 (i.val : Int) = (i.val : Int) := by decide +kernel
set_option maxHeartbeats 2000000 in
theorem w1_1 : ∀ (j i : Nat) (T : Nat) (G : Msk), i + j = 30 → G 1 1 = true → ∃ G2, am_run (d + 1) 117 (am_B 117 105) [some (.ref 1), some (.int (iI (i : Int)))] [] (MG n (21 + 5 * i) T G z) = am_run (d + 1) 117 (am_B 117 130) [some (.ref 1), some (.int (iI 30))] [] (MG n (21 + 5 * 30) (T + 196 * j) G2 z) ∧ (∀ a, a ≠ 7 → (a < 21 + 5 * i ∨ 171 ≤ a) → G2 a = G a) ∧ (∀ a, 21 + 5 * i ≤ a → a < 171 → fin G2 a) ∧ (∀ k : Int, (0 ≤ k → k < i → G 7 k = true) → (i ≤ k ∨ (0 ≤ k ∧ k < i)) → k < 30 → G2 7 k = true)
  | 0, i, T, G, hj, hg => by
    obtain rfl : i = 30 := by omega
    refine ⟨G, ?_, fun _ _ _ => rfl, fun a h1 h2 => absurd h2 (by omega), fun k h1 h2 h3 => h1 (by omega) (by omega)⟩
    conv => lhs; rw [bk_117_105]
    simp (decide := true) (disch := (first | omega | assumption | decide | rfl)) only [en_117, bk_117_0, bk_117_132, bk_117_151, bq_117_0, bq_117_105, bq_117_130, bq_117_132, bq_117_151, rn_iconst, rn_bipush, rn_sipush, rn_ldc_w, rn_ldc, rn_ldcS, rn_lconst, rn_ldc2, rn_gets, rn_iload0, rn_lload0, rn_aload0, rn_istore0, rn_astore0, rn_lstore0, rn_iinc0, rn_iload1, rn_lload1, rn_aload1, rn_istore1, rn_astore1, rn_lstore1, rn_iinc1, rn_iload2, rn_lload2, rn_aload2, rn_istore2, rn_astore2, rn_lstore2, rn_iinc2, rn_iload3, rn_lload3, rn_aload3, rn_istore3, rn_astore3, rn_lstore3, rn_iinc3, rn_iload4, rn_lload4, rn_aload4, rn_istore4, rn_astore4, rn_lstore4, rn_iinc4, rn_iload5, rn_lload5, rn_aload5, rn_istore5, rn_astore5, rn_lstore5, rn_iinc5, rn_iload6, rn_lload6, rn_aload6, rn_istore6, rn_astore6, rn_lstore6, rn_iinc6, rn_iload7, rn_aload7, rn_istore7, rn_astore7, rn_iinc7, rn_iload8, rn_aload8, rn_istore8, rn_astore8, rn_iinc8, rn_iload9, rn_aload9, rn_istore9, rn_astore9, rn_iinc9, rn_iadd, rn_isub, rn_imul, rn_iand, rn_ior, rn_ixor, rn_ishl, rn_ishr, rn_iushr, rn_idiv, rn_irem, rn_ineg, rn_ladd, rn_lsub, rn_lmul, rn_lor, rn_ldiv, rn_lrem, rn_lneg, rn_lshl, rn_lshr, rn_i2l, rn_l2i, rn_i2c, rn_lcmp, rn_dupi, rn_dupa, rn_popi, rn_popa, rn_dup2, rn_alen, rn_geta, rn_aald, rn_min, rn_max, rn_slen, rn_chat, rn_indx, rn_objI, rn_nop, rn_goto, rn_ifeq, rn_ifne, rn_iflt, rn_ifge, rn_ifgt, rn_ifle, rn_iceq, rn_icne, rn_iclt, rn_icge, rn_icgt, rn_icle, rn_tsw, rn_lsw, rn_iret, rn_zret, rn_lret, rn_aret, rn_vret, rn_cs0, rn_cs1, rn_cs2, rn_cs3, rn_cs4, rn_cs5, rn_cs6, rn_cs7, rn_cv1, rn_ci1, rn_cv2, rn_ci2, rn_cv3, rn_ci3, rn_cv4, rn_cv5, rn_cv6, rn_cv7, cs_n, cs_i, cs_a, cs_l, rc_i, rc_a, rc_l, rc_n, rw_iald, rw_bald, rw_lald, rw_bast, rw_last, rw_geti, rw_getl, rw_putl, iI_add, iI_sub, iI_mul, iI_neg, iI_lt, iI_le, iI_eq, iI_lt0, iI_le0, iI_0lt, iI_0le, iI_eq0, iI_eq1, iI_div, iI_rem, am_in_ok, am_in_no, iI_toInt, iL_add, iL_sub, iL_mul, iL_neg, iL_div, iL_rem, iI_i2l, iL_l2i, iL_cmp, iL_eq0, iI_or, iI_and, iI_shl, if_true, if_false, true_or, or_true, true_and, and_true, false_or, or_false, not_true_eq_false, not_false_eq_true, Option.bind_some, Option.toList_some, Option.toList_none, List.nil_append, List.cons_append, ite_self, nc_0, nc_1, nc_2, nc_3, nc_4, nc_5, nc_6, nc_7, nc_8, nc_9, nc_10, nc_11, nc_12, nc_13, nc_14, nc_15, nc_16, nc_17, nc_18, nc_19, nc_20, nc_21, nc_22, nc_23, nc_24, nc_25, nc_26, nc_27, nc_28, nc_29, nc_30, nc_31, nc_32, nc_33, nc_34, nc_35, nc_36, nc_40, nc_48, nc_100, nc_256, nc_300, nc_304, gn_new, gn_newa, gn_anew, gn_puti, gn_putz, gn_puta, gn_rg, gn_iast, gn_aast, SM_lt, gN_o, gU_s, gU_1, gU_2, Int.reduceToNat, Nat.reduceAdd, Int.reduceMul, Nat.mul_zero, Nat.add_zero, nc_30, if_pos, if_neg, sh_0, sh_393, rw_copy, am_cp_ok]
  | j + 1, i, T, G, hj, hg => by
    have tf := tbf_now ⟨i, by omega⟩
    have pf := past_1 ⟨i, by omega⟩
    dsimp only at tf pf
    obtain ⟨G1, e1, f1, fn1⟩ := i_Table (d := d) (n := n) (t := 21 + 5 * i) (T := T + 8) (G := gN G (21 + 5 * i)) (z := z) tf
    have g1 : G1 1 1 = true := by rw [f1 1 (by omega), gN_o (by omega)]; exact hg
    obtain ⟨G2, e2, f2, fn2, p2⟩ := w1_1 j (i + 1) (T + 8 + 40 + 40 + 8 + 100) (gU G1 7 (i : Int)) (by omega) (by rw [gU_1 (by decide)]; exact g1)
    refine ⟨G2, Eq.trans ?_ (Eq.trans e2 ?_), ?_, ?_, ?_⟩
    · conv => lhs; rw [bk_117_105]
      have s0 := tf.1.1
      have a0 : 21 + 5 * (i + 1) = 21 + 5 * i + 1 + 1 + 1 + 1 + 1 := by omega
      have i30 : ¬ (30 : Int) ≤ (i : Int) := by omega
      have i0 : (0 : Int) ≤ (i : Int) := by omega
      have im : (i : Int) < ((shl.getD 7 (999, 0)).2 : Int) := by show (i : Int) < 30; omega
      have pv : R0 353 7 ((i : Int)).toNat = some (21 + 5 * i) := by rw [Int.toNat_natCast]; exact pf.1
      have pw0 : W0 7 (i : Int) = 0 := pf.2
      have hs : ((shl.getD 7 (999, 0)).1 = 3 ∧ shl.getD (21 + 5 * i) (999, 0) = (18, 0)) ∨ ((shl.getD 7 (999, 0)).1 = 4 ∧ shl.getD (21 + 5 * i) (999, 0) = (17, 0)) := Or.inl ⟨by decide, s0⟩
      have sl : 21 + 5 * i + 5 ≤ 407 := tf.2.2.2.2
      have ci : (((i + 1 : Nat)) : Int) = (i : Int) + 1 := by omega
      rw [a0, ci]
      dsimp only [MG] at e1 ⊢
      clear e2 f2 fn2 p2 tf pf
      simp (decide := true) (disch := (first | omega | assumption | decide | rfl)) only [en_117, bk_117_0, bk_117_132, bk_117_151, bq_117_0, bq_117_105, bq_117_130, bq_117_132, bq_117_151, rn_iconst, rn_bipush, rn_sipush, rn_ldc_w, rn_ldc, rn_ldcS, rn_lconst, rn_ldc2, rn_gets, rn_iload0, rn_lload0, rn_aload0, rn_istore0, rn_astore0, rn_lstore0, rn_iinc0, rn_iload1, rn_lload1, rn_aload1, rn_istore1, rn_astore1, rn_lstore1, rn_iinc1, rn_iload2, rn_lload2, rn_aload2, rn_istore2, rn_astore2, rn_lstore2, rn_iinc2, rn_iload3, rn_lload3, rn_aload3, rn_istore3, rn_astore3, rn_lstore3, rn_iinc3, rn_iload4, rn_lload4, rn_aload4, rn_istore4, rn_astore4, rn_lstore4, rn_iinc4, rn_iload5, rn_lload5, rn_aload5, rn_istore5, rn_astore5, rn_lstore5, rn_iinc5, rn_iload6, rn_lload6, rn_aload6, rn_istore6, rn_astore6, rn_lstore6, rn_iinc6, rn_iload7, rn_aload7, rn_istore7, rn_astore7, rn_iinc7, rn_iload8, rn_aload8, rn_istore8, rn_astore8, rn_iinc8, rn_iload9, rn_aload9, rn_istore9, rn_astore9, rn_iinc9, rn_iadd, rn_isub, rn_imul, rn_iand, rn_ior, rn_ixor, rn_ishl, rn_ishr, rn_iushr, rn_idiv, rn_irem, rn_ineg, rn_ladd, rn_lsub, rn_lmul, rn_lor, rn_ldiv, rn_lrem, rn_lneg, rn_lshl, rn_lshr, rn_i2l, rn_l2i, rn_i2c, rn_lcmp, rn_dupi, rn_dupa, rn_popi, rn_popa, rn_dup2, rn_alen, rn_geta, rn_aald, rn_min, rn_max, rn_slen, rn_chat, rn_indx, rn_objI, rn_nop, rn_goto, rn_ifeq, rn_ifne, rn_iflt, rn_ifge, rn_ifgt, rn_ifle, rn_iceq, rn_icne, rn_iclt, rn_icge, rn_icgt, rn_icle, rn_tsw, rn_lsw, rn_iret, rn_zret, rn_lret, rn_aret, rn_vret, rn_cs0, rn_cs1, rn_cs2, rn_cs3, rn_cs4, rn_cs5, rn_cs6, rn_cs7, rn_cv1, rn_ci1, rn_cv2, rn_ci2, rn_cv3, rn_ci3, rn_cv4, rn_cv5, rn_cv6, rn_cv7, cs_n, cs_i, cs_a, cs_l, rc_i, rc_a, rc_l, rc_n, rw_iald, rw_bald, rw_lald, rw_bast, rw_last, rw_geti, rw_getl, rw_putl, iI_add, iI_sub, iI_mul, iI_neg, iI_lt, iI_le, iI_eq, iI_lt0, iI_le0, iI_0lt, iI_0le, iI_eq0, iI_eq1, iI_div, iI_rem, am_in_ok, am_in_no, iI_toInt, iL_add, iL_sub, iL_mul, iL_neg, iL_div, iL_rem, iI_i2l, iL_l2i, iL_cmp, iL_eq0, iI_or, iI_and, iI_shl, if_true, if_false, true_or, or_true, true_and, and_true, false_or, or_false, not_true_eq_false, not_false_eq_true, Option.bind_some, Option.toList_some, Option.toList_none, List.nil_append, List.cons_append, ite_self, nc_0, nc_1, nc_2, nc_3, nc_4, nc_5, nc_6, nc_7, nc_8, nc_9, nc_10, nc_11, nc_12, nc_13, nc_14, nc_15, nc_16, nc_17, nc_18, nc_19, nc_20, nc_21, nc_22, nc_23, nc_24, nc_25, nc_26, nc_27, nc_28, nc_29, nc_30, nc_31, nc_32, nc_33, nc_34, nc_35, nc_36, nc_40, nc_48, nc_100, nc_256, nc_300, nc_304, gn_new, gn_newa, gn_anew, gn_puti, gn_putz, gn_puta, gn_rg, gn_iast, gn_aast, SM_lt, gN_o, gU_s, gU_1, gU_2, Int.reduceToNat, Nat.reduceAdd, Int.reduceMul, sh_1, rf_1_0, rf_1_1, rf_1_4, rf_1_7, rf_1_8, rf_1_9, rf_1_10, rf_1_11, rf_1_12, hg, i30, s0, e1, g1, hs, pv, pw0, mx_118, if_pos, if_neg, sh_0, sh_393, rw_copy, am_cp_ok]
    · rw [show T + 8 + 40 + 40 + 8 + 100 + 196 * j = T + 196 * (j + 1) by omega]
    · intro a h1 h2
      rw [f2 a h1 (by omega)]
      funext k
      rw [gU_1 h1, f1 a (by omega), gN_o (by omega)]
    · intro a h1 h2
      by_cases c : a < 21 + 5 * (i + 1)
      · have := fn1 a h1 (by omega)
        refine fin_eq this ?_
        rw [f2 a (by omega) (by omega)]
        funext k
        rw [gU_1 (by omega)]
      · exact fn2 a (by omega) h2
    · intro k h1 h2 h3
      refine p2 k (fun k0 k1 => ?_) (by omega) h3
      by_cases c : k = (i : Int)
      · rw [c]; exact gU_s
      · rw [gU_2 c, f1 7 (by omega), gN_o (by omega)]
        exact h1 k0 (by omega)
set_option maxHeartbeats 2000000 in
theorem w2_1 : ∀ (j i : Nat) (G : Msk), i + j = 8 → G 1 10 = true → ∃ G2, am_run (d + 1) 117 (am_B 117 132) [some (.ref 1), some (.int (iI (i : Int)))] [] (MG n 171 T G z) = some (none, MG n 171 T G2 z) ∧ (∀ a, a ≠ 18 → G2 a = G a) ∧ (∀ k : Int, (0 ≤ k → k < i → G 18 k = true) → 0 ≤ k → k < 8 → G2 18 k = true)
  | 0, i, G, hj, hg => by
    obtain rfl : i = 8 := by omega
    refine ⟨G, ?_, fun _ _ => rfl, fun k h1 h2 h3 => h1 h2 (by omega)⟩
    conv => lhs; rw [bk_117_132]
    simp (decide := true) (disch := (first | omega | assumption | decide | rfl)) only [en_117, bk_117_0, bk_117_105, bk_117_130, bk_117_151, bq_117_0, bq_117_105, bq_117_130, bq_117_132, bq_117_151, rn_iconst, rn_bipush, rn_sipush, rn_ldc_w, rn_ldc, rn_ldcS, rn_lconst, rn_ldc2, rn_gets, rn_iload0, rn_lload0, rn_aload0, rn_istore0, rn_astore0, rn_lstore0, rn_iinc0, rn_iload1, rn_lload1, rn_aload1, rn_istore1, rn_astore1, rn_lstore1, rn_iinc1, rn_iload2, rn_lload2, rn_aload2, rn_istore2, rn_astore2, rn_lstore2, rn_iinc2, rn_iload3, rn_lload3, rn_aload3, rn_istore3, rn_astore3, rn_lstore3, rn_iinc3, rn_iload4, rn_lload4, rn_aload4, rn_istore4, rn_astore4, rn_lstore4, rn_iinc4, rn_iload5, rn_lload5, rn_aload5, rn_istore5, rn_astore5, rn_lstore5, rn_iinc5, rn_iload6, rn_lload6, rn_aload6, rn_istore6, rn_astore6, rn_lstore6, rn_iinc6, rn_iload7, rn_aload7, rn_istore7, rn_astore7, rn_iinc7, rn_iload8, rn_aload8, rn_istore8, rn_astore8, rn_iinc8, rn_iload9, rn_aload9, rn_istore9, rn_astore9, rn_iinc9, rn_iadd, rn_isub, rn_imul, rn_iand, rn_ior, rn_ixor, rn_ishl, rn_ishr, rn_iushr, rn_idiv, rn_irem, rn_ineg, rn_ladd, rn_lsub, rn_lmul, rn_lor, rn_ldiv, rn_lrem, rn_lneg, rn_lshl, rn_lshr, rn_i2l, rn_l2i, rn_i2c, rn_lcmp, rn_dupi, rn_dupa, rn_popi, rn_popa, rn_dup2, rn_alen, rn_geta, rn_aald, rn_min, rn_max, rn_slen, rn_chat, rn_indx, rn_objI, rn_nop, rn_goto, rn_ifeq, rn_ifne, rn_iflt, rn_ifge, rn_ifgt, rn_ifle, rn_iceq, rn_icne, rn_iclt, rn_icge, rn_icgt, rn_icle, rn_tsw, rn_lsw, rn_iret, rn_zret, rn_lret, rn_aret, rn_vret, rn_cs0, rn_cs1, rn_cs2, rn_cs3, rn_cs4, rn_cs5, rn_cs6, rn_cs7, rn_cv1, rn_ci1, rn_cv2, rn_ci2, rn_cv3, rn_ci3, rn_cv4, rn_cv5, rn_cv6, rn_cv7, cs_n, cs_i, cs_a, cs_l, rc_i, rc_a, rc_l, rc_n, rw_iald, rw_bald, rw_lald, rw_bast, rw_last, rw_geti, rw_getl, rw_putl, iI_add, iI_sub, iI_mul, iI_neg, iI_lt, iI_le, iI_eq, iI_lt0, iI_le0, iI_0lt, iI_0le, iI_eq0, iI_eq1, iI_div, iI_rem, am_in_ok, am_in_no, iI_toInt, iL_add, iL_sub, iL_mul, iL_neg, iL_div, iL_rem, iI_i2l, iL_l2i, iL_cmp, iL_eq0, iI_or, iI_and, iI_shl, if_true, if_false, true_or, or_true, true_and, and_true, false_or, or_false, not_true_eq_false, not_false_eq_true, Option.bind_some, Option.toList_some, Option.toList_none, List.nil_append, List.cons_append, ite_self, nc_0, nc_1, nc_2, nc_3, nc_4, nc_5, nc_6, nc_7, nc_8, nc_9, nc_10, nc_11, nc_12, nc_13, nc_14, nc_15, nc_16, nc_17, nc_18, nc_19, nc_20, nc_21, nc_22, nc_23, nc_24, nc_25, nc_26, nc_27, nc_28, nc_29, nc_30, nc_31, nc_32, nc_33, nc_34, nc_35, nc_36, nc_40, nc_48, nc_100, nc_256, nc_300, nc_304, gn_new, gn_newa, gn_anew, gn_puti, gn_putz, gn_puta, gn_rg, gn_iast, gn_aast, SM_lt, gN_o, gU_s, gU_1, gU_2, Int.reduceToNat, Nat.reduceAdd, Int.reduceMul, nc_8, if_pos, if_neg, sh_0, sh_393, rw_copy, am_cp_ok]
  | j + 1, i, G, hj, hg => by
    have hf := hous_1 ⟨i, by omega⟩
    dsimp only at hf
    obtain ⟨G2, e2, f2, p2⟩ := w2_1 j (i + 1) (gU G 18 (i : Int)) (by omega) (by rw [gU_1 (by decide)]; exact hg)
    refine ⟨G2, Eq.trans ?_ e2, fun a h1 => by rw [f2 a h1]; funext k; exact gU_1 h1, fun k h1 h2 h3 => p2 k (fun k0 k1 => ?_) h2 h3⟩
    · conv => lhs; rw [bk_117_132]
      have i8 : ¬ (8 : Int) ≤ (i : Int) := by omega
      have i0 : (0 : Int) ≤ (i : Int) := by omega
      have im : (i : Int) < ((shl.getD 18 (999, 0)).2 : Int) := by show (i : Int) < 8; omega
      have pv : R0 353 18 ((i : Int)).toNat = none := by rw [Int.toNat_natCast]; exact hf.1
      have pw0 : W0 18 (i : Int) = (i : Int) := hf.2
      have ci : (((i + 1 : Nat)) : Int) = (i : Int) + 1 := by omega
      rw [ci]
      clear e2 f2 p2 hf
      simp (decide := true) (disch := (first | omega | assumption | decide | rfl)) only [en_117, bk_117_0, bk_117_105, bk_117_130, bk_117_151, bq_117_0, bq_117_105, bq_117_130, bq_117_132, bq_117_151, rn_iconst, rn_bipush, rn_sipush, rn_ldc_w, rn_ldc, rn_ldcS, rn_lconst, rn_ldc2, rn_gets, rn_iload0, rn_lload0, rn_aload0, rn_istore0, rn_astore0, rn_lstore0, rn_iinc0, rn_iload1, rn_lload1, rn_aload1, rn_istore1, rn_astore1, rn_lstore1, rn_iinc1, rn_iload2, rn_lload2, rn_aload2, rn_istore2, rn_astore2, rn_lstore2, rn_iinc2, rn_iload3, rn_lload3, rn_aload3, rn_istore3, rn_astore3, rn_lstore3, rn_iinc3, rn_iload4, rn_lload4, rn_aload4, rn_istore4, rn_astore4, rn_lstore4, rn_iinc4, rn_iload5, rn_lload5, rn_aload5, rn_istore5, rn_astore5, rn_lstore5, rn_iinc5, rn_iload6, rn_lload6, rn_aload6, rn_istore6, rn_astore6, rn_lstore6, rn_iinc6, rn_iload7, rn_aload7, rn_istore7, rn_astore7, rn_iinc7, rn_iload8, rn_aload8, rn_istore8, rn_astore8, rn_iinc8, rn_iload9, rn_aload9, rn_istore9, rn_astore9, rn_iinc9, rn_iadd, rn_isub, rn_imul, rn_iand, rn_ior, rn_ixor, rn_ishl, rn_ishr, rn_iushr, rn_idiv, rn_irem, rn_ineg, rn_ladd, rn_lsub, rn_lmul, rn_lor, rn_ldiv, rn_lrem, rn_lneg, rn_lshl, rn_lshr, rn_i2l, rn_l2i, rn_i2c, rn_lcmp, rn_dupi, rn_dupa, rn_popi, rn_popa, rn_dup2, rn_alen, rn_geta, rn_aald, rn_min, rn_max, rn_slen, rn_chat, rn_indx, rn_objI, rn_nop, rn_goto, rn_ifeq, rn_ifne, rn_iflt, rn_ifge, rn_ifgt, rn_ifle, rn_iceq, rn_icne, rn_iclt, rn_icge, rn_icgt, rn_icle, rn_tsw, rn_lsw, rn_iret, rn_zret, rn_lret, rn_aret, rn_vret, rn_cs0, rn_cs1, rn_cs2, rn_cs3, rn_cs4, rn_cs5, rn_cs6, rn_cs7, rn_cv1, rn_ci1, rn_cv2, rn_ci2, rn_cv3, rn_ci3, rn_cv4, rn_cv5, rn_cv6, rn_cv7, cs_n, cs_i, cs_a, cs_l, rc_i, rc_a, rc_l, rc_n, rw_iald, rw_bald, rw_lald, rw_bast, rw_last, rw_geti, rw_getl, rw_putl, iI_add, iI_sub, iI_mul, iI_neg, iI_lt, iI_le, iI_eq, iI_lt0, iI_le0, iI_0lt, iI_0le, iI_eq0, iI_eq1, iI_div, iI_rem, am_in_ok, am_in_no, iI_toInt, iL_add, iL_sub, iL_mul, iL_neg, iL_div, iL_rem, iI_i2l, iL_l2i, iL_cmp, iL_eq0, iI_or, iI_and, iI_shl, if_true, if_false, true_or, or_true, true_and, and_true, false_or, or_false, not_true_eq_false, not_false_eq_true, Option.bind_some, Option.toList_some, Option.toList_none, List.nil_append, List.cons_append, ite_self, nc_0, nc_1, nc_2, nc_3, nc_4, nc_5, nc_6, nc_7, nc_8, nc_9, nc_10, nc_11, nc_12, nc_13, nc_14, nc_15, nc_16, nc_17, nc_18, nc_19, nc_20, nc_21, nc_22, nc_23, nc_24, nc_25, nc_26, nc_27, nc_28, nc_29, nc_30, nc_31, nc_32, nc_33, nc_34, nc_35, nc_36, nc_40, nc_48, nc_100, nc_256, nc_300, nc_304, gn_new, gn_newa, gn_anew, gn_puti, gn_putz, gn_puta, gn_rg, gn_iast, gn_aast, SM_lt, gN_o, gU_s, gU_1, gU_2, Int.reduceToNat, Nat.reduceAdd, Int.reduceMul, sh_1, rf_1_0, rf_1_1, rf_1_4, rf_1_7, rf_1_8, rf_1_9, rf_1_10, rf_1_11, rf_1_12, hg, i8, pv, pw0, if_pos, if_neg, sh_0, sh_393, rw_copy, am_cp_ok]
    · by_cases c : k = (i : Int)
      · rw [c]; exact gU_s
      · rw [gU_2 c]; exact h1 k0 (by omega)
set_option maxHeartbeats 4000000 in
theorem i_World_1 : ∃ G2, am_call (d + 1) 117 [.ref 1] (MG n 2 T G z) = some (none, MG n 171 (T + 8 + 40 + 40 + 8 + 100 + 30 + 4 + 6 + 6 + 36 + 3 + 18 + 3 + 24 + 3 + 24 + 8 + 8 + 8 + 196 * 30) G2 z) ∧ (∀ a, (a < 1 ∨ 171 ≤ a) → G2 a = G a) ∧ (∀ a, 1 ≤ a → a < 171 → fin G2 a) := by
  obtain ⟨G1, e1, f1, n1⟩ := i_Table (t := 2) (d := d) (n := n) (T := T + 8) (G := (gN G 2)) (z := z) tbf_2
  dsimp only [MG] at e1
  try simp only [Nat.reduceAdd] at e1
  obtain ⟨G2, e2, f2, n2⟩ := i_Guests_8 (d := d) (n := n) (T := T + 8 + 40 + 40 + 8 + 100 + 30 + 4) (G := (gN (gU (gN (gU G1 1 0) 7) 1 1) 8)) (z := z)
  dsimp only [MG] at e2
  try simp only [Nat.reduceAdd] at e2
  obtain ⟨G3, e3, f3, n3⟩ := i_Notes_12 (d := d) (n := n) (T := T + 8 + 40 + 40 + 8 + 100 + 30 + 4 + 6 + 6 + 36 + 3) (G := (gN (gU (gU G2 1 4) 1 6) 12)) (z := z)
  dsimp only [MG] at e3
  try simp only [Nat.reduceAdd] at e3
  obtain ⟨G4, e4, f4, n4⟩ := i_Notes_14 (d := d) (n := n) (T := T + 8 + 40 + 40 + 8 + 100 + 30 + 4 + 6 + 6 + 36 + 3 + 18 + 3) (G := (gN (gU G3 1 7) 14)) (z := z)
  dsimp only [MG] at e4
  try simp only [Nat.reduceAdd] at e4
  obtain ⟨G5, e5, f5, n5⟩ := i_Notes_16 (d := d) (n := n) (T := T + 8 + 40 + 40 + 8 + 100 + 30 + 4 + 6 + 6 + 36 + 3 + 18 + 3 + 24 + 3) (G := (gN (gU G4 1 8) 16)) (z := z)
  dsimp only [MG] at e5
  try simp only [Nat.reduceAdd] at e5
  obtain ⟨GA, eA, fA, nA, pA⟩ := w1_1 (d := d) (n := n) (z := z) 30 0 (T + 8 + 40 + 40 + 8 + 100 + 30 + 4 + 6 + 6 + 36 + 3 + 18 + 3 + 24 + 3 + 24 + 8 + 8 + 8) (gU (gN (gU (gN (gU (gN (gU G5 1 9) 18) 1 10) 19) 1 11) 20) 1 12) (by omega) (by simp (disch := omega) only [gU_s, gU_1, gU_2, gN_o, f1, f2, f3, f4, f5])
  obtain ⟨GB, eB, fB, pB⟩ := w2_1 (d := d) (n := n) (T := T + 8 + 40 + 40 + 8 + 100 + 30 + 4 + 6 + 6 + 36 + 3 + 18 + 3 + 24 + 3 + 24 + 8 + 8 + 8 + 196 * 30) (z := z) 8 0 GA (by omega) (by rw [fA 1 (by decide) (by omega)]; simp (disch := omega) only [gU_s, gU_1, gU_2, gN_o, f1, f2, f3, f4, f5])
  refine ⟨GB, ?_, ?_, ?_⟩
  · have go : am_run (d + 1) 117 (am_B 117 130) [some (.ref 1), some (.int (iI 30))] [] (MG n (21 + 5 * 30) (T + 8 + 40 + 40 + 8 + 100 + 30 + 4 + 6 + 6 + 36 + 3 + 18 + 3 + 24 + 3 + 24 + 8 + 8 + 8 + 196 * 30) GA z) = am_run (d + 1) 117 (am_B 117 132) [some (.ref 1), some (.int (iI 0))] [] (MG n 171 (T + 8 + 40 + 40 + 8 + 100 + 30 + 4 + 6 + 6 + 36 + 3 + 18 + 3 + 24 + 3 + 24 + 8 + 8 + 8 + 196 * 30) GA z) := by
      conv => lhs; rw [bk_117_130]
      simp (decide := true) (disch := (first | omega | assumption | decide | rfl)) only [en_117, bk_117_0, bk_117_105, bk_117_151, bq_117_0, bq_117_105, bq_117_130, bq_117_132, bq_117_151, rn_iconst, rn_bipush, rn_sipush, rn_ldc_w, rn_ldc, rn_ldcS, rn_lconst, rn_ldc2, rn_gets, rn_iload0, rn_lload0, rn_aload0, rn_istore0, rn_astore0, rn_lstore0, rn_iinc0, rn_iload1, rn_lload1, rn_aload1, rn_istore1, rn_astore1, rn_lstore1, rn_iinc1, rn_iload2, rn_lload2, rn_aload2, rn_istore2, rn_astore2, rn_lstore2, rn_iinc2, rn_iload3, rn_lload3, rn_aload3, rn_istore3, rn_astore3, rn_lstore3, rn_iinc3, rn_iload4, rn_lload4, rn_aload4, rn_istore4, rn_astore4, rn_lstore4, rn_iinc4, rn_iload5, rn_lload5, rn_aload5, rn_istore5, rn_astore5, rn_lstore5, rn_iinc5, rn_iload6, rn_lload6, rn_aload6, rn_istore6, rn_astore6, rn_lstore6, rn_iinc6, rn_iload7, rn_aload7, rn_istore7, rn_astore7, rn_iinc7, rn_iload8, rn_aload8, rn_istore8, rn_astore8, rn_iinc8, rn_iload9, rn_aload9, rn_istore9, rn_astore9, rn_iinc9, rn_iadd, rn_isub, rn_imul, rn_iand, rn_ior, rn_ixor, rn_ishl, rn_ishr, rn_iushr, rn_idiv, rn_irem, rn_ineg, rn_ladd, rn_lsub, rn_lmul, rn_lor, rn_ldiv, rn_lrem, rn_lneg, rn_lshl, rn_lshr, rn_i2l, rn_l2i, rn_i2c, rn_lcmp, rn_dupi, rn_dupa, rn_popi, rn_popa, rn_dup2, rn_alen, rn_geta, rn_aald, rn_min, rn_max, rn_slen, rn_chat, rn_indx, rn_objI, rn_nop, rn_goto, rn_ifeq, rn_ifne, rn_iflt, rn_ifge, rn_ifgt, rn_ifle, rn_iceq, rn_icne, rn_iclt, rn_icge, rn_icgt, rn_icle, rn_tsw, rn_lsw, rn_iret, rn_zret, rn_lret, rn_aret, rn_vret, rn_cs0, rn_cs1, rn_cs2, rn_cs3, rn_cs4, rn_cs5, rn_cs6, rn_cs7, rn_cv1, rn_ci1, rn_cv2, rn_ci2, rn_cv3, rn_ci3, rn_cv4, rn_cv5, rn_cv6, rn_cv7, cs_n, cs_i, cs_a, cs_l, rc_i, rc_a, rc_l, rc_n, rw_iald, rw_bald, rw_lald, rw_bast, rw_last, rw_geti, rw_getl, rw_putl, iI_add, iI_sub, iI_mul, iI_neg, iI_lt, iI_le, iI_eq, iI_lt0, iI_le0, iI_0lt, iI_0le, iI_eq0, iI_eq1, iI_div, iI_rem, am_in_ok, am_in_no, iI_toInt, iL_add, iL_sub, iL_mul, iL_neg, iL_div, iL_rem, iI_i2l, iL_l2i, iL_cmp, iL_eq0, iI_or, iI_and, iI_shl, if_true, if_false, true_or, or_true, true_and, and_true, false_or, or_false, not_true_eq_false, not_false_eq_true, Option.bind_some, Option.toList_some, Option.toList_none, List.nil_append, List.cons_append, ite_self, nc_0, nc_1, nc_2, nc_3, nc_4, nc_5, nc_6, nc_7, nc_8, nc_9, nc_10, nc_11, nc_12, nc_13, nc_14, nc_15, nc_16, nc_17, nc_18, nc_19, nc_20, nc_21, nc_22, nc_23, nc_24, nc_25, nc_26, nc_27, nc_28, nc_29, nc_30, nc_31, nc_32, nc_33, nc_34, nc_35, nc_36, nc_40, nc_48, nc_100, nc_256, nc_300, nc_304, Nat.reduceMul, Nat.reduceAdd, if_pos, if_neg, sh_0, sh_393, rw_copy, am_cp_ok]
    refine Eq.trans ?_ (Eq.trans eA (Eq.trans go eB))
    clear eA eB go fA fB pA pB nA
    simp (decide := true) (disch := (first | omega | assumption | decide | rfl)) only [en_117, bk_117_0, bk_117_130, bk_117_132, bk_117_151, bq_117_0, bq_117_105, bq_117_130, bq_117_132, bq_117_151, rn_iconst, rn_bipush, rn_sipush, rn_ldc_w, rn_ldc, rn_ldcS, rn_lconst, rn_ldc2, rn_gets, rn_iload0, rn_lload0, rn_aload0, rn_istore0, rn_astore0, rn_lstore0, rn_iinc0, rn_iload1, rn_lload1, rn_aload1, rn_istore1, rn_astore1, rn_lstore1, rn_iinc1, rn_iload2, rn_lload2, rn_aload2, rn_istore2, rn_astore2, rn_lstore2, rn_iinc2, rn_iload3, rn_lload3, rn_aload3, rn_istore3, rn_astore3, rn_lstore3, rn_iinc3, rn_iload4, rn_lload4, rn_aload4, rn_istore4, rn_astore4, rn_lstore4, rn_iinc4, rn_iload5, rn_lload5, rn_aload5, rn_istore5, rn_astore5, rn_lstore5, rn_iinc5, rn_iload6, rn_lload6, rn_aload6, rn_istore6, rn_astore6, rn_lstore6, rn_iinc6, rn_iload7, rn_aload7, rn_istore7, rn_astore7, rn_iinc7, rn_iload8, rn_aload8, rn_istore8, rn_astore8, rn_iinc8, rn_iload9, rn_aload9, rn_istore9, rn_astore9, rn_iinc9, rn_iadd, rn_isub, rn_imul, rn_iand, rn_ior, rn_ixor, rn_ishl, rn_ishr, rn_iushr, rn_idiv, rn_irem, rn_ineg, rn_ladd, rn_lsub, rn_lmul, rn_lor, rn_ldiv, rn_lrem, rn_lneg, rn_lshl, rn_lshr, rn_i2l, rn_l2i, rn_i2c, rn_lcmp, rn_dupi, rn_dupa, rn_popi, rn_popa, rn_dup2, rn_alen, rn_geta, rn_aald, rn_min, rn_max, rn_slen, rn_chat, rn_indx, rn_objI, rn_nop, rn_goto, rn_ifeq, rn_ifne, rn_iflt, rn_ifge, rn_ifgt, rn_ifle, rn_iceq, rn_icne, rn_iclt, rn_icge, rn_icgt, rn_icle, rn_tsw, rn_lsw, rn_iret, rn_zret, rn_lret, rn_aret, rn_vret, rn_cs0, rn_cs1, rn_cs2, rn_cs3, rn_cs4, rn_cs5, rn_cs6, rn_cs7, rn_cv1, rn_ci1, rn_cv2, rn_ci2, rn_cv3, rn_ci3, rn_cv4, rn_cv5, rn_cv6, rn_cv7, cs_n, cs_i, cs_a, cs_l, rc_i, rc_a, rc_l, rc_n, rw_iald, rw_bald, rw_lald, rw_bast, rw_last, rw_geti, rw_getl, rw_putl, iI_add, iI_sub, iI_mul, iI_neg, iI_lt, iI_le, iI_eq, iI_lt0, iI_le0, iI_0lt, iI_0le, iI_eq0, iI_eq1, iI_div, iI_rem, am_in_ok, am_in_no, iI_toInt, iL_add, iL_sub, iL_mul, iL_neg, iL_div, iL_rem, iI_i2l, iL_l2i, iL_cmp, iL_eq0, iI_or, iI_and, iI_shl, if_true, if_false, true_or, or_true, true_and, and_true, false_or, or_false, not_true_eq_false, not_false_eq_true, Option.bind_some, Option.toList_some, Option.toList_none, List.nil_append, List.cons_append, ite_self, nc_0, nc_1, nc_2, nc_3, nc_4, nc_5, nc_6, nc_7, nc_8, nc_9, nc_10, nc_11, nc_12, nc_13, nc_14, nc_15, nc_16, nc_17, nc_18, nc_19, nc_20, nc_21, nc_22, nc_23, nc_24, nc_25, nc_26, nc_27, nc_28, nc_29, nc_30, nc_31, nc_32, nc_33, nc_34, nc_35, nc_36, nc_40, nc_48, nc_100, nc_256, nc_300, nc_304, gn_new, gn_newa, gn_anew, gn_puti, gn_putz, gn_puta, gn_rg, gn_iast, gn_aast, SM_lt, gN_o, gU_s, gU_1, gU_2, Int.reduceToNat, Nat.reduceAdd, Int.reduceMul, sh_1, rf_1_0, rf_1_1, rf_1_4, rf_1_7, rf_1_8, rf_1_9, rf_1_10, rf_1_11, rf_1_12, e1, e2, e3, e4, e5, Nat.mul_zero, Nat.add_zero, nc_0, mx_118, mx_217, mx_218, if_pos, if_neg, sh_0, sh_393, rw_copy, am_cp_ok]
  · intro a ha
    rw [fB a (by omega), fA a (by omega) (by omega)]
    funext k
    simp (disch := omega) only [gU_s, gU_1, gU_2, gN_o, f1, f2, f3, f4, f5]
  · intro a h1 h2
    by_cases cA : 21 ≤ a
    · exact fin_eq (nA a (by omega) h2) (fB a (by omega))
    by_cases c1 : 2 ≤ a ∧ a < 7
    · refine fin_eq (n1 a c1.1 c1.2) ?_
      rw [fB a (by omega), fA a (by omega) (by omega)]
      funext k
      simp (disch := omega) only [gU_1, gN_o, f2, f3, f4, f5]
    by_cases c2 : 8 ≤ a ∧ a < 12
    · refine fin_eq (n2 a c2.1 c2.2) ?_
      rw [fB a (by omega), fA a (by omega) (by omega)]
      funext k
      simp (disch := omega) only [gU_1, gN_o, f3, f4, f5]
    by_cases c3 : 12 ≤ a ∧ a < 14
    · refine fin_eq (n3 a c3.1 c3.2) ?_
      rw [fB a (by omega), fA a (by omega) (by omega)]
      funext k
      simp (disch := omega) only [gU_1, gN_o, f4, f5]
    by_cases c4 : 14 ≤ a ∧ a < 16
    · refine fin_eq (n4 a c4.1 c4.2) ?_
      rw [fB a (by omega), fA a (by omega) (by omega)]
      funext k
      simp (disch := omega) only [gU_1, gN_o, f5]
    by_cases c5 : 16 ≤ a ∧ a < 18
    · refine fin_eq (n5 a c5.1 c5.2) ?_
      rw [fB a (by omega), fA a (by omega) (by omega)]
      funext k
      simp (disch := omega) only [gU_1, gN_o]
    rcases (show a = 1 ∨ a = 7 ∨ a = 18 ∨ a = 19 ∨ a = 20 by omega) with rfl | rfl | rfl | rfl | rfl
    · refine fin_set (K := [0, 1, 4, 6, 7, 8, 9, 10, 11, 12]) (by decide +kernel) (fun k hk => ?_)
      rw [fB 1 (by decide), fA 1 (by decide) (by omega)]
      rcases (show k = 0 ∨ k = 1 ∨ k = 4 ∨ k = 6 ∨ k = 7 ∨ k = 8 ∨ k = 9 ∨ k = 10 ∨ k = 11 ∨ k = 12 by simpa using hk) with rfl | rfl | rfl | rfl | rfl | rfl | rfl | rfl | rfl | rfl
      all_goals simp (disch := first | omega | decide) only [gU_s, gU_1, gU_2, gN_o, f1, f2, f3, f4, f5, nc_0, nc_1, nc_4, nc_6, nc_7, nc_8, nc_9, nc_10, nc_11, nc_12]
    · refine fin_set (K := List.range 30) (by decide +kernel) (fun k hk => ?_)
      rw [fB 7 (by decide)]
      exact pA k (fun h1 h2 => absurd h2 (by omega)) (by omega) (by have := List.mem_range.mp hk; omega)
    · refine fin_set (K := List.range 8) (by decide +kernel) (fun k hk => ?_)
      exact pB k (fun h1 h2 => absurd h2 (by omega)) (by omega) (by have := List.mem_range.mp hk; omega)
    · exact fin_set (K := []) (by decide +kernel) (fun k hk => absurd hk (List.not_mem_nil))
    · exact fin_set (K := []) (by decide +kernel) (fun k hk => absurd hk (List.not_mem_nil))
theorem past_171 : ∀ i : Fin 30, R0 353 177 i.val = some (191 + 5 * i.val) ∧ W0 177 (i.val : Int) = 0 := by decide +kernel
theorem hous_171 : ∀ i : Fin 8, R0 353 188 i.val = none ∧ W0 188 (i.val : Int) = (i.val : Int) := by decide +kernel
set_option maxHeartbeats 2000000 in
theorem w1_171 : ∀ (j i : Nat) (T : Nat) (G : Msk), i + j = 30 → G 171 1 = true → ∃ G2, am_run (d + 1) 117 (am_B 117 105) [some (.ref 171), some (.int (iI (i : Int)))] [] (MG n (191 + 5 * i) T G z) = am_run (d + 1) 117 (am_B 117 130) [some (.ref 171), some (.int (iI 30))] [] (MG n (191 + 5 * 30) (T + 196 * j) G2 z) ∧ (∀ a, a ≠ 177 → (a < 191 + 5 * i ∨ 341 ≤ a) → G2 a = G a) ∧ (∀ a, 191 + 5 * i ≤ a → a < 341 → fin G2 a) ∧ (∀ k : Int, (0 ≤ k → k < i → G 177 k = true) → (i ≤ k ∨ (0 ≤ k ∧ k < i)) → k < 30 → G2 177 k = true)
  | 0, i, T, G, hj, hg => by
    obtain rfl : i = 30 := by omega
    refine ⟨G, ?_, fun _ _ _ => rfl, fun a h1 h2 => absurd h2 (by omega), fun k h1 h2 h3 => h1 (by omega) (by omega)⟩
    conv => lhs; rw [bk_117_105]
    simp (decide := true) (disch := (first | omega | assumption | decide | rfl)) only [en_117, bk_117_0, bk_117_132, bk_117_151, bq_117_0, bq_117_105, bq_117_130, bq_117_132, bq_117_151, rn_iconst, rn_bipush, rn_sipush, rn_ldc_w, rn_ldc, rn_ldcS, rn_lconst, rn_ldc2, rn_gets, rn_iload0, rn_lload0, rn_aload0, rn_istore0, rn_astore0, rn_lstore0, rn_iinc0, rn_iload1, rn_lload1, rn_aload1, rn_istore1, rn_astore1, rn_lstore1, rn_iinc1, rn_iload2, rn_lload2, rn_aload2, rn_istore2, rn_astore2, rn_lstore2, rn_iinc2, rn_iload3, rn_lload3, rn_aload3, rn_istore3, rn_astore3, rn_lstore3, rn_iinc3, rn_iload4, rn_lload4, rn_aload4, rn_istore4, rn_astore4, rn_lstore4, rn_iinc4, rn_iload5, rn_lload5, rn_aload5, rn_istore5, rn_astore5, rn_lstore5, rn_iinc5, rn_iload6, rn_lload6, rn_aload6, rn_istore6, rn_astore6, rn_lstore6, rn_iinc6, rn_iload7, rn_aload7, rn_istore7, rn_astore7, rn_iinc7, rn_iload8, rn_aload8, rn_istore8, rn_astore8, rn_iinc8, rn_iload9, rn_aload9, rn_istore9, rn_astore9, rn_iinc9, rn_iadd, rn_isub, rn_imul, rn_iand, rn_ior, rn_ixor, rn_ishl, rn_ishr, rn_iushr, rn_idiv, rn_irem, rn_ineg, rn_ladd, rn_lsub, rn_lmul, rn_lor, rn_ldiv, rn_lrem, rn_lneg, rn_lshl, rn_lshr, rn_i2l, rn_l2i, rn_i2c, rn_lcmp, rn_dupi, rn_dupa, rn_popi, rn_popa, rn_dup2, rn_alen, rn_geta, rn_aald, rn_min, rn_max, rn_slen, rn_chat, rn_indx, rn_objI, rn_nop, rn_goto, rn_ifeq, rn_ifne, rn_iflt, rn_ifge, rn_ifgt, rn_ifle, rn_iceq, rn_icne, rn_iclt, rn_icge, rn_icgt, rn_icle, rn_tsw, rn_lsw, rn_iret, rn_zret, rn_lret, rn_aret, rn_vret, rn_cs0, rn_cs1, rn_cs2, rn_cs3, rn_cs4, rn_cs5, rn_cs6, rn_cs7, rn_cv1, rn_ci1, rn_cv2, rn_ci2, rn_cv3, rn_ci3, rn_cv4, rn_cv5, rn_cv6, rn_cv7, cs_n, cs_i, cs_a, cs_l, rc_i, rc_a, rc_l, rc_n, rw_iald, rw_bald, rw_lald, rw_bast, rw_last, rw_geti, rw_getl, rw_putl, iI_add, iI_sub, iI_mul, iI_neg, iI_lt, iI_le, iI_eq, iI_lt0, iI_le0, iI_0lt, iI_0le, iI_eq0, iI_eq1, iI_div, iI_rem, am_in_ok, am_in_no, iI_toInt, iL_add, iL_sub, iL_mul, iL_neg, iL_div, iL_rem, iI_i2l, iL_l2i, iL_cmp, iL_eq0, iI_or, iI_and, iI_shl, if_true, if_false, true_or, or_true, true_and, and_true, false_or, or_false, not_true_eq_false, not_false_eq_true, Option.bind_some, Option.toList_some, Option.toList_none, List.nil_append, List.cons_append, ite_self, nc_0, nc_1, nc_2, nc_3, nc_4, nc_5, nc_6, nc_7, nc_8, nc_9, nc_10, nc_11, nc_12, nc_13, nc_14, nc_15, nc_16, nc_17, nc_18, nc_19, nc_20, nc_21, nc_22, nc_23, nc_24, nc_25, nc_26, nc_27, nc_28, nc_29, nc_30, nc_31, nc_32, nc_33, nc_34, nc_35, nc_36, nc_40, nc_48, nc_100, nc_256, nc_300, nc_304, gn_new, gn_newa, gn_anew, gn_puti, gn_putz, gn_puta, gn_rg, gn_iast, gn_aast, SM_lt, gN_o, gU_s, gU_1, gU_2, Int.reduceToNat, Nat.reduceAdd, Int.reduceMul, Nat.mul_zero, Nat.add_zero, nc_30, if_pos, if_neg, sh_0, sh_393, rw_copy, am_cp_ok]
  | j + 1, i, T, G, hj, hg => by
    have tf := tbf_kept ⟨i, by omega⟩
    have pf := past_171 ⟨i, by omega⟩
    dsimp only at tf pf
    obtain ⟨G1, e1, f1, fn1⟩ := i_Table (d := d) (n := n) (t := 191 + 5 * i) (T := T + 8) (G := gN G (191 + 5 * i)) (z := z) tf
    have g1 : G1 171 1 = true := by rw [f1 171 (by omega), gN_o (by omega)]; exact hg
    obtain ⟨G2, e2, f2, fn2, p2⟩ := w1_171 j (i + 1) (T + 8 + 40 + 40 + 8 + 100) (gU G1 177 (i : Int)) (by omega) (by rw [gU_1 (by decide)]; exact g1)
    refine ⟨G2, Eq.trans ?_ (Eq.trans e2 ?_), ?_, ?_, ?_⟩
    · conv => lhs; rw [bk_117_105]
      have s0 := tf.1.1
      have a0 : 191 + 5 * (i + 1) = 191 + 5 * i + 1 + 1 + 1 + 1 + 1 := by omega
      have i30 : ¬ (30 : Int) ≤ (i : Int) := by omega
      have i0 : (0 : Int) ≤ (i : Int) := by omega
      have im : (i : Int) < ((shl.getD 177 (999, 0)).2 : Int) := by show (i : Int) < 30; omega
      have pv : R0 353 177 ((i : Int)).toNat = some (191 + 5 * i) := by rw [Int.toNat_natCast]; exact pf.1
      have pw0 : W0 177 (i : Int) = 0 := pf.2
      have hs : ((shl.getD 177 (999, 0)).1 = 3 ∧ shl.getD (191 + 5 * i) (999, 0) = (18, 0)) ∨ ((shl.getD 177 (999, 0)).1 = 4 ∧ shl.getD (191 + 5 * i) (999, 0) = (17, 0)) := Or.inl ⟨by decide, s0⟩
      have sl : 191 + 5 * i + 5 ≤ 407 := tf.2.2.2.2
      have ci : (((i + 1 : Nat)) : Int) = (i : Int) + 1 := by omega
      rw [a0, ci]
      dsimp only [MG] at e1 ⊢
      clear e2 f2 fn2 p2 tf pf
      simp (decide := true) (disch := (first | omega | assumption | decide | rfl)) only [en_117, bk_117_0, bk_117_132, bk_117_151, bq_117_0, bq_117_105, bq_117_130, bq_117_132, bq_117_151, rn_iconst, rn_bipush, rn_sipush, rn_ldc_w, rn_ldc, rn_ldcS, rn_lconst, rn_ldc2, rn_gets, rn_iload0, rn_lload0, rn_aload0, rn_istore0, rn_astore0, rn_lstore0, rn_iinc0, rn_iload1, rn_lload1, rn_aload1, rn_istore1, rn_astore1, rn_lstore1, rn_iinc1, rn_iload2, rn_lload2, rn_aload2, rn_istore2, rn_astore2, rn_lstore2, rn_iinc2, rn_iload3, rn_lload3, rn_aload3, rn_istore3, rn_astore3, rn_lstore3, rn_iinc3, rn_iload4, rn_lload4, rn_aload4, rn_istore4, rn_astore4, rn_lstore4, rn_iinc4, rn_iload5, rn_lload5, rn_aload5, rn_istore5, rn_astore5, rn_lstore5, rn_iinc5, rn_iload6, rn_lload6, rn_aload6, rn_istore6, rn_astore6, rn_lstore6, rn_iinc6, rn_iload7, rn_aload7, rn_istore7, rn_astore7, rn_iinc7, rn_iload8, rn_aload8, rn_istore8, rn_astore8, rn_iinc8, rn_iload9, rn_aload9, rn_istore9, rn_astore9, rn_iinc9, rn_iadd, rn_isub, rn_imul, rn_iand, rn_ior, rn_ixor, rn_ishl, rn_ishr, rn_iushr, rn_idiv, rn_irem, rn_ineg, rn_ladd, rn_lsub, rn_lmul, rn_lor, rn_ldiv, rn_lrem, rn_lneg, rn_lshl, rn_lshr, rn_i2l, rn_l2i, rn_i2c, rn_lcmp, rn_dupi, rn_dupa, rn_popi, rn_popa, rn_dup2, rn_alen, rn_geta, rn_aald, rn_min, rn_max, rn_slen, rn_chat, rn_indx, rn_objI, rn_nop, rn_goto, rn_ifeq, rn_ifne, rn_iflt, rn_ifge, rn_ifgt, rn_ifle, rn_iceq, rn_icne, rn_iclt, rn_icge, rn_icgt, rn_icle, rn_tsw, rn_lsw, rn_iret, rn_zret, rn_lret, rn_aret, rn_vret, rn_cs0, rn_cs1, rn_cs2, rn_cs3, rn_cs4, rn_cs5, rn_cs6, rn_cs7, rn_cv1, rn_ci1, rn_cv2, rn_ci2, rn_cv3, rn_ci3, rn_cv4, rn_cv5, rn_cv6, rn_cv7, cs_n, cs_i, cs_a, cs_l, rc_i, rc_a, rc_l, rc_n, rw_iald, rw_bald, rw_lald, rw_bast, rw_last, rw_geti, rw_getl, rw_putl, iI_add, iI_sub, iI_mul, iI_neg, iI_lt, iI_le, iI_eq, iI_lt0, iI_le0, iI_0lt, iI_0le, iI_eq0, iI_eq1, iI_div, iI_rem, am_in_ok, am_in_no, iI_toInt, iL_add, iL_sub, iL_mul, iL_neg, iL_div, iL_rem, iI_i2l, iL_l2i, iL_cmp, iL_eq0, iI_or, iI_and, iI_shl, if_true, if_false, true_or, or_true, true_and, and_true, false_or, or_false, not_true_eq_false, not_false_eq_true, Option.bind_some, Option.toList_some, Option.toList_none, List.nil_append, List.cons_append, ite_self, nc_0, nc_1, nc_2, nc_3, nc_4, nc_5, nc_6, nc_7, nc_8, nc_9, nc_10, nc_11, nc_12, nc_13, nc_14, nc_15, nc_16, nc_17, nc_18, nc_19, nc_20, nc_21, nc_22, nc_23, nc_24, nc_25, nc_26, nc_27, nc_28, nc_29, nc_30, nc_31, nc_32, nc_33, nc_34, nc_35, nc_36, nc_40, nc_48, nc_100, nc_256, nc_300, nc_304, gn_new, gn_newa, gn_anew, gn_puti, gn_putz, gn_puta, gn_rg, gn_iast, gn_aast, SM_lt, gN_o, gU_s, gU_1, gU_2, Int.reduceToNat, Nat.reduceAdd, Int.reduceMul, sh_171, rf_171_0, rf_171_1, rf_171_4, rf_171_7, rf_171_8, rf_171_9, rf_171_10, rf_171_11, rf_171_12, hg, i30, s0, e1, g1, hs, pv, pw0, mx_118, if_pos, if_neg, sh_0, sh_393, rw_copy, am_cp_ok]
    · rw [show T + 8 + 40 + 40 + 8 + 100 + 196 * j = T + 196 * (j + 1) by omega]
    · intro a h1 h2
      rw [f2 a h1 (by omega)]
      funext k
      rw [gU_1 h1, f1 a (by omega), gN_o (by omega)]
    · intro a h1 h2
      by_cases c : a < 191 + 5 * (i + 1)
      · have := fn1 a h1 (by omega)
        refine fin_eq this ?_
        rw [f2 a (by omega) (by omega)]
        funext k
        rw [gU_1 (by omega)]
      · exact fn2 a (by omega) h2
    · intro k h1 h2 h3
      refine p2 k (fun k0 k1 => ?_) (by omega) h3
      by_cases c : k = (i : Int)
      · rw [c]; exact gU_s
      · rw [gU_2 c, f1 177 (by omega), gN_o (by omega)]
        exact h1 k0 (by omega)
set_option maxHeartbeats 2000000 in
theorem w2_171 : ∀ (j i : Nat) (G : Msk), i + j = 8 → G 171 10 = true → ∃ G2, am_run (d + 1) 117 (am_B 117 132) [some (.ref 171), some (.int (iI (i : Int)))] [] (MG n 341 T G z) = some (none, MG n 341 T G2 z) ∧ (∀ a, a ≠ 188 → G2 a = G a) ∧ (∀ k : Int, (0 ≤ k → k < i → G 188 k = true) → 0 ≤ k → k < 8 → G2 188 k = true)
  | 0, i, G, hj, hg => by
    obtain rfl : i = 8 := by omega
    refine ⟨G, ?_, fun _ _ => rfl, fun k h1 h2 h3 => h1 h2 (by omega)⟩
    conv => lhs; rw [bk_117_132]
    simp (decide := true) (disch := (first | omega | assumption | decide | rfl)) only [en_117, bk_117_0, bk_117_105, bk_117_130, bk_117_151, bq_117_0, bq_117_105, bq_117_130, bq_117_132, bq_117_151, rn_iconst, rn_bipush, rn_sipush, rn_ldc_w, rn_ldc, rn_ldcS, rn_lconst, rn_ldc2, rn_gets, rn_iload0, rn_lload0, rn_aload0, rn_istore0, rn_astore0, rn_lstore0, rn_iinc0, rn_iload1, rn_lload1, rn_aload1, rn_istore1, rn_astore1, rn_lstore1, rn_iinc1, rn_iload2, rn_lload2, rn_aload2, rn_istore2, rn_astore2, rn_lstore2, rn_iinc2, rn_iload3, rn_lload3, rn_aload3, rn_istore3, rn_astore3, rn_lstore3, rn_iinc3, rn_iload4, rn_lload4, rn_aload4, rn_istore4, rn_astore4, rn_lstore4, rn_iinc4, rn_iload5, rn_lload5, rn_aload5, rn_istore5, rn_astore5, rn_lstore5, rn_iinc5, rn_iload6, rn_lload6, rn_aload6, rn_istore6, rn_astore6, rn_lstore6, rn_iinc6, rn_iload7, rn_aload7, rn_istore7, rn_astore7, rn_iinc7, rn_iload8, rn_aload8, rn_istore8, rn_astore8, rn_iinc8, rn_iload9, rn_aload9, rn_istore9, rn_astore9, rn_iinc9, rn_iadd, rn_isub, rn_imul, rn_iand, rn_ior, rn_ixor, rn_ishl, rn_ishr, rn_iushr, rn_idiv, rn_irem, rn_ineg, rn_ladd, rn_lsub, rn_lmul, rn_lor, rn_ldiv, rn_lrem, rn_lneg, rn_lshl, rn_lshr, rn_i2l, rn_l2i, rn_i2c, rn_lcmp, rn_dupi, rn_dupa, rn_popi, rn_popa, rn_dup2, rn_alen, rn_geta, rn_aald, rn_min, rn_max, rn_slen, rn_chat, rn_indx, rn_objI, rn_nop, rn_goto, rn_ifeq, rn_ifne, rn_iflt, rn_ifge, rn_ifgt, rn_ifle, rn_iceq, rn_icne, rn_iclt, rn_icge, rn_icgt, rn_icle, rn_tsw, rn_lsw, rn_iret, rn_zret, rn_lret, rn_aret, rn_vret, rn_cs0, rn_cs1, rn_cs2, rn_cs3, rn_cs4, rn_cs5, rn_cs6, rn_cs7, rn_cv1, rn_ci1, rn_cv2, rn_ci2, rn_cv3, rn_ci3, rn_cv4, rn_cv5, rn_cv6, rn_cv7, cs_n, cs_i, cs_a, cs_l, rc_i, rc_a, rc_l, rc_n, rw_iald, rw_bald, rw_lald, rw_bast, rw_last, rw_geti, rw_getl, rw_putl, iI_add, iI_sub, iI_mul, iI_neg, iI_lt, iI_le, iI_eq, iI_lt0, iI_le0, iI_0lt, iI_0le, iI_eq0, iI_eq1, iI_div, iI_rem, am_in_ok, am_in_no, iI_toInt, iL_add, iL_sub, iL_mul, iL_neg, iL_div, iL_rem, iI_i2l, iL_l2i, iL_cmp, iL_eq0, iI_or, iI_and, iI_shl, if_true, if_false, true_or, or_true, true_and, and_true, false_or, or_false, not_true_eq_false, not_false_eq_true, Option.bind_some, Option.toList_some, Option.toList_none, List.nil_append, List.cons_append, ite_self, nc_0, nc_1, nc_2, nc_3, nc_4, nc_5, nc_6, nc_7, nc_8, nc_9, nc_10, nc_11, nc_12, nc_13, nc_14, nc_15, nc_16, nc_17, nc_18, nc_19, nc_20, nc_21, nc_22, nc_23, nc_24, nc_25, nc_26, nc_27, nc_28, nc_29, nc_30, nc_31, nc_32, nc_33, nc_34, nc_35, nc_36, nc_40, nc_48, nc_100, nc_256, nc_300, nc_304, gn_new, gn_newa, gn_anew, gn_puti, gn_putz, gn_puta, gn_rg, gn_iast, gn_aast, SM_lt, gN_o, gU_s, gU_1, gU_2, Int.reduceToNat, Nat.reduceAdd, Int.reduceMul, nc_8, if_pos, if_neg, sh_0, sh_393, rw_copy, am_cp_ok]
  | j + 1, i, G, hj, hg => by
    have hf := hous_171 ⟨i, by omega⟩
    dsimp only at hf
    obtain ⟨G2, e2, f2, p2⟩ := w2_171 j (i + 1) (gU G 188 (i : Int)) (by omega) (by rw [gU_1 (by decide)]; exact hg)
    refine ⟨G2, Eq.trans ?_ e2, fun a h1 => by rw [f2 a h1]; funext k; exact gU_1 h1, fun k h1 h2 h3 => p2 k (fun k0 k1 => ?_) h2 h3⟩
    · conv => lhs; rw [bk_117_132]
      have i8 : ¬ (8 : Int) ≤ (i : Int) := by omega
      have i0 : (0 : Int) ≤ (i : Int) := by omega
      have im : (i : Int) < ((shl.getD 188 (999, 0)).2 : Int) := by show (i : Int) < 8; omega
      have pv : R0 353 188 ((i : Int)).toNat = none := by rw [Int.toNat_natCast]; exact hf.1
      have pw0 : W0 188 (i : Int) = (i : Int) := hf.2
      have ci : (((i + 1 : Nat)) : Int) = (i : Int) + 1 := by omega
      rw [ci]
      clear e2 f2 p2 hf
      simp (decide := true) (disch := (first | omega | assumption | decide | rfl)) only [en_117, bk_117_0, bk_117_105, bk_117_130, bk_117_151, bq_117_0, bq_117_105, bq_117_130, bq_117_132, bq_117_151, rn_iconst, rn_bipush, rn_sipush, rn_ldc_w, rn_ldc, rn_ldcS, rn_lconst, rn_ldc2, rn_gets, rn_iload0, rn_lload0, rn_aload0, rn_istore0, rn_astore0, rn_lstore0, rn_iinc0, rn_iload1, rn_lload1, rn_aload1, rn_istore1, rn_astore1, rn_lstore1, rn_iinc1, rn_iload2, rn_lload2, rn_aload2, rn_istore2, rn_astore2, rn_lstore2, rn_iinc2, rn_iload3, rn_lload3, rn_aload3, rn_istore3, rn_astore3, rn_lstore3, rn_iinc3, rn_iload4, rn_lload4, rn_aload4, rn_istore4, rn_astore4, rn_lstore4, rn_iinc4, rn_iload5, rn_lload5, rn_aload5, rn_istore5, rn_astore5, rn_lstore5, rn_iinc5, rn_iload6, rn_lload6, rn_aload6, rn_istore6, rn_astore6, rn_lstore6, rn_iinc6, rn_iload7, rn_aload7, rn_istore7, rn_astore7, rn_iinc7, rn_iload8, rn_aload8, rn_istore8, rn_astore8, rn_iinc8, rn_iload9, rn_aload9, rn_istore9, rn_astore9, rn_iinc9, rn_iadd, rn_isub, rn_imul, rn_iand, rn_ior, rn_ixor, rn_ishl, rn_ishr, rn_iushr, rn_idiv, rn_irem, rn_ineg, rn_ladd, rn_lsub, rn_lmul, rn_lor, rn_ldiv, rn_lrem, rn_lneg, rn_lshl, rn_lshr, rn_i2l, rn_l2i, rn_i2c, rn_lcmp, rn_dupi, rn_dupa, rn_popi, rn_popa, rn_dup2, rn_alen, rn_geta, rn_aald, rn_min, rn_max, rn_slen, rn_chat, rn_indx, rn_objI, rn_nop, rn_goto, rn_ifeq, rn_ifne, rn_iflt, rn_ifge, rn_ifgt, rn_ifle, rn_iceq, rn_icne, rn_iclt, rn_icge, rn_icgt, rn_icle, rn_tsw, rn_lsw, rn_iret, rn_zret, rn_lret, rn_aret, rn_vret, rn_cs0, rn_cs1, rn_cs2, rn_cs3, rn_cs4, rn_cs5, rn_cs6, rn_cs7, rn_cv1, rn_ci1, rn_cv2, rn_ci2, rn_cv3, rn_ci3, rn_cv4, rn_cv5, rn_cv6, rn_cv7, cs_n, cs_i, cs_a, cs_l, rc_i, rc_a, rc_l, rc_n, rw_iald, rw_bald, rw_lald, rw_bast, rw_last, rw_geti, rw_getl, rw_putl, iI_add, iI_sub, iI_mul, iI_neg, iI_lt, iI_le, iI_eq, iI_lt0, iI_le0, iI_0lt, iI_0le, iI_eq0, iI_eq1, iI_div, iI_rem, am_in_ok, am_in_no, iI_toInt, iL_add, iL_sub, iL_mul, iL_neg, iL_div, iL_rem, iI_i2l, iL_l2i, iL_cmp, iL_eq0, iI_or, iI_and, iI_shl, if_true, if_false, true_or, or_true, true_and, and_true, false_or, or_false, not_true_eq_false, not_false_eq_true, Option.bind_some, Option.toList_some, Option.toList_none, List.nil_append, List.cons_append, ite_self, nc_0, nc_1, nc_2, nc_3, nc_4, nc_5, nc_6, nc_7, nc_8, nc_9, nc_10, nc_11, nc_12, nc_13, nc_14, nc_15, nc_16, nc_17, nc_18, nc_19, nc_20, nc_21, nc_22, nc_23, nc_24, nc_25, nc_26, nc_27, nc_28, nc_29, nc_30, nc_31, nc_32, nc_33, nc_34, nc_35, nc_36, nc_40, nc_48, nc_100, nc_256, nc_300, nc_304, gn_new, gn_newa, gn_anew, gn_puti, gn_putz, gn_puta, gn_rg, gn_iast, gn_aast, SM_lt, gN_o, gU_s, gU_1, gU_2, Int.reduceToNat, Nat.reduceAdd, Int.reduceMul, sh_171, rf_171_0, rf_171_1, rf_171_4, rf_171_7, rf_171_8, rf_171_9, rf_171_10, rf_171_11, rf_171_12, hg, i8, pv, pw0, if_pos, if_neg, sh_0, sh_393, rw_copy, am_cp_ok]
    · by_cases c : k = (i : Int)
      · rw [c]; exact gU_s
      · rw [gU_2 c]; exact h1 k0 (by omega)
set_option maxHeartbeats 4000000 in
theorem i_World_171 : ∃ G2, am_call (d + 1) 117 [.ref 171] (MG n 172 T G z) = some (none, MG n 341 (T + 8 + 40 + 40 + 8 + 100 + 30 + 4 + 6 + 6 + 36 + 3 + 18 + 3 + 24 + 3 + 24 + 8 + 8 + 8 + 196 * 30) G2 z) ∧ (∀ a, (a < 171 ∨ 341 ≤ a) → G2 a = G a) ∧ (∀ a, 171 ≤ a → a < 341 → fin G2 a) := by
  obtain ⟨G1, e1, f1, n1⟩ := i_Table (t := 172) (d := d) (n := n) (T := T + 8) (G := (gN G 172)) (z := z) tbf_172
  dsimp only [MG] at e1
  try simp only [Nat.reduceAdd] at e1
  obtain ⟨G2, e2, f2, n2⟩ := i_Guests_178 (d := d) (n := n) (T := T + 8 + 40 + 40 + 8 + 100 + 30 + 4) (G := (gN (gU (gN (gU G1 171 0) 177) 171 1) 178)) (z := z)
  dsimp only [MG] at e2
  try simp only [Nat.reduceAdd] at e2
  obtain ⟨G3, e3, f3, n3⟩ := i_Notes_182 (d := d) (n := n) (T := T + 8 + 40 + 40 + 8 + 100 + 30 + 4 + 6 + 6 + 36 + 3) (G := (gN (gU (gU G2 171 4) 171 6) 182)) (z := z)
  dsimp only [MG] at e3
  try simp only [Nat.reduceAdd] at e3
  obtain ⟨G4, e4, f4, n4⟩ := i_Notes_184 (d := d) (n := n) (T := T + 8 + 40 + 40 + 8 + 100 + 30 + 4 + 6 + 6 + 36 + 3 + 18 + 3) (G := (gN (gU G3 171 7) 184)) (z := z)
  dsimp only [MG] at e4
  try simp only [Nat.reduceAdd] at e4
  obtain ⟨G5, e5, f5, n5⟩ := i_Notes_186 (d := d) (n := n) (T := T + 8 + 40 + 40 + 8 + 100 + 30 + 4 + 6 + 6 + 36 + 3 + 18 + 3 + 24 + 3) (G := (gN (gU G4 171 8) 186)) (z := z)
  dsimp only [MG] at e5
  try simp only [Nat.reduceAdd] at e5
  obtain ⟨GA, eA, fA, nA, pA⟩ := w1_171 (d := d) (n := n) (z := z) 30 0 (T + 8 + 40 + 40 + 8 + 100 + 30 + 4 + 6 + 6 + 36 + 3 + 18 + 3 + 24 + 3 + 24 + 8 + 8 + 8) (gU (gN (gU (gN (gU (gN (gU G5 171 9) 188) 171 10) 189) 171 11) 190) 171 12) (by omega) (by simp (disch := omega) only [gU_s, gU_1, gU_2, gN_o, f1, f2, f3, f4, f5])
  obtain ⟨GB, eB, fB, pB⟩ := w2_171 (d := d) (n := n) (T := T + 8 + 40 + 40 + 8 + 100 + 30 + 4 + 6 + 6 + 36 + 3 + 18 + 3 + 24 + 3 + 24 + 8 + 8 + 8 + 196 * 30) (z := z) 8 0 GA (by omega) (by rw [fA 171 (by decide) (by omega)]; simp (disch := omega) only [gU_s, gU_1, gU_2, gN_o, f1, f2, f3, f4, f5])
  refine ⟨GB, ?_, ?_, ?_⟩
  · have go : am_run (d + 1) 117 (am_B 117 130) [some (.ref 171), some (.int (iI 30))] [] (MG n (191 + 5 * 30) (T + 8 + 40 + 40 + 8 + 100 + 30 + 4 + 6 + 6 + 36 + 3 + 18 + 3 + 24 + 3 + 24 + 8 + 8 + 8 + 196 * 30) GA z) = am_run (d + 1) 117 (am_B 117 132) [some (.ref 171), some (.int (iI 0))] [] (MG n 341 (T + 8 + 40 + 40 + 8 + 100 + 30 + 4 + 6 + 6 + 36 + 3 + 18 + 3 + 24 + 3 + 24 + 8 + 8 + 8 + 196 * 30) GA z) := by
      conv => lhs; rw [bk_117_130]
      simp (decide := true) (disch := (first | omega | assumption | decide | rfl)) only [en_117, bk_117_0, bk_117_105, bk_117_151, bq_117_0, bq_117_105, bq_117_130, bq_117_132, bq_117_151, rn_iconst, rn_bipush, rn_sipush, rn_ldc_w, rn_ldc, rn_ldcS, rn_lconst, rn_ldc2, rn_gets, rn_iload0, rn_lload0, rn_aload0, rn_istore0, rn_astore0, rn_lstore0, rn_iinc0, rn_iload1, rn_lload1, rn_aload1, rn_istore1, rn_astore1, rn_lstore1, rn_iinc1, rn_iload2, rn_lload2, rn_aload2, rn_istore2, rn_astore2, rn_lstore2, rn_iinc2, rn_iload3, rn_lload3, rn_aload3, rn_istore3, rn_astore3, rn_lstore3, rn_iinc3, rn_iload4, rn_lload4, rn_aload4, rn_istore4, rn_astore4, rn_lstore4, rn_iinc4, rn_iload5, rn_lload5, rn_aload5, rn_istore5, rn_astore5, rn_lstore5, rn_iinc5, rn_iload6, rn_lload6, rn_aload6, rn_istore6, rn_astore6, rn_lstore6, rn_iinc6, rn_iload7, rn_aload7, rn_istore7, rn_astore7, rn_iinc7, rn_iload8, rn_aload8, rn_istore8, rn_astore8, rn_iinc8, rn_iload9, rn_aload9, rn_istore9, rn_astore9, rn_iinc9, rn_iadd, rn_isub, rn_imul, rn_iand, rn_ior, rn_ixor, rn_ishl, rn_ishr, rn_iushr, rn_idiv, rn_irem, rn_ineg, rn_ladd, rn_lsub, rn_lmul, rn_lor, rn_ldiv, rn_lrem, rn_lneg, rn_lshl, rn_lshr, rn_i2l, rn_l2i, rn_i2c, rn_lcmp, rn_dupi, rn_dupa, rn_popi, rn_popa, rn_dup2, rn_alen, rn_geta, rn_aald, rn_min, rn_max, rn_slen, rn_chat, rn_indx, rn_objI, rn_nop, rn_goto, rn_ifeq, rn_ifne, rn_iflt, rn_ifge, rn_ifgt, rn_ifle, rn_iceq, rn_icne, rn_iclt, rn_icge, rn_icgt, rn_icle, rn_tsw, rn_lsw, rn_iret, rn_zret, rn_lret, rn_aret, rn_vret, rn_cs0, rn_cs1, rn_cs2, rn_cs3, rn_cs4, rn_cs5, rn_cs6, rn_cs7, rn_cv1, rn_ci1, rn_cv2, rn_ci2, rn_cv3, rn_ci3, rn_cv4, rn_cv5, rn_cv6, rn_cv7, cs_n, cs_i, cs_a, cs_l, rc_i, rc_a, rc_l, rc_n, rw_iald, rw_bald, rw_lald, rw_bast, rw_last, rw_geti, rw_getl, rw_putl, iI_add, iI_sub, iI_mul, iI_neg, iI_lt, iI_le, iI_eq, iI_lt0, iI_le0, iI_0lt, iI_0le, iI_eq0, iI_eq1, iI_div, iI_rem, am_in_ok, am_in_no, iI_toInt, iL_add, iL_sub, iL_mul, iL_neg, iL_div, iL_rem, iI_i2l, iL_l2i, iL_cmp, iL_eq0, iI_or, iI_and, iI_shl, if_true, if_false, true_or, or_true, true_and, and_true, false_or, or_false, not_true_eq_false, not_false_eq_true, Option.bind_some, Option.toList_some, Option.toList_none, List.nil_append, List.cons_append, ite_self, nc_0, nc_1, nc_2, nc_3, nc_4, nc_5, nc_6, nc_7, nc_8, nc_9, nc_10, nc_11, nc_12, nc_13, nc_14, nc_15, nc_16, nc_17, nc_18, nc_19, nc_20, nc_21, nc_22, nc_23, nc_24, nc_25, nc_26, nc_27, nc_28, nc_29, nc_30, nc_31, nc_32, nc_33, nc_34, nc_35, nc_36, nc_40, nc_48, nc_100, nc_256, nc_300, nc_304, Nat.reduceMul, Nat.reduceAdd, if_pos, if_neg, sh_0, sh_393, rw_copy, am_cp_ok]
    refine Eq.trans ?_ (Eq.trans eA (Eq.trans go eB))
    clear eA eB go fA fB pA pB nA
    simp (decide := true) (disch := (first | omega | assumption | decide | rfl)) only [en_117, bk_117_0, bk_117_130, bk_117_132, bk_117_151, bq_117_0, bq_117_105, bq_117_130, bq_117_132, bq_117_151, rn_iconst, rn_bipush, rn_sipush, rn_ldc_w, rn_ldc, rn_ldcS, rn_lconst, rn_ldc2, rn_gets, rn_iload0, rn_lload0, rn_aload0, rn_istore0, rn_astore0, rn_lstore0, rn_iinc0, rn_iload1, rn_lload1, rn_aload1, rn_istore1, rn_astore1, rn_lstore1, rn_iinc1, rn_iload2, rn_lload2, rn_aload2, rn_istore2, rn_astore2, rn_lstore2, rn_iinc2, rn_iload3, rn_lload3, rn_aload3, rn_istore3, rn_astore3, rn_lstore3, rn_iinc3, rn_iload4, rn_lload4, rn_aload4, rn_istore4, rn_astore4, rn_lstore4, rn_iinc4, rn_iload5, rn_lload5, rn_aload5, rn_istore5, rn_astore5, rn_lstore5, rn_iinc5, rn_iload6, rn_lload6, rn_aload6, rn_istore6, rn_astore6, rn_lstore6, rn_iinc6, rn_iload7, rn_aload7, rn_istore7, rn_astore7, rn_iinc7, rn_iload8, rn_aload8, rn_istore8, rn_astore8, rn_iinc8, rn_iload9, rn_aload9, rn_istore9, rn_astore9, rn_iinc9, rn_iadd, rn_isub, rn_imul, rn_iand, rn_ior, rn_ixor, rn_ishl, rn_ishr, rn_iushr, rn_idiv, rn_irem, rn_ineg, rn_ladd, rn_lsub, rn_lmul, rn_lor, rn_ldiv, rn_lrem, rn_lneg, rn_lshl, rn_lshr, rn_i2l, rn_l2i, rn_i2c, rn_lcmp, rn_dupi, rn_dupa, rn_popi, rn_popa, rn_dup2, rn_alen, rn_geta, rn_aald, rn_min, rn_max, rn_slen, rn_chat, rn_indx, rn_objI, rn_nop, rn_goto, rn_ifeq, rn_ifne, rn_iflt, rn_ifge, rn_ifgt, rn_ifle, rn_iceq, rn_icne, rn_iclt, rn_icge, rn_icgt, rn_icle, rn_tsw, rn_lsw, rn_iret, rn_zret, rn_lret, rn_aret, rn_vret, rn_cs0, rn_cs1, rn_cs2, rn_cs3, rn_cs4, rn_cs5, rn_cs6, rn_cs7, rn_cv1, rn_ci1, rn_cv2, rn_ci2, rn_cv3, rn_ci3, rn_cv4, rn_cv5, rn_cv6, rn_cv7, cs_n, cs_i, cs_a, cs_l, rc_i, rc_a, rc_l, rc_n, rw_iald, rw_bald, rw_lald, rw_bast, rw_last, rw_geti, rw_getl, rw_putl, iI_add, iI_sub, iI_mul, iI_neg, iI_lt, iI_le, iI_eq, iI_lt0, iI_le0, iI_0lt, iI_0le, iI_eq0, iI_eq1, iI_div, iI_rem, am_in_ok, am_in_no, iI_toInt, iL_add, iL_sub, iL_mul, iL_neg, iL_div, iL_rem, iI_i2l, iL_l2i, iL_cmp, iL_eq0, iI_or, iI_and, iI_shl, if_true, if_false, true_or, or_true, true_and, and_true, false_or, or_false, not_true_eq_false, not_false_eq_true, Option.bind_some, Option.toList_some, Option.toList_none, List.nil_append, List.cons_append, ite_self, nc_0, nc_1, nc_2, nc_3, nc_4, nc_5, nc_6, nc_7, nc_8, nc_9, nc_10, nc_11, nc_12, nc_13, nc_14, nc_15, nc_16, nc_17, nc_18, nc_19, nc_20, nc_21, nc_22, nc_23, nc_24, nc_25, nc_26, nc_27, nc_28, nc_29, nc_30, nc_31, nc_32, nc_33, nc_34, nc_35, nc_36, nc_40, nc_48, nc_100, nc_256, nc_300, nc_304, gn_new, gn_newa, gn_anew, gn_puti, gn_putz, gn_puta, gn_rg, gn_iast, gn_aast, SM_lt, gN_o, gU_s, gU_1, gU_2, Int.reduceToNat, Nat.reduceAdd, Int.reduceMul, sh_171, rf_171_0, rf_171_1, rf_171_4, rf_171_7, rf_171_8, rf_171_9, rf_171_10, rf_171_11, rf_171_12, e1, e2, e3, e4, e5, Nat.mul_zero, Nat.add_zero, nc_0, mx_118, mx_217, mx_218, if_pos, if_neg, sh_0, sh_393, rw_copy, am_cp_ok]
  · intro a ha
    rw [fB a (by omega), fA a (by omega) (by omega)]
    funext k
    simp (disch := omega) only [gU_s, gU_1, gU_2, gN_o, f1, f2, f3, f4, f5]
  · intro a h1 h2
    by_cases cA : 191 ≤ a
    · exact fin_eq (nA a (by omega) h2) (fB a (by omega))
    by_cases c1 : 172 ≤ a ∧ a < 177
    · refine fin_eq (n1 a c1.1 c1.2) ?_
      rw [fB a (by omega), fA a (by omega) (by omega)]
      funext k
      simp (disch := omega) only [gU_1, gN_o, f2, f3, f4, f5]
    by_cases c2 : 178 ≤ a ∧ a < 182
    · refine fin_eq (n2 a c2.1 c2.2) ?_
      rw [fB a (by omega), fA a (by omega) (by omega)]
      funext k
      simp (disch := omega) only [gU_1, gN_o, f3, f4, f5]
    by_cases c3 : 182 ≤ a ∧ a < 184
    · refine fin_eq (n3 a c3.1 c3.2) ?_
      rw [fB a (by omega), fA a (by omega) (by omega)]
      funext k
      simp (disch := omega) only [gU_1, gN_o, f4, f5]
    by_cases c4 : 184 ≤ a ∧ a < 186
    · refine fin_eq (n4 a c4.1 c4.2) ?_
      rw [fB a (by omega), fA a (by omega) (by omega)]
      funext k
      simp (disch := omega) only [gU_1, gN_o, f5]
    by_cases c5 : 186 ≤ a ∧ a < 188
    · refine fin_eq (n5 a c5.1 c5.2) ?_
      rw [fB a (by omega), fA a (by omega) (by omega)]
      funext k
      simp (disch := omega) only [gU_1, gN_o]
    rcases (show a = 171 ∨ a = 177 ∨ a = 188 ∨ a = 189 ∨ a = 190 by omega) with rfl | rfl | rfl | rfl | rfl
    · refine fin_set (K := [0, 1, 4, 6, 7, 8, 9, 10, 11, 12]) (by decide +kernel) (fun k hk => ?_)
      rw [fB 171 (by decide), fA 171 (by decide) (by omega)]
      rcases (show k = 0 ∨ k = 1 ∨ k = 4 ∨ k = 6 ∨ k = 7 ∨ k = 8 ∨ k = 9 ∨ k = 10 ∨ k = 11 ∨ k = 12 by simpa using hk) with rfl | rfl | rfl | rfl | rfl | rfl | rfl | rfl | rfl | rfl
      all_goals simp (disch := first | omega | decide) only [gU_s, gU_1, gU_2, gN_o, f1, f2, f3, f4, f5, nc_0, nc_1, nc_4, nc_6, nc_7, nc_8, nc_9, nc_10, nc_11, nc_12]
    · refine fin_set (K := List.range 30) (by decide +kernel) (fun k hk => ?_)
      rw [fB 177 (by decide)]
      exact pA k (fun h1 h2 => absurd h2 (by omega)) (by omega) (by have := List.mem_range.mp hk; omega)
    · refine fin_set (K := List.range 8) (by decide +kernel) (fun k hk => ?_)
      exact pB k (fun h1 h2 => absurd h2 (by omega)) (by omega) (by have := List.mem_range.mp hk; omega)
    · exact fin_set (K := []) (by decide +kernel) (fun k hk => absurd hk (List.not_mem_nil))
    · exact fin_set (K := []) (by decide +kernel) (fun k hk => absurd hk (List.not_mem_nil))
end IW
