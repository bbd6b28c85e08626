section SB
variable {d L T o n : Nat} {u u1 u2 : Nat → Int → Int} {wl wl1 wl2 : Nat → Int → Int} {v : Nat → Nat → Int64} {p : Bts} {i : Nat} {q k x y l z m : Int} {S R : List Int} {wh wh2 : Bool} {D D2 : List (Int × Int)} {jj : Option Value}
theorem MPS.whole (h : MPS p z q u wl i S wh k) : MPS p z q (upI u 393 18 1) wl i S true k ∧ MEf q k u (upI u 393 18 1) wl wl [] :=
  MPS.upd h (fun b h1 h2 => by rw [upI_c h1]) (fun y h1 h2 h3 => by rw [upI_2 h3]) (h.2.1.keep (by rw [upI_2 (by decide)]) (by rw [upI_c (by decide)])) (by rw [upI_2 (by decide)]; exact h.2.2.2.1) (by rw [upI_s]; rfl)
theorem nm_bd {K : Int} (h : isNm K) (hz : z = 0 ∨ z = 1) : 0 ≤ nmK K ∧ nmK K ≤ 7 ∧ (okN z K ↔ (nmK K < 5 ∨ (nmK K = 5 ∧ z = 0) ∨ (5 < nmK K ∧ z = 1))) := by
  rcases (show K = 19 ∨ K = 20 ∨ K = 21 ∨ K = 22 ∨ K = 23 ∨ K = 24 ∨ K = 7 ∨ K = 2 by omega) with rfl | rfl | rfl | rfl | rfl | rfl | rfl | rfl <;> rcases hz with rfl | rfl <;> decide
theorem nm_no {K : Int} (h : ¬ isNm K) : nmK K = -1 := by
  unfold nmK
  repeat rw [if_neg (by omega)]
theorem cons_len {x : Int × Int} {D : List (Int × Int)} : k + ((x :: D).length : Int) = k + 1 + (D.length : Int) := by show k + ((D.length + 1 : Nat) : Int) = _; omega

set_option maxHeartbeats 1000000 in
theorem b_num (O : TpOk p) (h : MPS p z q u wl i S false k) (hK : tK p i = 38) (hN : (tN p i).1 ≤ 9999) (hk : k + 1 + S.length ≤ 302) (ho : opC S ≤ 300) : ∃ u2 wl2, am_call (d + 6) 308 [.ref 393] (L, T, S0 n, am_w u, am_wl wl, R0 o) = some (some (.int (iI 0)), (L, T, S0 n, am_w u2, am_wl wl2, R0 o)) ∧ MPS p z q u2 wl2 (i + 1) (sdr 7 S) true (k + ((0, (tN p i).1) :: em0 (stk 7 S)).length) ∧ MEf q k u u2 wl wl2 ((0, (tN p i).1) :: em0 (stk 7 S)) := by
  have h9 := h.1.2.2.2.1
  have r := tk_rel O i
  unfold tkRel at r
  have e1 := m_nameOf (d := d) (L := L) (T := T) (o := o) (n := n) O h.1
  have tn := tN_ok O hK
  have t1 : tkT p (tst p i) = 1 := by omega
  have h10 := h.1.2.2.2.2.1 t1
  rw [tn.2.2.1 hN] at h10
  rw [t1] at h9
  rw [nm_none (by omega)] at e1
  clear r
  obtain ⟨u1, e2, g1, f1⟩ := m_em (d := d + 5) (L := L) (T := T) (o := o) (n := n) (x := 0) (y := (tN p i).1) h (by omega) (by decide) (by decide) (by omega) (by omega)
  obtain ⟨u2, wl2, e3, g2, f2⟩ := m_nx (d := d + 4) (L := L) (T := T) (o := o) (n := n) O g1
  have up := g2.whole
  obtain ⟨u4, e4, g4, f4⟩ := m_st (d := d + 4) (L := L) (T := T) (o := o) (n := n) (l := 7) up.1 (by omega) (by decide) (by decide) ho
  refine ⟨u4, wl2, ?_, by rw [cons_len]; exact g4, ?_⟩
  · clear f1 f2 f4 g1 g2 g4 up
    generalize (tN p i).1 = N at *
    simp (decide := true) (disch := omega) only [en_308, bk_308_0, bk_308_20, bk_308_39, bk_308_51, bk_308_64, bk_308_65, bk_308_80, bk_308_81, bk_308_101, bk_308_117, bk_308_132, bk_308_158, bk_308_180, bk_308_201, bk_308_233, bk_308_234, bq_308_0, bq_308_20, bq_308_39, bq_308_51, bq_308_64, bq_308_65, bq_308_80, bq_308_81, bq_308_101, bq_308_117, bq_308_132, bq_308_158, bq_308_180, bq_308_201, bq_308_233, bq_308_234, rn_iconst, rn_bipush, rn_sipush, rn_ldc_w, rn_ldc, rn_ldcS, rn_lconst, rn_ldc2, rn_gets, rn_iload0, rn_lload0, rn_aload0, rn_istore0, rn_astore0, rn_lstore0, rn_iinc0, rn_iload1, rn_lload1, rn_aload1, rn_istore1, rn_astore1, rn_lstore1, rn_iinc1, rn_iload2, rn_lload2, rn_aload2, rn_istore2, rn_astore2, rn_lstore2, rn_iinc2, rn_iload3, rn_lload3, rn_aload3, rn_istore3, rn_astore3, rn_lstore3, rn_iinc3, rn_iload4, rn_lload4, rn_aload4, rn_istore4, rn_astore4, rn_lstore4, rn_iinc4, rn_iload5, rn_lload5, rn_aload5, rn_istore5, rn_astore5, rn_lstore5, rn_iinc5, rn_iload6, rn_lload6, rn_aload6, rn_istore6, rn_astore6, rn_lstore6, rn_iinc6, rn_iload7, rn_aload7, rn_istore7, rn_astore7, rn_iinc7, rn_iload8, rn_aload8, rn_istore8, rn_astore8, rn_iinc8, rn_iload9, rn_aload9, rn_istore9, rn_astore9, rn_iinc9, rn_iadd, rn_isub, rn_imul, rn_iand, rn_ior, rn_ixor, rn_ishl, rn_ishr, rn_iushr, rn_idiv, rn_irem, rn_ineg, rn_ladd, rn_lsub, rn_lmul, rn_lor, rn_ldiv, rn_lrem, rn_lneg, rn_lshl, rn_lshr, rn_i2l, rn_l2i, rn_i2c, rn_lcmp, rn_dupi, rn_dupa, rn_popi, rn_popa, rn_dup2, rn_aast, rn_alen, rn_geta, rn_aald, rn_puta, rn_new, rn_newa, rn_anew, rn_min, rn_max, rn_slen, rn_chat, rn_indx, rn_objI, rn_nop, rn_goto, rn_ifeq, rn_ifne, rn_iflt, rn_ifge, rn_ifgt, rn_ifle, rn_iceq, rn_icne, rn_iclt, rn_icge, rn_icgt, rn_icle, rn_tsw, rn_lsw, rn_iret, rn_zret, rn_lret, rn_aret, rn_vret, rn_cs0, rn_cs1, rn_cs2, rn_cs3, rn_cs4, rn_cs5, rn_cs6, rn_cs7, rn_cv1, rn_ci1, rn_cv2, rn_ci2, rn_cv3, rn_ci3, rn_cv4, rn_cv5, rn_cv6, rn_cv7, cs_n, cs_i, cs_a, cs_l, rc_i, rc_a, rc_l, rc_n, rw_iald, rw_bald, rw_lald, rw_iast, rw_bast, rw_last, rw_geti, rw_getl, rw_puti, rw_putz, rw_putl, iI_add, iI_sub, iI_mul, iI_neg, iI_lt, iI_le, iI_eq, iI_lt0, iI_le0, iI_0lt, iI_0le, iI_eq0, iI_eq1, iI_div, iI_rem, am_in_ok, am_in_no, iI_toInt, iL_add, iL_sub, iL_mul, iL_neg, iL_div, iL_rem, iI_i2l, iL_l2i, iL_cmp, iL_eq0, iI_or, iI_and, iI_shl, if_true, if_false, true_or, or_true, true_and, and_true, false_or, or_false, not_true_eq_false, not_false_eq_true, Option.bind_some, Option.toList_some, Option.toList_none, List.nil_append, List.cons_append, ite_self, nc_0, nc_1, nc_2, nc_3, nc_4, nc_5, nc_6, nc_7, nc_8, nc_9, nc_10, nc_11, nc_12, nc_13, nc_14, nc_15, nc_16, nc_17, nc_18, nc_19, nc_20, nc_21, nc_22, nc_23, nc_24, nc_25, nc_26, nc_27, nc_28, nc_29, nc_30, nc_31, nc_32, nc_33, nc_34, nc_35, nc_36, nc_40, nc_48, nc_100, nc_256, nc_300, nc_304, sh_393, rf_393_0, rf_393_1, rf_393_2, rf_393_3, rf_393_15, rf_393_20, rf_393_21, rf_393_22, rf_393_27, rf_393_28, rf_393_29, rf_393_30, rf_393_34, h9, h10, e1, e2, e3, e4, mx_317, mx_316, mx_223, mx_307, if_pos, if_neg, sh_0, sh_393, rw_copy, am_cp_ok]
  · have t := ((f1.trans (k2 := k + 1) rfl f2).trans (k2 := k + 1) (by show k + 1 = k + 1; rfl) up.2).trans (k2 := k + 1) (by show k + 1 = k + 1; rfl) f4
    exact t
set_option maxHeartbeats 1000000 in
theorem b_name (O : TpOk p) (h : MPS p z q u wl i S false k) (hz : z = 0 ∨ z = 1) (hK : isNm (tK p i)) (hN : okN z (tK p i)) (hk : k + 1 + S.length ≤ 302) (ho : opC S ≤ 300) : ∃ u2 wl2, am_call (d + 6) 308 [.ref 393] (L, T, S0 n, am_w u, am_wl wl, R0 o) = some (some (.int (iI 0)), (L, T, S0 n, am_w u2, am_wl wl2, R0 o)) ∧ MPS p z q u2 wl2 (i + 1) (sdr 7 S) true (k + ((1, nmK (tK p i)) :: em0 (stk 7 S)).length) ∧ MEf q k u u2 wl wl2 ((1, nmK (tK p i)) :: em0 (stk 7 S)) := by
  have h9 := h.1.2.2.2.1
  have r := tk_rel O i
  unfold tkRel at r
  have e1 := m_nameOf (d := d) (L := L) (T := T) (o := o) (n := n) O h.1
  obtain ⟨n0, n1, n2⟩ := nm_bd hK hz
  have t1 : tkT p (tst p i) = 2 := by omega
  rw [t1] at h9
  clear r
  have e5 := m_isOf (d := d + 5) (L := L) (T := T) (o := o) (n := n) (u := u) (v := am_wl wl) (z := z) (x := nmK (tK p i)) n0 n1 h.2.2.2.2.2 hz
  rw [bI_t (n2.mp hN)] at e5
  obtain ⟨u1, e2, g1, f1⟩ := m_em (d := d + 5) (L := L) (T := T) (o := o) (n := n) (x := 1) (y := nmK (tK p i)) h (by omega) (by decide) (by decide) (by omega) (by omega)
  obtain ⟨u2, wl2, e3, g2, f2⟩ := m_nx (d := d + 4) (L := L) (T := T) (o := o) (n := n) O g1
  have up := g2.whole
  obtain ⟨u4, e4, g4, f4⟩ := m_st (d := d + 4) (L := L) (T := T) (o := o) (n := n) (l := 7) up.1 (by omega) (by decide) (by decide) ho
  refine ⟨u4, wl2, ?_, by rw [cons_len]; exact g4, ?_⟩
  · clear f1 f2 f4 g1 g2 g4 up
    clear n2 hN hK
    generalize nmK (tK p i) = N at *
    simp (decide := true) (disch := omega) only [en_308, bk_308_0, bk_308_20, bk_308_39, bk_308_51, bk_308_64, bk_308_65, bk_308_80, bk_308_81, bk_308_101, bk_308_117, bk_308_132, bk_308_158, bk_308_180, bk_308_201, bk_308_233, bk_308_234, bq_308_0, bq_308_20, bq_308_39, bq_308_51, bq_308_64, bq_308_65, bq_308_80, bq_308_81, bq_308_101, bq_308_117, bq_308_132, bq_308_158, bq_308_180, bq_308_201, bq_308_233, bq_308_234, rn_iconst, rn_bipush, rn_sipush, rn_ldc_w, rn_ldc, rn_ldcS, rn_lconst, rn_ldc2, rn_gets, rn_iload0, rn_lload0, rn_aload0, rn_istore0, rn_astore0, rn_lstore0, rn_iinc0, rn_iload1, rn_lload1, rn_aload1, rn_istore1, rn_astore1, rn_lstore1, rn_iinc1, rn_iload2, rn_lload2, rn_aload2, rn_istore2, rn_astore2, rn_lstore2, rn_iinc2, rn_iload3, rn_lload3, rn_aload3, rn_istore3, rn_astore3, rn_lstore3, rn_iinc3, rn_iload4, rn_lload4, rn_aload4, rn_istore4, rn_astore4, rn_lstore4, rn_iinc4, rn_iload5, rn_lload5, rn_aload5, rn_istore5, rn_astore5, rn_lstore5, rn_iinc5, rn_iload6, rn_lload6, rn_aload6, rn_istore6, rn_astore6, rn_lstore6, rn_iinc6, rn_iload7, rn_aload7, rn_istore7, rn_astore7, rn_iinc7, rn_iload8, rn_aload8, rn_istore8, rn_astore8, rn_iinc8, rn_iload9, rn_aload9, rn_istore9, rn_astore9, rn_iinc9, rn_iadd, rn_isub, rn_imul, rn_iand, rn_ior, rn_ixor, rn_ishl, rn_ishr, rn_iushr, rn_idiv, rn_irem, rn_ineg, rn_ladd, rn_lsub, rn_lmul, rn_lor, rn_ldiv, rn_lrem, rn_lneg, rn_lshl, rn_lshr, rn_i2l, rn_l2i, rn_i2c, rn_lcmp, rn_dupi, rn_dupa, rn_popi, rn_popa, rn_dup2, rn_aast, rn_alen, rn_geta, rn_aald, rn_puta, rn_new, rn_newa, rn_anew, rn_min, rn_max, rn_slen, rn_chat, rn_indx, rn_objI, rn_nop, rn_goto, rn_ifeq, rn_ifne, rn_iflt, rn_ifge, rn_ifgt, rn_ifle, rn_iceq, rn_icne, rn_iclt, rn_icge, rn_icgt, rn_icle, rn_tsw, rn_lsw, rn_iret, rn_zret, rn_lret, rn_aret, rn_vret, rn_cs0, rn_cs1, rn_cs2, rn_cs3, rn_cs4, rn_cs5, rn_cs6, rn_cs7, rn_cv1, rn_ci1, rn_cv2, rn_ci2, rn_cv3, rn_ci3, rn_cv4, rn_cv5, rn_cv6, rn_cv7, cs_n, cs_i, cs_a, cs_l, rc_i, rc_a, rc_l, rc_n, rw_iald, rw_bald, rw_lald, rw_iast, rw_bast, rw_last, rw_geti, rw_getl, rw_puti, rw_putz, rw_putl, iI_add, iI_sub, iI_mul, iI_neg, iI_lt, iI_le, iI_eq, iI_lt0, iI_le0, iI_0lt, iI_0le, iI_eq0, iI_eq1, iI_div, iI_rem, am_in_ok, am_in_no, iI_toInt, iL_add, iL_sub, iL_mul, iL_neg, iL_div, iL_rem, iI_i2l, iL_l2i, iL_cmp, iL_eq0, iI_or, iI_and, iI_shl, if_true, if_false, true_or, or_true, true_and, and_true, false_or, or_false, not_true_eq_false, not_false_eq_true, Option.bind_some, Option.toList_some, Option.toList_none, List.nil_append, List.cons_append, ite_self, nc_0, nc_1, nc_2, nc_3, nc_4, nc_5, nc_6, nc_7, nc_8, nc_9, nc_10, nc_11, nc_12, nc_13, nc_14, nc_15, nc_16, nc_17, nc_18, nc_19, nc_20, nc_21, nc_22, nc_23, nc_24, nc_25, nc_26, nc_27, nc_28, nc_29, nc_30, nc_31, nc_32, nc_33, nc_34, nc_35, nc_36, nc_40, nc_48, nc_100, nc_256, nc_300, nc_304, sh_393, rf_393_0, rf_393_1, rf_393_2, rf_393_3, rf_393_15, rf_393_20, rf_393_21, rf_393_22, rf_393_27, rf_393_28, rf_393_29, rf_393_30, rf_393_34, h9, e1, e2, e3, e4, e5, mx_317, mx_318, mx_316, mx_223, mx_307, if_pos, if_neg, sh_0, sh_393, rw_copy, am_cp_ok]
  · have t := ((f1.trans (k2 := k + 1) rfl f2).trans (k2 := k + 1) (by show k + 1 = k + 1; rfl) up.2).trans (k2 := k + 1) (by show k + 1 = k + 1; rfl) f4
    exact t
set_option maxHeartbeats 1000000 in
theorem b_f2 (O : TpOk p) (h : MPS p z q u wl i S false k) (hK : tK p i = 38) (hN : 9999 < (tN p i).1) : am_call (d + 6) 308 [.ref 393] (L, T, S0 n, am_w u, am_wl wl, R0 o) = some (some (.int (iI 2)), (L, T, S0 n, am_w u, am_wl wl, R0 o)) := by
  have h9 := h.1.2.2.2.1
  have r := tk_rel O i
  unfold tkRel at r
  have tn := tN_ok O hK
  have t1 : tkT p (tst p i) = 1 := by omega
  have h10 := h.1.2.2.2.2.1 t1
  have tm := tn.2.2.2.1 (by omega)
  have tx := tn.2.2.2.2
  rw [t1] at h9
  clear r tn h
  generalize (tN p i).2 = N at *
  simp (decide := true) (disch := omega) only [en_308, bk_308_0, bk_308_20, bk_308_39, bk_308_51, bk_308_64, bk_308_65, bk_308_80, bk_308_81, bk_308_101, bk_308_117, bk_308_132, bk_308_158, bk_308_180, bk_308_201, bk_308_233, bk_308_234, bq_308_0, bq_308_20, bq_308_39, bq_308_51, bq_308_64, bq_308_65, bq_308_80, bq_308_81, bq_308_101, bq_308_117, bq_308_132, bq_308_158, bq_308_180, bq_308_201, bq_308_233, bq_308_234, rn_iconst, rn_bipush, rn_sipush, rn_ldc_w, rn_ldc, rn_ldcS, rn_lconst, rn_ldc2, rn_gets, rn_iload0, rn_lload0, rn_aload0, rn_istore0, rn_astore0, rn_lstore0, rn_iinc0, rn_iload1, rn_lload1, rn_aload1, rn_istore1, rn_astore1, rn_lstore1, rn_iinc1, rn_iload2, rn_lload2, rn_aload2, rn_istore2, rn_astore2, rn_lstore2, rn_iinc2, rn_iload3, rn_lload3, rn_aload3, rn_istore3, rn_astore3, rn_lstore3, rn_iinc3, rn_iload4, rn_lload4, rn_aload4, rn_istore4, rn_astore4, rn_lstore4, rn_iinc4, rn_iload5, rn_lload5, rn_aload5, rn_istore5, rn_astore5, rn_lstore5, rn_iinc5, rn_iload6, rn_lload6, rn_aload6, rn_istore6, rn_astore6, rn_lstore6, rn_iinc6, rn_iload7, rn_aload7, rn_istore7, rn_astore7, rn_iinc7, rn_iload8, rn_aload8, rn_istore8, rn_astore8, rn_iinc8, rn_iload9, rn_aload9, rn_istore9, rn_astore9, rn_iinc9, rn_iadd, rn_isub, rn_imul, rn_iand, rn_ior, rn_ixor, rn_ishl, rn_ishr, rn_iushr, rn_idiv, rn_irem, rn_ineg, rn_ladd, rn_lsub, rn_lmul, rn_lor, rn_ldiv, rn_lrem, rn_lneg, rn_lshl, rn_lshr, rn_i2l, rn_l2i, rn_i2c, rn_lcmp, rn_dupi, rn_dupa, rn_popi, rn_popa, rn_dup2, rn_aast, rn_alen, rn_geta, rn_aald, rn_puta, rn_new, rn_newa, rn_anew, rn_min, rn_max, rn_slen, rn_chat, rn_indx, rn_objI, rn_nop, rn_goto, rn_ifeq, rn_ifne, rn_iflt, rn_ifge, rn_ifgt, rn_ifle, rn_iceq, rn_icne, rn_iclt, rn_icge, rn_icgt, rn_icle, rn_tsw, rn_lsw, rn_iret, rn_zret, rn_lret, rn_aret, rn_vret, rn_cs0, rn_cs1, rn_cs2, rn_cs3, rn_cs4, rn_cs5, rn_cs6, rn_cs7, rn_cv1, rn_ci1, rn_cv2, rn_ci2, rn_cv3, rn_ci3, rn_cv4, rn_cv5, rn_cv6, rn_cv7, cs_n, cs_i, cs_a, cs_l, rc_i, rc_a, rc_l, rc_n, rw_iald, rw_bald, rw_lald, rw_iast, rw_bast, rw_last, rw_geti, rw_getl, rw_puti, rw_putz, rw_putl, iI_add, iI_sub, iI_mul, iI_neg, iI_lt, iI_le, iI_eq, iI_lt0, iI_le0, iI_0lt, iI_0le, iI_eq0, iI_eq1, iI_div, iI_rem, am_in_ok, am_in_no, iI_toInt, iL_add, iL_sub, iL_mul, iL_neg, iL_div, iL_rem, iI_i2l, iL_l2i, iL_cmp, iL_eq0, iI_or, iI_and, iI_shl, if_true, if_false, true_or, or_true, true_and, and_true, false_or, or_false, not_true_eq_false, not_false_eq_true, Option.bind_some, Option.toList_some, Option.toList_none, List.nil_append, List.cons_append, ite_self, nc_0, nc_1, nc_2, nc_3, nc_4, nc_5, nc_6, nc_7, nc_8, nc_9, nc_10, nc_11, nc_12, nc_13, nc_14, nc_15, nc_16, nc_17, nc_18, nc_19, nc_20, nc_21, nc_22, nc_23, nc_24, nc_25, nc_26, nc_27, nc_28, nc_29, nc_30, nc_31, nc_32, nc_33, nc_34, nc_35, nc_36, nc_40, nc_48, nc_100, nc_256, nc_300, nc_304, sh_393, rf_393_0, rf_393_1, rf_393_2, rf_393_3, rf_393_15, rf_393_20, rf_393_21, rf_393_22, rf_393_27, rf_393_28, rf_393_29, rf_393_30, rf_393_34, h9, h10, if_pos, if_neg, sh_0, sh_393, rw_copy, am_cp_ok]
set_option maxHeartbeats 1000000 in
theorem b_f5 (O : TpOk p) (h : MPS p z q u wl i S false k) (hz : z = 0 ∨ z = 1) (hK : isNm (tK p i)) (hN : ¬ okN z (tK p i)) : am_call (d + 6) 308 [.ref 393] (L, T, S0 n, am_w u, am_wl wl, R0 o) = some (some (.int (iI 5)), (L, T, S0 n, am_w u, am_wl wl, R0 o)) := by
  have h9 := h.1.2.2.2.1
  have r := tk_rel O i
  unfold tkRel at r
  have e1 := m_nameOf (d := d) (L := L) (T := T) (o := o) (n := n) O h.1
  obtain ⟨n0, n1, n2⟩ := nm_bd hK hz
  have t1 : tkT p (tst p i) = 2 := by omega
  rw [t1] at h9
  clear r
  have e5 := m_isOf (d := d + 5) (L := L) (T := T) (o := o) (n := n) (u := u) (v := am_wl wl) (z := z) (x := nmK (tK p i)) n0 n1 h.2.2.2.2.2 hz
  rw [bI_f (fun g => hN (n2.mpr g))] at e5
  clear n2 hN hK h
  generalize nmK (tK p i) = N at *
  simp (decide := true) (disch := omega) only [en_308, bk_308_0, bk_308_20, bk_308_39, bk_308_51, bk_308_64, bk_308_65, bk_308_80, bk_308_81, bk_308_101, bk_308_117, bk_308_132, bk_308_158, bk_308_180, bk_308_201, bk_308_233, bk_308_234, bq_308_0, bq_308_20, bq_308_39, bq_308_51, bq_308_64, bq_308_65, bq_308_80, bq_308_81, bq_308_101, bq_308_117, bq_308_132, bq_308_158, bq_308_180, bq_308_201, bq_308_233, bq_308_234, rn_iconst, rn_bipush, rn_sipush, rn_ldc_w, rn_ldc, rn_ldcS, rn_lconst, rn_ldc2, rn_gets, rn_iload0, rn_lload0, rn_aload0, rn_istore0, rn_astore0, rn_lstore0, rn_iinc0, rn_iload1, rn_lload1, rn_aload1, rn_istore1, rn_astore1, rn_lstore1, rn_iinc1, rn_iload2, rn_lload2, rn_aload2, rn_istore2, rn_astore2, rn_lstore2, rn_iinc2, rn_iload3, rn_lload3, rn_aload3, rn_istore3, rn_astore3, rn_lstore3, rn_iinc3, rn_iload4, rn_lload4, rn_aload4, rn_istore4, rn_astore4, rn_lstore4, rn_iinc4, rn_iload5, rn_lload5, rn_aload5, rn_istore5, rn_astore5, rn_lstore5, rn_iinc5, rn_iload6, rn_lload6, rn_aload6, rn_istore6, rn_astore6, rn_lstore6, rn_iinc6, rn_iload7, rn_aload7, rn_istore7, rn_astore7, rn_iinc7, rn_iload8, rn_aload8, rn_istore8, rn_astore8, rn_iinc8, rn_iload9, rn_aload9, rn_istore9, rn_astore9, rn_iinc9, rn_iadd, rn_isub, rn_imul, rn_iand, rn_ior, rn_ixor, rn_ishl, rn_ishr, rn_iushr, rn_idiv, rn_irem, rn_ineg, rn_ladd, rn_lsub, rn_lmul, rn_lor, rn_ldiv, rn_lrem, rn_lneg, rn_lshl, rn_lshr, rn_i2l, rn_l2i, rn_i2c, rn_lcmp, rn_dupi, rn_dupa, rn_popi, rn_popa, rn_dup2, rn_aast, rn_alen, rn_geta, rn_aald, rn_puta, rn_new, rn_newa, rn_anew, rn_min, rn_max, rn_slen, rn_chat, rn_indx, rn_objI, rn_nop, rn_goto, rn_ifeq, rn_ifne, rn_iflt, rn_ifge, rn_ifgt, rn_ifle, rn_iceq, rn_icne, rn_iclt, rn_icge, rn_icgt, rn_icle, rn_tsw, rn_lsw, rn_iret, rn_zret, rn_lret, rn_aret, rn_vret, rn_cs0, rn_cs1, rn_cs2, rn_cs3, rn_cs4, rn_cs5, rn_cs6, rn_cs7, rn_cv1, rn_ci1, rn_cv2, rn_ci2, rn_cv3, rn_ci3, rn_cv4, rn_cv5, rn_cv6, rn_cv7, cs_n, cs_i, cs_a, cs_l, rc_i, rc_a, rc_l, rc_n, rw_iald, rw_bald, rw_lald, rw_iast, rw_bast, rw_last, rw_geti, rw_getl, rw_puti, rw_putz, rw_putl, iI_add, iI_sub, iI_mul, iI_neg, iI_lt, iI_le, iI_eq, iI_lt0, iI_le0, iI_0lt, iI_0le, iI_eq0, iI_eq1, iI_div, iI_rem, am_in_ok, am_in_no, iI_toInt, iL_add, iL_sub, iL_mul, iL_neg, iL_div, iL_rem, iI_i2l, iL_l2i, iL_cmp, iL_eq0, iI_or, iI_and, iI_shl, if_true, if_false, true_or, or_true, true_and, and_true, false_or, or_false, not_true_eq_false, not_false_eq_true, Option.bind_some, Option.toList_some, Option.toList_none, List.nil_append, List.cons_append, ite_self, nc_0, nc_1, nc_2, nc_3, nc_4, nc_5, nc_6, nc_7, nc_8, nc_9, nc_10, nc_11, nc_12, nc_13, nc_14, nc_15, nc_16, nc_17, nc_18, nc_19, nc_20, nc_21, nc_22, nc_23, nc_24, nc_25, nc_26, nc_27, nc_28, nc_29, nc_30, nc_31, nc_32, nc_33, nc_34, nc_35, nc_36, nc_40, nc_48, nc_100, nc_256, nc_300, nc_304, sh_393, rf_393_0, rf_393_1, rf_393_2, rf_393_3, rf_393_15, rf_393_20, rf_393_21, rf_393_22, rf_393_27, rf_393_28, rf_393_29, rf_393_30, rf_393_34, h9, e1, e5, mx_317, mx_318, if_pos, if_neg, sh_0, sh_393, rw_copy, am_cp_ok]
set_option maxHeartbeats 1000000 in
theorem b_o29 (O : TpOk p) (h : MPS p z q u wl i S false k) (hK : tK p i = 29) {M2 : am_M} {c : Int} (e : am_call (d + 5) 319 [.ref 393, .int (iI 40)] (L, T, S0 n, am_w u, am_wl wl, R0 o) = some (some (.int (iI c)), M2)) : am_call (d + 6) 308 [.ref 393] (L, T, S0 n, am_w u, am_wl wl, R0 o) = some (some (.int (iI c)), M2) := by
  have h9 := h.1.2.2.2.1
  have r := tk_rel O i
  unfold tkRel at r
  have e1 := m_nameOf (d := d) (L := L) (T := T) (o := o) (n := n) O h.1
  rw [nm_no (by omega)] at e1
  have t1 : tkT p (tst p i) = 40 := by omega
  rw [t1] at h9
  clear r h
  simp (decide := true) (disch := omega) only [en_308, bk_308_0, bk_308_20, bk_308_39, bk_308_51, bk_308_64, bk_308_65, bk_308_80, bk_308_81, bk_308_101, bk_308_117, bk_308_132, bk_308_158, bk_308_180, bk_308_201, bk_308_233, bk_308_234, bq_308_0, bq_308_20, bq_308_39, bq_308_51, bq_308_64, bq_308_65, bq_308_80, bq_308_81, bq_308_101, bq_308_117, bq_308_132, bq_308_158, bq_308_180, bq_308_201, bq_308_233, bq_308_234, rn_iconst, rn_bipush, rn_sipush, rn_ldc_w, rn_ldc, rn_ldcS, rn_lconst, rn_ldc2, rn_gets, rn_iload0, rn_lload0, rn_aload0, rn_istore0, rn_astore0, rn_lstore0, rn_iinc0, rn_iload1, rn_lload1, rn_aload1, rn_istore1, rn_astore1, rn_lstore1, rn_iinc1, rn_iload2, rn_lload2, rn_aload2, rn_istore2, rn_astore2, rn_lstore2, rn_iinc2, rn_iload3, rn_lload3, rn_aload3, rn_istore3, rn_astore3, rn_lstore3, rn_iinc3, rn_iload4, rn_lload4, rn_aload4, rn_istore4, rn_astore4, rn_lstore4, rn_iinc4, rn_iload5, rn_lload5, rn_aload5, rn_istore5, rn_astore5, rn_lstore5, rn_iinc5, rn_iload6, rn_lload6, rn_aload6, rn_istore6, rn_astore6, rn_lstore6, rn_iinc6, rn_iload7, rn_aload7, rn_istore7, rn_astore7, rn_iinc7, rn_iload8, rn_aload8, rn_istore8, rn_astore8, rn_iinc8, rn_iload9, rn_aload9, rn_istore9, rn_astore9, rn_iinc9, rn_iadd, rn_isub, rn_imul, rn_iand, rn_ior, rn_ixor, rn_ishl, rn_ishr, rn_iushr, rn_idiv, rn_irem, rn_ineg, rn_ladd, rn_lsub, rn_lmul, rn_lor, rn_ldiv, rn_lrem, rn_lneg, rn_lshl, rn_lshr, rn_i2l, rn_l2i, rn_i2c, rn_lcmp, rn_dupi, rn_dupa, rn_popi, rn_popa, rn_dup2, rn_aast, rn_alen, rn_geta, rn_aald, rn_puta, rn_new, rn_newa, rn_anew, rn_min, rn_max, rn_slen, rn_chat, rn_indx, rn_objI, rn_nop, rn_goto, rn_ifeq, rn_ifne, rn_iflt, rn_ifge, rn_ifgt, rn_ifle, rn_iceq, rn_icne, rn_iclt, rn_icge, rn_icgt, rn_icle, rn_tsw, rn_lsw, rn_iret, rn_zret, rn_lret, rn_aret, rn_vret, rn_cs0, rn_cs1, rn_cs2, rn_cs3, rn_cs4, rn_cs5, rn_cs6, rn_cs7, rn_cv1, rn_ci1, rn_cv2, rn_ci2, rn_cv3, rn_ci3, rn_cv4, rn_cv5, rn_cv6, rn_cv7, cs_n, cs_i, cs_a, cs_l, rc_i, rc_a, rc_l, rc_n, rw_iald, rw_bald, rw_lald, rw_iast, rw_bast, rw_last, rw_geti, rw_getl, rw_puti, rw_putz, rw_putl, iI_add, iI_sub, iI_mul, iI_neg, iI_lt, iI_le, iI_eq, iI_lt0, iI_le0, iI_0lt, iI_0le, iI_eq0, iI_eq1, iI_div, iI_rem, am_in_ok, am_in_no, iI_toInt, iL_add, iL_sub, iL_mul, iL_neg, iL_div, iL_rem, iI_i2l, iL_l2i, iL_cmp, iL_eq0, iI_or, iI_and, iI_shl, if_true, if_false, true_or, or_true, true_and, and_true, false_or, or_false, not_true_eq_false, not_false_eq_true, Option.bind_some, Option.toList_some, Option.toList_none, List.nil_append, List.cons_append, ite_self, nc_0, nc_1, nc_2, nc_3, nc_4, nc_5, nc_6, nc_7, nc_8, nc_9, nc_10, nc_11, nc_12, nc_13, nc_14, nc_15, nc_16, nc_17, nc_18, nc_19, nc_20, nc_21, nc_22, nc_23, nc_24, nc_25, nc_26, nc_27, nc_28, nc_29, nc_30, nc_31, nc_32, nc_33, nc_34, nc_35, nc_36, nc_40, nc_48, nc_100, nc_256, nc_300, nc_304, sh_393, rf_393_0, rf_393_1, rf_393_2, rf_393_3, rf_393_15, rf_393_20, rf_393_21, rf_393_22, rf_393_27, rf_393_28, rf_393_29, rf_393_30, rf_393_34, h9, e1, e, mx_317, mx_287, mx_292, mx_289, mx_286, mx_320, mx_319, if_pos, if_neg, sh_0, sh_393, rw_copy, am_cp_ok]
set_option maxHeartbeats 1000000 in
theorem b_o26 (O : TpOk p) (h : MPS p z q u wl i S false k) (hK : tK p i = 26) {M2 : am_M} {c : Int} (e : am_call (d + 5) 319 [.ref 393, .int (iI 5)] (L, T, S0 n, am_w u, am_wl wl, R0 o) = some (some (.int (iI c)), M2)) : am_call (d + 6) 308 [.ref 393] (L, T, S0 n, am_w u, am_wl wl, R0 o) = some (some (.int (iI c)), M2) := by
  have h9 := h.1.2.2.2.1
  have r := tk_rel O i
  unfold tkRel at r
  have e1 := m_nameOf (d := d) (L := L) (T := T) (o := o) (n := n) O h.1
  rw [nm_no (by omega)] at e1
  have t1 : tkT p (tst p i) = 45 := by omega
  rw [t1] at h9
  clear r h
  simp (decide := true) (disch := omega) only [en_308, bk_308_0, bk_308_20, bk_308_39, bk_308_51, bk_308_64, bk_308_65, bk_308_80, bk_308_81, bk_308_101, bk_308_117, bk_308_132, bk_308_158, bk_308_180, bk_308_201, bk_308_233, bk_308_234, bq_308_0, bq_308_20, bq_308_39, bq_308_51, bq_308_64, bq_308_65, bq_308_80, bq_308_81, bq_308_101, bq_308_117, bq_308_132, bq_308_158, bq_308_180, bq_308_201, bq_308_233, bq_308_234, rn_iconst, rn_bipush, rn_sipush, rn_ldc_w, rn_ldc, rn_ldcS, rn_lconst, rn_ldc2, rn_gets, rn_iload0, rn_lload0, rn_aload0, rn_istore0, rn_astore0, rn_lstore0, rn_iinc0, rn_iload1, rn_lload1, rn_aload1, rn_istore1, rn_astore1, rn_lstore1, rn_iinc1, rn_iload2, rn_lload2, rn_aload2, rn_istore2, rn_astore2, rn_lstore2, rn_iinc2, rn_iload3, rn_lload3, rn_aload3, rn_istore3, rn_astore3, rn_lstore3, rn_iinc3, rn_iload4, rn_lload4, rn_aload4, rn_istore4, rn_astore4, rn_lstore4, rn_iinc4, rn_iload5, rn_lload5, rn_aload5, rn_istore5, rn_astore5, rn_lstore5, rn_iinc5, rn_iload6, rn_lload6, rn_aload6, rn_istore6, rn_astore6, rn_lstore6, rn_iinc6, rn_iload7, rn_aload7, rn_istore7, rn_astore7, rn_iinc7, rn_iload8, rn_aload8, rn_istore8, rn_astore8, rn_iinc8, rn_iload9, rn_aload9, rn_istore9, rn_astore9, rn_iinc9, rn_iadd, rn_isub, rn_imul, rn_iand, rn_ior, rn_ixor, rn_ishl, rn_ishr, rn_iushr, rn_idiv, rn_irem, rn_ineg, rn_ladd, rn_lsub, rn_lmul, rn_lor, rn_ldiv, rn_lrem, rn_lneg, rn_lshl, rn_lshr, rn_i2l, rn_l2i, rn_i2c, rn_lcmp, rn_dupi, rn_dupa, rn_popi, rn_popa, rn_dup2, rn_aast, rn_alen, rn_geta, rn_aald, rn_puta, rn_new, rn_newa, rn_anew, rn_min, rn_max, rn_slen, rn_chat, rn_indx, rn_objI, rn_nop, rn_goto, rn_ifeq, rn_ifne, rn_iflt, rn_ifge, rn_ifgt, rn_ifle, rn_iceq, rn_icne, rn_iclt, rn_icge, rn_icgt, rn_icle, rn_tsw, rn_lsw, rn_iret, rn_zret, rn_lret, rn_aret, rn_vret, rn_cs0, rn_cs1, rn_cs2, rn_cs3, rn_cs4, rn_cs5, rn_cs6, rn_cs7, rn_cv1, rn_ci1, rn_cv2, rn_ci2, rn_cv3, rn_ci3, rn_cv4, rn_cv5, rn_cv6, rn_cv7, cs_n, cs_i, cs_a, cs_l, rc_i, rc_a, rc_l, rc_n, rw_iald, rw_bald, rw_lald, rw_iast, rw_bast, rw_last, rw_geti, rw_getl, rw_puti, rw_putz, rw_putl, iI_add, iI_sub, iI_mul, iI_neg, iI_lt, iI_le, iI_eq, iI_lt0, iI_le0, iI_0lt, iI_0le, iI_eq0, iI_eq1, iI_div, iI_rem, am_in_ok, am_in_no, iI_toInt, iL_add, iL_sub, iL_mul, iL_neg, iL_div, iL_rem, iI_i2l, iL_l2i, iL_cmp, iL_eq0, iI_or, iI_and, iI_shl, if_true, if_false, true_or, or_true, true_and, and_true, false_or, or_false, not_true_eq_false, not_false_eq_true, Option.bind_some, Option.toList_some, Option.toList_none, List.nil_append, List.cons_append, ite_self, nc_0, nc_1, nc_2, nc_3, nc_4, nc_5, nc_6, nc_7, nc_8, nc_9, nc_10, nc_11, nc_12, nc_13, nc_14, nc_15, nc_16, nc_17, nc_18, nc_19, nc_20, nc_21, nc_22, nc_23, nc_24, nc_25, nc_26, nc_27, nc_28, nc_29, nc_30, nc_31, nc_32, nc_33, nc_34, nc_35, nc_36, nc_40, nc_48, nc_100, nc_256, nc_300, nc_304, sh_393, rf_393_0, rf_393_1, rf_393_2, rf_393_3, rf_393_15, rf_393_20, rf_393_21, rf_393_22, rf_393_27, rf_393_28, rf_393_29, rf_393_30, rf_393_34, h9, e1, e, mx_317, mx_287, mx_292, mx_289, mx_286, mx_320, mx_319, if_pos, if_neg, sh_0, sh_393, rw_copy, am_cp_ok]
set_option maxHeartbeats 1000000 in
theorem b_o10 (O : TpOk p) (h : MPS p z q u wl i S false k) (hK : tK p i = 10) {M2 : am_M} {c : Int} (e : am_call (d + 5) 319 [.ref 393, .int (iI 2)] (L, T, S0 n, am_w u, am_wl wl, R0 o) = some (some (.int (iI c)), M2)) : am_call (d + 6) 308 [.ref 393] (L, T, S0 n, am_w u, am_wl wl, R0 o) = some (some (.int (iI c)), M2) := by
  have h9 := h.1.2.2.2.1
  have r := tk_rel O i
  unfold tkRel at r
  have e1 := m_nameOf (d := d) (L := L) (T := T) (o := o) (n := n) O h.1
  rw [nm_no (by omega)] at e1
  have w10 : am_call (d + 5) 287 [.ref 393, .long (iL (cw 10))] (L, T, S0 n, am_w u, am_wl wl, R0 o) = some (some (.int (iI (bI (tK p i = 10)))), (L, T, S0 n, am_w u, am_wl wl, R0 o)) := m_isWord (d := d + 5) (L := L) (T := T) (o := o) (n := n) O h.1 (j := 10) (by decide)
  have v10 := mw_10 (d := d + 1) (M := (L, T, S0 n, am_w u, am_wl wl, R0 o))
  generalize cw 10 = y10 at w10 v10
  rw [bI_t (by omega)] at w10
  have t1 : tkT p (tst p i) = 2 := by omega
  rw [t1] at h9
  clear r h
  simp (decide := true) (disch := omega) only [en_308, bk_308_0, bk_308_20, bk_308_39, bk_308_51, bk_308_64, bk_308_65, bk_308_80, bk_308_81, bk_308_101, bk_308_117, bk_308_132, bk_308_158, bk_308_180, bk_308_201, bk_308_233, bk_308_234, bq_308_0, bq_308_20, bq_308_39, bq_308_51, bq_308_64, bq_308_65, bq_308_80, bq_308_81, bq_308_101, bq_308_117, bq_308_132, bq_308_158, bq_308_180, bq_308_201, bq_308_233, bq_308_234, rn_iconst, rn_bipush, rn_sipush, rn_ldc_w, rn_ldc, rn_ldcS, rn_lconst, rn_ldc2, rn_gets, rn_iload0, rn_lload0, rn_aload0, rn_istore0, rn_astore0, rn_lstore0, rn_iinc0, rn_iload1, rn_lload1, rn_aload1, rn_istore1, rn_astore1, rn_lstore1, rn_iinc1, rn_iload2, rn_lload2, rn_aload2, rn_istore2, rn_astore2, rn_lstore2, rn_iinc2, rn_iload3, rn_lload3, rn_aload3, rn_istore3, rn_astore3, rn_lstore3, rn_iinc3, rn_iload4, rn_lload4, rn_aload4, rn_istore4, rn_astore4, rn_lstore4, rn_iinc4, rn_iload5, rn_lload5, rn_aload5, rn_istore5, rn_astore5, rn_lstore5, rn_iinc5, rn_iload6, rn_lload6, rn_aload6, rn_istore6, rn_astore6, rn_lstore6, rn_iinc6, rn_iload7, rn_aload7, rn_istore7, rn_astore7, rn_iinc7, rn_iload8, rn_aload8, rn_istore8, rn_astore8, rn_iinc8, rn_iload9, rn_aload9, rn_istore9, rn_astore9, rn_iinc9, rn_iadd, rn_isub, rn_imul, rn_iand, rn_ior, rn_ixor, rn_ishl, rn_ishr, rn_iushr, rn_idiv, rn_irem, rn_ineg, rn_ladd, rn_lsub, rn_lmul, rn_lor, rn_ldiv, rn_lrem, rn_lneg, rn_lshl, rn_lshr, rn_i2l, rn_l2i, rn_i2c, rn_lcmp, rn_dupi, rn_dupa, rn_popi, rn_popa, rn_dup2, rn_aast, rn_alen, rn_geta, rn_aald, rn_puta, rn_new, rn_newa, rn_anew, rn_min, rn_max, rn_slen, rn_chat, rn_indx, rn_objI, rn_nop, rn_goto, rn_ifeq, rn_ifne, rn_iflt, rn_ifge, rn_ifgt, rn_ifle, rn_iceq, rn_icne, rn_iclt, rn_icge, rn_icgt, rn_icle, rn_tsw, rn_lsw, rn_iret, rn_zret, rn_lret, rn_aret, rn_vret, rn_cs0, rn_cs1, rn_cs2, rn_cs3, rn_cs4, rn_cs5, rn_cs6, rn_cs7, rn_cv1, rn_ci1, rn_cv2, rn_ci2, rn_cv3, rn_ci3, rn_cv4, rn_cv5, rn_cv6, rn_cv7, cs_n, cs_i, cs_a, cs_l, rc_i, rc_a, rc_l, rc_n, rw_iald, rw_bald, rw_lald, rw_iast, rw_bast, rw_last, rw_geti, rw_getl, rw_puti, rw_putz, rw_putl, iI_add, iI_sub, iI_mul, iI_neg, iI_lt, iI_le, iI_eq, iI_lt0, iI_le0, iI_0lt, iI_0le, iI_eq0, iI_eq1, iI_div, iI_rem, am_in_ok, am_in_no, iI_toInt, iL_add, iL_sub, iL_mul, iL_neg, iL_div, iL_rem, iI_i2l, iL_l2i, iL_cmp, iL_eq0, iI_or, iI_and, iI_shl, if_true, if_false, true_or, or_true, true_and, and_true, false_or, or_false, not_true_eq_false, not_false_eq_true, Option.bind_some, Option.toList_some, Option.toList_none, List.nil_append, List.cons_append, ite_self, nc_0, nc_1, nc_2, nc_3, nc_4, nc_5, nc_6, nc_7, nc_8, nc_9, nc_10, nc_11, nc_12, nc_13, nc_14, nc_15, nc_16, nc_17, nc_18, nc_19, nc_20, nc_21, nc_22, nc_23, nc_24, nc_25, nc_26, nc_27, nc_28, nc_29, nc_30, nc_31, nc_32, nc_33, nc_34, nc_35, nc_36, nc_40, nc_48, nc_100, nc_256, nc_300, nc_304, sh_393, rf_393_0, rf_393_1, rf_393_2, rf_393_3, rf_393_15, rf_393_20, rf_393_21, rf_393_22, rf_393_27, rf_393_28, rf_393_29, rf_393_30, rf_393_34, h9, e1, e, w10, v10, mx_317, mx_287, mx_292, mx_289, mx_286, mx_320, mx_319, if_pos, if_neg, sh_0, sh_393, rw_copy, am_cp_ok]
set_option maxHeartbeats 1000000 in
theorem b_o11 (O : TpOk p) (h : MPS p z q u wl i S false k) (hK : tK p i = 11) {M2 : am_M} {c : Int} (e : am_call (d + 5) 319 [.ref 393, .int (iI 4)] (L, T, S0 n, am_w u, am_wl wl, R0 o) = some (some (.int (iI c)), M2)) : am_call (d + 6) 308 [.ref 393] (L, T, S0 n, am_w u, am_wl wl, R0 o) = some (some (.int (iI c)), M2) := by
  have h9 := h.1.2.2.2.1
  have r := tk_rel O i
  unfold tkRel at r
  have e1 := m_nameOf (d := d) (L := L) (T := T) (o := o) (n := n) O h.1
  rw [nm_no (by omega)] at e1
  have w10 : am_call (d + 5) 287 [.ref 393, .long (iL (cw 10))] (L, T, S0 n, am_w u, am_wl wl, R0 o) = some (some (.int (iI (bI (tK p i = 10)))), (L, T, S0 n, am_w u, am_wl wl, R0 o)) := m_isWord (d := d + 5) (L := L) (T := T) (o := o) (n := n) O h.1 (j := 10) (by decide)
  have v10 := mw_10 (d := d + 1) (M := (L, T, S0 n, am_w u, am_wl wl, R0 o))
  generalize cw 10 = y10 at w10 v10
  have w11 : am_call (d + 5) 287 [.ref 393, .long (iL (cw 11))] (L, T, S0 n, am_w u, am_wl wl, R0 o) = some (some (.int (iI (bI (tK p i = 11)))), (L, T, S0 n, am_w u, am_wl wl, R0 o)) := m_isWord (d := d + 5) (L := L) (T := T) (o := o) (n := n) O h.1 (j := 11) (by decide)
  have v11 := mw_11 (d := d + 1) (M := (L, T, S0 n, am_w u, am_wl wl, R0 o))
  generalize cw 11 = y11 at w11 v11
  rw [bI_f (by omega)] at w10
  rw [bI_t (by omega)] at w11
  have t1 : tkT p (tst p i) = 2 := by omega
  rw [t1] at h9
  clear r h
  simp (decide := true) (disch := omega) only [en_308, bk_308_0, bk_308_20, bk_308_39, bk_308_51, bk_308_64, bk_308_65, bk_308_80, bk_308_81, bk_308_101, bk_308_117, bk_308_132, bk_308_158, bk_308_180, bk_308_201, bk_308_233, bk_308_234, bq_308_0, bq_308_20, bq_308_39, bq_308_51, bq_308_64, bq_308_65, bq_308_80, bq_308_81, bq_308_101, bq_308_117, bq_308_132, bq_308_158, bq_308_180, bq_308_201, bq_308_233, bq_308_234, rn_iconst, rn_bipush, rn_sipush, rn_ldc_w, rn_ldc, rn_ldcS, rn_lconst, rn_ldc2, rn_gets, rn_iload0, rn_lload0, rn_aload0, rn_istore0, rn_astore0, rn_lstore0, rn_iinc0, rn_iload1, rn_lload1, rn_aload1, rn_istore1, rn_astore1, rn_lstore1, rn_iinc1, rn_iload2, rn_lload2, rn_aload2, rn_istore2, rn_astore2, rn_lstore2, rn_iinc2, rn_iload3, rn_lload3, rn_aload3, rn_istore3, rn_astore3, rn_lstore3, rn_iinc3, rn_iload4, rn_lload4, rn_aload4, rn_istore4, rn_astore4, rn_lstore4, rn_iinc4, rn_iload5, rn_lload5, rn_aload5, rn_istore5, rn_astore5, rn_lstore5, rn_iinc5, rn_iload6, rn_lload6, rn_aload6, rn_istore6, rn_astore6, rn_lstore6, rn_iinc6, rn_iload7, rn_aload7, rn_istore7, rn_astore7, rn_iinc7, rn_iload8, rn_aload8, rn_istore8, rn_astore8, rn_iinc8, rn_iload9, rn_aload9, rn_istore9, rn_astore9, rn_iinc9, rn_iadd, rn_isub, rn_imul, rn_iand, rn_ior, rn_ixor, rn_ishl, rn_ishr, rn_iushr, rn_idiv, rn_irem, rn_ineg, rn_ladd, rn_lsub, rn_lmul, rn_lor, rn_ldiv, rn_lrem, rn_lneg, rn_lshl, rn_lshr, rn_i2l, rn_l2i, rn_i2c, rn_lcmp, rn_dupi, rn_dupa, rn_popi, rn_popa, rn_dup2, rn_aast, rn_alen, rn_geta, rn_aald, rn_puta, rn_new, rn_newa, rn_anew, rn_min, rn_max, rn_slen, rn_chat, rn_indx, rn_objI, rn_nop, rn_goto, rn_ifeq, rn_ifne, rn_iflt, rn_ifge, rn_ifgt, rn_ifle, rn_iceq, rn_icne, rn_iclt, rn_icge, rn_icgt, rn_icle, rn_tsw, rn_lsw, rn_iret, rn_zret, rn_lret, rn_aret, rn_vret, rn_cs0, rn_cs1, rn_cs2, rn_cs3, rn_cs4, rn_cs5, rn_cs6, rn_cs7, rn_cv1, rn_ci1, rn_cv2, rn_ci2, rn_cv3, rn_ci3, rn_cv4, rn_cv5, rn_cv6, rn_cv7, cs_n, cs_i, cs_a, cs_l, rc_i, rc_a, rc_l, rc_n, rw_iald, rw_bald, rw_lald, rw_iast, rw_bast, rw_last, rw_geti, rw_getl, rw_puti, rw_putz, rw_putl, iI_add, iI_sub, iI_mul, iI_neg, iI_lt, iI_le, iI_eq, iI_lt0, iI_le0, iI_0lt, iI_0le, iI_eq0, iI_eq1, iI_div, iI_rem, am_in_ok, am_in_no, iI_toInt, iL_add, iL_sub, iL_mul, iL_neg, iL_div, iL_rem, iI_i2l, iL_l2i, iL_cmp, iL_eq0, iI_or, iI_and, iI_shl, if_true, if_false, true_or, or_true, true_and, and_true, false_or, or_false, not_true_eq_false, not_false_eq_true, Option.bind_some, Option.toList_some, Option.toList_none, List.nil_append, List.cons_append, ite_self, nc_0, nc_1, nc_2, nc_3, nc_4, nc_5, nc_6, nc_7, nc_8, nc_9, nc_10, nc_11, nc_12, nc_13, nc_14, nc_15, nc_16, nc_17, nc_18, nc_19, nc_20, nc_21, nc_22, nc_23, nc_24, nc_25, nc_26, nc_27, nc_28, nc_29, nc_30, nc_31, nc_32, nc_33, nc_34, nc_35, nc_36, nc_40, nc_48, nc_100, nc_256, nc_300, nc_304, sh_393, rf_393_0, rf_393_1, rf_393_2, rf_393_3, rf_393_15, rf_393_20, rf_393_21, rf_393_22, rf_393_27, rf_393_28, rf_393_29, rf_393_30, rf_393_34, h9, e1, e, w10, v10, w11, v11, mx_317, mx_287, mx_292, mx_289, mx_286, mx_320, mx_319, if_pos, if_neg, sh_0, sh_393, rw_copy, am_cp_ok]
set_option maxHeartbeats 1000000 in
theorem b_o12 (O : TpOk p) (h : MPS p z q u wl i S false k) (hK : tK p i = 12) {M2 : am_M} {c : Int} (e : am_call (d + 5) 319 [.ref 393, .int (iI 41)] (L, T, S0 n, am_w u, am_wl wl, R0 o) = some (some (.int (iI c)), M2)) : am_call (d + 6) 308 [.ref 393] (L, T, S0 n, am_w u, am_wl wl, R0 o) = some (some (.int (iI c)), M2) := by
  have h9 := h.1.2.2.2.1
  have r := tk_rel O i
  unfold tkRel at r
  have e1 := m_nameOf (d := d) (L := L) (T := T) (o := o) (n := n) O h.1
  rw [nm_no (by omega)] at e1
  have w10 : am_call (d + 5) 287 [.ref 393, .long (iL (cw 10))] (L, T, S0 n, am_w u, am_wl wl, R0 o) = some (some (.int (iI (bI (tK p i = 10)))), (L, T, S0 n, am_w u, am_wl wl, R0 o)) := m_isWord (d := d + 5) (L := L) (T := T) (o := o) (n := n) O h.1 (j := 10) (by decide)
  have v10 := mw_10 (d := d + 1) (M := (L, T, S0 n, am_w u, am_wl wl, R0 o))
  generalize cw 10 = y10 at w10 v10
  have w11 : am_call (d + 5) 287 [.ref 393, .long (iL (cw 11))] (L, T, S0 n, am_w u, am_wl wl, R0 o) = some (some (.int (iI (bI (tK p i = 11)))), (L, T, S0 n, am_w u, am_wl wl, R0 o)) := m_isWord (d := d + 5) (L := L) (T := T) (o := o) (n := n) O h.1 (j := 11) (by decide)
  have v11 := mw_11 (d := d + 1) (M := (L, T, S0 n, am_w u, am_wl wl, R0 o))
  generalize cw 11 = y11 at w11 v11
  have w12 : am_call (d + 5) 287 [.ref 393, .long (iL (cw 12))] (L, T, S0 n, am_w u, am_wl wl, R0 o) = some (some (.int (iI (bI (tK p i = 12)))), (L, T, S0 n, am_w u, am_wl wl, R0 o)) := m_isWord (d := d + 5) (L := L) (T := T) (o := o) (n := n) O h.1 (j := 12) (by decide)
  have v12 := mw_12 (d := d + 1) (M := (L, T, S0 n, am_w u, am_wl wl, R0 o))
  generalize cw 12 = y12 at w12 v12
  rw [bI_f (by omega)] at w10
  rw [bI_f (by omega)] at w11
  rw [bI_t (by omega)] at w12
  have t1 : tkT p (tst p i) = 2 := by omega
  rw [t1] at h9
  clear r h
  simp (decide := true) (disch := omega) only [en_308, bk_308_0, bk_308_20, bk_308_39, bk_308_51, bk_308_64, bk_308_65, bk_308_80, bk_308_81, bk_308_101, bk_308_117, bk_308_132, bk_308_158, bk_308_180, bk_308_201, bk_308_233, bk_308_234, bq_308_0, bq_308_20, bq_308_39, bq_308_51, bq_308_64, bq_308_65, bq_308_80, bq_308_81, bq_308_101, bq_308_117, bq_308_132, bq_308_158, bq_308_180, bq_308_201, bq_308_233, bq_308_234, rn_iconst, rn_bipush, rn_sipush, rn_ldc_w, rn_ldc, rn_ldcS, rn_lconst, rn_ldc2, rn_gets, rn_iload0, rn_lload0, rn_aload0, rn_istore0, rn_astore0, rn_lstore0, rn_iinc0, rn_iload1, rn_lload1, rn_aload1, rn_istore1, rn_astore1, rn_lstore1, rn_iinc1, rn_iload2, rn_lload2, rn_aload2, rn_istore2, rn_astore2, rn_lstore2, rn_iinc2, rn_iload3, rn_lload3, rn_aload3, rn_istore3, rn_astore3, rn_lstore3, rn_iinc3, rn_iload4, rn_lload4, rn_aload4, rn_istore4, rn_astore4, rn_lstore4, rn_iinc4, rn_iload5, rn_lload5, rn_aload5, rn_istore5, rn_astore5, rn_lstore5, rn_iinc5, rn_iload6, rn_lload6, rn_aload6, rn_istore6, rn_astore6, rn_lstore6, rn_iinc6, rn_iload7, rn_aload7, rn_istore7, rn_astore7, rn_iinc7, rn_iload8, rn_aload8, rn_istore8, rn_astore8, rn_iinc8, rn_iload9, rn_aload9, rn_istore9, rn_astore9, rn_iinc9, rn_iadd, rn_isub, rn_imul, rn_iand, rn_ior, rn_ixor, rn_ishl, rn_ishr, rn_iushr, rn_idiv, rn_irem, rn_ineg, rn_ladd, rn_lsub, rn_lmul, rn_lor, rn_ldiv, rn_lrem, rn_lneg, rn_lshl, rn_lshr, rn_i2l, rn_l2i, rn_i2c, rn_lcmp, rn_dupi, rn_dupa, rn_popi, rn_popa, rn_dup2, rn_aast, rn_alen, rn_geta, rn_aald, rn_puta, rn_new, rn_newa, rn_anew, rn_min, rn_max, rn_slen, rn_chat, rn_indx, rn_objI, rn_nop, rn_goto, rn_ifeq, rn_ifne, rn_iflt, rn_ifge, rn_ifgt, rn_ifle, rn_iceq, rn_icne, rn_iclt, rn_icge, rn_icgt, rn_icle, rn_tsw, rn_lsw, rn_iret, rn_zret, rn_lret, rn_aret, rn_vret, rn_cs0, rn_cs1, rn_cs2, rn_cs3, rn_cs4, rn_cs5, rn_cs6, rn_cs7, rn_cv1, rn_ci1, rn_cv2, rn_ci2, rn_cv3, rn_ci3, rn_cv4, rn_cv5, rn_cv6, rn_cv7, cs_n, cs_i, cs_a, cs_l, rc_i, rc_a, rc_l, rc_n, rw_iald, rw_bald, rw_lald, rw_iast, rw_bast, rw_last, rw_geti, rw_getl, rw_puti, rw_putz, rw_putl, iI_add, iI_sub, iI_mul, iI_neg, iI_lt, iI_le, iI_eq, iI_lt0, iI_le0, iI_0lt, iI_0le, iI_eq0, iI_eq1, iI_div, iI_rem, am_in_ok, am_in_no, iI_toInt, iL_add, iL_sub, iL_mul, iL_neg, iL_div, iL_rem, iI_i2l, iL_l2i, iL_cmp, iL_eq0, iI_or, iI_and, iI_shl, if_true, if_false, true_or, or_true, true_and, and_true, false_or, or_false, not_true_eq_false, not_false_eq_true, Option.bind_some, Option.toList_some, Option.toList_none, List.nil_append, List.cons_append, ite_self, nc_0, nc_1, nc_2, nc_3, nc_4, nc_5, nc_6, nc_7, nc_8, nc_9, nc_10, nc_11, nc_12, nc_13, nc_14, nc_15, nc_16, nc_17, nc_18, nc_19, nc_20, nc_21, nc_22, nc_23, nc_24, nc_25, nc_26, nc_27, nc_28, nc_29, nc_30, nc_31, nc_32, nc_33, nc_34, nc_35, nc_36, nc_40, nc_48, nc_100, nc_256, nc_300, nc_304, sh_393, rf_393_0, rf_393_1, rf_393_2, rf_393_3, rf_393_15, rf_393_20, rf_393_21, rf_393_22, rf_393_27, rf_393_28, rf_393_29, rf_393_30, rf_393_34, h9, e1, e, w10, v10, w11, v11, w12, v12, mx_317, mx_287, mx_292, mx_289, mx_286, mx_320, mx_319, if_pos, if_neg, sh_0, sh_393, rw_copy, am_cp_ok]
set_option maxHeartbeats 1000000 in
theorem b_o18 (O : TpOk p) (h : MPS p z q u wl i S false k) (hK : tK p i = 18) (ha : asks S = true) {M2 : am_M} {c : Int} (e : am_call (d + 5) 319 [.ref 393, .int (iI 20)] (L, T, S0 n, am_w u, am_wl wl, R0 o) = some (some (.int (iI c)), M2)) : am_call (d + 6) 308 [.ref 393] (L, T, S0 n, am_w u, am_wl wl, R0 o) = some (some (.int (iI c)), M2) := by
  have h9 := h.1.2.2.2.1
  have r := tk_rel O i
  unfold tkRel at r
  have e1 := m_nameOf (d := d) (L := L) (T := T) (o := o) (n := n) O h.1
  rw [nm_no (by omega)] at e1
  have ea := m_isAskAhead (d := d + 3) (L := L) (T := T) (o := o) (n := n) (v := am_wl wl) h.2.1
  rw [bI_t ha] at ea
  have w10 : am_call (d + 5) 287 [.ref 393, .long (iL (cw 10))] (L, T, S0 n, am_w u, am_wl wl, R0 o) = some (some (.int (iI (bI (tK p i = 10)))), (L, T, S0 n, am_w u, am_wl wl, R0 o)) := m_isWord (d := d + 5) (L := L) (T := T) (o := o) (n := n) O h.1 (j := 10) (by decide)
  have v10 := mw_10 (d := d + 1) (M := (L, T, S0 n, am_w u, am_wl wl, R0 o))
  generalize cw 10 = y10 at w10 v10
  have w11 : am_call (d + 5) 287 [.ref 393, .long (iL (cw 11))] (L, T, S0 n, am_w u, am_wl wl, R0 o) = some (some (.int (iI (bI (tK p i = 11)))), (L, T, S0 n, am_w u, am_wl wl, R0 o)) := m_isWord (d := d + 5) (L := L) (T := T) (o := o) (n := n) O h.1 (j := 11) (by decide)
  have v11 := mw_11 (d := d + 1) (M := (L, T, S0 n, am_w u, am_wl wl, R0 o))
  generalize cw 11 = y11 at w11 v11
  have w12 : am_call (d + 5) 287 [.ref 393, .long (iL (cw 12))] (L, T, S0 n, am_w u, am_wl wl, R0 o) = some (some (.int (iI (bI (tK p i = 12)))), (L, T, S0 n, am_w u, am_wl wl, R0 o)) := m_isWord (d := d + 5) (L := L) (T := T) (o := o) (n := n) O h.1 (j := 12) (by decide)
  have v12 := mw_12 (d := d + 1) (M := (L, T, S0 n, am_w u, am_wl wl, R0 o))
  generalize cw 12 = y12 at w12 v12
  have w18 : am_call (d + 5) 287 [.ref 393, .long (iL (cw 18))] (L, T, S0 n, am_w u, am_wl wl, R0 o) = some (some (.int (iI (bI (tK p i = 18)))), (L, T, S0 n, am_w u, am_wl wl, R0 o)) := m_isWord (d := d + 5) (L := L) (T := T) (o := o) (n := n) O h.1 (j := 18) (by decide)
  have v18 := mw_18 (d := d + 1) (M := (L, T, S0 n, am_w u, am_wl wl, R0 o))
  generalize cw 18 = y18 at w18 v18
  rw [bI_f (by omega)] at w10
  rw [bI_f (by omega)] at w11
  rw [bI_f (by omega)] at w12
  rw [bI_t (by omega)] at w18
  have t1 : tkT p (tst p i) = 2 := by omega
  rw [t1] at h9
  clear r h
  simp (decide := true) (disch := omega) only [en_308, bk_308_0, bk_308_20, bk_308_39, bk_308_51, bk_308_64, bk_308_65, bk_308_80, bk_308_81, bk_308_101, bk_308_117, bk_308_132, bk_308_158, bk_308_180, bk_308_201, bk_308_233, bk_308_234, bq_308_0, bq_308_20, bq_308_39, bq_308_51, bq_308_64, bq_308_65, bq_308_80, bq_308_81, bq_308_101, bq_308_117, bq_308_132, bq_308_158, bq_308_180, bq_308_201, bq_308_233, bq_308_234, rn_iconst, rn_bipush, rn_sipush, rn_ldc_w, rn_ldc, rn_ldcS, rn_lconst, rn_ldc2, rn_gets, rn_iload0, rn_lload0, rn_aload0, rn_istore0, rn_astore0, rn_lstore0, rn_iinc0, rn_iload1, rn_lload1, rn_aload1, rn_istore1, rn_astore1, rn_lstore1, rn_iinc1, rn_iload2, rn_lload2, rn_aload2, rn_istore2, rn_astore2, rn_lstore2, rn_iinc2, rn_iload3, rn_lload3, rn_aload3, rn_istore3, rn_astore3, rn_lstore3, rn_iinc3, rn_iload4, rn_lload4, rn_aload4, rn_istore4, rn_astore4, rn_lstore4, rn_iinc4, rn_iload5, rn_lload5, rn_aload5, rn_istore5, rn_astore5, rn_lstore5, rn_iinc5, rn_iload6, rn_lload6, rn_aload6, rn_istore6, rn_astore6, rn_lstore6, rn_iinc6, rn_iload7, rn_aload7, rn_istore7, rn_astore7, rn_iinc7, rn_iload8, rn_aload8, rn_istore8, rn_astore8, rn_iinc8, rn_iload9, rn_aload9, rn_istore9, rn_astore9, rn_iinc9, rn_iadd, rn_isub, rn_imul, rn_iand, rn_ior, rn_ixor, rn_ishl, rn_ishr, rn_iushr, rn_idiv, rn_irem, rn_ineg, rn_ladd, rn_lsub, rn_lmul, rn_lor, rn_ldiv, rn_lrem, rn_lneg, rn_lshl, rn_lshr, rn_i2l, rn_l2i, rn_i2c, rn_lcmp, rn_dupi, rn_dupa, rn_popi, rn_popa, rn_dup2, rn_aast, rn_alen, rn_geta, rn_aald, rn_puta, rn_new, rn_newa, rn_anew, rn_min, rn_max, rn_slen, rn_chat, rn_indx, rn_objI, rn_nop, rn_goto, rn_ifeq, rn_ifne, rn_iflt, rn_ifge, rn_ifgt, rn_ifle, rn_iceq, rn_icne, rn_iclt, rn_icge, rn_icgt, rn_icle, rn_tsw, rn_lsw, rn_iret, rn_zret, rn_lret, rn_aret, rn_vret, rn_cs0, rn_cs1, rn_cs2, rn_cs3, rn_cs4, rn_cs5, rn_cs6, rn_cs7, rn_cv1, rn_ci1, rn_cv2, rn_ci2, rn_cv3, rn_ci3, rn_cv4, rn_cv5, rn_cv6, rn_cv7, cs_n, cs_i, cs_a, cs_l, rc_i, rc_a, rc_l, rc_n, rw_iald, rw_bald, rw_lald, rw_iast, rw_bast, rw_last, rw_geti, rw_getl, rw_puti, rw_putz, rw_putl, iI_add, iI_sub, iI_mul, iI_neg, iI_lt, iI_le, iI_eq, iI_lt0, iI_le0, iI_0lt, iI_0le, iI_eq0, iI_eq1, iI_div, iI_rem, am_in_ok, am_in_no, iI_toInt, iL_add, iL_sub, iL_mul, iL_neg, iL_div, iL_rem, iI_i2l, iL_l2i, iL_cmp, iL_eq0, iI_or, iI_and, iI_shl, if_true, if_false, true_or, or_true, true_and, and_true, false_or, or_false, not_true_eq_false, not_false_eq_true, Option.bind_some, Option.toList_some, Option.toList_none, List.nil_append, List.cons_append, ite_self, nc_0, nc_1, nc_2, nc_3, nc_4, nc_5, nc_6, nc_7, nc_8, nc_9, nc_10, nc_11, nc_12, nc_13, nc_14, nc_15, nc_16, nc_17, nc_18, nc_19, nc_20, nc_21, nc_22, nc_23, nc_24, nc_25, nc_26, nc_27, nc_28, nc_29, nc_30, nc_31, nc_32, nc_33, nc_34, nc_35, nc_36, nc_40, nc_48, nc_100, nc_256, nc_300, nc_304, sh_393, rf_393_0, rf_393_1, rf_393_2, rf_393_3, rf_393_15, rf_393_20, rf_393_21, rf_393_22, rf_393_27, rf_393_28, rf_393_29, rf_393_30, rf_393_34, h9, e1, e, w10, v10, w11, v11, w12, v12, w18, v18, ea, mx_317, mx_287, mx_292, mx_289, mx_286, mx_320, mx_319, if_pos, if_neg, sh_0, sh_393, rw_copy, am_cp_ok]
set_option maxHeartbeats 1000000 in
theorem b_f1a (O : TpOk p) (h : MPS p z q u wl i S false k) (hK : tK p i = 18) (ha : asks S = false) : am_call (d + 6) 308 [.ref 393] (L, T, S0 n, am_w u, am_wl wl, R0 o) = some (some (.int (iI 1)), (L, T, S0 n, am_w u, am_wl wl, R0 o)) := by
  have h9 := h.1.2.2.2.1
  have r := tk_rel O i
  unfold tkRel at r
  have e1 := m_nameOf (d := d) (L := L) (T := T) (o := o) (n := n) O h.1
  rw [nm_no (by omega)] at e1
  have ea := m_isAskAhead (d := d + 3) (L := L) (T := T) (o := o) (n := n) (v := am_wl wl) h.2.1
  rw [bI_f (by rw [ha]; decide)] at ea
  have w10 : am_call (d + 5) 287 [.ref 393, .long (iL (cw 10))] (L, T, S0 n, am_w u, am_wl wl, R0 o) = some (some (.int (iI (bI (tK p i = 10)))), (L, T, S0 n, am_w u, am_wl wl, R0 o)) := m_isWord (d := d + 5) (L := L) (T := T) (o := o) (n := n) O h.1 (j := 10) (by decide)
  have v10 := mw_10 (d := d + 1) (M := (L, T, S0 n, am_w u, am_wl wl, R0 o))
  generalize cw 10 = y10 at w10 v10
  have w11 : am_call (d + 5) 287 [.ref 393, .long (iL (cw 11))] (L, T, S0 n, am_w u, am_wl wl, R0 o) = some (some (.int (iI (bI (tK p i = 11)))), (L, T, S0 n, am_w u, am_wl wl, R0 o)) := m_isWord (d := d + 5) (L := L) (T := T) (o := o) (n := n) O h.1 (j := 11) (by decide)
  have v11 := mw_11 (d := d + 1) (M := (L, T, S0 n, am_w u, am_wl wl, R0 o))
  generalize cw 11 = y11 at w11 v11
  have w12 : am_call (d + 5) 287 [.ref 393, .long (iL (cw 12))] (L, T, S0 n, am_w u, am_wl wl, R0 o) = some (some (.int (iI (bI (tK p i = 12)))), (L, T, S0 n, am_w u, am_wl wl, R0 o)) := m_isWord (d := d + 5) (L := L) (T := T) (o := o) (n := n) O h.1 (j := 12) (by decide)
  have v12 := mw_12 (d := d + 1) (M := (L, T, S0 n, am_w u, am_wl wl, R0 o))
  generalize cw 12 = y12 at w12 v12
  have w18 : am_call (d + 5) 287 [.ref 393, .long (iL (cw 18))] (L, T, S0 n, am_w u, am_wl wl, R0 o) = some (some (.int (iI (bI (tK p i = 18)))), (L, T, S0 n, am_w u, am_wl wl, R0 o)) := m_isWord (d := d + 5) (L := L) (T := T) (o := o) (n := n) O h.1 (j := 18) (by decide)
  have v18 := mw_18 (d := d + 1) (M := (L, T, S0 n, am_w u, am_wl wl, R0 o))
  generalize cw 18 = y18 at w18 v18
  rw [bI_f (by omega)] at w10
  rw [bI_f (by omega)] at w11
  rw [bI_f (by omega)] at w12
  rw [bI_t (by omega)] at w18
  have t1 : tkT p (tst p i) = 2 := by omega
  rw [t1] at h9
  clear r h
  simp (decide := true) (disch := omega) only [en_308, bk_308_0, bk_308_20, bk_308_39, bk_308_51, bk_308_64, bk_308_65, bk_308_80, bk_308_81, bk_308_101, bk_308_117, bk_308_132, bk_308_158, bk_308_180, bk_308_201, bk_308_233, bk_308_234, bq_308_0, bq_308_20, bq_308_39, bq_308_51, bq_308_64, bq_308_65, bq_308_80, bq_308_81, bq_308_101, bq_308_117, bq_308_132, bq_308_158, bq_308_180, bq_308_201, bq_308_233, bq_308_234, rn_iconst, rn_bipush, rn_sipush, rn_ldc_w, rn_ldc, rn_ldcS, rn_lconst, rn_ldc2, rn_gets, rn_iload0, rn_lload0, rn_aload0, rn_istore0, rn_astore0, rn_lstore0, rn_iinc0, rn_iload1, rn_lload1, rn_aload1, rn_istore1, rn_astore1, rn_lstore1, rn_iinc1, rn_iload2, rn_lload2, rn_aload2, rn_istore2, rn_astore2, rn_lstore2, rn_iinc2, rn_iload3, rn_lload3, rn_aload3, rn_istore3, rn_astore3, rn_lstore3, rn_iinc3, rn_iload4, rn_lload4, rn_aload4, rn_istore4, rn_astore4, rn_lstore4, rn_iinc4, rn_iload5, rn_lload5, rn_aload5, rn_istore5, rn_astore5, rn_lstore5, rn_iinc5, rn_iload6, rn_lload6, rn_aload6, rn_istore6, rn_astore6, rn_lstore6, rn_iinc6, rn_iload7, rn_aload7, rn_istore7, rn_astore7, rn_iinc7, rn_iload8, rn_aload8, rn_istore8, rn_astore8, rn_iinc8, rn_iload9, rn_aload9, rn_istore9, rn_astore9, rn_iinc9, rn_iadd, rn_isub, rn_imul, rn_iand, rn_ior, rn_ixor, rn_ishl, rn_ishr, rn_iushr, rn_idiv, rn_irem, rn_ineg, rn_ladd, rn_lsub, rn_lmul, rn_lor, rn_ldiv, rn_lrem, rn_lneg, rn_lshl, rn_lshr, rn_i2l, rn_l2i, rn_i2c, rn_lcmp, rn_dupi, rn_dupa, rn_popi, rn_popa, rn_dup2, rn_aast, rn_alen, rn_geta, rn_aald, rn_puta, rn_new, rn_newa, rn_anew, rn_min, rn_max, rn_slen, rn_chat, rn_indx, rn_objI, rn_nop, rn_goto, rn_ifeq, rn_ifne, rn_iflt, rn_ifge, rn_ifgt, rn_ifle, rn_iceq, rn_icne, rn_iclt, rn_icge, rn_icgt, rn_icle, rn_tsw, rn_lsw, rn_iret, rn_zret, rn_lret, rn_aret, rn_vret, rn_cs0, rn_cs1, rn_cs2, rn_cs3, rn_cs4, rn_cs5, rn_cs6, rn_cs7, rn_cv1, rn_ci1, rn_cv2, rn_ci2, rn_cv3, rn_ci3, rn_cv4, rn_cv5, rn_cv6, rn_cv7, cs_n, cs_i, cs_a, cs_l, rc_i, rc_a, rc_l, rc_n, rw_iald, rw_bald, rw_lald, rw_iast, rw_bast, rw_last, rw_geti, rw_getl, rw_puti, rw_putz, rw_putl, iI_add, iI_sub, iI_mul, iI_neg, iI_lt, iI_le, iI_eq, iI_lt0, iI_le0, iI_0lt, iI_0le, iI_eq0, iI_eq1, iI_div, iI_rem, am_in_ok, am_in_no, iI_toInt, iL_add, iL_sub, iL_mul, iL_neg, iL_div, iL_rem, iI_i2l, iL_l2i, iL_cmp, iL_eq0, iI_or, iI_and, iI_shl, if_true, if_false, true_or, or_true, true_and, and_true, false_or, or_false, not_true_eq_false, not_false_eq_true, Option.bind_some, Option.toList_some, Option.toList_none, List.nil_append, List.cons_append, ite_self, nc_0, nc_1, nc_2, nc_3, nc_4, nc_5, nc_6, nc_7, nc_8, nc_9, nc_10, nc_11, nc_12, nc_13, nc_14, nc_15, nc_16, nc_17, nc_18, nc_19, nc_20, nc_21, nc_22, nc_23, nc_24, nc_25, nc_26, nc_27, nc_28, nc_29, nc_30, nc_31, nc_32, nc_33, nc_34, nc_35, nc_36, nc_40, nc_48, nc_100, nc_256, nc_300, nc_304, sh_393, rf_393_0, rf_393_1, rf_393_2, rf_393_3, rf_393_15, rf_393_20, rf_393_21, rf_393_22, rf_393_27, rf_393_28, rf_393_29, rf_393_30, rf_393_34, h9, e1, w10, v10, w11, v11, w12, v12, w18, v18, ea, mx_317, mx_287, mx_292, mx_289, mx_286, mx_320, mx_319, if_pos, if_neg, sh_0, sh_393, rw_copy, am_cp_ok]
set_option maxHeartbeats 1000000 in
theorem b_f1 (O : TpOk p) (h : MPS p z q u wl i S false k) (h1 : ¬ tK p i = 38) (h2 : ¬ isNm (tK p i)) (h3 : ¬ (tK p i = 29 ∨ tK p i = 26 ∨ tK p i = 10 ∨ tK p i = 11 ∨ tK p i = 12 ∨ tK p i = 18)) : am_call (d + 6) 308 [.ref 393] (L, T, S0 n, am_w u, am_wl wl, R0 o) = some (some (.int (iI 1)), (L, T, S0 n, am_w u, am_wl wl, R0 o)) := by
  have h9 := h.1.2.2.2.1
  have r := tk_rel O i
  unfold tkRel at r
  have e1 := m_nameOf (d := d) (L := L) (T := T) (o := o) (n := n) O h.1
  rw [nm_no (by omega)] at e1
  have w10 : am_call (d + 5) 287 [.ref 393, .long (iL (cw 10))] (L, T, S0 n, am_w u, am_wl wl, R0 o) = some (some (.int (iI (bI (tK p i = 10)))), (L, T, S0 n, am_w u, am_wl wl, R0 o)) := m_isWord (d := d + 5) (L := L) (T := T) (o := o) (n := n) O h.1 (j := 10) (by decide)
  have v10 := mw_10 (d := d + 1) (M := (L, T, S0 n, am_w u, am_wl wl, R0 o))
  generalize cw 10 = y10 at w10 v10
  have w11 : am_call (d + 5) 287 [.ref 393, .long (iL (cw 11))] (L, T, S0 n, am_w u, am_wl wl, R0 o) = some (some (.int (iI (bI (tK p i = 11)))), (L, T, S0 n, am_w u, am_wl wl, R0 o)) := m_isWord (d := d + 5) (L := L) (T := T) (o := o) (n := n) O h.1 (j := 11) (by decide)
  have v11 := mw_11 (d := d + 1) (M := (L, T, S0 n, am_w u, am_wl wl, R0 o))
  generalize cw 11 = y11 at w11 v11
  have w12 : am_call (d + 5) 287 [.ref 393, .long (iL (cw 12))] (L, T, S0 n, am_w u, am_wl wl, R0 o) = some (some (.int (iI (bI (tK p i = 12)))), (L, T, S0 n, am_w u, am_wl wl, R0 o)) := m_isWord (d := d + 5) (L := L) (T := T) (o := o) (n := n) O h.1 (j := 12) (by decide)
  have v12 := mw_12 (d := d + 1) (M := (L, T, S0 n, am_w u, am_wl wl, R0 o))
  generalize cw 12 = y12 at w12 v12
  have w18 : am_call (d + 5) 287 [.ref 393, .long (iL (cw 18))] (L, T, S0 n, am_w u, am_wl wl, R0 o) = some (some (.int (iI (bI (tK p i = 18)))), (L, T, S0 n, am_w u, am_wl wl, R0 o)) := m_isWord (d := d + 5) (L := L) (T := T) (o := o) (n := n) O h.1 (j := 18) (by decide)
  have v18 := mw_18 (d := d + 1) (M := (L, T, S0 n, am_w u, am_wl wl, R0 o))
  generalize cw 18 = y18 at w18 v18
  rw [bI_f (by omega)] at w10
  rw [bI_f (by omega)] at w11
  rw [bI_f (by omega)] at w12
  rw [bI_f (by omega)] at w18
  have t1 : ¬ tkT p (tst p i) = 1 ∧ ¬ tkT p (tst p i) = 40 ∧ ¬ tkT p (tst p i) = 45 := by omega
  have r2 := r.2.2.2.2.2
  obtain ⟨t2, t3, t4⟩ := t1
  generalize tkT p (tst p i) = t at *
  clear r h
  simp (decide := true) (disch := omega) only [en_308, bk_308_0, bk_308_20, bk_308_39, bk_308_51, bk_308_64, bk_308_65, bk_308_80, bk_308_81, bk_308_101, bk_308_117, bk_308_132, bk_308_158, bk_308_180, bk_308_201, bk_308_233, bk_308_234, bq_308_0, bq_308_20, bq_308_39, bq_308_51, bq_308_64, bq_308_65, bq_308_80, bq_308_81, bq_308_101, bq_308_117, bq_308_132, bq_308_158, bq_308_180, bq_308_201, bq_308_233, bq_308_234, rn_iconst, rn_bipush, rn_sipush, rn_ldc_w, rn_ldc, rn_ldcS, rn_lconst, rn_ldc2, rn_gets, rn_iload0, rn_lload0, rn_aload0, rn_istore0, rn_astore0, rn_lstore0, rn_iinc0, rn_iload1, rn_lload1, rn_aload1, rn_istore1, rn_astore1, rn_lstore1, rn_iinc1, rn_iload2, rn_lload2, rn_aload2, rn_istore2, rn_astore2, rn_lstore2, rn_iinc2, rn_iload3, rn_lload3, rn_aload3, rn_istore3, rn_astore3, rn_lstore3, rn_iinc3, rn_iload4, rn_lload4, rn_aload4, rn_istore4, rn_astore4, rn_lstore4, rn_iinc4, rn_iload5, rn_lload5, rn_aload5, rn_istore5, rn_astore5, rn_lstore5, rn_iinc5, rn_iload6, rn_lload6, rn_aload6, rn_istore6, rn_astore6, rn_lstore6, rn_iinc6, rn_iload7, rn_aload7, rn_istore7, rn_astore7, rn_iinc7, rn_iload8, rn_aload8, rn_istore8, rn_astore8, rn_iinc8, rn_iload9, rn_aload9, rn_istore9, rn_astore9, rn_iinc9, rn_iadd, rn_isub, rn_imul, rn_iand, rn_ior, rn_ixor, rn_ishl, rn_ishr, rn_iushr, rn_idiv, rn_irem, rn_ineg, rn_ladd, rn_lsub, rn_lmul, rn_lor, rn_ldiv, rn_lrem, rn_lneg, rn_lshl, rn_lshr, rn_i2l, rn_l2i, rn_i2c, rn_lcmp, rn_dupi, rn_dupa, rn_popi, rn_popa, rn_dup2, rn_aast, rn_alen, rn_geta, rn_aald, rn_puta, rn_new, rn_newa, rn_anew, rn_min, rn_max, rn_slen, rn_chat, rn_indx, rn_objI, rn_nop, rn_goto, rn_ifeq, rn_ifne, rn_iflt, rn_ifge, rn_ifgt, rn_ifle, rn_iceq, rn_icne, rn_iclt, rn_icge, rn_icgt, rn_icle, rn_tsw, rn_lsw, rn_iret, rn_zret, rn_lret, rn_aret, rn_vret, rn_cs0, rn_cs1, rn_cs2, rn_cs3, rn_cs4, rn_cs5, rn_cs6, rn_cs7, rn_cv1, rn_ci1, rn_cv2, rn_ci2, rn_cv3, rn_ci3, rn_cv4, rn_cv5, rn_cv6, rn_cv7, cs_n, cs_i, cs_a, cs_l, rc_i, rc_a, rc_l, rc_n, rw_iald, rw_bald, rw_lald, rw_iast, rw_bast, rw_last, rw_geti, rw_getl, rw_puti, rw_putz, rw_putl, iI_add, iI_sub, iI_mul, iI_neg, iI_lt, iI_le, iI_eq, iI_lt0, iI_le0, iI_0lt, iI_0le, iI_eq0, iI_eq1, iI_div, iI_rem, am_in_ok, am_in_no, iI_toInt, iL_add, iL_sub, iL_mul, iL_neg, iL_div, iL_rem, iI_i2l, iL_l2i, iL_cmp, iL_eq0, iI_or, iI_and, iI_shl, if_true, if_false, true_or, or_true, true_and, and_true, false_or, or_false, not_true_eq_false, not_false_eq_true, Option.bind_some, Option.toList_some, Option.toList_none, List.nil_append, List.cons_append, ite_self, nc_0, nc_1, nc_2, nc_3, nc_4, nc_5, nc_6, nc_7, nc_8, nc_9, nc_10, nc_11, nc_12, nc_13, nc_14, nc_15, nc_16, nc_17, nc_18, nc_19, nc_20, nc_21, nc_22, nc_23, nc_24, nc_25, nc_26, nc_27, nc_28, nc_29, nc_30, nc_31, nc_32, nc_33, nc_34, nc_35, nc_36, nc_40, nc_48, nc_100, nc_256, nc_300, nc_304, sh_393, rf_393_0, rf_393_1, rf_393_2, rf_393_3, rf_393_15, rf_393_20, rf_393_21, rf_393_22, rf_393_27, rf_393_28, rf_393_29, rf_393_30, rf_393_34, h9, e1, t2, t3, t4, w10, v10, w11, v11, w12, v12, w18, v18, mx_317, mx_287, mx_292, mx_289, mx_286, mx_320, mx_319, if_pos, if_neg, sh_0, sh_393, rw_copy, am_cp_ok]
theorem b_open (O : TpOk p) (h : MPS p z q u wl i S false k) (hx : 0 ≤ opK (tK p i) S) {M2 : am_M} {c : Int} (e : am_call (d + 5) 319 [.ref 393, .int (iI (opK (tK p i) S))] (L, T, S0 n, am_w u, am_wl wl, R0 o) = some (some (.int (iI c)), M2)) : am_call (d + 6) 308 [.ref 393] (L, T, S0 n, am_w u, am_wl wl, R0 o) = some (some (.int (iI c)), M2) := by
  by_cases c1 : tK p i = 29
  · exact b_o29 O h c1 (by rw [c1] at e; exact e)
  by_cases c2 : tK p i = 26
  · exact b_o26 O h c2 (by rw [c2] at e; exact e)
  by_cases c3 : tK p i = 10
  · exact b_o10 O h c3 (by rw [c3] at e; exact e)
  by_cases c4 : tK p i = 11
  · exact b_o11 O h c4 (by rw [c4] at e; exact e)
  by_cases c5 : tK p i = 12
  · exact b_o12 O h c5 (by rw [c5] at e; exact e)
  unfold opK at hx e
  rw [if_neg c1, if_neg c2, if_neg c3, if_neg c4, if_neg c5] at hx e
  by_cases c6 : tK p i = 18 ∧ asks S = true
  · rw [if_pos c6] at e
    exact b_o18 O h c6.1 c6.2 e
  · rw [if_neg c6] at hx
    exact absurd hx (by decide)
theorem b_none (O : TpOk p) (h : MPS p z q u wl i S false k) (h1 : ¬ tK p i = 38) (h2 : ¬ isNm (tK p i)) (hx : opK (tK p i) S < 0) : am_call (d + 6) 308 [.ref 393] (L, T, S0 n, am_w u, am_wl wl, R0 o) = some (some (.int (iI 1)), (L, T, S0 n, am_w u, am_wl wl, R0 o)) := by
  unfold opK at hx
  by_cases c1 : tK p i = 29
  · rw [if_pos c1] at hx; exact absurd hx (by decide)
  rw [if_neg c1] at hx
  by_cases c2 : tK p i = 26
  · rw [if_pos c2] at hx; exact absurd hx (by decide)
  rw [if_neg c2] at hx
  by_cases c3 : tK p i = 10
  · rw [if_pos c3] at hx; exact absurd hx (by decide)
  rw [if_neg c3] at hx
  by_cases c4 : tK p i = 11
  · rw [if_pos c4] at hx; exact absurd hx (by decide)
  rw [if_neg c4] at hx
  by_cases c5 : tK p i = 12
  · rw [if_pos c5] at hx; exact absurd hx (by decide)
  rw [if_neg c5] at hx
  by_cases c6 : tK p i = 18
  · cases ha : asks S with
    | true => rw [if_pos ⟨c6, ha⟩] at hx; exact absurd hx (by decide)
    | false => exact b_f1a O h c6 ha
  · exact b_f1 O h h1 h2 (by omega)
end SB
