section SH
variable {d L T o n : Nat} {u u0 u1 u2 : Nat → Int → Int} {wl wl0 wl1 wl2 : Nat → Int → Int} {v : Nat → Nat → Int64} {p : Bts} {i : Nat} {q k x y l z m : Int} {S R : List Int} {wh wh2 : Bool} {D D2 : List (Int × Int)} {jj : Option Value}
theorem bt_bd2 {K : Int} (h : 0 ≤ btO K S) : btO K S ≤ 22 ∧ btO K S ≠ 20 ∧ rkO (btO K S) ≠ 7 ∧ 1 ≤ rkO (btO K S) ∧ 1 ≤ rkB (btO K S) ∧ rkB (btO K S) ≤ 7 := by
  have key : ∀ x : Int, (6 ≤ x ∧ x ≤ 15) ∨ x = 21 ∨ x = 22 → x ≤ 22 ∧ x ≠ 20 ∧ rkO x ≠ 7 ∧ 1 ≤ rkO x ∧ 1 ≤ rkB x ∧ rkB x ≤ 7 := by
    intro x hx
    rcases (show x = 6 ∨ x = 7 ∨ x = 8 ∨ x = 9 ∨ x = 10 ∨ x = 11 ∨ x = 12 ∨ x = 13 ∨ x = 14 ∨ x = 15 ∨ x = 21 ∨ x = 22 by omega) with rfl | rfl | rfl | rfl | rfl | rfl | rfl | rfl | rfl | rfl | rfl | rfl <;> decide
  apply key
  unfold btO cpO at h ⊢
  repeat' split at h
  all_goals first | (exact absurd h (by decide)) | skip
  all_goals simp_all
set_option maxHeartbeats 2000000 in
theorem h_bet (O : TpOk p) (h : MPS p z q u wl i S true k) (hx : 0 ≤ btO (tK p i) S) (hk : k + S.length ≤ 302) (hl : S.length < 160) (ho : opC S ≤ 300) : ∃ u2 wl2, am_call (d + 7) 305 [.ref 393] (L, T, S0 n, am_w u, am_wl wl, R0 o) = some (some (.int (iI 1)), (L, T, S0 n, am_w u2, am_wl wl2, R0 o)) ∧ MPS p z q u2 wl2 (i + 1) (btO (tK p i) S :: sdr (rkB (btO (tK p i) S)) S) false (k + (em0 (stk (rkB (btO (tK p i) S)) S)).length) ∧ MEf q k u u2 wl wl2 (em0 (stk (rkB (btO (tK p i) S)) S)) := by
  have bd := bt_bd2 hx
  have e1 := m_betweenOf (d := d) (L := L) (T := T) (o := o) (n := n) O h
  generalize btO (tK p i) S = x at *
  have e2 := m_rank (d := d + 6) (M := (L, T, S0 n, am_w u, am_wl wl, R0 o)) (x := x) (by omega) (by omega)
  obtain ⟨u1, e3, g1, f1⟩ := m_st (d := d + 5) (L := L) (T := T) (o := o) (n := n) (l := rkB x) h hk bd.2.2.2.2.1 bd.2.2.2.2.2 ho
  have sl : (sdr (rkB x) S).length ≤ S.length := by unfold sdr; rw [List.length_drop]; omega
  generalize em0 (stk (rkB x) S) = D at *
  have h16 := g1.2.1.1
  have up := MPS.upd (u2 := upI (upI (upI u1 398 ((sdr (rkB x) S).length : Int) x) 393 16 (((sdr (rkB x) S).length : Int) + 1)) 393 18 0) (R := x :: sdr (rkB x) S) (wh2 := false) g1 (fun b h1 h2 => by rw [upI_c h1, upI_c h1, upI_c h2]) (fun y h1 h2 h3 => by rw [upI_2 h3, upI_2 h1, upI_1 (by decide)]) (g1.2.1.push (by omega) (by omega) (by omega) (by rw [upI_2 (by decide), upI_s]) (by rw [upI_1 (by decide), upI_1 (by decide), upI_s]) (fun y hy => by rw [upI_1 (by decide), upI_1 (by decide), upI_2 (by omega)])) (by rw [upI_2 (by decide), upI_2 (by decide), upI_1 (by decide), opC_0 bd.2.2.1 bd.2.1 (by omega)]; exact g1.2.2.2.1) (by rw [upI_s]; rfl)
  obtain ⟨u2, wl2, e4, g2, f2⟩ := m_nx (d := d + 5) (L := L) (T := T) (o := o) (n := n) O up.1
  refine ⟨u2, wl2, ?_, g2, ?_⟩
  · have sl2 : ((sdr (rkB x) S).length : Int) < 160 := by omega
    have sl0 : 0 ≤ ((sdr (rkB x) S).length : Int) := by omega
    clear f1 f2 g1 g2 up
    have a1 : upI u1 398 ((sdr (rkB x) S).length : Int) x 393 16 = ((sdr (rkB x) S).length : Int) := by rw [upI_1 (by decide)]; exact h16
    generalize ((sdr (rkB x) S).length : Int) = s at *
    by_cases c4 : rkO x = 4
    · have rb : rkB x = 5 := by unfold rkB; rw [if_pos c4]
      rw [rb] at e3
      rw [c4] at e2
      simp (decide := true) (disch := omega) only [en_305, bk_305_0, bk_305_22, bk_305_26, bk_305_60, bk_305_77, bk_305_107, bk_305_139, bq_305_0, bq_305_22, bq_305_26, bq_305_60, bq_305_77, bq_305_107, bq_305_139, rn_iconst, rn_bipush, rn_sipush, rn_ldc_w, rn_ldc, rn_ldcS, rn_lconst, rn_ldc2, rn_gets, rn_iload0, rn_lload0, rn_aload0, rn_istore0, rn_astore0, rn_lstore0, rn_iinc0, rn_iload1, rn_lload1, rn_aload1, rn_istore1, rn_astore1, rn_lstore1, rn_iinc1, rn_iload2, rn_lload2, rn_aload2, rn_istore2, rn_astore2, rn_lstore2, rn_iinc2, rn_iload3, rn_lload3, rn_aload3, rn_istore3, rn_astore3, rn_lstore3, rn_iinc3, rn_iload4, rn_lload4, rn_aload4, rn_istore4, rn_astore4, rn_lstore4, rn_iinc4, rn_iload5, rn_lload5, rn_aload5, rn_istore5, rn_astore5, rn_lstore5, rn_iinc5, rn_iload6, rn_lload6, rn_aload6, rn_istore6, rn_astore6, rn_lstore6, rn_iinc6, rn_iload7, rn_aload7, rn_istore7, rn_astore7, rn_iinc7, rn_iload8, rn_aload8, rn_istore8, rn_astore8, rn_iinc8, rn_iload9, rn_aload9, rn_istore9, rn_astore9, rn_iinc9, rn_iadd, rn_isub, rn_imul, rn_iand, rn_ior, rn_ixor, rn_ishl, rn_ishr, rn_iushr, rn_idiv, rn_irem, rn_ineg, rn_ladd, rn_lsub, rn_lmul, rn_lor, rn_ldiv, rn_lrem, rn_lneg, rn_lshl, rn_lshr, rn_i2l, rn_l2i, rn_i2c, rn_lcmp, rn_dupi, rn_dupa, rn_popi, rn_popa, rn_dup2, rn_aast, rn_alen, rn_geta, rn_aald, rn_puta, rn_new, rn_newa, rn_anew, rn_min, rn_max, rn_slen, rn_chat, rn_indx, rn_objI, rn_nop, rn_goto, rn_ifeq, rn_ifne, rn_iflt, rn_ifge, rn_ifgt, rn_ifle, rn_iceq, rn_icne, rn_iclt, rn_icge, rn_icgt, rn_icle, rn_tsw, rn_lsw, rn_iret, rn_zret, rn_lret, rn_aret, rn_vret, rn_cs0, rn_cs1, rn_cs2, rn_cs3, rn_cs4, rn_cs5, rn_cs6, rn_cs7, rn_cv1, rn_ci1, rn_cv2, rn_ci2, rn_cv3, rn_ci3, rn_cv4, rn_cv5, rn_cv6, rn_cv7, cs_n, cs_i, cs_a, cs_l, rc_i, rc_a, rc_l, rc_n, rw_iald, rw_bald, rw_lald, rw_iast, rw_bast, rw_last, rw_geti, rw_getl, rw_puti, rw_putz, rw_putl, iI_add, iI_sub, iI_mul, iI_neg, iI_lt, iI_le, iI_eq, iI_lt0, iI_le0, iI_0lt, iI_0le, iI_eq0, iI_eq1, iI_div, iI_rem, am_in_ok, am_in_no, iI_toInt, iL_add, iL_sub, iL_mul, iL_neg, iL_div, iL_rem, iI_i2l, iL_l2i, iL_cmp, iL_eq0, iI_or, iI_and, iI_shl, if_true, if_false, true_or, or_true, true_and, and_true, false_or, or_false, not_true_eq_false, not_false_eq_true, Option.bind_some, Option.toList_some, Option.toList_none, List.nil_append, List.cons_append, ite_self, nc_0, nc_1, nc_2, nc_3, nc_4, nc_5, nc_6, nc_7, nc_8, nc_9, nc_10, nc_11, nc_12, nc_13, nc_14, nc_15, nc_16, nc_17, nc_18, nc_19, nc_20, nc_21, nc_22, nc_23, nc_24, nc_25, nc_26, nc_27, nc_28, nc_29, nc_30, nc_31, nc_32, nc_33, nc_34, nc_35, nc_36, nc_40, nc_48, nc_100, nc_256, nc_300, nc_304, sh_393, rf_393_0, rf_393_1, rf_393_2, rf_393_3, rf_393_15, rf_393_20, rf_393_21, rf_393_22, rf_393_27, rf_393_28, rf_393_29, rf_393_30, rf_393_34, sh_398, e1, e2, e3, h16, a1, e4, mx_312, mx_313, mx_307, mx_223, if_pos, if_neg, sh_0, sh_393, rw_copy, am_cp_ok]
    · have rb : rkB x = rkO x := by unfold rkB; rw [if_neg c4]
      rw [rb] at e3
      have rb2 := rkO_bd (x := x)
      generalize rkO x = rx at *
      simp (decide := true) (disch := omega) only [en_305, bk_305_0, bk_305_22, bk_305_26, bk_305_60, bk_305_77, bk_305_107, bk_305_139, bq_305_0, bq_305_22, bq_305_26, bq_305_60, bq_305_77, bq_305_107, bq_305_139, rn_iconst, rn_bipush, rn_sipush, rn_ldc_w, rn_ldc, rn_ldcS, rn_lconst, rn_ldc2, rn_gets, rn_iload0, rn_lload0, rn_aload0, rn_istore0, rn_astore0, rn_lstore0, rn_iinc0, rn_iload1, rn_lload1, rn_aload1, rn_istore1, rn_astore1, rn_lstore1, rn_iinc1, rn_iload2, rn_lload2, rn_aload2, rn_istore2, rn_astore2, rn_lstore2, rn_iinc2, rn_iload3, rn_lload3, rn_aload3, rn_istore3, rn_astore3, rn_lstore3, rn_iinc3, rn_iload4, rn_lload4, rn_aload4, rn_istore4, rn_astore4, rn_lstore4, rn_iinc4, rn_iload5, rn_lload5, rn_aload5, rn_istore5, rn_astore5, rn_lstore5, rn_iinc5, rn_iload6, rn_lload6, rn_aload6, rn_istore6, rn_astore6, rn_lstore6, rn_iinc6, rn_iload7, rn_aload7, rn_istore7, rn_astore7, rn_iinc7, rn_iload8, rn_aload8, rn_istore8, rn_astore8, rn_iinc8, rn_iload9, rn_aload9, rn_istore9, rn_astore9, rn_iinc9, rn_iadd, rn_isub, rn_imul, rn_iand, rn_ior, rn_ixor, rn_ishl, rn_ishr, rn_iushr, rn_idiv, rn_irem, rn_ineg, rn_ladd, rn_lsub, rn_lmul, rn_lor, rn_ldiv, rn_lrem, rn_lneg, rn_lshl, rn_lshr, rn_i2l, rn_l2i, rn_i2c, rn_lcmp, rn_dupi, rn_dupa, rn_popi, rn_popa, rn_dup2, rn_aast, rn_alen, rn_geta, rn_aald, rn_puta, rn_new, rn_newa, rn_anew, rn_min, rn_max, rn_slen, rn_chat, rn_indx, rn_objI, rn_nop, rn_goto, rn_ifeq, rn_ifne, rn_iflt, rn_ifge, rn_ifgt, rn_ifle, rn_iceq, rn_icne, rn_iclt, rn_icge, rn_icgt, rn_icle, rn_tsw, rn_lsw, rn_iret, rn_zret, rn_lret, rn_aret, rn_vret, rn_cs0, rn_cs1, rn_cs2, rn_cs3, rn_cs4, rn_cs5, rn_cs6, rn_cs7, rn_cv1, rn_ci1, rn_cv2, rn_ci2, rn_cv3, rn_ci3, rn_cv4, rn_cv5, rn_cv6, rn_cv7, cs_n, cs_i, cs_a, cs_l, rc_i, rc_a, rc_l, rc_n, rw_iald, rw_bald, rw_lald, rw_iast, rw_bast, rw_last, rw_geti, rw_getl, rw_puti, rw_putz, rw_putl, iI_add, iI_sub, iI_mul, iI_neg, iI_lt, iI_le, iI_eq, iI_lt0, iI_le0, iI_0lt, iI_0le, iI_eq0, iI_eq1, iI_div, iI_rem, am_in_ok, am_in_no, iI_toInt, iL_add, iL_sub, iL_mul, iL_neg, iL_div, iL_rem, iI_i2l, iL_l2i, iL_cmp, iL_eq0, iI_or, iI_and, iI_shl, if_true, if_false, true_or, or_true, true_and, and_true, false_or, or_false, not_true_eq_false, not_false_eq_true, Option.bind_some, Option.toList_some, Option.toList_none, List.nil_append, List.cons_append, ite_self, nc_0, nc_1, nc_2, nc_3, nc_4, nc_5, nc_6, nc_7, nc_8, nc_9, nc_10, nc_11, nc_12, nc_13, nc_14, nc_15, nc_16, nc_17, nc_18, nc_19, nc_20, nc_21, nc_22, nc_23, nc_24, nc_25, nc_26, nc_27, nc_28, nc_29, nc_30, nc_31, nc_32, nc_33, nc_34, nc_35, nc_36, nc_40, nc_48, nc_100, nc_256, nc_300, nc_304, sh_393, rf_393_0, rf_393_1, rf_393_2, rf_393_3, rf_393_15, rf_393_20, rf_393_21, rf_393_22, rf_393_27, rf_393_28, rf_393_29, rf_393_30, rf_393_34, sh_398, e1, e2, e3, h16, a1, e4, c4, mx_312, mx_313, mx_307, mx_223, if_pos, if_neg, sh_0, sh_393, rw_copy, am_cp_ok]
  · have t := (f1.trans (k2 := k + D.length) rfl up.2).trans (k2 := k + D.length) (by rw [List.append_nil]) f2
    rw [List.append_nil, List.append_nil] at t
    exact t
set_option maxHeartbeats 1000000 in
theorem h_no (O : TpOk p) (h : MPS p z q u wl i S true k) (hx : btO (tK p i) S < 0) (hp : ptO (tK p i) S < 0) : am_call (d + 7) 305 [.ref 393] (L, T, S0 n, am_w u, am_wl wl, R0 o) = some (some (.int (iI 0)), (L, T, S0 n, am_w u, am_wl wl, R0 o)) := by
  have e1 := m_betweenOf (d := d) (L := L) (T := T) (o := o) (n := n) O h
  have e2 := m_openNow (d := d + 5) (L := L) (T := T) (o := o) (n := n) (v := am_wl wl) h.2.1
  have e3 := m_partOf (d := d) (L := L) (T := T) (o := o) (n := n) O h
  have b1 : btO (tK p i) S = -1 := by
    unfold btO cpO at hx ⊢
    repeat' split at hx
    all_goals first | (exact absurd hx (by decide)) | skip
    all_goals simp_all
  have b2 : ptO (tK p i) S = -1 := by
    unfold ptO at hp ⊢
    repeat' split at hp
    all_goals first | (exact absurd hp (by decide)) | skip
    all_goals simp_all
  rw [b1] at e1
  rw [b2] at e3
  simp (decide := true) (disch := omega) only [en_305, bk_305_0, bk_305_22, bk_305_26, bk_305_60, bk_305_77, bk_305_107, bk_305_139, bq_305_0, bq_305_22, bq_305_26, bq_305_60, bq_305_77, bq_305_107, bq_305_139, rn_iconst, rn_bipush, rn_sipush, rn_ldc_w, rn_ldc, rn_ldcS, rn_lconst, rn_ldc2, rn_gets, rn_iload0, rn_lload0, rn_aload0, rn_istore0, rn_astore0, rn_lstore0, rn_iinc0, rn_iload1, rn_lload1, rn_aload1, rn_istore1, rn_astore1, rn_lstore1, rn_iinc1, rn_iload2, rn_lload2, rn_aload2, rn_istore2, rn_astore2, rn_lstore2, rn_iinc2, rn_iload3, rn_lload3, rn_aload3, rn_istore3, rn_astore3, rn_lstore3, rn_iinc3, rn_iload4, rn_lload4, rn_aload4, rn_istore4, rn_astore4, rn_lstore4, rn_iinc4, rn_iload5, rn_lload5, rn_aload5, rn_istore5, rn_astore5, rn_lstore5, rn_iinc5, rn_iload6, rn_lload6, rn_aload6, rn_istore6, rn_astore6, rn_lstore6, rn_iinc6, rn_iload7, rn_aload7, rn_istore7, rn_astore7, rn_iinc7, rn_iload8, rn_aload8, rn_istore8, rn_astore8, rn_iinc8, rn_iload9, rn_aload9, rn_istore9, rn_astore9, rn_iinc9, rn_iadd, rn_isub, rn_imul, rn_iand, rn_ior, rn_ixor, rn_ishl, rn_ishr, rn_iushr, rn_idiv, rn_irem, rn_ineg, rn_ladd, rn_lsub, rn_lmul, rn_lor, rn_ldiv, rn_lrem, rn_lneg, rn_lshl, rn_lshr, rn_i2l, rn_l2i, rn_i2c, rn_lcmp, rn_dupi, rn_dupa, rn_popi, rn_popa, rn_dup2, rn_aast, rn_alen, rn_geta, rn_aald, rn_puta, rn_new, rn_newa, rn_anew, rn_min, rn_max, rn_slen, rn_chat, rn_indx, rn_objI, rn_nop, rn_goto, rn_ifeq, rn_ifne, rn_iflt, rn_ifge, rn_ifgt, rn_ifle, rn_iceq, rn_icne, rn_iclt, rn_icge, rn_icgt, rn_icle, rn_tsw, rn_lsw, rn_iret, rn_zret, rn_lret, rn_aret, rn_vret, rn_cs0, rn_cs1, rn_cs2, rn_cs3, rn_cs4, rn_cs5, rn_cs6, rn_cs7, rn_cv1, rn_ci1, rn_cv2, rn_ci2, rn_cv3, rn_ci3, rn_cv4, rn_cv5, rn_cv6, rn_cv7, cs_n, cs_i, cs_a, cs_l, rc_i, rc_a, rc_l, rc_n, rw_iald, rw_bald, rw_lald, rw_iast, rw_bast, rw_last, rw_geti, rw_getl, rw_puti, rw_putz, rw_putl, iI_add, iI_sub, iI_mul, iI_neg, iI_lt, iI_le, iI_eq, iI_lt0, iI_le0, iI_0lt, iI_0le, iI_eq0, iI_eq1, iI_div, iI_rem, am_in_ok, am_in_no, iI_toInt, iL_add, iL_sub, iL_mul, iL_neg, iL_div, iL_rem, iI_i2l, iL_l2i, iL_cmp, iL_eq0, iI_or, iI_and, iI_shl, if_true, if_false, true_or, or_true, true_and, and_true, false_or, or_false, not_true_eq_false, not_false_eq_true, Option.bind_some, Option.toList_some, Option.toList_none, List.nil_append, List.cons_append, ite_self, nc_0, nc_1, nc_2, nc_3, nc_4, nc_5, nc_6, nc_7, nc_8, nc_9, nc_10, nc_11, nc_12, nc_13, nc_14, nc_15, nc_16, nc_17, nc_18, nc_19, nc_20, nc_21, nc_22, nc_23, nc_24, nc_25, nc_26, nc_27, nc_28, nc_29, nc_30, nc_31, nc_32, nc_33, nc_34, nc_35, nc_36, nc_40, nc_48, nc_100, nc_256, nc_300, nc_304, sh_393, rf_393_0, rf_393_1, rf_393_2, rf_393_3, rf_393_15, rf_393_20, rf_393_21, rf_393_22, rf_393_27, rf_393_28, rf_393_29, rf_393_30, rf_393_34, sh_398, e1, e2, e3, mx_312, mx_306, mx_314, if_pos, if_neg, sh_0, sh_393, rw_copy, am_cp_ok]
theorem sdr1_op : ∀ S : List Int, 0 ≤ opN S → ∃ R, sdr 1 S = opN S :: R
  | [], h => absurd h (by decide)
  | x :: r, h => by
    unfold sdr
    rw [opN] at h ⊢
    rw [stN]
    by_cases c : 40 ≤ x
    · rw [if_pos c, if_neg (by rw [rk_40 c]; decide)]
      exact ⟨r, rfl⟩
    · rw [if_neg c] at h ⊢
      have r1 : 1 ≤ rkO x := by
        unfold rkO
        rw [if_neg c]
        repeat' split
        all_goals decide
      rw [if_pos r1]
      exact sdr1_op r h
theorem pt_op {K : Int} (h : 0 ≤ ptO K S) : 40 ≤ opN S ∧ opN S ≤ 43 ∧ ptO K S ≤ 43 ∧ (0 < ptO K S → 42 ≤ ptO K S) := by
  unfold ptO at h ⊢
  repeat' split at h
  all_goals first | (exact absurd h (by decide)) | skip
  all_goals simp_all
set_option maxHeartbeats 2000000 in
theorem h_part (O : TpOk p) (h : MPS p z q u wl i S true k) (hx : btO (tK p i) S < 0) (hp : 0 < ptO (tK p i) S) (hs : sdr 1 S = y :: R) (hk : k + S.length ≤ 302) (hl : S.length < 160) (ho : opC S ≤ 300) : ∃ u2 wl2, am_call (d + 7) 305 [.ref 393] (L, T, S0 n, am_w u, am_wl wl, R0 o) = some (some (.int (iI 1)), (L, T, S0 n, am_w u2, am_wl wl2, R0 o)) ∧ MPS p z q u2 wl2 (i + 1) (ptO (tK p i) S :: R) false (k + (em0 (stk 1 S)).length) ∧ MEf q k u u2 wl wl2 (em0 (stk 1 S)) := by
  have e1 := m_betweenOf (d := d) (L := L) (T := T) (o := o) (n := n) O h
  have e2 := m_openNow (d := d + 5) (L := L) (T := T) (o := o) (n := n) (v := am_wl wl) h.2.1
  have e3 := m_partOf (d := d) (L := L) (T := T) (o := o) (n := n) O h
  have po := pt_op (K := tK p i) (S := S) (by omega)
  have b1 : -1 ≤ btO (tK p i) S := by
    unfold btO cpO
    repeat' split
    all_goals decide
  obtain ⟨R', hr⟩ := sdr1_op S (by omega)
  rw [hs] at hr
  have hy : y = opN S := by injection hr
  obtain ⟨u1, e4, g1, f1⟩ := m_st (d := d + 5) (L := L) (T := T) (o := o) (n := n) (l := 1) h hk (by decide) (by decide) ho
  obtain ⟨u2, wl2, e5, g2, f2⟩ := m_nx (d := d + 5) (L := L) (T := T) (o := o) (n := n) O g1
  rw [hs] at g2
  have e6 := m_openAt (d := d + 6) (L := L) (T := T) (o := o) (n := n) (v := am_wl wl2) g2.2.1
  have oi : opI (y :: R) = (R.length : Int) := by rw [opI, if_pos (by omega)]
  rw [oi] at e6
  have pr := g2.2.1
  have rl : R.length + 1 ≤ 160 := pr.2.2.1
  have hoc := g2.2.2.2.1
  rw [opC_1 (Or.inr (Or.inr (by omega)))] at hoc
  have up := MPS.upd (u2 := upI (upI u2 398 (R.length : Int) (ptO (tK p i) S)) 393 18 0) (R := ptO (tK p i) S :: R) (wh2 := false) g2 (fun b h1 h2 => by rw [upI_c h1, upI_c h2]) (fun y h1 h2 h3 => by rw [upI_2 h3, upI_1 (by decide)]) ((PRep.pop (u2 := upI u2 393 16 (R.length : Int)) pr upI_s (by rw [upI_c (by decide)])).push (by omega) (by omega) (by omega) (by rw [upI_2 (by decide), upI_1 (by decide)]; rw [pr.1]; show ((R.length + 1 : Nat) : Int) = _; omega) (by rw [upI_1 (by decide), upI_s]) (fun y hy => by rw [upI_1 (by decide), upI_2 (by omega), upI_1 (by decide)])) (by rw [upI_2 (by decide), upI_1 (by decide), opC_1 (Or.inr (Or.inr (by omega)))]; exact hoc) (by rw [upI_s]; rfl)
  refine ⟨_, wl2, ?_, up.1, ?_⟩
  · clear f1 f2 g1 g2 up pr hoc
    have r0 : 0 ≤ (R.length : Int) := by omega
    have r1 : (R.length : Int) < 160 := by omega
    generalize (R.length : Int) = s at *
    generalize ptO (tK p i) S = pt at *
    generalize btO (tK p i) S = bt at *
    generalize opN S = op at *
    simp (decide := true) (disch := omega) only [en_305, bk_305_0, bk_305_22, bk_305_26, bk_305_60, bk_305_77, bk_305_107, bk_305_139, bq_305_0, bq_305_22, bq_305_26, bq_305_60, bq_305_77, bq_305_107, bq_305_139, rn_iconst, rn_bipush, rn_sipush, rn_ldc_w, rn_ldc, rn_ldcS, rn_lconst, rn_ldc2, rn_gets, rn_iload0, rn_lload0, rn_aload0, rn_istore0, rn_astore0, rn_lstore0, rn_iinc0, rn_iload1, rn_lload1, rn_aload1, rn_istore1, rn_astore1, rn_lstore1, rn_iinc1, rn_iload2, rn_lload2, rn_aload2, rn_istore2, rn_astore2, rn_lstore2, rn_iinc2, rn_iload3, rn_lload3, rn_aload3, rn_istore3, rn_astore3, rn_lstore3, rn_iinc3, rn_iload4, rn_lload4, rn_aload4, rn_istore4, rn_astore4, rn_lstore4, rn_iinc4, rn_iload5, rn_lload5, rn_aload5, rn_istore5, rn_astore5, rn_lstore5, rn_iinc5, rn_iload6, rn_lload6, rn_aload6, rn_istore6, rn_astore6, rn_lstore6, rn_iinc6, rn_iload7, rn_aload7, rn_istore7, rn_astore7, rn_iinc7, rn_iload8, rn_aload8, rn_istore8, rn_astore8, rn_iinc8, rn_iload9, rn_aload9, rn_istore9, rn_astore9, rn_iinc9, rn_iadd, rn_isub, rn_imul, rn_iand, rn_ior, rn_ixor, rn_ishl, rn_ishr, rn_iushr, rn_idiv, rn_irem, rn_ineg, rn_ladd, rn_lsub, rn_lmul, rn_lor, rn_ldiv, rn_lrem, rn_lneg, rn_lshl, rn_lshr, rn_i2l, rn_l2i, rn_i2c, rn_lcmp, rn_dupi, rn_dupa, rn_popi, rn_popa, rn_dup2, rn_aast, rn_alen, rn_geta, rn_aald, rn_puta, rn_new, rn_newa, rn_anew, rn_min, rn_max, rn_slen, rn_chat, rn_indx, rn_objI, rn_nop, rn_goto, rn_ifeq, rn_ifne, rn_iflt, rn_ifge, rn_ifgt, rn_ifle, rn_iceq, rn_icne, rn_iclt, rn_icge, rn_icgt, rn_icle, rn_tsw, rn_lsw, rn_iret, rn_zret, rn_lret, rn_aret, rn_vret, rn_cs0, rn_cs1, rn_cs2, rn_cs3, rn_cs4, rn_cs5, rn_cs6, rn_cs7, rn_cv1, rn_ci1, rn_cv2, rn_ci2, rn_cv3, rn_ci3, rn_cv4, rn_cv5, rn_cv6, rn_cv7, cs_n, cs_i, cs_a, cs_l, rc_i, rc_a, rc_l, rc_n, rw_iald, rw_bald, rw_lald, rw_iast, rw_bast, rw_last, rw_geti, rw_getl, rw_puti, rw_putz, rw_putl, iI_add, iI_sub, iI_mul, iI_neg, iI_lt, iI_le, iI_eq, iI_lt0, iI_le0, iI_0lt, iI_0le, iI_eq0, iI_eq1, iI_div, iI_rem, am_in_ok, am_in_no, iI_toInt, iL_add, iL_sub, iL_mul, iL_neg, iL_div, iL_rem, iI_i2l, iL_l2i, iL_cmp, iL_eq0, iI_or, iI_and, iI_shl, if_true, if_false, true_or, or_true, true_and, and_true, false_or, or_false, not_true_eq_false, not_false_eq_true, Option.bind_some, Option.toList_some, Option.toList_none, List.nil_append, List.cons_append, ite_self, nc_0, nc_1, nc_2, nc_3, nc_4, nc_5, nc_6, nc_7, nc_8, nc_9, nc_10, nc_11, nc_12, nc_13, nc_14, nc_15, nc_16, nc_17, nc_18, nc_19, nc_20, nc_21, nc_22, nc_23, nc_24, nc_25, nc_26, nc_27, nc_28, nc_29, nc_30, nc_31, nc_32, nc_33, nc_34, nc_35, nc_36, nc_40, nc_48, nc_100, nc_256, nc_300, nc_304, sh_393, rf_393_0, rf_393_1, rf_393_2, rf_393_3, rf_393_15, rf_393_20, rf_393_21, rf_393_22, rf_393_27, rf_393_28, rf_393_29, rf_393_30, rf_393_34, sh_398, e1, e2, e3, e4, e5, e6, mx_312, mx_306, mx_314, mx_307, mx_223, mx_315, if_pos, if_neg, sh_0, sh_393, rw_copy, am_cp_ok]
  · have t := (f1.trans (k2 := k + (em0 (stk 1 S)).length) rfl f2).trans (k2 := k + (em0 (stk 1 S)).length) (by rw [List.append_nil]) up.2
    rw [List.append_nil, List.append_nil] at t
    exact t
set_option maxHeartbeats 2000000 in
theorem h_shut (O : TpOk p) (h : MPS p z q u wl i S true k) (hx : btO (tK p i) S < 0) (hp : ptO (tK p i) S = 0) (hs : sdr 1 S = y :: R) (hk : k + S.length ≤ 302) (hl : S.length < 160) (ho : opC S ≤ 300) : ∃ u2 wl2, am_call (d + 7) 305 [.ref 393] (L, T, S0 n, am_w u, am_wl wl, R0 o) = some (some (.int (iI 1)), (L, T, S0 n, am_w u2, am_wl wl2, R0 o)) ∧ MPS p z q u2 wl2 (i + 1) (sdr 7 R) true (k + (em0 (stk 1 S) ++ ((if y = 43 then [(3, 0)] else []) ++ em0 (stk 7 R))).length) ∧ MEf q k u u2 wl wl2 (em0 (stk 1 S) ++ ((if y = 43 then [(3, 0)] else []) ++ em0 (stk 7 R))) := by
  have e1 := m_betweenOf (d := d) (L := L) (T := T) (o := o) (n := n) O h
  have e2 := m_openNow (d := d + 5) (L := L) (T := T) (o := o) (n := n) (v := am_wl wl) h.2.1
  have e3 := m_partOf (d := d) (L := L) (T := T) (o := o) (n := n) O h
  have po := pt_op (K := tK p i) (S := S) (by omega)
  have b1 : -1 ≤ btO (tK p i) S := by
    unfold btO cpO
    repeat' split
    all_goals decide
  obtain ⟨R', hr⟩ := sdr1_op S (by omega)
  rw [hs] at hr
  have hy : y = opN S := by injection hr
  obtain ⟨u1, e4, g1, f1⟩ := m_st (d := d + 5) (L := L) (T := T) (o := o) (n := n) (l := 1) h hk (by decide) (by decide) ho
  have lens : (em0 (stk 1 S)).length + (sdr 1 S).length = S.length := by
    have := stk_len (l := 1) (S := S)
    have := stN_le (l := 1) S
    unfold sdr
    rw [List.length_drop]
    omega
  have ocs := opC_sdr (l := 1) (by decide) S
  have son := stO_nn (l := 1) S
  obtain ⟨u2, wl2, e5, g2, f2⟩ := m_nx (d := d + 5) (L := L) (T := T) (o := o) (n := n) O g1
  rw [hs] at g2 lens ocs
  have lens2 : (em0 (stk 1 S)).length + (R.length + 1) = S.length := lens
  have pr := g2.2.1
  have rl : R.length + 1 ≤ 160 := pr.2.2.1
  have hoc := g2.2.2.2.1
  rw [opC_1 (Or.inr (Or.inr (by omega)))] at hoc ocs
  have ocn := opC_nn R
  have h16 : u2 393 16 = (R.length : Int) + 1 := by rw [pr.1]; show ((R.length + 1 : Nat) : Int) = _; omega
  have up := MPS.upd (u2 := upI (upI u2 393 17 (opC R)) 393 16 (R.length : Int)) (R := R) (wh2 := true) g2 (fun b h1 h2 => by rw [upI_c h1, upI_c h1]) (fun y h1 h2 h3 => by rw [upI_2 h1, upI_2 h2]) (PRep.pop pr upI_s (by rw [upI_c (by decide), upI_c (by decide)])) (by rw [upI_2 (by decide), upI_s]) (by rw [upI_2 (by decide), upI_2 (by decide)]; exact g2.2.2.2.2.1)
  have a1 : upI u2 393 17 (opC R) 393 16 = (R.length : Int) + 1 := by rw [upI_2 (by decide)]; exact h16
  have eo : opC R + 1 - 1 = opC R := by omega
  have er : (R.length : Int) + 1 - 1 = (R.length : Int) := by omega
  have f12 := (f1.trans (k2 := k + (em0 (stk 1 S)).length) rfl f2).trans (k2 := k + (em0 (stk 1 S)).length) (by rw [List.append_nil]) up.2
  rw [List.append_nil, List.append_nil] at f12
  by_cases c : y = 43
  · rw [if_pos c]
    obtain ⟨u3, e6, g3, f3⟩ := m_em (d := d + 6) (L := L) (T := T) (o := o) (n := n) (x := 3) (y := 0) up.1 (by omega) (by decide) (by decide) (by decide) (by decide)
    obtain ⟨u4, e7, g4, f4⟩ := m_st (d := d + 5) (L := L) (T := T) (o := o) (n := n) (l := 7) g3 (by omega) (by decide) (by decide) (by omega)
    refine ⟨u4, wl2, ?_, ?_, ?_⟩
    · clear f1 f2 f3 f4 f12 g1 g2 g3 g4 up pr lens
      rw [← hy, c] at e2 e3
      rw [hp] at e3
      generalize opC R = oc at *
      generalize (R.length : Int) = s at *
      generalize btO (tK p i) S = bt at *
      simp (decide := true) (disch := omega) only [en_305, bk_305_0, bk_305_22, bk_305_26, bk_305_60, bk_305_77, bk_305_107, bk_305_139, bq_305_0, bq_305_22, bq_305_26, bq_305_60, bq_305_77, bq_305_107, bq_305_139, rn_iconst, rn_bipush, rn_sipush, rn_ldc_w, rn_ldc, rn_ldcS, rn_lconst, rn_ldc2, rn_gets, rn_iload0, rn_lload0, rn_aload0, rn_istore0, rn_astore0, rn_lstore0, rn_iinc0, rn_iload1, rn_lload1, rn_aload1, rn_istore1, rn_astore1, rn_lstore1, rn_iinc1, rn_iload2, rn_lload2, rn_aload2, rn_istore2, rn_astore2, rn_lstore2, rn_iinc2, rn_iload3, rn_lload3, rn_aload3, rn_istore3, rn_astore3, rn_lstore3, rn_iinc3, rn_iload4, rn_lload4, rn_aload4, rn_istore4, rn_astore4, rn_lstore4, rn_iinc4, rn_iload5, rn_lload5, rn_aload5, rn_istore5, rn_astore5, rn_lstore5, rn_iinc5, rn_iload6, rn_lload6, rn_aload6, rn_istore6, rn_astore6, rn_lstore6, rn_iinc6, rn_iload7, rn_aload7, rn_istore7, rn_astore7, rn_iinc7, rn_iload8, rn_aload8, rn_istore8, rn_astore8, rn_iinc8, rn_iload9, rn_aload9, rn_istore9, rn_astore9, rn_iinc9, rn_iadd, rn_isub, rn_imul, rn_iand, rn_ior, rn_ixor, rn_ishl, rn_ishr, rn_iushr, rn_idiv, rn_irem, rn_ineg, rn_ladd, rn_lsub, rn_lmul, rn_lor, rn_ldiv, rn_lrem, rn_lneg, rn_lshl, rn_lshr, rn_i2l, rn_l2i, rn_i2c, rn_lcmp, rn_dupi, rn_dupa, rn_popi, rn_popa, rn_dup2, rn_aast, rn_alen, rn_geta, rn_aald, rn_puta, rn_new, rn_newa, rn_anew, rn_min, rn_max, rn_slen, rn_chat, rn_indx, rn_objI, rn_nop, rn_goto, rn_ifeq, rn_ifne, rn_iflt, rn_ifge, rn_ifgt, rn_ifle, rn_iceq, rn_icne, rn_iclt, rn_icge, rn_icgt, rn_icle, rn_tsw, rn_lsw, rn_iret, rn_zret, rn_lret, rn_aret, rn_vret, rn_cs0, rn_cs1, rn_cs2, rn_cs3, rn_cs4, rn_cs5, rn_cs6, rn_cs7, rn_cv1, rn_ci1, rn_cv2, rn_ci2, rn_cv3, rn_ci3, rn_cv4, rn_cv5, rn_cv6, rn_cv7, cs_n, cs_i, cs_a, cs_l, rc_i, rc_a, rc_l, rc_n, rw_iald, rw_bald, rw_lald, rw_iast, rw_bast, rw_last, rw_geti, rw_getl, rw_puti, rw_putz, rw_putl, iI_add, iI_sub, iI_mul, iI_neg, iI_lt, iI_le, iI_eq, iI_lt0, iI_le0, iI_0lt, iI_0le, iI_eq0, iI_eq1, iI_div, iI_rem, am_in_ok, am_in_no, iI_toInt, iL_add, iL_sub, iL_mul, iL_neg, iL_div, iL_rem, iI_i2l, iL_l2i, iL_cmp, iL_eq0, iI_or, iI_and, iI_shl, if_true, if_false, true_or, or_true, true_and, and_true, false_or, or_false, not_true_eq_false, not_false_eq_true, Option.bind_some, Option.toList_some, Option.toList_none, List.nil_append, List.cons_append, ite_self, nc_0, nc_1, nc_2, nc_3, nc_4, nc_5, nc_6, nc_7, nc_8, nc_9, nc_10, nc_11, nc_12, nc_13, nc_14, nc_15, nc_16, nc_17, nc_18, nc_19, nc_20, nc_21, nc_22, nc_23, nc_24, nc_25, nc_26, nc_27, nc_28, nc_29, nc_30, nc_31, nc_32, nc_33, nc_34, nc_35, nc_36, nc_40, nc_48, nc_100, nc_256, nc_300, nc_304, sh_393, rf_393_0, rf_393_1, rf_393_2, rf_393_3, rf_393_15, rf_393_20, rf_393_21, rf_393_22, rf_393_27, rf_393_28, rf_393_29, rf_393_30, rf_393_34, sh_398, e1, e2, e3, e4, e5, e6, e7, hoc, h16, a1, eo, er, mx_312, mx_306, mx_314, mx_307, mx_223, mx_316, if_pos, if_neg, sh_0, sh_393, rw_copy, am_cp_ok]
    · have el : k + ((em0 (stk 1 S) ++ ([(3, 0)] ++ em0 (stk 7 R))).length : Int) = k + (em0 (stk 1 S)).length + 1 + (em0 (stk 7 R)).length := by
        rw [List.length_append, List.length_append]
        show k + (((em0 (stk 1 S)).length + (1 + (em0 (stk 7 R)).length) : Nat) : Int) = _
        omega
      rw [el]
      exact g4
    · exact f12.trans (k2 := k + (em0 (stk 1 S)).length) rfl (f3.trans (k2 := k + (em0 (stk 1 S)).length + 1) rfl f4)
  · rw [if_neg c]
    obtain ⟨u4, e7, g4, f4⟩ := m_st (d := d + 5) (L := L) (T := T) (o := o) (n := n) (l := 7) up.1 (by omega) (by decide) (by decide) (by omega)
    refine ⟨u4, wl2, ?_, ?_, ?_⟩
    · clear f1 f2 f4 f12 g1 g2 g4 up pr lens
      rw [← hy] at e2 e3
      rw [hp] at e3
      generalize opC R = oc at *
      generalize (R.length : Int) = s at *
      generalize btO (tK p i) S = bt at *
      simp (decide := true) (disch := omega) only [en_305, bk_305_0, bk_305_22, bk_305_26, bk_305_60, bk_305_77, bk_305_107, bk_305_139, bq_305_0, bq_305_22, bq_305_26, bq_305_60, bq_305_77, bq_305_107, bq_305_139, rn_iconst, rn_bipush, rn_sipush, rn_ldc_w, rn_ldc, rn_ldcS, rn_lconst, rn_ldc2, rn_gets, rn_iload0, rn_lload0, rn_aload0, rn_istore0, rn_astore0, rn_lstore0, rn_iinc0, rn_iload1, rn_lload1, rn_aload1, rn_istore1, rn_astore1, rn_lstore1, rn_iinc1, rn_iload2, rn_lload2, rn_aload2, rn_istore2, rn_astore2, rn_lstore2, rn_iinc2, rn_iload3, rn_lload3, rn_aload3, rn_istore3, rn_astore3, rn_lstore3, rn_iinc3, rn_iload4, rn_lload4, rn_aload4, rn_istore4, rn_astore4, rn_lstore4, rn_iinc4, rn_iload5, rn_lload5, rn_aload5, rn_istore5, rn_astore5, rn_lstore5, rn_iinc5, rn_iload6, rn_lload6, rn_aload6, rn_istore6, rn_astore6, rn_lstore6, rn_iinc6, rn_iload7, rn_aload7, rn_istore7, rn_astore7, rn_iinc7, rn_iload8, rn_aload8, rn_istore8, rn_astore8, rn_iinc8, rn_iload9, rn_aload9, rn_istore9, rn_astore9, rn_iinc9, rn_iadd, rn_isub, rn_imul, rn_iand, rn_ior, rn_ixor, rn_ishl, rn_ishr, rn_iushr, rn_idiv, rn_irem, rn_ineg, rn_ladd, rn_lsub, rn_lmul, rn_lor, rn_ldiv, rn_lrem, rn_lneg, rn_lshl, rn_lshr, rn_i2l, rn_l2i, rn_i2c, rn_lcmp, rn_dupi, rn_dupa, rn_popi, rn_popa, rn_dup2, rn_aast, rn_alen, rn_geta, rn_aald, rn_puta, rn_new, rn_newa, rn_anew, rn_min, rn_max, rn_slen, rn_chat, rn_indx, rn_objI, rn_nop, rn_goto, rn_ifeq, rn_ifne, rn_iflt, rn_ifge, rn_ifgt, rn_ifle, rn_iceq, rn_icne, rn_iclt, rn_icge, rn_icgt, rn_icle, rn_tsw, rn_lsw, rn_iret, rn_zret, rn_lret, rn_aret, rn_vret, rn_cs0, rn_cs1, rn_cs2, rn_cs3, rn_cs4, rn_cs5, rn_cs6, rn_cs7, rn_cv1, rn_ci1, rn_cv2, rn_ci2, rn_cv3, rn_ci3, rn_cv4, rn_cv5, rn_cv6, rn_cv7, cs_n, cs_i, cs_a, cs_l, rc_i, rc_a, rc_l, rc_n, rw_iald, rw_bald, rw_lald, rw_iast, rw_bast, rw_last, rw_geti, rw_getl, rw_puti, rw_putz, rw_putl, iI_add, iI_sub, iI_mul, iI_neg, iI_lt, iI_le, iI_eq, iI_lt0, iI_le0, iI_0lt, iI_0le, iI_eq0, iI_eq1, iI_div, iI_rem, am_in_ok, am_in_no, iI_toInt, iL_add, iL_sub, iL_mul, iL_neg, iL_div, iL_rem, iI_i2l, iL_l2i, iL_cmp, iL_eq0, iI_or, iI_and, iI_shl, if_true, if_false, true_or, or_true, true_and, and_true, false_or, or_false, not_true_eq_false, not_false_eq_true, Option.bind_some, Option.toList_some, Option.toList_none, List.nil_append, List.cons_append, ite_self, nc_0, nc_1, nc_2, nc_3, nc_4, nc_5, nc_6, nc_7, nc_8, nc_9, nc_10, nc_11, nc_12, nc_13, nc_14, nc_15, nc_16, nc_17, nc_18, nc_19, nc_20, nc_21, nc_22, nc_23, nc_24, nc_25, nc_26, nc_27, nc_28, nc_29, nc_30, nc_31, nc_32, nc_33, nc_34, nc_35, nc_36, nc_40, nc_48, nc_100, nc_256, nc_300, nc_304, sh_393, rf_393_0, rf_393_1, rf_393_2, rf_393_3, rf_393_15, rf_393_20, rf_393_21, rf_393_22, rf_393_27, rf_393_28, rf_393_29, rf_393_30, rf_393_34, sh_398, e1, e2, e3, e4, e5, e7, hoc, h16, a1, eo, er, c, mx_312, mx_306, mx_314, mx_307, mx_223, mx_316, if_pos, if_neg, sh_0, sh_393, rw_copy, am_cp_ok]
    · have el : k + ((em0 (stk 1 S) ++ ([] ++ em0 (stk 7 R))).length : Int) = k + (em0 (stk 1 S)).length + (em0 (stk 7 R)).length := by
        rw [List.nil_append, List.length_append]
        omega
      rw [el]
      exact g4
    · exact f12.trans (k2 := k + (em0 (stk 1 S)).length) rfl f4
end SH
