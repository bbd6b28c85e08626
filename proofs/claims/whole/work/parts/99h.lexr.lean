/-- both sides' kinds of a token -/
abbrev tkRel (T K : Int) : Prop := ((T = 0 ↔ K = 39) ∧ (T = 1 ↔ K = 38) ∧ (T = 4 ↔ K = 36) ∧ (T = 5 ↔ K = 37)) ∧ ((T = 43 ↔ K = 25) ∧ (T = 45 ↔ K = 26) ∧ (T = 42 ↔ K = 27) ∧ (T = 47 ↔ K = 28) ∧ (T = 40 ↔ K = 29) ∧ (T = 41 ↔ K = 30)) ∧ ((T = 60 ↔ K = 31) ∧ (T = 62 ↔ K = 32) ∧ (T = 61 ↔ K = 33) ∧ (T = 35 ↔ K = 34) ∧ (T = 59 ↔ K = 35)) ∧ (T ≠ 2 → 25 ≤ K) ∧ (T = 2 → K < 25 ∨ K = 40) ∧ 0 ≤ T ∧ T ≤ 62
theorem tkr_c : ∀ x : Fin 256, isL (x.val : Int) = false → isD (x.val : Int) = false → tkRel (if isSg (x.val : Int) = true then (x.val : Int) else 3) (sgK (x.val : Int)) := by decide +kernel
section TKR
variable {d L T o n : Nat} {u : Nat → Int → Int} {wl : Nat → Int → Int} {p : Bts} {x q : Int} {M : am_M} {i : Nat}
theorem tk_rel (O : TpOk p) (i : Nat) : tkRel (tkT p (tst p i)) (tK p i) := by
  have ht := tst_ok O i
  have eK : tK p i = tkK p (tst p i) := rfl
  rw [eK]
  generalize tst p i = q at *
  unfold tkT tkK
  by_cases c0 : p.1 ≤ q
  · rw [if_pos c0, if_pos c0]; decide
  · rw [if_neg c0, if_neg c0]
    by_cases c1 : isL (p.2 q) = true
    · rw [if_pos c1, if_pos c1]
      have := wdK_bd (p := p) (q := q) (e := sc isL p q) 25 0 rfl
      generalize wdK p q (sc isL p q) 25 0 = K at *
      unfold tkRel
      omega
    · rw [if_neg c1, if_neg c1]
      by_cases c2 : isD (p.2 q) = true
      · rw [if_pos c2, if_pos c2]; decide
      · rw [if_neg c2, if_neg c2]
        by_cases c3 : tkQ p q = true
        · rw [if_pos c3, if_pos c3]
          by_cases c4 : p.2 q = 60
          · rw [if_pos c4, if_pos c4]; decide
          · rw [if_neg c4, if_neg c4]; decide
        · rw [if_neg c3, if_neg c3]
          have bx := O.2 q ht.2.2.1 (by omega)
          have h := tkr_c ⟨(p.2 q).toNat, by omega⟩
          dsimp only at h
          rw [Int.toNat_of_nonneg bx.1] at h
          exact h (by simpa using c1) (by simpa using c2)
theorem tk_word (O : TpOk p) (i : Nat) {j : Nat} (hj : j < 25) : tK p i = (j : Int) ↔ tkT p (tst p i) = 2 ∧ pkP p.2 (tst p i) (tps p (i + 1) - tst p i).toNat = cw j := by
  have ht := tst_ok O i
  have r := tk_rel O i
  have eK : tK p i = tkK p (tst p i) := rfl
  have eE : tps p (i + 1) = tkE p (tst p i) := rfl
  have h2 : tkT p (tst p i) = 2 → tst p i < p.1 ∧ isL (p.2 (tst p i)) = true := by
    intro h
    have b := tkT_bd O ht.2.2.1 ht.2.1
    by_cases c0 : p.1 ≤ tst p i
    · have := b.1 c0; omega
    · refine ⟨by omega, ?_⟩
      by_cases c1 : isL (p.2 (tst p i)) = true
      · exact c1
      · exfalso
        by_cases c2 : isD (p.2 (tst p i)) = true
        · have := (b.2 (by omega)).2.1 c2; omega
        · exact ((b.2 (by omega)).2.2 (by simpa using c1) (by simpa using c2)).2.2 h
  constructor
  · intro h
    have t2 : tkT p (tst p i) = 2 := by
      by_cases c : tkT p (tst p i) = 2
      · exact c
      · have := r.2.2.2.1 c; omega
    obtain ⟨g, c1⟩ := h2 t2
    refine ⟨t2, ?_⟩
    rw [eE]
    rw [eK] at h
    unfold tkK at h
    unfold tkE
    rw [if_neg (by omega), if_pos c1] at h ⊢
    have s := sc_ok (P := isL) (p := p) (x := tst p i) ht.2.1
    exact (wdK_iff s.1 s.2.2.1 hj).mp h
  · rintro ⟨t2, h⟩
    obtain ⟨g, c1⟩ := h2 t2
    rw [eE] at h
    rw [eK]
    unfold tkK
    unfold tkE at h
    rw [if_neg (by omega), if_pos c1] at h ⊢
    have s := sc_ok (P := isL) (p := p) (x := tst p i) ht.2.1
    exact (wdK_iff s.1 s.2.2.1 hj).mpr h
theorem pk_rng (O : TpOk p) (i : Nat) (h : tkT p (tst p i) = 2) : 0 ≤ pkP p.2 (tst p i) (tps p (i + 1) - tst p i).toNat ∧ pkP p.2 (tst p i) (tps p (i + 1) - tst p i).toNat ≤ 1152921504606846976 := by
  have ht := tst_ok O i
  have eE : tps p (i + 1) = tkE p (tst p i) := rfl
  have b := tkT_bd O ht.2.2.1 ht.2.1
  by_cases c0 : p.1 ≤ tst p i
  · have := b.1 c0; omega
  · by_cases c1 : isL (p.2 (tst p i)) = true
    · rw [eE]
      unfold tkE
      rw [if_neg c0, if_pos c1]
      have s := sc_ok (P := isL) (p := p) (x := tst p i) ht.2.1
      have k := pk_bd (f := p.2) (q := tst p i) (sc isL p (tst p i) - tst p i).toNat (fun j hj => by
        have := isL_bd (s.2.2.1 (tst p i + (j : Int)) (by omega) (by omega))
        omega)
      exact ⟨k.1, k.2.1⟩
    · exfalso
      by_cases c2 : isD (p.2 (tst p i)) = true
      · have := (b.2 (by omega)).2.1 c2; omega
      · exact ((b.2 (by omega)).2.2 (by simpa using c1) (by simpa using c2)).2.2 h
theorem m_w2 {a b : Int} (a0 : 0 ≤ a ∧ a ≤ 255) (b0 : 0 ≤ b ∧ b ≤ 255) : am_call d 292 [.int (iI a), .int (iI b)] M = some (some (.long (iL (256 * a + b))), M) := by
  have s2 := iL_shl8 (x := a) (by omega) (by omega)
  have s3 : iL (256 * a) ||| iL b = iL (256 * a + b) := by rw [iL_or (by omega) (by omega), ior_256 (by omega) (by omega) (by omega)]
  simp (decide := true) (disch := omega) only [en_292, bk_292_0, bq_292_0, rn_iconst, rn_bipush, rn_sipush, rn_ldc_w, rn_ldc, rn_ldcS, rn_lconst, rn_ldc2, rn_gets, rn_iload0, rn_lload0, rn_aload0, rn_istore0, rn_astore0, rn_lstore0, rn_iinc0, rn_iload1, rn_lload1, rn_aload1, rn_istore1, rn_astore1, rn_lstore1, rn_iinc1, rn_iload2, rn_lload2, rn_aload2, rn_istore2, rn_astore2, rn_lstore2, rn_iinc2, rn_iload3, rn_lload3, rn_aload3, rn_istore3, rn_astore3, rn_lstore3, rn_iinc3, rn_iload4, rn_lload4, rn_aload4, rn_istore4, rn_astore4, rn_lstore4, rn_iinc4, rn_iload5, rn_lload5, rn_aload5, rn_istore5, rn_astore5, rn_lstore5, rn_iinc5, rn_iload6, rn_lload6, rn_aload6, rn_istore6, rn_astore6, rn_lstore6, rn_iinc6, rn_iload7, rn_aload7, rn_istore7, rn_astore7, rn_iinc7, rn_iload8, rn_aload8, rn_istore8, rn_astore8, rn_iinc8, rn_iload9, rn_aload9, rn_istore9, rn_astore9, rn_iinc9, rn_iadd, rn_isub, rn_imul, rn_iand, rn_ior, rn_ixor, rn_ishl, rn_ishr, rn_iushr, rn_idiv, rn_irem, rn_ineg, rn_ladd, rn_lsub, rn_lmul, rn_lor, rn_ldiv, rn_lrem, rn_lneg, rn_lshl, rn_lshr, rn_i2l, rn_l2i, rn_i2c, rn_lcmp, rn_dupi, rn_dupa, rn_popi, rn_popa, rn_dup2, rn_aast, rn_alen, rn_geta, rn_aald, rn_puta, rn_new, rn_newa, rn_anew, rn_min, rn_max, rn_slen, rn_chat, rn_indx, rn_objI, rn_nop, rn_goto, rn_ifeq, rn_ifne, rn_iflt, rn_ifge, rn_ifgt, rn_ifle, rn_iceq, rn_icne, rn_iclt, rn_icge, rn_icgt, rn_icle, rn_tsw, rn_lsw, rn_iret, rn_zret, rn_lret, rn_aret, rn_vret, rn_cs0, rn_cs1, rn_cs2, rn_cs3, rn_cs4, rn_cs5, rn_cs6, rn_cs7, rn_cv1, rn_ci1, rn_cv2, rn_ci2, rn_cv3, rn_ci3, rn_cv4, rn_cv5, rn_cv6, rn_cv7, cs_n, cs_i, cs_a, cs_l, rc_i, rc_a, rc_l, rc_n, rw_iald, rw_bald, rw_lald, rw_iast, rw_bast, rw_last, rw_geti, rw_getl, rw_puti, rw_putz, rw_putl, iI_add, iI_sub, iI_mul, iI_neg, iI_lt, iI_le, iI_eq, iI_lt0, iI_le0, iI_0lt, iI_0le, iI_eq0, iI_eq1, iI_div, iI_rem, am_in_ok, am_in_no, iI_toInt, iL_add, iL_sub, iL_mul, iL_neg, iL_div, iL_rem, iI_i2l, iL_l2i, iL_cmp, iL_eq0, iI_or, iI_and, iI_shl, if_true, if_false, true_or, or_true, true_and, and_true, false_or, or_false, not_true_eq_false, not_false_eq_true, Option.bind_some, Option.toList_some, Option.toList_none, List.nil_append, List.cons_append, ite_self, nc_0, nc_1, nc_2, nc_3, nc_4, nc_5, nc_6, nc_7, nc_8, nc_9, nc_10, nc_11, nc_12, nc_13, nc_14, nc_15, nc_16, nc_17, nc_18, nc_19, nc_20, nc_21, nc_22, nc_23, nc_24, nc_25, nc_26, nc_27, nc_28, nc_29, nc_30, nc_31, nc_32, nc_33, nc_34, nc_35, nc_36, nc_40, nc_48, nc_100, nc_256, nc_300, nc_304, s2, s3, if_pos, if_neg, sh_0, sh_393, rw_copy, am_cp_ok]
theorem m_w3 {a b c : Int} (a0 : 0 ≤ a ∧ a ≤ 255) (b0 : 0 ≤ b ∧ b ≤ 255) (c0 : 0 ≤ c ∧ c ≤ 255) : am_call (d + 1) 289 [.int (iI a), .int (iI b), .int (iI c)] M = some (some (.long (iL (256 * (256 * a + b) + c))), M) := by
  have s1 := m_w2 (d := d) (M := M) a0 b0
  have s2 := iL_shl8 (x := 256 * a + b) (by omega) (by omega)
  have s3 : iL (256 * (256 * a + b)) ||| iL c = iL (256 * (256 * a + b) + c) := by rw [iL_or (by omega) (by omega), ior_256 (by omega) (by omega) (by omega)]
  simp (decide := true) (disch := omega) only [en_289, bk_289_0, bq_289_0, rn_iconst, rn_bipush, rn_sipush, rn_ldc_w, rn_ldc, rn_ldcS, rn_lconst, rn_ldc2, rn_gets, rn_iload0, rn_lload0, rn_aload0, rn_istore0, rn_astore0, rn_lstore0, rn_iinc0, rn_iload1, rn_lload1, rn_aload1, rn_istore1, rn_astore1, rn_lstore1, rn_iinc1, rn_iload2, rn_lload2, rn_aload2, rn_istore2, rn_astore2, rn_lstore2, rn_iinc2, rn_iload3, rn_lload3, rn_aload3, rn_istore3, rn_astore3, rn_lstore3, rn_iinc3, rn_iload4, rn_lload4, rn_aload4, rn_istore4, rn_astore4, rn_lstore4, rn_iinc4, rn_iload5, rn_lload5, rn_aload5, rn_istore5, rn_astore5, rn_lstore5, rn_iinc5, rn_iload6, rn_lload6, rn_aload6, rn_istore6, rn_astore6, rn_lstore6, rn_iinc6, rn_iload7, rn_aload7, rn_istore7, rn_astore7, rn_iinc7, rn_iload8, rn_aload8, rn_istore8, rn_astore8, rn_iinc8, rn_iload9, rn_aload9, rn_istore9, rn_astore9, rn_iinc9, rn_iadd, rn_isub, rn_imul, rn_iand, rn_ior, rn_ixor, rn_ishl, rn_ishr, rn_iushr, rn_idiv, rn_irem, rn_ineg, rn_ladd, rn_lsub, rn_lmul, rn_lor, rn_ldiv, rn_lrem, rn_lneg, rn_lshl, rn_lshr, rn_i2l, rn_l2i, rn_i2c, rn_lcmp, rn_dupi, rn_dupa, rn_popi, rn_popa, rn_dup2, rn_aast, rn_alen, rn_geta, rn_aald, rn_puta, rn_new, rn_newa, rn_anew, rn_min, rn_max, rn_slen, rn_chat, rn_indx, rn_objI, rn_nop, rn_goto, rn_ifeq, rn_ifne, rn_iflt, rn_ifge, rn_ifgt, rn_ifle, rn_iceq, rn_icne, rn_iclt, rn_icge, rn_icgt, rn_icle, rn_tsw, rn_lsw, rn_iret, rn_zret, rn_lret, rn_aret, rn_vret, rn_cs0, rn_cs1, rn_cs2, rn_cs3, rn_cs4, rn_cs5, rn_cs6, rn_cs7, rn_cv1, rn_ci1, rn_cv2, rn_ci2, rn_cv3, rn_ci3, rn_cv4, rn_cv5, rn_cv6, rn_cv7, cs_n, cs_i, cs_a, cs_l, rc_i, rc_a, rc_l, rc_n, rw_iald, rw_bald, rw_lald, rw_iast, rw_bast, rw_last, rw_geti, rw_getl, rw_puti, rw_putz, rw_putl, iI_add, iI_sub, iI_mul, iI_neg, iI_lt, iI_le, iI_eq, iI_lt0, iI_le0, iI_0lt, iI_0le, iI_eq0, iI_eq1, iI_div, iI_rem, am_in_ok, am_in_no, iI_toInt, iL_add, iL_sub, iL_mul, iL_neg, iL_div, iL_rem, iI_i2l, iL_l2i, iL_cmp, iL_eq0, iI_or, iI_and, iI_shl, if_true, if_false, true_or, or_true, true_and, and_true, false_or, or_false, not_true_eq_false, not_false_eq_true, Option.bind_some, Option.toList_some, Option.toList_none, List.nil_append, List.cons_append, ite_self, nc_0, nc_1, nc_2, nc_3, nc_4, nc_5, nc_6, nc_7, nc_8, nc_9, nc_10, nc_11, nc_12, nc_13, nc_14, nc_15, nc_16, nc_17, nc_18, nc_19, nc_20, nc_21, nc_22, nc_23, nc_24, nc_25, nc_26, nc_27, nc_28, nc_29, nc_30, nc_31, nc_32, nc_33, nc_34, nc_35, nc_36, nc_40, nc_48, nc_100, nc_256, nc_300, nc_304, s1, s2, s3, mx_292, if_pos, if_neg, sh_0, sh_393, rw_copy, am_cp_ok]
theorem m_w4 {a b c e : Int} (a0 : 0 ≤ a ∧ a ≤ 255) (b0 : 0 ≤ b ∧ b ≤ 255) (c0 : 0 ≤ c ∧ c ≤ 255) (e0 : 0 ≤ e ∧ e ≤ 255) : am_call (d + 2) 288 [.int (iI a), .int (iI b), .int (iI c), .int (iI e)] M = some (some (.long (iL (256 * (256 * (256 * a + b) + c) + e))), M) := by
  have s1 := m_w3 (d := d) (M := M) a0 b0 c0
  have s2 := iL_shl8 (x := 256 * (256 * a + b) + c) (by omega) (by omega)
  have s3 : iL (256 * (256 * (256 * a + b) + c)) ||| iL e = iL (256 * (256 * (256 * a + b) + c) + e) := by rw [iL_or (by omega) (by omega), ior_256 (by omega) (by omega) (by omega)]
  simp (decide := true) (disch := omega) only [en_288, bk_288_0, bq_288_0, rn_iconst, rn_bipush, rn_sipush, rn_ldc_w, rn_ldc, rn_ldcS, rn_lconst, rn_ldc2, rn_gets, rn_iload0, rn_lload0, rn_aload0, rn_istore0, rn_astore0, rn_lstore0, rn_iinc0, rn_iload1, rn_lload1, rn_aload1, rn_istore1, rn_astore1, rn_lstore1, rn_iinc1, rn_iload2, rn_lload2, rn_aload2, rn_istore2, rn_astore2, rn_lstore2, rn_iinc2, rn_iload3, rn_lload3, rn_aload3, rn_istore3, rn_astore3, rn_lstore3, rn_iinc3, rn_iload4, rn_lload4, rn_aload4, rn_istore4, rn_astore4, rn_lstore4, rn_iinc4, rn_iload5, rn_lload5, rn_aload5, rn_istore5, rn_astore5, rn_lstore5, rn_iinc5, rn_iload6, rn_lload6, rn_aload6, rn_istore6, rn_astore6, rn_lstore6, rn_iinc6, rn_iload7, rn_aload7, rn_istore7, rn_astore7, rn_iinc7, rn_iload8, rn_aload8, rn_istore8, rn_astore8, rn_iinc8, rn_iload9, rn_aload9, rn_istore9, rn_astore9, rn_iinc9, rn_iadd, rn_isub, rn_imul, rn_iand, rn_ior, rn_ixor, rn_ishl, rn_ishr, rn_iushr, rn_idiv, rn_irem, rn_ineg, rn_ladd, rn_lsub, rn_lmul, rn_lor, rn_ldiv, rn_lrem, rn_lneg, rn_lshl, rn_lshr, rn_i2l, rn_l2i, rn_i2c, rn_lcmp, rn_dupi, rn_dupa, rn_popi, rn_popa, rn_dup2, rn_aast, rn_alen, rn_geta, rn_aald, rn_puta, rn_new, rn_newa, rn_anew, rn_min, rn_max, rn_slen, rn_chat, rn_indx, rn_objI, rn_nop, rn_goto, rn_ifeq, rn_ifne, rn_iflt, rn_ifge, rn_ifgt, rn_ifle, rn_iceq, rn_icne, rn_iclt, rn_icge, rn_icgt, rn_icle, rn_tsw, rn_lsw, rn_iret, rn_zret, rn_lret, rn_aret, rn_vret, rn_cs0, rn_cs1, rn_cs2, rn_cs3, rn_cs4, rn_cs5, rn_cs6, rn_cs7, rn_cv1, rn_ci1, rn_cv2, rn_ci2, rn_cv3, rn_ci3, rn_cv4, rn_cv5, rn_cv6, rn_cv7, cs_n, cs_i, cs_a, cs_l, rc_i, rc_a, rc_l, rc_n, rw_iald, rw_bald, rw_lald, rw_iast, rw_bast, rw_last, rw_geti, rw_getl, rw_puti, rw_putz, rw_putl, iI_add, iI_sub, iI_mul, iI_neg, iI_lt, iI_le, iI_eq, iI_lt0, iI_le0, iI_0lt, iI_0le, iI_eq0, iI_eq1, iI_div, iI_rem, am_in_ok, am_in_no, iI_toInt, iL_add, iL_sub, iL_mul, iL_neg, iL_div, iL_rem, iI_i2l, iL_l2i, iL_cmp, iL_eq0, iI_or, iI_and, iI_shl, if_true, if_false, true_or, or_true, true_and, and_true, false_or, or_false, not_true_eq_false, not_false_eq_true, Option.bind_some, Option.toList_some, Option.toList_none, List.nil_append, List.cons_append, ite_self, nc_0, nc_1, nc_2, nc_3, nc_4, nc_5, nc_6, nc_7, nc_8, nc_9, nc_10, nc_11, nc_12, nc_13, nc_14, nc_15, nc_16, nc_17, nc_18, nc_19, nc_20, nc_21, nc_22, nc_23, nc_24, nc_25, nc_26, nc_27, nc_28, nc_29, nc_30, nc_31, nc_32, nc_33, nc_34, nc_35, nc_36, nc_40, nc_48, nc_100, nc_256, nc_300, nc_304, s1, s2, s3, mx_289, if_pos, if_neg, sh_0, sh_393, rw_copy, am_cp_ok]
theorem m_w5 {a b c e f : Int} (a0 : 0 ≤ a ∧ a ≤ 255) (b0 : 0 ≤ b ∧ b ≤ 255) (c0 : 0 ≤ c ∧ c ≤ 255) (e0 : 0 ≤ e ∧ e ≤ 255) (f0 : 0 ≤ f ∧ f ≤ 255) : am_call (d + 3) 286 [.int (iI a), .int (iI b), .int (iI c), .int (iI e), .int (iI f)] M = some (some (.long (iL (256 * (256 * (256 * (256 * a + b) + c) + e) + f))), M) := by
  have s1 := m_w4 (d := d) (M := M) a0 b0 c0 e0
  have s2 := iL_shl8 (x := 256 * (256 * (256 * a + b) + c) + e) (by omega) (by omega)
  have s3 : iL (256 * (256 * (256 * (256 * a + b) + c) + e)) ||| iL f = iL (256 * (256 * (256 * (256 * a + b) + c) + e) + f) := by rw [iL_or (by omega) (by omega), ior_256 (by omega) (by omega) (by omega)]
  simp (decide := true) (disch := omega) only [en_286, bk_286_0, bq_286_0, rn_iconst, rn_bipush, rn_sipush, rn_ldc_w, rn_ldc, rn_ldcS, rn_lconst, rn_ldc2, rn_gets, rn_iload0, rn_lload0, rn_aload0, rn_istore0, rn_astore0, rn_lstore0, rn_iinc0, rn_iload1, rn_lload1, rn_aload1, rn_istore1, rn_astore1, rn_lstore1, rn_iinc1, rn_iload2, rn_lload2, rn_aload2, rn_istore2, rn_astore2, rn_lstore2, rn_iinc2, rn_iload3, rn_lload3, rn_aload3, rn_istore3, rn_astore3, rn_lstore3, rn_iinc3, rn_iload4, rn_lload4, rn_aload4, rn_istore4, rn_astore4, rn_lstore4, rn_iinc4, rn_iload5, rn_lload5, rn_aload5, rn_istore5, rn_astore5, rn_lstore5, rn_iinc5, rn_iload6, rn_lload6, rn_aload6, rn_istore6, rn_astore6, rn_lstore6, rn_iinc6, rn_iload7, rn_aload7, rn_istore7, rn_astore7, rn_iinc7, rn_iload8, rn_aload8, rn_istore8, rn_astore8, rn_iinc8, rn_iload9, rn_aload9, rn_istore9, rn_astore9, rn_iinc9, rn_iadd, rn_isub, rn_imul, rn_iand, rn_ior, rn_ixor, rn_ishl, rn_ishr, rn_iushr, rn_idiv, rn_irem, rn_ineg, rn_ladd, rn_lsub, rn_lmul, rn_lor, rn_ldiv, rn_lrem, rn_lneg, rn_lshl, rn_lshr, rn_i2l, rn_l2i, rn_i2c, rn_lcmp, rn_dupi, rn_dupa, rn_popi, rn_popa, rn_dup2, rn_aast, rn_alen, rn_geta, rn_aald, rn_puta, rn_new, rn_newa, rn_anew, rn_min, rn_max, rn_slen, rn_chat, rn_indx, rn_objI, rn_nop, rn_goto, rn_ifeq, rn_ifne, rn_iflt, rn_ifge, rn_ifgt, rn_ifle, rn_iceq, rn_icne, rn_iclt, rn_icge, rn_icgt, rn_icle, rn_tsw, rn_lsw, rn_iret, rn_zret, rn_lret, rn_aret, rn_vret, rn_cs0, rn_cs1, rn_cs2, rn_cs3, rn_cs4, rn_cs5, rn_cs6, rn_cs7, rn_cv1, rn_ci1, rn_cv2, rn_ci2, rn_cv3, rn_ci3, rn_cv4, rn_cv5, rn_cv6, rn_cv7, cs_n, cs_i, cs_a, cs_l, rc_i, rc_a, rc_l, rc_n, rw_iald, rw_bald, rw_lald, rw_iast, rw_bast, rw_last, rw_geti, rw_getl, rw_puti, rw_putz, rw_putl, iI_add, iI_sub, iI_mul, iI_neg, iI_lt, iI_le, iI_eq, iI_lt0, iI_le0, iI_0lt, iI_0le, iI_eq0, iI_eq1, iI_div, iI_rem, am_in_ok, am_in_no, iI_toInt, iL_add, iL_sub, iL_mul, iL_neg, iL_div, iL_rem, iI_i2l, iL_l2i, iL_cmp, iL_eq0, iI_or, iI_and, iI_shl, if_true, if_false, true_or, or_true, true_and, and_true, false_or, or_false, not_true_eq_false, not_false_eq_true, Option.bind_some, Option.toList_some, Option.toList_none, List.nil_append, List.cons_append, ite_self, nc_0, nc_1, nc_2, nc_3, nc_4, nc_5, nc_6, nc_7, nc_8, nc_9, nc_10, nc_11, nc_12, nc_13, nc_14, nc_15, nc_16, nc_17, nc_18, nc_19, nc_20, nc_21, nc_22, nc_23, nc_24, nc_25, nc_26, nc_27, nc_28, nc_29, nc_30, nc_31, nc_32, nc_33, nc_34, nc_35, nc_36, nc_40, nc_48, nc_100, nc_256, nc_300, nc_304, s1, s2, s3, mx_288, if_pos, if_neg, sh_0, sh_393, rw_copy, am_cp_ok]
theorem m_w6 {a b c e f g : Int} (a0 : 0 ≤ a ∧ a ≤ 255) (b0 : 0 ≤ b ∧ b ≤ 255) (c0 : 0 ≤ c ∧ c ≤ 255) (e0 : 0 ≤ e ∧ e ≤ 255) (f0 : 0 ≤ f ∧ f ≤ 255) (g0 : 0 ≤ g ∧ g ≤ 255) : am_call (d + 4) 290 [.int (iI a), .int (iI b), .int (iI c), .int (iI e), .int (iI f), .int (iI g)] M = some (some (.long (iL (256 * (256 * (256 * (256 * (256 * a + b) + c) + e) + f) + g))), M) := by
  have s1 := m_w5 (d := d) (M := M) a0 b0 c0 e0 f0
  have s2 := iL_shl8 (x := 256 * (256 * (256 * (256 * a + b) + c) + e) + f) (by omega) (by omega)
  have s3 : iL (256 * (256 * (256 * (256 * (256 * a + b) + c) + e) + f)) ||| iL g = iL (256 * (256 * (256 * (256 * (256 * a + b) + c) + e) + f) + g) := by rw [iL_or (by omega) (by omega), ior_256 (by omega) (by omega) (by omega)]
  simp (decide := true) (disch := omega) only [en_290, bk_290_0, bq_290_0, rn_iconst, rn_bipush, rn_sipush, rn_ldc_w, rn_ldc, rn_ldcS, rn_lconst, rn_ldc2, rn_gets, rn_iload0, rn_lload0, rn_aload0, rn_istore0, rn_astore0, rn_lstore0, rn_iinc0, rn_iload1, rn_lload1, rn_aload1, rn_istore1, rn_astore1, rn_lstore1, rn_iinc1, rn_iload2, rn_lload2, rn_aload2, rn_istore2, rn_astore2, rn_lstore2, rn_iinc2, rn_iload3, rn_lload3, rn_aload3, rn_istore3, rn_astore3, rn_lstore3, rn_iinc3, rn_iload4, rn_lload4, rn_aload4, rn_istore4, rn_astore4, rn_lstore4, rn_iinc4, rn_iload5, rn_lload5, rn_aload5, rn_istore5, rn_astore5, rn_lstore5, rn_iinc5, rn_iload6, rn_lload6, rn_aload6, rn_istore6, rn_astore6, rn_lstore6, rn_iinc6, rn_iload7, rn_aload7, rn_istore7, rn_astore7, rn_iinc7, rn_iload8, rn_aload8, rn_istore8, rn_astore8, rn_iinc8, rn_iload9, rn_aload9, rn_istore9, rn_astore9, rn_iinc9, rn_iadd, rn_isub, rn_imul, rn_iand, rn_ior, rn_ixor, rn_ishl, rn_ishr, rn_iushr, rn_idiv, rn_irem, rn_ineg, rn_ladd, rn_lsub, rn_lmul, rn_lor, rn_ldiv, rn_lrem, rn_lneg, rn_lshl, rn_lshr, rn_i2l, rn_l2i, rn_i2c, rn_lcmp, rn_dupi, rn_dupa, rn_popi, rn_popa, rn_dup2, rn_aast, rn_alen, rn_geta, rn_aald, rn_puta, rn_new, rn_newa, rn_anew, rn_min, rn_max, rn_slen, rn_chat, rn_indx, rn_objI, rn_nop, rn_goto, rn_ifeq, rn_ifne, rn_iflt, rn_ifge, rn_ifgt, rn_ifle, rn_iceq, rn_icne, rn_iclt, rn_icge, rn_icgt, rn_icle, rn_tsw, rn_lsw, rn_iret, rn_zret, rn_lret, rn_aret, rn_vret, rn_cs0, rn_cs1, rn_cs2, rn_cs3, rn_cs4, rn_cs5, rn_cs6, rn_cs7, rn_cv1, rn_ci1, rn_cv2, rn_ci2, rn_cv3, rn_ci3, rn_cv4, rn_cv5, rn_cv6, rn_cv7, cs_n, cs_i, cs_a, cs_l, rc_i, rc_a, rc_l, rc_n, rw_iald, rw_bald, rw_lald, rw_iast, rw_bast, rw_last, rw_geti, rw_getl, rw_puti, rw_putz, rw_putl, iI_add, iI_sub, iI_mul, iI_neg, iI_lt, iI_le, iI_eq, iI_lt0, iI_le0, iI_0lt, iI_0le, iI_eq0, iI_eq1, iI_div, iI_rem, am_in_ok, am_in_no, iI_toInt, iL_add, iL_sub, iL_mul, iL_neg, iL_div, iL_rem, iI_i2l, iL_l2i, iL_cmp, iL_eq0, iI_or, iI_and, iI_shl, if_true, if_false, true_or, or_true, true_and, and_true, false_or, or_false, not_true_eq_false, not_false_eq_true, Option.bind_some, Option.toList_some, Option.toList_none, List.nil_append, List.cons_append, ite_self, nc_0, nc_1, nc_2, nc_3, nc_4, nc_5, nc_6, nc_7, nc_8, nc_9, nc_10, nc_11, nc_12, nc_13, nc_14, nc_15, nc_16, nc_17, nc_18, nc_19, nc_20, nc_21, nc_22, nc_23, nc_24, nc_25, nc_26, nc_27, nc_28, nc_29, nc_30, nc_31, nc_32, nc_33, nc_34, nc_35, nc_36, nc_40, nc_48, nc_100, nc_256, nc_300, nc_304, s1, s2, s3, mx_286, if_pos, if_neg, sh_0, sh_393, rw_copy, am_cp_ok]
theorem mw_0 : am_call (d + 4) 286 [.int (iI 102), .int (iI 97), .int (iI 100), .int (iI 101), .int (iI 115)] M = some (some (.long (iL (cw 0))), M) := by
  rw [show cw 0 = 256 * (256 * (256 * (256 * 102 + 97) + 100) + 101) + 115 by decide +kernel]
  exact m_w5 (d := d + 1) (by decide) (by decide) (by decide) (by decide) (by decide)
theorem mw_1 : am_call (d + 4) 288 [.int (iI 102), .int (iI 101), .int (iI 108), .int (iI 116)] M = some (some (.long (iL (cw 1))), M) := by
  rw [show cw 1 = 256 * (256 * (256 * 102 + 101) + 108) + 116 by decide +kernel]
  exact m_w4 (d := d + 2) (by decide) (by decide) (by decide) (by decide)
theorem mw_2 : am_call (d + 4) 286 [.int (iI 100), .int (iI 105), .int (iI 110), .int (iI 101), .int (iI 114)] M = some (some (.long (iL (cw 2))), M) := by
  rw [show cw 2 = 256 * (256 * (256 * (256 * 100 + 105) + 110) + 101) + 114 by decide +kernel]
  exact m_w5 (d := d + 1) (by decide) (by decide) (by decide) (by decide) (by decide)
theorem mw_3 : am_call (d + 4) 288 [.int (iI 99), .int (iI 97), .int (iI 114), .int (iI 100)] M = some (some (.long (iL (cw 3))), M) := by
  rw [show cw 3 = 256 * (256 * (256 * 99 + 97) + 114) + 100 by decide +kernel]
  exact m_w4 (d := d + 2) (by decide) (by decide) (by decide) (by decide)
theorem mw_4 : am_call (d + 4) 289 [.int (iI 101), .int (iI 97), .int (iI 116)] M = some (some (.long (iL (cw 4))), M) := by
  rw [show cw 4 = 256 * (256 * 101 + 97) + 116 by decide +kernel]
  exact m_w3 (d := d + 3) (by decide) (by decide) (by decide)
theorem mw_5 : am_call (d + 4) 286 [.int (iI 115), .int (iI 109), .int (iI 105), .int (iI 116), .int (iI 104)] M = some (some (.long (iL (cw 5))), M) := by
  rw [show cw 5 = 256 * (256 * (256 * (256 * 115 + 109) + 105) + 116) + 104 by decide +kernel]
  exact m_w5 (d := d + 1) (by decide) (by decide) (by decide) (by decide) (by decide)
theorem mw_6 : am_call (d + 4) 290 [.int (iI 112), .int (iI 111), .int (iI 108), .int (iI 105), .int (iI 115), .int (iI 104)] M = some (some (.long (iL (cw 6))), M) := by
  rw [show cw 6 = 256 * (256 * (256 * (256 * (256 * 112 + 111) + 108) + 105) + 115) + 104 by decide +kernel]
  exact m_w6 (by decide) (by decide) (by decide) (by decide) (by decide) (by decide)
theorem mw_7 : am_call (d + 4) 289 [.int (iI 100), .int (iI 97), .int (iI 121)] M = some (some (.long (iL (cw 7))), M) := by
  rw [show cw 7 = 256 * (256 * 100 + 97) + 121 by decide +kernel]
  exact m_w3 (d := d + 3) (by decide) (by decide) (by decide)
theorem mw_8 : am_call (d + 4) 292 [.int (iI 97), .int (iI 116)] M = some (some (.long (iL (cw 8))), M) := by
  rw [show cw 8 = 256 * 97 + 116 by decide +kernel]
  exact m_w2 (d := d + 4) (by decide) (by decide)
theorem mw_9 : am_call (d + 4) 288 [.int (iI 119), .int (iI 105), .int (iI 116), .int (iI 104)] M = some (some (.long (iL (cw 9))), M) := by
  rw [show cw 9 = 256 * (256 * (256 * 119 + 105) + 116) + 104 by decide +kernel]
  exact m_w4 (d := d + 2) (by decide) (by decide) (by decide) (by decide)
theorem mw_10 : am_call (d + 4) 286 [.int (iI 103), .int (iI 105), .int (iI 118), .int (iI 101), .int (iI 115)] M = some (some (.long (iL (cw 10))), M) := by
  rw [show cw 10 = 256 * (256 * (256 * (256 * 103 + 105) + 118) + 101) + 115 by decide +kernel]
  exact m_w5 (d := d + 1) (by decide) (by decide) (by decide) (by decide) (by decide)
theorem mw_11 : am_call (d + 4) 289 [.int (iI 116), .int (iI 111), .int (iI 112)] M = some (some (.long (iL (cw 11))), M) := by
  rw [show cw 11 = 256 * (256 * 116 + 111) + 112 by decide +kernel]
  exact m_w3 (d := d + 3) (by decide) (by decide) (by decide)
theorem mw_12 : am_call (d + 4) 292 [.int (iI 105), .int (iI 102)] M = some (some (.long (iL (cw 12))), M) := by
  rw [show cw 12 = 256 * 105 + 102 by decide +kernel]
  exact m_w2 (d := d + 4) (by decide) (by decide)
theorem mw_13 : am_call (d + 4) 288 [.int (iI 116), .int (iI 104), .int (iI 101), .int (iI 110)] M = some (some (.long (iL (cw 13))), M) := by
  rw [show cw 13 = 256 * (256 * (256 * 116 + 104) + 101) + 110 by decide +kernel]
  exact m_w4 (d := d + 2) (by decide) (by decide) (by decide) (by decide)
theorem mw_14 : am_call (d + 4) 288 [.int (iI 101), .int (iI 108), .int (iI 115), .int (iI 101)] M = some (some (.long (iL (cw 14))), M) := by
  rw [show cw 14 = 256 * (256 * (256 * 101 + 108) + 115) + 101 by decide +kernel]
  exact m_w4 (d := d + 2) (by decide) (by decide) (by decide) (by decide)
theorem mw_15 : am_call (d + 4) 289 [.int (iI 101), .int (iI 110), .int (iI 100)] M = some (some (.long (iL (cw 15))), M) := by
  rw [show cw 15 = 256 * (256 * 101 + 110) + 100 by decide +kernel]
  exact m_w3 (d := d + 3) (by decide) (by decide) (by decide)
theorem mw_16 : am_call (d + 4) 292 [.int (iI 111), .int (iI 114)] M = some (some (.long (iL (cw 16))), M) := by
  rw [show cw 16 = 256 * 111 + 114 by decide +kernel]
  exact m_w2 (d := d + 4) (by decide) (by decide)
theorem mw_17 : am_call (d + 4) 289 [.int (iI 97), .int (iI 110), .int (iI 100)] M = some (some (.long (iL (cw 17))), M) := by
  rw [show cw 17 = 256 * (256 * 97 + 110) + 100 by decide +kernel]
  exact m_w3 (d := d + 3) (by decide) (by decide) (by decide)
theorem mw_18 : am_call (d + 4) 289 [.int (iI 110), .int (iI 111), .int (iI 116)] M = some (some (.long (iL (cw 18))), M) := by
  rw [show cw 18 = 256 * (256 * 110 + 111) + 116 by decide +kernel]
  exact m_w3 (d := d + 3) (by decide) (by decide) (by decide)
theorem mw_19 : am_call (d + 4) 286 [.int (iI 115), .int (iI 112), .int (iI 111), .int (iI 111), .int (iI 110)] M = some (some (.long (iL (cw 19))), M) := by
  rw [show cw 19 = 256 * (256 * (256 * (256 * 115 + 112) + 111) + 111) + 110 by decide +kernel]
  exact m_w5 (d := d + 1) (by decide) (by decide) (by decide) (by decide) (by decide)
theorem mw_20 : am_call (d + 4) 286 [.int (iI 109), .int (iI 111), .int (iI 117), .int (iI 116), .int (iI 104)] M = some (some (.long (iL (cw 20))), M) := by
  rw [show cw 20 = 256 * (256 * (256 * (256 * 109 + 111) + 117) + 116) + 104 by decide +kernel]
  exact m_w5 (d := d + 1) (by decide) (by decide) (by decide) (by decide) (by decide)
theorem mw_21 : am_call (d + 4) 290 [.int (iI 115), .int (iI 116), .int (iI 114), .int (iI 111), .int (iI 110), .int (iI 103)] M = some (some (.long (iL (cw 21))), M) := by
  rw [show cw 21 = 256 * (256 * (256 * (256 * (256 * 115 + 116) + 114) + 111) + 110) + 103 by decide +kernel]
  exact m_w6 (by decide) (by decide) (by decide) (by decide) (by decide) (by decide)
theorem mw_22 : am_call (d + 4) 288 [.int (iI 100), .int (iI 101), .int (iI 101), .int (iI 112)] M = some (some (.long (iL (cw 22))), M) := by
  rw [show cw 22 = 256 * (256 * (256 * 100 + 101) + 101) + 112 by decide +kernel]
  exact m_w4 (d := d + 2) (by decide) (by decide) (by decide) (by decide)
theorem mw_23 : am_call (d + 4) 290 [.int (iI 108), .int (iI 97), .int (iI 121), .int (iI 101), .int (iI 114), .int (iI 115)] M = some (some (.long (iL (cw 23))), M) := by
  rw [show cw 23 = 256 * (256 * (256 * (256 * (256 * 108 + 97) + 121) + 101) + 114) + 115 by decide +kernel]
  exact m_w6 (by decide) (by decide) (by decide) (by decide) (by decide) (by decide)
theorem mw_24 : am_call (d + 4) 286 [.int (iI 102), .int (iI 101), .int (iI 101), .int (iI 108), .int (iI 115)] M = some (some (.long (iL (cw 24))), M) := by
  rw [show cw 24 = 256 * (256 * (256 * (256 * 102 + 101) + 101) + 108) + 115 by decide +kernel]
  exact m_w5 (d := d + 1) (by decide) (by decide) (by decide) (by decide) (by decide)
theorem cw_bd : ∀ j : Fin 25, 0 ≤ cw j.val ∧ cw j.val ≤ 281474976710656 := by decide +kernel
theorem icmp_0 {a b : Int} : (icmp a b = 0 ↔ a = b) ∧ -1 ≤ icmp a b ∧ icmp a b ≤ 1 := by
  unfold icmp
  constructor
  · constructor
    · intro h
      by_cases c : a = b
      · exact c
      · exfalso
        revert h
        repeat' split
        all_goals omega
    · intro h
      subst h
      repeat' split
      all_goals omega
  · repeat' split
    all_goals omega
theorem m_isWord (O : TpOk p) (H : MTk u wl p i) {j : Nat} (hj : j < 25) : am_call d 287 [.ref 393, .long (iL (cw j))] (L, T, S0 n, am_w u, am_wl wl, R0 o) = some (some (.int (iI (bI (tK p i = (j : Int))))), (L, T, S0 n, am_w u, am_wl wl, R0 o)) := by
  have h9 := H.2.2.2.1
  have r := tk_rel O i
  have wj := tk_word O i hj
  have cb := cw_bd ⟨j, hj⟩
  dsimp only at cb
  by_cases c : tkT p (tst p i) = 2
  · have h11 := H.2.2.2.2.2 c
    have pr := pk_rng O i c
    rw [c] at h9
    have ic := icmp_0 (a := pkP p.2 (tst p i) (tps p (i + 1) - tst p i).toNat) (b := cw j)
    by_cases g : tK p i = (j : Int)
    · have e := (wj.mp g).2
      rw [bI_t g]
      rw [e] at h11 ic
      have ic0 : icmp (cw j) (cw j) = 0 := ic.1.mpr rfl
      simp (decide := true) (disch := omega) only [en_287, bk_287_0, bk_287_21, bk_287_22, bq_287_0, bq_287_21, bq_287_22, rn_iconst, rn_bipush, rn_sipush, rn_ldc_w, rn_ldc, rn_ldcS, rn_lconst, rn_ldc2, rn_gets, rn_iload0, rn_lload0, rn_aload0, rn_istore0, rn_astore0, rn_lstore0, rn_iinc0, rn_iload1, rn_lload1, rn_aload1, rn_istore1, rn_astore1, rn_lstore1, rn_iinc1, rn_iload2, rn_lload2, rn_aload2, rn_istore2, rn_astore2, rn_lstore2, rn_iinc2, rn_iload3, rn_lload3, rn_aload3, rn_istore3, rn_astore3, rn_lstore3, rn_iinc3, rn_iload4, rn_lload4, rn_aload4, rn_istore4, rn_astore4, rn_lstore4, rn_iinc4, rn_iload5, rn_lload5, rn_aload5, rn_istore5, rn_astore5, rn_lstore5, rn_iinc5, rn_iload6, rn_lload6, rn_aload6, rn_istore6, rn_astore6, rn_lstore6, rn_iinc6, rn_iload7, rn_aload7, rn_istore7, rn_astore7, rn_iinc7, rn_iload8, rn_aload8, rn_istore8, rn_astore8, rn_iinc8, rn_iload9, rn_aload9, rn_istore9, rn_astore9, rn_iinc9, rn_iadd, rn_isub, rn_imul, rn_iand, rn_ior, rn_ixor, rn_ishl, rn_ishr, rn_iushr, rn_idiv, rn_irem, rn_ineg, rn_ladd, rn_lsub, rn_lmul, rn_lor, rn_ldiv, rn_lrem, rn_lneg, rn_lshl, rn_lshr, rn_i2l, rn_l2i, rn_i2c, rn_lcmp, rn_dupi, rn_dupa, rn_popi, rn_popa, rn_dup2, rn_aast, rn_alen, rn_geta, rn_aald, rn_puta, rn_new, rn_newa, rn_anew, rn_min, rn_max, rn_slen, rn_chat, rn_indx, rn_objI, rn_nop, rn_goto, rn_ifeq, rn_ifne, rn_iflt, rn_ifge, rn_ifgt, rn_ifle, rn_iceq, rn_icne, rn_iclt, rn_icge, rn_icgt, rn_icle, rn_tsw, rn_lsw, rn_iret, rn_zret, rn_lret, rn_aret, rn_vret, rn_cs0, rn_cs1, rn_cs2, rn_cs3, rn_cs4, rn_cs5, rn_cs6, rn_cs7, rn_cv1, rn_ci1, rn_cv2, rn_ci2, rn_cv3, rn_ci3, rn_cv4, rn_cv5, rn_cv6, rn_cv7, cs_n, cs_i, cs_a, cs_l, rc_i, rc_a, rc_l, rc_n, rw_iald, rw_bald, rw_lald, rw_iast, rw_bast, rw_last, rw_geti, rw_getl, rw_puti, rw_putz, rw_putl, iI_add, iI_sub, iI_mul, iI_neg, iI_lt, iI_le, iI_eq, iI_lt0, iI_le0, iI_0lt, iI_0le, iI_eq0, iI_eq1, iI_div, iI_rem, am_in_ok, am_in_no, iI_toInt, iL_add, iL_sub, iL_mul, iL_neg, iL_div, iL_rem, iI_i2l, iL_l2i, iL_cmp, iL_eq0, iI_or, iI_and, iI_shl, if_true, if_false, true_or, or_true, true_and, and_true, false_or, or_false, not_true_eq_false, not_false_eq_true, Option.bind_some, Option.toList_some, Option.toList_none, List.nil_append, List.cons_append, ite_self, nc_0, nc_1, nc_2, nc_3, nc_4, nc_5, nc_6, nc_7, nc_8, nc_9, nc_10, nc_11, nc_12, nc_13, nc_14, nc_15, nc_16, nc_17, nc_18, nc_19, nc_20, nc_21, nc_22, nc_23, nc_24, nc_25, nc_26, nc_27, nc_28, nc_29, nc_30, nc_31, nc_32, nc_33, nc_34, nc_35, nc_36, nc_40, nc_48, nc_100, nc_256, nc_300, nc_304, sh_393, rf_393_0, rf_393_1, rf_393_2, rf_393_3, rf_393_15, rf_393_20, rf_393_21, rf_393_22, rf_393_27, rf_393_28, rf_393_29, rf_393_30, rf_393_34, h9, h11, ic0, if_pos, if_neg, sh_0, sh_393, rw_copy, am_cp_ok]
    · have e : ¬ pkP p.2 (tst p i) (tps p (i + 1) - tst p i).toNat = cw j := fun h => g (wj.mpr ⟨c, h⟩)
      rw [bI_f g]
      generalize pkP p.2 (tst p i) (tps p (i + 1) - tst p i).toNat = z at *
      have ic0 : ¬ icmp z (cw j) = 0 := fun h => e (ic.1.mp h)
      have ic1 := ic.2
      generalize cw j = y at *
      simp (decide := true) (disch := omega) only [en_287, bk_287_0, bk_287_21, bk_287_22, bq_287_0, bq_287_21, bq_287_22, rn_iconst, rn_bipush, rn_sipush, rn_ldc_w, rn_ldc, rn_ldcS, rn_lconst, rn_ldc2, rn_gets, rn_iload0, rn_lload0, rn_aload0, rn_istore0, rn_astore0, rn_lstore0, rn_iinc0, rn_iload1, rn_lload1, rn_aload1, rn_istore1, rn_astore1, rn_lstore1, rn_iinc1, rn_iload2, rn_lload2, rn_aload2, rn_istore2, rn_astore2, rn_lstore2, rn_iinc2, rn_iload3, rn_lload3, rn_aload3, rn_istore3, rn_astore3, rn_lstore3, rn_iinc3, rn_iload4, rn_lload4, rn_aload4, rn_istore4, rn_astore4, rn_lstore4, rn_iinc4, rn_iload5, rn_lload5, rn_aload5, rn_istore5, rn_astore5, rn_lstore5, rn_iinc5, rn_iload6, rn_lload6, rn_aload6, rn_istore6, rn_astore6, rn_lstore6, rn_iinc6, rn_iload7, rn_aload7, rn_istore7, rn_astore7, rn_iinc7, rn_iload8, rn_aload8, rn_istore8, rn_astore8, rn_iinc8, rn_iload9, rn_aload9, rn_istore9, rn_astore9, rn_iinc9, rn_iadd, rn_isub, rn_imul, rn_iand, rn_ior, rn_ixor, rn_ishl, rn_ishr, rn_iushr, rn_idiv, rn_irem, rn_ineg, rn_ladd, rn_lsub, rn_lmul, rn_lor, rn_ldiv, rn_lrem, rn_lneg, rn_lshl, rn_lshr, rn_i2l, rn_l2i, rn_i2c, rn_lcmp, rn_dupi, rn_dupa, rn_popi, rn_popa, rn_dup2, rn_aast, rn_alen, rn_geta, rn_aald, rn_puta, rn_new, rn_newa, rn_anew, rn_min, rn_max, rn_slen, rn_chat, rn_indx, rn_objI, rn_nop, rn_goto, rn_ifeq, rn_ifne, rn_iflt, rn_ifge, rn_ifgt, rn_ifle, rn_iceq, rn_icne, rn_iclt, rn_icge, rn_icgt, rn_icle, rn_tsw, rn_lsw, rn_iret, rn_zret, rn_lret, rn_aret, rn_vret, rn_cs0, rn_cs1, rn_cs2, rn_cs3, rn_cs4, rn_cs5, rn_cs6, rn_cs7, rn_cv1, rn_ci1, rn_cv2, rn_ci2, rn_cv3, rn_ci3, rn_cv4, rn_cv5, rn_cv6, rn_cv7, cs_n, cs_i, cs_a, cs_l, rc_i, rc_a, rc_l, rc_n, rw_iald, rw_bald, rw_lald, rw_iast, rw_bast, rw_last, rw_geti, rw_getl, rw_puti, rw_putz, rw_putl, iI_add, iI_sub, iI_mul, iI_neg, iI_lt, iI_le, iI_eq, iI_lt0, iI_le0, iI_0lt, iI_0le, iI_eq0, iI_eq1, iI_div, iI_rem, am_in_ok, am_in_no, iI_toInt, iL_add, iL_sub, iL_mul, iL_neg, iL_div, iL_rem, iI_i2l, iL_l2i, iL_cmp, iL_eq0, iI_or, iI_and, iI_shl, if_true, if_false, true_or, or_true, true_and, and_true, false_or, or_false, not_true_eq_false, not_false_eq_true, Option.bind_some, Option.toList_some, Option.toList_none, List.nil_append, List.cons_append, ite_self, nc_0, nc_1, nc_2, nc_3, nc_4, nc_5, nc_6, nc_7, nc_8, nc_9, nc_10, nc_11, nc_12, nc_13, nc_14, nc_15, nc_16, nc_17, nc_18, nc_19, nc_20, nc_21, nc_22, nc_23, nc_24, nc_25, nc_26, nc_27, nc_28, nc_29, nc_30, nc_31, nc_32, nc_33, nc_34, nc_35, nc_36, nc_40, nc_48, nc_100, nc_256, nc_300, nc_304, sh_393, rf_393_0, rf_393_1, rf_393_2, rf_393_3, rf_393_15, rf_393_20, rf_393_21, rf_393_22, rf_393_27, rf_393_28, rf_393_29, rf_393_30, rf_393_34, h9, h11, ic0, if_pos, if_neg, sh_0, sh_393, rw_copy, am_cp_ok]
  · have g : ¬ tK p i = (j : Int) := fun h => c (wj.mp h).1
    rw [bI_f g]
    have tb := r.2.2.2.2.2
    generalize tkT p (tst p i) = t at *
    simp (decide := true) (disch := omega) only [en_287, bk_287_0, bk_287_21, bk_287_22, bq_287_0, bq_287_21, bq_287_22, rn_iconst, rn_bipush, rn_sipush, rn_ldc_w, rn_ldc, rn_ldcS, rn_lconst, rn_ldc2, rn_gets, rn_iload0, rn_lload0, rn_aload0, rn_istore0, rn_astore0, rn_lstore0, rn_iinc0, rn_iload1, rn_lload1, rn_aload1, rn_istore1, rn_astore1, rn_lstore1, rn_iinc1, rn_iload2, rn_lload2, rn_aload2, rn_istore2, rn_astore2, rn_lstore2, rn_iinc2, rn_iload3, rn_lload3, rn_aload3, rn_istore3, rn_astore3, rn_lstore3, rn_iinc3, rn_iload4, rn_lload4, rn_aload4, rn_istore4, rn_astore4, rn_lstore4, rn_iinc4, rn_iload5, rn_lload5, rn_aload5, rn_istore5, rn_astore5, rn_lstore5, rn_iinc5, rn_iload6, rn_lload6, rn_aload6, rn_istore6, rn_astore6, rn_lstore6, rn_iinc6, rn_iload7, rn_aload7, rn_istore7, rn_astore7, rn_iinc7, rn_iload8, rn_aload8, rn_istore8, rn_astore8, rn_iinc8, rn_iload9, rn_aload9, rn_istore9, rn_astore9, rn_iinc9, rn_iadd, rn_isub, rn_imul, rn_iand, rn_ior, rn_ixor, rn_ishl, rn_ishr, rn_iushr, rn_idiv, rn_irem, rn_ineg, rn_ladd, rn_lsub, rn_lmul, rn_lor, rn_ldiv, rn_lrem, rn_lneg, rn_lshl, rn_lshr, rn_i2l, rn_l2i, rn_i2c, rn_lcmp, rn_dupi, rn_dupa, rn_popi, rn_popa, rn_dup2, rn_aast, rn_alen, rn_geta, rn_aald, rn_puta, rn_new, rn_newa, rn_anew, rn_min, rn_max, rn_slen, rn_chat, rn_indx, rn_objI, rn_nop, rn_goto, rn_ifeq, rn_ifne, rn_iflt, rn_ifge, rn_ifgt, rn_ifle, rn_iceq, rn_icne, rn_iclt, rn_icge, rn_icgt, rn_icle, rn_tsw, rn_lsw, rn_iret, rn_zret, rn_lret, rn_aret, rn_vret, rn_cs0, rn_cs1, rn_cs2, rn_cs3, rn_cs4, rn_cs5, rn_cs6, rn_cs7, rn_cv1, rn_ci1, rn_cv2, rn_ci2, rn_cv3, rn_ci3, rn_cv4, rn_cv5, rn_cv6, rn_cv7, cs_n, cs_i, cs_a, cs_l, rc_i, rc_a, rc_l, rc_n, rw_iald, rw_bald, rw_lald, rw_iast, rw_bast, rw_last, rw_geti, rw_getl, rw_puti, rw_putz, rw_putl, iI_add, iI_sub, iI_mul, iI_neg, iI_lt, iI_le, iI_eq, iI_lt0, iI_le0, iI_0lt, iI_0le, iI_eq0, iI_eq1, iI_div, iI_rem, am_in_ok, am_in_no, iI_toInt, iL_add, iL_sub, iL_mul, iL_neg, iL_div, iL_rem, iI_i2l, iL_l2i, iL_cmp, iL_eq0, iI_or, iI_and, iI_shl, if_true, if_false, true_or, or_true, true_and, and_true, false_or, or_false, not_true_eq_false, not_false_eq_true, Option.bind_some, Option.toList_some, Option.toList_none, List.nil_append, List.cons_append, ite_self, nc_0, nc_1, nc_2, nc_3, nc_4, nc_5, nc_6, nc_7, nc_8, nc_9, nc_10, nc_11, nc_12, nc_13, nc_14, nc_15, nc_16, nc_17, nc_18, nc_19, nc_20, nc_21, nc_22, nc_23, nc_24, nc_25, nc_26, nc_27, nc_28, nc_29, nc_30, nc_31, nc_32, nc_33, nc_34, nc_35, nc_36, nc_40, nc_48, nc_100, nc_256, nc_300, nc_304, sh_393, rf_393_0, rf_393_1, rf_393_2, rf_393_3, rf_393_15, rf_393_20, rf_393_21, rf_393_22, rf_393_27, rf_393_28, rf_393_29, rf_393_30, rf_393_34, h9, c, if_pos, if_neg, sh_0, sh_393, rw_copy, am_cp_ok]
end TKR
