section CW
variable {d L T o n : Nat} {w w1 w2 w3 w4 w5 : Nat → Int → Int} {v : Nat → Nat → Int64} {p : Bts} {i : Nat} {s : TS} {K a b c m f k z : Int} {VF VT : Option (LEnv → Int)} {V : LEnv → Int} {cl : Cls}
theorem claw_0 (h : CLaw w o VF VT) (h1 : w o 1 ≤ w5 o 1) (h300 : w5 o 1 ≤ 300) (h2 : w5 o 2 = w o 1) (h3 : w5 o 3 = w5 o 1) (h4 : w5 o 4 = w o 4) (h5 : w5 o 5 = w o 5) (hc : ∀ k, k < w o 1 → w5 (o + 1) k = w (o + 1) k) (cs : CSeg 0 (w5 (o + 1)) (w o 1) (w5 o 1) V) : CLaw w5 o (some V) VT := by
  obtain ⟨⟨a1, a2, a3, a4, a5, a6, a7, a8, a9, a10⟩, b1, b2⟩ := h
  refine ⟨by omega, ?_, ?_⟩
  · show CSeg 0 (w5 (o + 1)) (w5 o 2) (w5 o 3) V
    rw [h2, h3]
    exact cs
  · cases VT with
    | none => show w5 o 5 ≤ w5 o 4; rw [h4, h5]; exact b2
    | some U =>
      show CSeg 1 (w5 (o + 1)) (w5 o 4) (w5 o 5) U
      rw [h4, h5]
      exact CSeg.congr b2 (fun k _ k1 => hc k (by omega))
theorem claw_1 (h : CLaw w o VF VT) (h1 : w o 1 ≤ w5 o 1) (h300 : w5 o 1 ≤ 300) (h2 : w5 o 2 = w o 2) (h3 : w5 o 3 = w o 3) (h4 : w5 o 4 = w o 1) (h5 : w5 o 5 = w5 o 1) (hc : ∀ k, k < w o 1 → w5 (o + 1) k = w (o + 1) k) (cs : CSeg 1 (w5 (o + 1)) (w o 1) (w5 o 1) V) : CLaw w5 o VF (some V) := by
  obtain ⟨⟨a1, a2, a3, a4, a5, a6, a7, a8, a9, a10⟩, b1, b2⟩ := h
  refine ⟨by omega, ?_, ?_⟩
  · cases VF with
    | none => show w5 o 3 ≤ w5 o 2; rw [h2, h3]; exact b1
    | some U =>
      show CSeg 0 (w5 (o + 1)) (w5 o 2) (w5 o 3) U
      rw [h2, h3]
      exact CSeg.congr b1 (fun k _ k1 => hc k (by omega))
  · show CSeg 1 (w5 (o + 1)) (w5 o 4) (w5 o 5) V
    rw [h4, h5]
    exact cs
set_option maxHeartbeats 1000000 in
theorem c_addLaw0 (ha : ScrC o) (h9 : w o 9 = m) (m0 : 0 ≤ m) (m1 : m < 24) : am_call (d + 1) 283 [.ref o, .int (iI 0), .int (iI f)] (L, T, S0 n, am_w w, v, R0 o) = some (none, (L, T, S0 n, am_w (upI (upI (upI (upI (upI (upI w o 2 f) o 3 (w o 1)) (o + 2) m 0) (o + 3) m 0) (o + 4) m 0) o 9 (m + 1)), v, R0 o)) := by
  have e := c_addClause (d := d) (L := L) (T := T) (n := n) (v := v) (w := upI (upI w o 2 f) o 3 (w o 1)) (m := m) (K := 0) (a := 0) (b := 0) ha (by rw [upI_2 (by decide), upI_2 (by decide)]; exact h9) m0 m1
  have s1 := (lay_scr (n := n) (o := o) ha).1
  generalize hx : w o 1 = x at *
  have e1 : upI w o 2 f o 1 = x := by rw [upI_2 (by decide)]; exact hx
  simp (decide := true) (disch := omega) only [en_283, bk_283_0, bk_283_20, bk_283_33, bq_283_0, bq_283_20, bq_283_33, rn_iconst, rn_bipush, rn_sipush, rn_ldc_w, rn_ldc, rn_ldcS, rn_lconst, rn_ldc2, rn_gets, rn_iload0, rn_lload0, rn_aload0, rn_istore0, rn_astore0, rn_lstore0, rn_iinc0, rn_iload1, rn_lload1, rn_aload1, rn_istore1, rn_astore1, rn_lstore1, rn_iinc1, rn_iload2, rn_lload2, rn_aload2, rn_istore2, rn_astore2, rn_lstore2, rn_iinc2, rn_iload3, rn_lload3, rn_aload3, rn_istore3, rn_astore3, rn_lstore3, rn_iinc3, rn_iload4, rn_lload4, rn_aload4, rn_istore4, rn_astore4, rn_lstore4, rn_iinc4, rn_iload5, rn_lload5, rn_aload5, rn_istore5, rn_astore5, rn_lstore5, rn_iinc5, rn_iload6, rn_lload6, rn_aload6, rn_istore6, rn_astore6, rn_lstore6, rn_iinc6, rn_iload7, rn_aload7, rn_istore7, rn_astore7, rn_iinc7, rn_iload8, rn_aload8, rn_istore8, rn_astore8, rn_iinc8, rn_iload9, rn_aload9, rn_istore9, rn_astore9, rn_iinc9, rn_iadd, rn_isub, rn_imul, rn_iand, rn_ior, rn_ixor, rn_ishl, rn_ishr, rn_iushr, rn_idiv, rn_irem, rn_ineg, rn_ladd, rn_lsub, rn_lmul, rn_lor, rn_ldiv, rn_lrem, rn_lneg, rn_lshl, rn_lshr, rn_i2l, rn_l2i, rn_i2c, rn_lcmp, rn_dupi, rn_dupa, rn_popi, rn_popa, rn_dup2, rn_aast, rn_alen, rn_geta, rn_aald, rn_puta, rn_new, rn_newa, rn_anew, rn_min, rn_max, rn_slen, rn_chat, rn_indx, rn_objI, rn_nop, rn_goto, rn_ifeq, rn_ifne, rn_iflt, rn_ifge, rn_ifgt, rn_ifle, rn_iceq, rn_icne, rn_iclt, rn_icge, rn_icgt, rn_icle, rn_tsw, rn_lsw, rn_iret, rn_zret, rn_lret, rn_aret, rn_vret, rn_cs0, rn_cs1, rn_cs2, rn_cs3, rn_cs4, rn_cs5, rn_cs6, rn_cs7, rn_cv1, rn_ci1, rn_cv2, rn_ci2, rn_cv3, rn_ci3, rn_cv4, rn_cv5, rn_cv6, rn_cv7, cs_n, cs_i, cs_a, cs_l, rc_i, rc_a, rc_l, rc_n, rw_iald, rw_bald, rw_lald, rw_iast, rw_bast, rw_last, rw_geti, rw_getl, rw_puti, rw_putz, rw_putl, iI_add, iI_sub, iI_mul, iI_neg, iI_lt, iI_le, iI_eq, iI_lt0, iI_le0, iI_0lt, iI_0le, iI_eq0, iI_eq1, iI_div, iI_rem, am_in_ok, am_in_no, iI_toInt, iL_add, iL_sub, iL_mul, iL_neg, iL_div, iL_rem, iI_i2l, iL_l2i, iL_cmp, iL_eq0, iI_or, iI_and, iI_shl, if_true, if_false, true_or, or_true, true_and, and_true, false_or, or_false, not_true_eq_false, not_false_eq_true, Option.bind_some, Option.toList_some, Option.toList_none, List.nil_append, List.cons_append, ite_self, nc_0, nc_1, nc_2, nc_3, nc_4, nc_5, nc_6, nc_7, nc_8, nc_9, nc_10, nc_11, nc_12, nc_13, nc_14, nc_15, nc_16, nc_17, nc_18, nc_19, nc_20, nc_21, nc_22, nc_23, nc_24, nc_25, nc_26, nc_27, nc_28, nc_29, nc_30, nc_31, nc_32, nc_33, nc_34, nc_35, nc_36, nc_40, nc_48, nc_100, nc_256, nc_300, nc_304, s1, hx, e1, e, mx_285, if_pos, if_neg, sh_0, sh_393, rw_copy, am_cp_ok]
set_option maxHeartbeats 1000000 in
theorem c_addLaw1 (ha : ScrC o) (h9 : w o 9 = m) (m0 : 0 ≤ m) (m1 : m < 24) : am_call (d + 1) 283 [.ref o, .int (iI 1), .int (iI f)] (L, T, S0 n, am_w w, v, R0 o) = some (none, (L, T, S0 n, am_w (upI (upI (upI (upI (upI (upI w o 4 f) o 5 (w o 1)) (o + 2) m 1) (o + 3) m 0) (o + 4) m 0) o 9 (m + 1)), v, R0 o)) := by
  have e := c_addClause (d := d) (L := L) (T := T) (n := n) (v := v) (w := upI (upI w o 4 f) o 5 (w o 1)) (m := m) (K := 1) (a := 0) (b := 0) ha (by rw [upI_2 (by decide), upI_2 (by decide)]; exact h9) m0 m1
  have s1 := (lay_scr (n := n) (o := o) ha).1
  generalize hx : w o 1 = x at *
  have e1 : upI w o 4 f o 1 = x := by rw [upI_2 (by decide)]; exact hx
  simp (decide := true) (disch := omega) only [en_283, bk_283_0, bk_283_20, bk_283_33, bq_283_0, bq_283_20, bq_283_33, rn_iconst, rn_bipush, rn_sipush, rn_ldc_w, rn_ldc, rn_ldcS, rn_lconst, rn_ldc2, rn_gets, rn_iload0, rn_lload0, rn_aload0, rn_istore0, rn_astore0, rn_lstore0, rn_iinc0, rn_iload1, rn_lload1, rn_aload1, rn_istore1, rn_astore1, rn_lstore1, rn_iinc1, rn_iload2, rn_lload2, rn_aload2, rn_istore2, rn_astore2, rn_lstore2, rn_iinc2, rn_iload3, rn_lload3, rn_aload3, rn_istore3, rn_astore3, rn_lstore3, rn_iinc3, rn_iload4, rn_lload4, rn_aload4, rn_istore4, rn_astore4, rn_lstore4, rn_iinc4, rn_iload5, rn_lload5, rn_aload5, rn_istore5, rn_astore5, rn_lstore5, rn_iinc5, rn_iload6, rn_lload6, rn_aload6, rn_istore6, rn_astore6, rn_lstore6, rn_iinc6, rn_iload7, rn_aload7, rn_istore7, rn_astore7, rn_iinc7, rn_iload8, rn_aload8, rn_istore8, rn_astore8, rn_iinc8, rn_iload9, rn_aload9, rn_istore9, rn_astore9, rn_iinc9, rn_iadd, rn_isub, rn_imul, rn_iand, rn_ior, rn_ixor, rn_ishl, rn_ishr, rn_iushr, rn_idiv, rn_irem, rn_ineg, rn_ladd, rn_lsub, rn_lmul, rn_lor, rn_ldiv, rn_lrem, rn_lneg, rn_lshl, rn_lshr, rn_i2l, rn_l2i, rn_i2c, rn_lcmp, rn_dupi, rn_dupa, rn_popi, rn_popa, rn_dup2, rn_aast, rn_alen, rn_geta, rn_aald, rn_puta, rn_new, rn_newa, rn_anew, rn_min, rn_max, rn_slen, rn_chat, rn_indx, rn_objI, rn_nop, rn_goto, rn_ifeq, rn_ifne, rn_iflt, rn_ifge, rn_ifgt, rn_ifle, rn_iceq, rn_icne, rn_iclt, rn_icge, rn_icgt, rn_icle, rn_tsw, rn_lsw, rn_iret, rn_zret, rn_lret, rn_aret, rn_vret, rn_cs0, rn_cs1, rn_cs2, rn_cs3, rn_cs4, rn_cs5, rn_cs6, rn_cs7, rn_cv1, rn_ci1, rn_cv2, rn_ci2, rn_cv3, rn_ci3, rn_cv4, rn_cv5, rn_cv6, rn_cv7, cs_n, cs_i, cs_a, cs_l, rc_i, rc_a, rc_l, rc_n, rw_iald, rw_bald, rw_lald, rw_iast, rw_bast, rw_last, rw_geti, rw_getl, rw_puti, rw_putz, rw_putl, iI_add, iI_sub, iI_mul, iI_neg, iI_lt, iI_le, iI_eq, iI_lt0, iI_le0, iI_0lt, iI_0le, iI_eq0, iI_eq1, iI_div, iI_rem, am_in_ok, am_in_no, iI_toInt, iL_add, iL_sub, iL_mul, iL_neg, iL_div, iL_rem, iI_i2l, iL_l2i, iL_cmp, iL_eq0, iI_or, iI_and, iI_shl, if_true, if_false, true_or, or_true, true_and, and_true, false_or, or_false, not_true_eq_false, not_false_eq_true, Option.bind_some, Option.toList_some, Option.toList_none, List.nil_append, List.cons_append, ite_self, nc_0, nc_1, nc_2, nc_3, nc_4, nc_5, nc_6, nc_7, nc_8, nc_9, nc_10, nc_11, nc_12, nc_13, nc_14, nc_15, nc_16, nc_17, nc_18, nc_19, nc_20, nc_21, nc_22, nc_23, nc_24, nc_25, nc_26, nc_27, nc_28, nc_29, nc_30, nc_31, nc_32, nc_33, nc_34, nc_35, nc_36, nc_40, nc_48, nc_100, nc_256, nc_300, nc_304, s1, hx, e1, e, mx_285, if_pos, if_neg, sh_0, sh_393, rw_copy, am_cp_ok]
theorem CTk.at4 (h : CTk w p i) : CTk (upI w 352 4 K) p i := ⟨⟨by rw [upI_1 (by decide)]; exact h.1.1, by rw [upI_c (by decide)]; exact h.1.2⟩, by rw [upI_2 (by decide)]; exact h.2.1, by rw [upI_2 (by decide)]; exact h.2.2.1, h.2.2.2.1, h.2.2.2.2.keep (upI_c (by decide)) (upI_c (by decide)) (upI_c (by decide))⟩
set_option maxHeartbeats 4000000 in
theorem c_readLaw (O : TpOk p) (ha : ScrC o) (H : CTxt w p o s) (Ts : TsOk s) (hK : tK p s.1 = K) (K01 : K = 0 ∨ K = 1) (h24 : s.2.1.1 < 24) : ∃ w2, am_call (d + 100) 258 [.ref 352, .int (iI K)] (L, T, S0 n, am_w w, v, R0 o) = some (none, (L, T, S0 n, am_w w2, v, R0 o)) ∧ CClr w w2 p o (if (pLw p K (s.1 + 1)).1 = 0 then (0, (pLw p K (s.1 + 1)).2.1, ((pLw p K (s.1 + 1)).2.1, clAdd s.2.1 (K, 0, 0), (if K = 0 then some (pLw p K (s.1 + 1)).2.2.1 else s.2.2.1), (if K = 0 then s.2.2.2 else some (pLw p K (s.1 + 1)).2.2.1))) else ((pLw p K (s.1 + 1)).1, (pLw p K (s.1 + 1)).2.1, s)) := by
  have far := ha.bd
  have i9 := tk_299 O (i := s.1) (by omega)
  have so := (lay_scr (n := n) (o := o) ha).1
  have hs := H.1.2.2
  have cl0 := Ts.1.1
  obtain ⟨w1, e1, C1, S1, F1⟩ := rd_step (d := d + 97) (L := L) (T := T) (n := n) (v := v) O ha H.1.2.1 H.1.1 (by omega)
  have hA := H.1.1.2.2.1
  have F2 : ∀ b, b ≠ 352 → upI w1 352 4 K b = w b := fun b h2 => by rw [upI_c h2, F1.1 b h2]
  have F3 : ∀ k, k ≠ 1 → k ≠ 2 → k ≠ 4 → upI w1 352 4 K 352 k = w 352 k := fun k h1 h2 hk => by rw [upI_2 hk, F1.2 k h1 h2]
  have C2 : CTk (upI w1 352 4 K) p (s.1 + 1) := C1.at4
  have S2 : StcR (upI w1 352 4 K) := S1.keep (fun x hx => by rw [upI_c (by omega)])
  have k2 : upI w1 352 4 K 352 4 = K := upI_s
  have eo : upI w1 352 4 K o = w o := F2 o (by omega)
  have HS : RdS (upI w1 352 4 K) p (s.1 + 1) o := ⟨C2, S2, by rw [eo]; exact hs.1, by rw [eo]; show w o 1 ≤ ((s.1 + 1 : Nat) : Int); omega, by omega⟩
  have e2 := c_length (d := d + 99) (L := L) (T := T) (n := n) (v := v) (w := upI w1 352 4 K) ha
  rw [eo] at e2
  obtain ⟨w2, e3, r⟩ := c_sum O ha K01 (i := s.1 + 1) (by omega) (d + 99) L T n v (upI w1 352 4 K) (by show dpN 3 0 ≤ d + 99; have : dpN 3 0 = 86 := rfl; omega) HS k2
  unfold pLw
  generalize pP p K 3000 3 (s.1 + 1) 0 V0 B0 = a at *
  by_cases a0 : a.1 = 0
  · rw [bI_t a0] at e3
    obtain ⟨w3, e4, r4, q4⟩ := take_res (d := d + 96) (L := L) (T := T) (n := n) (v := v) (k := 35) O ha r a0 (by decide) (by decide)
    generalize pTake p a 35 = b at *
    by_cases b0 : b.1 = 0
    · rw [if_pos b0]
      rw [bI_t b0] at e4
      obtain ⟨f1, r1, S3, k3⟩ := r4
      rw [b0] at f1
      have f1 := rdF_eq f1
      obtain ⟨HS3, lt3, cs, gr⟩ := k3 b0
      rw [eo] at cs r1 gr
      have c1 : CSeg K (w3 (o + 1)) (w o 1) (w3 o 1) b.2.2.1 := cs
      have le1 := c1.1.2.1
      have h9 : w3 o 9 = s.2.1.1 := by rw [r1.2.1 9 (by decide), eo]; exact H.2.2.1
      have hj := HS3.2.2.2
      have cc : ClC w3 o s.2.1 := H.2.2.keep (by rw [r1.2.1 9 (by decide), eo]) (by rw [r1.1 (o + 2) (by omega) (by omega) (by omega), F2 (o + 2) (by omega)]) (by rw [r1.1 (o + 3) (by omega) (by omega) (by omega), F2 (o + 3) (by omega)]) (by rw [r1.1 (o + 4) (by omega) (by omega) (by omega), F2 (o + 4) (by omega)])
      have re : ReF w w3 o := fun x h2 h3 => by rw [r1.1 x h2 (by omega) (by omega), F2 x h2]
      have cd : ∀ k, k < w o 1 → w3 (o + 1) k = w (o + 1) k := fun k hk => by rw [r1.2.2.1 k hk, F2 (o + 1) (by omega)]
      rcases K01 with rfl | rfl
      · rw [if_pos rfl, if_pos rfl]
        have e5 := c_addLaw0 (d := d + 98) (L := L) (T := T) (n := n) (v := v) (w := w3) (f := w o 1) ha h9 cl0 h24
        refine ⟨upI (upI (upI (upI (upI (upI w3 o 2 (w o 1)) o 3 (w3 o 1)) (o + 2) s.2.1.1 0) (o + 3) s.2.1.1 0) (o + 4) s.2.1.1 0) o 9 (s.2.1.1 + 1), ?_, ?_⟩
        · simp (decide := true) (disch := omega) only [en_258, bk_258_0, bk_258_49, bq_258_0, bq_258_49, rn_iconst, rn_bipush, rn_sipush, rn_ldc_w, rn_ldc, rn_ldcS, rn_lconst, rn_ldc2, rn_gets, rn_iload0, rn_lload0, rn_aload0, rn_istore0, rn_astore0, rn_lstore0, rn_iinc0, rn_iload1, rn_lload1, rn_aload1, rn_istore1, rn_astore1, rn_lstore1, rn_iinc1, rn_iload2, rn_lload2, rn_aload2, rn_istore2, rn_astore2, rn_lstore2, rn_iinc2, rn_iload3, rn_lload3, rn_aload3, rn_istore3, rn_astore3, rn_lstore3, rn_iinc3, rn_iload4, rn_lload4, rn_aload4, rn_istore4, rn_astore4, rn_lstore4, rn_iinc4, rn_iload5, rn_lload5, rn_aload5, rn_istore5, rn_astore5, rn_lstore5, rn_iinc5, rn_iload6, rn_lload6, rn_aload6, rn_istore6, rn_astore6, rn_lstore6, rn_iinc6, rn_iload7, rn_aload7, rn_istore7, rn_astore7, rn_iinc7, rn_iload8, rn_aload8, rn_istore8, rn_astore8, rn_iinc8, rn_iload9, rn_aload9, rn_istore9, rn_astore9, rn_iinc9, rn_iadd, rn_isub, rn_imul, rn_iand, rn_ior, rn_ixor, rn_ishl, rn_ishr, rn_iushr, rn_idiv, rn_irem, rn_ineg, rn_ladd, rn_lsub, rn_lmul, rn_lor, rn_ldiv, rn_lrem, rn_lneg, rn_lshl, rn_lshr, rn_i2l, rn_l2i, rn_i2c, rn_lcmp, rn_dupi, rn_dupa, rn_popi, rn_popa, rn_dup2, rn_aast, rn_alen, rn_geta, rn_aald, rn_puta, rn_new, rn_newa, rn_anew, rn_min, rn_max, rn_slen, rn_chat, rn_indx, rn_objI, rn_nop, rn_goto, rn_ifeq, rn_ifne, rn_iflt, rn_ifge, rn_ifgt, rn_ifle, rn_iceq, rn_icne, rn_iclt, rn_icge, rn_icgt, rn_icle, rn_tsw, rn_lsw, rn_iret, rn_zret, rn_lret, rn_aret, rn_vret, rn_cs0, rn_cs1, rn_cs2, rn_cs3, rn_cs4, rn_cs5, rn_cs6, rn_cs7, rn_cv1, rn_ci1, rn_cv2, rn_ci2, rn_cv3, rn_ci3, rn_cv4, rn_cv5, rn_cv6, rn_cv7, cs_n, cs_i, cs_a, cs_l, rc_i, rc_a, rc_l, rc_n, rw_iald, rw_bald, rw_lald, rw_iast, rw_bast, rw_last, rw_geti, rw_getl, rw_puti, rw_putz, rw_putl, iI_add, iI_sub, iI_mul, iI_neg, iI_lt, iI_le, iI_eq, iI_lt0, iI_le0, iI_0lt, iI_0le, iI_eq0, iI_eq1, iI_div, iI_rem, am_in_ok, am_in_no, iI_toInt, iL_add, iL_sub, iL_mul, iL_neg, iL_div, iL_rem, iI_i2l, iL_l2i, iL_cmp, iL_eq0, iI_or, iI_and, iI_shl, if_true, if_false, true_or, or_true, true_and, and_true, false_or, or_false, not_true_eq_false, not_false_eq_true, Option.bind_some, Option.toList_some, Option.toList_none, List.nil_append, List.cons_append, ite_self, nc_0, nc_1, nc_2, nc_3, nc_4, nc_5, nc_6, nc_7, nc_8, nc_9, nc_10, nc_11, nc_12, nc_13, nc_14, nc_15, nc_16, nc_17, nc_18, nc_19, nc_20, nc_21, nc_22, nc_23, nc_24, nc_25, nc_26, nc_27, nc_28, nc_29, nc_30, nc_31, nc_32, nc_33, nc_34, nc_35, nc_36, nc_40, nc_48, nc_100, nc_256, nc_300, nc_304, sh_346, rf_346_0, rf_346_3, rf_346_4, rf_346_5, sh_352, rf_352_0, rf_352_3, so, hA, e1, e2, e3, e4, e5, mx_255, mx_280, mx_281, mx_282, mx_283, if_pos, if_neg, sh_0, sh_393, rw_copy, am_cp_ok]
        have u1 : ∀ k, k ≠ 2 → k ≠ 3 → upI (upI w3 o 2 (w o 1)) o 3 (w3 o 1) o k = w3 o k := fun k h1 h2 => by rw [upI_2 h2, upI_2 h1]
        have ux : ∀ x, x ≠ o → upI (upI w3 o 2 (w o 1)) o 3 (w3 o 1) x = w3 x := fun x h1 => by rw [upI_c h1, upI_c h1]
        have u2 : upI (upI w3 o 2 (w o 1)) o 3 (w3 o 1) o 2 = w o 1 := by rw [upI_2 (by decide), upI_s]
        have u3 : upI (upI w3 o 2 (w o 1)) o 3 (w3 o 1) o 3 = w3 o 1 := upI_s
        generalize upI (upI w3 o 2 (w o 1)) o 3 (w3 o 1) = w4 at *
        refine ⟨fun _ => ⟨⟨⟨HS3.1.keep (by rw [add_all (by omega), ux 352 (by omega)]) (fun b _ _ => by rw [add_all (by omega), ux b (by omega)]), S3.keep (fun x hx => by rw [add_all (by omega), ux x (by omega)]), by rw [add_o1 (by decide), u1 1 (by decide) (by decide)]; exact HS3.2.2.1, by rw [add_o1 (by decide), u1 1 (by decide) (by decide)]; exact hj.1, hj.2⟩, claw_0 H.2.1 ?_ ?_ ?_ ?_ ?_ ?_ ?_ ?_, ?_⟩, ?_, ?_⟩, fun h => absurd rfl h, ?_, ?_⟩
        · rw [add_o1 (by decide), u1 1 (by decide) (by decide)]; omega
        · rw [add_o1 (by decide), u1 1 (by decide) (by decide)]; omega
        · rw [add_o1 (by decide), u2]
        · rw [add_o1 (by decide), add_o1 (by decide), u3, u1 1 (by decide) (by decide)]
        · rw [add_o1 (by decide), u1 4 (by decide) (by decide), r1.2.1 4 (by decide), eo]
        · rw [add_o1 (by decide), u1 5 (by decide) (by decide), r1.2.1 5 (by decide), eo]
        · intro k hk
          rw [add_o2, ux (o + 1) (by omega)]
          exact cd k hk
        · rw [add_o1 (by decide), u1 1 (by decide) (by decide), add_o2, ux (o + 1) (by omega)]
          exact c1
        · exact ClC.add (cc.keep (u1 9 (by decide) (by decide)) (ux (o + 2) (by omega)) (ux (o + 3) (by omega)) (ux (o + 4) (by omega)))
        · rw [add_all (by omega), ux 352 (by omega), f1.1, F3 5 (by decide) (by decide) (by decide)]
        · rw [add_all (by omega), ux 352 (by omega), f1.2, F3 6 (by decide) (by decide) (by decide)]
        · exact fun x h2 h3 => by rw [add_all h3, ux x (by omega)]; exact re x h2 h3
        · exact S3.keep (fun x hx => by rw [add_all (by omega), ux x (by omega)])
      · rw [if_neg (by decide), if_neg (by decide)]
        have e5 := c_addLaw1 (d := d + 98) (L := L) (T := T) (n := n) (v := v) (w := w3) (f := w o 1) ha h9 cl0 h24
        refine ⟨upI (upI (upI (upI (upI (upI w3 o 4 (w o 1)) o 5 (w3 o 1)) (o + 2) s.2.1.1 1) (o + 3) s.2.1.1 0) (o + 4) s.2.1.1 0) o 9 (s.2.1.1 + 1), ?_, ?_⟩
        · simp (decide := true) (disch := omega) only [en_258, bk_258_0, bk_258_49, bq_258_0, bq_258_49, rn_iconst, rn_bipush, rn_sipush, rn_ldc_w, rn_ldc, rn_ldcS, rn_lconst, rn_ldc2, rn_gets, rn_iload0, rn_lload0, rn_aload0, rn_istore0, rn_astore0, rn_lstore0, rn_iinc0, rn_iload1, rn_lload1, rn_aload1, rn_istore1, rn_astore1, rn_lstore1, rn_iinc1, rn_iload2, rn_lload2, rn_aload2, rn_istore2, rn_astore2, rn_lstore2, rn_iinc2, rn_iload3, rn_lload3, rn_aload3, rn_istore3, rn_astore3, rn_lstore3, rn_iinc3, rn_iload4, rn_lload4, rn_aload4, rn_istore4, rn_astore4, rn_lstore4, rn_iinc4, rn_iload5, rn_lload5, rn_aload5, rn_istore5, rn_astore5, rn_lstore5, rn_iinc5, rn_iload6, rn_lload6, rn_aload6, rn_istore6, rn_astore6, rn_lstore6, rn_iinc6, rn_iload7, rn_aload7, rn_istore7, rn_astore7, rn_iinc7, rn_iload8, rn_aload8, rn_istore8, rn_astore8, rn_iinc8, rn_iload9, rn_aload9, rn_istore9, rn_astore9, rn_iinc9, rn_iadd, rn_isub, rn_imul, rn_iand, rn_ior, rn_ixor, rn_ishl, rn_ishr, rn_iushr, rn_idiv, rn_irem, rn_ineg, rn_ladd, rn_lsub, rn_lmul, rn_lor, rn_ldiv, rn_lrem, rn_lneg, rn_lshl, rn_lshr, rn_i2l, rn_l2i, rn_i2c, rn_lcmp, rn_dupi, rn_dupa, rn_popi, rn_popa, rn_dup2, rn_aast, rn_alen, rn_geta, rn_aald, rn_puta, rn_new, rn_newa, rn_anew, rn_min, rn_max, rn_slen, rn_chat, rn_indx, rn_objI, rn_nop, rn_goto, rn_ifeq, rn_ifne, rn_iflt, rn_ifge, rn_ifgt, rn_ifle, rn_iceq, rn_icne, rn_iclt, rn_icge, rn_icgt, rn_icle, rn_tsw, rn_lsw, rn_iret, rn_zret, rn_lret, rn_aret, rn_vret, rn_cs0, rn_cs1, rn_cs2, rn_cs3, rn_cs4, rn_cs5, rn_cs6, rn_cs7, rn_cv1, rn_ci1, rn_cv2, rn_ci2, rn_cv3, rn_ci3, rn_cv4, rn_cv5, rn_cv6, rn_cv7, cs_n, cs_i, cs_a, cs_l, rc_i, rc_a, rc_l, rc_n, rw_iald, rw_bald, rw_lald, rw_iast, rw_bast, rw_last, rw_geti, rw_getl, rw_puti, rw_putz, rw_putl, iI_add, iI_sub, iI_mul, iI_neg, iI_lt, iI_le, iI_eq, iI_lt0, iI_le0, iI_0lt, iI_0le, iI_eq0, iI_eq1, iI_div, iI_rem, am_in_ok, am_in_no, iI_toInt, iL_add, iL_sub, iL_mul, iL_neg, iL_div, iL_rem, iI_i2l, iL_l2i, iL_cmp, iL_eq0, iI_or, iI_and, iI_shl, if_true, if_false, true_or, or_true, true_and, and_true, false_or, or_false, not_true_eq_false, not_false_eq_true, Option.bind_some, Option.toList_some, Option.toList_none, List.nil_append, List.cons_append, ite_self, nc_0, nc_1, nc_2, nc_3, nc_4, nc_5, nc_6, nc_7, nc_8, nc_9, nc_10, nc_11, nc_12, nc_13, nc_14, nc_15, nc_16, nc_17, nc_18, nc_19, nc_20, nc_21, nc_22, nc_23, nc_24, nc_25, nc_26, nc_27, nc_28, nc_29, nc_30, nc_31, nc_32, nc_33, nc_34, nc_35, nc_36, nc_40, nc_48, nc_100, nc_256, nc_300, nc_304, sh_346, rf_346_0, rf_346_3, rf_346_4, rf_346_5, sh_352, rf_352_0, rf_352_3, so, hA, e1, e2, e3, e4, e5, mx_255, mx_280, mx_281, mx_282, mx_283, if_pos, if_neg, sh_0, sh_393, rw_copy, am_cp_ok]
        have u1 : ∀ k, k ≠ 4 → k ≠ 5 → upI (upI w3 o 4 (w o 1)) o 5 (w3 o 1) o k = w3 o k := fun k h1 h2 => by rw [upI_2 h2, upI_2 h1]
        have ux : ∀ x, x ≠ o → upI (upI w3 o 4 (w o 1)) o 5 (w3 o 1) x = w3 x := fun x h1 => by rw [upI_c h1, upI_c h1]
        have u2 : upI (upI w3 o 4 (w o 1)) o 5 (w3 o 1) o 4 = w o 1 := by rw [upI_2 (by decide), upI_s]
        have u3 : upI (upI w3 o 4 (w o 1)) o 5 (w3 o 1) o 5 = w3 o 1 := upI_s
        generalize upI (upI w3 o 4 (w o 1)) o 5 (w3 o 1) = w4 at *
        refine ⟨fun _ => ⟨⟨⟨HS3.1.keep (by rw [add_all (by omega), ux 352 (by omega)]) (fun b _ _ => by rw [add_all (by omega), ux b (by omega)]), S3.keep (fun x hx => by rw [add_all (by omega), ux x (by omega)]), by rw [add_o1 (by decide), u1 1 (by decide) (by decide)]; exact HS3.2.2.1, by rw [add_o1 (by decide), u1 1 (by decide) (by decide)]; exact hj.1, hj.2⟩, claw_1 H.2.1 ?_ ?_ ?_ ?_ ?_ ?_ ?_ ?_, ?_⟩, ?_, ?_⟩, fun h => absurd rfl h, ?_, ?_⟩
        · rw [add_o1 (by decide), u1 1 (by decide) (by decide)]; omega
        · rw [add_o1 (by decide), u1 1 (by decide) (by decide)]; omega
        · rw [add_o1 (by decide), u1 2 (by decide) (by decide), r1.2.1 2 (by decide), eo]
        · rw [add_o1 (by decide), u1 3 (by decide) (by decide), r1.2.1 3 (by decide), eo]
        · rw [add_o1 (by decide), u2]
        · rw [add_o1 (by decide), add_o1 (by decide), u3, u1 1 (by decide) (by decide)]
        · intro k hk
          rw [add_o2, ux (o + 1) (by omega)]
          exact cd k hk
        · rw [add_o1 (by decide), u1 1 (by decide) (by decide), add_o2, ux (o + 1) (by omega)]
          exact c1
        · exact ClC.add (cc.keep (u1 9 (by decide) (by decide)) (ux (o + 2) (by omega)) (ux (o + 3) (by omega)) (ux (o + 4) (by omega)))
        · rw [add_all (by omega), ux 352 (by omega), f1.1, F3 5 (by decide) (by decide) (by decide)]
        · rw [add_all (by omega), ux 352 (by omega), f1.2, F3 6 (by decide) (by decide) (by decide)]
        · exact fun x h2 h3 => by rw [add_all h3, ux x (by omega)]; exact re x h2 h3
        · exact S3.keep (fun x hx => by rw [add_all (by omega), ux x (by omega)])
    · rw [if_neg b0]
      rw [bI_f b0] at e4
      refine ⟨w3, ?_, fun h => absurd h b0, fun _ => rdF_ne r4.1 b0, fun x h2 h3 => by rw [r4.2.1.1 x h2 (by omega) (by omega), F2 x h2], r4.2.2.1⟩
      simp (decide := true) (disch := omega) only [en_258, bk_258_0, bk_258_49, bq_258_0, bq_258_49, rn_iconst, rn_bipush, rn_sipush, rn_ldc_w, rn_ldc, rn_ldcS, rn_lconst, rn_ldc2, rn_gets, rn_iload0, rn_lload0, rn_aload0, rn_istore0, rn_astore0, rn_lstore0, rn_iinc0, rn_iload1, rn_lload1, rn_aload1, rn_istore1, rn_astore1, rn_lstore1, rn_iinc1, rn_iload2, rn_lload2, rn_aload2, rn_istore2, rn_astore2, rn_lstore2, rn_iinc2, rn_iload3, rn_lload3, rn_aload3, rn_istore3, rn_astore3, rn_lstore3, rn_iinc3, rn_iload4, rn_lload4, rn_aload4, rn_istore4, rn_astore4, rn_lstore4, rn_iinc4, rn_iload5, rn_lload5, rn_aload5, rn_istore5, rn_astore5, rn_lstore5, rn_iinc5, rn_iload6, rn_lload6, rn_aload6, rn_istore6, rn_astore6, rn_lstore6, rn_iinc6, rn_iload7, rn_aload7, rn_istore7, rn_astore7, rn_iinc7, rn_iload8, rn_aload8, rn_istore8, rn_astore8, rn_iinc8, rn_iload9, rn_aload9, rn_istore9, rn_astore9, rn_iinc9, rn_iadd, rn_isub, rn_imul, rn_iand, rn_ior, rn_ixor, rn_ishl, rn_ishr, rn_iushr, rn_idiv, rn_irem, rn_ineg, rn_ladd, rn_lsub, rn_lmul, rn_lor, rn_ldiv, rn_lrem, rn_lneg, rn_lshl, rn_lshr, rn_i2l, rn_l2i, rn_i2c, rn_lcmp, rn_dupi, rn_dupa, rn_popi, rn_popa, rn_dup2, rn_aast, rn_alen, rn_geta, rn_aald, rn_puta, rn_new, rn_newa, rn_anew, rn_min, rn_max, rn_slen, rn_chat, rn_indx, rn_objI, rn_nop, rn_goto, rn_ifeq, rn_ifne, rn_iflt, rn_ifge, rn_ifgt, rn_ifle, rn_iceq, rn_icne, rn_iclt, rn_icge, rn_icgt, rn_icle, rn_tsw, rn_lsw, rn_iret, rn_zret, rn_lret, rn_aret, rn_vret, rn_cs0, rn_cs1, rn_cs2, rn_cs3, rn_cs4, rn_cs5, rn_cs6, rn_cs7, rn_cv1, rn_ci1, rn_cv2, rn_ci2, rn_cv3, rn_ci3, rn_cv4, rn_cv5, rn_cv6, rn_cv7, cs_n, cs_i, cs_a, cs_l, rc_i, rc_a, rc_l, rc_n, rw_iald, rw_bald, rw_lald, rw_iast, rw_bast, rw_last, rw_geti, rw_getl, rw_puti, rw_putz, rw_putl, iI_add, iI_sub, iI_mul, iI_neg, iI_lt, iI_le, iI_eq, iI_lt0, iI_le0, iI_0lt, iI_0le, iI_eq0, iI_eq1, iI_div, iI_rem, am_in_ok, am_in_no, iI_toInt, iL_add, iL_sub, iL_mul, iL_neg, iL_div, iL_rem, iI_i2l, iL_l2i, iL_cmp, iL_eq0, iI_or, iI_and, iI_shl, if_true, if_false, true_or, or_true, true_and, and_true, false_or, or_false, not_true_eq_false, not_false_eq_true, Option.bind_some, Option.toList_some, Option.toList_none, List.nil_append, List.cons_append, ite_self, nc_0, nc_1, nc_2, nc_3, nc_4, nc_5, nc_6, nc_7, nc_8, nc_9, nc_10, nc_11, nc_12, nc_13, nc_14, nc_15, nc_16, nc_17, nc_18, nc_19, nc_20, nc_21, nc_22, nc_23, nc_24, nc_25, nc_26, nc_27, nc_28, nc_29, nc_30, nc_31, nc_32, nc_33, nc_34, nc_35, nc_36, nc_40, nc_48, nc_100, nc_256, nc_300, nc_304, sh_346, rf_346_0, rf_346_3, rf_346_4, rf_346_5, sh_352, rf_352_0, rf_352_3, so, hA, e1, e2, e3, e4, mx_255, mx_280, mx_281, mx_282, if_pos, if_neg, sh_0, sh_393, rw_copy, am_cp_ok]
  · rw [take_neg a0, if_neg a0]
    rw [bI_f a0] at e3
    refine ⟨w2, ?_, fun h => absurd h a0, fun _ => rdF_ne r.1 a0, fun x h2 h3 => by rw [r.2.1.1 x h2 (by omega) (by omega), F2 x h2], r.2.2.1⟩
    simp (decide := true) (disch := omega) only [en_258, bk_258_0, bk_258_49, bq_258_0, bq_258_49, rn_iconst, rn_bipush, rn_sipush, rn_ldc_w, rn_ldc, rn_ldcS, rn_lconst, rn_ldc2, rn_gets, rn_iload0, rn_lload0, rn_aload0, rn_istore0, rn_astore0, rn_lstore0, rn_iinc0, rn_iload1, rn_lload1, rn_aload1, rn_istore1, rn_astore1, rn_lstore1, rn_iinc1, rn_iload2, rn_lload2, rn_aload2, rn_istore2, rn_astore2, rn_lstore2, rn_iinc2, rn_iload3, rn_lload3, rn_aload3, rn_istore3, rn_astore3, rn_lstore3, rn_iinc3, rn_iload4, rn_lload4, rn_aload4, rn_istore4, rn_astore4, rn_lstore4, rn_iinc4, rn_iload5, rn_lload5, rn_aload5, rn_istore5, rn_astore5, rn_lstore5, rn_iinc5, rn_iload6, rn_lload6, rn_aload6, rn_istore6, rn_astore6, rn_lstore6, rn_iinc6, rn_iload7, rn_aload7, rn_istore7, rn_astore7, rn_iinc7, rn_iload8, rn_aload8, rn_istore8, rn_astore8, rn_iinc8, rn_iload9, rn_aload9, rn_istore9, rn_astore9, rn_iinc9, rn_iadd, rn_isub, rn_imul, rn_iand, rn_ior, rn_ixor, rn_ishl, rn_ishr, rn_iushr, rn_idiv, rn_irem, rn_ineg, rn_ladd, rn_lsub, rn_lmul, rn_lor, rn_ldiv, rn_lrem, rn_lneg, rn_lshl, rn_lshr, rn_i2l, rn_l2i, rn_i2c, rn_lcmp, rn_dupi, rn_dupa, rn_popi, rn_popa, rn_dup2, rn_aast, rn_alen, rn_geta, rn_aald, rn_puta, rn_new, rn_newa, rn_anew, rn_min, rn_max, rn_slen, rn_chat, rn_indx, rn_objI, rn_nop, rn_goto, rn_ifeq, rn_ifne, rn_iflt, rn_ifge, rn_ifgt, rn_ifle, rn_iceq, rn_icne, rn_iclt, rn_icge, rn_icgt, rn_icle, rn_tsw, rn_lsw, rn_iret, rn_zret, rn_lret, rn_aret, rn_vret, rn_cs0, rn_cs1, rn_cs2, rn_cs3, rn_cs4, rn_cs5, rn_cs6, rn_cs7, rn_cv1, rn_ci1, rn_cv2, rn_ci2, rn_cv3, rn_ci3, rn_cv4, rn_cv5, rn_cv6, rn_cv7, cs_n, cs_i, cs_a, cs_l, rc_i, rc_a, rc_l, rc_n, rw_iald, rw_bald, rw_lald, rw_iast, rw_bast, rw_last, rw_geti, rw_getl, rw_puti, rw_putz, rw_putl, iI_add, iI_sub, iI_mul, iI_neg, iI_lt, iI_le, iI_eq, iI_lt0, iI_le0, iI_0lt, iI_0le, iI_eq0, iI_eq1, iI_div, iI_rem, am_in_ok, am_in_no, iI_toInt, iL_add, iL_sub, iL_mul, iL_neg, iL_div, iL_rem, iI_i2l, iL_l2i, iL_cmp, iL_eq0, iI_or, iI_and, iI_shl, if_true, if_false, true_or, or_true, true_and, and_true, false_or, or_false, not_true_eq_false, not_false_eq_true, Option.bind_some, Option.toList_some, Option.toList_none, List.nil_append, List.cons_append, ite_self, nc_0, nc_1, nc_2, nc_3, nc_4, nc_5, nc_6, nc_7, nc_8, nc_9, nc_10, nc_11, nc_12, nc_13, nc_14, nc_15, nc_16, nc_17, nc_18, nc_19, nc_20, nc_21, nc_22, nc_23, nc_24, nc_25, nc_26, nc_27, nc_28, nc_29, nc_30, nc_31, nc_32, nc_33, nc_34, nc_35, nc_36, nc_40, nc_48, nc_100, nc_256, nc_300, nc_304, sh_346, rf_346_0, rf_346_3, rf_346_4, rf_346_5, sh_352, rf_352_0, rf_352_3, so, hA, e1, e2, e3, mx_255, mx_280, mx_281, if_pos, if_neg, sh_0, sh_393, rw_copy, am_cp_ok]
end CW
