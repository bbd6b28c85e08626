section RD6
variable {o : Nat} {w w1 w2 w3 w4 : Nat → Int → Int} {p : Bts} {i j : Nat} {s s2 s3 s4 k g q y z op : Int} {R : PR} {a c a2 : PO} {b b2 b3 : Bool} {V : LEnv → Int} {B : LEnv → Bool}
theorem cres_352 (h : CRes z p o i w w2 s a b) (h0 : a.1 = 0) : Eq3 w w2 := by
  have f := h.1
  rw [h0] at f
  unfold RdF at f
  rw [if_pos rfl] at f
  intro k k1 k2
  by_cases k3 : k = 5
  · rw [k3]; exact f.1
  · by_cases k4 : k = 6
    · rw [k4]; exact f.2
    · exact h.2.1.2.2.2 k k1 k2 k3 k4
theorem fin_fail (f : Eq3 w w3) (q : Rd w w3 o s) (r : CRes z p o j w3 w4 s4 c b2) (hs : s ≤ s4) (c0 : ¬ c.1 = 0) : CRes z p o i w w4 s c b3 :=
  ⟨(rdF_0 f 0).trans r.1, q.trans r.2.1 hs, r.2.2.1, fun h => absurd h c0⟩
theorem aim_rd (ha : ScrC o) (hs : s ≤ y) : Rd w (upI w (o + 1) y k) o s := ⟨fun b _ _ h4 => by rw [upI_c h4], fun k _ => by rw [upI_1 (by omega)], fun k hk => by rw [upI_2 (by omega)], fun k _ _ _ _ => by rw [upI_c (Ne.symm ha.afar.1.2.2.2.1)]⟩
theorem pTake_neg (h : ¬ a.1 = 0) : pTake p a k = a := by unfold pTake; rw [if_neg h]
set_option maxHeartbeats 4000000 in
theorem cc_choice (O : TpOk p) (ha : ScrC o) (op0 : 0 ≤ op) (op8 : op ≤ 8)
    (H8 : CCall p z o 321 true (dpN 8 op) i op (R 8 i op V0 B0))
    (H3 : ∀ j, i < j → j ≤ 300 → CCall p z o 281 false (dpN 3 op) j op (R 3 j op V0 B0)) :
    CCall p z o 311 false (dpN 8 op + 1) i op (pIf p R i op) := by
  intro d L T n v w hd HS hz
  have d0 := dp_8 (op := op)
  obtain ⟨e, rfl⟩ : ∃ e, d = e + 4 := ⟨d - 4, by omega⟩
  have so := (lay_scr (n := n) (o := o) ha).1
  have far := ha.afar
  have s0 := HS.2.2.1
  have s1 := HS.2.2.2
  unfold pIf
  obtain ⟨w1, e1, r1⟩ := H8 (e + 3) L T n v w (by omega) HS hz
  generalize R 8 i op V0 B0 = a at e1 r1 ⊢
  by_cases a0 : a.1 = 0
  · rw [bI_t a0] at e1
    obtain ⟨w2, e2, r2, q2⟩ := take_res (d := e) (L := L) (T := T) (n := n) (v := v) (k := 13) O ha r1 a0 (by decide) (by decide)
    obtain ⟨_, _, cs1, gr1⟩ := r1.2.2.2 a0
    have sl1 := cs1.1.2.1
    generalize hA : pTake p a 13 = A at e2 r2 q2 ⊢
    by_cases A0 : A.1 = 0
    · rw [if_pos A0]
      rw [bI_t A0] at e2
      obtain ⟨qk, qj, F2⟩ := q2 A0
      obtain ⟨⟨C2, S2, t0, t1, t2⟩, lt2, cs2, gr2⟩ := r2.2.2.2 A0
      have cs2 : CSeg z (w2 (o + 1)) (w o 1) (w2 o 1) (fun E => bI (A.2.2.2 E = true)) := cs2
      have ow : w2 o 1 = w1 o 1 := by rw [F2.1 o far.1.2.2.1]
      have f2 := cres_352 r2 A0
      have e3 := c_length (d := e + 3) (L := L) (T := T) (n := n) (v := v) (w := w2) ha
      have e4 := c_put (d := e + 3) (L := L) (T := T) (n := n) (v := v) (w := w2) (k := 13) (g := 0) ha t0 (by omega) (by decide) (by decide) (by decide) (by decide)
      rw [show (13 : Int) + 64 * 0 = 13 by decide] at e4
      generalize ht : w2 o 1 = t at *
      have RS3 : RdS (upI (upI w2 (o + 1) t 13) o 1 (t + 1)) p A.2.1 o := ⟨C2.put ha, S2.keep (fun a hh => put_far (by omega) (by omega)), by rw [put_o1]; omega, by rw [put_o1]; omega, t2⟩
      have f3 : Eq3 w (upI (upI w2 (o + 1) t 13) o 1 (t + 1)) := f2.trans (Eq3.of (put_far (Ne.symm far.1.2.2.1) (Ne.symm far.1.2.2.2.1)))
      have R3 : Rd w (upI (upI w2 (o + 1) t 13) o 1 (t + 1)) o (w o 1) := r2.2.1.trans (put_rd ha) (by omega)
      have c3 : upI (upI w2 (o + 1) t 13) o 1 (t + 1) (o + 1) t = 13 := put_c
      have c3k : ∀ y, y < t → upI (upI w2 (o + 1) t 13) o 1 (t + 1) (o + 1) y = w2 (o + 1) y := fun y hy => by rw [upI_1 (by omega), upI_2 (by omega)]
      have o3 : upI (upI w2 (o + 1) t 13) o 1 (t + 1) o 1 = t + 1 := put_o1
      generalize upI (upI w2 (o + 1) t 13) o 1 (t + 1) = w3 at *
      obtain ⟨w4, e5, r4⟩ := H3 A.2.1 lt2 t2 (e + 3) L T n v w3 (by rw [dp_3]; omega) RS3 (by rw [f3 4 (by decide) (by decide)]; exact hz)
      rw [o3] at r4
      generalize R 3 A.2.1 op V0 B0 = b at e5 r4 ⊢
      by_cases b0 : b.1 = 0
      · rw [bI_t b0] at e5
        obtain ⟨w5, e6, r5, q5⟩ := take_res (d := e) (L := L) (T := T) (n := n) (v := v) (k := 14) O ha r4 b0 (by decide) (by decide)
        obtain ⟨_, _, cs4, gr4⟩ := r4.2.2.2 b0
        have sl4 := cs4.1.2.1
        generalize hB : pTake p b 14 = B at e6 r5 q5 ⊢
        by_cases B0' : B.1 = 0
        · rw [if_pos B0']
          rw [bI_t B0'] at e6
          obtain ⟨qk5, qj5, F5⟩ := q5 B0'
          obtain ⟨⟨C5, S5, u0, u1, u2⟩, lt5, cs5, gr5⟩ := r5.2.2.2 B0'
          have cs5 : CSeg z (w5 (o + 1)) (t + 1) (w5 o 1) B.2.2.1 := cs5
          have ow5 : w5 o 1 = w4 o 1 := by rw [F5.1 o far.1.2.2.1]
          have f5 : Eq3 w w5 := f3.trans (cres_352 r5 B0')
          have R5 : Rd w w5 o (w o 1) := R3.trans r5.2.1 (by omega)
          have k5 : ∀ y, y < t + 1 → w5 (o + 1) y = w3 (o + 1) y := r5.2.1.2.2.1
          have e7 := c_length (d := e + 3) (L := L) (T := T) (n := n) (v := v) (w := w5) ha
          have e8 := c_put (d := e + 3) (L := L) (T := T) (n := n) (v := v) (w := w5) (k := 14) (g := 0) ha u0 (by omega) (by decide) (by decide) (by decide) (by decide)
          rw [show (14 : Int) + 64 * 0 = 14 by decide] at e8
          generalize ht2 : w5 o 1 = x at *
          have o6 : upI (upI w5 (o + 1) x 14) o 1 (x + 1) o 1 = x + 1 := put_o1
          have c6 : upI (upI w5 (o + 1) x 14) o 1 (x + 1) (o + 1) x = 14 := put_c
          have k6 : ∀ y, y < x → upI (upI w5 (o + 1) x 14) o 1 (x + 1) (o + 1) y = w5 (o + 1) y := fun y hy => by rw [upI_1 (by omega), upI_2 (by omega)]
          have f6 : Eq3 w (upI (upI w5 (o + 1) x 14) o 1 (x + 1)) := f5.trans (Eq3.of (put_far (Ne.symm far.1.2.2.1) (Ne.symm far.1.2.2.2.1)))
          have R6 : Rd w (upI (upI w5 (o + 1) x 14) o 1 (x + 1)) o (w o 1) := R5.trans (put_rd ha) (by omega)
          have C6 : CTk (upI (upI w5 (o + 1) x 14) o 1 (x + 1)) p B.2.1 := C5.put ha
          have S6 : StcR (upI (upI w5 (o + 1) x 14) o 1 (x + 1)) := S5.keep (fun a hh => put_far (by omega) (by omega))
          generalize upI (upI w5 (o + 1) x 14) o 1 (x + 1) = w6 at *
          have e9 := c_aimHere (d := e + 3) (L := L) (T := T) (n := n) (v := v) (w := w6) (y := t) (k := 13) ha t0 (by rw [o6]; omega) (by rw [o6]; omega) (by rw [k6 t (by omega), k5 t (by omega)]; exact c3) (by decide) (by decide)
          rw [o6] at e9
          have o7 : upI w6 (o + 1) t (13 + 64 * (x + 1)) o 1 = x + 1 := by rw [upI_1 (by omega)]; exact o6
          have c7 : upI w6 (o + 1) t (13 + 64 * (x + 1)) (o + 1) t = 13 + 64 * (x + 1) := upI_s
          have k7 : ∀ y, y ≠ t → upI w6 (o + 1) t (13 + 64 * (x + 1)) (o + 1) y = w6 (o + 1) y := fun y hy => upI_2 hy
          have f7 : Eq3 w (upI w6 (o + 1) t (13 + 64 * (x + 1))) := f6.trans (Eq3.of (upI_c (Ne.symm far.1.2.2.2.1)))
          have R7 : Rd w (upI w6 (o + 1) t (13 + 64 * (x + 1))) o (w o 1) := R6.trans (aim_rd (s := w o 1) ha (by omega)) (Int.le_refl _)
          have RS7 : RdS (upI w6 (o + 1) t (13 + 64 * (x + 1))) p B.2.1 o := ⟨C6.aim ha, S6.keep (fun a hh => upI_c (by omega)), by rw [o7]; omega, by rw [o7]; omega, u2⟩
          generalize upI w6 (o + 1) t (13 + 64 * (x + 1)) = w7 at *
          obtain ⟨w8, e10, r8⟩ := H3 B.2.1 (by omega) u2 (e + 3) L T n v w7 (by rw [dp_3]; omega) RS7 (by rw [f7 4 (by decide) (by decide)]; exact hz)
          rw [o7] at r8
          generalize R 3 B.2.1 op V0 B0 = c at e10 r8 ⊢
          by_cases c0 : c.1 = 0
          · rw [bI_t c0] at e10
            obtain ⟨w9, e11, r9, q9⟩ := take_res (d := e) (L := L) (T := T) (n := n) (v := v) (k := 15) O ha r8 c0 (by decide) (by decide)
            generalize hC : pTake p c 15 = C at e11 r9 q9 ⊢
            by_cases C0 : C.1 = 0
            · rw [if_pos C0]
              rw [bI_t C0] at e11
              obtain ⟨⟨C9, S9, x0, x1, x2⟩, lt9, cs9, gr9⟩ := r9.2.2.2 C0
              have cs9 : CSeg z (w9 (o + 1)) (x + 1) (w9 o 1) C.2.2.1 := cs9
              have sl9 := cs9.1.2.1
              have k9 : ∀ y, y < x + 1 → w9 (o + 1) y = w7 (o + 1) y := r9.2.1.2.2.1
              have f9 : Eq3 w w9 := f7.trans (cres_352 r9 C0)
              have e12 := c_aimHere (d := e + 3) (L := L) (T := T) (n := n) (v := v) (w := w9) (y := x) (k := 14) ha u0 (by omega) (by omega) (by rw [k9 x (by omega), k7 x (by omega)]; exact c6) (by decide) (by decide)
              refine ⟨upI w9 (o + 1) x (14 + 64 * w9 o 1), ?_, ⟨rdF_0 (f9.trans (Eq3.of (upI_c (Ne.symm far.1.2.2.2.1)))) _, (R7.trans r9.2.1 (by omega)).trans (aim_rd (s := w o 1) ha (by omega)) (Int.le_refl _), S9.keep (fun a hh => upI_c (by omega)), fun _ => ⟨⟨C9.aim ha, S9.keep (fun a hh => upI_c (by omega)), by rw [upI_1 (by omega)]; exact x0, by rw [upI_1 (by omega)]; exact x1, x2⟩, ?_, ?_, ?_⟩⟩⟩
              · rw [pV_bI]
                simp (decide := true) (disch := omega) only [en_311, bk_311_0, bk_311_17, bk_311_19, bk_311_57, bk_311_59, bk_311_91, bk_311_93, bk_311_125, bk_311_126, bq_311_0, bq_311_17, bq_311_19, bq_311_57, bq_311_59, bq_311_91, bq_311_93, bq_311_125, bq_311_126, rn_iconst, rn_bipush, rn_sipush, rn_ldc_w, rn_ldc, rn_ldcS, rn_lconst, rn_ldc2, rn_gets, rn_iload0, rn_lload0, rn_aload0, rn_istore0, rn_astore0, rn_lstore0, rn_iinc0, rn_iload1, rn_lload1, rn_aload1, rn_istore1, rn_astore1, rn_lstore1, rn_iinc1, rn_iload2, rn_lload2, rn_aload2, rn_istore2, rn_astore2, rn_lstore2, rn_iinc2, rn_iload3, rn_lload3, rn_aload3, rn_istore3, rn_astore3, rn_lstore3, rn_iinc3, rn_iload4, rn_lload4, rn_aload4, rn_istore4, rn_astore4, rn_lstore4, rn_iinc4, rn_iload5, rn_lload5, rn_aload5, rn_istore5, rn_astore5, rn_lstore5, rn_iinc5, rn_iload6, rn_lload6, rn_aload6, rn_istore6, rn_astore6, rn_lstore6, rn_iinc6, rn_iload7, rn_aload7, rn_istore7, rn_astore7, rn_iinc7, rn_iload8, rn_aload8, rn_istore8, rn_astore8, rn_iinc8, rn_iload9, rn_aload9, rn_istore9, rn_astore9, rn_iinc9, rn_iadd, rn_isub, rn_imul, rn_iand, rn_ior, rn_ixor, rn_ishl, rn_ishr, rn_iushr, rn_idiv, rn_irem, rn_ineg, rn_ladd, rn_lsub, rn_lmul, rn_lor, rn_ldiv, rn_lrem, rn_lneg, rn_lshl, rn_lshr, rn_i2l, rn_l2i, rn_i2c, rn_lcmp, rn_dupi, rn_dupa, rn_popi, rn_popa, rn_dup2, rn_aast, rn_alen, rn_geta, rn_aald, rn_puta, rn_new, rn_newa, rn_anew, rn_min, rn_max, rn_slen, rn_chat, rn_indx, rn_objI, rn_nop, rn_goto, rn_ifeq, rn_ifne, rn_iflt, rn_ifge, rn_ifgt, rn_ifle, rn_iceq, rn_icne, rn_iclt, rn_icge, rn_icgt, rn_icle, rn_tsw, rn_lsw, rn_iret, rn_zret, rn_lret, rn_aret, rn_vret, rn_cs0, rn_cs1, rn_cs2, rn_cs3, rn_cs4, rn_cs5, rn_cs6, rn_cs7, rn_cv1, rn_ci1, rn_cv2, rn_ci2, rn_cv3, rn_ci3, rn_cv4, rn_cv5, rn_cv6, rn_cv7, cs_n, cs_i, cs_a, cs_l, rc_i, rc_a, rc_l, rc_n, rw_iald, rw_bald, rw_lald, rw_iast, rw_bast, rw_last, rw_geti, rw_getl, rw_puti, rw_putz, rw_putl, iI_add, iI_sub, iI_mul, iI_neg, iI_lt, iI_le, iI_eq, iI_lt0, iI_le0, iI_0lt, iI_0le, iI_eq0, iI_eq1, iI_div, iI_rem, am_in_ok, am_in_no, iI_toInt, iL_add, iL_sub, iL_mul, iL_neg, iL_div, iL_rem, iI_i2l, iL_l2i, iL_cmp, iL_eq0, iI_or, iI_and, iI_shl, if_true, if_false, true_or, or_true, true_and, and_true, false_or, or_false, not_true_eq_false, not_false_eq_true, Option.bind_some, Option.toList_some, Option.toList_none, List.nil_append, List.cons_append, ite_self, nc_0, nc_1, nc_2, nc_3, nc_4, nc_5, nc_6, nc_7, nc_8, nc_9, nc_10, nc_11, nc_12, nc_13, nc_14, nc_15, nc_16, nc_17, nc_18, nc_19, nc_20, nc_21, nc_22, nc_23, nc_24, nc_25, nc_26, nc_27, nc_28, nc_29, nc_30, nc_31, nc_32, nc_33, nc_34, nc_35, nc_36, nc_40, nc_48, nc_100, nc_256, nc_300, nc_304, sh_346, rf_346_0, rf_346_3, rf_346_4, rf_346_5, sh_352, rf_352_0, rf_352_3, so, o6, ht, ht2, e1, e2, e3, e4, e5, e6, e7, e8, e9, e10, e11, e12, mx_321, mx_282, mx_280, mx_301, mx_281, mx_322, if_pos, if_neg, sh_0, sh_393, rw_copy, am_cp_ok]
              · show i < C.2.1; omega
              · rw [upI_1 (by omega)]
                refine CSeg.ite (z := z) (i := w o 1) (j := t) (k := x) (k1 := w9 o 1) (B := A.2.2.2) (V1 := B.2.2.1) (V2 := C.2.2.1) (cs2.congr (fun y h1 h2 => ?_)) ?_ (cs5.congr (fun y h1 h2 => ?_)) upI_s (cs9.congr (fun y h1 h2 => upI_2 (by omega))) (by omega)
                · rw [upI_2 (by omega), k9 y (by omega), k7 y (by omega), k6 y (by omega), k5 y (by omega), c3k y (by omega)]
                · rw [upI_2 (by omega), k9 t (by omega)]; exact c7
                · rw [upI_2 (by omega), k9 y (by omega), k7 y (by omega), k6 y (by omega)]
              · rw [upI_1 (by omega)]
                show w9 o 1 - w o 1 ≤ (C.2.1 : Int) - (i : Int)
                omega
            · rw [if_neg C0]
              rw [bI_f C0] at e11
              refine ⟨w9, ?_, fin_fail f7 R7 r9 (by omega) C0⟩
              rw [bI_f C0]
              simp (decide := true) (disch := omega) only [en_311, bk_311_0, bk_311_17, bk_311_19, bk_311_57, bk_311_59, bk_311_91, bk_311_93, bk_311_125, bk_311_126, bq_311_0, bq_311_17, bq_311_19, bq_311_57, bq_311_59, bq_311_91, bq_311_93, bq_311_125, bq_311_126, rn_iconst, rn_bipush, rn_sipush, rn_ldc_w, rn_ldc, rn_ldcS, rn_lconst, rn_ldc2, rn_gets, rn_iload0, rn_lload0, rn_aload0, rn_istore0, rn_astore0, rn_lstore0, rn_iinc0, rn_iload1, rn_lload1, rn_aload1, rn_istore1, rn_astore1, rn_lstore1, rn_iinc1, rn_iload2, rn_lload2, rn_aload2, rn_istore2, rn_astore2, rn_lstore2, rn_iinc2, rn_iload3, rn_lload3, rn_aload3, rn_istore3, rn_astore3, rn_lstore3, rn_iinc3, rn_iload4, rn_lload4, rn_aload4, rn_istore4, rn_astore4, rn_lstore4, rn_iinc4, rn_iload5, rn_lload5, rn_aload5, rn_istore5, rn_astore5, rn_lstore5, rn_iinc5, rn_iload6, rn_lload6, rn_aload6, rn_istore6, rn_astore6, rn_lstore6, rn_iinc6, rn_iload7, rn_aload7, rn_istore7, rn_astore7, rn_iinc7, rn_iload8, rn_aload8, rn_istore8, rn_astore8, rn_iinc8, rn_iload9, rn_aload9, rn_istore9, rn_astore9, rn_iinc9, rn_iadd, rn_isub, rn_imul, rn_iand, rn_ior, rn_ixor, rn_ishl, rn_ishr, rn_iushr, rn_idiv, rn_irem, rn_ineg, rn_ladd, rn_lsub, rn_lmul, rn_lor, rn_ldiv, rn_lrem, rn_lneg, rn_lshl, rn_lshr, rn_i2l, rn_l2i, rn_i2c, rn_lcmp, rn_dupi, rn_dupa, rn_popi, rn_popa, rn_dup2, rn_aast, rn_alen, rn_geta, rn_aald, rn_puta, rn_new, rn_newa, rn_anew, rn_min, rn_max, rn_slen, rn_chat, rn_indx, rn_objI, rn_nop, rn_goto, rn_ifeq, rn_ifne, rn_iflt, rn_ifge, rn_ifgt, rn_ifle, rn_iceq, rn_icne, rn_iclt, rn_icge, rn_icgt, rn_icle, rn_tsw, rn_lsw, rn_iret, rn_zret, rn_lret, rn_aret, rn_vret, rn_cs0, rn_cs1, rn_cs2, rn_cs3, rn_cs4, rn_cs5, rn_cs6, rn_cs7, rn_cv1, rn_ci1, rn_cv2, rn_ci2, rn_cv3, rn_ci3, rn_cv4, rn_cv5, rn_cv6, rn_cv7, cs_n, cs_i, cs_a, cs_l, rc_i, rc_a, rc_l, rc_n, rw_iald, rw_bald, rw_lald, rw_iast, rw_bast, rw_last, rw_geti, rw_getl, rw_puti, rw_putz, rw_putl, iI_add, iI_sub, iI_mul, iI_neg, iI_lt, iI_le, iI_eq, iI_lt0, iI_le0, iI_0lt, iI_0le, iI_eq0, iI_eq1, iI_div, iI_rem, am_in_ok, am_in_no, iI_toInt, iL_add, iL_sub, iL_mul, iL_neg, iL_div, iL_rem, iI_i2l, iL_l2i, iL_cmp, iL_eq0, iI_or, iI_and, iI_shl, if_true, if_false, true_or, or_true, true_and, and_true, false_or, or_false, not_true_eq_false, not_false_eq_true, Option.bind_some, Option.toList_some, Option.toList_none, List.nil_append, List.cons_append, ite_self, nc_0, nc_1, nc_2, nc_3, nc_4, nc_5, nc_6, nc_7, nc_8, nc_9, nc_10, nc_11, nc_12, nc_13, nc_14, nc_15, nc_16, nc_17, nc_18, nc_19, nc_20, nc_21, nc_22, nc_23, nc_24, nc_25, nc_26, nc_27, nc_28, nc_29, nc_30, nc_31, nc_32, nc_33, nc_34, nc_35, nc_36, nc_40, nc_48, nc_100, nc_256, nc_300, nc_304, sh_346, rf_346_0, rf_346_3, rf_346_4, rf_346_5, sh_352, rf_352_0, rf_352_3, so, ht, ht2, e1, e2, e3, e4, e5, e6, e7, e8, e9, e10, e11, mx_321, mx_282, mx_280, mx_301, mx_281, mx_322, if_pos, if_neg, sh_0, sh_393, rw_copy, am_cp_ok]
          · rw [bI_f c0] at e10
            rw [pTake_neg c0, if_neg c0]
            refine ⟨w8, ?_, fin_fail f7 R7 r8 (by omega) c0⟩
            rw [bI_f c0]
            simp (decide := true) (disch := omega) only [en_311, bk_311_0, bk_311_17, bk_311_19, bk_311_57, bk_311_59, bk_311_91, bk_311_93, bk_311_125, bk_311_126, bq_311_0, bq_311_17, bq_311_19, bq_311_57, bq_311_59, bq_311_91, bq_311_93, bq_311_125, bq_311_126, rn_iconst, rn_bipush, rn_sipush, rn_ldc_w, rn_ldc, rn_ldcS, rn_lconst, rn_ldc2, rn_gets, rn_iload0, rn_lload0, rn_aload0, rn_istore0, rn_astore0, rn_lstore0, rn_iinc0, rn_iload1, rn_lload1, rn_aload1, rn_istore1, rn_astore1, rn_lstore1, rn_iinc1, rn_iload2, rn_lload2, rn_aload2, rn_istore2, rn_astore2, rn_lstore2, rn_iinc2, rn_iload3, rn_lload3, rn_aload3, rn_istore3, rn_astore3, rn_lstore3, rn_iinc3, rn_iload4, rn_lload4, rn_aload4, rn_istore4, rn_astore4, rn_lstore4, rn_iinc4, rn_iload5, rn_lload5, rn_aload5, rn_istore5, rn_astore5, rn_lstore5, rn_iinc5, rn_iload6, rn_lload6, rn_aload6, rn_istore6, rn_astore6, rn_lstore6, rn_iinc6, rn_iload7, rn_aload7, rn_istore7, rn_astore7, rn_iinc7, rn_iload8, rn_aload8, rn_istore8, rn_astore8, rn_iinc8, rn_iload9, rn_aload9, rn_istore9, rn_astore9, rn_iinc9, rn_iadd, rn_isub, rn_imul, rn_iand, rn_ior, rn_ixor, rn_ishl, rn_ishr, rn_iushr, rn_idiv, rn_irem, rn_ineg, rn_ladd, rn_lsub, rn_lmul, rn_lor, rn_ldiv, rn_lrem, rn_lneg, rn_lshl, rn_lshr, rn_i2l, rn_l2i, rn_i2c, rn_lcmp, rn_dupi, rn_dupa, rn_popi, rn_popa, rn_dup2, rn_aast, rn_alen, rn_geta, rn_aald, rn_puta, rn_new, rn_newa, rn_anew, rn_min, rn_max, rn_slen, rn_chat, rn_indx, rn_objI, rn_nop, rn_goto, rn_ifeq, rn_ifne, rn_iflt, rn_ifge, rn_ifgt, rn_ifle, rn_iceq, rn_icne, rn_iclt, rn_icge, rn_icgt, rn_icle, rn_tsw, rn_lsw, rn_iret, rn_zret, rn_lret, rn_aret, rn_vret, rn_cs0, rn_cs1, rn_cs2, rn_cs3, rn_cs4, rn_cs5, rn_cs6, rn_cs7, rn_cv1, rn_ci1, rn_cv2, rn_ci2, rn_cv3, rn_ci3, rn_cv4, rn_cv5, rn_cv6, rn_cv7, cs_n, cs_i, cs_a, cs_l, rc_i, rc_a, rc_l, rc_n, rw_iald, rw_bald, rw_lald, rw_iast, rw_bast, rw_last, rw_geti, rw_getl, rw_puti, rw_putz, rw_putl, iI_add, iI_sub, iI_mul, iI_neg, iI_lt, iI_le, iI_eq, iI_lt0, iI_le0, iI_0lt, iI_0le, iI_eq0, iI_eq1, iI_div, iI_rem, am_in_ok, am_in_no, iI_toInt, iL_add, iL_sub, iL_mul, iL_neg, iL_div, iL_rem, iI_i2l, iL_l2i, iL_cmp, iL_eq0, iI_or, iI_and, iI_shl, if_true, if_false, true_or, or_true, true_and, and_true, false_or, or_false, not_true_eq_false, not_false_eq_true, Option.bind_some, Option.toList_some, Option.toList_none, List.nil_append, List.cons_append, ite_self, nc_0, nc_1, nc_2, nc_3, nc_4, nc_5, nc_6, nc_7, nc_8, nc_9, nc_10, nc_11, nc_12, nc_13, nc_14, nc_15, nc_16, nc_17, nc_18, nc_19, nc_20, nc_21, nc_22, nc_23, nc_24, nc_25, nc_26, nc_27, nc_28, nc_29, nc_30, nc_31, nc_32, nc_33, nc_34, nc_35, nc_36, nc_40, nc_48, nc_100, nc_256, nc_300, nc_304, sh_346, rf_346_0, rf_346_3, rf_346_4, rf_346_5, sh_352, rf_352_0, rf_352_3, so, ht, ht2, e1, e2, e3, e4, e5, e6, e7, e8, e9, e10, mx_321, mx_282, mx_280, mx_301, mx_281, mx_322, if_pos, if_neg, sh_0, sh_393, rw_copy, am_cp_ok]
        · rw [if_neg B0']
          rw [bI_f B0'] at e6
          refine ⟨w5, ?_, fin_fail f3 R3 r5 (by omega) B0'⟩
          rw [bI_f B0']
          simp (decide := true) (disch := omega) only [en_311, bk_311_0, bk_311_17, bk_311_19, bk_311_57, bk_311_59, bk_311_91, bk_311_93, bk_311_125, bk_311_126, bq_311_0, bq_311_17, bq_311_19, bq_311_57, bq_311_59, bq_311_91, bq_311_93, bq_311_125, bq_311_126, rn_iconst, rn_bipush, rn_sipush, rn_ldc_w, rn_ldc, rn_ldcS, rn_lconst, rn_ldc2, rn_gets, rn_iload0, rn_lload0, rn_aload0, rn_istore0, rn_astore0, rn_lstore0, rn_iinc0, rn_iload1, rn_lload1, rn_aload1, rn_istore1, rn_astore1, rn_lstore1, rn_iinc1, rn_iload2, rn_lload2, rn_aload2, rn_istore2, rn_astore2, rn_lstore2, rn_iinc2, rn_iload3, rn_lload3, rn_aload3, rn_istore3, rn_astore3, rn_lstore3, rn_iinc3, rn_iload4, rn_lload4, rn_aload4, rn_istore4, rn_astore4, rn_lstore4, rn_iinc4, rn_iload5, rn_lload5, rn_aload5, rn_istore5, rn_astore5, rn_lstore5, rn_iinc5, rn_iload6, rn_lload6, rn_aload6, rn_istore6, rn_astore6, rn_lstore6, rn_iinc6, rn_iload7, rn_aload7, rn_istore7, rn_astore7, rn_iinc7, rn_iload8, rn_aload8, rn_istore8, rn_astore8, rn_iinc8, rn_iload9, rn_aload9, rn_istore9, rn_astore9, rn_iinc9, rn_iadd, rn_isub, rn_imul, rn_iand, rn_ior, rn_ixor, rn_ishl, rn_ishr, rn_iushr, rn_idiv, rn_irem, rn_ineg, rn_ladd, rn_lsub, rn_lmul, rn_lor, rn_ldiv, rn_lrem, rn_lneg, rn_lshl, rn_lshr, rn_i2l, rn_l2i, rn_i2c, rn_lcmp, rn_dupi, rn_dupa, rn_popi, rn_popa, rn_dup2, rn_aast, rn_alen, rn_geta, rn_aald, rn_puta, rn_new, rn_newa, rn_anew, rn_min, rn_max, rn_slen, rn_chat, rn_indx, rn_objI, rn_nop, rn_goto, rn_ifeq, rn_ifne, rn_iflt, rn_ifge, rn_ifgt, rn_ifle, rn_iceq, rn_icne, rn_iclt, rn_icge, rn_icgt, rn_icle, rn_tsw, rn_lsw, rn_iret, rn_zret, rn_lret, rn_aret, rn_vret, rn_cs0, rn_cs1, rn_cs2, rn_cs3, rn_cs4, rn_cs5, rn_cs6, rn_cs7, rn_cv1, rn_ci1, rn_cv2, rn_ci2, rn_cv3, rn_ci3, rn_cv4, rn_cv5, rn_cv6, rn_cv7, cs_n, cs_i, cs_a, cs_l, rc_i, rc_a, rc_l, rc_n, rw_iald, rw_bald, rw_lald, rw_iast, rw_bast, rw_last, rw_geti, rw_getl, rw_puti, rw_putz, rw_putl, iI_add, iI_sub, iI_mul, iI_neg, iI_lt, iI_le, iI_eq, iI_lt0, iI_le0, iI_0lt, iI_0le, iI_eq0, iI_eq1, iI_div, iI_rem, am_in_ok, am_in_no, iI_toInt, iL_add, iL_sub, iL_mul, iL_neg, iL_div, iL_rem, iI_i2l, iL_l2i, iL_cmp, iL_eq0, iI_or, iI_and, iI_shl, if_true, if_false, true_or, or_true, true_and, and_true, false_or, or_false, not_true_eq_false, not_false_eq_true, Option.bind_some, Option.toList_some, Option.toList_none, List.nil_append, List.cons_append, ite_self, nc_0, nc_1, nc_2, nc_3, nc_4, nc_5, nc_6, nc_7, nc_8, nc_9, nc_10, nc_11, nc_12, nc_13, nc_14, nc_15, nc_16, nc_17, nc_18, nc_19, nc_20, nc_21, nc_22, nc_23, nc_24, nc_25, nc_26, nc_27, nc_28, nc_29, nc_30, nc_31, nc_32, nc_33, nc_34, nc_35, nc_36, nc_40, nc_48, nc_100, nc_256, nc_300, nc_304, sh_346, rf_346_0, rf_346_3, rf_346_4, rf_346_5, sh_352, rf_352_0, rf_352_3, so, ht, e1, e2, e3, e4, e5, e6, mx_321, mx_282, mx_280, mx_301, mx_281, if_pos, if_neg, sh_0, sh_393, rw_copy, am_cp_ok]
      · rw [bI_f b0] at e5
        rw [pTake_neg b0, if_neg b0]
        refine ⟨w4, ?_, fin_fail f3 R3 r4 (by omega) b0⟩
        rw [bI_f b0]
        simp (decide := true) (disch := omega) only [en_311, bk_311_0, bk_311_17, bk_311_19, bk_311_57, bk_311_59, bk_311_91, bk_311_93, bk_311_125, bk_311_126, bq_311_0, bq_311_17, bq_311_19, bq_311_57, bq_311_59, bq_311_91, bq_311_93, bq_311_125, bq_311_126, rn_iconst, rn_bipush, rn_sipush, rn_ldc_w, rn_ldc, rn_ldcS, rn_lconst, rn_ldc2, rn_gets, rn_iload0, rn_lload0, rn_aload0, rn_istore0, rn_astore0, rn_lstore0, rn_iinc0, rn_iload1, rn_lload1, rn_aload1, rn_istore1, rn_astore1, rn_lstore1, rn_iinc1, rn_iload2, rn_lload2, rn_aload2, rn_istore2, rn_astore2, rn_lstore2, rn_iinc2, rn_iload3, rn_lload3, rn_aload3, rn_istore3, rn_astore3, rn_lstore3, rn_iinc3, rn_iload4, rn_lload4, rn_aload4, rn_istore4, rn_astore4, rn_lstore4, rn_iinc4, rn_iload5, rn_lload5, rn_aload5, rn_istore5, rn_astore5, rn_lstore5, rn_iinc5, rn_iload6, rn_lload6, rn_aload6, rn_istore6, rn_astore6, rn_lstore6, rn_iinc6, rn_iload7, rn_aload7, rn_istore7, rn_astore7, rn_iinc7, rn_iload8, rn_aload8, rn_istore8, rn_astore8, rn_iinc8, rn_iload9, rn_aload9, rn_istore9, rn_astore9, rn_iinc9, rn_iadd, rn_isub, rn_imul, rn_iand, rn_ior, rn_ixor, rn_ishl, rn_ishr, rn_iushr, rn_idiv, rn_irem, rn_ineg, rn_ladd, rn_lsub, rn_lmul, rn_lor, rn_ldiv, rn_lrem, rn_lneg, rn_lshl, rn_lshr, rn_i2l, rn_l2i, rn_i2c, rn_lcmp, rn_dupi, rn_dupa, rn_popi, rn_popa, rn_dup2, rn_aast, rn_alen, rn_geta, rn_aald, rn_puta, rn_new, rn_newa, rn_anew, rn_min, rn_max, rn_slen, rn_chat, rn_indx, rn_objI, rn_nop, rn_goto, rn_ifeq, rn_ifne, rn_iflt, rn_ifge, rn_ifgt, rn_ifle, rn_iceq, rn_icne, rn_iclt, rn_icge, rn_icgt, rn_icle, rn_tsw, rn_lsw, rn_iret, rn_zret, rn_lret, rn_aret, rn_vret, rn_cs0, rn_cs1, rn_cs2, rn_cs3, rn_cs4, rn_cs5, rn_cs6, rn_cs7, rn_cv1, rn_ci1, rn_cv2, rn_ci2, rn_cv3, rn_ci3, rn_cv4, rn_cv5, rn_cv6, rn_cv7, cs_n, cs_i, cs_a, cs_l, rc_i, rc_a, rc_l, rc_n, rw_iald, rw_bald, rw_lald, rw_iast, rw_bast, rw_last, rw_geti, rw_getl, rw_puti, rw_putz, rw_putl, iI_add, iI_sub, iI_mul, iI_neg, iI_lt, iI_le, iI_eq, iI_lt0, iI_le0, iI_0lt, iI_0le, iI_eq0, iI_eq1, iI_div, iI_rem, am_in_ok, am_in_no, iI_toInt, iL_add, iL_sub, iL_mul, iL_neg, iL_div, iL_rem, iI_i2l, iL_l2i, iL_cmp, iL_eq0, iI_or, iI_and, iI_shl, if_true, if_false, true_or, or_true, true_and, and_true, false_or, or_false, not_true_eq_false, not_false_eq_true, Option.bind_some, Option.toList_some, Option.toList_none, List.nil_append, List.cons_append, ite_self, nc_0, nc_1, nc_2, nc_3, nc_4, nc_5, nc_6, nc_7, nc_8, nc_9, nc_10, nc_11, nc_12, nc_13, nc_14, nc_15, nc_16, nc_17, nc_18, nc_19, nc_20, nc_21, nc_22, nc_23, nc_24, nc_25, nc_26, nc_27, nc_28, nc_29, nc_30, nc_31, nc_32, nc_33, nc_34, nc_35, nc_36, nc_40, nc_48, nc_100, nc_256, nc_300, nc_304, sh_346, rf_346_0, rf_346_3, rf_346_4, rf_346_5, sh_352, rf_352_0, rf_352_3, so, ht, e1, e2, e3, e4, e5, mx_321, mx_282, mx_280, mx_301, mx_281, if_pos, if_neg, sh_0, sh_393, rw_copy, am_cp_ok]
    · rw [if_neg A0]
      rw [bI_f A0] at e2
      refine ⟨w2, ?_, ⟨r2.1, r2.2.1, r2.2.2.1, fun h => absurd h A0⟩⟩
      rw [bI_f A0]
      simp (decide := true) (disch := omega) only [en_311, bk_311_0, bk_311_17, bk_311_19, bk_311_57, bk_311_59, bk_311_91, bk_311_93, bk_311_125, bk_311_126, bq_311_0, bq_311_17, bq_311_19, bq_311_57, bq_311_59, bq_311_91, bq_311_93, bq_311_125, bq_311_126, rn_iconst, rn_bipush, rn_sipush, rn_ldc_w, rn_ldc, rn_ldcS, rn_lconst, rn_ldc2, rn_gets, rn_iload0, rn_lload0, rn_aload0, rn_istore0, rn_astore0, rn_lstore0, rn_iinc0, rn_iload1, rn_lload1, rn_aload1, rn_istore1, rn_astore1, rn_lstore1, rn_iinc1, rn_iload2, rn_lload2, rn_aload2, rn_istore2, rn_astore2, rn_lstore2, rn_iinc2, rn_iload3, rn_lload3, rn_aload3, rn_istore3, rn_astore3, rn_lstore3, rn_iinc3, rn_iload4, rn_lload4, rn_aload4, rn_istore4, rn_astore4, rn_lstore4, rn_iinc4, rn_iload5, rn_lload5, rn_aload5, rn_istore5, rn_astore5, rn_lstore5, rn_iinc5, rn_iload6, rn_lload6, rn_aload6, rn_istore6, rn_astore6, rn_lstore6, rn_iinc6, rn_iload7, rn_aload7, rn_istore7, rn_astore7, rn_iinc7, rn_iload8, rn_aload8, rn_istore8, rn_astore8, rn_iinc8, rn_iload9, rn_aload9, rn_istore9, rn_astore9, rn_iinc9, rn_iadd, rn_isub, rn_imul, rn_iand, rn_ior, rn_ixor, rn_ishl, rn_ishr, rn_iushr, rn_idiv, rn_irem, rn_ineg, rn_ladd, rn_lsub, rn_lmul, rn_lor, rn_ldiv, rn_lrem, rn_lneg, rn_lshl, rn_lshr, rn_i2l, rn_l2i, rn_i2c, rn_lcmp, rn_dupi, rn_dupa, rn_popi, rn_popa, rn_dup2, rn_aast, rn_alen, rn_geta, rn_aald, rn_puta, rn_new, rn_newa, rn_anew, rn_min, rn_max, rn_slen, rn_chat, rn_indx, rn_objI, rn_nop, rn_goto, rn_ifeq, rn_ifne, rn_iflt, rn_ifge, rn_ifgt, rn_ifle, rn_iceq, rn_icne, rn_iclt, rn_icge, rn_icgt, rn_icle, rn_tsw, rn_lsw, rn_iret, rn_zret, rn_lret, rn_aret, rn_vret, rn_cs0, rn_cs1, rn_cs2, rn_cs3, rn_cs4, rn_cs5, rn_cs6, rn_cs7, rn_cv1, rn_ci1, rn_cv2, rn_ci2, rn_cv3, rn_ci3, rn_cv4, rn_cv5, rn_cv6, rn_cv7, cs_n, cs_i, cs_a, cs_l, rc_i, rc_a, rc_l, rc_n, rw_iald, rw_bald, rw_lald, rw_iast, rw_bast, rw_last, rw_geti, rw_getl, rw_puti, rw_putz, rw_putl, iI_add, iI_sub, iI_mul, iI_neg, iI_lt, iI_le, iI_eq, iI_lt0, iI_le0, iI_0lt, iI_0le, iI_eq0, iI_eq1, iI_div, iI_rem, am_in_ok, am_in_no, iI_toInt, iL_add, iL_sub, iL_mul, iL_neg, iL_div, iL_rem, iI_i2l, iL_l2i, iL_cmp, iL_eq0, iI_or, iI_and, iI_shl, if_true, if_false, true_or, or_true, true_and, and_true, false_or, or_false, not_true_eq_false, not_false_eq_true, Option.bind_some, Option.toList_some, Option.toList_none, List.nil_append, List.cons_append, ite_self, nc_0, nc_1, nc_2, nc_3, nc_4, nc_5, nc_6, nc_7, nc_8, nc_9, nc_10, nc_11, nc_12, nc_13, nc_14, nc_15, nc_16, nc_17, nc_18, nc_19, nc_20, nc_21, nc_22, nc_23, nc_24, nc_25, nc_26, nc_27, nc_28, nc_29, nc_30, nc_31, nc_32, nc_33, nc_34, nc_35, nc_36, nc_40, nc_48, nc_100, nc_256, nc_300, nc_304, sh_346, rf_346_0, rf_346_3, rf_346_4, rf_346_5, sh_352, rf_352_0, rf_352_3, so, e1, e2, mx_321, mx_282, if_pos, if_neg, sh_0, sh_393, rw_copy, am_cp_ok]
  · rw [bI_f a0] at e1
    rw [pTake_neg a0, if_neg a0]
    refine ⟨w1, ?_, ⟨r1.1, r1.2.1, r1.2.2.1, fun h => absurd h a0⟩⟩
    rw [bI_f a0]
    simp (decide := true) (disch := omega) only [en_311, bk_311_0, bk_311_17, bk_311_19, bk_311_57, bk_311_59, bk_311_91, bk_311_93, bk_311_125, bk_311_126, bq_311_0, bq_311_17, bq_311_19, bq_311_57, bq_311_59, bq_311_91, bq_311_93, bq_311_125, bq_311_126, rn_iconst, rn_bipush, rn_sipush, rn_ldc_w, rn_ldc, rn_ldcS, rn_lconst, rn_ldc2, rn_gets, rn_iload0, rn_lload0, rn_aload0, rn_istore0, rn_astore0, rn_lstore0, rn_iinc0, rn_iload1, rn_lload1, rn_aload1, rn_istore1, rn_astore1, rn_lstore1, rn_iinc1, rn_iload2, rn_lload2, rn_aload2, rn_istore2, rn_astore2, rn_lstore2, rn_iinc2, rn_iload3, rn_lload3, rn_aload3, rn_istore3, rn_astore3, rn_lstore3, rn_iinc3, rn_iload4, rn_lload4, rn_aload4, rn_istore4, rn_astore4, rn_lstore4, rn_iinc4, rn_iload5, rn_lload5, rn_aload5, rn_istore5, rn_astore5, rn_lstore5, rn_iinc5, rn_iload6, rn_lload6, rn_aload6, rn_istore6, rn_astore6, rn_lstore6, rn_iinc6, rn_iload7, rn_aload7, rn_istore7, rn_astore7, rn_iinc7, rn_iload8, rn_aload8, rn_istore8, rn_astore8, rn_iinc8, rn_iload9, rn_aload9, rn_istore9, rn_astore9, rn_iinc9, rn_iadd, rn_isub, rn_imul, rn_iand, rn_ior, rn_ixor, rn_ishl, rn_ishr, rn_iushr, rn_idiv, rn_irem, rn_ineg, rn_ladd, rn_lsub, rn_lmul, rn_lor, rn_ldiv, rn_lrem, rn_lneg, rn_lshl, rn_lshr, rn_i2l, rn_l2i, rn_i2c, rn_lcmp, rn_dupi, rn_dupa, rn_popi, rn_popa, rn_dup2, rn_aast, rn_alen, rn_geta, rn_aald, rn_puta, rn_new, rn_newa, rn_anew, rn_min, rn_max, rn_slen, rn_chat, rn_indx, rn_objI, rn_nop, rn_goto, rn_ifeq, rn_ifne, rn_iflt, rn_ifge, rn_ifgt, rn_ifle, rn_iceq, rn_icne, rn_iclt, rn_icge, rn_icgt, rn_icle, rn_tsw, rn_lsw, rn_iret, rn_zret, rn_lret, rn_aret, rn_vret, rn_cs0, rn_cs1, rn_cs2, rn_cs3, rn_cs4, rn_cs5, rn_cs6, rn_cs7, rn_cv1, rn_ci1, rn_cv2, rn_ci2, rn_cv3, rn_ci3, rn_cv4, rn_cv5, rn_cv6, rn_cv7, cs_n, cs_i, cs_a, cs_l, rc_i, rc_a, rc_l, rc_n, rw_iald, rw_bald, rw_lald, rw_iast, rw_bast, rw_last, rw_geti, rw_getl, rw_puti, rw_putz, rw_putl, iI_add, iI_sub, iI_mul, iI_neg, iI_lt, iI_le, iI_eq, iI_lt0, iI_le0, iI_0lt, iI_0le, iI_eq0, iI_eq1, iI_div, iI_rem, am_in_ok, am_in_no, iI_toInt, iL_add, iL_sub, iL_mul, iL_neg, iL_div, iL_rem, iI_i2l, iL_l2i, iL_cmp, iL_eq0, iI_or, iI_and, iI_shl, if_true, if_false, true_or, or_true, true_and, and_true, false_or, or_false, not_true_eq_false, not_false_eq_true, Option.bind_some, Option.toList_some, Option.toList_none, List.nil_append, List.cons_append, ite_self, nc_0, nc_1, nc_2, nc_3, nc_4, nc_5, nc_6, nc_7, nc_8, nc_9, nc_10, nc_11, nc_12, nc_13, nc_14, nc_15, nc_16, nc_17, nc_18, nc_19, nc_20, nc_21, nc_22, nc_23, nc_24, nc_25, nc_26, nc_27, nc_28, nc_29, nc_30, nc_31, nc_32, nc_33, nc_34, nc_35, nc_36, nc_40, nc_48, nc_100, nc_256, nc_300, nc_304, sh_346, rf_346_0, rf_346_3, rf_346_4, rf_346_5, sh_352, rf_352_0, rf_352_3, so, e1, mx_321, if_pos, if_neg, sh_0, sh_393, rw_copy, am_cp_ok]
end RD6
