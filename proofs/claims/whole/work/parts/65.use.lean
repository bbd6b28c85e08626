theorem iI_mm {lo hi z : Int} (hl : lo ≤ hi) (l0 : -1000000 ≤ lo) (h1 : hi ≤ 1000000) (z0 : -1000000 ≤ z) (z1 : z ≤ 1000000) : (if iI lo < (if z < hi then iI z else iI hi) then (if z < hi then iI z else iI hi) else iI lo) = iI (clmp lo hi z) := by
  unfold clmp
  by_cases g : z < hi
  · have q := iI_lt (a := lo) (b := z) (by omega) (by omega) (by omega) (by omega)
    rw [if_pos g, if_neg (show ¬ hi < z by omega)]
    by_cases g2 : lo < z
    · rw [if_pos (q ▸ g2), if_neg (by omega)]
    · rw [if_neg (q ▸ g2)]
      by_cases g3 : z < lo
      · rw [if_pos g3]
      · rw [if_neg g3, show z = lo by omega]
  · have q := iI_lt (a := lo) (b := hi) (by omega) (by omega) (by omega) (by omega)
    rw [if_neg g, if_neg (show ¬ z < lo by omega)]
    by_cases g2 : lo < hi
    · rw [if_pos (q ▸ g2)]
      by_cases g3 : hi < z
      · rw [if_pos g3]
      · rw [if_neg g3, show z = hi by omega]
    · rw [if_neg (q ▸ g2), show lo = hi by omega]
      by_cases g3 : hi < z
      · rw [if_pos g3]
      · rw [if_neg g3, show z = hi by omega]
def envL (A : AT) (gv : Int → Int) (s i e f : Int) : LEnv := (fun k => if k = 0 then A.din else if k = 1 then s else if k = 2 then A.m s i else if k = 3 then A.g s i else if k = 4 then i else if k = 5 then A.h s else if k = 6 then e else f, gv, fun x => if 0 ≤ x ∧ x < 8 then A.top x + 1 else 0)
def fadeV (VF : Option (LEnv → Int)) (A : AT) (gv : Int → Int) (s i : Int) : Int := match VF with
  | none => 1
  | some V => clmp 0 9 (V (envL A gv s i 0 0))
def feltV (VT : Option (LEnv → Int)) (A : AT) (gv : Int → Int) (s i e f : Int) : Int := match VT with
  | none => clmp (-99) 99 ((f * A.g s i).tdiv (i + 1))
  | some V => clmp (-99) 99 (V (envL A gv s i e f))
def tasteT (VT : Option (LEnv → Int)) (A : AT) (gv fl : Int → Int) (e s : Int) : Nat → Int := isum (fun i => if A.m s i = e then 0 else feltV VT A gv s i e (fl (e * 6 + A.m s i)))
def tasteV (VT : Option (LEnv → Int)) (A : AT) (gv fl : Int → Int) (e s : Int) : Int := tasteT VT A gv fl e s (A.h s).toNat
theorem fadeV_bd {VF : Option (LEnv → Int)} {A : AT} {gv : Int → Int} {s i : Int} : 0 ≤ fadeV VF A gv s i ∧ fadeV VF A gv s i ≤ 9 := by
  cases VF with
  | none => exact ⟨by show (0 : Int) ≤ 1; decide, by show (1 : Int) ≤ 9; decide⟩
  | some V => exact clmp_bd (by decide)
theorem feltV_bd {VT : Option (LEnv → Int)} {A : AT} {gv : Int → Int} {s i e f : Int} : -99 ≤ feltV VT A gv s i e f ∧ feltV VT A gv s i e f ≤ 99 := by
  cases VT with
  | none => exact clmp_bd (by decide)
  | some V => exact clmp_bd (by decide)
theorem tasteT_bd {VT : Option (LEnv → Int)} {A : AT} {gv fl : Int → Int} {e s : Int} (k : Nat) (hk : k ≤ 5) : -495 ≤ tasteT VT A gv fl e s k ∧ tasteT VT A gv fl e s k ≤ 495 := by
  have := isum_bd (f := fun i => if A.m s i = e then 0 else feltV VT A gv s i e (fl (e * 6 + A.m s i))) (lo := -99) (hi := 99) k (fun j hj => by
    have := feltV_bd (VT := VT) (A := A) (gv := gv) (s := s) (i := (j : Int)) (e := e) (f := fl (e * 6 + A.m s j))
    split <;> omega)
  unfold tasteT
  omega
/-- the guests -/
def CGst (w : Nat → Int → Int) (N : Int) (gv fl cd : Int → Int) : Prop := (0 ≤ N ∧ N ≤ 6 ∧ w 8 0 = N) ∧ (∀ x, gv x = if 0 ≤ x ∧ x < N then w 9 x else 0) ∧ (∀ x, 0 ≤ gv x ∧ gv x ≤ 9) ∧ (∀ x, 0 ≤ x → x < 36 → w 11 x = fl x ∧ -9 ≤ fl x ∧ fl x ≤ 9) ∧ (∀ x, 0 ≤ x → x < N → w 10 x = cd x ∧ -1 ≤ cd x ∧ cd x ≤ 7 ∧ 1 ≤ gv x)
def CLaw (w : Nat → Int → Int) (a : Nat) (VF VT : Option (LEnv → Int)) : Prop := (0 ≤ w a 1 ∧ w a 1 ≤ 300 ∧ 0 ≤ w a 2 ∧ w a 2 ≤ 300 ∧ 0 ≤ w a 3 ∧ w a 3 ≤ w a 1 ∧ 0 ≤ w a 4 ∧ w a 4 ≤ 300 ∧ 0 ≤ w a 5 ∧ w a 5 ≤ w a 1) ∧
  (match VF with | none => w a 3 ≤ w a 2 | some V => CSeg 0 (w (a + 1)) (w a 2) (w a 3) V) ∧ (match VT with | none => w a 5 ≤ w a 4 | some V => CSeg 1 (w (a + 1)) (w a 4) (w a 5) V)
theorem CGst.keep {w w2 : Nat → Int → Int} {N : Int} {gv fl cd : Int → Int} (h : CGst w N gv fl cd) (h1 : w2 8 = w 8) (h2 : w2 9 = w 9) (h3 : w2 10 = w 10) (h4 : w2 11 = w 11) : CGst w2 N gv fl cd := by
  unfold CGst at h ⊢
  rw [h1, h2, h3, h4]
  exact h
theorem CLaw.keep {w w2 : Nat → Int → Int} {a : Nat} {VF VT : Option (LEnv → Int)} (h : CLaw w a VF VT) (h1 : w2 a = w a) (h2 : w2 (a + 1) = w (a + 1)) : CLaw w2 a VF VT := by
  unfold CLaw at h ⊢
  rw [h1, h2]
  exact h
theorem CRep.keep {w w2 : Nat → Int → Int} {t : Nat} {A : AT} (C : CRep w t A) (h : ∀ a, t ≤ a → a ≤ t + 4 → w2 a = w a) : CRep w2 t A := by
  have e0 := h t (by omega) (by omega)
  have e1 := h (t + 1) (by omega) (by omega)
  have e2 := h (t + 2) (by omega) (by omega)
  have e3 := h (t + 3) (by omega) (by omega)
  have e4 := h (t + 4) (by omega) (by omega)
  unfold CRep at C ⊢
  rw [e0, e1, e2, e3, e4]
  exact C
theorem envL_ok {A : AT} {N : Int} {w : Nat → Int → Int} {gv fl cd : Int → Int} (O : AOk A N) (hN : N ≤ 6) (G : CGst w N gv fl cd) {s i e f : Int} (h0 : 0 ≤ s) (h1 : s < 8) (i0 : 0 ≤ i) (i1 : i < A.h s) (e0 : 0 ≤ e) (e1 : e < 6) (f0 : -9 ≤ f) (f1 : f ≤ 9) : EOk (envL A gv s i e f) := by
  obtain ⟨o1, o2, o3, o4, o5, o6, o7, o8⟩ := O.1
  have hl := O.l s i h0 h1 i0 i1
  have hh := O.h s h0 h1
  refine ⟨fun k k0 k1 => ?_, fun x => G.2.2.1 x, fun x => ?_⟩
  · rcases (show k = 0 ∨ k = 1 ∨ k = 2 ∨ k = 3 ∨ k = 4 ∨ k = 5 ∨ k = 6 ∨ k = 7 by omega) with rfl | rfl | rfl | rfl | rfl | rfl | rfl | rfl
    · show -100000 ≤ A.din ∧ A.din ≤ 100000; omega
    · show -100000 ≤ s ∧ s ≤ 100000; omega
    · show -100000 ≤ A.m s i ∧ A.m s i ≤ 100000; omega
    · show -100000 ≤ A.g s i ∧ A.g s i ≤ 100000; omega
    · show -100000 ≤ i ∧ i ≤ 100000; omega
    · show -100000 ≤ A.h s ∧ A.h s ≤ 100000; omega
    · show -100000 ≤ e ∧ e ≤ 100000; omega
    · show -100000 ≤ f ∧ f ≤ 100000; omega
  · show 0 ≤ (if 0 ≤ x ∧ x < 8 then A.top x + 1 else 0) ∧ (if 0 ≤ x ∧ x < 8 then A.top x + 1 else 0) ≤ 6
    by_cases c : 0 ≤ x ∧ x < 8
    · have := O.top hN c.1 c.2
      rw [if_pos c]; omega
    · rw [if_neg c]; omega
section US
variable {d L T o n a t : Nat} {w : Nat → Int → Int} {v : Nat → Nat → Int64} {A : AT} {N : Int} {gv fl cd : Int → Int} {VF VT : Option (LEnv → Int)} {s i : Int}
set_option maxHeartbeats 1000000 in
theorem c_run {z fr to : Int} {E : LEnv} {V : LEnv → Int} (ha : ScrC a) (ht : t = 2 ∨ t = 341) (hE : EOk E) (hC : CEnv z w t E) (H : CSeg z (w (a + 1)) fr to V) (h1 : to ≤ w a 1) (h2 : w a 1 ≤ 300) :
    ∃ w2, am_call (d + 2) 236 [.ref 359, .ref a, .int (iI fr), .int (iI to), .ref t] (L, T, S0 n, am_w w, v, R0 o) = some (some (.int (iI (V E))), (L, T, S0 n, am_w w2, v, R0 o)) ∧ ∀ b, b ≠ 361 → w2 b = w b := by
  have hb := H.1
  obtain ⟨w2, j2, e, v2, k2, b2⟩ := H.2 d L T o n a t v w E fr to 2 (none, none, none) ha ht hE hC (fun k _ _ => rfl) h1 h2 (Int.le_refl to) (by omega) (Int.le_refl 2) (by omega)
  refine ⟨w2, ?_, b2⟩
  refine Eq.trans ?_ (e.trans ?_)
  · unfold cHd
    simp (decide := true) (disch := omega) only [en_236, bk_236_0, bk_236_116, bk_236_135, bk_236_150, bk_236_166, bk_236_199, bk_236_200, bk_236_204, bk_236_233, bk_236_234, bk_236_238, bk_236_262, bk_236_264, bk_236_269, bk_236_287, bk_236_315, bk_236_336, bk_236_337, bk_236_371, bk_236_394, bk_236_395, bk_236_396, bk_236_402, bk_236_417, bk_236_418, bq_236_0, bq_236_6, bq_236_116, bq_236_135, bq_236_150, bq_236_166, bq_236_199, bq_236_200, bq_236_204, bq_236_233, bq_236_234, bq_236_238, bq_236_262, bq_236_264, bq_236_269, bq_236_287, bq_236_315, bq_236_336, bq_236_337, bq_236_371, bq_236_394, bq_236_395, bq_236_396, bq_236_402, bq_236_417, bq_236_418, rn_iconst, rn_bipush, rn_sipush, rn_ldc_w, rn_ldc, rn_ldcS, rn_lconst, rn_ldc2, rn_gets, rn_iload0, rn_lload0, rn_aload0, rn_istore0, rn_astore0, rn_lstore0, rn_iinc0, rn_iload1, rn_lload1, rn_aload1, rn_istore1, rn_astore1, rn_lstore1, rn_iinc1, rn_iload2, rn_lload2, rn_aload2, rn_istore2, rn_astore2, rn_lstore2, rn_iinc2, rn_iload3, rn_lload3, rn_aload3, rn_istore3, rn_astore3, rn_lstore3, rn_iinc3, rn_iload4, rn_lload4, rn_aload4, rn_istore4, rn_astore4, rn_lstore4, rn_iinc4, rn_iload5, rn_lload5, rn_aload5, rn_istore5, rn_astore5, rn_lstore5, rn_iinc5, rn_iload6, rn_lload6, rn_aload6, rn_istore6, rn_astore6, rn_lstore6, rn_iinc6, rn_iload7, rn_aload7, rn_istore7, rn_astore7, rn_iinc7, rn_iload8, rn_aload8, rn_istore8, rn_astore8, rn_iinc8, rn_iload9, rn_aload9, rn_istore9, rn_astore9, rn_iinc9, rn_iadd, rn_isub, rn_imul, rn_iand, rn_ior, rn_ixor, rn_ishl, rn_ishr, rn_iushr, rn_idiv, rn_irem, rn_ineg, rn_ladd, rn_lsub, rn_lmul, rn_lor, rn_ldiv, rn_lrem, rn_lneg, rn_lshl, rn_lshr, rn_i2l, rn_l2i, rn_i2c, rn_lcmp, rn_dupi, rn_dupa, rn_popi, rn_popa, rn_dup2, rn_aast, rn_alen, rn_geta, rn_aald, rn_puta, rn_new, rn_newa, rn_anew, rn_min, rn_max, rn_slen, rn_chat, rn_indx, rn_objI, rn_nop, rn_goto, rn_ifeq, rn_ifne, rn_iflt, rn_ifge, rn_ifgt, rn_ifle, rn_iceq, rn_icne, rn_iclt, rn_icge, rn_icgt, rn_icle, rn_tsw, rn_lsw, rn_iret, rn_zret, rn_lret, rn_aret, rn_vret, rn_cs0, rn_cs1, rn_cs2, rn_cs3, rn_cs4, rn_cs5, rn_cs6, rn_cs7, rn_cv1, rn_ci1, rn_cv2, rn_ci2, rn_cv3, rn_ci3, rn_cv4, rn_cv5, rn_cv6, rn_cv7, cs_n, cs_i, cs_a, cs_l, rc_i, rc_a, rc_l, rc_n, rw_iald, rw_bald, rw_lald, rw_iast, rw_bast, rw_last, rw_geti, rw_getl, rw_puti, rw_putz, rw_putl, iI_add, iI_sub, iI_mul, iI_neg, iI_lt, iI_le, iI_eq, iI_lt0, iI_le0, iI_0lt, iI_0le, iI_eq0, iI_eq1, iI_div, iI_rem, am_in_ok, am_in_no, iI_toInt, iL_add, iL_sub, iL_mul, iL_neg, iL_div, iL_rem, iI_i2l, iL_l2i, iL_cmp, iL_eq0, iI_or, iI_and, iI_shl, if_true, if_false, true_or, or_true, true_and, and_true, false_or, or_false, not_true_eq_false, not_false_eq_true, Option.bind_some, Option.toList_some, Option.toList_none, List.nil_append, List.cons_append, ite_self, nc_0, nc_1, nc_2, nc_3, nc_4, nc_5, nc_6, nc_7, nc_8, nc_9, nc_10, nc_11, nc_12, nc_13, nc_14, nc_15, nc_16, nc_17, nc_18, nc_19, nc_20, nc_21, nc_22, nc_23, nc_24, nc_25, nc_26, nc_27, nc_28, nc_29, nc_30, nc_31, nc_32, nc_33, nc_34, nc_35, nc_36, nc_40, nc_48, nc_100, nc_256, nc_300, nc_304, sh_359, rf_359_0, rf_359_1, rf_359_2, sh_360, sh_361, if_pos, if_neg, sh_0, sh_393, rw_copy, am_cp_ok]
  · have hV := hb.2.2 E hE
    unfold cHd
    conv => lhs; rw [bk_236_6]
    simp (decide := true) (disch := omega) only [en_236, bk_236_0, bk_236_116, bk_236_135, bk_236_150, bk_236_166, bk_236_199, bk_236_200, bk_236_204, bk_236_233, bk_236_234, bk_236_238, bk_236_262, bk_236_264, bk_236_269, bk_236_287, bk_236_315, bk_236_336, bk_236_337, bk_236_371, bk_236_394, bk_236_395, bk_236_396, bk_236_402, bk_236_417, bk_236_418, bq_236_0, bq_236_6, bq_236_116, bq_236_135, bq_236_150, bq_236_166, bq_236_199, bq_236_200, bq_236_204, bq_236_233, bq_236_234, bq_236_238, bq_236_262, bq_236_264, bq_236_269, bq_236_287, bq_236_315, bq_236_336, bq_236_337, bq_236_371, bq_236_394, bq_236_395, bq_236_396, bq_236_402, bq_236_417, bq_236_418, rn_iconst, rn_bipush, rn_sipush, rn_ldc_w, rn_ldc, rn_ldcS, rn_lconst, rn_ldc2, rn_gets, rn_iload0, rn_lload0, rn_aload0, rn_istore0, rn_astore0, rn_lstore0, rn_iinc0, rn_iload1, rn_lload1, rn_aload1, rn_istore1, rn_astore1, rn_lstore1, rn_iinc1, rn_iload2, rn_lload2, rn_aload2, rn_istore2, rn_astore2, rn_lstore2, rn_iinc2, rn_iload3, rn_lload3, rn_aload3, rn_istore3, rn_astore3, rn_lstore3, rn_iinc3, rn_iload4, rn_lload4, rn_aload4, rn_istore4, rn_astore4, rn_lstore4, rn_iinc4, rn_iload5, rn_lload5, rn_aload5, rn_istore5, rn_astore5, rn_lstore5, rn_iinc5, rn_iload6, rn_lload6, rn_aload6, rn_istore6, rn_astore6, rn_lstore6, rn_iinc6, rn_iload7, rn_aload7, rn_istore7, rn_astore7, rn_iinc7, rn_iload8, rn_aload8, rn_istore8, rn_astore8, rn_iinc8, rn_iload9, rn_aload9, rn_istore9, rn_astore9, rn_iinc9, rn_iadd, rn_isub, rn_imul, rn_iand, rn_ior, rn_ixor, rn_ishl, rn_ishr, rn_iushr, rn_idiv, rn_irem, rn_ineg, rn_ladd, rn_lsub, rn_lmul, rn_lor, rn_ldiv, rn_lrem, rn_lneg, rn_lshl, rn_lshr, rn_i2l, rn_l2i, rn_i2c, rn_lcmp, rn_dupi, rn_dupa, rn_popi, rn_popa, rn_dup2, rn_aast, rn_alen, rn_geta, rn_aald, rn_puta, rn_new, rn_newa, rn_anew, rn_min, rn_max, rn_slen, rn_chat, rn_indx, rn_objI, rn_nop, rn_goto, rn_ifeq, rn_ifne, rn_iflt, rn_ifge, rn_ifgt, rn_ifle, rn_iceq, rn_icne, rn_iclt, rn_icge, rn_icgt, rn_icle, rn_tsw, rn_lsw, rn_iret, rn_zret, rn_lret, rn_aret, rn_vret, rn_cs0, rn_cs1, rn_cs2, rn_cs3, rn_cs4, rn_cs5, rn_cs6, rn_cs7, rn_cv1, rn_ci1, rn_cv2, rn_ci2, rn_cv3, rn_ci3, rn_cv4, rn_cv5, rn_cv6, rn_cv7, cs_n, cs_i, cs_a, cs_l, rc_i, rc_a, rc_l, rc_n, rw_iald, rw_bald, rw_lald, rw_iast, rw_bast, rw_last, rw_geti, rw_getl, rw_puti, rw_putz, rw_putl, iI_add, iI_sub, iI_mul, iI_neg, iI_lt, iI_le, iI_eq, iI_lt0, iI_le0, iI_0lt, iI_0le, iI_eq0, iI_eq1, iI_div, iI_rem, am_in_ok, am_in_no, iI_toInt, iL_add, iL_sub, iL_mul, iL_neg, iL_div, iL_rem, iI_i2l, iL_l2i, iL_cmp, iL_eq0, iI_or, iI_and, iI_shl, if_true, if_false, true_or, or_true, true_and, and_true, false_or, or_false, not_true_eq_false, not_false_eq_true, Option.bind_some, Option.toList_some, Option.toList_none, List.nil_append, List.cons_append, ite_self, nc_0, nc_1, nc_2, nc_3, nc_4, nc_5, nc_6, nc_7, nc_8, nc_9, nc_10, nc_11, nc_12, nc_13, nc_14, nc_15, nc_16, nc_17, nc_18, nc_19, nc_20, nc_21, nc_22, nc_23, nc_24, nc_25, nc_26, nc_27, nc_28, nc_29, nc_30, nc_31, nc_32, nc_33, nc_34, nc_35, nc_36, nc_40, nc_48, nc_100, nc_256, nc_300, nc_304, sh_359, rf_359_0, rf_359_1, rf_359_2, sh_360, sh_361, Int.le_refl, Int.reduceAdd, v2, if_pos, if_neg, sh_0, sh_393, rw_copy, am_cp_ok]
theorem CGst.gN (G : CGst w N gv fl cd) : w 8 0 = N := G.1.2.2
set_option maxHeartbeats 1000000 in
theorem c_nameLayer (ht : t = 2 ∨ t = 341) (O : AOk A N) (C : CRep w t A) (h0 : 0 ≤ s) (h1 : s < 8) (i0 : 0 ≤ i) (i1 : i < A.h s) :
    am_call (d + 1) 235 [.ref 359, .ref t, .int (iI s), .int (iI i)] (L, T, S0 n, am_w w, v, R0 o) = some (none, (L, T, S0 n, am_w (upI (upI (upI (upI (upI w 360 7 A.din) 360 19 s) 360 20 (A.m s i)) 360 21 (A.g s i)) 360 22 i), v, R0 o)) := by
  have hT := lay_tab (n := n) (o := o) (a := t) (by omega)
  have t1 := hT.1
  have hh := O.h s h0 h1
  have ch := C.h s h0 h1
  have cd := C.d
  have cv := C.view h0 h1 i0 i1
  have c1 := c_mouthAt (d := d) (L := L) (T := T) (v := v) (w := upI (upI w 360 7 A.din) 360 19 s) (s := s) (i := i) hT h0 h1 (by simp (disch := omega) only [upI_1]; omega) (by simp (disch := omega) only [upI_1]; omega) (by omega) (by omega)
  have c2 := c_strongAt (d := d) (L := L) (T := T) (v := v) (w := upI (upI (upI w 360 7 A.din) 360 19 s) 360 20 (A.m s i)) (s := s) (i := i) hT h0 h1 (by simp (disch := omega) only [upI_1]; omega) (by simp (disch := omega) only [upI_1]; omega) (by omega) (by omega)
  have e2 : tS (upI (upI (upI w 360 7 A.din) 360 19 s) 360 20 (A.m s i)) t s i = A.g s i := by rw [← cv.2]; unfold tS; simp (disch := omega) only [upI_1]
  rw [e2] at c2
  simp (disch := omega) only [tM_up, cv.1] at c1
  simp (decide := true) (disch := omega) only [en_235, bk_235_0, bq_235_0, rn_iconst, rn_bipush, rn_sipush, rn_ldc_w, rn_ldc, rn_ldcS, rn_lconst, rn_ldc2, rn_gets, rn_iload0, rn_lload0, rn_aload0, rn_istore0, rn_astore0, rn_lstore0, rn_iinc0, rn_iload1, rn_lload1, rn_aload1, rn_istore1, rn_astore1, rn_lstore1, rn_iinc1, rn_iload2, rn_lload2, rn_aload2, rn_istore2, rn_astore2, rn_lstore2, rn_iinc2, rn_iload3, rn_lload3, rn_aload3, rn_istore3, rn_astore3, rn_lstore3, rn_iinc3, rn_iload4, rn_lload4, rn_aload4, rn_istore4, rn_astore4, rn_lstore4, rn_iinc4, rn_iload5, rn_lload5, rn_aload5, rn_istore5, rn_astore5, rn_lstore5, rn_iinc5, rn_iload6, rn_lload6, rn_aload6, rn_istore6, rn_astore6, rn_lstore6, rn_iinc6, rn_iload7, rn_aload7, rn_istore7, rn_astore7, rn_iinc7, rn_iload8, rn_aload8, rn_istore8, rn_astore8, rn_iinc8, rn_iload9, rn_aload9, rn_istore9, rn_astore9, rn_iinc9, rn_iadd, rn_isub, rn_imul, rn_iand, rn_ior, rn_ixor, rn_ishl, rn_ishr, rn_iushr, rn_idiv, rn_irem, rn_ineg, rn_ladd, rn_lsub, rn_lmul, rn_lor, rn_ldiv, rn_lrem, rn_lneg, rn_lshl, rn_lshr, rn_i2l, rn_l2i, rn_i2c, rn_lcmp, rn_dupi, rn_dupa, rn_popi, rn_popa, rn_dup2, rn_aast, rn_alen, rn_geta, rn_aald, rn_puta, rn_new, rn_newa, rn_anew, rn_min, rn_max, rn_slen, rn_chat, rn_indx, rn_objI, rn_nop, rn_goto, rn_ifeq, rn_ifne, rn_iflt, rn_ifge, rn_ifgt, rn_ifle, rn_iceq, rn_icne, rn_iclt, rn_icge, rn_icgt, rn_icle, rn_tsw, rn_lsw, rn_iret, rn_zret, rn_lret, rn_aret, rn_vret, rn_cs0, rn_cs1, rn_cs2, rn_cs3, rn_cs4, rn_cs5, rn_cs6, rn_cs7, rn_cv1, rn_ci1, rn_cv2, rn_ci2, rn_cv3, rn_ci3, rn_cv4, rn_cv5, rn_cv6, rn_cv7, cs_n, cs_i, cs_a, cs_l, rc_i, rc_a, rc_l, rc_n, rw_iald, rw_bald, rw_lald, rw_iast, rw_bast, rw_last, rw_geti, rw_getl, rw_puti, rw_putz, rw_putl, iI_add, iI_sub, iI_mul, iI_neg, iI_lt, iI_le, iI_eq, iI_lt0, iI_le0, iI_0lt, iI_0le, iI_eq0, iI_eq1, iI_div, iI_rem, am_in_ok, am_in_no, iI_toInt, iL_add, iL_sub, iL_mul, iL_neg, iL_div, iL_rem, iI_i2l, iL_l2i, iL_cmp, iL_eq0, iI_or, iI_and, iI_shl, if_true, if_false, true_or, or_true, true_and, and_true, false_or, or_false, not_true_eq_false, not_false_eq_true, Option.bind_some, Option.toList_some, Option.toList_none, List.nil_append, List.cons_append, ite_self, nc_0, nc_1, nc_2, nc_3, nc_4, nc_5, nc_6, nc_7, nc_8, nc_9, nc_10, nc_11, nc_12, nc_13, nc_14, nc_15, nc_16, nc_17, nc_18, nc_19, nc_20, nc_21, nc_22, nc_23, nc_24, nc_25, nc_26, nc_27, nc_28, nc_29, nc_30, nc_31, nc_32, nc_33, nc_34, nc_35, nc_36, nc_40, nc_48, nc_100, nc_256, nc_300, nc_304, sh_359, rf_359_0, rf_359_1, rf_359_2, sh_360, sh_361, t1, cd, c1, c2, mx_163, mx_164, if_pos, if_neg, sh_0, sh_393, rw_copy, am_cp_ok]
theorem c_env {z e f : Int} (ht : t = 2 ∨ t = 341) (O : AOk A N) (hN : N ≤ 6) (C : CRep w t A) (G : CGst w N gv fl cd) {w2 : Nat → Int → Int} (hw : ∀ b, b ≠ 360 → w2 b = w b) (hn : ∀ k, allow z k → w2 360 (cnm k) = (envL A gv s i e f).1 k) : CEnv z w2 t (envL A gv s i e f) := by
  have C2 : CRep w2 t A := C.keep (fun b q1 q2 => hw b (by omega))
  have gn := G.gN
  refine ⟨hn, ⟨by rw [hw 8 (by decide), gn]; exact G.1.1, by rw [hw 8 (by decide), gn]; exact G.1.2.1, fun x => ?_⟩, fun q q0 q1 => ?_, fun x => ?_⟩
  · rw [hw 8 (by decide), hw 9 (by decide), gn]; exact G.2.1 x
  · rw [C2.h q q0 q1]; exact O.h q q0 q1
  · show (if 0 ≤ x ∧ x < 8 then A.top x + 1 else 0) = _
    by_cases c : 0 ≤ x ∧ x < 8
    · rw [if_pos c, if_pos c, C2.top c.1 c.2]
    · rw [if_neg c, if_neg c]
set_option maxHeartbeats 1000000 in
theorem c_fadesOf (ha : ScrC a) (ht : t = 2 ∨ t = 341) (O : AOk A N) (hN : N ≤ 6) (C : CRep w t A) (G : CGst w N gv fl cd) (K : CLaw w a VF VT) (h0 : 0 ≤ s) (h1 : s < 8) (i0 : 0 ≤ i) (i1 : i < A.h s) :
    ∃ w2, am_call (d + 3) 165 [.ref 359, .ref a, .ref t, .int (iI s), .int (iI i)] (L, T, S0 n, am_w w, v, R0 o) = some (some (.int (iI (fadeV VF A gv s i))), (L, T, S0 n, am_w w2, v, R0 o)) ∧ ∀ b, b ≠ 360 → b ≠ 361 → w2 b = w b := by
  obtain ⟨s1, s2, s3, s4, s5, s6, s7, s8, s9⟩ := lay_scr (n := n) (o := o) ha
  have hT := lay_tab (n := n) (o := o) (a := t) (by omega)
  obtain ⟨t1, t2, t3, t4, t5, t6, t7, t8, t9⟩ := hT
  obtain ⟨⟨k1, k2, k3, k4, k5, k6, k7, k8, k9, k10⟩, kF, kT⟩ := K
  have hh := O.h s h0 h1
  have ch := C.h s h0 h1
  have na := ha.ne
  have na2 : a ≠ 360 ∧ a + 1 ≠ 360 := by rcases ha with rfl | rfl | rfl | rfl | rfl <;> decide
  cases VF with
  | none =>
    dsimp only at kF
    refine ⟨w, ?_, fun _ _ _ => rfl⟩
    rw [show fadeV none A gv s i = 1 from rfl]
    simp (decide := true) (disch := omega) only [en_165, bk_165_0, bk_165_9, bq_165_0, bq_165_9, en_234, bk_234_0, bk_234_15, bk_234_16, bq_234_0, bq_234_15, bq_234_16, rn_iconst, rn_bipush, rn_sipush, rn_ldc_w, rn_ldc, rn_ldcS, rn_lconst, rn_ldc2, rn_gets, rn_iload0, rn_lload0, rn_aload0, rn_istore0, rn_astore0, rn_lstore0, rn_iinc0, rn_iload1, rn_lload1, rn_aload1, rn_istore1, rn_astore1, rn_lstore1, rn_iinc1, rn_iload2, rn_lload2, rn_aload2, rn_istore2, rn_astore2, rn_lstore2, rn_iinc2, rn_iload3, rn_lload3, rn_aload3, rn_istore3, rn_astore3, rn_lstore3, rn_iinc3, rn_iload4, rn_lload4, rn_aload4, rn_istore4, rn_astore4, rn_lstore4, rn_iinc4, rn_iload5, rn_lload5, rn_aload5, rn_istore5, rn_astore5, rn_lstore5, rn_iinc5, rn_iload6, rn_lload6, rn_aload6, rn_istore6, rn_astore6, rn_lstore6, rn_iinc6, rn_iload7, rn_aload7, rn_istore7, rn_astore7, rn_iinc7, rn_iload8, rn_aload8, rn_istore8, rn_astore8, rn_iinc8, rn_iload9, rn_aload9, rn_istore9, rn_astore9, rn_iinc9, rn_iadd, rn_isub, rn_imul, rn_iand, rn_ior, rn_ixor, rn_ishl, rn_ishr, rn_iushr, rn_idiv, rn_irem, rn_ineg, rn_ladd, rn_lsub, rn_lmul, rn_lor, rn_ldiv, rn_lrem, rn_lneg, rn_lshl, rn_lshr, rn_i2l, rn_l2i, rn_i2c, rn_lcmp, rn_dupi, rn_dupa, rn_popi, rn_popa, rn_dup2, rn_aast, rn_alen, rn_geta, rn_aald, rn_puta, rn_new, rn_newa, rn_anew, rn_min, rn_max, rn_slen, rn_chat, rn_indx, rn_objI, rn_nop, rn_goto, rn_ifeq, rn_ifne, rn_iflt, rn_ifge, rn_ifgt, rn_ifle, rn_iceq, rn_icne, rn_iclt, rn_icge, rn_icgt, rn_icle, rn_tsw, rn_lsw, rn_iret, rn_zret, rn_lret, rn_aret, rn_vret, rn_cs0, rn_cs1, rn_cs2, rn_cs3, rn_cs4, rn_cs5, rn_cs6, rn_cs7, rn_cv1, rn_ci1, rn_cv2, rn_ci2, rn_cv3, rn_ci3, rn_cv4, rn_cv5, rn_cv6, rn_cv7, cs_n, cs_i, cs_a, cs_l, rc_i, rc_a, rc_l, rc_n, rw_iald, rw_bald, rw_lald, rw_iast, rw_bast, rw_last, rw_geti, rw_getl, rw_puti, rw_putz, rw_putl, iI_add, iI_sub, iI_mul, iI_neg, iI_lt, iI_le, iI_eq, iI_lt0, iI_le0, iI_0lt, iI_0le, iI_eq0, iI_eq1, iI_div, iI_rem, am_in_ok, am_in_no, iI_toInt, iL_add, iL_sub, iL_mul, iL_neg, iL_div, iL_rem, iI_i2l, iL_l2i, iL_cmp, iL_eq0, iI_or, iI_and, iI_shl, if_true, if_false, true_or, or_true, true_and, and_true, false_or, or_false, not_true_eq_false, not_false_eq_true, Option.bind_some, Option.toList_some, Option.toList_none, List.nil_append, List.cons_append, ite_self, nc_0, nc_1, nc_2, nc_3, nc_4, nc_5, nc_6, nc_7, nc_8, nc_9, nc_10, nc_11, nc_12, nc_13, nc_14, nc_15, nc_16, nc_17, nc_18, nc_19, nc_20, nc_21, nc_22, nc_23, nc_24, nc_25, nc_26, nc_27, nc_28, nc_29, nc_30, nc_31, nc_32, nc_33, nc_34, nc_35, nc_36, nc_40, nc_48, nc_100, nc_256, nc_300, nc_304, s1, mx_234, if_pos, if_neg, sh_0, sh_393, rw_copy, am_cp_ok]
  | some V =>
    dsimp only at kF
    have lt := kF.1.2.1
    have eV : fadeV (some V) A gv s i = clmp 0 9 (V (envL A gv s i 0 0)) := rfl
    have hE := envL_ok (s := s) (i := i) (e := 0) (f := 0) O hN G h0 h1 i0 i1 (by decide) (by decide) (by decide) (by decide)
    have hV := kF.1.2.2 _ hE
    have nl := c_nameLayer (d := d + 1) (L := L) (T := T) (o := o) (n := n) (v := v) ht O C h0 h1 i0 i1
    have hu : ∀ b, b ≠ 360 → upI (upI (upI (upI (upI (upI w 360 7 A.din) 360 19 s) 360 20 (A.m s i)) 360 21 (A.g s i)) 360 22 i) 360 23 (A.h s) b = w b := fun b hb => by simp (disch := omega) only [upI_c]
    have eh : upI (upI (upI (upI (upI w 360 7 A.din) 360 19 s) 360 20 (A.m s i)) 360 21 (A.g s i)) 360 22 i (t + 3) s = A.h s := by simp (disch := omega) only [upI_1]; exact ch
    have hC : CEnv 0 (upI (upI (upI (upI (upI (upI w 360 7 A.din) 360 19 s) 360 20 (A.m s i)) 360 21 (A.g s i)) 360 22 i) 360 23 (A.h s)) t (envL A gv s i 0 0) := by
      refine c_env ht O hN C G hu (fun k hk => ?_)
      rcases hk with rfl | rfl | rfl | rfl | rfl | ⟨_, rfl⟩ | ⟨h, _⟩
      · show upI _ _ _ _ _ 7 = A.din; simp (disch := omega) only [upI_2, upI_s]
      · show upI _ _ _ _ _ 19 = s; simp (disch := omega) only [upI_2, upI_s]
      · show upI _ _ _ _ _ 20 = A.m s i; simp (disch := omega) only [upI_2, upI_s]
      · show upI _ _ _ _ _ 21 = A.g s i; simp (disch := omega) only [upI_2, upI_s]
      · show upI _ _ _ _ _ 22 = i; simp (disch := omega) only [upI_2, upI_s]
      · show upI _ _ _ _ _ 23 = A.h s; simp (disch := omega) only [upI_2, upI_s]
      · omega
    have ea : upI (upI (upI (upI (upI (upI w 360 7 A.din) 360 19 s) 360 20 (A.m s i)) 360 21 (A.g s i)) 360 22 i) 360 23 (A.h s) a = w a := hu a na2.1
    have eb : upI (upI (upI (upI (upI (upI w 360 7 A.din) 360 19 s) 360 20 (A.m s i)) 360 21 (A.g s i)) 360 22 i) 360 23 (A.h s) (a + 1) = w (a + 1) := hu (a + 1) na2.2
    obtain ⟨w2, q2, b2⟩ := c_run (d := d) (L := L) (T := T) (o := o) (n := n) (v := v) (fr := w a 2) (to := w a 3) ha ht hE hC (by rw [eb]; exact kF) (by rw [ea]; exact k6) (by rw [ea]; exact k2)
    refine ⟨w2, ?_, fun b n1 n2 => (b2 b n2).trans (hu b n1)⟩
    rw [eV]
    have mm := iI_mm (lo := 0) (hi := 9) (z := V (envL A gv s i 0 0)) (by decide) (by decide) (by decide) (by omega) (by omega)
    simp (decide := true) (disch := omega) only [en_165, bk_165_0, bk_165_9, bq_165_0, bq_165_9, en_234, bk_234_0, bk_234_15, bk_234_16, bq_234_0, bq_234_15, bq_234_16, rn_iconst, rn_bipush, rn_sipush, rn_ldc_w, rn_ldc, rn_ldcS, rn_lconst, rn_ldc2, rn_gets, rn_iload0, rn_lload0, rn_aload0, rn_istore0, rn_astore0, rn_lstore0, rn_iinc0, rn_iload1, rn_lload1, rn_aload1, rn_istore1, rn_astore1, rn_lstore1, rn_iinc1, rn_iload2, rn_lload2, rn_aload2, rn_istore2, rn_astore2, rn_lstore2, rn_iinc2, rn_iload3, rn_lload3, rn_aload3, rn_istore3, rn_astore3, rn_lstore3, rn_iinc3, rn_iload4, rn_lload4, rn_aload4, rn_istore4, rn_astore4, rn_lstore4, rn_iinc4, rn_iload5, rn_lload5, rn_aload5, rn_istore5, rn_astore5, rn_lstore5, rn_iinc5, rn_iload6, rn_lload6, rn_aload6, rn_istore6, rn_astore6, rn_lstore6, rn_iinc6, rn_iload7, rn_aload7, rn_istore7, rn_astore7, rn_iinc7, rn_iload8, rn_aload8, rn_istore8, rn_astore8, rn_iinc8, rn_iload9, rn_aload9, rn_istore9, rn_astore9, rn_iinc9, rn_iadd, rn_isub, rn_imul, rn_iand, rn_ior, rn_ixor, rn_ishl, rn_ishr, rn_iushr, rn_idiv, rn_irem, rn_ineg, rn_ladd, rn_lsub, rn_lmul, rn_lor, rn_ldiv, rn_lrem, rn_lneg, rn_lshl, rn_lshr, rn_i2l, rn_l2i, rn_i2c, rn_lcmp, rn_dupi, rn_dupa, rn_popi, rn_popa, rn_dup2, rn_aast, rn_alen, rn_geta, rn_aald, rn_puta, rn_new, rn_newa, rn_anew, rn_min, rn_max, rn_slen, rn_chat, rn_indx, rn_objI, rn_nop, rn_goto, rn_ifeq, rn_ifne, rn_iflt, rn_ifge, rn_ifgt, rn_ifle, rn_iceq, rn_icne, rn_iclt, rn_icge, rn_icgt, rn_icle, rn_tsw, rn_lsw, rn_iret, rn_zret, rn_lret, rn_aret, rn_vret, rn_cs0, rn_cs1, rn_cs2, rn_cs3, rn_cs4, rn_cs5, rn_cs6, rn_cs7, rn_cv1, rn_ci1, rn_cv2, rn_ci2, rn_cv3, rn_ci3, rn_cv4, rn_cv5, rn_cv6, rn_cv7, cs_n, cs_i, cs_a, cs_l, rc_i, rc_a, rc_l, rc_n, rw_iald, rw_bald, rw_lald, rw_iast, rw_bast, rw_last, rw_geti, rw_getl, rw_puti, rw_putz, rw_putl, iI_add, iI_sub, iI_mul, iI_neg, iI_lt, iI_le, iI_eq, iI_lt0, iI_le0, iI_0lt, iI_0le, iI_eq0, iI_eq1, iI_div, iI_rem, am_in_ok, am_in_no, iI_toInt, iL_add, iL_sub, iL_mul, iL_neg, iL_div, iL_rem, iI_i2l, iL_l2i, iL_cmp, iL_eq0, iI_or, iI_and, iI_shl, if_true, if_false, true_or, or_true, true_and, and_true, false_or, or_false, not_true_eq_false, not_false_eq_true, Option.bind_some, Option.toList_some, Option.toList_none, List.nil_append, List.cons_append, ite_self, nc_0, nc_1, nc_2, nc_3, nc_4, nc_5, nc_6, nc_7, nc_8, nc_9, nc_10, nc_11, nc_12, nc_13, nc_14, nc_15, nc_16, nc_17, nc_18, nc_19, nc_20, nc_21, nc_22, nc_23, nc_24, nc_25, nc_26, nc_27, nc_28, nc_29, nc_30, nc_31, nc_32, nc_33, nc_34, nc_35, nc_36, nc_40, nc_48, nc_100, nc_256, nc_300, nc_304, sh_359, rf_359_0, rf_359_1, rf_359_2, sh_360, sh_361, s1, t1, t4, t8, nl, eh, ea, q2, mm, mx_234, mx_235, mx_236, if_pos, if_neg, sh_0, sh_393, rw_copy, am_cp_ok]
end US
