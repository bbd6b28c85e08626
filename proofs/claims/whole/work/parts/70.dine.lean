theorem loop_p {α J : Type} (P : Nat → J → Prop) (f : Nat → J → α) (n : Nat) (h : ∀ k, k < n → ∀ j, P k j → ∃ j', P (k + 1) j' ∧ f k j = f (k + 1) j') (j : J) (hj : P 0 j) : ∃ j', P n j' ∧ f 0 j = f n j' := by
  induction n with
  | zero => exact ⟨j, hj, rfl⟩
  | succ n ih =>
    obtain ⟨j1, p1, e1⟩ := ih (fun k hk => h k (by omega))
    obtain ⟨j2, p2, e2⟩ := h n (by omega) j1 p1
    exact ⟨j2, p2, e1.trans e2⟩
def fLeft (VF : Option (LEnv → Int)) (gv : Int → Int) (s : Int) (p : AT × Int) : Int := p.1.g s p.2 - fadeV VF p.1 gv s p.2
def fStep (VF : Option (LEnv → Int)) (gv : Int → Int) (s : Int) (p : AT × Int) : AT × Int := if 0 < fLeft VF gv s p then (p.1.str s p.2 (fLeft VF gv s p), p.2 + 1) else (p.1.take s p.2, p.2)
def fIter (VF : Option (LEnv → Int)) (gv : Int → Int) (s : Int) (A : AT) : Nat → AT × Int
  | 0 => (A, 0)
  | k + 1 => fStep VF gv s (fIter VF gv s A k)
def wStep (i wt : Int) : Int := if i = wt then -1 else if i < wt then wt - 1 else wt
def wIter (VF : Option (LEnv → Int)) (gv : Int → Int) (s : Int) (A : AT) (wt : Int) : Nat → Int
  | 0 => wt
  | k + 1 => if 0 < fLeft VF gv s (fIter VF gv s A k) then wIter VF gv s A wt k else wStep (fIter VF gv s A k).2 (wIter VF gv s A wt k)
def AT.fade (A : AT) (VF : Option (LEnv → Int)) (gv : Int → Int) (s : Int) : AT := (fIter VF gv s A (A.h s).toNat).1
def AT.fadeW (A : AT) (VF : Option (LEnv → Int)) (gv : Int → Int) (s wt : Int) : Int := wIter VF gv s A wt (A.h s).toNat
section FI
variable {VF : Option (LEnv → Int)} {gv : Int → Int} {s N : Int} {A : AT}
theorem fI_ok (O : AOk A N) (h0 : 0 ≤ s) (h1 : s < 8) : ∀ k : Nat, (k : Int) ≤ A.h s → AOk (fIter VF gv s A k).1 N ∧ 0 ≤ (fIter VF gv s A k).2 ∧ (fIter VF gv s A k).1.h s - (fIter VF gv s A k).2 = A.h s - k ∧ (fIter VF gv s A k).1.din = A.din
  | 0, _ => ⟨O, Int.le_refl 0, by show A.h s - 0 = A.h s - 0; rfl, rfl⟩
  | k + 1, hk => by
    obtain ⟨a1, a2, a3, a4⟩ := fI_ok O h0 h1 k (by omega)
    have al := a1.l s (fIter VF gv s A k).2 h0 h1 a2 (by omega)
    have fb := fadeV_bd (VF := VF) (A := (fIter VF gv s A k).1) (gv := gv) (s := s) (i := (fIter VF gv s A k).2)
    rw [fIter, fStep]
    by_cases c : 0 < fLeft VF gv s (fIter VF gv s A k)
    · rw [if_pos c]
      refine ⟨a1.str (by omega) (by unfold fLeft; omega), by show 0 ≤ (fIter VF gv s A k).2 + 1; omega, ?_, a4⟩
      show (fIter VF gv s A k).1.h s - ((fIter VF gv s A k).2 + 1) = _
      omega
    · rw [if_neg c]
      refine ⟨a1.take h0 h1 a2 (by omega), a2, ?_, a4⟩
      show (if s = s then (fIter VF gv s A k).1.h s - 1 else (fIter VF gv s A k).1.h s) - (fIter VF gv s A k).2 = _
      rw [if_pos rfl]
      omega
theorem wI_ok (O : AOk A N) (h0 : 0 ≤ s) (h1 : s < 8) {wt : Int} (w0 : -1 ≤ wt) (w1 : wt < A.h s) : ∀ k : Nat, (k : Int) ≤ A.h s → -1 ≤ wIter VF gv s A wt k ∧ wIter VF gv s A wt k < (fIter VF gv s A k).1.h s
  | 0, _ => ⟨w0, w1⟩
  | k + 1, hk => by
    have ih := wI_ok O h0 h1 w0 w1 k (by omega)
    obtain ⟨a1, a2, a3, a4⟩ := fI_ok (VF := VF) (gv := gv) O h0 h1 k (by omega)
    rw [fIter, fStep, wIter]
    by_cases c : 0 < fLeft VF gv s (fIter VF gv s A k)
    · rw [if_pos c, if_pos c]
      exact ih
    · rw [if_neg c, if_neg c]
      show _ ∧ _ < (if s = s then (fIter VF gv s A k).1.h s - 1 else (fIter VF gv s A k).1.h s)
      rw [if_pos rfl]
      unfold wStep
      split
      · omega
      · split <;> omega
theorem wI_bd (O : AOk A N) (h0 : 0 ≤ s) (h1 : s < 8) {wt : Int} (w0 : -1 ≤ wt) (w1 : wt ≤ 100) : ∀ k : Nat, (k : Int) ≤ A.h s → -1 ≤ wIter VF gv s A wt k ∧ wIter VF gv s A wt k ≤ 100
  | 0, _ => ⟨w0, w1⟩
  | k + 1, hk => by
    have ih := wI_bd O h0 h1 w0 w1 k (by omega)
    obtain ⟨a1, a2, a3, a4⟩ := fI_ok (VF := VF) (gv := gv) O h0 h1 k (by omega)
    rw [wIter]
    split
    · exact ih
    · unfold wStep
      split
      · omega
      · split <;> omega
theorem AOk.fade (O : AOk A N) (h0 : 0 ≤ s) (h1 : s < 8) : AOk (A.fade VF gv s) N ∧ (A.fade VF gv s).din = A.din := by
  have hh := O.h s h0 h1
  obtain ⟨a1, a2, a3, a4⟩ := fI_ok (VF := VF) (gv := gv) O h0 h1 (A.h s).toNat (by omega)
  exact ⟨a1, a4⟩
end FI
def ckp (wt h : Int) : Int := if wt = -1 then -1 else h - 1 - wt
section DN
variable {d L T o n a t : Nat} {w : Nat → Int → Int} {v : Nat → Nat → Int64} {A : AT} {N : Int} {gv fl cd : Int → Int} {VF VT : Option (LEnv → Int)} {s e wt : Int}
theorem ScrC.far {a t : Nat} (ha : ScrC a) (ht : t = 2 ∨ t = 341) : (a < t ∨ t + 4 < a) ∧ (a + 1 < t ∨ t + 4 < a + 1) ∧ a ≠ 360 ∧ a + 1 ≠ 360 ∧ a ≠ 361 ∧ a + 1 ≠ 361 := by
  rcases ha with rfl | rfl | rfl | rfl | rfl <;> omega
theorem CGst.fr {w2 : Nat → Int → Int} (G : CGst w N gv fl cd) (ht : t = 2 ∨ t = 341) (F : FrT t w w2) : CGst w2 N gv fl cd :=
  G.keep (F 8 (by omega) (by decide) (by decide)) (F 9 (by omega) (by decide) (by decide)) (F 10 (by omega) (by decide) (by decide)) (F 11 (by omega) (by decide) (by decide))
theorem CLaw.fr {w2 : Nat → Int → Int} (K : CLaw w a VF VT) (ha : ScrC a) (ht : t = 2 ∨ t = 341) (F : FrT t w w2) : CLaw w2 a VF VT := by
  obtain ⟨f1, f2, f3, f4, f5, f6⟩ := ha.far ht
  exact K.keep (F a f1 f3 f5) (F (a + 1) f2 f4 f6)
set_option maxHeartbeats 2000000 in
theorem c_fadeSpoon (ha : ScrC a) (ht : t = 2 ∨ t = 341) (O : AOk A N) (hN : N ≤ 6) (C : CRep w t A) (G : CGst w N gv fl cd) (K : CLaw w a VF VT) (h0 : 0 ≤ s) (h1 : s < 8) (w0 : -1 ≤ wt) (w1 : wt < A.h s ∨ wt = -1) :
    ∃ w2, am_call (d + 4) 239 [.ref 358, .ref a, .ref t, .int (iI s), .int (iI (ckp wt (A.h s)))] (L, T, S0 n, am_w w, v, R0 o) = some (some (.int (iI (ckp (A.fadeW VF gv s wt) ((A.fade VF gv s).h s)))), (L, T, S0 n, am_w w2, v, R0 o)) ∧ CRep w2 t (A.fade VF gv s) ∧ FrT t w w2 := by
  have hT := lay_tab (n := n) (o := o) (a := t) (by omega)
  obtain ⟨t1, t2, t3, t4, t5, t6, t7, t8, t9⟩ := hT
  have hh := O.h s h0 h1
  have ch0 := C.h s h0 h1
  obtain ⟨H, hH⟩ := Int.eq_ofNat_of_zero_le hh.1
  have w2 : wt < A.h s := by omega
  obtain ⟨⟨jf, wf⟩, ⟨Cf, Ff⟩, ef⟩ := loop_p (fun (k : Nat) (p : (Option Value × Option Value) × (Nat → Int → Int)) => CRep p.2 t (fIter VF gv s A k).1 ∧ FrT t w p.2) (fun (k : Nat) (p : (Option Value × Option Value) × (Nat → Int → Int)) => am_run (d + 4) 239 (am_B 239 15) [some (.ref 358), some (.ref a), some (.ref t), some (.int (iI s)), some (.int (iI (ckp wt (A.h s)))), some (.int (iI (ckp (wIter VF gv s A wt k) ((fIter VF gv s A k).1.h s)))), some (.int (iI (fIter VF gv s A k).2)), some (.int (iI ((H : Int) - (k : Int)))), p.1.1, p.1.2] [] (L, T, S0 n, am_w p.2, v, R0 o)) H (by
    rintro k hk ⟨jj, wk⟩ ⟨Ck, Fk⟩
    dsimp only at Ck Fk ⊢
    obtain ⟨a1, a2, a3, a4⟩ := fI_ok (VF := VF) (gv := gv) O h0 h1 k (by omega)
    obtain ⟨b1, b2⟩ := wI_ok (VF := VF) (gv := gv) O h0 h1 w0 w2 k (by omega)
    have hhk := a1.h s h0 h1
    have al := a1.l s (fIter VF gv s A k).2 h0 h1 a2 (by omega)
    have ch := Ck.h s h0 h1
    have cv := Ck.view h0 h1 a2 (by omega)
    have fb := fadeV_bd (VF := VF) (A := (fIter VF gv s A k).1) (gv := gv) (s := s) (i := (fIter VF gv s A k).2)
    have eL : fLeft VF gv s (fIter VF gv s A k) = (fIter VF gv s A k).1.g s (fIter VF gv s A k).2 - fadeV VF (fIter VF gv s A k).1 gv s (fIter VF gv s A k).2 := rfl
    have cs := c_strongAt (d := d + 3) (L := L) (T := T) (v := v) (w := wk) (s := s) (i := (fIter VF gv s A k).2) (lay_tab (n := n) (o := o) (a := t) (by omega)) h0 h1 (by omega) (by omega) (by omega) (by omega)
    rw [cv.2] at cs
    obtain ⟨wf, qf, bf⟩ := c_fadesOf (d := d) (L := L) (T := T) (o := o) (n := n) (v := v) ha ht a1 hN Ck (G.fr ht Fk) (K.fr ha ht Fk) h0 h1 a2 (by omega)
    have Cf : CRep wf t (fIter VF gv s A k).1 := Ck.keep (fun b q1 q2 => bf b (by omega) (by omega))
    have Ff : FrT t wk wf := fun b q1 q2 q3 => bf b q2 q3
    have e1 : (H : Int) - ((k + 1 : Nat) : Int) = (H : Int) - (k : Int) + -1 := by omega
    generalize hi : (fIter VF gv s A k).2 = i at *
    generalize hB : (fIter VF gv s A k).1 = B at *
    generalize hl : fLeft VF gv s (fIter VF gv s A k) = l at *
    generalize hw : wIter VF gv s A wt k = wq at *
    by_cases c : 0 < l
    · have e2 : fIter VF gv s A (k + 1) = (B.str s i l, i + 1) := by rw [fIter, fStep, hl, if_pos c, hB, hi]
      have e3 : wIter VF gv s A wt (k + 1) = wq := by rw [wIter, hl, if_pos c, hw]
      obtain ⟨ws, qs, Cs, Fs⟩ := c_setStrong1 (d := d + 3) (L := L) (T := T) (v := v) (lay_tab (n := n) (o := o) (a := t) (by omega)) a1 Cf (s := s) (i := i) (z := l) h0 h1 a2 (by omega) (by omega) (by omega)
      have em : min99 l = l := by unfold min99; rw [if_neg (by omega)]
      rw [em] at Cs
      refine ⟨((some (.int (iI (B.h s - 1 - i))), some (.int (iI l))), ws), ⟨by rw [e2]; exact Cs, (Fk.trans Ff).trans Fs⟩, ?_⟩
      dsimp only
      rw [e1, e2, e3]
      dsimp only
      have e4 : (B.str s i l).h s = B.h s := rfl
      rw [e4]
      conv => lhs; rw [bk_239_15]
      simp (decide := true) (disch := omega) only [en_239, bk_239_0, bk_239_75, bk_239_88, bk_239_98, bk_239_104, bq_239_0, bq_239_15, bq_239_75, bq_239_88, bq_239_98, bq_239_104, rn_iconst, rn_bipush, rn_sipush, rn_ldc_w, rn_ldc, rn_ldcS, rn_lconst, rn_ldc2, rn_gets, rn_iload0, rn_lload0, rn_aload0, rn_istore0, rn_astore0, rn_lstore0, rn_iinc0, rn_iload1, rn_lload1, rn_aload1, rn_istore1, rn_astore1, rn_lstore1, rn_iinc1, rn_iload2, rn_lload2, rn_aload2, rn_istore2, rn_astore2, rn_lstore2, rn_iinc2, rn_iload3, rn_lload3, rn_aload3, rn_istore3, rn_astore3, rn_lstore3, rn_iinc3, rn_iload4, rn_lload4, rn_aload4, rn_istore4, rn_astore4, rn_lstore4, rn_iinc4, rn_iload5, rn_lload5, rn_aload5, rn_istore5, rn_astore5, rn_lstore5, rn_iinc5, rn_iload6, rn_lload6, rn_aload6, rn_istore6, rn_astore6, rn_lstore6, rn_iinc6, rn_iload7, rn_aload7, rn_istore7, rn_astore7, rn_iinc7, rn_iload8, rn_aload8, rn_istore8, rn_astore8, rn_iinc8, rn_iload9, rn_aload9, rn_istore9, rn_astore9, rn_iinc9, rn_iadd, rn_isub, rn_imul, rn_iand, rn_ior, rn_ixor, rn_ishl, rn_ishr, rn_iushr, rn_idiv, rn_irem, rn_ineg, rn_ladd, rn_lsub, rn_lmul, rn_lor, rn_ldiv, rn_lrem, rn_lneg, rn_lshl, rn_lshr, rn_i2l, rn_l2i, rn_i2c, rn_lcmp, rn_dupi, rn_dupa, rn_popi, rn_popa, rn_dup2, rn_aast, rn_alen, rn_geta, rn_aald, rn_puta, rn_new, rn_newa, rn_anew, rn_min, rn_max, rn_slen, rn_chat, rn_indx, rn_objI, rn_nop, rn_goto, rn_ifeq, rn_ifne, rn_iflt, rn_ifge, rn_ifgt, rn_ifle, rn_iceq, rn_icne, rn_iclt, rn_icge, rn_icgt, rn_icle, rn_tsw, rn_lsw, rn_iret, rn_zret, rn_lret, rn_aret, rn_vret, rn_cs0, rn_cs1, rn_cs2, rn_cs3, rn_cs4, rn_cs5, rn_cs6, rn_cs7, rn_cv1, rn_ci1, rn_cv2, rn_ci2, rn_cv3, rn_ci3, rn_cv4, rn_cv5, rn_cv6, rn_cv7, cs_n, cs_i, cs_a, cs_l, rc_i, rc_a, rc_l, rc_n, rw_iald, rw_bald, rw_lald, rw_iast, rw_bast, rw_last, rw_geti, rw_getl, rw_puti, rw_putz, rw_putl, iI_add, iI_sub, iI_mul, iI_neg, iI_lt, iI_le, iI_eq, iI_lt0, iI_le0, iI_0lt, iI_0le, iI_eq0, iI_eq1, iI_div, iI_rem, am_in_ok, am_in_no, iI_toInt, iL_add, iL_sub, iL_mul, iL_neg, iL_div, iL_rem, iI_i2l, iL_l2i, iL_cmp, iL_eq0, iI_or, iI_and, iI_shl, if_true, if_false, true_or, or_true, true_and, and_true, false_or, or_false, not_true_eq_false, not_false_eq_true, Option.bind_some, Option.toList_some, Option.toList_none, List.nil_append, List.cons_append, ite_self, nc_0, nc_1, nc_2, nc_3, nc_4, nc_5, nc_6, nc_7, nc_8, nc_9, nc_10, nc_11, nc_12, nc_13, nc_14, nc_15, nc_16, nc_17, nc_18, nc_19, nc_20, nc_21, nc_22, nc_23, nc_24, nc_25, nc_26, nc_27, nc_28, nc_29, nc_30, nc_31, nc_32, nc_33, nc_34, nc_35, nc_36, nc_40, nc_48, nc_100, nc_256, nc_300, nc_304, sh_358, rf_358_0, rf_358_1, sh_359, rf_359_0, rf_359_1, rf_359_2, t1, t4, t8, ch, cs, qf, ← eL, qs, mx_164, mx_165, mx_231, if_pos, if_neg, sh_0, sh_393, rw_copy, am_cp_ok]
    · have e2 : fIter VF gv s A (k + 1) = (B.take s i, i) := by rw [fIter, fStep, hl, if_neg c, hB, hi]
      have e3 : wIter VF gv s A wt (k + 1) = wStep i wq := by rw [wIter, hl, if_neg c, hw, hi]
      obtain ⟨ws, qs, Cs, Fs⟩ := c_setStrong0 (d := d + 2) (L := L) (T := T) (v := v) (lay_tab (n := n) (o := o) (a := t) (by omega)) a1 Cf (s := s) (i := i) (z := l) h0 h1 a2 (by omega) (by omega) (by omega)
      refine ⟨((some (.int (iI (B.h s - 1 - i))), some (.int (iI l))), ws), ⟨by rw [e2]; exact Cs, (Fk.trans Ff).trans Fs⟩, ?_⟩
      dsimp only
      rw [e1, e2, e3]
      dsimp only
      have e4 : (B.take s i).h s = B.h s - 1 := by show (if s = s then B.h s - 1 else B.h s) = _; rw [if_pos rfl]
      rw [e4]
      conv => lhs; rw [bk_239_15]
      by_cases z1 : i = wq
      · have e5 : ckp (wStep i wq) (B.h s - 1) = -1 := by unfold wStep ckp; rw [if_pos z1, if_pos rfl]
        have e6 : ckp wq (B.h s) = B.h s - 1 - i := by unfold ckp; rw [if_neg (by omega), z1]
        rw [e5, e6]
        simp (decide := true) (disch := omega) only [en_239, bk_239_0, bk_239_75, bk_239_88, bk_239_98, bk_239_104, bq_239_0, bq_239_15, bq_239_75, bq_239_88, bq_239_98, bq_239_104, rn_iconst, rn_bipush, rn_sipush, rn_ldc_w, rn_ldc, rn_ldcS, rn_lconst, rn_ldc2, rn_gets, rn_iload0, rn_lload0, rn_aload0, rn_istore0, rn_astore0, rn_lstore0, rn_iinc0, rn_iload1, rn_lload1, rn_aload1, rn_istore1, rn_astore1, rn_lstore1, rn_iinc1, rn_iload2, rn_lload2, rn_aload2, rn_istore2, rn_astore2, rn_lstore2, rn_iinc2, rn_iload3, rn_lload3, rn_aload3, rn_istore3, rn_astore3, rn_lstore3, rn_iinc3, rn_iload4, rn_lload4, rn_aload4, rn_istore4, rn_astore4, rn_lstore4, rn_iinc4, rn_iload5, rn_lload5, rn_aload5, rn_istore5, rn_astore5, rn_lstore5, rn_iinc5, rn_iload6, rn_lload6, rn_aload6, rn_istore6, rn_astore6, rn_lstore6, rn_iinc6, rn_iload7, rn_aload7, rn_istore7, rn_astore7, rn_iinc7, rn_iload8, rn_aload8, rn_istore8, rn_astore8, rn_iinc8, rn_iload9, rn_aload9, rn_istore9, rn_astore9, rn_iinc9, rn_iadd, rn_isub, rn_imul, rn_iand, rn_ior, rn_ixor, rn_ishl, rn_ishr, rn_iushr, rn_idiv, rn_irem, rn_ineg, rn_ladd, rn_lsub, rn_lmul, rn_lor, rn_ldiv, rn_lrem, rn_lneg, rn_lshl, rn_lshr, rn_i2l, rn_l2i, rn_i2c, rn_lcmp, rn_dupi, rn_dupa, rn_popi, rn_popa, rn_dup2, rn_aast, rn_alen, rn_geta, rn_aald, rn_puta, rn_new, rn_newa, rn_anew, rn_min, rn_max, rn_slen, rn_chat, rn_indx, rn_objI, rn_nop, rn_goto, rn_ifeq, rn_ifne, rn_iflt, rn_ifge, rn_ifgt, rn_ifle, rn_iceq, rn_icne, rn_iclt, rn_icge, rn_icgt, rn_icle, rn_tsw, rn_lsw, rn_iret, rn_zret, rn_lret, rn_aret, rn_vret, rn_cs0, rn_cs1, rn_cs2, rn_cs3, rn_cs4, rn_cs5, rn_cs6, rn_cs7, rn_cv1, rn_ci1, rn_cv2, rn_ci2, rn_cv3, rn_ci3, rn_cv4, rn_cv5, rn_cv6, rn_cv7, cs_n, cs_i, cs_a, cs_l, rc_i, rc_a, rc_l, rc_n, rw_iald, rw_bald, rw_lald, rw_iast, rw_bast, rw_last, rw_geti, rw_getl, rw_puti, rw_putz, rw_putl, iI_add, iI_sub, iI_mul, iI_neg, iI_lt, iI_le, iI_eq, iI_lt0, iI_le0, iI_0lt, iI_0le, iI_eq0, iI_eq1, iI_div, iI_rem, am_in_ok, am_in_no, iI_toInt, iL_add, iL_sub, iL_mul, iL_neg, iL_div, iL_rem, iI_i2l, iL_l2i, iL_cmp, iL_eq0, iI_or, iI_and, iI_shl, if_true, if_false, true_or, or_true, true_and, and_true, false_or, or_false, not_true_eq_false, not_false_eq_true, Option.bind_some, Option.toList_some, Option.toList_none, List.nil_append, List.cons_append, ite_self, nc_0, nc_1, nc_2, nc_3, nc_4, nc_5, nc_6, nc_7, nc_8, nc_9, nc_10, nc_11, nc_12, nc_13, nc_14, nc_15, nc_16, nc_17, nc_18, nc_19, nc_20, nc_21, nc_22, nc_23, nc_24, nc_25, nc_26, nc_27, nc_28, nc_29, nc_30, nc_31, nc_32, nc_33, nc_34, nc_35, nc_36, nc_40, nc_48, nc_100, nc_256, nc_300, nc_304, sh_358, rf_358_0, rf_358_1, sh_359, rf_359_0, rf_359_1, rf_359_2, t1, t4, t8, ch, cs, qf, ← eL, qs, mx_164, mx_165, mx_231, if_pos, if_neg, sh_0, sh_393, rw_copy, am_cp_ok]
      · by_cases z2 : i < wq
        · have e5 : ckp (wStep i wq) (B.h s - 1) = B.h s - 1 - wq := by unfold wStep ckp; rw [if_neg z1, if_pos z2, if_neg (by omega)]; omega
          have e6 : ckp wq (B.h s) = B.h s - 1 - wq := by unfold ckp; rw [if_neg (by omega)]
          have e7 : ¬ B.h s - 1 - i = B.h s - 1 - wq := by omega
          rw [e5, e6]
          simp (decide := true) (disch := omega) only [en_239, bk_239_0, bk_239_75, bk_239_88, bk_239_98, bk_239_104, bq_239_0, bq_239_15, bq_239_75, bq_239_88, bq_239_98, bq_239_104, rn_iconst, rn_bipush, rn_sipush, rn_ldc_w, rn_ldc, rn_ldcS, rn_lconst, rn_ldc2, rn_gets, rn_iload0, rn_lload0, rn_aload0, rn_istore0, rn_astore0, rn_lstore0, rn_iinc0, rn_iload1, rn_lload1, rn_aload1, rn_istore1, rn_astore1, rn_lstore1, rn_iinc1, rn_iload2, rn_lload2, rn_aload2, rn_istore2, rn_astore2, rn_lstore2, rn_iinc2, rn_iload3, rn_lload3, rn_aload3, rn_istore3, rn_astore3, rn_lstore3, rn_iinc3, rn_iload4, rn_lload4, rn_aload4, rn_istore4, rn_astore4, rn_lstore4, rn_iinc4, rn_iload5, rn_lload5, rn_aload5, rn_istore5, rn_astore5, rn_lstore5, rn_iinc5, rn_iload6, rn_lload6, rn_aload6, rn_istore6, rn_astore6, rn_lstore6, rn_iinc6, rn_iload7, rn_aload7, rn_istore7, rn_astore7, rn_iinc7, rn_iload8, rn_aload8, rn_istore8, rn_astore8, rn_iinc8, rn_iload9, rn_aload9, rn_istore9, rn_astore9, rn_iinc9, rn_iadd, rn_isub, rn_imul, rn_iand, rn_ior, rn_ixor, rn_ishl, rn_ishr, rn_iushr, rn_idiv, rn_irem, rn_ineg, rn_ladd, rn_lsub, rn_lmul, rn_lor, rn_ldiv, rn_lrem, rn_lneg, rn_lshl, rn_lshr, rn_i2l, rn_l2i, rn_i2c, rn_lcmp, rn_dupi, rn_dupa, rn_popi, rn_popa, rn_dup2, rn_aast, rn_alen, rn_geta, rn_aald, rn_puta, rn_new, rn_newa, rn_anew, rn_min, rn_max, rn_slen, rn_chat, rn_indx, rn_objI, rn_nop, rn_goto, rn_ifeq, rn_ifne, rn_iflt, rn_ifge, rn_ifgt, rn_ifle, rn_iceq, rn_icne, rn_iclt, rn_icge, rn_icgt, rn_icle, rn_tsw, rn_lsw, rn_iret, rn_zret, rn_lret, rn_aret, rn_vret, rn_cs0, rn_cs1, rn_cs2, rn_cs3, rn_cs4, rn_cs5, rn_cs6, rn_cs7, rn_cv1, rn_ci1, rn_cv2, rn_ci2, rn_cv3, rn_ci3, rn_cv4, rn_cv5, rn_cv6, rn_cv7, cs_n, cs_i, cs_a, cs_l, rc_i, rc_a, rc_l, rc_n, rw_iald, rw_bald, rw_lald, rw_iast, rw_bast, rw_last, rw_geti, rw_getl, rw_puti, rw_putz, rw_putl, iI_add, iI_sub, iI_mul, iI_neg, iI_lt, iI_le, iI_eq, iI_lt0, iI_le0, iI_0lt, iI_0le, iI_eq0, iI_eq1, iI_div, iI_rem, am_in_ok, am_in_no, iI_toInt, iL_add, iL_sub, iL_mul, iL_neg, iL_div, iL_rem, iI_i2l, iL_l2i, iL_cmp, iL_eq0, iI_or, iI_and, iI_shl, if_true, if_false, true_or, or_true, true_and, and_true, false_or, or_false, not_true_eq_false, not_false_eq_true, Option.bind_some, Option.toList_some, Option.toList_none, List.nil_append, List.cons_append, ite_self, nc_0, nc_1, nc_2, nc_3, nc_4, nc_5, nc_6, nc_7, nc_8, nc_9, nc_10, nc_11, nc_12, nc_13, nc_14, nc_15, nc_16, nc_17, nc_18, nc_19, nc_20, nc_21, nc_22, nc_23, nc_24, nc_25, nc_26, nc_27, nc_28, nc_29, nc_30, nc_31, nc_32, nc_33, nc_34, nc_35, nc_36, nc_40, nc_48, nc_100, nc_256, nc_300, nc_304, sh_358, rf_358_0, rf_358_1, sh_359, rf_359_0, rf_359_1, rf_359_2, t1, t4, t8, ch, cs, qf, ← eL, qs, e7, mx_164, mx_165, mx_231, if_pos, if_neg, sh_0, sh_393, rw_copy, am_cp_ok]
        · by_cases z3 : wq = -1
          · have e5 : ckp (wStep i wq) (B.h s - 1) = -1 := by unfold wStep ckp; rw [if_neg z1, if_neg z2, if_pos z3]
            have e6 : ckp wq (B.h s) = -1 := by unfold ckp; rw [if_pos z3]
            have e7 : ¬ B.h s - 1 - i = -1 := by omega
            rw [e5, e6]
            simp (decide := true) (disch := omega) only [en_239, bk_239_0, bk_239_75, bk_239_88, bk_239_98, bk_239_104, bq_239_0, bq_239_15, bq_239_75, bq_239_88, bq_239_98, bq_239_104, rn_iconst, rn_bipush, rn_sipush, rn_ldc_w, rn_ldc, rn_ldcS, rn_lconst, rn_ldc2, rn_gets, rn_iload0, rn_lload0, rn_aload0, rn_istore0, rn_astore0, rn_lstore0, rn_iinc0, rn_iload1, rn_lload1, rn_aload1, rn_istore1, rn_astore1, rn_lstore1, rn_iinc1, rn_iload2, rn_lload2, rn_aload2, rn_istore2, rn_astore2, rn_lstore2, rn_iinc2, rn_iload3, rn_lload3, rn_aload3, rn_istore3, rn_astore3, rn_lstore3, rn_iinc3, rn_iload4, rn_lload4, rn_aload4, rn_istore4, rn_astore4, rn_lstore4, rn_iinc4, rn_iload5, rn_lload5, rn_aload5, rn_istore5, rn_astore5, rn_lstore5, rn_iinc5, rn_iload6, rn_lload6, rn_aload6, rn_istore6, rn_astore6, rn_lstore6, rn_iinc6, rn_iload7, rn_aload7, rn_istore7, rn_astore7, rn_iinc7, rn_iload8, rn_aload8, rn_istore8, rn_astore8, rn_iinc8, rn_iload9, rn_aload9, rn_istore9, rn_astore9, rn_iinc9, rn_iadd, rn_isub, rn_imul, rn_iand, rn_ior, rn_ixor, rn_ishl, rn_ishr, rn_iushr, rn_idiv, rn_irem, rn_ineg, rn_ladd, rn_lsub, rn_lmul, rn_lor, rn_ldiv, rn_lrem, rn_lneg, rn_lshl, rn_lshr, rn_i2l, rn_l2i, rn_i2c, rn_lcmp, rn_dupi, rn_dupa, rn_popi, rn_popa, rn_dup2, rn_aast, rn_alen, rn_geta, rn_aald, rn_puta, rn_new, rn_newa, rn_anew, rn_min, rn_max, rn_slen, rn_chat, rn_indx, rn_objI, rn_nop, rn_goto, rn_ifeq, rn_ifne, rn_iflt, rn_ifge, rn_ifgt, rn_ifle, rn_iceq, rn_icne, rn_iclt, rn_icge, rn_icgt, rn_icle, rn_tsw, rn_lsw, rn_iret, rn_zret, rn_lret, rn_aret, rn_vret, rn_cs0, rn_cs1, rn_cs2, rn_cs3, rn_cs4, rn_cs5, rn_cs6, rn_cs7, rn_cv1, rn_ci1, rn_cv2, rn_ci2, rn_cv3, rn_ci3, rn_cv4, rn_cv5, rn_cv6, rn_cv7, cs_n, cs_i, cs_a, cs_l, rc_i, rc_a, rc_l, rc_n, rw_iald, rw_bald, rw_lald, rw_iast, rw_bast, rw_last, rw_geti, rw_getl, rw_puti, rw_putz, rw_putl, iI_add, iI_sub, iI_mul, iI_neg, iI_lt, iI_le, iI_eq, iI_lt0, iI_le0, iI_0lt, iI_0le, iI_eq0, iI_eq1, iI_div, iI_rem, am_in_ok, am_in_no, iI_toInt, iL_add, iL_sub, iL_mul, iL_neg, iL_div, iL_rem, iI_i2l, iL_l2i, iL_cmp, iL_eq0, iI_or, iI_and, iI_shl, if_true, if_false, true_or, or_true, true_and, and_true, false_or, or_false, not_true_eq_false, not_false_eq_true, Option.bind_some, Option.toList_some, Option.toList_none, List.nil_append, List.cons_append, ite_self, nc_0, nc_1, nc_2, nc_3, nc_4, nc_5, nc_6, nc_7, nc_8, nc_9, nc_10, nc_11, nc_12, nc_13, nc_14, nc_15, nc_16, nc_17, nc_18, nc_19, nc_20, nc_21, nc_22, nc_23, nc_24, nc_25, nc_26, nc_27, nc_28, nc_29, nc_30, nc_31, nc_32, nc_33, nc_34, nc_35, nc_36, nc_40, nc_48, nc_100, nc_256, nc_300, nc_304, sh_358, rf_358_0, rf_358_1, sh_359, rf_359_0, rf_359_1, rf_359_2, t1, t4, t8, ch, cs, qf, ← eL, qs, e7, mx_164, mx_165, mx_231, if_pos, if_neg, sh_0, sh_393, rw_copy, am_cp_ok]
          · have e5 : ckp (wStep i wq) (B.h s - 1) = B.h s - 1 - wq + -1 := by unfold wStep ckp; rw [if_neg z1, if_neg z2, if_neg z3]; omega
            have e6 : ckp wq (B.h s) = B.h s - 1 - wq := by unfold ckp; rw [if_neg z3]
            have e7 : ¬ B.h s - 1 - i = B.h s - 1 - wq := by omega
            rw [e5, e6]
            simp (decide := true) (disch := omega) only [en_239, bk_239_0, bk_239_75, bk_239_88, bk_239_98, bk_239_104, bq_239_0, bq_239_15, bq_239_75, bq_239_88, bq_239_98, bq_239_104, rn_iconst, rn_bipush, rn_sipush, rn_ldc_w, rn_ldc, rn_ldcS, rn_lconst, rn_ldc2, rn_gets, rn_iload0, rn_lload0, rn_aload0, rn_istore0, rn_astore0, rn_lstore0, rn_iinc0, rn_iload1, rn_lload1, rn_aload1, rn_istore1, rn_astore1, rn_lstore1, rn_iinc1, rn_iload2, rn_lload2, rn_aload2, rn_istore2, rn_astore2, rn_lstore2, rn_iinc2, rn_iload3, rn_lload3, rn_aload3, rn_istore3, rn_astore3, rn_lstore3, rn_iinc3, rn_iload4, rn_lload4, rn_aload4, rn_istore4, rn_astore4, rn_lstore4, rn_iinc4, rn_iload5, rn_lload5, rn_aload5, rn_istore5, rn_astore5, rn_lstore5, rn_iinc5, rn_iload6, rn_lload6, rn_aload6, rn_istore6, rn_astore6, rn_lstore6, rn_iinc6, rn_iload7, rn_aload7, rn_istore7, rn_astore7, rn_iinc7, rn_iload8, rn_aload8, rn_istore8, rn_astore8, rn_iinc8, rn_iload9, rn_aload9, rn_istore9, rn_astore9, rn_iinc9, rn_iadd, rn_isub, rn_imul, rn_iand, rn_ior, rn_ixor, rn_ishl, rn_ishr, rn_iushr, rn_idiv, rn_irem, rn_ineg, rn_ladd, rn_lsub, rn_lmul, rn_lor, rn_ldiv, rn_lrem, rn_lneg, rn_lshl, rn_lshr, rn_i2l, rn_l2i, rn_i2c, rn_lcmp, rn_dupi, rn_dupa, rn_popi, rn_popa, rn_dup2, rn_aast, rn_alen, rn_geta, rn_aald, rn_puta, rn_new, rn_newa, rn_anew, rn_min, rn_max, rn_slen, rn_chat, rn_indx, rn_objI, rn_nop, rn_goto, rn_ifeq, rn_ifne, rn_iflt, rn_ifge, rn_ifgt, rn_ifle, rn_iceq, rn_icne, rn_iclt, rn_icge, rn_icgt, rn_icle, rn_tsw, rn_lsw, rn_iret, rn_zret, rn_lret, rn_aret, rn_vret, rn_cs0, rn_cs1, rn_cs2, rn_cs3, rn_cs4, rn_cs5, rn_cs6, rn_cs7, rn_cv1, rn_ci1, rn_cv2, rn_ci2, rn_cv3, rn_ci3, rn_cv4, rn_cv5, rn_cv6, rn_cv7, cs_n, cs_i, cs_a, cs_l, rc_i, rc_a, rc_l, rc_n, rw_iald, rw_bald, rw_lald, rw_iast, rw_bast, rw_last, rw_geti, rw_getl, rw_puti, rw_putz, rw_putl, iI_add, iI_sub, iI_mul, iI_neg, iI_lt, iI_le, iI_eq, iI_lt0, iI_le0, iI_0lt, iI_0le, iI_eq0, iI_eq1, iI_div, iI_rem, am_in_ok, am_in_no, iI_toInt, iL_add, iL_sub, iL_mul, iL_neg, iL_div, iL_rem, iI_i2l, iL_l2i, iL_cmp, iL_eq0, iI_or, iI_and, iI_shl, if_true, if_false, true_or, or_true, true_and, and_true, false_or, or_false, not_true_eq_false, not_false_eq_true, Option.bind_some, Option.toList_some, Option.toList_none, List.nil_append, List.cons_append, ite_self, nc_0, nc_1, nc_2, nc_3, nc_4, nc_5, nc_6, nc_7, nc_8, nc_9, nc_10, nc_11, nc_12, nc_13, nc_14, nc_15, nc_16, nc_17, nc_18, nc_19, nc_20, nc_21, nc_22, nc_23, nc_24, nc_25, nc_26, nc_27, nc_28, nc_29, nc_30, nc_31, nc_32, nc_33, nc_34, nc_35, nc_36, nc_40, nc_48, nc_100, nc_256, nc_300, nc_304, sh_358, rf_358_0, rf_358_1, sh_359, rf_359_0, rf_359_1, rf_359_2, t1, t4, t8, ch, cs, qf, ← eL, qs, e7, mx_164, mx_165, mx_231, if_pos, if_neg, sh_0, sh_393, rw_copy, am_cp_ok]) ((none, none), w) ⟨C, FrT.refl⟩
  refine ⟨wf, ?_, ?_, Ff⟩
  · refine Eq.trans ?_ (ef.trans ?_)
    · have z0 : fIter VF gv s A 0 = (A, 0) := rfl
      have z1 : wIter VF gv s A wt 0 = wt := rfl
      simp (decide := true) (disch := omega) only [en_239, bk_239_0, bk_239_75, bk_239_88, bk_239_98, bk_239_104, bq_239_0, bq_239_15, bq_239_75, bq_239_88, bq_239_98, bq_239_104, rn_iconst, rn_bipush, rn_sipush, rn_ldc_w, rn_ldc, rn_ldcS, rn_lconst, rn_ldc2, rn_gets, rn_iload0, rn_lload0, rn_aload0, rn_istore0, rn_astore0, rn_lstore0, rn_iinc0, rn_iload1, rn_lload1, rn_aload1, rn_istore1, rn_astore1, rn_lstore1, rn_iinc1, rn_iload2, rn_lload2, rn_aload2, rn_istore2, rn_astore2, rn_lstore2, rn_iinc2, rn_iload3, rn_lload3, rn_aload3, rn_istore3, rn_astore3, rn_lstore3, rn_iinc3, rn_iload4, rn_lload4, rn_aload4, rn_istore4, rn_astore4, rn_lstore4, rn_iinc4, rn_iload5, rn_lload5, rn_aload5, rn_istore5, rn_astore5, rn_lstore5, rn_iinc5, rn_iload6, rn_lload6, rn_aload6, rn_istore6, rn_astore6, rn_lstore6, rn_iinc6, rn_iload7, rn_aload7, rn_istore7, rn_astore7, rn_iinc7, rn_iload8, rn_aload8, rn_istore8, rn_astore8, rn_iinc8, rn_iload9, rn_aload9, rn_istore9, rn_astore9, rn_iinc9, rn_iadd, rn_isub, rn_imul, rn_iand, rn_ior, rn_ixor, rn_ishl, rn_ishr, rn_iushr, rn_idiv, rn_irem, rn_ineg, rn_ladd, rn_lsub, rn_lmul, rn_lor, rn_ldiv, rn_lrem, rn_lneg, rn_lshl, rn_lshr, rn_i2l, rn_l2i, rn_i2c, rn_lcmp, rn_dupi, rn_dupa, rn_popi, rn_popa, rn_dup2, rn_aast, rn_alen, rn_geta, rn_aald, rn_puta, rn_new, rn_newa, rn_anew, rn_min, rn_max, rn_slen, rn_chat, rn_indx, rn_objI, rn_nop, rn_goto, rn_ifeq, rn_ifne, rn_iflt, rn_ifge, rn_ifgt, rn_ifle, rn_iceq, rn_icne, rn_iclt, rn_icge, rn_icgt, rn_icle, rn_tsw, rn_lsw, rn_iret, rn_zret, rn_lret, rn_aret, rn_vret, rn_cs0, rn_cs1, rn_cs2, rn_cs3, rn_cs4, rn_cs5, rn_cs6, rn_cs7, rn_cv1, rn_ci1, rn_cv2, rn_ci2, rn_cv3, rn_ci3, rn_cv4, rn_cv5, rn_cv6, rn_cv7, cs_n, cs_i, cs_a, cs_l, rc_i, rc_a, rc_l, rc_n, rw_iald, rw_bald, rw_lald, rw_iast, rw_bast, rw_last, rw_geti, rw_getl, rw_puti, rw_putz, rw_putl, iI_add, iI_sub, iI_mul, iI_neg, iI_lt, iI_le, iI_eq, iI_lt0, iI_le0, iI_0lt, iI_0le, iI_eq0, iI_eq1, iI_div, iI_rem, am_in_ok, am_in_no, iI_toInt, iL_add, iL_sub, iL_mul, iL_neg, iL_div, iL_rem, iI_i2l, iL_l2i, iL_cmp, iL_eq0, iI_or, iI_and, iI_shl, if_true, if_false, true_or, or_true, true_and, and_true, false_or, or_false, not_true_eq_false, not_false_eq_true, Option.bind_some, Option.toList_some, Option.toList_none, List.nil_append, List.cons_append, ite_self, nc_0, nc_1, nc_2, nc_3, nc_4, nc_5, nc_6, nc_7, nc_8, nc_9, nc_10, nc_11, nc_12, nc_13, nc_14, nc_15, nc_16, nc_17, nc_18, nc_19, nc_20, nc_21, nc_22, nc_23, nc_24, nc_25, nc_26, nc_27, nc_28, nc_29, nc_30, nc_31, nc_32, nc_33, nc_34, nc_35, nc_36, nc_40, nc_48, nc_100, nc_256, nc_300, nc_304, t1, t4, t8, ch0, z0, z1, hH, Int.sub_zero, if_pos, if_neg, sh_0, sh_393, rw_copy, am_cp_ok]
    · conv => lhs; rw [bk_239_15]
      unfold AT.fadeW AT.fade
      simp (decide := true) (disch := omega) only [en_239, bk_239_0, bk_239_75, bk_239_88, bk_239_98, bk_239_104, bq_239_0, bq_239_15, bq_239_75, bq_239_88, bq_239_98, bq_239_104, rn_iconst, rn_bipush, rn_sipush, rn_ldc_w, rn_ldc, rn_ldcS, rn_lconst, rn_ldc2, rn_gets, rn_iload0, rn_lload0, rn_aload0, rn_istore0, rn_astore0, rn_lstore0, rn_iinc0, rn_iload1, rn_lload1, rn_aload1, rn_istore1, rn_astore1, rn_lstore1, rn_iinc1, rn_iload2, rn_lload2, rn_aload2, rn_istore2, rn_astore2, rn_lstore2, rn_iinc2, rn_iload3, rn_lload3, rn_aload3, rn_istore3, rn_astore3, rn_lstore3, rn_iinc3, rn_iload4, rn_lload4, rn_aload4, rn_istore4, rn_astore4, rn_lstore4, rn_iinc4, rn_iload5, rn_lload5, rn_aload5, rn_istore5, rn_astore5, rn_lstore5, rn_iinc5, rn_iload6, rn_lload6, rn_aload6, rn_istore6, rn_astore6, rn_lstore6, rn_iinc6, rn_iload7, rn_aload7, rn_istore7, rn_astore7, rn_iinc7, rn_iload8, rn_aload8, rn_istore8, rn_astore8, rn_iinc8, rn_iload9, rn_aload9, rn_istore9, rn_astore9, rn_iinc9, rn_iadd, rn_isub, rn_imul, rn_iand, rn_ior, rn_ixor, rn_ishl, rn_ishr, rn_iushr, rn_idiv, rn_irem, rn_ineg, rn_ladd, rn_lsub, rn_lmul, rn_lor, rn_ldiv, rn_lrem, rn_lneg, rn_lshl, rn_lshr, rn_i2l, rn_l2i, rn_i2c, rn_lcmp, rn_dupi, rn_dupa, rn_popi, rn_popa, rn_dup2, rn_aast, rn_alen, rn_geta, rn_aald, rn_puta, rn_new, rn_newa, rn_anew, rn_min, rn_max, rn_slen, rn_chat, rn_indx, rn_objI, rn_nop, rn_goto, rn_ifeq, rn_ifne, rn_iflt, rn_ifge, rn_ifgt, rn_ifle, rn_iceq, rn_icne, rn_iclt, rn_icge, rn_icgt, rn_icle, rn_tsw, rn_lsw, rn_iret, rn_zret, rn_lret, rn_aret, rn_vret, rn_cs0, rn_cs1, rn_cs2, rn_cs3, rn_cs4, rn_cs5, rn_cs6, rn_cs7, rn_cv1, rn_ci1, rn_cv2, rn_ci2, rn_cv3, rn_ci3, rn_cv4, rn_cv5, rn_cv6, rn_cv7, cs_n, cs_i, cs_a, cs_l, rc_i, rc_a, rc_l, rc_n, rw_iald, rw_bald, rw_lald, rw_iast, rw_bast, rw_last, rw_geti, rw_getl, rw_puti, rw_putz, rw_putl, iI_add, iI_sub, iI_mul, iI_neg, iI_lt, iI_le, iI_eq, iI_lt0, iI_le0, iI_0lt, iI_0le, iI_eq0, iI_eq1, iI_div, iI_rem, am_in_ok, am_in_no, iI_toInt, iL_add, iL_sub, iL_mul, iL_neg, iL_div, iL_rem, iI_i2l, iL_l2i, iL_cmp, iL_eq0, iI_or, iI_and, iI_shl, if_true, if_false, true_or, or_true, true_and, and_true, false_or, or_false, not_true_eq_false, not_false_eq_true, Option.bind_some, Option.toList_some, Option.toList_none, List.nil_append, List.cons_append, ite_self, nc_0, nc_1, nc_2, nc_3, nc_4, nc_5, nc_6, nc_7, nc_8, nc_9, nc_10, nc_11, nc_12, nc_13, nc_14, nc_15, nc_16, nc_17, nc_18, nc_19, nc_20, nc_21, nc_22, nc_23, nc_24, nc_25, nc_26, nc_27, nc_28, nc_29, nc_30, nc_31, nc_32, nc_33, nc_34, nc_35, nc_36, nc_40, nc_48, nc_100, nc_256, nc_300, nc_304, Int.sub_self, hH, Int.toNat_natCast, if_pos, if_neg, sh_0, sh_393, rw_copy, am_cp_ok]
  · unfold AT.fade
    rw [hH, Int.toNat_natCast]
    exact Cf
end DN
