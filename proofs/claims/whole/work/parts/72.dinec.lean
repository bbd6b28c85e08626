def AT.fadeN (A : AT) (VF : Option (LEnv → Int)) (gv : Int → Int) : Nat → AT
  | 0 => A
  | k + 1 => (AT.fadeN A VF gv k).fade VF gv (k : Int)
def AT.fadeNW (A : AT) (VF : Option (LEnv → Int)) (gv : Int → Int) (ws wt : Int) : Nat → Int
  | 0 => wt
  | k + 1 => if (k : Int) = ws then (AT.fadeN A VF gv k).fadeW VF gv (k : Int) (AT.fadeNW A VF gv ws wt k) else AT.fadeNW A VF gv ws wt k
def dStep (VT : Option (LEnv → Int)) (gv fl cd : Int → Int) (e : Int) (p : AT × Int) : AT × Int := if cd e = -1 then p else if p.1.x.tmod 8 = 0 then (p.1.draw, p.2) else ((p.1.draw.md (tasteV VT p.1.draw gv fl e (cd e))).put (cd e) e (gv e), p.2 + 1)
def dIter (VT : Option (LEnv → Int)) (gv fl cd : Int → Int) (A : AT) : Nat → AT × Int
  | 0 => (A, 0)
  | k + 1 => dStep VT gv fl cd (k : Int) (dIter VT gv fl cd A k)
def AT.pass (A : AT) (VF VT : Option (LEnv → Int)) (gv fl cd : Int → Int) (N : Int) : AT := ((dIter VT gv fl cd A N.toNat).1.fadeN VF gv 8).nxt
def AT.ate (A : AT) (VT : Option (LEnv → Int)) (gv fl cd : Int → Int) (N : Int) : Int := (dIter VT gv fl cd A N.toNat).2
section DA
variable {VF VT : Option (LEnv → Int)} {gv fl cd : Int → Int} {s e z c N ws wt : Int} {A : AT}
theorem wr_din : (A.wr c s).din = A.din := by unfold AT.wr; split <;> rfl
theorem put_din : (A.put s e z).din = A.din := by
  unfold AT.put
  rw [wr_din]
  split
  · rfl
  · split <;> rfl
theorem fN_ok (O : AOk A N) : ∀ k : Nat, k ≤ 8 → AOk (A.fadeN VF gv k) N ∧ (A.fadeN VF gv k).din = A.din
  | 0, _ => ⟨O, rfl⟩
  | k + 1, hk => by
    obtain ⟨a1, a2⟩ := fN_ok O k (by omega)
    obtain ⟨b1, b2⟩ := a1.fade (VF := VF) (gv := gv) (s := (k : Int)) (by omega) (by omega)
    exact ⟨b1, b2.trans a2⟩
theorem fNW_rg (O : AOk A N) (w0 : -2147483648 ≤ wt) (w1 : wt ≤ 2147483647) : ∀ k : Nat, k ≤ 8 → -2147483648 ≤ A.fadeNW VF gv ws wt k ∧ A.fadeNW VF gv ws wt k ≤ 2147483647
  | 0, _ => ⟨w0, w1⟩
  | k + 1, hk => by
    have ih := fNW_rg O w0 w1 k (by omega)
    obtain ⟨a1, a2⟩ := fN_ok (VF := VF) (gv := gv) O k (by omega)
    have hh := a1.h (k : Int) (by omega) (by omega)
    rw [AT.fadeNW]
    split
    · exact wI_rg a1 (by omega) (by omega) ih.1 ih.2 _ (by omega)
    · exact ih
theorem dI_ok (O : AOk A N) (hN : N ≤ 6) (hc : ∀ x, 0 ≤ x → x < N → -1 ≤ cd x ∧ cd x ≤ 7 ∧ 1 ≤ gv x ∧ gv x ≤ 9) : ∀ k : Nat, (k : Int) ≤ N → AOk (dIter VT gv fl cd A k).1 N ∧ 0 ≤ (dIter VT gv fl cd A k).2 ∧ (dIter VT gv fl cd A k).2 ≤ k ∧ (dIter VT gv fl cd A k).1.din = A.din
  | 0, _ => ⟨O, Int.le_refl 0, Int.le_refl 0, rfl⟩
  | k + 1, hk => by
    obtain ⟨a1, a2, a3, a4⟩ := dI_ok O hN hc k (by omega)
    have h := hc (k : Int) (by omega) (by omega)
    rw [dIter, dStep]
    split
    · exact ⟨a1, a2, by omega, a4⟩
    · split
      · exact ⟨a1.draw, a2, by show (dIter VT gv fl cd A k).2 ≤ _; omega, a4⟩
      · refine ⟨(a1.draw.md).put hN (by omega) (by omega) (by omega) (by omega) h.2.2.1 (by omega), by show 0 ≤ (dIter VT gv fl cd A k).2 + 1; omega, by show (dIter VT gv fl cd A k).2 + 1 ≤ _; omega, ?_⟩
        show (AT.put _ _ _ _).din = _
        rw [put_din]
        exact a4
theorem AOk.pass (O : AOk A N) (n0 : 0 ≤ N) (hN : N ≤ 6) (hc : ∀ x, 0 ≤ x → x < N → -1 ≤ cd x ∧ cd x ≤ 7 ∧ 1 ≤ gv x ∧ gv x ≤ 9) (hd : A.din < 9999) : AOk (A.pass VF VT gv fl cd N) N ∧ (A.pass VF VT gv fl cd N).din = A.din + 1 ∧ 0 ≤ A.ate VT gv fl cd N ∧ A.ate VT gv fl cd N ≤ 6 := by
  obtain ⟨a1, a2, a3, a4⟩ := dI_ok (VT := VT) (fl := fl) O hN hc N.toNat (by omega)
  obtain ⟨b1, b2⟩ := fN_ok (VF := VF) (gv := gv) a1 8 (by omega)
  refine ⟨b1.nxt (by omega), ?_, a2, by unfold AT.ate; omega⟩
  show (AT.fadeN _ VF gv 8).din + 1 = _
  rw [b2, a4]
end DA
section DC
variable {d L T o n a t : Nat} {w : Nat → Int → Int} {v : Nat → Nat → Int64} {A : AT} {N : Int} {gv fl cd : Int → Int} {VF VT : Option (LEnv → Int)} {s e z : Int}
theorem CRep.one {k x : Int} {B : AT} (C : CRep w t A) (hk : k = 5 ∨ k = 6 ∨ k = 7) (h1 : B.h = A.h) (h2 : B.m = A.m) (h3 : B.g = A.g) (h4 : B.nb = A.nb) (h5 : B.b = A.b) (e1 : upI w t k x t 6 = B.din) (e2 : upI w t k x t 7 = B.x) (e3 : upI w t k x t 5 = B.mood) : CRep (upI w t k x) t B := by
  unfold CRep
  rw [h1, h2, h3, h4, h5, e1, e2, e3, upI_2 (show (4 : Int) ≠ k by omega), upI_c (show t + 3 ≠ t by omega), upI_c (show t + 1 ≠ t by omega), upI_c (show t + 2 ≠ t by omega), upI_c (show t + 4 ≠ t by omega)]
  exact ⟨rfl, rfl, rfl, C.2.2.2⟩
theorem CRep.md (C : CRep w t A) : CRep (upI w t 5 (clmp (-99999) 99999 (A.mood + z))) t (A.md z) := C.one (Or.inl rfl) rfl rfl rfl rfl rfl (by rw [upI_2 (by decide)]; exact C.d) (by rw [upI_2 (by decide)]; exact C.x) upI_s
theorem CRep.nxt (C : CRep w t A) : CRep (upI w t 6 (A.din + 1)) t A.nxt := C.one (Or.inr (Or.inl rfl)) rfl rfl rfl rfl rfl upI_s (by rw [upI_2 (by decide)]; exact C.x) (by rw [upI_2 (by decide)]; exact C.m)
theorem CGst.hc (G : CGst w N gv fl cd) : ∀ x, 0 ≤ x → x < N → -1 ≤ cd x ∧ cd x ≤ 7 ∧ 1 ≤ gv x ∧ gv x ≤ 9 := fun x h0 h1 => ⟨(G.2.2.2.2 x h0 h1).2.1, (G.2.2.2.2 x h0 h1).2.2.1, (G.2.2.2.2 x h0 h1).2.2.2, (G.2.2.1 x).2⟩
set_option maxHeartbeats 1000000 in
theorem c_eatAt (ha : ScrC a) (ht : t = 2 ∨ t = 341) (O : AOk A N) (hN : N ≤ 6) (C : CRep w t A) (G : CGst w N gv fl cd) (K : CLaw w a VF VT) (h0 : 0 ≤ s) (h1 : s < 8) (e0 : 0 ≤ e) (e1 : e < N) :
    ∃ w2, am_call (d + 4) 139 [.ref 358, .ref a, .ref t, .int (iI e), .int (iI s)] (L, T, S0 n, am_w w, v, R0 o) = some (some (.int (iI (tasteV VT A gv fl e s))), (L, T, S0 n, am_w w2, v, R0 o)) ∧ CRep w2 t ((A.md (tasteV VT A gv fl e s)).put s e (gv e)) ∧ FrT t w w2 := by
  have hT := lay_tab (n := n) (o := o) (a := t) (by omega)
  have t1 := hT.1
  have hh := O.h s h0 h1
  obtain ⟨o1, o2, o3, o4, o5, o6, o7, o8⟩ := O.1
  have bt : -495 ≤ tasteV VT A gv fl e s ∧ tasteV VT A gv fl e s ≤ 495 := tasteT_bd (VT := VT) (A := A) (gv := gv) (fl := fl) (e := e) (s := s) (A.h s).toNat (by omega)
  obtain ⟨w1, q1, b1⟩ := c_tasteOf (d := d) (L := L) (T := T) (o := o) (n := n) (v := v) ha ht O hN C G K h0 h1 e0 (by omega)
  have C1 : CRep w1 t A := C.keep (fun b q1 q2 => b1 b (by omega) (by omega))
  have F1 : FrT t w w1 := fun b q1 q2 q3 => b1 b q2 q3
  have G1 := G.fr ht F1
  have hc := G.hc e e0 e1
  have hg : w1 9 e = gv e := by rw [G1.2.1 e, if_pos ⟨e0, e1⟩]
  have cm := C1.m
  have mm := iI_mm (lo := -99999) (hi := 99999) (z := A.mood + tasteV VT A gv fl e s) (by decide) (by decide) (by decide) (by omega) (by omega)
  obtain ⟨w2, q2, C2, F2⟩ := c_putMouth (d := d) (L := L) (T := T) (v := v) hT (O.md (z := tasteV VT A gv fl e s)) hN (C1.md (z := tasteV VT A gv fl e s)) (s := s) (e := e) (z := gv e) h0 h1 e0 e1 hc.2.2.1 hc.2.2.2
  refine ⟨w2, ?_, C2, fun b k1 k2 k3 => ?_⟩
  · generalize tasteV VT A gv fl e s = q at *
    simp (decide := true) (disch := omega) only [en_139, bk_139_0, bq_139_0, rn_iconst, rn_bipush, rn_sipush, rn_ldc_w, rn_ldc, rn_ldcS, rn_lconst, rn_ldc2, rn_gets, rn_iload0, rn_lload0, rn_aload0, rn_istore0, rn_astore0, rn_lstore0, rn_iinc0, rn_iload1, rn_lload1, rn_aload1, rn_istore1, rn_astore1, rn_lstore1, rn_iinc1, rn_iload2, rn_lload2, rn_aload2, rn_istore2, rn_astore2, rn_lstore2, rn_iinc2, rn_iload3, rn_lload3, rn_aload3, rn_istore3, rn_astore3, rn_lstore3, rn_iinc3, rn_iload4, rn_lload4, rn_aload4, rn_istore4, rn_astore4, rn_lstore4, rn_iinc4, rn_iload5, rn_lload5, rn_aload5, rn_istore5, rn_astore5, rn_lstore5, rn_iinc5, rn_iload6, rn_lload6, rn_aload6, rn_istore6, rn_astore6, rn_lstore6, rn_iinc6, rn_iload7, rn_aload7, rn_istore7, rn_astore7, rn_iinc7, rn_iload8, rn_aload8, rn_istore8, rn_astore8, rn_iinc8, rn_iload9, rn_aload9, rn_istore9, rn_astore9, rn_iinc9, rn_iadd, rn_isub, rn_imul, rn_iand, rn_ior, rn_ixor, rn_ishl, rn_ishr, rn_iushr, rn_idiv, rn_irem, rn_ineg, rn_ladd, rn_lsub, rn_lmul, rn_lor, rn_ldiv, rn_lrem, rn_lneg, rn_lshl, rn_lshr, rn_i2l, rn_l2i, rn_i2c, rn_lcmp, rn_dupi, rn_dupa, rn_popi, rn_popa, rn_dup2, rn_aast, rn_alen, rn_geta, rn_aald, rn_puta, rn_new, rn_newa, rn_anew, rn_min, rn_max, rn_slen, rn_chat, rn_indx, rn_objI, rn_nop, rn_goto, rn_ifeq, rn_ifne, rn_iflt, rn_ifge, rn_ifgt, rn_ifle, rn_iceq, rn_icne, rn_iclt, rn_icge, rn_icgt, rn_icle, rn_tsw, rn_lsw, rn_iret, rn_zret, rn_lret, rn_aret, rn_vret, rn_cs0, rn_cs1, rn_cs2, rn_cs3, rn_cs4, rn_cs5, rn_cs6, rn_cs7, rn_cv1, rn_ci1, rn_cv2, rn_ci2, rn_cv3, rn_ci3, rn_cv4, rn_cv5, rn_cv6, rn_cv7, cs_n, cs_i, cs_a, cs_l, rc_i, rc_a, rc_l, rc_n, rw_iald, rw_bald, rw_lald, rw_iast, rw_bast, rw_last, rw_geti, rw_getl, rw_puti, rw_putz, rw_putl, iI_add, iI_sub, iI_mul, iI_neg, iI_lt, iI_le, iI_eq, iI_lt0, iI_le0, iI_0lt, iI_0le, iI_eq0, iI_eq1, iI_div, iI_rem, am_in_ok, am_in_no, iI_toInt, iL_add, iL_sub, iL_mul, iL_neg, iL_div, iL_rem, iI_i2l, iL_l2i, iL_cmp, iL_eq0, iI_or, iI_and, iI_shl, if_true, if_false, true_or, or_true, true_and, and_true, false_or, or_false, not_true_eq_false, not_false_eq_true, Option.bind_some, Option.toList_some, Option.toList_none, List.nil_append, List.cons_append, ite_self, nc_0, nc_1, nc_2, nc_3, nc_4, nc_5, nc_6, nc_7, nc_8, nc_9, nc_10, nc_11, nc_12, nc_13, nc_14, nc_15, nc_16, nc_17, nc_18, nc_19, nc_20, nc_21, nc_22, nc_23, nc_24, nc_25, nc_26, nc_27, nc_28, nc_29, nc_30, nc_31, nc_32, nc_33, nc_34, nc_35, nc_36, nc_40, nc_48, nc_100, nc_256, nc_300, nc_304, sh_8, rf_8_1, rf_8_2, rf_8_3, sh_9, sh_358, rf_358_0, rf_358_1, sh_359, rf_359_0, rf_359_1, rf_359_2, t1, q1, cm, mm, upI_1, hg, q2, mx_178, mx_225, if_pos, if_neg, sh_0, sh_393, rw_copy, am_cp_ok]
  · rw [F2 b k1 k2 k3, upI_c (by omega)]; exact F1 b k1 k2 k3
set_option maxHeartbeats 2000000 in
theorem c_dineOnce (ha : ScrC a) (ht : t = 2 ∨ t = 341) (O : AOk A N) (hN : N ≤ 6) (C : CRep w t A) (G : CGst w N gv fl cd) (K : CLaw w a VF VT) :
    ∃ w2, am_call (d + 5) 173 [.ref 358, .ref a, .ref t] (L, T, S0 n, am_w w, v, R0 o) = some (some (.int (iI (A.ate VT gv fl cd N))), (L, T, S0 n, am_w w2, v, R0 o)) ∧ CRep w2 t (A.pass VF VT gv fl cd N) ∧ FrT t w w2 := by
  have hT := lay_tab (n := n) (o := o) (a := t) (by omega)
  have t1 := hT.1
  obtain ⟨H, hH⟩ := Int.eq_ofNat_of_zero_le G.1.1
  obtain ⟨⟨jf, wf⟩, ⟨Cf, Ff⟩, ef⟩ := loop_p (fun (k : Nat) (p : Option Value × (Nat → Int → Int)) => CRep p.2 t (dIter VT gv fl cd A k).1 ∧ FrT t w p.2) (fun (k : Nat) (p : Option Value × (Nat → Int → Int)) => am_run (d + 5) 173 (am_B 173 5) [some (.ref 358), some (.ref a), some (.ref t), some (.int (iI (dIter VT gv fl cd A k).2)), some (.int (iI (k : Int))), p.1] [] (L, T, S0 n, am_w p.2, v, R0 o)) H (by
    rintro k hk ⟨jj, wk⟩ ⟨Ck, Fk⟩
    dsimp only at Ck Fk ⊢
    obtain ⟨a1, a2, a3, a4⟩ := dI_ok (VT := VT) (fl := fl) O hN G.hc k (by omega)
    have Gk := G.fr ht Fk
    have Kk := K.fr ha ht Fk
    have gn := Gk.gN
    have hcd := (Gk.2.2.2.2 (k : Int) (by omega) (by omega)).1
    have hc := G.hc (k : Int) (by omega) (by omega)
    have g1 : ¬ N ≤ (k : Int) := by omega
    have ec : ((k + 1 : Nat) : Int) = (k : Int) + 1 := by omega
    have ed : dIter VT gv fl cd A (k + 1) = dStep VT gv fl cd (k : Int) (dIter VT gv fl cd A k) := rfl
    generalize hp : dIter VT gv fl cd A k = p at *
    obtain ⟨B, c⟩ := p
    dsimp only at *
    by_cases c1 : cd (k : Int) = -1
    · have e2 : dIter VT gv fl cd A (k + 1) = (B, c) := by rw [ed, dStep, if_pos c1]
      refine ⟨(some (.int (iI (-1))), wk), ⟨by rw [e2]; exact Ck, Fk⟩, ?_⟩
      dsimp only
      rw [e2, ec]
      dsimp only
      conv => lhs; rw [bk_173_5]
      simp (decide := true) (disch := omega) only [en_173, bk_173_0, bk_173_61, bk_173_67, bk_173_93, bq_173_0, bq_173_5, bq_173_61, bq_173_67, bq_173_70, bq_173_93, rn_iconst, rn_bipush, rn_sipush, rn_ldc_w, rn_ldc, rn_ldcS, rn_lconst, rn_ldc2, rn_gets, rn_iload0, rn_lload0, rn_aload0, rn_istore0, rn_astore0, rn_lstore0, rn_iinc0, rn_iload1, rn_lload1, rn_aload1, rn_istore1, rn_astore1, rn_lstore1, rn_iinc1, rn_iload2, rn_lload2, rn_aload2, rn_istore2, rn_astore2, rn_lstore2, rn_iinc2, rn_iload3, rn_lload3, rn_aload3, rn_istore3, rn_astore3, rn_lstore3, rn_iinc3, rn_iload4, rn_lload4, rn_aload4, rn_istore4, rn_astore4, rn_lstore4, rn_iinc4, rn_iload5, rn_lload5, rn_aload5, rn_istore5, rn_astore5, rn_lstore5, rn_iinc5, rn_iload6, rn_lload6, rn_aload6, rn_istore6, rn_astore6, rn_lstore6, rn_iinc6, rn_iload7, rn_aload7, rn_istore7, rn_astore7, rn_iinc7, rn_iload8, rn_aload8, rn_istore8, rn_astore8, rn_iinc8, rn_iload9, rn_aload9, rn_istore9, rn_astore9, rn_iinc9, rn_iadd, rn_isub, rn_imul, rn_iand, rn_ior, rn_ixor, rn_ishl, rn_ishr, rn_iushr, rn_idiv, rn_irem, rn_ineg, rn_ladd, rn_lsub, rn_lmul, rn_lor, rn_ldiv, rn_lrem, rn_lneg, rn_lshl, rn_lshr, rn_i2l, rn_l2i, rn_i2c, rn_lcmp, rn_dupi, rn_dupa, rn_popi, rn_popa, rn_dup2, rn_aast, rn_alen, rn_geta, rn_aald, rn_puta, rn_new, rn_newa, rn_anew, rn_min, rn_max, rn_slen, rn_chat, rn_indx, rn_objI, rn_nop, rn_goto, rn_ifeq, rn_ifne, rn_iflt, rn_ifge, rn_ifgt, rn_ifle, rn_iceq, rn_icne, rn_iclt, rn_icge, rn_icgt, rn_icle, rn_tsw, rn_lsw, rn_iret, rn_zret, rn_lret, rn_aret, rn_vret, rn_cs0, rn_cs1, rn_cs2, rn_cs3, rn_cs4, rn_cs5, rn_cs6, rn_cs7, rn_cv1, rn_ci1, rn_cv2, rn_ci2, rn_cv3, rn_ci3, rn_cv4, rn_cv5, rn_cv6, rn_cv7, cs_n, cs_i, cs_a, cs_l, rc_i, rc_a, rc_l, rc_n, rw_iald, rw_bald, rw_lald, rw_iast, rw_bast, rw_last, rw_geti, rw_getl, rw_puti, rw_putz, rw_putl, iI_add, iI_sub, iI_mul, iI_neg, iI_lt, iI_le, iI_eq, iI_lt0, iI_le0, iI_0lt, iI_0le, iI_eq0, iI_eq1, iI_div, iI_rem, am_in_ok, am_in_no, iI_toInt, iL_add, iL_sub, iL_mul, iL_neg, iL_div, iL_rem, iI_i2l, iL_l2i, iL_cmp, iL_eq0, iI_or, iI_and, iI_shl, if_true, if_false, true_or, or_true, true_and, and_true, false_or, or_false, not_true_eq_false, not_false_eq_true, Option.bind_some, Option.toList_some, Option.toList_none, List.nil_append, List.cons_append, ite_self, nc_0, nc_1, nc_2, nc_3, nc_4, nc_5, nc_6, nc_7, nc_8, nc_9, nc_10, nc_11, nc_12, nc_13, nc_14, nc_15, nc_16, nc_17, nc_18, nc_19, nc_20, nc_21, nc_22, nc_23, nc_24, nc_25, nc_26, nc_27, nc_28, nc_29, nc_30, nc_31, nc_32, nc_33, nc_34, nc_35, nc_36, nc_40, nc_48, nc_100, nc_256, nc_300, nc_304, sh_8, rf_8_1, rf_8_2, rf_8_3, sh_9, sh_10, sh_358, rf_358_0, rf_358_1, sh_359, rf_359_0, rf_359_1, rf_359_2, gn, hcd, c1, c_isSpoon, mx_136, bI, g1, if_pos, if_neg, sh_0, sh_393, rw_copy, am_cp_ok]
    · have gs : 0 ≤ cd (k : Int) ∧ cd (k : Int) < 8 := by omega
      obtain ⟨o1, o2, o3, o4, o5, o6, o7, o8⟩ := a1.1
      obtain ⟨wd, qd, Cd, Fd⟩ := c_drawX (d := d + 4) (L := L) (T := T) (v := v) hT a1 Ck
      by_cases c2 : B.x.tmod 8 = 0
      · have e2 : dIter VT gv fl cd A (k + 1) = (B.draw, c) := by rw [ed, dStep, if_neg c1, if_pos c2]
        refine ⟨(some (.int (iI (cd (k : Int)))), wd), ⟨by rw [e2]; exact Cd, Fk.trans Fd⟩, ?_⟩
        dsimp only
        rw [e2, ec]
        dsimp only
        conv => lhs; rw [bk_173_5]
        simp (decide := true) (disch := omega) only [en_173, bk_173_0, bk_173_61, bk_173_67, bk_173_93, bq_173_0, bq_173_5, bq_173_61, bq_173_67, bq_173_70, bq_173_93, rn_iconst, rn_bipush, rn_sipush, rn_ldc_w, rn_ldc, rn_ldcS, rn_lconst, rn_ldc2, rn_gets, rn_iload0, rn_lload0, rn_aload0, rn_istore0, rn_astore0, rn_lstore0, rn_iinc0, rn_iload1, rn_lload1, rn_aload1, rn_istore1, rn_astore1, rn_lstore1, rn_iinc1, rn_iload2, rn_lload2, rn_aload2, rn_istore2, rn_astore2, rn_lstore2, rn_iinc2, rn_iload3, rn_lload3, rn_aload3, rn_istore3, rn_astore3, rn_lstore3, rn_iinc3, rn_iload4, rn_lload4, rn_aload4, rn_istore4, rn_astore4, rn_lstore4, rn_iinc4, rn_iload5, rn_lload5, rn_aload5, rn_istore5, rn_astore5, rn_lstore5, rn_iinc5, rn_iload6, rn_lload6, rn_aload6, rn_istore6, rn_astore6, rn_lstore6, rn_iinc6, rn_iload7, rn_aload7, rn_istore7, rn_astore7, rn_iinc7, rn_iload8, rn_aload8, rn_istore8, rn_astore8, rn_iinc8, rn_iload9, rn_aload9, rn_istore9, rn_astore9, rn_iinc9, rn_iadd, rn_isub, rn_imul, rn_iand, rn_ior, rn_ixor, rn_ishl, rn_ishr, rn_iushr, rn_idiv, rn_irem, rn_ineg, rn_ladd, rn_lsub, rn_lmul, rn_lor, rn_ldiv, rn_lrem, rn_lneg, rn_lshl, rn_lshr, rn_i2l, rn_l2i, rn_i2c, rn_lcmp, rn_dupi, rn_dupa, rn_popi, rn_popa, rn_dup2, rn_aast, rn_alen, rn_geta, rn_aald, rn_puta, rn_new, rn_newa, rn_anew, rn_min, rn_max, rn_slen, rn_chat, rn_indx, rn_objI, rn_nop, rn_goto, rn_ifeq, rn_ifne, rn_iflt, rn_ifge, rn_ifgt, rn_ifle, rn_iceq, rn_icne, rn_iclt, rn_icge, rn_icgt, rn_icle, rn_tsw, rn_lsw, rn_iret, rn_zret, rn_lret, rn_aret, rn_vret, rn_cs0, rn_cs1, rn_cs2, rn_cs3, rn_cs4, rn_cs5, rn_cs6, rn_cs7, rn_cv1, rn_ci1, rn_cv2, rn_ci2, rn_cv3, rn_ci3, rn_cv4, rn_cv5, rn_cv6, rn_cv7, cs_n, cs_i, cs_a, cs_l, rc_i, rc_a, rc_l, rc_n, rw_iald, rw_bald, rw_lald, rw_iast, rw_bast, rw_last, rw_geti, rw_getl, rw_puti, rw_putz, rw_putl, iI_add, iI_sub, iI_mul, iI_neg, iI_lt, iI_le, iI_eq, iI_lt0, iI_le0, iI_0lt, iI_0le, iI_eq0, iI_eq1, iI_div, iI_rem, am_in_ok, am_in_no, iI_toInt, iL_add, iL_sub, iL_mul, iL_neg, iL_div, iL_rem, iI_i2l, iL_l2i, iL_cmp, iL_eq0, iI_or, iI_and, iI_shl, if_true, if_false, true_or, or_true, true_and, and_true, false_or, or_false, not_true_eq_false, not_false_eq_true, Option.bind_some, Option.toList_some, Option.toList_none, List.nil_append, List.cons_append, ite_self, nc_0, nc_1, nc_2, nc_3, nc_4, nc_5, nc_6, nc_7, nc_8, nc_9, nc_10, nc_11, nc_12, nc_13, nc_14, nc_15, nc_16, nc_17, nc_18, nc_19, nc_20, nc_21, nc_22, nc_23, nc_24, nc_25, nc_26, nc_27, nc_28, nc_29, nc_30, nc_31, nc_32, nc_33, nc_34, nc_35, nc_36, nc_40, nc_48, nc_100, nc_256, nc_300, nc_304, sh_8, rf_8_1, rf_8_2, rf_8_3, sh_9, sh_10, sh_358, rf_358_0, rf_358_1, sh_359, rf_359_0, rf_359_1, rf_359_2, t1, gn, hcd, c_isSpoon, mx_136, mx_233, bI_t gs, qd, c2, g1, if_pos, if_neg, sh_0, sh_393, rw_copy, am_cp_ok]
      · obtain ⟨we, qe, Ce, Fe⟩ := c_eatAt (d := d) (L := L) (T := T) (o := o) (n := n) (v := v) ha ht a1.draw hN Cd (Gk.fr ht Fd) (Kk.fr ha ht Fd) gs.1 gs.2 (show 0 ≤ (k : Int) by omega) (by omega)
        have e2 : dIter VT gv fl cd A (k + 1) = ((B.draw.md (tasteV VT B.draw gv fl (k : Int) (cd (k : Int)))).put (cd (k : Int)) (k : Int) (gv (k : Int)), c + 1) := by rw [ed, dStep, if_neg c1, if_neg c2]
        refine ⟨(some (.int (iI (cd (k : Int)))), we), ⟨by rw [e2]; exact Ce, (Fk.trans Fd).trans Fe⟩, ?_⟩
        dsimp only
        rw [e2, ec]
        dsimp only
        conv => lhs; rw [bk_173_5]
        have r8 : -8 < B.x.tmod 8 ∧ B.x.tmod 8 < 8 := by rw [Int.tmod_eq_emod_of_nonneg (by omega)]; omega
        simp (decide := true) (disch := omega) only [en_173, bk_173_0, bk_173_61, bk_173_67, bk_173_93, bq_173_0, bq_173_5, bq_173_61, bq_173_67, bq_173_70, bq_173_93, rn_iconst, rn_bipush, rn_sipush, rn_ldc_w, rn_ldc, rn_ldcS, rn_lconst, rn_ldc2, rn_gets, rn_iload0, rn_lload0, rn_aload0, rn_istore0, rn_astore0, rn_lstore0, rn_iinc0, rn_iload1, rn_lload1, rn_aload1, rn_istore1, rn_astore1, rn_lstore1, rn_iinc1, rn_iload2, rn_lload2, rn_aload2, rn_istore2, rn_astore2, rn_lstore2, rn_iinc2, rn_iload3, rn_lload3, rn_aload3, rn_istore3, rn_astore3, rn_lstore3, rn_iinc3, rn_iload4, rn_lload4, rn_aload4, rn_istore4, rn_astore4, rn_lstore4, rn_iinc4, rn_iload5, rn_lload5, rn_aload5, rn_istore5, rn_astore5, rn_lstore5, rn_iinc5, rn_iload6, rn_lload6, rn_aload6, rn_istore6, rn_astore6, rn_lstore6, rn_iinc6, rn_iload7, rn_aload7, rn_istore7, rn_astore7, rn_iinc7, rn_iload8, rn_aload8, rn_istore8, rn_astore8, rn_iinc8, rn_iload9, rn_aload9, rn_istore9, rn_astore9, rn_iinc9, rn_iadd, rn_isub, rn_imul, rn_iand, rn_ior, rn_ixor, rn_ishl, rn_ishr, rn_iushr, rn_idiv, rn_irem, rn_ineg, rn_ladd, rn_lsub, rn_lmul, rn_lor, rn_ldiv, rn_lrem, rn_lneg, rn_lshl, rn_lshr, rn_i2l, rn_l2i, rn_i2c, rn_lcmp, rn_dupi, rn_dupa, rn_popi, rn_popa, rn_dup2, rn_aast, rn_alen, rn_geta, rn_aald, rn_puta, rn_new, rn_newa, rn_anew, rn_min, rn_max, rn_slen, rn_chat, rn_indx, rn_objI, rn_nop, rn_goto, rn_ifeq, rn_ifne, rn_iflt, rn_ifge, rn_ifgt, rn_ifle, rn_iceq, rn_icne, rn_iclt, rn_icge, rn_icgt, rn_icle, rn_tsw, rn_lsw, rn_iret, rn_zret, rn_lret, rn_aret, rn_vret, rn_cs0, rn_cs1, rn_cs2, rn_cs3, rn_cs4, rn_cs5, rn_cs6, rn_cs7, rn_cv1, rn_ci1, rn_cv2, rn_ci2, rn_cv3, rn_ci3, rn_cv4, rn_cv5, rn_cv6, rn_cv7, cs_n, cs_i, cs_a, cs_l, rc_i, rc_a, rc_l, rc_n, rw_iald, rw_bald, rw_lald, rw_iast, rw_bast, rw_last, rw_geti, rw_getl, rw_puti, rw_putz, rw_putl, iI_add, iI_sub, iI_mul, iI_neg, iI_lt, iI_le, iI_eq, iI_lt0, iI_le0, iI_0lt, iI_0le, iI_eq0, iI_eq1, iI_div, iI_rem, am_in_ok, am_in_no, iI_toInt, iL_add, iL_sub, iL_mul, iL_neg, iL_div, iL_rem, iI_i2l, iL_l2i, iL_cmp, iL_eq0, iI_or, iI_and, iI_shl, if_true, if_false, true_or, or_true, true_and, and_true, false_or, or_false, not_true_eq_false, not_false_eq_true, Option.bind_some, Option.toList_some, Option.toList_none, List.nil_append, List.cons_append, ite_self, nc_0, nc_1, nc_2, nc_3, nc_4, nc_5, nc_6, nc_7, nc_8, nc_9, nc_10, nc_11, nc_12, nc_13, nc_14, nc_15, nc_16, nc_17, nc_18, nc_19, nc_20, nc_21, nc_22, nc_23, nc_24, nc_25, nc_26, nc_27, nc_28, nc_29, nc_30, nc_31, nc_32, nc_33, nc_34, nc_35, nc_36, nc_40, nc_48, nc_100, nc_256, nc_300, nc_304, sh_8, rf_8_1, rf_8_2, rf_8_3, sh_9, sh_10, sh_358, rf_358_0, rf_358_1, sh_359, rf_359_0, rf_359_1, rf_359_2, t1, gn, hcd, c_isSpoon, mx_136, mx_233, mx_139, bI_t gs, qd, qe, c2, g1, if_pos, if_neg, sh_0, sh_393, rw_copy, am_cp_ok]) (none, w) ⟨C, FrT.refl⟩
  obtain ⟨a1, a2, a3, a4⟩ := dI_ok (VT := VT) (fl := fl) O hN G.hc H (by omega)
  have eN : N.toNat = H := by omega
  have Gf := G.fr ht Ff
  have Kf := K.fr ha ht Ff
  have gn := Gf.gN
  unfold AT.pass AT.ate
  rw [eN]
  generalize hp : dIter VT gv fl cd A H = p at *
  obtain ⟨B, c⟩ := p
  dsimp only at *
  obtain ⟨wg, ⟨Cg, Fg⟩, eg⟩ := loop_p (fun (k : Nat) (p : Nat → Int → Int) => CRep p t (B.fadeN VF gv k) ∧ FrT t w p) (fun (k : Nat) (p : Nat → Int → Int) => am_run (d + 5) 173 (am_B 173 70) [some (.ref 358), some (.ref a), some (.ref t), some (.int (iI c)), some (.int (iI (k : Int))), jf] [] (L, T, S0 n, am_w p, v, R0 o)) 8 (by
    rintro k hk wk ⟨Ck, Fk⟩
    obtain ⟨b1, b2⟩ := fN_ok (VF := VF) (gv := gv) a1 k (by omega)
    obtain ⟨w2, q2, C2, F2⟩ := c_fadeSpoon (d := d) (L := L) (T := T) (o := o) (n := n) (v := v) (wt := -1) ha ht b1 hN Ck (G.fr ht Fk) (K.fr ha ht Fk) (show 0 ≤ (k : Int) by omega) (by omega) (by decide) (Or.inr rfl)
    have ek : ckp (-1) ((B.fadeN VF gv k).h (k : Int)) = -1 := by unfold ckp; rw [if_pos rfl]
    rw [ek] at q2
    have ec : ((k + 1 : Nat) : Int) = (k : Int) + 1 := by omega
    refine ⟨w2, ⟨C2, Fk.trans F2⟩, ?_⟩
    rw [ec]
    conv => lhs; rw [bk_173_70]
    simp (decide := true) (disch := omega) only [en_173, bk_173_0, bk_173_61, bk_173_67, bk_173_93, bq_173_0, bq_173_5, bq_173_61, bq_173_67, bq_173_70, bq_173_93, rn_iconst, rn_bipush, rn_sipush, rn_ldc_w, rn_ldc, rn_ldcS, rn_lconst, rn_ldc2, rn_gets, rn_iload0, rn_lload0, rn_aload0, rn_istore0, rn_astore0, rn_lstore0, rn_iinc0, rn_iload1, rn_lload1, rn_aload1, rn_istore1, rn_astore1, rn_lstore1, rn_iinc1, rn_iload2, rn_lload2, rn_aload2, rn_istore2, rn_astore2, rn_lstore2, rn_iinc2, rn_iload3, rn_lload3, rn_aload3, rn_istore3, rn_astore3, rn_lstore3, rn_iinc3, rn_iload4, rn_lload4, rn_aload4, rn_istore4, rn_astore4, rn_lstore4, rn_iinc4, rn_iload5, rn_lload5, rn_aload5, rn_istore5, rn_astore5, rn_lstore5, rn_iinc5, rn_iload6, rn_lload6, rn_aload6, rn_istore6, rn_astore6, rn_lstore6, rn_iinc6, rn_iload7, rn_aload7, rn_istore7, rn_astore7, rn_iinc7, rn_iload8, rn_aload8, rn_istore8, rn_astore8, rn_iinc8, rn_iload9, rn_aload9, rn_istore9, rn_astore9, rn_iinc9, rn_iadd, rn_isub, rn_imul, rn_iand, rn_ior, rn_ixor, rn_ishl, rn_ishr, rn_iushr, rn_idiv, rn_irem, rn_ineg, rn_ladd, rn_lsub, rn_lmul, rn_lor, rn_ldiv, rn_lrem, rn_lneg, rn_lshl, rn_lshr, rn_i2l, rn_l2i, rn_i2c, rn_lcmp, rn_dupi, rn_dupa, rn_popi, rn_popa, rn_dup2, rn_aast, rn_alen, rn_geta, rn_aald, rn_puta, rn_new, rn_newa, rn_anew, rn_min, rn_max, rn_slen, rn_chat, rn_indx, rn_objI, rn_nop, rn_goto, rn_ifeq, rn_ifne, rn_iflt, rn_ifge, rn_ifgt, rn_ifle, rn_iceq, rn_icne, rn_iclt, rn_icge, rn_icgt, rn_icle, rn_tsw, rn_lsw, rn_iret, rn_zret, rn_lret, rn_aret, rn_vret, rn_cs0, rn_cs1, rn_cs2, rn_cs3, rn_cs4, rn_cs5, rn_cs6, rn_cs7, rn_cv1, rn_ci1, rn_cv2, rn_ci2, rn_cv3, rn_ci3, rn_cv4, rn_cv5, rn_cv6, rn_cv7, cs_n, cs_i, cs_a, cs_l, rc_i, rc_a, rc_l, rc_n, rw_iald, rw_bald, rw_lald, rw_iast, rw_bast, rw_last, rw_geti, rw_getl, rw_puti, rw_putz, rw_putl, iI_add, iI_sub, iI_mul, iI_neg, iI_lt, iI_le, iI_eq, iI_lt0, iI_le0, iI_0lt, iI_0le, iI_eq0, iI_eq1, iI_div, iI_rem, am_in_ok, am_in_no, iI_toInt, iL_add, iL_sub, iL_mul, iL_neg, iL_div, iL_rem, iI_i2l, iL_l2i, iL_cmp, iL_eq0, iI_or, iI_and, iI_shl, if_true, if_false, true_or, or_true, true_and, and_true, false_or, or_false, not_true_eq_false, not_false_eq_true, Option.bind_some, Option.toList_some, Option.toList_none, List.nil_append, List.cons_append, ite_self, nc_0, nc_1, nc_2, nc_3, nc_4, nc_5, nc_6, nc_7, nc_8, nc_9, nc_10, nc_11, nc_12, nc_13, nc_14, nc_15, nc_16, nc_17, nc_18, nc_19, nc_20, nc_21, nc_22, nc_23, nc_24, nc_25, nc_26, nc_27, nc_28, nc_29, nc_30, nc_31, nc_32, nc_33, nc_34, nc_35, nc_36, nc_40, nc_48, nc_100, nc_256, nc_300, nc_304, sh_358, rf_358_0, rf_358_1, q2, mx_239, if_pos, if_neg, sh_0, sh_393, rw_copy, am_cp_ok]) wf ⟨Cf, Ff⟩
  refine ⟨upI wg t 6 ((B.fadeN VF gv 8).din + 1), ?_, Cg.nxt, fun b k1 k2 k3 => by rw [upI_c (by omega)]; exact Fg b k1 k2 k3⟩
  refine Eq.trans ?_ (ef.trans (Eq.trans ?_ (eg.trans ?_)))
  · have z0 : dIter VT gv fl cd A 0 = (A, 0) := rfl
    simp (decide := true) (disch := omega) only [en_173, bk_173_0, bk_173_61, bk_173_67, bk_173_93, bq_173_0, bq_173_5, bq_173_61, bq_173_67, bq_173_70, bq_173_93, rn_iconst, rn_bipush, rn_sipush, rn_ldc_w, rn_ldc, rn_ldcS, rn_lconst, rn_ldc2, rn_gets, rn_iload0, rn_lload0, rn_aload0, rn_istore0, rn_astore0, rn_lstore0, rn_iinc0, rn_iload1, rn_lload1, rn_aload1, rn_istore1, rn_astore1, rn_lstore1, rn_iinc1, rn_iload2, rn_lload2, rn_aload2, rn_istore2, rn_astore2, rn_lstore2, rn_iinc2, rn_iload3, rn_lload3, rn_aload3, rn_istore3, rn_astore3, rn_lstore3, rn_iinc3, rn_iload4, rn_lload4, rn_aload4, rn_istore4, rn_astore4, rn_lstore4, rn_iinc4, rn_iload5, rn_lload5, rn_aload5, rn_istore5, rn_astore5, rn_lstore5, rn_iinc5, rn_iload6, rn_lload6, rn_aload6, rn_istore6, rn_astore6, rn_lstore6, rn_iinc6, rn_iload7, rn_aload7, rn_istore7, rn_astore7, rn_iinc7, rn_iload8, rn_aload8, rn_istore8, rn_astore8, rn_iinc8, rn_iload9, rn_aload9, rn_istore9, rn_astore9, rn_iinc9, rn_iadd, rn_isub, rn_imul, rn_iand, rn_ior, rn_ixor, rn_ishl, rn_ishr, rn_iushr, rn_idiv, rn_irem, rn_ineg, rn_ladd, rn_lsub, rn_lmul, rn_lor, rn_ldiv, rn_lrem, rn_lneg, rn_lshl, rn_lshr, rn_i2l, rn_l2i, rn_i2c, rn_lcmp, rn_dupi, rn_dupa, rn_popi, rn_popa, rn_dup2, rn_aast, rn_alen, rn_geta, rn_aald, rn_puta, rn_new, rn_newa, rn_anew, rn_min, rn_max, rn_slen, rn_chat, rn_indx, rn_objI, rn_nop, rn_goto, rn_ifeq, rn_ifne, rn_iflt, rn_ifge, rn_ifgt, rn_ifle, rn_iceq, rn_icne, rn_iclt, rn_icge, rn_icgt, rn_icle, rn_tsw, rn_lsw, rn_iret, rn_zret, rn_lret, rn_aret, rn_vret, rn_cs0, rn_cs1, rn_cs2, rn_cs3, rn_cs4, rn_cs5, rn_cs6, rn_cs7, rn_cv1, rn_ci1, rn_cv2, rn_ci2, rn_cv3, rn_ci3, rn_cv4, rn_cv5, rn_cv6, rn_cv7, cs_n, cs_i, cs_a, cs_l, rc_i, rc_a, rc_l, rc_n, rw_iald, rw_bald, rw_lald, rw_iast, rw_bast, rw_last, rw_geti, rw_getl, rw_puti, rw_putz, rw_putl, iI_add, iI_sub, iI_mul, iI_neg, iI_lt, iI_le, iI_eq, iI_lt0, iI_le0, iI_0lt, iI_0le, iI_eq0, iI_eq1, iI_div, iI_rem, am_in_ok, am_in_no, iI_toInt, iL_add, iL_sub, iL_mul, iL_neg, iL_div, iL_rem, iI_i2l, iL_l2i, iL_cmp, iL_eq0, iI_or, iI_and, iI_shl, if_true, if_false, true_or, or_true, true_and, and_true, false_or, or_false, not_true_eq_false, not_false_eq_true, Option.bind_some, Option.toList_some, Option.toList_none, List.nil_append, List.cons_append, ite_self, nc_0, nc_1, nc_2, nc_3, nc_4, nc_5, nc_6, nc_7, nc_8, nc_9, nc_10, nc_11, nc_12, nc_13, nc_14, nc_15, nc_16, nc_17, nc_18, nc_19, nc_20, nc_21, nc_22, nc_23, nc_24, nc_25, nc_26, nc_27, nc_28, nc_29, nc_30, nc_31, nc_32, nc_33, nc_34, nc_35, nc_36, nc_40, nc_48, nc_100, nc_256, nc_300, nc_304, z0, if_pos, if_neg, sh_0, sh_393, rw_copy, am_cp_ok]
  · conv => lhs; rw [bk_173_5]
    simp (decide := true) (disch := omega) only [en_173, bk_173_0, bk_173_61, bk_173_67, bk_173_93, bq_173_0, bq_173_5, bq_173_61, bq_173_67, bq_173_70, bq_173_93, rn_iconst, rn_bipush, rn_sipush, rn_ldc_w, rn_ldc, rn_ldcS, rn_lconst, rn_ldc2, rn_gets, rn_iload0, rn_lload0, rn_aload0, rn_istore0, rn_astore0, rn_lstore0, rn_iinc0, rn_iload1, rn_lload1, rn_aload1, rn_istore1, rn_astore1, rn_lstore1, rn_iinc1, rn_iload2, rn_lload2, rn_aload2, rn_istore2, rn_astore2, rn_lstore2, rn_iinc2, rn_iload3, rn_lload3, rn_aload3, rn_istore3, rn_astore3, rn_lstore3, rn_iinc3, rn_iload4, rn_lload4, rn_aload4, rn_istore4, rn_astore4, rn_lstore4, rn_iinc4, rn_iload5, rn_lload5, rn_aload5, rn_istore5, rn_astore5, rn_lstore5, rn_iinc5, rn_iload6, rn_lload6, rn_aload6, rn_istore6, rn_astore6, rn_lstore6, rn_iinc6, rn_iload7, rn_aload7, rn_istore7, rn_astore7, rn_iinc7, rn_iload8, rn_aload8, rn_istore8, rn_astore8, rn_iinc8, rn_iload9, rn_aload9, rn_istore9, rn_astore9, rn_iinc9, rn_iadd, rn_isub, rn_imul, rn_iand, rn_ior, rn_ixor, rn_ishl, rn_ishr, rn_iushr, rn_idiv, rn_irem, rn_ineg, rn_ladd, rn_lsub, rn_lmul, rn_lor, rn_ldiv, rn_lrem, rn_lneg, rn_lshl, rn_lshr, rn_i2l, rn_l2i, rn_i2c, rn_lcmp, rn_dupi, rn_dupa, rn_popi, rn_popa, rn_dup2, rn_aast, rn_alen, rn_geta, rn_aald, rn_puta, rn_new, rn_newa, rn_anew, rn_min, rn_max, rn_slen, rn_chat, rn_indx, rn_objI, rn_nop, rn_goto, rn_ifeq, rn_ifne, rn_iflt, rn_ifge, rn_ifgt, rn_ifle, rn_iceq, rn_icne, rn_iclt, rn_icge, rn_icgt, rn_icle, rn_tsw, rn_lsw, rn_iret, rn_zret, rn_lret, rn_aret, rn_vret, rn_cs0, rn_cs1, rn_cs2, rn_cs3, rn_cs4, rn_cs5, rn_cs6, rn_cs7, rn_cv1, rn_ci1, rn_cv2, rn_ci2, rn_cv3, rn_ci3, rn_cv4, rn_cv5, rn_cv6, rn_cv7, cs_n, cs_i, cs_a, cs_l, rc_i, rc_a, rc_l, rc_n, rw_iald, rw_bald, rw_lald, rw_iast, rw_bast, rw_last, rw_geti, rw_getl, rw_puti, rw_putz, rw_putl, iI_add, iI_sub, iI_mul, iI_neg, iI_lt, iI_le, iI_eq, iI_lt0, iI_le0, iI_0lt, iI_0le, iI_eq0, iI_eq1, iI_div, iI_rem, am_in_ok, am_in_no, iI_toInt, iL_add, iL_sub, iL_mul, iL_neg, iL_div, iL_rem, iI_i2l, iL_l2i, iL_cmp, iL_eq0, iI_or, iI_and, iI_shl, if_true, if_false, true_or, or_true, true_and, and_true, false_or, or_false, not_true_eq_false, not_false_eq_true, Option.bind_some, Option.toList_some, Option.toList_none, List.nil_append, List.cons_append, ite_self, nc_0, nc_1, nc_2, nc_3, nc_4, nc_5, nc_6, nc_7, nc_8, nc_9, nc_10, nc_11, nc_12, nc_13, nc_14, nc_15, nc_16, nc_17, nc_18, nc_19, nc_20, nc_21, nc_22, nc_23, nc_24, nc_25, nc_26, nc_27, nc_28, nc_29, nc_30, nc_31, nc_32, nc_33, nc_34, nc_35, nc_36, nc_40, nc_48, nc_100, nc_256, nc_300, nc_304, sh_8, rf_8_1, rf_8_2, rf_8_3, sh_9, sh_10, sh_358, rf_358_0, rf_358_1, sh_359, rf_359_0, rf_359_1, rf_359_2, gn, hH, Int.le_refl, if_pos, if_neg, sh_0, sh_393, rw_copy, am_cp_ok]
  · have cd6 := Cg.d
    conv => lhs; rw [bk_173_70]
    simp (decide := true) (disch := omega) only [en_173, bk_173_0, bk_173_61, bk_173_67, bk_173_93, bq_173_0, bq_173_5, bq_173_61, bq_173_67, bq_173_70, bq_173_93, rn_iconst, rn_bipush, rn_sipush, rn_ldc_w, rn_ldc, rn_ldcS, rn_lconst, rn_ldc2, rn_gets, rn_iload0, rn_lload0, rn_aload0, rn_istore0, rn_astore0, rn_lstore0, rn_iinc0, rn_iload1, rn_lload1, rn_aload1, rn_istore1, rn_astore1, rn_lstore1, rn_iinc1, rn_iload2, rn_lload2, rn_aload2, rn_istore2, rn_astore2, rn_lstore2, rn_iinc2, rn_iload3, rn_lload3, rn_aload3, rn_istore3, rn_astore3, rn_lstore3, rn_iinc3, rn_iload4, rn_lload4, rn_aload4, rn_istore4, rn_astore4, rn_lstore4, rn_iinc4, rn_iload5, rn_lload5, rn_aload5, rn_istore5, rn_astore5, rn_lstore5, rn_iinc5, rn_iload6, rn_lload6, rn_aload6, rn_istore6, rn_astore6, rn_lstore6, rn_iinc6, rn_iload7, rn_aload7, rn_istore7, rn_astore7, rn_iinc7, rn_iload8, rn_aload8, rn_istore8, rn_astore8, rn_iinc8, rn_iload9, rn_aload9, rn_istore9, rn_astore9, rn_iinc9, rn_iadd, rn_isub, rn_imul, rn_iand, rn_ior, rn_ixor, rn_ishl, rn_ishr, rn_iushr, rn_idiv, rn_irem, rn_ineg, rn_ladd, rn_lsub, rn_lmul, rn_lor, rn_ldiv, rn_lrem, rn_lneg, rn_lshl, rn_lshr, rn_i2l, rn_l2i, rn_i2c, rn_lcmp, rn_dupi, rn_dupa, rn_popi, rn_popa, rn_dup2, rn_aast, rn_alen, rn_geta, rn_aald, rn_puta, rn_new, rn_newa, rn_anew, rn_min, rn_max, rn_slen, rn_chat, rn_indx, rn_objI, rn_nop, rn_goto, rn_ifeq, rn_ifne, rn_iflt, rn_ifge, rn_ifgt, rn_ifle, rn_iceq, rn_icne, rn_iclt, rn_icge, rn_icgt, rn_icle, rn_tsw, rn_lsw, rn_iret, rn_zret, rn_lret, rn_aret, rn_vret, rn_cs0, rn_cs1, rn_cs2, rn_cs3, rn_cs4, rn_cs5, rn_cs6, rn_cs7, rn_cv1, rn_ci1, rn_cv2, rn_ci2, rn_cv3, rn_ci3, rn_cv4, rn_cv5, rn_cv6, rn_cv7, cs_n, cs_i, cs_a, cs_l, rc_i, rc_a, rc_l, rc_n, rw_iald, rw_bald, rw_lald, rw_iast, rw_bast, rw_last, rw_geti, rw_getl, rw_puti, rw_putz, rw_putl, iI_add, iI_sub, iI_mul, iI_neg, iI_lt, iI_le, iI_eq, iI_lt0, iI_le0, iI_0lt, iI_0le, iI_eq0, iI_eq1, iI_div, iI_rem, am_in_ok, am_in_no, iI_toInt, iL_add, iL_sub, iL_mul, iL_neg, iL_div, iL_rem, iI_i2l, iL_l2i, iL_cmp, iL_eq0, iI_or, iI_and, iI_shl, if_true, if_false, true_or, or_true, true_and, and_true, false_or, or_false, not_true_eq_false, not_false_eq_true, Option.bind_some, Option.toList_some, Option.toList_none, List.nil_append, List.cons_append, ite_self, nc_0, nc_1, nc_2, nc_3, nc_4, nc_5, nc_6, nc_7, nc_8, nc_9, nc_10, nc_11, nc_12, nc_13, nc_14, nc_15, nc_16, nc_17, nc_18, nc_19, nc_20, nc_21, nc_22, nc_23, nc_24, nc_25, nc_26, nc_27, nc_28, nc_29, nc_30, nc_31, nc_32, nc_33, nc_34, nc_35, nc_36, nc_40, nc_48, nc_100, nc_256, nc_300, nc_304, t1, cd6, Int.le_refl, if_pos, if_neg, sh_0, sh_393, rw_copy, am_cp_ok]
end DC
