/-! the table, as it is meant: both sides are held against it -/
def AT : Type := (Int × Int × Int × Int) × (Int → Int) × (Int → Int → Int) × (Int → Int → Int) × (Int → Int → Int)
def AT.mk (a b c e : Int) (h : Int → Int) (m g k : Int → Int → Int) : AT := ((a, b, c, e), h, m, g, k)
def AT.din (A : AT) : Int := A.1.1
def AT.x (A : AT) : Int := A.1.2.1
def AT.mood (A : AT) : Int := A.1.2.2.1
def AT.nb (A : AT) : Int := A.1.2.2.2
def AT.h (A : AT) : Int → Int := A.2.1
def AT.m (A : AT) : Int → Int → Int := A.2.2.1
def AT.g (A : AT) : Int → Int → Int := A.2.2.2.1
def AT.b (A : AT) : Int → Int → Int := A.2.2.2.2
def AT.take (A : AT) (s i : Int) : AT := AT.mk A.din A.x A.mood A.nb (fun q => if q = s then A.h s - 1 else A.h q) (fun q k => if q = s ∧ i ≤ k then A.m s (k + 1) else A.m q k) (fun q k => if q = s ∧ i ≤ k then A.g s (k + 1) else A.g q k) A.b
def AT.str (A : AT) (s i z : Int) : AT := AT.mk A.din A.x A.mood A.nb A.h A.m (fun q k => if q = s ∧ k = i then z else A.g q k) A.b
def AT.push (A : AT) (s e z : Int) : AT := AT.mk A.din A.x A.mood A.nb (fun q => if q = s then A.h s + 1 else A.h q) (fun q k => if q = s then (if k = 0 then e else A.m s (k - 1)) else A.m q k) (fun q k => if q = s then (if k = 0 then z else A.g s (k - 1)) else A.g q k) A.b
def AT.top (A : AT) (s : Int) : Int := if 0 < A.h s then A.m s 0 else -1
def AT.line (A : AT) (c s k : Int) : Int := if k = 0 then A.din else if k = 1 then c else if k = 2 then s else A.top s
def AT.wr (A : AT) (c s : Int) : AT := if A.nb < 25 then AT.mk A.din A.x A.mood (A.nb + 1) A.h A.m A.g (fun i k => if i = A.nb then A.line c s k else A.b i k) else AT.mk A.din A.x A.mood 25 A.h A.m A.g (fun i k => if i = 24 then A.line c s k else A.b (i + 1) k)
def AT.draw (A : AT) : AT := AT.mk A.din ((A.x * 727 + 593).tmod 31051) A.mood A.nb A.h A.m A.g A.b
def clmp (lo hi z : Int) : Int := if z < lo then lo else if hi < z then hi else z
def AT.md (A : AT) (z : Int) : AT := AT.mk A.din A.x (clmp (-99999) 99999 (A.mood + z)) A.nb A.h A.m A.g A.b
def AT.nxt (A : AT) : AT := AT.mk (A.din + 1) A.x A.mood A.nb A.h A.m A.g A.b
def AOk (A : AT) (n : Int) : Prop := (0 ≤ A.din ∧ A.din ≤ 9999 ∧ 0 ≤ A.x ∧ A.x ≤ 31050 ∧ -99999 ≤ A.mood ∧ A.mood ≤ 99999 ∧ 0 ≤ A.nb ∧ A.nb ≤ 25) ∧
  (∀ s, 0 ≤ s → s < 8 → 0 ≤ A.h s ∧ A.h s ≤ 5) ∧
  (∀ s i, 0 ≤ s → s < 8 → 0 ≤ i → i < A.h s → 0 ≤ A.m s i ∧ A.m s i < n ∧ 1 ≤ A.g s i ∧ A.g s i ≤ 99) ∧
  (∀ i, 0 ≤ i → i < A.nb → 0 ≤ A.b i 0 ∧ A.b i 0 ≤ 9999 ∧ 0 ≤ A.b i 1 ∧ A.b i 1 ≤ 2 ∧ 0 ≤ A.b i 2 ∧ A.b i 2 ≤ 7 ∧ -1 ≤ A.b i 3 ∧ A.b i 3 ≤ 5)
theorem AOk.h {A : AT} {n : Int} (O : AOk A n) : ∀ s, 0 ≤ s → s < 8 → 0 ≤ A.h s ∧ A.h s ≤ 5 := O.2.1
theorem AOk.l {A : AT} {n : Int} (O : AOk A n) : ∀ s i, 0 ≤ s → s < 8 → 0 ≤ i → i < A.h s → 0 ≤ A.m s i ∧ A.m s i < n ∧ 1 ≤ A.g s i ∧ A.g s i ≤ 99 := O.2.2.1
theorem AOk.b {A : AT} {n : Int} (O : AOk A n) : ∀ i, 0 ≤ i → i < A.nb → 0 ≤ A.b i 0 ∧ A.b i 0 ≤ 9999 ∧ 0 ≤ A.b i 1 ∧ A.b i 1 ≤ 2 ∧ 0 ≤ A.b i 2 ∧ A.b i 2 ≤ 7 ∧ -1 ≤ A.b i 3 ∧ A.b i 3 ≤ 5 := O.2.2.2
def CRep (w : Nat → Int → Int) (t : Nat) (A : AT) : Prop := w t 6 = A.din ∧ w t 7 = A.x ∧ w t 5 = A.mood ∧ w t 4 = A.nb ∧ (∀ s, 0 ≤ s → s < 8 → w (t + 3) s = A.h s) ∧
  (∀ s i, 0 ≤ s → s < 8 → 0 ≤ i → i < A.h s → w (t + 1) (s * 5 + (A.h s - 1 - i)) = A.m s i ∧ w (t + 2) (s * 5 + (A.h s - 1 - i)) = A.g s i) ∧
  (∀ i k, 0 ≤ i → i < A.nb → 0 ≤ k → k < 4 → w (t + 4) (i * 4 + k) = A.b i k)
section CR
variable {t : Nat} {w : Nat → Int → Int} {A : AT}
theorem CRep.d (C : CRep w t A) : w t 6 = A.din := C.1
theorem CRep.x (C : CRep w t A) : w t 7 = A.x := C.2.1
theorem CRep.m (C : CRep w t A) : w t 5 = A.mood := C.2.2.1
theorem CRep.nb (C : CRep w t A) : w t 4 = A.nb := C.2.2.2.1
theorem CRep.h (C : CRep w t A) : ∀ s, 0 ≤ s → s < 8 → w (t + 3) s = A.h s := C.2.2.2.2.1
theorem CRep.l (C : CRep w t A) : ∀ s i, 0 ≤ s → s < 8 → 0 ≤ i → i < A.h s → w (t + 1) (s * 5 + (A.h s - 1 - i)) = A.m s i ∧ w (t + 2) (s * 5 + (A.h s - 1 - i)) = A.g s i := C.2.2.2.2.2.1
theorem CRep.b (C : CRep w t A) : ∀ i k, 0 ≤ i → i < A.nb → 0 ≤ k → k < 4 → w (t + 4) (i * 4 + k) = A.b i k := C.2.2.2.2.2.2
end CR
/-- what a table's step leaves -/
def FrT (t : Nat) (w w2 : Nat → Int → Int) : Prop := ∀ a, (a < t ∨ t + 4 < a) → a ≠ 360 → a ≠ 361 → w2 a = w a
theorem FrT.refl {t : Nat} {w : Nat → Int → Int} : FrT t w w := fun _ _ _ _ => rfl
theorem FrT.trans {t : Nat} {w w1 w2 : Nat → Int → Int} (h : FrT t w w1) (k : FrT t w1 w2) : FrT t w w2 := fun a g g1 g2 => (k a g g1 g2).trans (h a g g1 g2)
/-- cells a of these rows, moved down by one in [lo, lo + k) -/
def shD (w : Nat → Int → Int) (A1 A2 : Nat) (lo : Int) (k : Int) : Nat → Int → Int := fun a e => if (a = A1 ∨ a = A2) ∧ lo ≤ e ∧ e < lo + k then w a (e + 1) else w a e
theorem shD_0 {w : Nat → Int → Int} {A1 A2 : Nat} {lo : Int} : shD w A1 A2 lo 0 = w := by
  funext a e; unfold shD; rw [if_neg (by omega)]
theorem shD_n {w : Nat → Int → Int} {A1 A2 a : Nat} {lo k e : Int} (h1 : a ≠ A1) (h2 : a ≠ A2) : shD w A1 A2 lo k a e = w a e := by
  unfold shD; rw [if_neg (by omega)]
theorem shD_hi {w : Nat → Int → Int} {A1 A2 a : Nat} {lo k e : Int} (h : lo + k ≤ e) : shD w A1 A2 lo k a e = w a e := by
  unfold shD; rw [if_neg (by omega)]
theorem shD_s {w : Nat → Int → Int} {A1 A2 : Nat} {lo k p : Int} (hk : 0 ≤ k) (hp : p = lo + k) : upI (upI (shD w A1 A2 lo k) A1 p (w A1 (p + 1))) A2 p (w A2 (p + 1)) = shD w A1 A2 lo (k + 1) := by
  subst hp
  funext a e
  unfold upI shD
  by_cases e1 : a = A2 ∧ e = lo + k
  · rw [if_pos e1, if_pos (by omega), e1.1, e1.2]
  · rw [if_neg e1]
    by_cases e2 : a = A1 ∧ e = lo + k
    · rw [if_pos e2, if_pos (by omega), e2.1, e2.2]
    · rw [if_neg e2]
      by_cases e3 : (a = A1 ∨ a = A2) ∧ lo ≤ e ∧ e < lo + k
      · rw [if_pos e3, if_pos (by omega)]
      · rw [if_neg e3, if_neg (by omega)]
section CT
variable {d t L T : Nat} {S : Nat → Nat × Nat} {w : Nat → Int → Int} {v : Nat → Nat → Int64} {r : Nat → Nat → Option Nat} {A : AT}
theorem CRep.view (C : CRep w t A) {s i : Int} (h0 : 0 ≤ s) (h1 : s < 8) (i0 : 0 ≤ i) (i1 : i < A.h s) : tM w t s i = A.m s i ∧ tS w t s i = A.g s i := by
  have hh := C.h s h0 h1
  have hl := C.l s i h0 h1 i0 i1
  unfold tM tS
  rw [hh, if_pos ⟨i0, i1⟩, if_pos ⟨i0, i1⟩]
  exact hl
theorem CRep.top (C : CRep w t A) {s : Int} (h0 : 0 ≤ s) (h1 : s < 8) : tM w t s 0 = A.top s := by
  have hh := C.h s h0 h1
  unfold AT.top
  split
  · rename_i g; exact (C.view h0 h1 (Int.le_refl 0) g).1
  · unfold tM; rw [if_neg (by omega)]
set_option maxHeartbeats 1000000 in
theorem c_takeFrom (hT : TbS S r t) {n : Int} (O : AOk A n) (C : CRep w t A) {s p : Int} (h0 : 0 ≤ s) (h1 : s < 8) (p0 : 0 ≤ p) (p1 : p < A.h s) :
    ∃ w2, am_call d 266 [.ref t, .int (iI s), .int (iI p)] (L, T, S, am_w w, v, r) = some (none, (L, T, S, am_w w2, v, r)) ∧ CRep w2 t (A.take s (A.h s - 1 - p)) ∧ FrT t w w2 := by
  obtain ⟨t1, t2, t3, t4, t5, t6, t7, t8, t9⟩ := hT
  have ch := C.h s h0 h1
  have hh := O.h s h0 h1
  obtain ⟨N, hN⟩ := Int.eq_ofNat_of_zero_le (show 0 ≤ A.h s - 1 - p by omega)
  refine ⟨upI (shD w (t + 1) (t + 2) (s * 5 + p) N) (t + 3) s (A.h s - 1), ?_, ?_, ?_⟩
  · refine Eq.trans ?_ ((loop_up (fun k : Nat => am_run d 266 (am_B 266 7) [some (.ref t), some (.int (iI s)), some (.int (iI p)), some (.int (iI (s * 5))), some (.int (iI (p + (k : Int))))] [] (L, T, S, am_w (shD w (t + 1) (t + 2) (s * 5 + p) (k : Int)), v, r)) N ?_).trans ?_)
    · simp (decide := true) (disch := omega) only [en_266, bk_266_0, bk_266_66, bq_266_0, bq_266_7, bq_266_66, rn_iconst, rn_bipush, rn_sipush, rn_ldc_w, rn_ldc, rn_ldcS, rn_lconst, rn_ldc2, rn_gets, rn_iload0, rn_lload0, rn_aload0, rn_istore0, rn_astore0, rn_lstore0, rn_iinc0, rn_iload1, rn_lload1, rn_aload1, rn_istore1, rn_astore1, rn_lstore1, rn_iinc1, rn_iload2, rn_lload2, rn_aload2, rn_istore2, rn_astore2, rn_lstore2, rn_iinc2, rn_iload3, rn_lload3, rn_aload3, rn_istore3, rn_astore3, rn_lstore3, rn_iinc3, rn_iload4, rn_lload4, rn_aload4, rn_istore4, rn_astore4, rn_lstore4, rn_iinc4, rn_iload5, rn_lload5, rn_aload5, rn_istore5, rn_astore5, rn_lstore5, rn_iinc5, rn_iload6, rn_lload6, rn_aload6, rn_istore6, rn_astore6, rn_lstore6, rn_iinc6, rn_iload7, rn_aload7, rn_istore7, rn_astore7, rn_iinc7, rn_iload8, rn_aload8, rn_istore8, rn_astore8, rn_iinc8, rn_iload9, rn_aload9, rn_istore9, rn_astore9, rn_iinc9, rn_iadd, rn_isub, rn_imul, rn_iand, rn_ior, rn_ixor, rn_ishl, rn_ishr, rn_iushr, rn_idiv, rn_irem, rn_ineg, rn_ladd, rn_lsub, rn_lmul, rn_lor, rn_ldiv, rn_lrem, rn_lneg, rn_lshl, rn_lshr, rn_i2l, rn_l2i, rn_i2c, rn_lcmp, rn_dupi, rn_dupa, rn_popi, rn_popa, rn_dup2, rn_aast, rn_alen, rn_geta, rn_aald, rn_puta, rn_new, rn_newa, rn_anew, rn_min, rn_max, rn_slen, rn_chat, rn_indx, rn_objI, rn_nop, rn_goto, rn_ifeq, rn_ifne, rn_iflt, rn_ifge, rn_ifgt, rn_ifle, rn_iceq, rn_icne, rn_iclt, rn_icge, rn_icgt, rn_icle, rn_tsw, rn_lsw, rn_iret, rn_zret, rn_lret, rn_aret, rn_vret, rn_cs0, rn_cs1, rn_cs2, rn_cs3, rn_cs4, rn_cs5, rn_cs6, rn_cs7, rn_cv1, rn_ci1, rn_cv2, rn_ci2, rn_cv3, rn_ci3, rn_cv4, rn_cv5, rn_cv6, rn_cv7, cs_n, cs_i, cs_a, cs_l, rc_i, rc_a, rc_l, rc_n, rw_iald, rw_bald, rw_lald, rw_iast, rw_bast, rw_last, rw_geti, rw_getl, rw_puti, rw_putz, rw_putl, iI_add, iI_sub, iI_mul, iI_neg, iI_lt, iI_le, iI_eq, iI_lt0, iI_le0, iI_0lt, iI_0le, iI_eq0, iI_eq1, iI_div, iI_rem, am_in_ok, am_in_no, iI_toInt, iL_add, iL_sub, iL_mul, iL_neg, iL_div, iL_rem, iI_i2l, iL_l2i, iL_cmp, iL_eq0, iI_or, iI_and, iI_shl, if_true, if_false, true_or, or_true, true_and, and_true, false_or, or_false, not_true_eq_false, not_false_eq_true, Option.bind_some, Option.toList_some, Option.toList_none, List.nil_append, List.cons_append, ite_self, nc_0, nc_1, nc_2, nc_3, nc_4, nc_5, nc_6, nc_7, nc_8, nc_9, nc_10, nc_11, nc_12, nc_13, nc_14, nc_15, nc_16, nc_17, nc_18, nc_19, nc_20, nc_21, nc_22, nc_23, nc_24, nc_25, nc_26, nc_27, nc_28, nc_29, nc_30, nc_31, nc_32, nc_33, nc_34, nc_35, nc_36, nc_40, nc_48, nc_100, nc_256, nc_300, nc_304, Int.add_zero, shD_0]
    · intro k hk
      conv => lhs; rw [bk_266_7]
      have g1 : ¬ A.h s - 1 ≤ p + (k : Int) := by omega
      have e1 : shD w (t + 1) (t + 2) (s * 5 + p) (k : Int) (t + 3) s = A.h s := by rw [shD_n (by omega) (by omega), ch]
      have e2 : shD w (t + 1) (t + 2) (s * 5 + p) (k : Int) (t + 1) (s * 5 + (p + (k : Int)) + 1) = w (t + 1) (s * 5 + (p + (k : Int)) + 1) := shD_hi (by omega)
      have e3 : upI (shD w (t + 1) (t + 2) (s * 5 + p) (k : Int)) (t + 1) (s * 5 + (p + (k : Int))) (w (t + 1) (s * 5 + (p + (k : Int)) + 1)) (t + 2) (s * 5 + (p + (k : Int)) + 1) = w (t + 2) (s * 5 + (p + (k : Int)) + 1) := by rw [upI_1 (by omega), shD_hi (by omega)]
      have e4 := shD_s (w := w) (A1 := t + 1) (A2 := t + 2) (lo := s * 5 + p) (k := (k : Int)) (p := s * 5 + (p + (k : Int))) (by omega) (by omega)
      have ec : p + ((k + 1 : Nat) : Int) = p + (k : Int) + 1 := by omega
      have ed : ((k + 1 : Nat) : Int) = (k : Int) + 1 := by omega
      rw [ec, ed]
      simp (decide := true) (disch := omega) only [en_266, bk_266_0, bk_266_66, bq_266_0, bq_266_7, bq_266_66, rn_iconst, rn_bipush, rn_sipush, rn_ldc_w, rn_ldc, rn_ldcS, rn_lconst, rn_ldc2, rn_gets, rn_iload0, rn_lload0, rn_aload0, rn_istore0, rn_astore0, rn_lstore0, rn_iinc0, rn_iload1, rn_lload1, rn_aload1, rn_istore1, rn_astore1, rn_lstore1, rn_iinc1, rn_iload2, rn_lload2, rn_aload2, rn_istore2, rn_astore2, rn_lstore2, rn_iinc2, rn_iload3, rn_lload3, rn_aload3, rn_istore3, rn_astore3, rn_lstore3, rn_iinc3, rn_iload4, rn_lload4, rn_aload4, rn_istore4, rn_astore4, rn_lstore4, rn_iinc4, rn_iload5, rn_lload5, rn_aload5, rn_istore5, rn_astore5, rn_lstore5, rn_iinc5, rn_iload6, rn_lload6, rn_aload6, rn_istore6, rn_astore6, rn_lstore6, rn_iinc6, rn_iload7, rn_aload7, rn_istore7, rn_astore7, rn_iinc7, rn_iload8, rn_aload8, rn_istore8, rn_astore8, rn_iinc8, rn_iload9, rn_aload9, rn_istore9, rn_astore9, rn_iinc9, rn_iadd, rn_isub, rn_imul, rn_iand, rn_ior, rn_ixor, rn_ishl, rn_ishr, rn_iushr, rn_idiv, rn_irem, rn_ineg, rn_ladd, rn_lsub, rn_lmul, rn_lor, rn_ldiv, rn_lrem, rn_lneg, rn_lshl, rn_lshr, rn_i2l, rn_l2i, rn_i2c, rn_lcmp, rn_dupi, rn_dupa, rn_popi, rn_popa, rn_dup2, rn_aast, rn_alen, rn_geta, rn_aald, rn_puta, rn_new, rn_newa, rn_anew, rn_min, rn_max, rn_slen, rn_chat, rn_indx, rn_objI, rn_nop, rn_goto, rn_ifeq, rn_ifne, rn_iflt, rn_ifge, rn_ifgt, rn_ifle, rn_iceq, rn_icne, rn_iclt, rn_icge, rn_icgt, rn_icle, rn_tsw, rn_lsw, rn_iret, rn_zret, rn_lret, rn_aret, rn_vret, rn_cs0, rn_cs1, rn_cs2, rn_cs3, rn_cs4, rn_cs5, rn_cs6, rn_cs7, rn_cv1, rn_ci1, rn_cv2, rn_ci2, rn_cv3, rn_ci3, rn_cv4, rn_cv5, rn_cv6, rn_cv7, cs_n, cs_i, cs_a, cs_l, rc_i, rc_a, rc_l, rc_n, rw_iald, rw_bald, rw_lald, rw_iast, rw_bast, rw_last, rw_geti, rw_getl, rw_puti, rw_putz, rw_putl, iI_add, iI_sub, iI_mul, iI_neg, iI_lt, iI_le, iI_eq, iI_lt0, iI_le0, iI_0lt, iI_0le, iI_eq0, iI_eq1, iI_div, iI_rem, am_in_ok, am_in_no, iI_toInt, iL_add, iL_sub, iL_mul, iL_neg, iL_div, iL_rem, iI_i2l, iL_l2i, iL_cmp, iL_eq0, iI_or, iI_and, iI_shl, if_true, if_false, true_or, or_true, true_and, and_true, false_or, or_false, not_true_eq_false, not_false_eq_true, Option.bind_some, Option.toList_some, Option.toList_none, List.nil_append, List.cons_append, ite_self, nc_0, nc_1, nc_2, nc_3, nc_4, nc_5, nc_6, nc_7, nc_8, nc_9, nc_10, nc_11, nc_12, nc_13, nc_14, nc_15, nc_16, nc_17, nc_18, nc_19, nc_20, nc_21, nc_22, nc_23, nc_24, nc_25, nc_26, nc_27, nc_28, nc_29, nc_30, nc_31, nc_32, nc_33, nc_34, nc_35, nc_36, nc_40, nc_48, nc_100, nc_256, nc_300, nc_304, t1, t2, t3, t4, t5, t6, t7, t8, t9, e1, e2, e3, e4, g1, if_pos, if_neg, sh_0, sh_393]
    · conv => lhs; rw [bk_266_7]
      have g1 : A.h s - 1 ≤ p + (N : Int) := by omega
      have e1 : shD w (t + 1) (t + 2) (s * 5 + p) (N : Int) (t + 3) s = A.h s := by rw [shD_n (by omega) (by omega), ch]
      simp (decide := true) (disch := omega) only [en_266, bk_266_0, bk_266_66, bq_266_0, bq_266_7, bq_266_66, rn_iconst, rn_bipush, rn_sipush, rn_ldc_w, rn_ldc, rn_ldcS, rn_lconst, rn_ldc2, rn_gets, rn_iload0, rn_lload0, rn_aload0, rn_istore0, rn_astore0, rn_lstore0, rn_iinc0, rn_iload1, rn_lload1, rn_aload1, rn_istore1, rn_astore1, rn_lstore1, rn_iinc1, rn_iload2, rn_lload2, rn_aload2, rn_istore2, rn_astore2, rn_lstore2, rn_iinc2, rn_iload3, rn_lload3, rn_aload3, rn_istore3, rn_astore3, rn_lstore3, rn_iinc3, rn_iload4, rn_lload4, rn_aload4, rn_istore4, rn_astore4, rn_lstore4, rn_iinc4, rn_iload5, rn_lload5, rn_aload5, rn_istore5, rn_astore5, rn_lstore5, rn_iinc5, rn_iload6, rn_lload6, rn_aload6, rn_istore6, rn_astore6, rn_lstore6, rn_iinc6, rn_iload7, rn_aload7, rn_istore7, rn_astore7, rn_iinc7, rn_iload8, rn_aload8, rn_istore8, rn_astore8, rn_iinc8, rn_iload9, rn_aload9, rn_istore9, rn_astore9, rn_iinc9, rn_iadd, rn_isub, rn_imul, rn_iand, rn_ior, rn_ixor, rn_ishl, rn_ishr, rn_iushr, rn_idiv, rn_irem, rn_ineg, rn_ladd, rn_lsub, rn_lmul, rn_lor, rn_ldiv, rn_lrem, rn_lneg, rn_lshl, rn_lshr, rn_i2l, rn_l2i, rn_i2c, rn_lcmp, rn_dupi, rn_dupa, rn_popi, rn_popa, rn_dup2, rn_aast, rn_alen, rn_geta, rn_aald, rn_puta, rn_new, rn_newa, rn_anew, rn_min, rn_max, rn_slen, rn_chat, rn_indx, rn_objI, rn_nop, rn_goto, rn_ifeq, rn_ifne, rn_iflt, rn_ifge, rn_ifgt, rn_ifle, rn_iceq, rn_icne, rn_iclt, rn_icge, rn_icgt, rn_icle, rn_tsw, rn_lsw, rn_iret, rn_zret, rn_lret, rn_aret, rn_vret, rn_cs0, rn_cs1, rn_cs2, rn_cs3, rn_cs4, rn_cs5, rn_cs6, rn_cs7, rn_cv1, rn_ci1, rn_cv2, rn_ci2, rn_cv3, rn_ci3, rn_cv4, rn_cv5, rn_cv6, rn_cv7, cs_n, cs_i, cs_a, cs_l, rc_i, rc_a, rc_l, rc_n, rw_iald, rw_bald, rw_lald, rw_iast, rw_bast, rw_last, rw_geti, rw_getl, rw_puti, rw_putz, rw_putl, iI_add, iI_sub, iI_mul, iI_neg, iI_lt, iI_le, iI_eq, iI_lt0, iI_le0, iI_0lt, iI_0le, iI_eq0, iI_eq1, iI_div, iI_rem, am_in_ok, am_in_no, iI_toInt, iL_add, iL_sub, iL_mul, iL_neg, iL_div, iL_rem, iI_i2l, iL_l2i, iL_cmp, iL_eq0, iI_or, iI_and, iI_shl, if_true, if_false, true_or, or_true, true_and, and_true, false_or, or_false, not_true_eq_false, not_false_eq_true, Option.bind_some, Option.toList_some, Option.toList_none, List.nil_append, List.cons_append, ite_self, nc_0, nc_1, nc_2, nc_3, nc_4, nc_5, nc_6, nc_7, nc_8, nc_9, nc_10, nc_11, nc_12, nc_13, nc_14, nc_15, nc_16, nc_17, nc_18, nc_19, nc_20, nc_21, nc_22, nc_23, nc_24, nc_25, nc_26, nc_27, nc_28, nc_29, nc_30, nc_31, nc_32, nc_33, nc_34, nc_35, nc_36, nc_40, nc_48, nc_100, nc_256, nc_300, nc_304, t1, t2, t3, t4, t5, t6, t7, t8, t9, e1, g1, if_pos, if_neg, sh_0, sh_393]
  · refine ⟨?_, ?_, ?_, ?_, ?_, ?_, ?_⟩
    · rw [upI_1 (by omega), shD_n (by omega) (by omega)]; exact C.d
    · rw [upI_1 (by omega), shD_n (by omega) (by omega)]; exact C.x
    · rw [upI_1 (by omega), shD_n (by omega) (by omega)]; exact C.m
    · rw [upI_1 (by omega), shD_n (by omega) (by omega)]; exact C.nb
    · intro q q0 q1
      show _ = if q = s then A.h s - 1 else A.h q
      by_cases e : q = s
      · subst e; rw [upI_s, if_pos rfl]
      · rw [upI_2 e, if_neg e, shD_n (by omega) (by omega)]; exact C.h q q0 q1
    · intro q k q0 q1 k0 k1
      have k1 : k < if q = s then A.h s - 1 else A.h q := k1
      show upI _ _ _ _ _ (q * 5 + ((if q = s then A.h s - 1 else A.h q) - 1 - k)) = (if q = s ∧ A.h s - 1 - p ≤ k then A.m s (k + 1) else A.m q k) ∧ upI _ _ _ _ _ (q * 5 + ((if q = s then A.h s - 1 else A.h q) - 1 - k)) = (if q = s ∧ A.h s - 1 - p ≤ k then A.g s (k + 1) else A.g q k)
      rw [upI_1 (by omega), upI_1 (by omega)]
      by_cases e : q = s
      · subst e
        rw [if_pos rfl] at k1 ⊢
        by_cases e2 : A.h q - 1 - p ≤ k
        · have := C.l q (k + 1) q0 q1 (by omega) (by omega)
          rw [show q * 5 + (A.h q - 1 - (k + 1)) = q * 5 + (A.h q - 1 - 1 - k) by omega] at this
          rw [if_pos ⟨rfl, e2⟩, if_pos ⟨rfl, e2⟩]
          unfold shD
          rw [if_neg (by omega), if_neg (by omega)]
          exact this
        · have := C.l q k q0 q1 (by omega) (by omega)
          rw [show q * 5 + (A.h q - 1 - k) = q * 5 + (A.h q - 1 - 1 - k) + 1 by omega] at this
          rw [if_neg (by omega), if_neg (by omega)]
          unfold shD
          rw [if_pos (by omega), if_pos (by omega)]
          exact this
      · rw [if_neg e] at k1 ⊢
        have := C.l q k q0 q1 k0 k1
        have ho := O.h q q0 q1
        rw [if_neg (by omega), if_neg (by omega)]
        unfold shD
        rw [if_neg (by omega), if_neg (by omega)]
        exact this
    · intro i k i0 i1 k0 k1
      rw [upI_1 (by omega), shD_n (by omega) (by omega)]; exact C.b i k i0 i1 k0 k1
  · intro a ha _ _
    funext e
    rw [upI_1 (by omega), shD_n (by omega) (by omega)]
end CT
