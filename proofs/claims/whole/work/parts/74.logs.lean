/-- a table of the row of numbers -/
def MT (f g : Int → Int) (A : AT) : Prop := f 0 = A.din ∧ f 1 = A.x ∧ f 2 = A.mood ∧ f 3 = A.nb ∧ (∀ s, 0 ≤ s → s < 8 → f (4 + s) = A.h s) ∧ (∀ s i, 0 ≤ s → s < 8 → 0 ≤ i → i < A.h s → f (12 + 5 * s + i) = 100 * A.m s i + A.g s i) ∧ (∀ i, 0 ≤ i → i < A.nb → g i = ((A.b i 0 * 3 + A.b i 1) * 8 + A.b i 2) * 7 + A.b i 3 + 1)
def tab (w : Nat → Int → Int) (t : Nat) : AT := AT.mk (w t 6) (w t 7) (w t 5) (w t 4) (fun s => w (t + 3) s) (fun s i => w (t + 1) (s * 5 + (w (t + 3) s - 1 - i))) (fun s i => w (t + 2) (s * 5 + (w (t + 3) s - 1 - i))) (fun i k => w (t + 4) (i * 4 + k))
section TB
variable {w w2 : Nat → Int → Int} {t : Nat} {f g f2 g2 : Int → Int} {n : Int} {A : AT}
theorem tab_C : CRep w t (tab w t) := ⟨rfl, rfl, rfl, rfl, fun _ _ _ => rfl, fun _ _ _ _ _ _ => ⟨rfl, rfl⟩, fun _ _ _ _ _ _ => rfl⟩
theorem TRel.tab (h : TRel w t f g n) : AOk (tab w t) n ∧ MT f g (tab w t) := by
  obtain ⟨⟨a1, a2, a3, a4⟩, a5, h3, h4, h5⟩ := h
  refine ⟨⟨?_, fun s s0 s1 => ?_, fun s i s0 s1 i0 i1 => ?_, fun i i0 i1 => ?_⟩, a1.symm, a2.symm, a3.symm, a4.symm, fun s s0 s1 => (h3 s s0 s1).1.symm, fun s i s0 s1 i0 i1 => ?_, fun i i0 i1 => ?_⟩
  · show 0 ≤ w t 6 ∧ w t 6 ≤ 9999 ∧ 0 ≤ w t 7 ∧ w t 7 ≤ 31050 ∧ -99999 ≤ w t 5 ∧ w t 5 ≤ 99999 ∧ 0 ≤ w t 4 ∧ w t 4 ≤ 25
    rw [a1, a2, a3, a4]; exact a5
  · show 0 ≤ w (t + 3) s ∧ w (t + 3) s ≤ 5
    have := h3 s s0 s1; omega
  · have e := (h3 s s0 s1).1
    have i1 : i < w (t + 3) s := i1
    have q := h4 s i s0 s1 i0 (by omega)
    unfold LRel at q
    rw [← e] at q
    exact ⟨q.2.1, q.2.2.1, q.2.2.2.1, q.2.2.2.2⟩
  · have i1 : i < w t 4 := i1
    have q := h5 i i0 (by omega)
    unfold BRel at q
    show 0 ≤ w (t + 4) (i * 4 + 0) ∧ w (t + 4) (i * 4 + 0) ≤ 9999 ∧ 0 ≤ w (t + 4) (i * 4 + 1) ∧ w (t + 4) (i * 4 + 1) ≤ 2 ∧ 0 ≤ w (t + 4) (i * 4 + 2) ∧ w (t + 4) (i * 4 + 2) ≤ 7 ∧ -1 ≤ w (t + 4) (i * 4 + 3) ∧ w (t + 4) (i * 4 + 3) ≤ 5
    rw [Int.add_zero]
    exact q.2
  · have e := (h3 s s0 s1).1
    have i1 : i < w (t + 3) s := i1
    have q := h4 s i s0 s1 i0 (by omega)
    unfold LRel at q
    rw [← e] at q
    exact q.1
  · have i1 : i < w t 4 := i1
    have q := h5 i i0 (by omega)
    unfold BRel at q
    show g i = ((w (t + 4) (i * 4 + 0) * 3 + w (t + 4) (i * 4 + 1)) * 8 + w (t + 4) (i * 4 + 2)) * 7 + w (t + 4) (i * 4 + 3) + 1
    rw [Int.add_zero]
    exact q.1
theorem TRel.of (C : CRep w t A) (O : AOk A n) (M : MT f g A) : TRel w t f g n := by
  obtain ⟨m1, m2, m3, m4, m5, m6, m7⟩ := M
  refine ⟨⟨C.d.trans m1.symm, C.x.trans m2.symm, C.m.trans m3.symm, C.nb.trans m4.symm⟩, ?_, fun s s0 s1 => ?_, fun s i s0 s1 i0 i1 => ?_, fun i i0 i1 => ?_⟩
  · rw [m1, m2, m3, m4]; exact O.1
  · rw [m5 s s0 s1]; exact ⟨C.h s s0 s1, O.h s s0 s1⟩
  · rw [m5 s s0 s1] at i1
    have q := C.l s i s0 s1 i0 i1
    have p := O.l s i s0 s1 i0 i1
    have r := m6 s i s0 s1 i0 i1
    unfold LRel
    rw [m5 s s0 s1, q.1, q.2]
    exact ⟨r, p⟩
  · rw [m4] at i1
    have q0 := C.b i 0 i0 i1 (by decide) (by decide)
    have q1 := C.b i 1 i0 i1 (by decide) (by decide)
    have q2 := C.b i 2 i0 i1 (by decide) (by decide)
    have q3 := C.b i 3 i0 i1 (by decide) (by decide)
    rw [Int.add_zero] at q0
    unfold BRel
    rw [q0, q1, q2, q3]
    exact ⟨m7 i i0 i1, O.b i i0 i1⟩
theorem MT.keep (M : MT f g A) (O : AOk A n) (hf : ∀ k, 0 ≤ k → k < 52 → f2 k = f k) (hg : ∀ k, 0 ≤ k → k < 25 → g2 k = g k) : MT f2 g2 A := by
  obtain ⟨m1, m2, m3, m4, m5, m6, m7⟩ := M
  have o8 := O.1.2.2.2.2.2.2.2
  refine ⟨(hf 0 (by decide) (by decide)).trans m1, (hf 1 (by decide) (by decide)).trans m2, (hf 2 (by decide) (by decide)).trans m3, (hf 3 (by decide) (by decide)).trans m4, fun s s0 s1 => (hf _ (by omega) (by omega)).trans (m5 s s0 s1), fun s i s0 s1 i0 i1 => ?_, fun i i0 i1 => (hg i i0 (by omega)).trans (m7 i i0 i1)⟩
  have := O.h s s0 s1
  exact (hf _ (by omega) (by omega)).trans (m6 s i s0 s1 i0 i1)
theorem MRep.mt (R : MRep true w A) : MT (fun k => w 394 (7 + k)) (fun k => w 394 (2493 + k)) A := by
  obtain ⟨r1, r2, r3, r4, r5, r6, r7⟩ := R
  refine ⟨r1, r2, r3, (r7 rfl).1, fun s s0 s1 => ?_, fun s i s0 s1 i0 i1 => ?_, (r7 rfl).2⟩
  · rw [← r4 s s0 s1]; dsimp only; rw [show 7 + (4 + s) = 11 + s by omega]
  · rw [← r5 s i s0 s1 i0 i1]; dsimp only; rw [show 7 + (12 + 5 * s + i) = 19 + 5 * s + i by omega]
theorem MT.mrep (M : MT (fun k => w 394 (7 + k)) (fun k => w 394 (2493 + k)) A) (h : w 393 23 = 1) : MRep true w A := by
  obtain ⟨m1, m2, m3, m4, m5, m6, m7⟩ := M
  refine ⟨m1, m2, m3, fun s s0 s1 => ?_, fun s i s0 s1 i0 i1 => ?_, h, fun _ => ⟨m4, m7⟩⟩
  · rw [← m5 s s0 s1]; dsimp only; rw [show 7 + (4 + s) = 11 + s by omega]
  · rw [← m6 s i s0 s1 i0 i1]; dsimp only; rw [show 7 + (12 + 5 * s + i) = 19 + 5 * s + i by omega]
end TB
/-- the steps that can be taken back, as all that were ever kept and the last ones of them -/
def lgc (t : Nat) : Nat := min t 30
def LogC (w : Nat → Int → Int) (b t : Nat) (P : Nat → AT) : Prop := (w b 3 = (lgc t : Int) ∧ 0 ≤ w b 2 ∧ w b 2 ≤ 29) ∧ ∀ i : Nat, i < lgc t → CRep w (b + 20 + 5 * ((w b 2 + (i : Int)) % 30).toNat) (P (t - lgc t + i))
def LogM (u : Nat → Int → Int) (m t : Nat) (P : Nat → AT) : Prop := u m 3 = (lgc t : Int) ∧ ∀ i : Nat, i < lgc t → MT (fun k => u m (183 + 77 * (i : Int) + k)) (fun k => u m (183 + 77 * (i : Int) + 52 + k)) (P (t - lgc t + i))
def LogO (t : Nat) (P : Nat → AT) (n : Int) : Prop := ∀ i : Nat, i < lgc t → AOk (P (t - lgc t + i)) n
def upP (P : Nat → AT) (t : Nat) (A : AT) : Nat → AT := fun j => if j = t then A else P j
theorem lgc_lt {t : Nat} (h : t < 30) : lgc t = t := by unfold lgc; omega
theorem lgc_ge {t : Nat} (h : 30 ≤ t) : lgc t = 30 := by unfold lgc; omega
theorem lgc_le (t : Nat) : lgc t ≤ 30 ∧ lgc t ≤ t := by unfold lgc; omega
section LG
variable {w w2 u u2 : Nat → Int → Int} {t : Nat} {P : Nat → AT} {A : AT} {n : Int}
theorem LogO.push (h : LogO t P n) (O : AOk A n) : LogO (t + 1) (upP P t A) n := by
  intro i hi
  have := lgc_le t
  have := lgc_le (t + 1)
  unfold upP
  by_cases e : t + 1 - lgc (t + 1) + i = t
  · rw [if_pos e]; exact O
  · rw [if_neg e]
    by_cases g : t < 30
    · have e1 : lgc (t + 1) = t + 1 := by unfold lgc; omega
      rw [e1] at hi e ⊢
      have := h i (by rw [lgc_lt g]; omega)
      rw [lgc_lt g] at this
      rw [show t + 1 - (t + 1) + i = t - t + i by omega]
      exact this
    · have e1 : lgc (t + 1) = 30 := lgc_ge (by omega)
      have e2 : lgc t = 30 := lgc_ge (by omega)
      rw [e1] at hi e ⊢
      have := h (i + 1) (by rw [e2]; omega)
      rw [e2] at this
      rw [show t + 1 - 30 + i = t - 30 + (i + 1) by omega]
      exact this
end LG
section BC
variable {d L T t t0 : Nat} {S : Nat → Nat × Nat} {w : Nat → Int → Int} {v : Nat → Nat → Int64} {r : Nat → Nat → Option Nat} {A : AT} {n : Int}
set_option maxHeartbeats 1000000 in
theorem c_become (hT : TbS S r t) (hT0 : TbS S r t0) (hf : t + 4 < t0 ∨ t0 + 4 < t) (O : AOk A n) (C : CRep w t0 A) :
    ∃ w2, am_call d 172 [.ref t, .ref t0] (L, T, S, am_w w, v, r) = some (none, (L, T, S, am_w w2, v, r)) ∧ CRep w2 t A ∧ ∀ b, (b < t ∨ t + 4 < b) → w2 b = w b := by
  obtain ⟨t1, t2, t3, t4, t5, t6, t7, t8, t9⟩ := hT
  obtain ⟨z1, z2, z3, z4, z5, z6, z7, z8, z9⟩ := hT0
  refine ⟨upI (upI (upI (upI (cpI (cpI (cpI (cpI w (t0 + 1) (t + 1) 0 0 40) (t0 + 2) (t + 2) 0 0 40) (t0 + 3) (t + 3) 0 0 8) (t0 + 4) (t + 4) 0 0 100) t 4 (w t0 4)) t 5 (w t0 5)) t 6 (w t0 6)) t 7 (w t0 7), ?_, ?_, ?_⟩
  · simp (decide := true) (disch := omega) only [en_172, bk_172_0, bq_172_0, rn_iconst, rn_bipush, rn_sipush, rn_ldc_w, rn_ldc, rn_ldcS, rn_lconst, rn_ldc2, rn_gets, rn_iload0, rn_lload0, rn_aload0, rn_istore0, rn_astore0, rn_lstore0, rn_iinc0, rn_iload1, rn_lload1, rn_aload1, rn_istore1, rn_astore1, rn_lstore1, rn_iinc1, rn_iload2, rn_lload2, rn_aload2, rn_istore2, rn_astore2, rn_lstore2, rn_iinc2, rn_iload3, rn_lload3, rn_aload3, rn_istore3, rn_astore3, rn_lstore3, rn_iinc3, rn_iload4, rn_lload4, rn_aload4, rn_istore4, rn_astore4, rn_lstore4, rn_iinc4, rn_iload5, rn_lload5, rn_aload5, rn_istore5, rn_astore5, rn_lstore5, rn_iinc5, rn_iload6, rn_lload6, rn_aload6, rn_istore6, rn_astore6, rn_lstore6, rn_iinc6, rn_iload7, rn_aload7, rn_istore7, rn_astore7, rn_iinc7, rn_iload8, rn_aload8, rn_istore8, rn_astore8, rn_iinc8, rn_iload9, rn_aload9, rn_istore9, rn_astore9, rn_iinc9, rn_iadd, rn_isub, rn_imul, rn_iand, rn_ior, rn_ixor, rn_ishl, rn_ishr, rn_iushr, rn_idiv, rn_irem, rn_ineg, rn_ladd, rn_lsub, rn_lmul, rn_lor, rn_ldiv, rn_lrem, rn_lneg, rn_lshl, rn_lshr, rn_i2l, rn_l2i, rn_i2c, rn_lcmp, rn_dupi, rn_dupa, rn_popi, rn_popa, rn_dup2, rn_aast, rn_alen, rn_geta, rn_aald, rn_puta, rn_new, rn_newa, rn_anew, rn_min, rn_max, rn_slen, rn_chat, rn_indx, rn_objI, rn_nop, rn_goto, rn_ifeq, rn_ifne, rn_iflt, rn_ifge, rn_ifgt, rn_ifle, rn_iceq, rn_icne, rn_iclt, rn_icge, rn_icgt, rn_icle, rn_tsw, rn_lsw, rn_iret, rn_zret, rn_lret, rn_aret, rn_vret, rn_cs0, rn_cs1, rn_cs2, rn_cs3, rn_cs4, rn_cs5, rn_cs6, rn_cs7, rn_cv1, rn_ci1, rn_cv2, rn_ci2, rn_cv3, rn_ci3, rn_cv4, rn_cv5, rn_cv6, rn_cv7, cs_n, cs_i, cs_a, cs_l, rc_i, rc_a, rc_l, rc_n, rw_iald, rw_bald, rw_lald, rw_iast, rw_bast, rw_last, rw_geti, rw_getl, rw_puti, rw_putz, rw_putl, iI_add, iI_sub, iI_mul, iI_neg, iI_lt, iI_le, iI_eq, iI_lt0, iI_le0, iI_0lt, iI_0le, iI_eq0, iI_eq1, iI_div, iI_rem, am_in_ok, am_in_no, iI_toInt, iL_add, iL_sub, iL_mul, iL_neg, iL_div, iL_rem, iI_i2l, iL_l2i, iL_cmp, iL_eq0, iI_or, iI_and, iI_shl, if_true, if_false, true_or, or_true, true_and, and_true, false_or, or_false, not_true_eq_false, not_false_eq_true, Option.bind_some, Option.toList_some, Option.toList_none, List.nil_append, List.cons_append, ite_self, nc_0, nc_1, nc_2, nc_3, nc_4, nc_5, nc_6, nc_7, nc_8, nc_9, nc_10, nc_11, nc_12, nc_13, nc_14, nc_15, nc_16, nc_17, nc_18, nc_19, nc_20, nc_21, nc_22, nc_23, nc_24, nc_25, nc_26, nc_27, nc_28, nc_29, nc_30, nc_31, nc_32, nc_33, nc_34, nc_35, nc_36, nc_40, nc_48, nc_100, nc_256, nc_300, nc_304, t1, t2, t3, t4, t5, t6, t7, t8, t9, z1, z2, z3, z4, z5, z6, z7, z8, z9, upI_1, cpI_n, if_pos, if_neg, sh_0, sh_393, rw_copy, am_cp_ok]
  · have o8 := O.1.2.2.2.2.2.2.2
    refine ⟨?_, ?_, ?_, ?_, ?_, ?_, ?_⟩
    · simp (disch := omega) only [upI_1, upI_2, upI_s]; exact C.d
    · simp (disch := omega) only [upI_1, upI_2, upI_s]; exact C.x
    · simp (disch := omega) only [upI_1, upI_2, upI_s]; exact C.m
    · simp (disch := omega) only [upI_1, upI_2, upI_s]; exact C.nb
    · intro q q0 q1
      simp (disch := omega) only [upI_1, cpI_n, cpI_z]; exact C.h q q0 q1
    · intro q k q0 q1 k0 k1
      have ho := O.h q q0 q1
      simp (disch := omega) only [upI_1, cpI_n, cpI_z]; exact C.l q k q0 q1 k0 k1
    · intro i k i0 i1 k0 k1
      simp (disch := omega) only [upI_1, cpI_n, cpI_z]; exact C.b i k i0 i1 k0 k1
  · intro b hb
    simp (disch := omega) only [upI_c, cpI_c]
end BC
