def onc (VF VT : Option (LEnv → Int)) : Int := (if VF.isSome = true then 1 else 0) + (if VT.isSome = true then 2 else 0)
def ClM (u : Nat → Int → Int) (q : Int) (c : Cls) (kw : Int) : Prop := u 396 (681 * q) = c.1 ∧ ∀ k, 0 ≤ k → k < c.1 → u 396 (681 * q + 1 + 3 * k) = (c.2 k).1 ∧ (2 ≤ (c.2 k).1 → u 396 (681 * q + 1 + 3 * k + 1) = (c.2 k).2.1 ∧ (((c.2 k).1 = 3 ∨ (c.2 k).1 = 4) → u 396 (681 * q + 1 + 3 * k + 2) = (c.2 k).2.2)) ∧ ((c.2 k).1 ≤ 1 → u 396 (681 * q + 1 + 3 * k + 2) ≤ kw)
def MTxt (u wl : Nat → Int → Int) (p : Bts) (q : Int) (s : TS) (k : Int) : Prop := MTk u wl p s.1 ∧ MWr u q k ∧ k ≤ s.1 ∧ ClM u q s.2.1 k ∧ (MOne u q 0 s.2.2.1 ∧ MOne u q 1 s.2.2.2) ∧ u 393 19 = onc s.2.2.1 s.2.2.2
def MClr (u u2 wl wl2 : Nat → Int → Int) (p : Bts) (q : Int) (r : Int × Nat × TS) : Prop := (r.1 = 0 → ∃ k, MTxt u2 wl2 p q r.2.2 k) ∧ (¬ r.1 = 0 → u2 393 8 = tst p r.2.1) ∧ MRx u u2 wl wl2 ∧ (∀ y, y < 681 * q → u2 396 y = u 396 y)
section ML9
variable {d L T o n : Nat} {u u1 u2 : Nat → Int → Int} {wl wl1 wl2 : Nat → Int → Int} {p : Bts} {i : Nat} {q k k0 kw x y l z lo hi K N : Int} {s : TS} {V : Option (LEnv → Int)} {VF VT : Option (LEnv → Int)} {c : Cls}
theorem onc_bd : 0 ≤ onc VF VT ∧ onc VF VT ≤ 3 := by
  cases VF <;> cases VT <;> simp [onc]
theorem onc_has (hK : K = 0 ∨ K = 1) : ((onc VF VT).toNat.testBit K.toNat = true) ↔ ((K = 0 ∧ VF.isSome = true) ∨ (K = 1 ∧ VT.isSome = true)) := by
  rcases hK with rfl | rfl <;> cases VF <;> cases VT <;> simp [onc, Option.isSome] <;> decide
theorem onc_0 {U : LEnv → Int} (h : ¬ VF.isSome = true) : ior (onc VF VT) (pw 0) = onc (some U) VT := by
  cases VF with
  | none =>
    cases VT with
    | none => exact show ior 0 1 = 1 by decide
    | some _ => exact show ior 2 1 = 3 by decide
  | some _ => exact absurd rfl h
theorem onc_1 {U : LEnv → Int} (h : ¬ VT.isSome = true) : ior (onc VF VT) (pw 1) = onc VF (some U) := by
  cases VT with
  | none =>
    cases VF with
    | none => exact show ior 0 2 = 2 by decide
    | some _ => exact show ior 1 2 = 3 by decide
  | some _ => exact absurd rfl h
theorem MOne.add (h : MOne u q z V) (hn : u 396 (681 * q) = N) (h2n : u2 396 (681 * q) = N + 1) (hk : ∀ y, 681 * q + 1 ≤ y → y < 681 * q + 1 + 3 * N → u2 396 y = u 396 y) (hs : u2 396 (681 * q + 1 + 3 * N) ≠ z) (hw : ∀ k, 0 ≤ k → k < N → u 396 (681 * q + 1 + 3 * k) = z → u 396 (681 * q + 1 + 3 * k + 2) ≤ kw) (hc : ∀ y, 681 * q + 73 ≤ y → y < 681 * q + 73 + 2 * kw → u2 396 y = u 396 y) : MOne u2 q z V := by
  cases V with
  | none =>
    intro k k0 k1
    rw [h2n] at k1
    by_cases c : k = N
    · rw [c]; exact hs
    · rw [hk _ (by omega) (by omega)]
      exact h k k0 (by rw [hn]; omega)
  | some U =>
    obtain ⟨k, ⟨k0, k1, k2⟩, k3, k4, k5⟩ := h
    rw [hn] at k1
    have kz := hw k k0 k1 k2
    refine ⟨k, ⟨k0, by rw [h2n]; omega, by rw [hk _ (by omega) (by omega)]; exact k2⟩, fun j j0 j1 => by rw [hk _ (by omega) (by omega)]; exact k3 j j0 j1, by rw [hk _ (by omega) (by omega)]; exact k4, ?_⟩
    rw [hk (681 * q + 1 + 3 * k + 1) (by omega) (by omega), hk (681 * q + 1 + 3 * k + 2) (by omega) (by omega)]
    have k6 := k5.1.1
    exact MSeg.congr k5 (fun t t0 t1 => ⟨hc _ (by omega) (by omega), hc _ (by omega) (by omega)⟩)
theorem MOne.new {U : LEnv → Int} (h : MOne u q z none) (hn : u 396 (681 * q) = N) (n0 : 0 ≤ N) (h2n : u2 396 (681 * q) = N + 1) (hk : ∀ y, 681 * q + 1 ≤ y → y < 681 * q + 1 + 3 * N → u2 396 y = u 396 y) (hs : u2 396 (681 * q + 1 + 3 * N) = z) (h2 : u2 396 (681 * q + 1 + 3 * N + 2) ≤ 300) (m : MSeg z (fun i => u2 396 (681 * q + 73 + 2 * i)) (fun i => u2 396 (681 * q + 73 + 2 * i + 1)) (u2 396 (681 * q + 1 + 3 * N + 1)) (u2 396 (681 * q + 1 + 3 * N + 2)) U) : MOne u2 q z (some U) :=
  ⟨N, ⟨n0, by rw [h2n]; omega, hs⟩, fun j j0 j1 => by rw [hk _ (by omega) (by omega)]; exact h j j0 (by rw [hn]; exact j1), h2, m⟩
theorem ClM.add (h : ClM u q c kw) {k2 a b : Int} (hkk : kw ≤ k2) (h2n : u2 396 (681 * q) = c.1 + 1) (hk : ∀ y, 681 * q + 1 ≤ y → y < 681 * q + 1 + 3 * c.1 → u2 396 y = u 396 y) (hs : u2 396 (681 * q + 1 + 3 * c.1) = K) (ha : 2 ≤ K → u2 396 (681 * q + 1 + 3 * c.1 + 1) = a ∧ ((K = 3 ∨ K = 4) → u2 396 (681 * q + 1 + 3 * c.1 + 2) = b)) (hb : K ≤ 1 → u2 396 (681 * q + 1 + 3 * c.1 + 2) ≤ k2) : ClM u2 q (clAdd c (K, a, b)) k2 := by
  refine ⟨h2n, fun k k0 k1 => ?_⟩
  have k1 : k < c.1 + 1 := k1
  by_cases e : k = c.1
  · subst e
    rw [clAdd_n]
    exact ⟨hs, ha, hb⟩
  · rw [clAdd_k e]
    have := h.2 k k0 (by omega)
    rw [hk (681 * q + 1 + 3 * k) (by omega) (by omega), hk (681 * q + 1 + 3 * k + 1) (by omega) (by omega), hk (681 * q + 1 + 3 * k + 2) (by omega) (by omega)]
    exact ⟨this.1, this.2.1, fun g => Int.le_trans (this.2.2 g) hkk⟩
theorem MTg.f (h : MTg u u2 wl wl2) : MRf u u2 wl wl2 := ⟨fun b h1 h2 _ => h.1 b h1 h2, fun y h1 _ _ _ _ => h.2.1 y (by omega) (by omega) (by omega) (by omega), h.2.2.1, h.2.2.2⟩
set_option maxHeartbeats 4000000 in
theorem m_clauseA (O : TpOk p) (H : MTxt u wl p q s k0) (Ts : TsOk s) (hK : tK p s.1 = K) (K2 : 2 ≤ K) (K7 : K ≤ 7) (h24 : s.2.1.1 < 24) : ∃ u2 wl2, am_call (d + 11) 224 [.ref 393] (L, T, S0 n, am_w u, am_wl wl, R0 o) = some (some (.int (iI (if (pAc p K (s.1 + 1)).1 = 0 then (0, (pAc p K (s.1 + 1)).2.1, ((pAc p K (s.1 + 1)).2.1, clAdd s.2.1 (K, (pAc p K (s.1 + 1)).2.2.1, (pAc p K (s.1 + 1)).2.2.2), s.2.2.1, s.2.2.2)) else ((pAc p K (s.1 + 1)).1, (pAc p K (s.1 + 1)).2.1, s) : Int × Nat × TS).1)), (L, T, S0 n, am_w u2, am_wl wl2, R0 o)) ∧ MClr u u2 wl wl2 p q (if (pAc p K (s.1 + 1)).1 = 0 then (0, (pAc p K (s.1 + 1)).2.1, ((pAc p K (s.1 + 1)).2.1, clAdd s.2.1 (K, (pAc p K (s.1 + 1)).2.2.1, (pAc p K (s.1 + 1)).2.2.2), s.2.2.1, s.2.2.2)) else ((pAc p K (s.1 + 1)).1, (pAc p K (s.1 + 1)).2.1, s)) := by
  obtain ⟨hk, W, kle, cm, ⟨m0, m1⟩, h19⟩ := H
  have i9 := tk_299 O (i := s.1) (by omega)
  have n0 := Ts.1.1
  have e1 := m_sortOf (d := d + 4) (L := L) (T := T) (o := o) (n := n) O hk
  rw [if_neg (by omega), hK] at e1
  have h12 := W.1
  have W2 := W.2.2
  have hn := cm.1
  have ab := act_ok O (i := s.1 + 1) (K := K) (by omega) K2 K7
  obtain ⟨u1, wl1, e2, k1, a1, a2, a3, a4⟩ := nx_k (d := d + 9) (L := L) (T := T) (o := o) (n := n) (u := upI u 393 14 K) O (hk.keep (u2 := upI u 393 14 K) (by rw [upI_c (by decide)]) (fun y hy => by rw [upI_2 (by omega)]) rfl)
  have u12 : u1 393 12 = 681 * q := by rw [a2 12 (by decide) (by decide) (by decide) (by decide), upI_2 (by decide)]; exact h12
  obtain ⟨u3, wl3, e3, B1, B2, B3, B4⟩ := m_bodyA (d := d + 4) (L := L) (T := T) (o := o) (n := n) (u := upI u1 396 (681 * q + 1 + 3 * s.2.1.1) K) (wl := wl1) (i := s.1 + 1) (x := 681 * q + 1 + 3 * s.2.1.1) O (k1.keep (by rw [upI_c (by decide)]) (fun y _ => by rw [upI_1 (by decide)]) rfl) (by omega) (by omega) (by omega) K2 K7
  have t396 : ∀ y, y ≠ 681 * q + 1 + 3 * s.2.1.1 → y ≠ 681 * q + 1 + 3 * s.2.1.1 + 1 → y ≠ 681 * q + 1 + 3 * s.2.1.1 + 2 → u3 396 y = u 396 y := fun y h1 h2 h3 => by rw [B3 y h2 h3, upI_2 h1, a1 396 (by decide), upI_1 (by decide)]
  have t0 : u3 396 (681 * q + 1 + 3 * s.2.1.1) = K := by rw [B3 _ (by omega) (by omega), upI_s]
  have tn : u3 396 (681 * q) = s.2.1.1 := by rw [t396 _ (by omega) (by omega) (by omega)]; exact hn
  have t393 : ∀ y, y ≠ 14 → (y < 7 ∨ 10 < y) → u3 393 y = u 393 y := fun y h1 h2 => by rw [B2.2.1 y (by omega) (by omega) (by omega) (by omega), upI_1 (by decide), a2 y (by omega) (by omega) (by omega) (by omega), upI_2 h1]
  have tb : ∀ b, b ≠ 393 → b ≠ 396 → u3 b = u b := fun b h1 h2 => by rw [B2.1 b h1 h2, upI_c h2, a1 b h1, upI_c h1]
  have tw : (∀ b, b ≠ 393 → wl3 b = wl b) ∧ (∀ k, k ≠ 11 → wl3 393 k = wl 393 k) := ⟨fun b hb => by rw [B2.2.2.1 b hb, a3 b hb], fun k hk => by rw [B2.2.2.2 k hk, a4 k hk]⟩
  have t12 : u3 393 12 = 681 * q := (t393 12 (by decide) (by decide)).trans h12
  have rx3 : MRx u u3 wl wl3 := ⟨fun b h1 h2 _ => tb b h1 h2, fun y hy => t393 y (by omega) (by omega), tw.1, tw.2⟩
  have hs14 : upI u 393 14 K 393 12 = 681 * q := by rw [upI_2 (by decide)]; exact h12
  have k1' : ¬ K ≤ 1 := by omega
  have n24 : ¬ s.2.1.1 = 24 := by omega
  unfold pAc at ab ⊢
  generalize pAct p K (pFig p (s.1 + 1) (tLo K) (tHi K)) = f at *
  unfold pStop at ab ⊢
  by_cases f0 : f.1 = 0
  · rw [if_pos f0] at ab ⊢
    rw [f0] at e3
    obtain ⟨B4a, B4b⟩ := B4 f0
    have r := tk_rel O f.2.1
    unfold tkRel at r
    have k4 : MTk (upI u3 396 (681 * q) (s.2.1.1 + 1)) wl3 p f.2.1 := B1.keep (by rw [upI_c (by decide)]) (fun y _ => by rw [upI_1 (by decide)]) rfl
    have h9 := k4.2.2.2.1
    have b9 : upI u3 396 (681 * q) (s.2.1.1 + 1) 393 9 = u3 393 9 := by rw [upI_1 (by decide)]
    by_cases t : tK p f.2.1 = 35
    · rw [if_pos t] at ab ⊢
      rw [if_pos rfl]
      have abj := ab.2.2.2 rfl
      dsimp only at abj
      have T59 : tkT p (tst p f.2.1) = 59 := by omega
      rw [T59] at h9
      obtain ⟨u5, wl5, e5, k5, c1, c2, c3, c4⟩ := nx_k (d := d + 9) (L := L) (T := T) (o := o) (n := n) O k4
      have z396 : u5 396 = upI u3 396 (681 * q) (s.2.1.1 + 1) 396 := c1 396 (by decide)
      have y396 : ∀ y, y ≠ 681 * q → u5 396 y = u3 396 y := fun y hy => by rw [z396, upI_2 hy]
      have y0 : u5 396 (681 * q) = s.2.1.1 + 1 := by rw [z396, upI_s]
      have rx5 : MRx u u5 wl wl5 := rx3.trans ⟨fun b h1 h2 _ => by rw [c1 b h1, upI_c h2], fun y hy => by rw [c2 y (by omega) (by omega) (by omega) (by omega), upI_1 (by decide)], c3, c4⟩
      have z393 : ∀ y, y ≠ 14 → (y < 7 ∨ 10 < y) → u5 393 y = u 393 y := fun y h1 h2 => by rw [c2 y (by omega) (by omega) (by omega) (by omega), upI_1 (by decide)]; exact t393 y h1 h2
      have cells : ∀ y, 681 * q + 1 ≤ y → y < 681 * q + 1 + 3 * s.2.1.1 → u5 396 y = u 396 y := fun y h1 h2 => by rw [y396 y (by omega)]; exact t396 y (by omega) (by omega) (by omega)
      have code : ∀ y, 681 * q + 73 ≤ y → y < 681 * q + 73 + 2 * k0 → u5 396 y = u 396 y := fun y h1 h2 => by rw [y396 y (by omega)]; exact t396 y (by omega) (by omega) (by omega)
      have sK : u5 396 (681 * q + 1 + 3 * s.2.1.1) = K := by rw [y396 _ (by omega)]; exact t0
      have law : ∀ z, z = 0 ∨ z = 1 → ∀ k, 0 ≤ k → k < s.2.1.1 → u 396 (681 * q + 1 + 3 * k) = z → u 396 (681 * q + 1 + 3 * k + 2) ≤ k0 := fun z hz k g0 g1 g2 => (cm.2 k g0 g1).2.2 (by rw [← (cm.2 k g0 g1).1]; omega)
      refine ⟨u5, wl5, ?_, fun _ => ⟨k0, k5, ⟨(z393 12 (by decide) (by decide)).trans W.1, (z393 13 (by decide) (by decide)).trans W.2.1, W.2.2⟩, by dsimp only; omega, cm.add (Int.le_refl k0) y0 cells sK (fun _ => ⟨by rw [y396 _ (by omega)]; exact B4a, fun h => by rw [y396 _ (by omega)]; exact B4b h⟩) (fun h => absurd h k1'), ⟨m0.add hn y0 cells (by rw [sK]; omega) (law 0 (Or.inl rfl)) code, m1.add hn y0 cells (by rw [sK]; omega) (law 1 (Or.inr rfl)) code⟩, (z393 19 (by decide) (by decide)).trans h19⟩, fun h => absurd rfl h, rx5, fun y hy => by rw [y396 y (by omega)]; exact t396 y (by omega) (by omega) (by omega)⟩
      clear rx5 z393 cells code law rx3 tb tw t393 t396 cm m0 m1 B2 B3 a1 a2 a3 a4 c1 c2 c3 c4 k4 k5 B1 k1 z396 y396 hk r ab B4
      generalize s.2.1.1 = N at *
      simp (decide := true) (disch := omega) only [en_224, bk_224_0, bk_224_11, bk_224_29, bk_224_48, bk_224_65, bk_224_108, bk_224_132, bq_224_0, bq_224_11, bq_224_29, bq_224_48, bq_224_65, bq_224_108, bq_224_132, rn_iconst, rn_bipush, rn_sipush, rn_ldc_w, rn_ldc, rn_ldcS, rn_lconst, rn_ldc2, rn_gets, rn_iload0, rn_lload0, rn_aload0, rn_istore0, rn_astore0, rn_lstore0, rn_iinc0, rn_iload1, rn_lload1, rn_aload1, rn_istore1, rn_astore1, rn_lstore1, rn_iinc1, rn_iload2, rn_lload2, rn_aload2, rn_istore2, rn_astore2, rn_lstore2, rn_iinc2, rn_iload3, rn_lload3, rn_aload3, rn_istore3, rn_astore3, rn_lstore3, rn_iinc3, rn_iload4, rn_lload4, rn_aload4, rn_istore4, rn_astore4, rn_lstore4, rn_iinc4, rn_iload5, rn_lload5, rn_aload5, rn_istore5, rn_astore5, rn_lstore5, rn_iinc5, rn_iload6, rn_lload6, rn_aload6, rn_istore6, rn_astore6, rn_lstore6, rn_iinc6, rn_iload7, rn_aload7, rn_istore7, rn_astore7, rn_iinc7, rn_iload8, rn_aload8, rn_istore8, rn_astore8, rn_iinc8, rn_iload9, rn_aload9, rn_istore9, rn_astore9, rn_iinc9, rn_iadd, rn_isub, rn_imul, rn_iand, rn_ior, rn_ixor, rn_ishl, rn_ishr, rn_iushr, rn_idiv, rn_irem, rn_ineg, rn_ladd, rn_lsub, rn_lmul, rn_lor, rn_ldiv, rn_lrem, rn_lneg, rn_lshl, rn_lshr, rn_i2l, rn_l2i, rn_i2c, rn_lcmp, rn_dupi, rn_dupa, rn_popi, rn_popa, rn_dup2, rn_aast, rn_alen, rn_geta, rn_aald, rn_puta, rn_new, rn_newa, rn_anew, rn_min, rn_max, rn_slen, rn_chat, rn_indx, rn_objI, rn_nop, rn_goto, rn_ifeq, rn_ifne, rn_iflt, rn_ifge, rn_ifgt, rn_ifle, rn_iceq, rn_icne, rn_iclt, rn_icge, rn_icgt, rn_icle, rn_tsw, rn_lsw, rn_iret, rn_zret, rn_lret, rn_aret, rn_vret, rn_cs0, rn_cs1, rn_cs2, rn_cs3, rn_cs4, rn_cs5, rn_cs6, rn_cs7, rn_cv1, rn_ci1, rn_cv2, rn_ci2, rn_cv3, rn_ci3, rn_cv4, rn_cv5, rn_cv6, rn_cv7, cs_n, cs_i, cs_a, cs_l, rc_i, rc_a, rc_l, rc_n, rw_iald, rw_bald, rw_lald, rw_iast, rw_bast, rw_last, rw_geti, rw_getl, rw_puti, rw_putz, rw_putl, iI_add, iI_sub, iI_mul, iI_neg, iI_lt, iI_le, iI_eq, iI_lt0, iI_le0, iI_0lt, iI_0le, iI_eq0, iI_eq1, iI_div, iI_rem, am_in_ok, am_in_no, iI_toInt, iL_add, iL_sub, iL_mul, iL_neg, iL_div, iL_rem, iI_i2l, iL_l2i, iL_cmp, iL_eq0, iI_or, iI_and, iI_shl, if_true, if_false, true_or, or_true, true_and, and_true, false_or, or_false, not_true_eq_false, not_false_eq_true, Option.bind_some, Option.toList_some, Option.toList_none, List.nil_append, List.cons_append, ite_self, nc_0, nc_1, nc_2, nc_3, nc_4, nc_5, nc_6, nc_7, nc_8, nc_9, nc_10, nc_11, nc_12, nc_13, nc_14, nc_15, nc_16, nc_17, nc_18, nc_19, nc_20, nc_21, nc_22, nc_23, nc_24, nc_25, nc_26, nc_27, nc_28, nc_29, nc_30, nc_31, nc_32, nc_33, nc_34, nc_35, nc_36, nc_40, nc_48, nc_100, nc_256, nc_300, nc_304, sh_393, rf_393_0, rf_393_1, rf_393_2, rf_393_3, rf_393_15, rf_393_20, rf_393_21, rf_393_22, rf_393_27, rf_393_28, rf_393_29, rf_393_30, rf_393_34, sh_396, e1, k1', h12, hn, n24, hs14, e2, u12, e3, t12, tn, h9, e5, mx_264, mx_223, mx_265, if_pos, if_neg, sh_0, sh_393, rw_copy, am_cp_ok]
    · rw [if_neg t] at ab ⊢
      rw [if_neg (show ¬ (1 : Int) = 0 by decide)]
      have T59 : ¬ tkT p (tst p f.2.1) = 59 := by omega
      refine ⟨upI u3 396 (681 * q) (s.2.1.1 + 1), wl3, ?_, fun h => absurd h (show ¬ (1 : Int) = 0 by decide), fun _ => k4.2.2.1, rx3.trans ⟨fun b h1 h2 _ => by rw [upI_c h2], fun y hy => by rw [upI_1 (by decide)], fun _ _ => rfl, fun _ _ => rfl⟩, fun y hy => by rw [upI_2 (by omega)]; exact t396 y (by omega) (by omega) (by omega)⟩
      have tr := r.2.2.2.2.2
      clear rx3 tb tw t393 t396 cm m0 m1 B2 B3 a1 a2 a3 a4 k4 B1 k1 hk r ab B4
      generalize s.2.1.1 = N at *
      generalize tkT p (tst p f.2.1) = tt at *
      simp (decide := true) (disch := omega) only [en_224, bk_224_0, bk_224_11, bk_224_29, bk_224_48, bk_224_65, bk_224_108, bk_224_132, bq_224_0, bq_224_11, bq_224_29, bq_224_48, bq_224_65, bq_224_108, bq_224_132, rn_iconst, rn_bipush, rn_sipush, rn_ldc_w, rn_ldc, rn_ldcS, rn_lconst, rn_ldc2, rn_gets, rn_iload0, rn_lload0, rn_aload0, rn_istore0, rn_astore0, rn_lstore0, rn_iinc0, rn_iload1, rn_lload1, rn_aload1, rn_istore1, rn_astore1, rn_lstore1, rn_iinc1, rn_iload2, rn_lload2, rn_aload2, rn_istore2, rn_astore2, rn_lstore2, rn_iinc2, rn_iload3, rn_lload3, rn_aload3, rn_istore3, rn_astore3, rn_lstore3, rn_iinc3, rn_iload4, rn_lload4, rn_aload4, rn_istore4, rn_astore4, rn_lstore4, rn_iinc4, rn_iload5, rn_lload5, rn_aload5, rn_istore5, rn_astore5, rn_lstore5, rn_iinc5, rn_iload6, rn_lload6, rn_aload6, rn_istore6, rn_astore6, rn_lstore6, rn_iinc6, rn_iload7, rn_aload7, rn_istore7, rn_astore7, rn_iinc7, rn_iload8, rn_aload8, rn_istore8, rn_astore8, rn_iinc8, rn_iload9, rn_aload9, rn_istore9, rn_astore9, rn_iinc9, rn_iadd, rn_isub, rn_imul, rn_iand, rn_ior, rn_ixor, rn_ishl, rn_ishr, rn_iushr, rn_idiv, rn_irem, rn_ineg, rn_ladd, rn_lsub, rn_lmul, rn_lor, rn_ldiv, rn_lrem, rn_lneg, rn_lshl, rn_lshr, rn_i2l, rn_l2i, rn_i2c, rn_lcmp, rn_dupi, rn_dupa, rn_popi, rn_popa, rn_dup2, rn_aast, rn_alen, rn_geta, rn_aald, rn_puta, rn_new, rn_newa, rn_anew, rn_min, rn_max, rn_slen, rn_chat, rn_indx, rn_objI, rn_nop, rn_goto, rn_ifeq, rn_ifne, rn_iflt, rn_ifge, rn_ifgt, rn_ifle, rn_iceq, rn_icne, rn_iclt, rn_icge, rn_icgt, rn_icle, rn_tsw, rn_lsw, rn_iret, rn_zret, rn_lret, rn_aret, rn_vret, rn_cs0, rn_cs1, rn_cs2, rn_cs3, rn_cs4, rn_cs5, rn_cs6, rn_cs7, rn_cv1, rn_ci1, rn_cv2, rn_ci2, rn_cv3, rn_ci3, rn_cv4, rn_cv5, rn_cv6, rn_cv7, cs_n, cs_i, cs_a, cs_l, rc_i, rc_a, rc_l, rc_n, rw_iald, rw_bald, rw_lald, rw_iast, rw_bast, rw_last, rw_geti, rw_getl, rw_puti, rw_putz, rw_putl, iI_add, iI_sub, iI_mul, iI_neg, iI_lt, iI_le, iI_eq, iI_lt0, iI_le0, iI_0lt, iI_0le, iI_eq0, iI_eq1, iI_div, iI_rem, am_in_ok, am_in_no, iI_toInt, iL_add, iL_sub, iL_mul, iL_neg, iL_div, iL_rem, iI_i2l, iL_l2i, iL_cmp, iL_eq0, iI_or, iI_and, iI_shl, if_true, if_false, true_or, or_true, true_and, and_true, false_or, or_false, not_true_eq_false, not_false_eq_true, Option.bind_some, Option.toList_some, Option.toList_none, List.nil_append, List.cons_append, ite_self, nc_0, nc_1, nc_2, nc_3, nc_4, nc_5, nc_6, nc_7, nc_8, nc_9, nc_10, nc_11, nc_12, nc_13, nc_14, nc_15, nc_16, nc_17, nc_18, nc_19, nc_20, nc_21, nc_22, nc_23, nc_24, nc_25, nc_26, nc_27, nc_28, nc_29, nc_30, nc_31, nc_32, nc_33, nc_34, nc_35, nc_36, nc_40, nc_48, nc_100, nc_256, nc_300, nc_304, sh_393, rf_393_0, rf_393_1, rf_393_2, rf_393_3, rf_393_15, rf_393_20, rf_393_21, rf_393_22, rf_393_27, rf_393_28, rf_393_29, rf_393_30, rf_393_34, sh_396, e1, k1', h12, hn, n24, hs14, e2, u12, e3, t12, tn, h9, T59, mx_264, mx_223, mx_265, if_pos, if_neg, sh_0, sh_393, rw_copy, am_cp_ok]
  · rw [if_neg f0] at ab ⊢
    rw [if_neg f0]
    refine ⟨u3, wl3, ?_, fun h => absurd h f0, fun _ => B1.2.2.1, rx3, fun y hy => t396 y (by omega) (by omega) (by omega)⟩
    have ab1 := ab.1
    clear rx3 tb tw t393 t396 cm m0 m1 B2 B3 a1 a2 a3 a4 B1 k1 hk ab B4
    dsimp only
    generalize s.2.1.1 = N at *
    generalize f.1 = fc at *
    simp (decide := true) (disch := omega) only [en_224, bk_224_0, bk_224_11, bk_224_29, bk_224_48, bk_224_65, bk_224_108, bk_224_132, bq_224_0, bq_224_11, bq_224_29, bq_224_48, bq_224_65, bq_224_108, bq_224_132, rn_iconst, rn_bipush, rn_sipush, rn_ldc_w, rn_ldc, rn_ldcS, rn_lconst, rn_ldc2, rn_gets, rn_iload0, rn_lload0, rn_aload0, rn_istore0, rn_astore0, rn_lstore0, rn_iinc0, rn_iload1, rn_lload1, rn_aload1, rn_istore1, rn_astore1, rn_lstore1, rn_iinc1, rn_iload2, rn_lload2, rn_aload2, rn_istore2, rn_astore2, rn_lstore2, rn_iinc2, rn_iload3, rn_lload3, rn_aload3, rn_istore3, rn_astore3, rn_lstore3, rn_iinc3, rn_iload4, rn_lload4, rn_aload4, rn_istore4, rn_astore4, rn_lstore4, rn_iinc4, rn_iload5, rn_lload5, rn_aload5, rn_istore5, rn_astore5, rn_lstore5, rn_iinc5, rn_iload6, rn_lload6, rn_aload6, rn_istore6, rn_astore6, rn_lstore6, rn_iinc6, rn_iload7, rn_aload7, rn_istore7, rn_astore7, rn_iinc7, rn_iload8, rn_aload8, rn_istore8, rn_astore8, rn_iinc8, rn_iload9, rn_aload9, rn_istore9, rn_astore9, rn_iinc9, rn_iadd, rn_isub, rn_imul, rn_iand, rn_ior, rn_ixor, rn_ishl, rn_ishr, rn_iushr, rn_idiv, rn_irem, rn_ineg, rn_ladd, rn_lsub, rn_lmul, rn_lor, rn_ldiv, rn_lrem, rn_lneg, rn_lshl, rn_lshr, rn_i2l, rn_l2i, rn_i2c, rn_lcmp, rn_dupi, rn_dupa, rn_popi, rn_popa, rn_dup2, rn_aast, rn_alen, rn_geta, rn_aald, rn_puta, rn_new, rn_newa, rn_anew, rn_min, rn_max, rn_slen, rn_chat, rn_indx, rn_objI, rn_nop, rn_goto, rn_ifeq, rn_ifne, rn_iflt, rn_ifge, rn_ifgt, rn_ifle, rn_iceq, rn_icne, rn_iclt, rn_icge, rn_icgt, rn_icle, rn_tsw, rn_lsw, rn_iret, rn_zret, rn_lret, rn_aret, rn_vret, rn_cs0, rn_cs1, rn_cs2, rn_cs3, rn_cs4, rn_cs5, rn_cs6, rn_cs7, rn_cv1, rn_ci1, rn_cv2, rn_ci2, rn_cv3, rn_ci3, rn_cv4, rn_cv5, rn_cv6, rn_cv7, cs_n, cs_i, cs_a, cs_l, rc_i, rc_a, rc_l, rc_n, rw_iald, rw_bald, rw_lald, rw_iast, rw_bast, rw_last, rw_geti, rw_getl, rw_puti, rw_putz, rw_putl, iI_add, iI_sub, iI_mul, iI_neg, iI_lt, iI_le, iI_eq, iI_lt0, iI_le0, iI_0lt, iI_0le, iI_eq0, iI_eq1, iI_div, iI_rem, am_in_ok, am_in_no, iI_toInt, iL_add, iL_sub, iL_mul, iL_neg, iL_div, iL_rem, iI_i2l, iL_l2i, iL_cmp, iL_eq0, iI_or, iI_and, iI_shl, if_true, if_false, true_or, or_true, true_and, and_true, false_or, or_false, not_true_eq_false, not_false_eq_true, Option.bind_some, Option.toList_some, Option.toList_none, List.nil_append, List.cons_append, ite_self, nc_0, nc_1, nc_2, nc_3, nc_4, nc_5, nc_6, nc_7, nc_8, nc_9, nc_10, nc_11, nc_12, nc_13, nc_14, nc_15, nc_16, nc_17, nc_18, nc_19, nc_20, nc_21, nc_22, nc_23, nc_24, nc_25, nc_26, nc_27, nc_28, nc_29, nc_30, nc_31, nc_32, nc_33, nc_34, nc_35, nc_36, nc_40, nc_48, nc_100, nc_256, nc_300, nc_304, sh_393, rf_393_0, rf_393_1, rf_393_2, rf_393_3, rf_393_15, rf_393_20, rf_393_21, rf_393_22, rf_393_27, rf_393_28, rf_393_29, rf_393_30, rf_393_34, sh_396, e1, k1', h12, hn, n24, hs14, e2, u12, e3, f0, mx_264, mx_223, mx_265, if_pos, if_neg, sh_0, sh_393, rw_copy, am_cp_ok]
end ML9
