section MM9
variable {d L T o n : Nat} {u u1 u2 : Nat → Int → Int} {wl wl1 wl2 : Nat → Int → Int} {p : Bts} {i : Nat} {q k k0 kw x y l z lo hi K N : Int} {s : TS} {V : Option (LEnv → Int)} {VF VT : Option (LEnv → Int)} {c : Cls}
set_option maxHeartbeats 4000000 in
theorem m_clauseL (O : TpOk p) (H : MTxt u wl p q s k0) (Ts : TsOk s) (hK : tK p s.1 = K) (K01 : K = 0 ∨ K = 1) (hno : ¬ lawThere K s) (h24 : s.2.1.1 < 24) : ∃ u2 wl2, am_call (d + 11) 224 [.ref 393] (L, T, S0 n, am_w u, am_wl wl, R0 o) = some (some (.int (iI (if (pLw p K (s.1 + 1)).1 = 0 then (0, (pLw p K (s.1 + 1)).2.1, ((pLw p K (s.1 + 1)).2.1, clAdd s.2.1 (K, 0, 0), (if K = 0 then some (pLw p K (s.1 + 1)).2.2.1 else s.2.2.1), (if K = 0 then s.2.2.2 else some (pLw p K (s.1 + 1)).2.2.1))) else ((pLw p K (s.1 + 1)).1, (pLw p K (s.1 + 1)).2.1, s) : Int × Nat × TS).1)), (L, T, S0 n, am_w u2, am_wl wl2, R0 o)) ∧ MClr u u2 wl wl2 p q (if (pLw p K (s.1 + 1)).1 = 0 then (0, (pLw p K (s.1 + 1)).2.1, ((pLw p K (s.1 + 1)).2.1, clAdd s.2.1 (K, 0, 0), (if K = 0 then some (pLw p K (s.1 + 1)).2.2.1 else s.2.2.1), (if K = 0 then s.2.2.2 else some (pLw p K (s.1 + 1)).2.2.1))) else ((pLw p K (s.1 + 1)).1, (pLw p K (s.1 + 1)).2.1, s)) := by
  obtain ⟨hk, W, kle, cm, ⟨m0, m1⟩, h19⟩ := H
  have i9 := tk_299 O (i := s.1) (by omega)
  have n0 := Ts.1.1
  have e1 := m_sortOf (d := d + 4) (L := L) (T := T) (o := o) (n := n) O hk
  rw [if_neg (by omega), hK] at e1
  have h12 := W.1
  have W2 := W.2.2
  have hn := cm.1
  have ob := onc_bd (VF := s.2.2.1) (VT := s.2.2.2)
  have eh := m_has (d := d + 10) (M := (L, T, S0 n, am_w u, am_wl wl, R0 o)) (a := onc s.2.2.1 s.2.2.2) (s := K) (by omega) (by omega) (by omega) (by omega)
  rw [bI_f (fun h => hno ((onc_has K01).mp h))] at eh
  have hor : ∃ oc2, ior (onc s.2.2.1 s.2.2.2) (pw K) = oc2 ∧ ∀ U : LEnv → Int, oc2 = onc (if K = 0 then some U else s.2.2.1) (if K = 0 then s.2.2.2 else some U) := by
    rcases K01 with rfl | rfl
    · have g : ¬ s.2.2.1.isSome = true := fun h => hno (Or.inl ⟨rfl, h⟩)
      exact ⟨_, rfl, fun U => by rw [if_pos rfl, if_pos rfl]; exact onc_0 g⟩
    · have g : ¬ s.2.2.2.isSome = true := fun h => hno (Or.inr ⟨rfl, h⟩)
      exact ⟨_, rfl, fun U => by rw [if_neg (by decide), if_neg (by decide)]; exact onc_1 g⟩
  obtain ⟨oc2, hor1, hor2⟩ := hor
  have oc2b : 0 ≤ oc2 ∧ oc2 ≤ 3 := by rw [hor2 (fun _ => 0)]; exact onc_bd
  have pwb : 0 ≤ pw K := by rcases K01 with rfl | rfl <;> decide
  have fa : ∀ y, y ≠ 14 → y ≠ 19 → upI (upI u 393 19 oc2) 393 14 K 393 y = u 393 y := fun y h1 h2 => by rw [upI_2 h1, upI_2 h2]
  have fb : ∀ b, b ≠ 393 → upI (upI u 393 19 oc2) 393 14 K b = u b := fun b h1 => by rw [upI_c h1, upI_c h1]
  have fc : upI (upI u 393 19 oc2) 393 14 K 393 19 = oc2 := by rw [upI_2 (by decide), upI_s]
  obtain ⟨u1, wl1, e2, k1, a1, a2, a3, a4⟩ := nx_k (d := d + 9) (L := L) (T := T) (o := o) (n := n) (u := upI (upI u 393 19 oc2) 393 14 K) O (hk.keep (u2 := upI (upI u 393 19 oc2) 393 14 K) (fb 397 (by decide)) (fun y hy => fa y (by omega) (by omega)) rfl)
  have u12 : u1 393 12 = 681 * q := by rw [a2 12 (by decide) (by decide) (by decide) (by decide), fa 12 (by decide) (by decide)]; exact h12
  have u14 : u1 393 14 = K := by rw [a2 14 (by decide) (by decide) (by decide) (by decide), upI_s]
  have u13 : u1 393 13 = k0 := by rw [a2 13 (by decide) (by decide) (by decide) (by decide), fa 13 (by decide) (by decide)]; exact W.2.1
  obtain ⟨u3, wl3, e3, B1, B2, B3, B4⟩ := m_bodyL (d := d) (L := L) (T := T) (o := o) (n := n) (u := upI u1 396 (681 * q + 1 + 3 * s.2.1.1) K) (wl := wl1) (i := s.1 + 1) (x := 681 * q + 1 + 3 * s.2.1.1) (q := q) (k0 := k0) (K := K) O (k1.keep (by rw [upI_c (by decide)]) (fun y _ => by rw [upI_1 (by decide)]) rfl) ⟨by rw [upI_1 (by decide)]; exact u12, by rw [upI_1 (by decide)]; exact u13, W2⟩ (by rw [upI_1 (by decide)]; exact u14) K01 (by omega) (by omega) (by omega) (by omega)
  have t396 : ∀ y, y < 681 * q + 73 + 2 * k0 → y ≠ 681 * q + 1 + 3 * s.2.1.1 → y ≠ 681 * q + 1 + 3 * s.2.1.1 + 1 → y ≠ 681 * q + 1 + 3 * s.2.1.1 + 2 → u3 396 y = u 396 y := fun y h0 h1 h2 h3 => by rw [B3 y h0 h2 h3, upI_2 h1, a1 396 (by decide), fb 396 (by decide)]
  have t0 : u3 396 (681 * q + 1 + 3 * s.2.1.1) = K := by rw [B3 _ (by omega) (by omega) (by omega), upI_s]
  have tn : u3 396 (681 * q) = s.2.1.1 := by rw [t396 _ (by omega) (by omega) (by omega) (by omega)]; exact hn
  have t393 : ∀ y, y ≠ 14 → y ≠ 19 → y ≠ 13 → y ≠ 16 → y ≠ 17 → y ≠ 18 → (y < 7 ∨ 10 < y) → u3 393 y = u 393 y := fun y h1 h2 h3 h4 h5 h6 h7 => by rw [B2.2.1 y h7 h3 h4 h5 h6, upI_1 (by decide), a2 y (by omega) (by omega) (by omega) (by omega), fa y h1 h2]
  have t19 : u3 393 19 = oc2 := by rw [B2.2.1 19 (by decide) (by decide) (by decide) (by decide) (by decide), upI_1 (by decide), a2 19 (by decide) (by decide) (by decide) (by decide), fc]
  have tb : ∀ b, b ≠ 393 → b ≠ 396 → b ≠ 398 → u3 b = u b := fun b h1 h2 h3 => by rw [B2.1 b h1 h2 h3, upI_c h2, a1 b h1, fb b h1]
  have tw : (∀ b, b ≠ 393 → wl3 b = wl b) ∧ (∀ k, k ≠ 11 → wl3 393 k = wl 393 k) := ⟨fun b hb => by rw [B2.2.2.1 b hb, a3 b hb], fun k hk => by rw [B2.2.2.2 k hk, a4 k hk]⟩
  have t12 : u3 393 12 = 681 * q := (t393 12 (by decide) (by decide) (by decide) (by decide) (by decide) (by decide) (by decide)).trans h12
  have rx3 : MRx u u3 wl wl3 := ⟨tb, fun y hy => t393 y (by omega) (by omega) (by omega) (by omega) (by omega) (by omega) (by omega), tw.1, tw.2⟩
  have hs14 : upI (upI u 393 19 oc2) 393 14 K 393 12 = 681 * q := (fa 12 (by decide) (by decide)).trans h12
  have hs19 : upI u 393 19 oc2 393 12 = 681 * q := by rw [upI_2 (by decide)]; exact h12
  have k1' : K ≤ 1 := by omega
  have n24 : ¬ s.2.1.1 = 24 := by omega
  have ab := bd_P (p := p) (z := K) 3000 3 (s.1 + 1) 0 V0 B0
  have v0 : K = 0 → s.2.2.1 = none := fun g => by
    cases hv : s.2.2.1 with
    | none => rfl
    | some U => exact absurd (Or.inl ⟨g, by rw [hv]; rfl⟩) hno
  have v1 : K = 1 → s.2.2.2 = none := fun g => by
    cases hv : s.2.2.2 with
    | none => rfl
    | some U => exact absurd (Or.inr ⟨g, by rw [hv]; rfl⟩) hno
  clear hno
  unfold pLw
  generalize pP p K 3000 3 (s.1 + 1) 0 V0 B0 = f at *
  by_cases f0 : f.1 = 0
  · rw [f0] at e3
    obtain ⟨lt, le, C, B4a, B4b, B4c, B4d, B4e, B4f⟩ := B4 f0
    have r := tk_rel O f.2.1
    unfold tkRel at r
    have k4 : MTk (upI u3 396 (681 * q) (s.2.1.1 + 1)) wl3 p f.2.1 := B1.keep (by rw [upI_c (by decide)]) (fun y _ => by rw [upI_1 (by decide)]) rfl
    have h9 := k4.2.2.2.1
    by_cases t : tK p f.2.1 = 35
    · rw [take_ok f0 t]
      dsimp only
      rw [if_pos rfl]
      have T59 : tkT p (tst p f.2.1) = 59 := by omega
      rw [T59] at h9
      obtain ⟨u5, wl5, e5, k5, c1, c2, c3, c4⟩ := nx_k (d := d + 9) (L := L) (T := T) (o := o) (n := n) O k4
      have i92 := tk_299 O (i := f.2.1) (by omega)
      have z396 : u5 396 = upI u3 396 (681 * q) (s.2.1.1 + 1) 396 := c1 396 (by decide)
      have y396 : ∀ y, y ≠ 681 * q → u5 396 y = u3 396 y := fun y hy => by rw [z396, upI_2 hy]
      have y0 : u5 396 (681 * q) = s.2.1.1 + 1 := by rw [z396, upI_s]
      have rx5 : MRx u u5 wl wl5 := rx3.trans ⟨fun b h1 h2 _ => by rw [c1 b h1, upI_c h2], fun y hy => by rw [c2 y (by omega) (by omega) (by omega) (by omega), upI_1 (by decide)], c3, c4⟩
      have z393 : ∀ y, (y < 7 ∨ 10 < y) → u5 393 y = u3 393 y := fun y h2 => by rw [c2 y (by omega) (by omega) (by omega) (by omega), upI_1 (by decide)]
      have cells : ∀ y, 681 * q + 1 ≤ y → y < 681 * q + 1 + 3 * s.2.1.1 → u5 396 y = u 396 y := fun y h1 h2 => by rw [y396 y (by omega)]; exact t396 y (by omega) (by omega) (by omega) (by omega)
      have code : ∀ y, 681 * q + 73 ≤ y → y < 681 * q + 73 + 2 * k0 → u5 396 y = u 396 y := fun y h1 h2 => by rw [y396 y (by omega)]; exact t396 y h2 (by omega) (by omega) (by omega)
      have sK : u5 396 (681 * q + 1 + 3 * s.2.1.1) = K := by rw [y396 _ (by omega)]; exact t0
      have law : ∀ z, z = 0 ∨ z = 1 → ∀ k, 0 ≤ k → k < s.2.1.1 → u 396 (681 * q + 1 + 3 * k) = z → u 396 (681 * q + 1 + 3 * k + 2) ≤ k0 := fun z hz k g0 g1 g2 => (cm.2 k g0 g1).2.2 (by rw [← (cm.2 k g0 g1).1]; omega)
      have s1 : u5 396 (681 * q + 1 + 3 * s.2.1.1 + 1) = k0 := by rw [y396 _ (by omega)]; exact B4c
      have s2 : u5 396 (681 * q + 1 + 3 * s.2.1.1 + 2) = k0 + C.length := by rw [y396 _ (by omega)]; exact B4d
      have seg : MSeg K (fun i => u5 396 (681 * q + 73 + 2 * i)) (fun i => u5 396 (681 * q + 73 + 2 * i + 1)) (u5 396 (681 * q + 1 + 3 * s.2.1.1 + 1)) (u5 396 (681 * q + 1 + 3 * s.2.1.1 + 2)) f.2.2.1 := by
        rw [s1, s2]
        exact B4f _ _ k0 (by omega) (hol_cong C (fun t h1 h2 => ⟨y396 _ (by omega), y396 _ (by omega)⟩) B4e)
      refine ⟨u5, wl5, ?_, fun _ => ⟨k0 + C.length, k5, B4a.keep (z393 12 (by decide)) (z393 13 (by decide)), by dsimp only; omega, cm.add (by omega) y0 cells sK (fun h => absurd h (by omega)) (fun _ => by rw [s2]; exact Int.le_refl _), ?_, ?_⟩, fun h => absurd rfl h, rx5, fun y hy => by rw [y396 y (by omega)]; exact t396 y (by omega) (by omega) (by omega) (by omega)⟩
      · clear rx5 z393 cells code law rx3 tb tw t393 t396 cm m0 m1 B2 B3 a1 a2 a3 a4 c1 c2 c3 c4 k4 k5 B1 k1 z396 y396 hk r ab B4 seg s1 s2 B4a B4e B4f hor2 fa fb
        generalize s.2.1.1 = N at *
        generalize onc s.2.2.1 s.2.2.2 = oc at *
        simp (decide := true) (disch := omega) only [en_224, bk_224_0, bk_224_11, bk_224_29, bk_224_48, bk_224_65, bk_224_108, bk_224_132, bq_224_0, bq_224_11, bq_224_29, bq_224_48, bq_224_65, bq_224_108, bq_224_132, rn_iconst, rn_bipush, rn_sipush, rn_ldc_w, rn_ldc, rn_ldcS, rn_lconst, rn_ldc2, rn_gets, rn_iload0, rn_lload0, rn_aload0, rn_istore0, rn_astore0, rn_lstore0, rn_iinc0, rn_iload1, rn_lload1, rn_aload1, rn_istore1, rn_astore1, rn_lstore1, rn_iinc1, rn_iload2, rn_lload2, rn_aload2, rn_istore2, rn_astore2, rn_lstore2, rn_iinc2, rn_iload3, rn_lload3, rn_aload3, rn_istore3, rn_astore3, rn_lstore3, rn_iinc3, rn_iload4, rn_lload4, rn_aload4, rn_istore4, rn_astore4, rn_lstore4, rn_iinc4, rn_iload5, rn_lload5, rn_aload5, rn_istore5, rn_astore5, rn_lstore5, rn_iinc5, rn_iload6, rn_lload6, rn_aload6, rn_istore6, rn_astore6, rn_lstore6, rn_iinc6, rn_iload7, rn_aload7, rn_istore7, rn_astore7, rn_iinc7, rn_iload8, rn_aload8, rn_istore8, rn_astore8, rn_iinc8, rn_iload9, rn_aload9, rn_istore9, rn_astore9, rn_iinc9, rn_iadd, rn_isub, rn_imul, rn_iand, rn_ior, rn_ixor, rn_ishl, rn_ishr, rn_iushr, rn_idiv, rn_irem, rn_ineg, rn_ladd, rn_lsub, rn_lmul, rn_lor, rn_ldiv, rn_lrem, rn_lneg, rn_lshl, rn_lshr, rn_i2l, rn_l2i, rn_i2c, rn_lcmp, rn_dupi, rn_dupa, rn_popi, rn_popa, rn_dup2, rn_aast, rn_alen, rn_geta, rn_aald, rn_puta, rn_new, rn_newa, rn_anew, rn_min, rn_max, rn_slen, rn_chat, rn_indx, rn_objI, rn_nop, rn_goto, rn_ifeq, rn_ifne, rn_iflt, rn_ifge, rn_ifgt, rn_ifle, rn_iceq, rn_icne, rn_iclt, rn_icge, rn_icgt, rn_icle, rn_tsw, rn_lsw, rn_iret, rn_zret, rn_lret, rn_aret, rn_vret, rn_cs0, rn_cs1, rn_cs2, rn_cs3, rn_cs4, rn_cs5, rn_cs6, rn_cs7, rn_cv1, rn_ci1, rn_cv2, rn_ci2, rn_cv3, rn_ci3, rn_cv4, rn_cv5, rn_cv6, rn_cv7, cs_n, cs_i, cs_a, cs_l, rc_i, rc_a, rc_l, rc_n, rw_iald, rw_bald, rw_lald, rw_iast, rw_bast, rw_last, rw_geti, rw_getl, rw_puti, rw_putz, rw_putl, iI_add, iI_sub, iI_mul, iI_neg, iI_lt, iI_le, iI_eq, iI_lt0, iI_le0, iI_0lt, iI_0le, iI_eq0, iI_eq1, iI_div, iI_rem, am_in_ok, am_in_no, iI_toInt, iL_add, iL_sub, iL_mul, iL_neg, iL_div, iL_rem, iI_i2l, iL_l2i, iL_cmp, iL_eq0, iI_or, iI_and, iI_shl, if_true, if_false, true_or, or_true, true_and, and_true, false_or, or_false, not_true_eq_false, not_false_eq_true, Option.bind_some, Option.toList_some, Option.toList_none, List.nil_append, List.cons_append, ite_self, nc_0, nc_1, nc_2, nc_3, nc_4, nc_5, nc_6, nc_7, nc_8, nc_9, nc_10, nc_11, nc_12, nc_13, nc_14, nc_15, nc_16, nc_17, nc_18, nc_19, nc_20, nc_21, nc_22, nc_23, nc_24, nc_25, nc_26, nc_27, nc_28, nc_29, nc_30, nc_31, nc_32, nc_33, nc_34, nc_35, nc_36, nc_40, nc_48, nc_100, nc_256, nc_300, nc_304, sh_393, rf_393_0, rf_393_1, rf_393_2, rf_393_3, rf_393_15, rf_393_20, rf_393_21, rf_393_22, rf_393_27, rf_393_28, rf_393_29, rf_393_30, rf_393_34, sh_396, e1, k1', h19, eh, h12, hn, n24, hor1, hs19, hs14, e2, u12, e3, t12, tn, h9, e5, mx_264, mx_200, mx_223, mx_265, if_pos, if_neg, sh_0, sh_393, rw_copy, am_cp_ok]
      · dsimp only
        rcases K01 with rfl | rfl
        · rw [if_pos rfl, if_pos rfl]
          rw [v0 rfl] at m0
          exact ⟨m0.new hn n0 y0 cells sK (by rw [s2]; omega) seg, m1.add hn y0 cells (by rw [sK]; decide) (law 1 (Or.inr rfl)) code⟩
        · rw [if_neg (by decide), if_neg (by decide)]
          rw [v1 rfl] at m1
          exact ⟨m0.add hn y0 cells (by rw [sK]; decide) (law 0 (Or.inl rfl)) code, m1.new hn n0 y0 cells sK (by rw [s2]; omega) seg⟩
      · dsimp only
        rw [z393 19 (by decide), t19]
        exact hor2 f.2.2.1
    · rw [take_no f0 t]
      rw [if_neg (pF_ne (by decide))]
      have T59 : ¬ tkT p (tst p f.2.1) = 59 := by omega
      refine ⟨upI u3 396 (681 * q) (s.2.1.1 + 1), wl3, ?_, fun h => absurd h (show ¬ (1 : Int) = 0 by decide), fun _ => k4.2.2.1, rx3.trans ⟨fun b h1 h2 _ => by rw [upI_c h2], fun y hy => by rw [upI_1 (by decide)], fun _ _ => rfl, fun _ _ => rfl⟩, fun y hy => by rw [upI_2 (by omega)]; exact t396 y (by omega) (by omega) (by omega) (by omega)⟩
      have tr := r.2.2.2.2.2
      show am_call (d + 11) 224 [.ref 393] (L, T, S0 n, am_w u, am_wl wl, R0 o) = some (some (.int (iI 1)), (L, T, S0 n, am_w (upI u3 396 (681 * q) (s.2.1.1 + 1)), am_wl wl3, R0 o))
      clear rx3 tb tw t393 t396 cm m0 m1 B2 B3 a1 a2 a3 a4 k4 B1 k1 hk r ab B4 hor2 fa fb B4a B4e B4f
      generalize s.2.1.1 = N at *
      generalize onc s.2.2.1 s.2.2.2 = oc at *
      generalize tkT p (tst p f.2.1) = tt at *
      simp (decide := true) (disch := omega) only [en_224, bk_224_0, bk_224_11, bk_224_29, bk_224_48, bk_224_65, bk_224_108, bk_224_132, bq_224_0, bq_224_11, bq_224_29, bq_224_48, bq_224_65, bq_224_108, bq_224_132, rn_iconst, rn_bipush, rn_sipush, rn_ldc_w, rn_ldc, rn_ldcS, rn_lconst, rn_ldc2, rn_gets, rn_iload0, rn_lload0, rn_aload0, rn_istore0, rn_astore0, rn_lstore0, rn_iinc0, rn_iload1, rn_lload1, rn_aload1, rn_istore1, rn_astore1, rn_lstore1, rn_iinc1, rn_iload2, rn_lload2, rn_aload2, rn_istore2, rn_astore2, rn_lstore2, rn_iinc2, rn_iload3, rn_lload3, rn_aload3, rn_istore3, rn_astore3, rn_lstore3, rn_iinc3, rn_iload4, rn_lload4, rn_aload4, rn_istore4, rn_astore4, rn_lstore4, rn_iinc4, rn_iload5, rn_lload5, rn_aload5, rn_istore5, rn_astore5, rn_lstore5, rn_iinc5, rn_iload6, rn_lload6, rn_aload6, rn_istore6, rn_astore6, rn_lstore6, rn_iinc6, rn_iload7, rn_aload7, rn_istore7, rn_astore7, rn_iinc7, rn_iload8, rn_aload8, rn_istore8, rn_astore8, rn_iinc8, rn_iload9, rn_aload9, rn_istore9, rn_astore9, rn_iinc9, rn_iadd, rn_isub, rn_imul, rn_iand, rn_ior, rn_ixor, rn_ishl, rn_ishr, rn_iushr, rn_idiv, rn_irem, rn_ineg, rn_ladd, rn_lsub, rn_lmul, rn_lor, rn_ldiv, rn_lrem, rn_lneg, rn_lshl, rn_lshr, rn_i2l, rn_l2i, rn_i2c, rn_lcmp, rn_dupi, rn_dupa, rn_popi, rn_popa, rn_dup2, rn_aast, rn_alen, rn_geta, rn_aald, rn_puta, rn_new, rn_newa, rn_anew, rn_min, rn_max, rn_slen, rn_chat, rn_indx, rn_objI, rn_nop, rn_goto, rn_ifeq, rn_ifne, rn_iflt, rn_ifge, rn_ifgt, rn_ifle, rn_iceq, rn_icne, rn_iclt, rn_icge, rn_icgt, rn_icle, rn_tsw, rn_lsw, rn_iret, rn_zret, rn_lret, rn_aret, rn_vret, rn_cs0, rn_cs1, rn_cs2, rn_cs3, rn_cs4, rn_cs5, rn_cs6, rn_cs7, rn_cv1, rn_ci1, rn_cv2, rn_ci2, rn_cv3, rn_ci3, rn_cv4, rn_cv5, rn_cv6, rn_cv7, cs_n, cs_i, cs_a, cs_l, rc_i, rc_a, rc_l, rc_n, rw_iald, rw_bald, rw_lald, rw_iast, rw_bast, rw_last, rw_geti, rw_getl, rw_puti, rw_putz, rw_putl, iI_add, iI_sub, iI_mul, iI_neg, iI_lt, iI_le, iI_eq, iI_lt0, iI_le0, iI_0lt, iI_0le, iI_eq0, iI_eq1, iI_div, iI_rem, am_in_ok, am_in_no, iI_toInt, iL_add, iL_sub, iL_mul, iL_neg, iL_div, iL_rem, iI_i2l, iL_l2i, iL_cmp, iL_eq0, iI_or, iI_and, iI_shl, if_true, if_false, true_or, or_true, true_and, and_true, false_or, or_false, not_true_eq_false, not_false_eq_true, Option.bind_some, Option.toList_some, Option.toList_none, List.nil_append, List.cons_append, ite_self, nc_0, nc_1, nc_2, nc_3, nc_4, nc_5, nc_6, nc_7, nc_8, nc_9, nc_10, nc_11, nc_12, nc_13, nc_14, nc_15, nc_16, nc_17, nc_18, nc_19, nc_20, nc_21, nc_22, nc_23, nc_24, nc_25, nc_26, nc_27, nc_28, nc_29, nc_30, nc_31, nc_32, nc_33, nc_34, nc_35, nc_36, nc_40, nc_48, nc_100, nc_256, nc_300, nc_304, sh_393, rf_393_0, rf_393_1, rf_393_2, rf_393_3, rf_393_15, rf_393_20, rf_393_21, rf_393_22, rf_393_27, rf_393_28, rf_393_29, rf_393_30, rf_393_34, sh_396, e1, k1', h19, eh, h12, hn, n24, hor1, hs19, hs14, e2, u12, e3, t12, tn, h9, T59, mx_264, mx_200, mx_223, mx_265, if_pos, if_neg, sh_0, sh_393, rw_copy, am_cp_ok]
  · rw [take_neg f0, if_neg f0]
    refine ⟨u3, wl3, ?_, fun h => absurd h f0, fun _ => B1.2.2.1, rx3, fun y hy => t396 y (by omega) (by omega) (by omega) (by omega)⟩
    have ab1 := ab.1
    have ab2 := ab.2
    clear rx3 tb tw t393 t396 cm m0 m1 B2 B3 a1 a2 a3 a4 B1 k1 hk ab B4 hor2 fa fb
    dsimp only
    generalize s.2.1.1 = N at *
    generalize onc s.2.2.1 s.2.2.2 = oc at *
    generalize f.1 = fc at *
    simp (decide := true) (disch := omega) only [en_224, bk_224_0, bk_224_11, bk_224_29, bk_224_48, bk_224_65, bk_224_108, bk_224_132, bq_224_0, bq_224_11, bq_224_29, bq_224_48, bq_224_65, bq_224_108, bq_224_132, rn_iconst, rn_bipush, rn_sipush, rn_ldc_w, rn_ldc, rn_ldcS, rn_lconst, rn_ldc2, rn_gets, rn_iload0, rn_lload0, rn_aload0, rn_istore0, rn_astore0, rn_lstore0, rn_iinc0, rn_iload1, rn_lload1, rn_aload1, rn_istore1, rn_astore1, rn_lstore1, rn_iinc1, rn_iload2, rn_lload2, rn_aload2, rn_istore2, rn_astore2, rn_lstore2, rn_iinc2, rn_iload3, rn_lload3, rn_aload3, rn_istore3, rn_astore3, rn_lstore3, rn_iinc3, rn_iload4, rn_lload4, rn_aload4, rn_istore4, rn_astore4, rn_lstore4, rn_iinc4, rn_iload5, rn_lload5, rn_aload5, rn_istore5, rn_astore5, rn_lstore5, rn_iinc5, rn_iload6, rn_lload6, rn_aload6, rn_istore6, rn_astore6, rn_lstore6, rn_iinc6, rn_iload7, rn_aload7, rn_istore7, rn_astore7, rn_iinc7, rn_iload8, rn_aload8, rn_istore8, rn_astore8, rn_iinc8, rn_iload9, rn_aload9, rn_istore9, rn_astore9, rn_iinc9, rn_iadd, rn_isub, rn_imul, rn_iand, rn_ior, rn_ixor, rn_ishl, rn_ishr, rn_iushr, rn_idiv, rn_irem, rn_ineg, rn_ladd, rn_lsub, rn_lmul, rn_lor, rn_ldiv, rn_lrem, rn_lneg, rn_lshl, rn_lshr, rn_i2l, rn_l2i, rn_i2c, rn_lcmp, rn_dupi, rn_dupa, rn_popi, rn_popa, rn_dup2, rn_aast, rn_alen, rn_geta, rn_aald, rn_puta, rn_new, rn_newa, rn_anew, rn_min, rn_max, rn_slen, rn_chat, rn_indx, rn_objI, rn_nop, rn_goto, rn_ifeq, rn_ifne, rn_iflt, rn_ifge, rn_ifgt, rn_ifle, rn_iceq, rn_icne, rn_iclt, rn_icge, rn_icgt, rn_icle, rn_tsw, rn_lsw, rn_iret, rn_zret, rn_lret, rn_aret, rn_vret, rn_cs0, rn_cs1, rn_cs2, rn_cs3, rn_cs4, rn_cs5, rn_cs6, rn_cs7, rn_cv1, rn_ci1, rn_cv2, rn_ci2, rn_cv3, rn_ci3, rn_cv4, rn_cv5, rn_cv6, rn_cv7, cs_n, cs_i, cs_a, cs_l, rc_i, rc_a, rc_l, rc_n, rw_iald, rw_bald, rw_lald, rw_iast, rw_bast, rw_last, rw_geti, rw_getl, rw_puti, rw_putz, rw_putl, iI_add, iI_sub, iI_mul, iI_neg, iI_lt, iI_le, iI_eq, iI_lt0, iI_le0, iI_0lt, iI_0le, iI_eq0, iI_eq1, iI_div, iI_rem, am_in_ok, am_in_no, iI_toInt, iL_add, iL_sub, iL_mul, iL_neg, iL_div, iL_rem, iI_i2l, iL_l2i, iL_cmp, iL_eq0, iI_or, iI_and, iI_shl, if_true, if_false, true_or, or_true, true_and, and_true, false_or, or_false, not_true_eq_false, not_false_eq_true, Option.bind_some, Option.toList_some, Option.toList_none, List.nil_append, List.cons_append, ite_self, nc_0, nc_1, nc_2, nc_3, nc_4, nc_5, nc_6, nc_7, nc_8, nc_9, nc_10, nc_11, nc_12, nc_13, nc_14, nc_15, nc_16, nc_17, nc_18, nc_19, nc_20, nc_21, nc_22, nc_23, nc_24, nc_25, nc_26, nc_27, nc_28, nc_29, nc_30, nc_31, nc_32, nc_33, nc_34, nc_35, nc_36, nc_40, nc_48, nc_100, nc_256, nc_300, nc_304, sh_393, rf_393_0, rf_393_1, rf_393_2, rf_393_3, rf_393_15, rf_393_20, rf_393_21, rf_393_22, rf_393_27, rf_393_28, rf_393_29, rf_393_30, rf_393_34, sh_396, e1, k1', h19, eh, h12, hn, n24, hor1, hs19, hs14, e2, u12, e3, f0, mx_264, mx_200, mx_223, mx_265, if_pos, if_neg, sh_0, sh_393, rw_copy, am_cp_ok]
end MM9
