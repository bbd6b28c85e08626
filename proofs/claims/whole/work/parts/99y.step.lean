/-! the model's own steps, as the machine's -/
def MRf (u u2 wl wl2 : Nat → Int → Int) : Prop := (∀ b, b ≠ 393 → b ≠ 396 → b ≠ 398 → u2 b = u b) ∧ (∀ y, (y < 7 ∨ 10 < y) → y ≠ 13 → y ≠ 16 → y ≠ 17 → y ≠ 18 → u2 393 y = u 393 y) ∧ (∀ b, b ≠ 393 → wl2 b = wl b) ∧ (∀ k, k ≠ 11 → wl2 393 k = wl 393 k)
abbrev cC (u : Nat → Int → Int) (q : Int) : Int → Int := fun t => u 396 (681 * q + 73 + 2 * t)
abbrev cV (u : Nat → Int → Int) (q : Int) : Int → Int := fun t => u 396 (681 * q + 73 + 2 * t + 1)
def MPS (p : Bts) (z q : Int) (u wl : Nat → Int → Int) (i : Nat) (S : List Int) (wh : Bool) (k : Int) : Prop := MTk u wl p i ∧ PRep u S ∧ MWr u q k ∧ u 393 17 = opC S ∧ u 393 18 = bI (wh = true) ∧ u 393 14 = z
/-- what a step writes, and what it leaves -/
def MEf (q k : Int) (u u2 wl wl2 : Nat → Int → Int) (D : List (Int × Int)) : Prop := Hol (cC u2 q) (cV u2 q) k D ∧ (∀ y, y < 681 * q + 73 + 2 * k → u2 396 y = u 396 y) ∧ MRf u u2 wl wl2
section ST
variable {d L T o n : Nat} {u u1 u2 : Nat → Int → Int} {wl wl1 wl2 : Nat → Int → Int} {v : Nat → Nat → Int64} {p : Bts} {i : Nat} {q k x y l z m : Int} {S R : List Int} {wh wh2 : Bool} {D D2 : List (Int × Int)} {c cv c2 cv2 : Int → Int}
theorem MRf.refl : MRf u u wl wl := ⟨fun _ _ _ _ => rfl, fun _ _ _ _ _ _ => rfl, fun _ _ => rfl, fun _ _ => rfl⟩
theorem MRf.trans (h : MRf u u1 wl wl1) (g : MRf u1 u2 wl1 wl2) : MRf u u2 wl wl2 :=
  ⟨fun b h1 h2 h3 => (g.1 b h1 h2 h3).trans (h.1 b h1 h2 h3), fun y h1 h2 h3 h4 h5 => (g.2.1 y h1 h2 h3 h4 h5).trans (h.2.1 y h1 h2 h3 h4 h5), fun b h1 => (g.2.2.1 b h1).trans (h.2.2.1 b h1), fun b h1 => (g.2.2.2 b h1).trans (h.2.2.2 b h1)⟩
theorem hol_cong : ∀ (D : List (Int × Int)) {k : Int}, (∀ t, k ≤ t → t < k + D.length → c2 t = c t ∧ cv2 t = cv t) → Hol c cv k D → Hol c2 cv2 k D
  | [], _, _, _ => trivial
  | x :: r, k, h, g => by
    have e : ((x :: r).length : Int) = (r.length : Int) + 1 := by show ((r.length + 1 : Nat) : Int) = _; omega
    have hk := h k (Int.le_refl k) (by omega)
    exact ⟨⟨hk.1.trans g.1.1, hk.2.trans g.1.2⟩, hol_cong r (fun t h1 h2 => h t (by omega) (by omega)) g.2⟩
theorem hol_join : ∀ (D : List (Int × Int)) {k : Int}, Hol c cv k D → Hol c cv (k + D.length) D2 → Hol c cv k (D ++ D2)
  | [], k, _, h => by rw [show k + (([] : List (Int × Int)).length : Int) = k by show k + 0 = k; omega] at h; exact h
  | x :: r, k, h, g => by
    refine ⟨h.1, hol_join r h.2 ?_⟩
    rw [show k + 1 + (r.length : Int) = k + ((x :: r).length : Int) by show _ = k + ((r.length + 1 : Nat) : Int); omega]
    exact g
theorem MEf.refl : MEf q k u u wl wl [] := ⟨trivial, fun _ _ => rfl, MRf.refl⟩
theorem MEf.trans {k2 : Int} (h : MEf q k u u1 wl wl1 D) (hk : k2 = k + D.length) (g : MEf q k2 u1 u2 wl1 wl2 D2) : MEf q k u u2 wl wl2 (D ++ D2) := by
  subst hk
  refine ⟨hol_join D (hol_cong D (fun t h1 h2 => ⟨g.2.1 _ (by omega), g.2.1 _ (by omega)⟩) h.1) g.1, fun y hy => (g.2.1 y (by omega)).trans (h.2.1 y hy), h.2.2.trans g.2.2⟩
theorem MTk.keep (h : MTk u wl p i) (h1 : u2 397 = u 397) (h2 : ∀ y, (y = 4 ∨ (7 ≤ y ∧ y ≤ 10)) → u2 393 y = u 393 y) (h3 : wl2 393 11 = wl 393 11) : MTk u2 wl2 p i :=
  ⟨⟨(h2 4 (Or.inl rfl)).trans h.1.1, by rw [h1]; exact h.1.2⟩, (h2 7 (by omega)).trans h.2.1, (h2 8 (by omega)).trans h.2.2.1, (h2 9 (by omega)).trans h.2.2.2.1, fun g => (h2 10 (by omega)).trans (h.2.2.2.2.1 g), fun g => h3.trans (h.2.2.2.2.2 g)⟩
theorem pat_keep {f g : Int → Int} : ∀ S : List Int, (∀ y, y < (S.length : Int) → f y = g y) → PAt g S → PAt f S
  | [], _, _ => trivial
  | x :: r, h, a => by
    have e : ((x :: r).length : Int) = (r.length : Int) + 1 := by show ((r.length + 1 : Nat) : Int) = _; omega
    exact ⟨(h _ (by omega)).trans a.1, pat_keep r (fun y hy => h y (by omega)) a.2⟩
theorem PRep.push (h : PRep u S) (hl : S.length < 160) (x0 : 0 ≤ x) (x1 : x ≤ 43) (h16 : u2 393 16 = (S.length : Int) + 1) (hx : u2 398 (S.length : Int) = x) (hk : ∀ y, y < (S.length : Int) → u2 398 y = u 398 y) : PRep u2 (x :: S) :=
  ⟨by rw [h16]; show _ = ((S.length + 1 : Nat) : Int); omega, ⟨hx, pat_keep S hk h.2.1⟩, by show S.length + 1 ≤ 160; omega, ⟨⟨x0, x1⟩, h.2.2.2⟩⟩
theorem PRep.pop (h : PRep u (x :: S)) (h16 : u2 393 16 = (S.length : Int)) (hk : u2 398 = u 398) : PRep u2 S :=
  ⟨h16, by rw [hk]; exact h.2.1.2, by have : S.length + 1 ≤ 160 := h.2.2.1; omega, h.2.2.2.2⟩
theorem PRep.keep (h : PRep u S) (h16 : u2 393 16 = u 393 16) (hk : u2 398 = u 398) : PRep u2 S :=
  ⟨h16.trans h.1, by rw [hk]; exact h.2.1, h.2.2⟩
theorem MWr.keep (h : MWr u q k) (h12 : u2 393 12 = u 393 12) (h13 : u2 393 13 = u 393 13) : MWr u2 q k := ⟨h12.trans h.1, h13.trans h.2.1, h.2.2⟩
theorem MPS.upd (h : MPS p z q u wl i S wh k) (f1 : ∀ b, b ≠ 393 → b ≠ 398 → u2 b = u b) (f2 : ∀ y, y ≠ 16 → y ≠ 17 → y ≠ 18 → u2 393 y = u 393 y) (hp : PRep u2 R) (ho : u2 393 17 = opC R) (hw : u2 393 18 = bI (wh2 = true)) : MPS p z q u2 wl i R wh2 k ∧ MEf q k u u2 wl wl [] :=
  ⟨⟨h.1.keep (f1 397 (by decide) (by decide)) (fun y hy => f2 y (by omega) (by omega) (by omega)) rfl, hp, h.2.2.1.keep (f2 12 (by decide) (by decide) (by decide)) (f2 13 (by decide) (by decide) (by decide)), ho, hw, (f2 14 (by decide) (by decide) (by decide)).trans h.2.2.2.2.2⟩, trivial, fun y _ => by rw [f1 396 (by decide) (by decide)], fun b h1 _ h3 => f1 b h1 h3, fun y _ _ h3 h4 h5 => f2 y h3 h4 h5, fun _ _ => rfl, fun _ _ => rfl⟩
theorem m_nx (O : TpOk p) (h : MPS p z q u wl i S wh k) : ∃ u2 wl2, am_call (d + 1) 223 [.ref 393] (L, T, S0 n, am_w u, am_wl wl, R0 o) = some (none, (L, T, S0 n, am_w u2, am_wl wl2, R0 o)) ∧ MPS p z q u2 wl2 (i + 1) S wh k ∧ MEf q k u u2 wl wl2 [] := by
  obtain ⟨u2, wl2, e, t, f1, f2, f3, f4⟩ := m_nextToken (d := d) (L := L) (T := T) (o := o) (n := n) (wl := wl) O h.1.1 h.1.2.1
  exact ⟨u2, wl2, e, ⟨t, h.2.1.keep (f2 16 (by decide) (by decide) (by decide) (by decide)) (f1 398 (by decide)), h.2.2.1.keep (f2 12 (by decide) (by decide) (by decide) (by decide)) (f2 13 (by decide) (by decide) (by decide) (by decide)), (f2 17 (by decide) (by decide) (by decide) (by decide)).trans h.2.2.2.1, (f2 18 (by decide) (by decide) (by decide) (by decide)).trans h.2.2.2.2.1, (f2 14 (by decide) (by decide) (by decide) (by decide)).trans h.2.2.2.2.2⟩, trivial, fun y _ => by rw [f1 396 (by decide)], fun b h1 _ _ => f1 b h1, fun y h1 _ _ _ _ => f2 y (by omega) (by omega) (by omega) (by omega), f3, f4⟩
theorem m_em (h : MPS p z q u wl i S wh k) (hk : k ≤ 302) (x0 : 0 ≤ x) (x1 : x ≤ 100) (y0 : 0 ≤ y) (y1 : y ≤ 2000000) : ∃ u2, am_call d 316 [.ref 393, .int (iI x), .int (iI y)] (L, T, S0 n, am_w u, am_wl wl, R0 o) = some (none, (L, T, S0 n, am_w u2, am_wl wl, R0 o)) ∧ MPS p z q u2 wl i S wh (k + 1) ∧ MEf q k u u2 wl wl [(x, y)] := by
  refine ⟨emU u q k x y, m_emit h.2.2.1 hk x0 x1 y0 y1, ⟨h.1.keep (em_far (by decide) (by decide)) (fun y hy => em_393 (by omega)) rfl, h.2.1.keep (em_393 (by decide)) (em_far (by decide) (by decide)), ⟨(em_393 (by decide)).trans h.2.2.1.1, em_13, h.2.2.1.2.2.1, h.2.2.1.2.2.2.1, by have := h.2.2.1.2.2.2.2; omega⟩, (em_393 (by decide)).trans h.2.2.2.1, (em_393 (by decide)).trans h.2.2.2.2.1, (em_393 (by decide)).trans h.2.2.2.2.2⟩, ⟨⟨em_o, em_v⟩, trivial⟩, fun y hy => em_lo hy, fun b h1 h2 _ => em_far h1 h2, fun y _ h2 _ _ _ => em_393 h2, fun _ _ => rfl, fun _ _ => rfl⟩
theorem stN_le : ∀ S : List Int, stN l S ≤ S.length
  | [] => Nat.le_refl 0
  | x :: r => by
    have := stN_le r
    rw [stN]
    show (if l ≤ rkO x then stN l r + 1 else 0) ≤ r.length + 1
    split <;> omega
theorem hol_take : ∀ (N : Nat) (S : List Int) (k : Int), N ≤ S.length → (∀ t : Nat, t < N → c (k + t) = S.getD t 0 ∧ cv (k + t) = 0) → Hol c cv k (em0 (S.take N))
  | 0, _, _, _, _ => trivial
  | N + 1, [], _, h, _ => absurd h (by show ¬ N + 1 ≤ 0; omega)
  | N + 1, x :: r, k, h, g => by
    have g0 := g 0 (by omega)
    rw [show k + ((0 : Nat) : Int) = k by omega] at g0
    refine ⟨g0, hol_take N r (k + 1) (by have : N + 1 ≤ r.length + 1 := h; omega) (fun t ht => ?_)⟩
    have := g (t + 1) (by omega)
    rw [show k + ((t + 1 : Nat) : Int) = k + 1 + (t : Int) by omega] at this
    exact this
theorem opC_nn : ∀ S : List Int, 0 ≤ opC S
  | [] => Int.le_refl 0
  | x :: r => by
    have := opC_nn r
    rw [opC]
    split <;> omega
theorem opC_sdr (hl : 1 ≤ l) : ∀ S : List Int, opC S = stO l S + opC (sdr l S)
  | [] => rfl
  | x :: r => by
    have ih := opC_sdr hl r
    unfold sdr at ih ⊢
    rw [stO, stN]
    by_cases c : l ≤ rkO x
    · rw [if_pos c, if_pos c]
      show opC (x :: r) = _ + opC (r.drop (stN l r))
      rw [opC]
      have h40 := rk_pos (x := x) (by omega)
      by_cases g : rkO x = 7 ∨ x = 20
      · rw [if_pos g, if_pos (g.elim Or.inl (fun h => Or.inr (Or.inl h)))]; omega
      · rw [if_neg g, if_neg (fun h => h.elim (fun h => g (Or.inl h)) (fun h => h.elim (fun h => g (Or.inr h)) h40))]; omega
    · rw [if_neg c, if_neg c]
      show opC (x :: r) = 0 + opC (x :: r)
      omega
theorem stk_len : ((em0 (stk l S)).length : Int) = (stN l S : Int) := by
  unfold em0 stk
  rw [List.length_map, List.length_take, Nat.min_eq_left (stN_le S)]
theorem m_st (h : MPS p z q u wl i S wh k) (hk : k + S.length ≤ 302) (l0 : 1 ≤ l) (l1 : l ≤ 7) (ho : opC S ≤ 300) : ∃ u2, am_call (d + 1) 307 [.ref 393, .int (iI l)] (L, T, S0 n, am_w u, am_wl wl, R0 o) = some (none, (L, T, S0 n, am_w u2, am_wl wl, R0 o)) ∧ MPS p z q u2 wl i (sdr l S) wh (k + (em0 (stk l S)).length) ∧ MEf q k u u2 wl wl (em0 (stk l S)) := by
  have oc := opC_sdr l0 S
  have on := opC_nn (sdr l S)
  have o17 := h.2.2.2.1
  have snn := opC_nn S
  obtain ⟨u2, e, P, W, z17, zc, zl, zb, zk⟩ := m_settle (d := d) (L := L) (T := T) (o := o) (n := n) (v := am_wl wl) h.2.1 h.2.2.1 hk (by omega) l1 (by omega) (by omega) (by omega)
  rw [stk_len]
  refine ⟨u2, e, ⟨h.1.keep (zb 397 (by decide) (by decide)) (fun y hy => zk y (by omega) (by omega) (by omega)) rfl, P, W, by omega, (zk 18 (by decide) (by decide) (by decide)).trans h.2.2.2.2.1, (zk 14 (by decide) (by decide) (by decide)).trans h.2.2.2.2.2⟩, hol_take (stN l S) S k (stN_le S) (fun t ht => ?_), zl, fun b h1 h2 _ => zb b h1 h2, fun y _ h2 h3 h4 _ => zk y h2 h3 h4, fun _ _ => rfl, fun _ _ => rfl⟩
  exact zc t ht
set_option maxHeartbeats 1000000 in
theorem m_opened (O : TpOk p) (h : MPS p z q u wl i S wh k) (hl : S.length < 160) (x0 : 0 ≤ x) (x1 : x ≤ 43) (hx : rkO x = 7 ∨ x = 20 ∨ 40 ≤ x) (ho : opC S < 8) : ∃ u2 wl2, am_call (d + 2) 319 [.ref 393, .int (iI x)] (L, T, S0 n, am_w u, am_wl wl, R0 o) = some (some (.int (iI 0)), (L, T, S0 n, am_w u2, am_wl wl2, R0 o)) ∧ MPS p z q u2 wl2 (i + 1) (x :: S) wh k ∧ MEf q k u u2 wl wl2 [] := by
  have h17 := h.2.2.2.1
  have h16 := h.2.1.1
  have on := opC_nn S
  have up := MPS.upd (u2 := upI (upI (upI u 393 17 (opC S + 1)) 398 (S.length : Int) x) 393 16 ((S.length : Int) + 1)) (R := x :: S) (wh2 := wh) h (fun b h1 h2 => by rw [upI_c h1, upI_c h2, upI_c h1]) (fun y h1 h2 h3 => by rw [upI_2 h1, upI_1 (by decide), upI_2 h2]) (h.2.1.push hl x0 x1 upI_s (by rw [upI_1 (by decide), upI_s]) (fun y hy => by rw [upI_1 (by decide), upI_2 (by omega), upI_1 (by decide)])) (by rw [upI_2 (by decide), upI_1 (by decide), upI_s, opC_1 hx]) (by rw [upI_2 (by decide), upI_1 (by decide), upI_2 (by decide)]; exact h.2.2.2.2.1)
  obtain ⟨u2, wl2, e, g1, g2⟩ := m_nx (d := d) (L := L) (T := T) (o := o) (n := n) O up.1
  refine ⟨u2, wl2, ?_, g1, up.2.trans (by show k = k + 0; omega) g2⟩
  have a1 : upI u 393 17 (opC S + 1) 393 16 = (S.length : Int) := by rw [upI_2 (by decide)]; exact h16
  have a2 : upI (upI u 393 17 (opC S + 1)) 398 (S.length : Int) x 393 16 = (S.length : Int) := by rw [upI_1 (by decide)]; exact a1
  have l1 : (S.length : Int) < 160 := by omega
  have l0 : 0 ≤ (S.length : Int) := by omega
  generalize (S.length : Int) = s at *
  generalize opC S = c at *
  have c8 : ¬ c = 8 := by omega
  simp (decide := true) (disch := omega) only [en_319, bk_319_0, bk_319_11, bq_319_0, bq_319_11, rn_iconst, rn_bipush, rn_sipush, rn_ldc_w, rn_ldc, rn_ldcS, rn_lconst, rn_ldc2, rn_gets, rn_iload0, rn_lload0, rn_aload0, rn_istore0, rn_astore0, rn_lstore0, rn_iinc0, rn_iload1, rn_lload1, rn_aload1, rn_istore1, rn_astore1, rn_lstore1, rn_iinc1, rn_iload2, rn_lload2, rn_aload2, rn_istore2, rn_astore2, rn_lstore2, rn_iinc2, rn_iload3, rn_lload3, rn_aload3, rn_istore3, rn_astore3, rn_lstore3, rn_iinc3, rn_iload4, rn_lload4, rn_aload4, rn_istore4, rn_astore4, rn_lstore4, rn_iinc4, rn_iload5, rn_lload5, rn_aload5, rn_istore5, rn_astore5, rn_lstore5, rn_iinc5, rn_iload6, rn_lload6, rn_aload6, rn_istore6, rn_astore6, rn_lstore6, rn_iinc6, rn_iload7, rn_aload7, rn_istore7, rn_astore7, rn_iinc7, rn_iload8, rn_aload8, rn_istore8, rn_astore8, rn_iinc8, rn_iload9, rn_aload9, rn_istore9, rn_astore9, rn_iinc9, rn_iadd, rn_isub, rn_imul, rn_iand, rn_ior, rn_ixor, rn_ishl, rn_ishr, rn_iushr, rn_idiv, rn_irem, rn_ineg, rn_ladd, rn_lsub, rn_lmul, rn_lor, rn_ldiv, rn_lrem, rn_lneg, rn_lshl, rn_lshr, rn_i2l, rn_l2i, rn_i2c, rn_lcmp, rn_dupi, rn_dupa, rn_popi, rn_popa, rn_dup2, rn_aast, rn_alen, rn_geta, rn_aald, rn_puta, rn_new, rn_newa, rn_anew, rn_min, rn_max, rn_slen, rn_chat, rn_indx, rn_objI, rn_nop, rn_goto, rn_ifeq, rn_ifne, rn_iflt, rn_ifge, rn_ifgt, rn_ifle, rn_iceq, rn_icne, rn_iclt, rn_icge, rn_icgt, rn_icle, rn_tsw, rn_lsw, rn_iret, rn_zret, rn_lret, rn_aret, rn_vret, rn_cs0, rn_cs1, rn_cs2, rn_cs3, rn_cs4, rn_cs5, rn_cs6, rn_cs7, rn_cv1, rn_ci1, rn_cv2, rn_ci2, rn_cv3, rn_ci3, rn_cv4, rn_cv5, rn_cv6, rn_cv7, cs_n, cs_i, cs_a, cs_l, rc_i, rc_a, rc_l, rc_n, rw_iald, rw_bald, rw_lald, rw_iast, rw_bast, rw_last, rw_geti, rw_getl, rw_puti, rw_putz, rw_putl, iI_add, iI_sub, iI_mul, iI_neg, iI_lt, iI_le, iI_eq, iI_lt0, iI_le0, iI_0lt, iI_0le, iI_eq0, iI_eq1, iI_div, iI_rem, am_in_ok, am_in_no, iI_toInt, iL_add, iL_sub, iL_mul, iL_neg, iL_div, iL_rem, iI_i2l, iL_l2i, iL_cmp, iL_eq0, iI_or, iI_and, iI_shl, if_true, if_false, true_or, or_true, true_and, and_true, false_or, or_false, not_true_eq_false, not_false_eq_true, Option.bind_some, Option.toList_some, Option.toList_none, List.nil_append, List.cons_append, ite_self, nc_0, nc_1, nc_2, nc_3, nc_4, nc_5, nc_6, nc_7, nc_8, nc_9, nc_10, nc_11, nc_12, nc_13, nc_14, nc_15, nc_16, nc_17, nc_18, nc_19, nc_20, nc_21, nc_22, nc_23, nc_24, nc_25, nc_26, nc_27, nc_28, nc_29, nc_30, nc_31, nc_32, nc_33, nc_34, nc_35, nc_36, nc_40, nc_48, nc_100, nc_256, nc_300, nc_304, sh_393, rf_393_0, rf_393_1, rf_393_2, rf_393_3, rf_393_15, rf_393_20, rf_393_21, rf_393_22, rf_393_27, rf_393_28, rf_393_29, rf_393_30, rf_393_34, sh_398, h17, h16, a1, a2, e, c8, mx_223, if_pos, if_neg, sh_0, sh_393, rw_copy, am_cp_ok]
set_option maxHeartbeats 1000000 in
theorem m_openF (h17 : u 393 17 = 8) : am_call d 319 [.ref 393, .int (iI x)] (L, T, S0 n, am_w u, v, R0 o) = some (some (.int (iI 3)), (L, T, S0 n, am_w u, v, R0 o)) := by
  simp (decide := true) (disch := omega) only [en_319, bk_319_0, bk_319_11, bq_319_0, bq_319_11, rn_iconst, rn_bipush, rn_sipush, rn_ldc_w, rn_ldc, rn_ldcS, rn_lconst, rn_ldc2, rn_gets, rn_iload0, rn_lload0, rn_aload0, rn_istore0, rn_astore0, rn_lstore0, rn_iinc0, rn_iload1, rn_lload1, rn_aload1, rn_istore1, rn_astore1, rn_lstore1, rn_iinc1, rn_iload2, rn_lload2, rn_aload2, rn_istore2, rn_astore2, rn_lstore2, rn_iinc2, rn_iload3, rn_lload3, rn_aload3, rn_istore3, rn_astore3, rn_lstore3, rn_iinc3, rn_iload4, rn_lload4, rn_aload4, rn_istore4, rn_astore4, rn_lstore4, rn_iinc4, rn_iload5, rn_lload5, rn_aload5, rn_istore5, rn_astore5, rn_lstore5, rn_iinc5, rn_iload6, rn_lload6, rn_aload6, rn_istore6, rn_astore6, rn_lstore6, rn_iinc6, rn_iload7, rn_aload7, rn_istore7, rn_astore7, rn_iinc7, rn_iload8, rn_aload8, rn_istore8, rn_astore8, rn_iinc8, rn_iload9, rn_aload9, rn_istore9, rn_astore9, rn_iinc9, rn_iadd, rn_isub, rn_imul, rn_iand, rn_ior, rn_ixor, rn_ishl, rn_ishr, rn_iushr, rn_idiv, rn_irem, rn_ineg, rn_ladd, rn_lsub, rn_lmul, rn_lor, rn_ldiv, rn_lrem, rn_lneg, rn_lshl, rn_lshr, rn_i2l, rn_l2i, rn_i2c, rn_lcmp, rn_dupi, rn_dupa, rn_popi, rn_popa, rn_dup2, rn_aast, rn_alen, rn_geta, rn_aald, rn_puta, rn_new, rn_newa, rn_anew, rn_min, rn_max, rn_slen, rn_chat, rn_indx, rn_objI, rn_nop, rn_goto, rn_ifeq, rn_ifne, rn_iflt, rn_ifge, rn_ifgt, rn_ifle, rn_iceq, rn_icne, rn_iclt, rn_icge, rn_icgt, rn_icle, rn_tsw, rn_lsw, rn_iret, rn_zret, rn_lret, rn_aret, rn_vret, rn_cs0, rn_cs1, rn_cs2, rn_cs3, rn_cs4, rn_cs5, rn_cs6, rn_cs7, rn_cv1, rn_ci1, rn_cv2, rn_ci2, rn_cv3, rn_ci3, rn_cv4, rn_cv5, rn_cv6, rn_cv7, cs_n, cs_i, cs_a, cs_l, rc_i, rc_a, rc_l, rc_n, rw_iald, rw_bald, rw_lald, rw_iast, rw_bast, rw_last, rw_geti, rw_getl, rw_puti, rw_putz, rw_putl, iI_add, iI_sub, iI_mul, iI_neg, iI_lt, iI_le, iI_eq, iI_lt0, iI_le0, iI_0lt, iI_0le, iI_eq0, iI_eq1, iI_div, iI_rem, am_in_ok, am_in_no, iI_toInt, iL_add, iL_sub, iL_mul, iL_neg, iL_div, iL_rem, iI_i2l, iL_l2i, iL_cmp, iL_eq0, iI_or, iI_and, iI_shl, if_true, if_false, true_or, or_true, true_and, and_true, false_or, or_false, not_true_eq_false, not_false_eq_true, Option.bind_some, Option.toList_some, Option.toList_none, List.nil_append, List.cons_append, ite_self, nc_0, nc_1, nc_2, nc_3, nc_4, nc_5, nc_6, nc_7, nc_8, nc_9, nc_10, nc_11, nc_12, nc_13, nc_14, nc_15, nc_16, nc_17, nc_18, nc_19, nc_20, nc_21, nc_22, nc_23, nc_24, nc_25, nc_26, nc_27, nc_28, nc_29, nc_30, nc_31, nc_32, nc_33, nc_34, nc_35, nc_36, nc_40, nc_48, nc_100, nc_256, nc_300, nc_304, sh_393, rf_393_0, rf_393_1, rf_393_2, rf_393_3, rf_393_15, rf_393_20, rf_393_21, rf_393_22, rf_393_27, rf_393_28, rf_393_29, rf_393_30, rf_393_34, sh_398, h17, if_pos, if_neg, sh_0, sh_393, rw_copy, am_cp_ok]
set_option maxHeartbeats 1000000 in
theorem m_isAskAhead (P : PRep u S) : am_call (d + 2) 320 [.ref 393] (L, T, S0 n, am_w u, v, R0 o) = some (some (.int (iI (bI (asks S = true)))), (L, T, S0 n, am_w u, v, R0 o)) := by
  have e1 := m_openNow (d := d) (L := L) (T := T) (o := o) (n := n) (v := v) P
  obtain ⟨p1, p2, p3, p4⟩ := P
  have ok := opI_ok S p2 p4
  by_cases c : opN S = 41
  · rw [c] at e1
    cases S with
    | nil => exact absurd c (by decide)
    | cons x r =>
      have rb := rkO_bd (x := x)
      have px := p4.1
      have p1 : u 393 16 = (r.length : Int) + 1 := p1
      have p3 : r.length + 1 ≤ 160 := p3
      have ei : (r.length : Int) + 1 - 1 = (r.length : Int) := by omega
      have px2 := p2.1
      have e2 := m_rank (d := d + 1) (M := (L, T, S0 n, am_w u, v, R0 o)) px.1 px.2
      have ar : asks (x :: r) = (decide (40 ≤ x) || (decide (1 ≤ rkO x) && decide (rkO x ≤ 3))) := by
        show (decide (opN (x :: r) = 41) && _) = _
        rw [decide_eq_true c, Bool.true_and]
      rw [ar]
      have l0 : 0 ≤ (r.length : Int) := by omega
      have l1 : (r.length : Int) < 160 := by omega
      generalize (r.length : Int) = s at *
      by_cases g : 40 ≤ x
      · rw [bI_t (by rw [decide_eq_true g]; rfl)]
        simp (decide := true) (disch := omega) only [en_320, bk_320_0, bk_320_47, bk_320_51, bk_320_52, bq_320_0, bq_320_47, bq_320_51, bq_320_52, rn_iconst, rn_bipush, rn_sipush, rn_ldc_w, rn_ldc, rn_ldcS, rn_lconst, rn_ldc2, rn_gets, rn_iload0, rn_lload0, rn_aload0, rn_istore0, rn_astore0, rn_lstore0, rn_iinc0, rn_iload1, rn_lload1, rn_aload1, rn_istore1, rn_astore1, rn_lstore1, rn_iinc1, rn_iload2, rn_lload2, rn_aload2, rn_istore2, rn_astore2, rn_lstore2, rn_iinc2, rn_iload3, rn_lload3, rn_aload3, rn_istore3, rn_astore3, rn_lstore3, rn_iinc3, rn_iload4, rn_lload4, rn_aload4, rn_istore4, rn_astore4, rn_lstore4, rn_iinc4, rn_iload5, rn_lload5, rn_aload5, rn_istore5, rn_astore5, rn_lstore5, rn_iinc5, rn_iload6, rn_lload6, rn_aload6, rn_istore6, rn_astore6, rn_lstore6, rn_iinc6, rn_iload7, rn_aload7, rn_istore7, rn_astore7, rn_iinc7, rn_iload8, rn_aload8, rn_istore8, rn_astore8, rn_iinc8, rn_iload9, rn_aload9, rn_istore9, rn_astore9, rn_iinc9, rn_iadd, rn_isub, rn_imul, rn_iand, rn_ior, rn_ixor, rn_ishl, rn_ishr, rn_iushr, rn_idiv, rn_irem, rn_ineg, rn_ladd, rn_lsub, rn_lmul, rn_lor, rn_ldiv, rn_lrem, rn_lneg, rn_lshl, rn_lshr, rn_i2l, rn_l2i, rn_i2c, rn_lcmp, rn_dupi, rn_dupa, rn_popi, rn_popa, rn_dup2, rn_aast, rn_alen, rn_geta, rn_aald, rn_puta, rn_new, rn_newa, rn_anew, rn_min, rn_max, rn_slen, rn_chat, rn_indx, rn_objI, rn_nop, rn_goto, rn_ifeq, rn_ifne, rn_iflt, rn_ifge, rn_ifgt, rn_ifle, rn_iceq, rn_icne, rn_iclt, rn_icge, rn_icgt, rn_icle, rn_tsw, rn_lsw, rn_iret, rn_zret, rn_lret, rn_aret, rn_vret, rn_cs0, rn_cs1, rn_cs2, rn_cs3, rn_cs4, rn_cs5, rn_cs6, rn_cs7, rn_cv1, rn_ci1, rn_cv2, rn_ci2, rn_cv3, rn_ci3, rn_cv4, rn_cv5, rn_cv6, rn_cv7, cs_n, cs_i, cs_a, cs_l, rc_i, rc_a, rc_l, rc_n, rw_iald, rw_bald, rw_lald, rw_iast, rw_bast, rw_last, rw_geti, rw_getl, rw_puti, rw_putz, rw_putl, iI_add, iI_sub, iI_mul, iI_neg, iI_lt, iI_le, iI_eq, iI_lt0, iI_le0, iI_0lt, iI_0le, iI_eq0, iI_eq1, iI_div, iI_rem, am_in_ok, am_in_no, iI_toInt, iL_add, iL_sub, iL_mul, iL_neg, iL_div, iL_rem, iI_i2l, iL_l2i, iL_cmp, iL_eq0, iI_or, iI_and, iI_shl, if_true, if_false, true_or, or_true, true_and, and_true, false_or, or_false, not_true_eq_false, not_false_eq_true, Option.bind_some, Option.toList_some, Option.toList_none, List.nil_append, List.cons_append, ite_self, nc_0, nc_1, nc_2, nc_3, nc_4, nc_5, nc_6, nc_7, nc_8, nc_9, nc_10, nc_11, nc_12, nc_13, nc_14, nc_15, nc_16, nc_17, nc_18, nc_19, nc_20, nc_21, nc_22, nc_23, nc_24, nc_25, nc_26, nc_27, nc_28, nc_29, nc_30, nc_31, nc_32, nc_33, nc_34, nc_35, nc_36, nc_40, nc_48, nc_100, nc_256, nc_300, nc_304, sh_393, rf_393_0, rf_393_1, rf_393_2, rf_393_3, rf_393_15, rf_393_20, rf_393_21, rf_393_22, rf_393_27, rf_393_28, rf_393_29, rf_393_30, rf_393_34, sh_398, e1, p1, ei, px2, g, mx_306, if_pos, if_neg, sh_0, sh_393, rw_copy, am_cp_ok]
      · have e3 := m_isIn (d := d + 1) (M := (L, T, S0 n, am_w u, v, R0 o)) (x := rkO x) (lo := 1) (hi := 3) (by omega) (by omega) (by omega) (by omega) (by omega) (by omega)
        rw [decide_eq_false g, Bool.false_or]
        by_cases g2 : 1 ≤ rkO x ∧ rkO x ≤ 3
        · rw [bI_t g2] at e3
          rw [bI_t (by rw [decide_eq_true g2.1, decide_eq_true g2.2]; rfl)]
          generalize rkO x = rx at *
          simp (decide := true) (disch := omega) only [en_320, bk_320_0, bk_320_47, bk_320_51, bk_320_52, bq_320_0, bq_320_47, bq_320_51, bq_320_52, rn_iconst, rn_bipush, rn_sipush, rn_ldc_w, rn_ldc, rn_ldcS, rn_lconst, rn_ldc2, rn_gets, rn_iload0, rn_lload0, rn_aload0, rn_istore0, rn_astore0, rn_lstore0, rn_iinc0, rn_iload1, rn_lload1, rn_aload1, rn_istore1, rn_astore1, rn_lstore1, rn_iinc1, rn_iload2, rn_lload2, rn_aload2, rn_istore2, rn_astore2, rn_lstore2, rn_iinc2, rn_iload3, rn_lload3, rn_aload3, rn_istore3, rn_astore3, rn_lstore3, rn_iinc3, rn_iload4, rn_lload4, rn_aload4, rn_istore4, rn_astore4, rn_lstore4, rn_iinc4, rn_iload5, rn_lload5, rn_aload5, rn_istore5, rn_astore5, rn_lstore5, rn_iinc5, rn_iload6, rn_lload6, rn_aload6, rn_istore6, rn_astore6, rn_lstore6, rn_iinc6, rn_iload7, rn_aload7, rn_istore7, rn_astore7, rn_iinc7, rn_iload8, rn_aload8, rn_istore8, rn_astore8, rn_iinc8, rn_iload9, rn_aload9, rn_istore9, rn_astore9, rn_iinc9, rn_iadd, rn_isub, rn_imul, rn_iand, rn_ior, rn_ixor, rn_ishl, rn_ishr, rn_iushr, rn_idiv, rn_irem, rn_ineg, rn_ladd, rn_lsub, rn_lmul, rn_lor, rn_ldiv, rn_lrem, rn_lneg, rn_lshl, rn_lshr, rn_i2l, rn_l2i, rn_i2c, rn_lcmp, rn_dupi, rn_dupa, rn_popi, rn_popa, rn_dup2, rn_aast, rn_alen, rn_geta, rn_aald, rn_puta, rn_new, rn_newa, rn_anew, rn_min, rn_max, rn_slen, rn_chat, rn_indx, rn_objI, rn_nop, rn_goto, rn_ifeq, rn_ifne, rn_iflt, rn_ifge, rn_ifgt, rn_ifle, rn_iceq, rn_icne, rn_iclt, rn_icge, rn_icgt, rn_icle, rn_tsw, rn_lsw, rn_iret, rn_zret, rn_lret, rn_aret, rn_vret, rn_cs0, rn_cs1, rn_cs2, rn_cs3, rn_cs4, rn_cs5, rn_cs6, rn_cs7, rn_cv1, rn_ci1, rn_cv2, rn_ci2, rn_cv3, rn_ci3, rn_cv4, rn_cv5, rn_cv6, rn_cv7, cs_n, cs_i, cs_a, cs_l, rc_i, rc_a, rc_l, rc_n, rw_iald, rw_bald, rw_lald, rw_iast, rw_bast, rw_last, rw_geti, rw_getl, rw_puti, rw_putz, rw_putl, iI_add, iI_sub, iI_mul, iI_neg, iI_lt, iI_le, iI_eq, iI_lt0, iI_le0, iI_0lt, iI_0le, iI_eq0, iI_eq1, iI_div, iI_rem, am_in_ok, am_in_no, iI_toInt, iL_add, iL_sub, iL_mul, iL_neg, iL_div, iL_rem, iI_i2l, iL_l2i, iL_cmp, iL_eq0, iI_or, iI_and, iI_shl, if_true, if_false, true_or, or_true, true_and, and_true, false_or, or_false, not_true_eq_false, not_false_eq_true, Option.bind_some, Option.toList_some, Option.toList_none, List.nil_append, List.cons_append, ite_self, nc_0, nc_1, nc_2, nc_3, nc_4, nc_5, nc_6, nc_7, nc_8, nc_9, nc_10, nc_11, nc_12, nc_13, nc_14, nc_15, nc_16, nc_17, nc_18, nc_19, nc_20, nc_21, nc_22, nc_23, nc_24, nc_25, nc_26, nc_27, nc_28, nc_29, nc_30, nc_31, nc_32, nc_33, nc_34, nc_35, nc_36, nc_40, nc_48, nc_100, nc_256, nc_300, nc_304, sh_393, rf_393_0, rf_393_1, rf_393_2, rf_393_3, rf_393_15, rf_393_20, rf_393_21, rf_393_22, rf_393_27, rf_393_28, rf_393_29, rf_393_30, rf_393_34, sh_398, e1, p1, ei, px2, g, e2, e3, mx_306, mx_313, mx_127, if_pos, if_neg, sh_0, sh_393, rw_copy, am_cp_ok]
        · rw [bI_f g2] at e3
          rw [bI_f (fun h => g2 (by simpa using h))]
          generalize rkO x = rx at *
          simp (decide := true) (disch := omega) only [en_320, bk_320_0, bk_320_47, bk_320_51, bk_320_52, bq_320_0, bq_320_47, bq_320_51, bq_320_52, rn_iconst, rn_bipush, rn_sipush, rn_ldc_w, rn_ldc, rn_ldcS, rn_lconst, rn_ldc2, rn_gets, rn_iload0, rn_lload0, rn_aload0, rn_istore0, rn_astore0, rn_lstore0, rn_iinc0, rn_iload1, rn_lload1, rn_aload1, rn_istore1, rn_astore1, rn_lstore1, rn_iinc1, rn_iload2, rn_lload2, rn_aload2, rn_istore2, rn_astore2, rn_lstore2, rn_iinc2, rn_iload3, rn_lload3, rn_aload3, rn_istore3, rn_astore3, rn_lstore3, rn_iinc3, rn_iload4, rn_lload4, rn_aload4, rn_istore4, rn_astore4, rn_lstore4, rn_iinc4, rn_iload5, rn_lload5, rn_aload5, rn_istore5, rn_astore5, rn_lstore5, rn_iinc5, rn_iload6, rn_lload6, rn_aload6, rn_istore6, rn_astore6, rn_lstore6, rn_iinc6, rn_iload7, rn_aload7, rn_istore7, rn_astore7, rn_iinc7, rn_iload8, rn_aload8, rn_istore8, rn_astore8, rn_iinc8, rn_iload9, rn_aload9, rn_istore9, rn_astore9, rn_iinc9, rn_iadd, rn_isub, rn_imul, rn_iand, rn_ior, rn_ixor, rn_ishl, rn_ishr, rn_iushr, rn_idiv, rn_irem, rn_ineg, rn_ladd, rn_lsub, rn_lmul, rn_lor, rn_ldiv, rn_lrem, rn_lneg, rn_lshl, rn_lshr, rn_i2l, rn_l2i, rn_i2c, rn_lcmp, rn_dupi, rn_dupa, rn_popi, rn_popa, rn_dup2, rn_aast, rn_alen, rn_geta, rn_aald, rn_puta, rn_new, rn_newa, rn_anew, rn_min, rn_max, rn_slen, rn_chat, rn_indx, rn_objI, rn_nop, rn_goto, rn_ifeq, rn_ifne, rn_iflt, rn_ifge, rn_ifgt, rn_ifle, rn_iceq, rn_icne, rn_iclt, rn_icge, rn_icgt, rn_icle, rn_tsw, rn_lsw, rn_iret, rn_zret, rn_lret, rn_aret, rn_vret, rn_cs0, rn_cs1, rn_cs2, rn_cs3, rn_cs4, rn_cs5, rn_cs6, rn_cs7, rn_cv1, rn_ci1, rn_cv2, rn_ci2, rn_cv3, rn_ci3, rn_cv4, rn_cv5, rn_cv6, rn_cv7, cs_n, cs_i, cs_a, cs_l, rc_i, rc_a, rc_l, rc_n, rw_iald, rw_bald, rw_lald, rw_iast, rw_bast, rw_last, rw_geti, rw_getl, rw_puti, rw_putz, rw_putl, iI_add, iI_sub, iI_mul, iI_neg, iI_lt, iI_le, iI_eq, iI_lt0, iI_le0, iI_0lt, iI_0le, iI_eq0, iI_eq1, iI_div, iI_rem, am_in_ok, am_in_no, iI_toInt, iL_add, iL_sub, iL_mul, iL_neg, iL_div, iL_rem, iI_i2l, iL_l2i, iL_cmp, iL_eq0, iI_or, iI_and, iI_shl, if_true, if_false, true_or, or_true, true_and, and_true, false_or, or_false, not_true_eq_false, not_false_eq_true, Option.bind_some, Option.toList_some, Option.toList_none, List.nil_append, List.cons_append, ite_self, nc_0, nc_1, nc_2, nc_3, nc_4, nc_5, nc_6, nc_7, nc_8, nc_9, nc_10, nc_11, nc_12, nc_13, nc_14, nc_15, nc_16, nc_17, nc_18, nc_19, nc_20, nc_21, nc_22, nc_23, nc_24, nc_25, nc_26, nc_27, nc_28, nc_29, nc_30, nc_31, nc_32, nc_33, nc_34, nc_35, nc_36, nc_40, nc_48, nc_100, nc_256, nc_300, nc_304, sh_393, rf_393_0, rf_393_1, rf_393_2, rf_393_3, rf_393_15, rf_393_20, rf_393_21, rf_393_22, rf_393_27, rf_393_28, rf_393_29, rf_393_30, rf_393_34, sh_398, e1, p1, ei, px2, g, e2, e3, mx_306, mx_313, mx_127, if_pos, if_neg, sh_0, sh_393, rw_copy, am_cp_ok]
  · have ar : asks S = false := by
      cases S with
      | nil => rfl
      | cons x r => show (decide (opN (x :: r) = 41) && _) = _; rw [decide_eq_false c, Bool.false_and]
    rw [bI_f (by rw [ar]; decide)]
    have ob : -1 ≤ opN S ∧ opN S ≤ 43 := by omega
    generalize opN S = x at *
    simp (decide := true) (disch := omega) only [en_320, bk_320_0, bk_320_47, bk_320_51, bk_320_52, bq_320_0, bq_320_47, bq_320_51, bq_320_52, rn_iconst, rn_bipush, rn_sipush, rn_ldc_w, rn_ldc, rn_ldcS, rn_lconst, rn_ldc2, rn_gets, rn_iload0, rn_lload0, rn_aload0, rn_istore0, rn_astore0, rn_lstore0, rn_iinc0, rn_iload1, rn_lload1, rn_aload1, rn_istore1, rn_astore1, rn_lstore1, rn_iinc1, rn_iload2, rn_lload2, rn_aload2, rn_istore2, rn_astore2, rn_lstore2, rn_iinc2, rn_iload3, rn_lload3, rn_aload3, rn_istore3, rn_astore3, rn_lstore3, rn_iinc3, rn_iload4, rn_lload4, rn_aload4, rn_istore4, rn_astore4, rn_lstore4, rn_iinc4, rn_iload5, rn_lload5, rn_aload5, rn_istore5, rn_astore5, rn_lstore5, rn_iinc5, rn_iload6, rn_lload6, rn_aload6, rn_istore6, rn_astore6, rn_lstore6, rn_iinc6, rn_iload7, rn_aload7, rn_istore7, rn_astore7, rn_iinc7, rn_iload8, rn_aload8, rn_istore8, rn_astore8, rn_iinc8, rn_iload9, rn_aload9, rn_istore9, rn_astore9, rn_iinc9, rn_iadd, rn_isub, rn_imul, rn_iand, rn_ior, rn_ixor, rn_ishl, rn_ishr, rn_iushr, rn_idiv, rn_irem, rn_ineg, rn_ladd, rn_lsub, rn_lmul, rn_lor, rn_ldiv, rn_lrem, rn_lneg, rn_lshl, rn_lshr, rn_i2l, rn_l2i, rn_i2c, rn_lcmp, rn_dupi, rn_dupa, rn_popi, rn_popa, rn_dup2, rn_aast, rn_alen, rn_geta, rn_aald, rn_puta, rn_new, rn_newa, rn_anew, rn_min, rn_max, rn_slen, rn_chat, rn_indx, rn_objI, rn_nop, rn_goto, rn_ifeq, rn_ifne, rn_iflt, rn_ifge, rn_ifgt, rn_ifle, rn_iceq, rn_icne, rn_iclt, rn_icge, rn_icgt, rn_icle, rn_tsw, rn_lsw, rn_iret, rn_zret, rn_lret, rn_aret, rn_vret, rn_cs0, rn_cs1, rn_cs2, rn_cs3, rn_cs4, rn_cs5, rn_cs6, rn_cs7, rn_cv1, rn_ci1, rn_cv2, rn_ci2, rn_cv3, rn_ci3, rn_cv4, rn_cv5, rn_cv6, rn_cv7, cs_n, cs_i, cs_a, cs_l, rc_i, rc_a, rc_l, rc_n, rw_iald, rw_bald, rw_lald, rw_iast, rw_bast, rw_last, rw_geti, rw_getl, rw_puti, rw_putz, rw_putl, iI_add, iI_sub, iI_mul, iI_neg, iI_lt, iI_le, iI_eq, iI_lt0, iI_le0, iI_0lt, iI_0le, iI_eq0, iI_eq1, iI_div, iI_rem, am_in_ok, am_in_no, iI_toInt, iL_add, iL_sub, iL_mul, iL_neg, iL_div, iL_rem, iI_i2l, iL_l2i, iL_cmp, iL_eq0, iI_or, iI_and, iI_shl, if_true, if_false, true_or, or_true, true_and, and_true, false_or, or_false, not_true_eq_false, not_false_eq_true, Option.bind_some, Option.toList_some, Option.toList_none, List.nil_append, List.cons_append, ite_self, nc_0, nc_1, nc_2, nc_3, nc_4, nc_5, nc_6, nc_7, nc_8, nc_9, nc_10, nc_11, nc_12, nc_13, nc_14, nc_15, nc_16, nc_17, nc_18, nc_19, nc_20, nc_21, nc_22, nc_23, nc_24, nc_25, nc_26, nc_27, nc_28, nc_29, nc_30, nc_31, nc_32, nc_33, nc_34, nc_35, nc_36, nc_40, nc_48, nc_100, nc_256, nc_300, nc_304, sh_393, rf_393_0, rf_393_1, rf_393_2, rf_393_3, rf_393_15, rf_393_20, rf_393_21, rf_393_22, rf_393_27, rf_393_28, rf_393_29, rf_393_30, rf_393_34, sh_398, e1, c, mx_306, if_pos, if_neg, sh_0, sh_393, rw_copy, am_cp_ok]
end ST
