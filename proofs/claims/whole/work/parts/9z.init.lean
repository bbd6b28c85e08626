section IZ
variable {d n T b m : Nat} {G : Msk} {z w : Nat → Int → Int}
theorem rG_all (h : ∀ a k : Nat, a < 407 → G a (k : Int) = false → R0 353 a k = none) : rG G = R0 353 := by
  funext a k
  unfold rG
  by_cases c : G a (k : Int) = true
  · rw [if_pos c]
  · rw [if_neg c]
    by_cases ha : a < 407
    · exact (h a k ha (by simpa using c)).symm
    · unfold R0
      rw [if_neg (fun g => by omega)]
      have e : rll.getD a [] = [] := by
        rw [List.getD_eq_getElem?_getD, List.getElem?_eq_none (by have hl : rll.length = 407 := (by decide +kernel); omega)]
        rfl
      rw [e]
      rfl
theorem r395 : ∀ k : Nat, R0 353 395 k = none := fun k => by
  by_cases c : k < 40
  · have key : ∀ k : Fin 40, R0 353 395 k.val = none := by decide +kernel
    exact key ⟨k, c⟩
  · exact R0_far (by omega)
/-- the ints behind the constructors -/
def wF (G : Msk) (z : Nat → Int → Int) : Nat → Int → Int := cpI (wG (gM G) z) 394 395 0 0 2518
set_option maxHeartbeats 2000000 in
theorem i_M (h0 : ∀ a, a < 393 → fin G a) : am_call (d + 1) 2 [.ref 393] (MG n 394 T G z) = some (none, (407, T + 2518 + 2518 + 2724 + 300 + 160 + 8 + 330 + 330 + 52 + 48 + 7 + 6 + 256, S0 n, am_w (wF G z), am_wl wl0, R0 353)) := by
  have fn := gM_fin h0
  have er : rG (gM G) = R0 353 := rG_all (fun a k ha hg => by
    by_cases c : a = 395
    · rw [c]; exact r395 k
    · have := (fn a ha c k (by omega) hg).2
      rw [Int.toNat_natCast] at this
      exact this)
  rw [i_M1]
  dsimp only [MG]
  rw [SM_all, er]
  have e := m_copy (d := d) (L := 407) (T := T + 2518 + 2518 + 2724 + 300 + 160 + 8 + 330 + 330 + 52 + 48 + 7 + 6 + 256) (o := 353) (n := n) (u := wG (gM G) z) (v := am_wl wl0) (a := 395) (a0 := 394) (Or.inl ⟨rfl, rfl⟩)
  unfold wF
  generalize T + 2518 + 2518 + 2724 + 300 + 160 + 8 + 330 + 330 + 52 + 48 + 7 + 6 + 256 = TT at *
  conv => lhs; rw [bk_2_197]
  simp (decide := true) (disch := omega) only [en_2, bk_2_197, bq_2_0, bq_2_150, bq_2_172, bq_2_174, bq_2_197, rn_iconst, rn_bipush, rn_sipush, rn_ldc_w, rn_ldc, rn_ldcS, rn_lconst, rn_ldc2, rn_gets, rn_iload0, rn_lload0, rn_aload0, rn_istore0, rn_astore0, rn_lstore0, rn_iinc0, rn_iload1, rn_lload1, rn_aload1, rn_istore1, rn_astore1, rn_lstore1, rn_iinc1, rn_iload2, rn_lload2, rn_aload2, rn_istore2, rn_astore2, rn_lstore2, rn_iinc2, rn_iload3, rn_lload3, rn_aload3, rn_istore3, rn_astore3, rn_lstore3, rn_iinc3, rn_iload4, rn_lload4, rn_aload4, rn_istore4, rn_astore4, rn_lstore4, rn_iinc4, rn_iload5, rn_lload5, rn_aload5, rn_istore5, rn_astore5, rn_lstore5, rn_iinc5, rn_iload6, rn_lload6, rn_aload6, rn_istore6, rn_astore6, rn_lstore6, rn_iinc6, rn_iload7, rn_aload7, rn_istore7, rn_astore7, rn_iinc7, rn_iload8, rn_aload8, rn_istore8, rn_astore8, rn_iinc8, rn_iload9, rn_aload9, rn_istore9, rn_astore9, rn_iinc9, rn_iadd, rn_isub, rn_imul, rn_iand, rn_ior, rn_ixor, rn_ishl, rn_ishr, rn_iushr, rn_idiv, rn_irem, rn_ineg, rn_ladd, rn_lsub, rn_lmul, rn_lor, rn_ldiv, rn_lrem, rn_lneg, rn_lshl, rn_lshr, rn_i2l, rn_l2i, rn_i2c, rn_lcmp, rn_dupi, rn_dupa, rn_popi, rn_popa, rn_dup2, rn_aast, rn_alen, rn_geta, rn_aald, rn_puta, rn_new, rn_newa, rn_anew, rn_min, rn_max, rn_slen, rn_chat, rn_indx, rn_objI, rn_nop, rn_goto, rn_ifeq, rn_ifne, rn_iflt, rn_ifge, rn_ifgt, rn_ifle, rn_iceq, rn_icne, rn_iclt, rn_icge, rn_icgt, rn_icle, rn_tsw, rn_lsw, rn_iret, rn_zret, rn_lret, rn_aret, rn_vret, rn_cs0, rn_cs1, rn_cs2, rn_cs3, rn_cs4, rn_cs5, rn_cs6, rn_cs7, rn_cv1, rn_ci1, rn_cv2, rn_ci2, rn_cv3, rn_ci3, rn_cv4, rn_cv5, rn_cv6, rn_cv7, cs_n, cs_i, cs_a, cs_l, rc_i, rc_a, rc_l, rc_n, rw_iald, rw_bald, rw_lald, rw_iast, rw_bast, rw_last, rw_geti, rw_getl, rw_puti, rw_putz, rw_putl, iI_add, iI_sub, iI_mul, iI_neg, iI_lt, iI_le, iI_eq, iI_lt0, iI_le0, iI_0lt, iI_0le, iI_eq0, iI_eq1, iI_div, iI_rem, am_in_ok, am_in_no, iI_toInt, iL_add, iL_sub, iL_mul, iL_neg, iL_div, iL_rem, iI_i2l, iL_l2i, iL_cmp, iL_eq0, iI_or, iI_and, iI_shl, if_true, if_false, true_or, or_true, true_and, and_true, false_or, or_false, not_true_eq_false, not_false_eq_true, Option.bind_some, Option.toList_some, Option.toList_none, List.nil_append, List.cons_append, ite_self, nc_0, nc_1, nc_2, nc_3, nc_4, nc_5, nc_6, nc_7, nc_8, nc_9, nc_10, nc_11, nc_12, nc_13, nc_14, nc_15, nc_16, nc_17, nc_18, nc_19, nc_20, nc_21, nc_22, nc_23, nc_24, nc_25, nc_26, nc_27, nc_28, nc_29, nc_30, nc_31, nc_32, nc_33, nc_34, nc_35, nc_36, nc_40, nc_48, nc_100, nc_256, nc_300, nc_304, sh_393, rf_393_0, rf_393_1, rf_393_2, rf_393_3, rf_393_15, rf_393_20, rf_393_21, rf_393_22, rf_393_27, rf_393_28, rf_393_29, rf_393_30, rf_393_34, sh_394, sh_395, e, mx_125, if_pos, if_neg, sh_0, sh_393, rw_copy, am_cp_ok]
theorem wF_1 (h0 : ∀ a, a < 393 → fin G a) {a : Nat} {k : Int} (ha : a < 407) (h2 : a ≠ 395) (k0 : 0 ≤ k) : wF G z a k = W0 a k := by
  unfold wF
  rw [cpI_n h2]
  unfold wG
  rw [if_pos ha]
  by_cases c : gM G a k = true
  · rw [if_pos c]
  · rw [if_neg c]
    exact ((gM_fin h0 a ha h2 k k0 (by simpa using c)).1).symm
theorem wF_2 (h0 : ∀ a, a < 393 → fin G a) {k : Int} (k0 : 0 ≤ k) (k1 : k < 2518) : wF G z 395 k = W0 394 k := by
  have e : wF G z 395 k = wG (gM G) z 394 k := by unfold wF; exact cpI_z k0 k1
  have e2 : wF G z 394 k = wG (gM G) z 394 k := by unfold wF; exact cpI_n (by decide)
  rw [e, ← e2]
  exact wF_1 h0 (by decide) (by decide) k0
theorem wF_3 {a : Nat} (ha : 407 ≤ a) : wF G z a = z a := by
  unfold wF
  rw [cpI_c (by omega)]
  funext k
  unfold wG
  rw [if_neg (by omega)]
/-- a world at its start -/
theorem wrel_0 (hb : b = 1 ∨ b = 171) (hW : ∀ a k, b ≤ a → a < b + 20 → 0 ≤ k → w a k = W0 a k) (hM : ∀ k, 0 ≤ k → k < 2518 → w m k = W0 394 k) : WRel w b m := by
  have m0 : ∀ k, 0 ≤ k → k < 2518 → k ≠ 8 → k ≠ 2 → (k < 65 ∨ 71 ≤ k) → (k < 135 ∨ 143 ≤ k) → w m k = 0 := fun k h1 h2 h3 h4 h5 h6 => by
    rw [hM k h1 h2]
    show (if k = 8 then (461 : Int) else if k = 2 then -1 else if 65 ≤ k ∧ k < 71 then -1 else if 135 ≤ k ∧ k < 143 then k - 135 else 0) = 0
    rw [if_neg h3, if_neg h4, if_neg (by omega), if_neg (by omega)]
  have m8 : w m 8 = 461 := hM 8 (by decide) (by decide)
  have m2 : w m 2 = -1 := hM 2 (by decide) (by decide)
  have mc : ∀ k, 65 ≤ k → k < 71 → w m k = -1 := fun k h1 h2 => by
    rw [hM k (by omega) (by omega)]
    show (if k = 8 then (461 : Int) else if k = 2 then -1 else if 65 ≤ k ∧ k < 71 then -1 else if 135 ≤ k ∧ k < 143 then k - 135 else 0) = -1
    rw [if_neg (by omega), if_neg (by omega), if_pos ⟨h1, h2⟩]
  have mh : ∀ k, 135 ≤ k → k < 143 → w m k = k - 135 := fun k h1 h2 => by
    rw [hM k (by omega) (by omega)]
    show (if k = 8 then (461 : Int) else if k = 2 then -1 else if 65 ≤ k ∧ k < 71 then -1 else if 135 ≤ k ∧ k < 143 then k - 135 else 0) = k - 135
    rw [if_neg (by omega), if_neg (by omega), if_neg (by omega), if_pos ⟨h1, h2⟩]
  have n0 := m0 0 (by decide) (by decide) (by decide) (by decide) (by decide) (by decide)
  have n1 := m0 1 (by decide) (by decide) (by decide) (by decide) (by decide) (by decide)
  have n3 := m0 3 (by decide) (by decide) (by decide) (by decide) (by decide) (by decide)
  have n4 := m0 4 (by decide) (by decide) (by decide) (by decide) (by decide) (by decide)
  have n5 := m0 5 (by decide) (by decide) (by decide) (by decide) (by decide) (by decide)
  have n6 := m0 6 (by decide) (by decide) (by decide) (by decide) (by decide) (by decide)
  have c0 : ∀ k : Int, 0 ≤ k → w b k = if k = 6 then -1 else 0 := fun k hk => by rw [hW b k (by omega) (by omega) hk]; rcases hb with rfl | rfl <;> rfl
  have c1 : ∀ k : Int, 0 ≤ k → w (b + 1) k = if k = 7 then 461 else 0 := fun k hk => by rw [hW (b + 1) k (by omega) (by omega) hk]; rcases hb with rfl | rfl <;> rfl
  have c4 : ∀ k : Int, 0 ≤ k → w (b + 4) k = 0 := fun k hk => by rw [hW (b + 4) k (by omega) (by omega) hk]; rcases hb with rfl | rfl <;> rfl
  have c7 : ∀ k : Int, 0 ≤ k → w (b + 7) k = 0 := fun k hk => by rw [hW (b + 7) k (by omega) (by omega) hk]; rcases hb with rfl | rfl <;> rfl
  have c10 : ∀ k : Int, 0 ≤ k → w (b + 10) k = 0 := fun k hk => by rw [hW (b + 10) k (by omega) (by omega) hk]; rcases hb with rfl | rfl <;> rfl
  have c11 : ∀ k : Int, 0 ≤ k → w (b + 11) k = if k = 0 then 6 else 0 := fun k hk => by rw [hW (b + 11) k (by omega) (by omega) hk]; rcases hb with rfl | rfl <;> rfl
  have c13 : ∀ k : Int, 0 ≤ k → w (b + 13) k = if k = 0 then 8 else 0 := fun k hk => by rw [hW (b + 13) k (by omega) (by omega) hk]; rcases hb with rfl | rfl <;> rfl
  have c15 : ∀ k : Int, 0 ≤ k → w (b + 15) k = if k = 0 then 8 else 0 := fun k hk => by rw [hW (b + 15) k (by omega) (by omega) hk]; rcases hb with rfl | rfl <;> rfl
  have c17 : ∀ k : Int, 0 ≤ k → k < 8 → w (b + 17) k = k := fun k hk hk8 => by
    rw [hW (b + 17) k (by omega) (by omega) hk]
    have e : W0 (b + 17) k = if 0 ≤ k ∧ k < 8 then k else 0 := by rcases hb with rfl | rfl <;> rfl
    rw [e, if_pos ⟨hk, hk8⟩]
  have c18 : ∀ k : Int, 0 ≤ k → w (b + 18) k = 0 := fun k hk => by rw [hW (b + 18) k (by omega) (by omega) hk]; rcases hb with rfl | rfl <;> rfl
  have c19 : ∀ k : Int, 0 ≤ k → w (b + 19) k = 0 := fun k hk => by rw [hW (b + 19) k (by omega) (by omega) hk]; rcases hb with rfl | rfl <;> rfl
  have q1 : w (b + 1) 6 = 0 := c1 6 (by decide)
  have q2 : w (b + 1) 7 = 461 := c1 7 (by decide)
  have q3 : w (b + 1) 5 = 0 := c1 5 (by decide)
  have q4 : w (b + 1) 4 = 0 := c1 4 (by decide)
  have z7 := m0 7 (by decide) (by decide) (by decide) (by decide) (by decide) (by decide)
  have z9 := m0 9 (by decide) (by decide) (by decide) (by decide) (by decide) (by decide)
  have z10 := m0 10 (by decide) (by decide) (by decide) (by decide) (by decide) (by decide)
  refine ⟨⟨by omega, by omega, by rw [c7 0 (by decide), n0]⟩, fun d d0 d1 => absurd d1 (by omega), fun d d0 d1 => mc _ (by omega) (by omega), fun d d0 d1 => ?_, ⟨by omega, by omega, ?_, by omega, by omega, ?_⟩, ⟨by omega, by omega, ?_, ?_, ?_⟩, ⟨by omega, by omega, ?_, ?_, fun i i0 i1 => absurd i1 (by omega)⟩, ⟨by omega, by omega, ?_, ?_, fun i i0 i1 => absurd i1 (by omega)⟩, ⟨by omega, by omega, ?_, ?_, fun i i0 i1 => absurd i1 (by omega)⟩, fun h h0 h1 => ?_, fun s s0 s1 => ?_, ?_, fun i i0 i1 => absurd i1 (by omega)⟩
  · have e := m0 (71 + d) (by omega) (by omega) (by omega) (by omega) (by omega) (by omega)
    rw [c10 d d0, e]; decide
  · rw [n1]; exact c0 5 (by decide)
  · rw [m2]; exact c0 6 (by decide)
  · rw [n3]; exact c0 3 (by decide)
  · rw [c0 2 (by decide)]; decide
  · rw [c0 2 (by decide)]; decide
  · rw [n4]; exact c11 2 (by decide)
  · exact c11 0 (by decide)
  · rw [n5]; exact c13 2 (by decide)
  · exact c13 0 (by decide)
  · rw [n6]; exact c15 2 (by decide)
  · exact c15 0 (by decide)
  · have e := mh (135 + h) (by omega) (by omega)
    rw [c17 h h0 h1, e]
    omega
  · have e1 := m0 (143 + 2 * s) (by omega) (by omega) (by omega) (by omega) (by omega) (by omega)
    have e2 := m0 (143 + 2 * s + 1) (by omega) (by omega) (by omega) (by omega) (by omega) (by omega)
    rw [c18 s s0, c19 s s0, e1, e2]
    decide
  · refine ⟨⟨?_, ?_, ?_, ?_⟩, ?_, fun s s0 s1 => ?_, fun s i s0 s1 i0 i1 => ?_, fun i i0 i1 => ?_⟩
    · show w (b + 1) 6 = w m (7 + 0); rw [q1]; exact z7.symm
    · show w (b + 1) 7 = w m (7 + 1); rw [q2]; exact m8.symm
    · show w (b + 1) 5 = w m (7 + 2); rw [q3]; exact z9.symm
    · show w (b + 1) 4 = w m (7 + 3); rw [q4]; exact z10.symm
    · show 0 ≤ w m (7 + 0) ∧ w m (7 + 0) ≤ 9999 ∧ 0 ≤ w m (7 + 1) ∧ w m (7 + 1) ≤ 31050 ∧ -99999 ≤ w m (7 + 2) ∧ w m (7 + 2) ≤ 99999 ∧ 0 ≤ w m (7 + 3) ∧ w m (7 + 3) ≤ 25
      have a1 : w m (7 + 0) = 0 := z7
      have a2 : w m (7 + 1) = 461 := m8
      have a3 : w m (7 + 2) = 0 := z9
      have a4 : w m (7 + 3) = 0 := z10
      omega
    · have e := m0 (7 + (4 + s)) (by omega) (by omega) (by omega) (by omega) (by omega) (by omega)
      have e4 := c4 s s0
      exact ⟨e4.trans e.symm, by dsimp only; omega, by dsimp only; omega⟩
    · have e := m0 (7 + (4 + s)) (by omega) (by omega) (by omega) (by omega) (by omega) (by omega)
      dsimp only at i1
      omega
    · have a4 : w m (7 + 3) = 0 := z10
      dsimp only at i1
      omega
theorem inv_0 (h0 : ∀ a, a < 393 → fin G a) (hS : StcR z) : Inv (wF G z) := by
  have k1 : ∀ {a : Nat} {k : Int}, a < 407 → a ≠ 395 → 0 ≤ k → wF G z a k = W0 a k := fun ha h2 hk => wF_1 h0 ha h2 hk
  have x1 : wF G z 394 1 = 0 := (k1 (by decide) (by decide) (by decide)).trans rfl
  have x2 : wF G z 395 1 = 0 := (wF_2 h0 (by decide) (by decide)).trans rfl
  have t1 : wF G z 346 1 = 0 := (k1 (by decide) (by decide) (by decide)).trans rfl
  have t2 : wF G z 393 4 = 0 := (k1 (by decide) (by decide) (by decide)).trans rfl
  have s : ∀ k : Int, 0 ≤ k → wF G z 388 k = 0 := fun k hk => (k1 (by decide) (by decide) hk).trans rfl
  refine ⟨WRel.now (wrel_0 (Or.inl rfl) (fun a k h1 h2 hk => k1 (by omega) (by omega) hk) (fun k hk _ => k1 (by decide) (by decide) hk)), WRel.kept (wrel_0 (Or.inr rfl) (fun a k h1 h2 hk => k1 (by omega) (by omega) hk) (fun k hk hk2 => wF_2 h0 hk hk2)), by rw [x1, x2]; decide, fun q q0 q1 => absurd q1 (by omega), ⟨?_, ?_, ?_⟩, ⟨⟨by omega, by omega, by omega⟩, fun k k0 k1 => absurd k1 (by omega)⟩, ⟨?_, ?_⟩, (k1 (by decide) (by decide) (by decide)).trans rfl, hS.keep (fun a ha => wF_3 (by omega))⟩
  · rw [s 1 (by decide), s 2 (by decide), s 3 (by decide), s 4 (by decide), s 5 (by decide)]; decide
  · show wF G z 388 3 ≤ wF G z 388 2
    rw [s 3 (by decide), s 2 (by decide)]; decide
  · show wF G z 388 5 ≤ wF G z 388 4
    rw [s 5 (by decide), s 4 (by decide)]; decide
  · exact ((k1 (by decide) (by decide) (by decide)).trans rfl).trans ((k1 (by decide) (by decide) (by decide)).trans rfl : wF G z 393 5 = -1).symm
  · exact ((k1 (by decide) (by decide) (by decide)).trans rfl).trans ((k1 (by decide) (by decide) (by decide)).trans rfl : wF G z 393 6 = -1).symm
end IZ
