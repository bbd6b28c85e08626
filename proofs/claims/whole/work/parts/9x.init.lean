section IX
variable {d n T : Nat} {G : Msk} {z : Nat → Int → Int}
theorem fin_true {G : Msk} {a k q : Nat} (h : fin G a) (r : R0 353 a k = some q) : G a (k : Int) = true := by
  cases c : G a (k : Int) with
  | true => rfl
  | false =>
    have := (h k (by omega) c).2
    rw [Int.toNat_natCast, r] at this
    exact absurd this (by simp)
set_option maxRecDepth 20000 in
set_option maxHeartbeats 8000000 in
theorem i_Reader_352 : ∃ G2, am_call (d + 1) 120 [.ref 352, .ref 346] (MG n 353 T G z) = some (none, MG n 358 (T + 10 + 300 + 24 + 24 + 24) G2 z) ∧ (∀ a, (a < 352 ∨ 358 ≤ a) → G2 a = G a) ∧ (∀ a, 352 ≤ a → a < 358 → fin G2 a) := by
  obtain ⟨G1, e1, f1, n1⟩ := i_Script_353 (d := d) (n := n) (T := T + 10) (G := (gN (gU G 352 2) 353)) (z := z)
  dsimp only [MG] at e1
  try simp only [Nat.reduceAdd] at e1
  refine ⟨(gU (gU (gU (gU G1 352 3) 352 5) 352 6) 352 0), ?_, ?_, ?_⟩
  · simp (decide := true) (disch := (first | omega | assumption | decide | rfl)) only [en_120, bk_120_0, bq_120_0, rn_iconst, rn_bipush, rn_sipush, rn_ldc_w, rn_ldc, rn_ldcS, rn_lconst, rn_ldc2, rn_gets, rn_iload0, rn_lload0, rn_aload0, rn_istore0, rn_astore0, rn_lstore0, rn_iinc0, rn_iload1, rn_lload1, rn_aload1, rn_istore1, rn_astore1, rn_lstore1, rn_iinc1, rn_iload2, rn_lload2, rn_aload2, rn_istore2, rn_astore2, rn_lstore2, rn_iinc2, rn_iload3, rn_lload3, rn_aload3, rn_istore3, rn_astore3, rn_lstore3, rn_iinc3, rn_iload4, rn_lload4, rn_aload4, rn_istore4, rn_astore4, rn_lstore4, rn_iinc4, rn_iload5, rn_lload5, rn_aload5, rn_istore5, rn_astore5, rn_lstore5, rn_iinc5, rn_iload6, rn_lload6, rn_aload6, rn_istore6, rn_astore6, rn_lstore6, rn_iinc6, rn_iload7, rn_aload7, rn_istore7, rn_astore7, rn_iinc7, rn_iload8, rn_aload8, rn_istore8, rn_astore8, rn_iinc8, rn_iload9, rn_aload9, rn_istore9, rn_astore9, rn_iinc9, rn_iadd, rn_isub, rn_imul, rn_iand, rn_ior, rn_ixor, rn_ishl, rn_ishr, rn_iushr, rn_idiv, rn_irem, rn_ineg, rn_ladd, rn_lsub, rn_lmul, rn_lor, rn_ldiv, rn_lrem, rn_lneg, rn_lshl, rn_lshr, rn_i2l, rn_l2i, rn_i2c, rn_lcmp, rn_dupi, rn_dupa, rn_popi, rn_popa, rn_dup2, rn_alen, rn_geta, rn_aald, rn_min, rn_max, rn_slen, rn_chat, rn_indx, rn_objI, rn_nop, rn_goto, rn_ifeq, rn_ifne, rn_iflt, rn_ifge, rn_ifgt, rn_ifle, rn_iceq, rn_icne, rn_iclt, rn_icge, rn_icgt, rn_icle, rn_tsw, rn_lsw, rn_iret, rn_zret, rn_lret, rn_aret, rn_vret, rn_cs0, rn_cs1, rn_cs2, rn_cs3, rn_cs4, rn_cs5, rn_cs6, rn_cs7, rn_cv1, rn_ci1, rn_cv2, rn_ci2, rn_cv3, rn_ci3, rn_cv4, rn_cv5, rn_cv6, rn_cv7, cs_n, cs_i, cs_a, cs_l, rc_i, rc_a, rc_l, rc_n, rw_iald, rw_bald, rw_lald, rw_bast, rw_last, rw_geti, rw_getl, rw_putl, iI_add, iI_sub, iI_mul, iI_neg, iI_lt, iI_le, iI_eq, iI_lt0, iI_le0, iI_0lt, iI_0le, iI_eq0, iI_eq1, iI_div, iI_rem, am_in_ok, am_in_no, iI_toInt, iL_add, iL_sub, iL_mul, iL_neg, iL_div, iL_rem, iI_i2l, iL_l2i, iL_cmp, iL_eq0, iI_or, iI_and, iI_shl, if_true, if_false, true_or, or_true, true_and, and_true, false_or, or_false, not_true_eq_false, not_false_eq_true, Option.bind_some, Option.toList_some, Option.toList_none, List.nil_append, List.cons_append, ite_self, nc_0, nc_1, nc_2, nc_3, nc_4, nc_5, nc_6, nc_7, nc_8, nc_9, nc_10, nc_11, nc_12, nc_13, nc_14, nc_15, nc_16, nc_17, nc_18, nc_19, nc_20, nc_21, nc_22, nc_23, nc_24, nc_25, nc_26, nc_27, nc_28, nc_29, nc_30, nc_31, nc_32, nc_33, nc_34, nc_35, nc_36, nc_40, nc_48, nc_100, nc_256, nc_300, nc_304, gn_new, gn_newa, gn_anew, gn_puti, gn_putz, gn_puta, gn_rg, gn_iast, gn_aast, SM_lt, gN_o, gU_s, gU_1, gU_2, Int.reduceToNat, Nat.reduceAdd, Int.reduceMul, Int.reduceAdd, List.cons_append, List.nil_append, sh_352, rf_352_0, rf_352_3, e1, mx_124, if_pos, if_neg, sh_0, sh_393, rw_copy, am_cp_ok]
  · intro a ha
    funext k
    simp (disch := omega) only [gU_s, gU_1, gU_2, gN_o, f1]
  · intro a h1 h2
    by_cases c1 : 353 ≤ a ∧ a < 358
    · refine fin_eq (n1 a c1.1 c1.2) ?_
      funext k
      simp (disch := omega) only [gU_1, gN_o]
    obtain rfl : a = 352 := by omega
    · refine fin_set (K := [2, 3, 5, 6, 0]) (by decide +kernel) (fun k hk => ?_)
      rcases (show k = 2 ∨ k = 3 ∨ k = 5 ∨ k = 6 ∨ k = 0 by simpa using hk) with rfl | rfl | rfl | rfl | rfl
      all_goals simp (disch := first | omega | decide) only [gU_s, gU_1, gU_2, gN_o, f1, nc_2, nc_3, nc_5, nc_6, nc_0]
set_option maxRecDepth 20000 in
set_option maxHeartbeats 8000000 in
theorem i_Dining_358 : ∃ G2, am_call (d + 1) 121 [.ref 358, .ref 8] (MG n 359 T G z) = some (none, MG n 362 (T + 3 + 25 + 304) G2 z) ∧ (∀ a, (a < 358 ∨ 362 ≤ a) → G2 a = G a) ∧ (∀ a, 358 ≤ a → a < 362 → fin G2 a) := by
  obtain ⟨G1, e1, f1, n1⟩ := i_Laws_359 (d := d) (n := n) (T := T + 3) (G := (gN (gU G 358 0) 359)) (z := z)
  dsimp only [MG] at e1
  try simp only [Nat.reduceAdd] at e1
  refine ⟨(gU G1 358 1), ?_, ?_, ?_⟩
  · simp (decide := true) (disch := (first | omega | assumption | decide | rfl)) only [en_121, bk_121_0, bq_121_0, rn_iconst, rn_bipush, rn_sipush, rn_ldc_w, rn_ldc, rn_ldcS, rn_lconst, rn_ldc2, rn_gets, rn_iload0, rn_lload0, rn_aload0, rn_istore0, rn_astore0, rn_lstore0, rn_iinc0, rn_iload1, rn_lload1, rn_aload1, rn_istore1, rn_astore1, rn_lstore1, rn_iinc1, rn_iload2, rn_lload2, rn_aload2, rn_istore2, rn_astore2, rn_lstore2, rn_iinc2, rn_iload3, rn_lload3, rn_aload3, rn_istore3, rn_astore3, rn_lstore3, rn_iinc3, rn_iload4, rn_lload4, rn_aload4, rn_istore4, rn_astore4, rn_lstore4, rn_iinc4, rn_iload5, rn_lload5, rn_aload5, rn_istore5, rn_astore5, rn_lstore5, rn_iinc5, rn_iload6, rn_lload6, rn_aload6, rn_istore6, rn_astore6, rn_lstore6, rn_iinc6, rn_iload7, rn_aload7, rn_istore7, rn_astore7, rn_iinc7, rn_iload8, rn_aload8, rn_istore8, rn_astore8, rn_iinc8, rn_iload9, rn_aload9, rn_istore9, rn_astore9, rn_iinc9, rn_iadd, rn_isub, rn_imul, rn_iand, rn_ior, rn_ixor, rn_ishl, rn_ishr, rn_iushr, rn_idiv, rn_irem, rn_ineg, rn_ladd, rn_lsub, rn_lmul, rn_lor, rn_ldiv, rn_lrem, rn_lneg, rn_lshl, rn_lshr, rn_i2l, rn_l2i, rn_i2c, rn_lcmp, rn_dupi, rn_dupa, rn_popi, rn_popa, rn_dup2, rn_alen, rn_geta, rn_aald, rn_min, rn_max, rn_slen, rn_chat, rn_indx, rn_objI, rn_nop, rn_goto, rn_ifeq, rn_ifne, rn_iflt, rn_ifge, rn_ifgt, rn_ifle, rn_iceq, rn_icne, rn_iclt, rn_icge, rn_icgt, rn_icle, rn_tsw, rn_lsw, rn_iret, rn_zret, rn_lret, rn_aret, rn_vret, rn_cs0, rn_cs1, rn_cs2, rn_cs3, rn_cs4, rn_cs5, rn_cs6, rn_cs7, rn_cv1, rn_ci1, rn_cv2, rn_ci2, rn_cv3, rn_ci3, rn_cv4, rn_cv5, rn_cv6, rn_cv7, cs_n, cs_i, cs_a, cs_l, rc_i, rc_a, rc_l, rc_n, rw_iald, rw_bald, rw_lald, rw_bast, rw_last, rw_geti, rw_getl, rw_putl, iI_add, iI_sub, iI_mul, iI_neg, iI_lt, iI_le, iI_eq, iI_lt0, iI_le0, iI_0lt, iI_0le, iI_eq0, iI_eq1, iI_div, iI_rem, am_in_ok, am_in_no, iI_toInt, iL_add, iL_sub, iL_mul, iL_neg, iL_div, iL_rem, iI_i2l, iL_l2i, iL_cmp, iL_eq0, iI_or, iI_and, iI_shl, if_true, if_false, true_or, or_true, true_and, and_true, false_or, or_false, not_true_eq_false, not_false_eq_true, Option.bind_some, Option.toList_some, Option.toList_none, List.nil_append, List.cons_append, ite_self, nc_0, nc_1, nc_2, nc_3, nc_4, nc_5, nc_6, nc_7, nc_8, nc_9, nc_10, nc_11, nc_12, nc_13, nc_14, nc_15, nc_16, nc_17, nc_18, nc_19, nc_20, nc_21, nc_22, nc_23, nc_24, nc_25, nc_26, nc_27, nc_28, nc_29, nc_30, nc_31, nc_32, nc_33, nc_34, nc_35, nc_36, nc_40, nc_48, nc_100, nc_256, nc_300, nc_304, gn_new, gn_newa, gn_anew, gn_puti, gn_putz, gn_puta, gn_rg, gn_iast, gn_aast, SM_lt, gN_o, gU_s, gU_1, gU_2, Int.reduceToNat, Nat.reduceAdd, Int.reduceMul, Int.reduceAdd, List.cons_append, List.nil_append, sh_358, rf_358_0, rf_358_1, e1, mx_219, if_pos, if_neg, sh_0, sh_393, rw_copy, am_cp_ok]
  · intro a ha
    funext k
    simp (disch := omega) only [gU_s, gU_1, gU_2, gN_o, f1]
  · intro a h1 h2
    by_cases c1 : 359 ≤ a ∧ a < 362
    · refine fin_eq (n1 a c1.1 c1.2) ?_
      funext k
      simp (disch := omega) only [gU_1, gN_o]
    obtain rfl : a = 358 := by omega
    · refine fin_set (K := [0, 1]) (by decide +kernel) (fun k hk => ?_)
      rcases (show k = 0 ∨ k = 1 by simpa using hk) with rfl | rfl
      all_goals simp (disch := first | omega | decide) only [gU_s, gU_1, gU_2, gN_o, f1, nc_0, nc_1]
set_option maxRecDepth 20000 in
set_option maxHeartbeats 8000000 in
theorem i_S_0 : ∃ G2, am_call (d + 2) 1 [.ref 0] (MG n 1 T G z) = some (none, MG n 393 (T + 13 + 8 + 40 + 40 + 8 + 100 + 30 + 4 + 6 + 6 + 36 + 3 + 18 + 3 + 24 + 3 + 24 + 8 + 8 + 8 + 196 * 30 + 13 + 8 + 40 + 40 + 8 + 100 + 30 + 4 + 6 + 6 + 36 + 3 + 18 + 3 + 24 + 3 + 24 + 8 + 8 + 8 + 196 * 30 + 8 + 40 + 40 + 8 + 100 + 6 + 300 + 301 + 301 + 301 + 5 + 7 + 10 + 300 + 24 + 24 + 24 + 2 + 3 + 25 + 304 + 3 + 48 + 256 + 256 + 1 + 256 + 10 + 300 + 24 + 24 + 24 + 10 + 300 + 24 + 24 + 24 + 10 + 300 + 24 + 24 + 24 + 10 + 300 + 24 + 24 + 24 + 10 + 300 + 24 + 24 + 24) G2 z) ∧ (∀ a, (a < 0 ∨ 393 ≤ a) → G2 a = G a) ∧ (∀ a, 0 ≤ a → a < 393 → fin G2 a) := by
  obtain ⟨G1, e1, f1, n1⟩ := i_World_1 (d := d) (n := n) (T := T + 13) (G := (gN G 1)) (z := z)
  dsimp only [MG] at e1
  try simp only [Nat.reduceAdd] at e1
  have g14 : G1 1 4 = true := fin_true (k := 4) (q := 8) (n1 1 (by decide) (by decide)) rfl
  obtain ⟨G2, e2, f2, n2⟩ := i_World_171 (d := d) (n := n) (T := T + 13 + 8 + 40 + 40 + 8 + 100 + 30 + 4 + 6 + 6 + 36 + 3 + 18 + 3 + 24 + 3 + 24 + 8 + 8 + 8 + 196 * 30 + 13) (G := (gN (gU G1 0 0) 171)) (z := z)
  dsimp only [MG] at e2
  try simp only [Nat.reduceAdd] at e2
  obtain ⟨G3, e3, f3, n3⟩ := i_Table (t := 341) (d := d + 1) (n := n) (T := T + 13 + 8 + 40 + 40 + 8 + 100 + 30 + 4 + 6 + 6 + 36 + 3 + 18 + 3 + 24 + 3 + 24 + 8 + 8 + 8 + 196 * 30 + 13 + 8 + 40 + 40 + 8 + 100 + 30 + 4 + 6 + 6 + 36 + 3 + 18 + 3 + 24 + 3 + 24 + 8 + 8 + 8 + 196 * 30 + 8) (G := (gN (gU G2 0 1) 341)) (z := z) tbf_341
  dsimp only [MG] at e3
  try simp only [Nat.reduceAdd] at e3
  obtain ⟨G4, e4, f4, n4⟩ := i_Tape_346 (d := d + 1) (n := n) (T := T + 13 + 8 + 40 + 40 + 8 + 100 + 30 + 4 + 6 + 6 + 36 + 3 + 18 + 3 + 24 + 3 + 24 + 8 + 8 + 8 + 196 * 30 + 13 + 8 + 40 + 40 + 8 + 100 + 30 + 4 + 6 + 6 + 36 + 3 + 18 + 3 + 24 + 3 + 24 + 8 + 8 + 8 + 196 * 30 + 8 + 40 + 40 + 8 + 100 + 6) (G := (gN (gU G3 0 2) 346)) (z := z)
  dsimp only [MG] at e4
  try simp only [Nat.reduceAdd] at e4
  have r1 : rG (gN (gU (gN (gU G4 0 3) 351) 0 4) 352) 0 3 = some 346 := by
    rw [gn_rg (by simp (disch := first | omega | decide) only [gU_s, gU_1, gU_2, gN_o, nc_3, f1, f2, f3, f4, g14])]
    rfl
  obtain ⟨G5, e5, f5, n5⟩ := i_Reader_352 (d := d) (n := n) (T := T + 13 + 8 + 40 + 40 + 8 + 100 + 30 + 4 + 6 + 6 + 36 + 3 + 18 + 3 + 24 + 3 + 24 + 8 + 8 + 8 + 196 * 30 + 13 + 8 + 40 + 40 + 8 + 100 + 30 + 4 + 6 + 6 + 36 + 3 + 18 + 3 + 24 + 3 + 24 + 8 + 8 + 8 + 196 * 30 + 8 + 40 + 40 + 8 + 100 + 6 + 300 + 301 + 301 + 301 + 5 + 7) (G := (gN (gU (gN (gU G4 0 3) 351) 0 4) 352)) (z := z)
  dsimp only [MG] at e5
  try simp only [Nat.reduceAdd] at e5
  have r2 : rG (gN (gU G5 0 5) 358) 0 0 = some 1 := by
    rw [gn_rg (by simp (disch := first | omega | decide) only [gU_s, gU_1, gU_2, gN_o, nc_0, f1, f2, f3, f4, f5, g14])]
    rfl
  have r3 : rG (gN (gU G5 0 5) 358) 1 4 = some 8 := by
    rw [gn_rg (by simp (disch := first | omega | decide) only [gU_s, gU_1, gU_2, gN_o, nc_4, f1, f2, f3, f4, f5, g14])]
    rfl
  obtain ⟨G6, e6, f6, n6⟩ := i_Dining_358 (d := d) (n := n) (T := T + 13 + 8 + 40 + 40 + 8 + 100 + 30 + 4 + 6 + 6 + 36 + 3 + 18 + 3 + 24 + 3 + 24 + 8 + 8 + 8 + 196 * 30 + 13 + 8 + 40 + 40 + 8 + 100 + 30 + 4 + 6 + 6 + 36 + 3 + 18 + 3 + 24 + 3 + 24 + 8 + 8 + 8 + 196 * 30 + 8 + 40 + 40 + 8 + 100 + 6 + 300 + 301 + 301 + 301 + 5 + 7 + 10 + 300 + 24 + 24 + 24 + 2) (G := (gN (gU G5 0 5) 358)) (z := z)
  dsimp only [MG] at e6
  try simp only [Nat.reduceAdd] at e6
  obtain ⟨G7, e7, f7, n7⟩ := i_Laying_362 (d := d + 1) (n := n) (T := T + 13 + 8 + 40 + 40 + 8 + 100 + 30 + 4 + 6 + 6 + 36 + 3 + 18 + 3 + 24 + 3 + 24 + 8 + 8 + 8 + 196 * 30 + 13 + 8 + 40 + 40 + 8 + 100 + 30 + 4 + 6 + 6 + 36 + 3 + 18 + 3 + 24 + 3 + 24 + 8 + 8 + 8 + 196 * 30 + 8 + 40 + 40 + 8 + 100 + 6 + 300 + 301 + 301 + 301 + 5 + 7 + 10 + 300 + 24 + 24 + 24 + 2 + 3 + 25 + 304 + 3) (G := (gN (gU G6 0 6) 362)) (z := z)
  dsimp only [MG] at e7
  try simp only [Nat.reduceAdd] at e7
  obtain ⟨G8, e8, f8, n8⟩ := i_Game_366 (d := d + 1) (n := n) (T := T + 13 + 8 + 40 + 40 + 8 + 100 + 30 + 4 + 6 + 6 + 36 + 3 + 18 + 3 + 24 + 3 + 24 + 8 + 8 + 8 + 196 * 30 + 13 + 8 + 40 + 40 + 8 + 100 + 30 + 4 + 6 + 6 + 36 + 3 + 18 + 3 + 24 + 3 + 24 + 8 + 8 + 8 + 196 * 30 + 8 + 40 + 40 + 8 + 100 + 6 + 300 + 301 + 301 + 301 + 5 + 7 + 10 + 300 + 24 + 24 + 24 + 2 + 3 + 25 + 304 + 3 + 48 + 256 + 256 + 1) (G := (gN (gU G7 0 7) 366)) (z := z)
  dsimp only [MG] at e8
  try simp only [Nat.reduceAdd] at e8
  have r4 : rG (gU G8 0 8) 0 4 = some 351 := by
    rw [gn_rg (by simp (disch := first | omega | decide) only [gU_s, gU_1, gU_2, gN_o, nc_4, f1, f2, f3, f4, f5, f6, f7, f8, g14])]
    rfl
  have r5 : rG (gN (gU G8 0 8) 368) 0 4 = some 351 := by
    rw [gn_rg (by simp (disch := first | omega | decide) only [gU_s, gU_1, gU_2, gN_o, nc_4, f1, f2, f3, f4, f5, f6, f7, f8, g14])]
    rfl
  obtain ⟨G9, e9, f9, n9⟩ := i_Script_368 (d := d + 1) (n := n) (T := T + 13 + 8 + 40 + 40 + 8 + 100 + 30 + 4 + 6 + 6 + 36 + 3 + 18 + 3 + 24 + 3 + 24 + 8 + 8 + 8 + 196 * 30 + 13 + 8 + 40 + 40 + 8 + 100 + 30 + 4 + 6 + 6 + 36 + 3 + 18 + 3 + 24 + 3 + 24 + 8 + 8 + 8 + 196 * 30 + 8 + 40 + 40 + 8 + 100 + 6 + 300 + 301 + 301 + 301 + 5 + 7 + 10 + 300 + 24 + 24 + 24 + 2 + 3 + 25 + 304 + 3 + 48 + 256 + 256 + 1 + 256 + 10) (G := (gN (gU G8 0 8) 368)) (z := z)
  dsimp only [MG] at e9
  try simp only [Nat.reduceAdd] at e9
  have r6 : rG (gU G9 351 0) 0 4 = some 351 := by
    rw [gn_rg (by simp (disch := first | omega | decide) only [gU_s, gU_1, gU_2, gN_o, nc_4, f1, f2, f3, f4, f5, f6, f7, f8, f9, g14])]
    rfl
  have r7 : rG (gN (gU G9 351 0) 373) 0 4 = some 351 := by
    rw [gn_rg (by simp (disch := first | omega | decide) only [gU_s, gU_1, gU_2, gN_o, nc_4, f1, f2, f3, f4, f5, f6, f7, f8, f9, g14])]
    rfl
  obtain ⟨G10, e10, f10, n10⟩ := i_Script_373 (d := d + 1) (n := n) (T := T + 13 + 8 + 40 + 40 + 8 + 100 + 30 + 4 + 6 + 6 + 36 + 3 + 18 + 3 + 24 + 3 + 24 + 8 + 8 + 8 + 196 * 30 + 13 + 8 + 40 + 40 + 8 + 100 + 30 + 4 + 6 + 6 + 36 + 3 + 18 + 3 + 24 + 3 + 24 + 8 + 8 + 8 + 196 * 30 + 8 + 40 + 40 + 8 + 100 + 6 + 300 + 301 + 301 + 301 + 5 + 7 + 10 + 300 + 24 + 24 + 24 + 2 + 3 + 25 + 304 + 3 + 48 + 256 + 256 + 1 + 256 + 10 + 300 + 24 + 24 + 24 + 10) (G := (gN (gU G9 351 0) 373)) (z := z)
  dsimp only [MG] at e10
  try simp only [Nat.reduceAdd] at e10
  have r8 : rG (gU G10 351 1) 0 4 = some 351 := by
    rw [gn_rg (by simp (disch := first | omega | decide) only [gU_s, gU_1, gU_2, gN_o, nc_4, f1, f2, f3, f4, f5, f6, f7, f8, f9, f10, g14])]
    rfl
  have r9 : rG (gN (gU G10 351 1) 378) 0 4 = some 351 := by
    rw [gn_rg (by simp (disch := first | omega | decide) only [gU_s, gU_1, gU_2, gN_o, nc_4, f1, f2, f3, f4, f5, f6, f7, f8, f9, f10, g14])]
    rfl
  obtain ⟨G11, e11, f11, n11⟩ := i_Script_378 (d := d + 1) (n := n) (T := T + 13 + 8 + 40 + 40 + 8 + 100 + 30 + 4 + 6 + 6 + 36 + 3 + 18 + 3 + 24 + 3 + 24 + 8 + 8 + 8 + 196 * 30 + 13 + 8 + 40 + 40 + 8 + 100 + 30 + 4 + 6 + 6 + 36 + 3 + 18 + 3 + 24 + 3 + 24 + 8 + 8 + 8 + 196 * 30 + 8 + 40 + 40 + 8 + 100 + 6 + 300 + 301 + 301 + 301 + 5 + 7 + 10 + 300 + 24 + 24 + 24 + 2 + 3 + 25 + 304 + 3 + 48 + 256 + 256 + 1 + 256 + 10 + 300 + 24 + 24 + 24 + 10 + 300 + 24 + 24 + 24 + 10) (G := (gN (gU G10 351 1) 378)) (z := z)
  dsimp only [MG] at e11
  try simp only [Nat.reduceAdd] at e11
  have r10 : rG (gU G11 351 2) 0 4 = some 351 := by
    rw [gn_rg (by simp (disch := first | omega | decide) only [gU_s, gU_1, gU_2, gN_o, nc_4, f1, f2, f3, f4, f5, f6, f7, f8, f9, f10, f11, g14])]
    rfl
  have r11 : rG (gN (gU G11 351 2) 383) 0 4 = some 351 := by
    rw [gn_rg (by simp (disch := first | omega | decide) only [gU_s, gU_1, gU_2, gN_o, nc_4, f1, f2, f3, f4, f5, f6, f7, f8, f9, f10, f11, g14])]
    rfl
  obtain ⟨G12, e12, f12, n12⟩ := i_Script_383 (d := d + 1) (n := n) (T := T + 13 + 8 + 40 + 40 + 8 + 100 + 30 + 4 + 6 + 6 + 36 + 3 + 18 + 3 + 24 + 3 + 24 + 8 + 8 + 8 + 196 * 30 + 13 + 8 + 40 + 40 + 8 + 100 + 30 + 4 + 6 + 6 + 36 + 3 + 18 + 3 + 24 + 3 + 24 + 8 + 8 + 8 + 196 * 30 + 8 + 40 + 40 + 8 + 100 + 6 + 300 + 301 + 301 + 301 + 5 + 7 + 10 + 300 + 24 + 24 + 24 + 2 + 3 + 25 + 304 + 3 + 48 + 256 + 256 + 1 + 256 + 10 + 300 + 24 + 24 + 24 + 10 + 300 + 24 + 24 + 24 + 10 + 300 + 24 + 24 + 24 + 10) (G := (gN (gU G11 351 2) 383)) (z := z)
  dsimp only [MG] at e12
  try simp only [Nat.reduceAdd] at e12
  have r12 : rG (gU G12 351 3) 0 4 = some 351 := by
    rw [gn_rg (by simp (disch := first | omega | decide) only [gU_s, gU_1, gU_2, gN_o, nc_4, f1, f2, f3, f4, f5, f6, f7, f8, f9, f10, f11, f12, g14])]
    rfl
  have r13 : rG (gN (gU G12 351 3) 388) 0 4 = some 351 := by
    rw [gn_rg (by simp (disch := first | omega | decide) only [gU_s, gU_1, gU_2, gN_o, nc_4, f1, f2, f3, f4, f5, f6, f7, f8, f9, f10, f11, f12, g14])]
    rfl
  obtain ⟨G13, e13, f13, n13⟩ := i_Script_388 (d := d + 1) (n := n) (T := T + 13 + 8 + 40 + 40 + 8 + 100 + 30 + 4 + 6 + 6 + 36 + 3 + 18 + 3 + 24 + 3 + 24 + 8 + 8 + 8 + 196 * 30 + 13 + 8 + 40 + 40 + 8 + 100 + 30 + 4 + 6 + 6 + 36 + 3 + 18 + 3 + 24 + 3 + 24 + 8 + 8 + 8 + 196 * 30 + 8 + 40 + 40 + 8 + 100 + 6 + 300 + 301 + 301 + 301 + 5 + 7 + 10 + 300 + 24 + 24 + 24 + 2 + 3 + 25 + 304 + 3 + 48 + 256 + 256 + 1 + 256 + 10 + 300 + 24 + 24 + 24 + 10 + 300 + 24 + 24 + 24 + 10 + 300 + 24 + 24 + 24 + 10 + 300 + 24 + 24 + 24 + 10) (G := (gN (gU G12 351 3) 388)) (z := z)
  dsimp only [MG] at e13
  try simp only [Nat.reduceAdd] at e13
  have r14 : rG (gU G13 351 4) 0 4 = some 351 := by
    rw [gn_rg (by simp (disch := first | omega | decide) only [gU_s, gU_1, gU_2, gN_o, nc_4, f1, f2, f3, f4, f5, f6, f7, f8, f9, f10, f11, f12, f13, g14])]
    rfl
  refine ⟨(gU G13 351 4), ?_, ?_, ?_⟩
  · simp (decide := true) (disch := (first | omega | assumption | decide | rfl)) only [en_1, bk_1_0, bk_1_113, bk_1_141, bq_1_0, bq_1_113, bq_1_141, rn_iconst, rn_bipush, rn_sipush, rn_ldc_w, rn_ldc, rn_ldcS, rn_lconst, rn_ldc2, rn_gets, rn_iload0, rn_lload0, rn_aload0, rn_istore0, rn_astore0, rn_lstore0, rn_iinc0, rn_iload1, rn_lload1, rn_aload1, rn_istore1, rn_astore1, rn_lstore1, rn_iinc1, rn_iload2, rn_lload2, rn_aload2, rn_istore2, rn_astore2, rn_lstore2, rn_iinc2, rn_iload3, rn_lload3, rn_aload3, rn_istore3, rn_astore3, rn_lstore3, rn_iinc3, rn_iload4, rn_lload4, rn_aload4, rn_istore4, rn_astore4, rn_lstore4, rn_iinc4, rn_iload5, rn_lload5, rn_aload5, rn_istore5, rn_astore5, rn_lstore5, rn_iinc5, rn_iload6, rn_lload6, rn_aload6, rn_istore6, rn_astore6, rn_lstore6, rn_iinc6, rn_iload7, rn_aload7, rn_istore7, rn_astore7, rn_iinc7, rn_iload8, rn_aload8, rn_istore8, rn_astore8, rn_iinc8, rn_iload9, rn_aload9, rn_istore9, rn_astore9, rn_iinc9, rn_iadd, rn_isub, rn_imul, rn_iand, rn_ior, rn_ixor, rn_ishl, rn_ishr, rn_iushr, rn_idiv, rn_irem, rn_ineg, rn_ladd, rn_lsub, rn_lmul, rn_lor, rn_ldiv, rn_lrem, rn_lneg, rn_lshl, rn_lshr, rn_i2l, rn_l2i, rn_i2c, rn_lcmp, rn_dupi, rn_dupa, rn_popi, rn_popa, rn_dup2, rn_alen, rn_geta, rn_aald, rn_min, rn_max, rn_slen, rn_chat, rn_indx, rn_objI, rn_nop, rn_goto, rn_ifeq, rn_ifne, rn_iflt, rn_ifge, rn_ifgt, rn_ifle, rn_iceq, rn_icne, rn_iclt, rn_icge, rn_icgt, rn_icle, rn_tsw, rn_lsw, rn_iret, rn_zret, rn_lret, rn_aret, rn_vret, rn_cs0, rn_cs1, rn_cs2, rn_cs3, rn_cs4, rn_cs5, rn_cs6, rn_cs7, rn_cv1, rn_ci1, rn_cv2, rn_ci2, rn_cv3, rn_ci3, rn_cv4, rn_cv5, rn_cv6, rn_cv7, cs_n, cs_i, cs_a, cs_l, rc_i, rc_a, rc_l, rc_n, rw_iald, rw_bald, rw_lald, rw_bast, rw_last, rw_geti, rw_getl, rw_putl, iI_add, iI_sub, iI_mul, iI_neg, iI_lt, iI_le, iI_eq, iI_lt0, iI_le0, iI_0lt, iI_0le, iI_eq0, iI_eq1, iI_div, iI_rem, am_in_ok, am_in_no, iI_toInt, iL_add, iL_sub, iL_mul, iL_neg, iL_div, iL_rem, iI_i2l, iL_l2i, iL_cmp, iL_eq0, iI_or, iI_and, iI_shl, if_true, if_false, true_or, or_true, true_and, and_true, false_or, or_false, not_true_eq_false, not_false_eq_true, Option.bind_some, Option.toList_some, Option.toList_none, List.nil_append, List.cons_append, ite_self, nc_0, nc_1, nc_2, nc_3, nc_4, nc_5, nc_6, nc_7, nc_8, nc_9, nc_10, nc_11, nc_12, nc_13, nc_14, nc_15, nc_16, nc_17, nc_18, nc_19, nc_20, nc_21, nc_22, nc_23, nc_24, nc_25, nc_26, nc_27, nc_28, nc_29, nc_30, nc_31, nc_32, nc_33, nc_34, nc_35, nc_36, nc_40, nc_48, nc_100, nc_256, nc_300, nc_304, gn_new, gn_newa, gn_anew, gn_puti, gn_putz, gn_puta, gn_rg, gn_iast, gn_aast, SM_lt, gN_o, gU_s, gU_1, gU_2, Int.reduceToNat, Nat.reduceAdd, Int.reduceMul, Int.reduceAdd, List.cons_append, List.nil_append, sh_0, rf_0_0, rf_0_1, rf_0_2, rf_0_3, rf_0_4, rf_0_5, rf_0_6, rf_0_7, rf_0_8, sh_1, rf_1_0, rf_1_1, rf_1_4, rf_1_7, rf_1_8, rf_1_9, rf_1_10, rf_1_11, rf_1_12, sh_351, e1, e2, e3, e4, e5, e6, e7, e8, e9, e10, e11, e12, e13, r1, r2, r3, r4, r5, r6, r7, r8, r9, r10, r11, r12, r13, r14, mx_117, mx_118, mx_119, mx_120, mx_121, mx_122, mx_123, mx_124, if_pos, if_neg, sh_0, sh_393, rw_copy, am_cp_ok]
  · intro a ha
    funext k
    simp (disch := omega) only [gU_s, gU_1, gU_2, gN_o, f1, f2, f3, f4, f5, f6, f7, f8, f9, f10, f11, f12, f13]
  · intro a h1 h2
    by_cases c1 : 1 ≤ a ∧ a < 171
    · refine fin_eq (n1 a c1.1 c1.2) ?_
      funext k
      simp (disch := omega) only [gU_1, gN_o, f2, f3, f4, f5, f6, f7, f8, f9, f10, f11, f12, f13]
    by_cases c2 : 171 ≤ a ∧ a < 341
    · refine fin_eq (n2 a c2.1 c2.2) ?_
      funext k
      simp (disch := omega) only [gU_1, gN_o, f3, f4, f5, f6, f7, f8, f9, f10, f11, f12, f13]
    by_cases c3 : 341 ≤ a ∧ a < 346
    · refine fin_eq (n3 a c3.1 c3.2) ?_
      funext k
      simp (disch := omega) only [gU_1, gN_o, f4, f5, f6, f7, f8, f9, f10, f11, f12, f13]
    by_cases c4 : 346 ≤ a ∧ a < 351
    · refine fin_eq (n4 a c4.1 c4.2) ?_
      funext k
      simp (disch := omega) only [gU_1, gN_o, f5, f6, f7, f8, f9, f10, f11, f12, f13]
    by_cases c5 : 352 ≤ a ∧ a < 358
    · refine fin_eq (n5 a c5.1 c5.2) ?_
      funext k
      simp (disch := omega) only [gU_1, gN_o, f6, f7, f8, f9, f10, f11, f12, f13]
    by_cases c6 : 358 ≤ a ∧ a < 362
    · refine fin_eq (n6 a c6.1 c6.2) ?_
      funext k
      simp (disch := omega) only [gU_1, gN_o, f7, f8, f9, f10, f11, f12, f13]
    by_cases c7 : 362 ≤ a ∧ a < 366
    · refine fin_eq (n7 a c7.1 c7.2) ?_
      funext k
      simp (disch := omega) only [gU_1, gN_o, f8, f9, f10, f11, f12, f13]
    by_cases c8 : 366 ≤ a ∧ a < 368
    · refine fin_eq (n8 a c8.1 c8.2) ?_
      funext k
      simp (disch := omega) only [gU_1, gN_o, f9, f10, f11, f12, f13]
    by_cases c9 : 368 ≤ a ∧ a < 373
    · refine fin_eq (n9 a c9.1 c9.2) ?_
      funext k
      simp (disch := omega) only [gU_1, gN_o, f10, f11, f12, f13]
    by_cases c10 : 373 ≤ a ∧ a < 378
    · refine fin_eq (n10 a c10.1 c10.2) ?_
      funext k
      simp (disch := omega) only [gU_1, gN_o, f11, f12, f13]
    by_cases c11 : 378 ≤ a ∧ a < 383
    · refine fin_eq (n11 a c11.1 c11.2) ?_
      funext k
      simp (disch := omega) only [gU_1, gN_o, f12, f13]
    by_cases c12 : 383 ≤ a ∧ a < 388
    · refine fin_eq (n12 a c12.1 c12.2) ?_
      funext k
      simp (disch := omega) only [gU_1, gN_o, f13]
    by_cases c13 : 388 ≤ a ∧ a < 393
    · refine fin_eq (n13 a c13.1 c13.2) ?_
      funext k
      simp (disch := omega) only [gU_1, gN_o]
    rcases (show a = 0 ∨ a = 351 by omega) with rfl | rfl
    · refine fin_set (K := [0, 1, 2, 3, 4, 5, 6, 7, 8]) (by decide +kernel) (fun k hk => ?_)
      rcases (show k = 0 ∨ k = 1 ∨ k = 2 ∨ k = 3 ∨ k = 4 ∨ k = 5 ∨ k = 6 ∨ k = 7 ∨ k = 8 by simpa using hk) with rfl | rfl | rfl | rfl | rfl | rfl | rfl | rfl | rfl
      all_goals simp (disch := first | omega | decide) only [gU_s, gU_1, gU_2, gN_o, f1, f2, f3, f4, f5, f6, f7, f8, f9, f10, f11, f12, f13, nc_0, nc_1, nc_2, nc_3, nc_4, nc_5, nc_6, nc_7, nc_8]
    · refine fin_set (K := [0, 1, 2, 3, 4]) (by decide +kernel) (fun k hk => ?_)
      rcases (show k = 0 ∨ k = 1 ∨ k = 2 ∨ k = 3 ∨ k = 4 by simpa using hk) with rfl | rfl | rfl | rfl | rfl
      all_goals simp (disch := first | omega | decide) only [gU_s, gU_1, gU_2, gN_o, f1, f2, f3, f4, f5, f6, f7, f8, f9, f10, f11, f12, f13, nc_0, nc_1, nc_2, nc_3, nc_4]
end IX
