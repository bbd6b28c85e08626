/-- all that this row ends with is set -/
def fin (G : Msk) (a : Nat) : Prop := ∀ k : Int, 0 ≤ k → G a k = false → W0 a k = 0 ∧ R0 353 a k.toNat = none
abbrev MG (n l T : Nat) (G : Msk) (z : Nat → Int → Int) : am_M := (l, T, SM n l, am_w (wG G z), am_wl wl0, rG G)
/-- a row of which nothing is set -/
def zeroB (a : Nat) : Bool := (List.range 200).all fun k => decide (W0 a (k : Int) = 0) && decide (R0 353 a k = none)
def setB (a : Nat) (K : List Nat) : Bool := ((List.range 200).all fun k => K.contains k || decide (W0 a (k : Int) = 0)) && ((List.range 40).all fun k => K.contains k || decide (R0 353 a k = none))
theorem rll_len : ∀ r, r ∈ rll → r.length ≤ 40 := by decide +kernel
theorem R0_far {a k : Nat} (h : 40 ≤ k) : R0 353 a k = none := by
  unfold R0
  rw [if_neg (fun g => by omega)]
  have e : (rll.getD a []).getD k 0 = 0 := by
    rw [List.getD_eq_getElem?_getD]
    have hl : (rll.getD a []).length ≤ 40 := by
      rw [List.getD_eq_getElem?_getD]
      cases hr : rll[a]? with
      | none => decide
      | some r => exact rll_len r (List.mem_of_getElem? hr)
    rw [List.getElem?_eq_none (by omega)]
    rfl
  rw [e]
  rfl
theorem W0_far {a : Nat} {k : Int} (h : 200 ≤ k) : W0 a k = 0 := by
  unfold W0
  repeat' split
  all_goals omega
theorem fin_set {G : Msk} {a : Nat} {K : List Nat} (h : setB a K = true) (g : ∀ k, k ∈ K → G a (k : Int) = true) : fin G a := by
  intro k k0 hk
  have ne : ∀ j : Nat, K.contains j = true → (j : Int) ≠ k := fun j q e => by
    have q2 := g j (by simpa using q)
    rw [e, hk] at q2
    exact absurd q2 (by decide)
  unfold setB at h
  rw [Bool.and_eq_true] at h
  refine ⟨?_, ?_⟩
  · by_cases c : k < 200
    · have := List.all_eq_true.mp h.1 k.toNat (List.mem_range.mpr (by omega))
      rw [Bool.or_eq_true] at this
      rcases this with q | q
      · exact absurd (Int.toNat_of_nonneg k0) (ne _ q)
      · rw [decide_eq_true_eq, Int.toNat_of_nonneg k0] at q
        exact q
    · exact W0_far (by omega)
  · by_cases c : k < 40
    · have := List.all_eq_true.mp h.2 k.toNat (List.mem_range.mpr (by omega))
      rw [Bool.or_eq_true] at this
      rcases this with q | q
      · exact absurd (Int.toNat_of_nonneg k0) (ne _ q)
      · rw [decide_eq_true_eq] at q
        exact q
    · exact R0_far (by omega)
theorem fin_eq {G G2 : Msk} {a : Nat} (h : fin G a) (e : G2 a = G a) : fin G2 a := fun k k0 hk => h k k0 (by rw [← e]; exact hk)
section IK
variable {d n t T : Nat} {G : Msk} {z : Nat → Int → Int}
/-- a table's row -/
abbrev TbF (t : Nat) : Prop := (shl.getD t (999, 0) = (18, 0) ∧ shl.getD (t + 1) (999, 0) = (0, Int.toNat 40) ∧ shl.getD (t + 1 + 1) (999, 0) = (0, Int.toNat 40) ∧ shl.getD (t + 1 + 1 + 1) (999, 0) = (0, Int.toNat 8) ∧ shl.getD (t + 1 + 1 + 1 + 1) (999, 0) = (0, Int.toNat 100)) ∧ (R0 353 t 0 = some (t + 1) ∧ R0 353 t 1 = some (t + 1 + 1) ∧ R0 353 t 2 = some (t + 1 + 1 + 1) ∧ R0 353 t 3 = some (t + 1 + 1 + 1 + 1) ∧ R0 353 t 7 = none) ∧ (W0 t 0 = 0 ∧ W0 t 1 = 0 ∧ W0 t 2 = 0 ∧ W0 t 3 = 0 ∧ W0 t 7 = 461) ∧ (setB t [0, 1, 2, 3, 7] = true ∧ setB (t + 1) [] = true ∧ setB (t + 1 + 1) [] = true ∧ setB (t + 1 + 1 + 1) [] = true ∧ setB (t + 1 + 1 + 1 + 1) [] = true) ∧ t + 5 ≤ 407
theorem tbf_now : ∀ i : Fin 30, TbF (21 + 5 * i.val) := by decide +kernel
theorem tbf_kept : ∀ i : Fin 30, TbF (191 + 5 * i.val) := by decide +kernel
theorem tbf_2 : TbF 2 := by decide +kernel
theorem tbf_172 : TbF 172 := by decide +kernel
theorem tbf_341 : TbF 341 := by decide +kernel
set_option maxHeartbeats 2000000 in
theorem i_Table (h : TbF t) : ∃ G2, am_call d 118 [.ref t] (MG n (t + 1) T G z) = some (none, MG n (t + 1 + 1 + 1 + 1 + 1) (T + 40 + 40 + 8 + 100) G2 z) ∧ (∀ a, (a < t ∨ t + 5 ≤ a) → G2 a = G a) ∧ (∀ a, t ≤ a → a < t + 5 → fin G2 a) := by
  obtain ⟨⟨s0, s1, s2, s3, s4⟩, ⟨r0, r1, r2, r3, r7⟩, ⟨w0, w1, w2, w3, w7⟩, ⟨b0, b1, b2, b3, b4⟩, tl⟩ := h
  refine ⟨gU (gU (gN (gU (gN (gU (gN (gU (gN G (t + 1)) t 0) (t + 1 + 1)) t 1) (t + 1 + 1 + 1)) t 2) (t + 1 + 1 + 1 + 1)) t 3) t 7, ?_, ?_, ?_⟩
  · simp (decide := true) (disch := (first | omega | assumption | decide | rfl)) only [en_118, bk_118_0, bq_118_0, rn_iconst, rn_bipush, rn_sipush, rn_ldc_w, rn_ldc, rn_ldcS, rn_lconst, rn_ldc2, rn_gets, rn_iload0, rn_lload0, rn_aload0, rn_istore0, rn_astore0, rn_lstore0, rn_iinc0, rn_iload1, rn_lload1, rn_aload1, rn_istore1, rn_astore1, rn_lstore1, rn_iinc1, rn_iload2, rn_lload2, rn_aload2, rn_istore2, rn_astore2, rn_lstore2, rn_iinc2, rn_iload3, rn_lload3, rn_aload3, rn_istore3, rn_astore3, rn_lstore3, rn_iinc3, rn_iload4, rn_lload4, rn_aload4, rn_istore4, rn_astore4, rn_lstore4, rn_iinc4, rn_iload5, rn_lload5, rn_aload5, rn_istore5, rn_astore5, rn_lstore5, rn_iinc5, rn_iload6, rn_lload6, rn_aload6, rn_istore6, rn_astore6, rn_lstore6, rn_iinc6, rn_iload7, rn_aload7, rn_istore7, rn_astore7, rn_iinc7, rn_iload8, rn_aload8, rn_istore8, rn_astore8, rn_iinc8, rn_iload9, rn_aload9, rn_istore9, rn_astore9, rn_iinc9, rn_iadd, rn_isub, rn_imul, rn_iand, rn_ior, rn_ixor, rn_ishl, rn_ishr, rn_iushr, rn_idiv, rn_irem, rn_ineg, rn_ladd, rn_lsub, rn_lmul, rn_lor, rn_ldiv, rn_lrem, rn_lneg, rn_lshl, rn_lshr, rn_i2l, rn_l2i, rn_i2c, rn_lcmp, rn_dupi, rn_dupa, rn_popi, rn_popa, rn_dup2, rn_alen, rn_geta, rn_aald, rn_min, rn_max, rn_slen, rn_chat, rn_indx, rn_objI, rn_nop, rn_goto, rn_ifeq, rn_ifne, rn_iflt, rn_ifge, rn_ifgt, rn_ifle, rn_iceq, rn_icne, rn_iclt, rn_icge, rn_icgt, rn_icle, rn_tsw, rn_lsw, rn_iret, rn_zret, rn_lret, rn_aret, rn_vret, rn_cs0, rn_cs1, rn_cs2, rn_cs3, rn_cs4, rn_cs5, rn_cs6, rn_cs7, rn_cv1, rn_ci1, rn_cv2, rn_ci2, rn_cv3, rn_ci3, rn_cv4, rn_cv5, rn_cv6, rn_cv7, cs_n, cs_i, cs_a, cs_l, rc_i, rc_a, rc_l, rc_n, rw_iald, rw_bald, rw_lald, rw_bast, rw_last, rw_geti, rw_getl, rw_putl, iI_add, iI_sub, iI_mul, iI_neg, iI_lt, iI_le, iI_eq, iI_lt0, iI_le0, iI_0lt, iI_0le, iI_eq0, iI_eq1, iI_div, iI_rem, am_in_ok, am_in_no, iI_toInt, iL_add, iL_sub, iL_mul, iL_neg, iL_div, iL_rem, iI_i2l, iL_l2i, iL_cmp, iL_eq0, iI_or, iI_and, iI_shl, if_true, if_false, true_or, or_true, true_and, and_true, false_or, or_false, not_true_eq_false, not_false_eq_true, Option.bind_some, Option.toList_some, Option.toList_none, List.nil_append, List.cons_append, ite_self, nc_0, nc_1, nc_2, nc_3, nc_4, nc_5, nc_6, nc_7, nc_8, nc_9, nc_10, nc_11, nc_12, nc_13, nc_14, nc_15, nc_16, nc_17, nc_18, nc_19, nc_20, nc_21, nc_22, nc_23, nc_24, nc_25, nc_26, nc_27, nc_28, nc_29, nc_30, nc_31, nc_32, nc_33, nc_34, nc_35, nc_36, nc_40, nc_48, nc_100, nc_256, nc_300, nc_304, gn_new, gn_newa, gn_anew, gn_puti, gn_putz, gn_puta, gn_rg, gn_iast, gn_aast, SM_lt, gN_o, gU_s, gU_1, gU_2, s0, s1, s2, s3, s4, r0, r1, r2, r3, r7, w0, w1, w2, w3, w7, Int.reduceToNat, if_pos, if_neg, sh_0, sh_393, rw_copy, am_cp_ok]
  · intro a ha
    funext k
    rw [gU_1 (by omega), gU_1 (by omega), gN_o (by omega), gU_1 (by omega), gN_o (by omega), gU_1 (by omega), gN_o (by omega), gU_1 (by omega), gN_o (by omega)]
  · intro a h1 h2
    rcases (show a = t ∨ a = t + 1 ∨ a = t + 1 + 1 ∨ a = t + 1 + 1 + 1 ∨ a = t + 1 + 1 + 1 + 1 by omega) with rfl | rfl | rfl | rfl | rfl
    · refine fin_set b0 (fun k hk => ?_)
      rcases (show k = 0 ∨ k = 1 ∨ k = 2 ∨ k = 3 ∨ k = 7 by simpa using hk) with rfl | rfl | rfl | rfl | rfl
      · rw [gU_2 (by decide), gU_2 (by decide), gN_o (by omega), gU_2 (by decide), gN_o (by omega), gU_2 (by decide), gN_o (by omega)]; exact gU_s
      · rw [gU_2 (by decide), gU_2 (by decide), gN_o (by omega), gU_2 (by decide), gN_o (by omega)]; exact gU_s
      · rw [gU_2 (by decide), gU_2 (by decide), gN_o (by omega)]; exact gU_s
      · rw [gU_2 (by decide)]; exact gU_s
      · exact gU_s
    · exact fin_set b1 (fun k hk => absurd hk (List.not_mem_nil))
    · exact fin_set b2 (fun k hk => absurd hk (List.not_mem_nil))
    · exact fin_set b3 (fun k hk => absurd hk (List.not_mem_nil))
    · exact fin_set b4 (fun k hk => absurd hk (List.not_mem_nil))
end IK
