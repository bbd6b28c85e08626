def mx2 (a b : Int) : Int := if a < b then b else a
def mi2 (a b : Int) : Int := if b < a then b else a
def hb (l : Int) (k : Nat) : Bool := l.toNat.testBit k
def rmv (l : Int) (k : Nat) : Int := ixr l (pw (k : Int))
theorem rm_c : ∀ a : Fin 256, ∀ s : Fin 8, a.val.testBit s.val = true → a.val ^^^ 2 ^ s.val < a.val ∧ pcN (a.val ^^^ 2 ^ s.val) + 1 = pcN a.val := by decide +kernel
theorem rmv_ok {l : Int} {k : Nat} (h0 : 0 ≤ l) (h1 : l < 256) (hk : k < 8) (h : hb l k = true) : 0 ≤ rmv l k ∧ rmv l k < l ∧ pc (rmv l k) + 1 = pc l := by
  have := rm_c ⟨l.toNat, by omega⟩ ⟨k, hk⟩ h
  dsimp only at this
  have e : rmv l k = ((l.toNat ^^^ 2 ^ k : Nat) : Int) := by unfold rmv ixr pw; rw [Int.toNat_natCast, Int.toNat_natCast]
  rw [e]
  unfold pc
  rw [Int.toNat_natCast]
  omega
theorem rmv_n {l : Int} {k : Nat} (h : hb l k = true) : iandn l (pw (k : Int)) = rmv l k := by
  unfold rmv
  refine bit_ext iandn_0 ixr_0 (fun j => ?_)
  rw [iandn_bit, ixr_bit, pw_bit, Int.toNat_natCast]
  by_cases c : k = j
  · subst c
    unfold hb at h
    rw [h]; simp
  · simp [c]
theorem rmv_sub {l t : Int} {k : Nat} (h : hb l k = true) (hs : iandn l t = 0) : iandn (rmv l k) t = 0 := by
  refine bit_ext iandn_0 (by decide) (fun j => ?_)
  have := congrArg (fun z : Int => z.toNat.testBit j) hs
  try dsimp only at this
  rw [iandn_bit] at this ⊢
  unfold rmv
  rw [ixr_bit, pw_bit, Int.toNat_natCast]
  rw [show (0 : Int).toNat.testBit j = false by simp] at this ⊢
  by_cases c : k = j
  · subst c
    unfold hb at h
    rw [h]; simp
  · simp [c]
    simp at this
    exact this
theorem pc_bd {l : Int} (h0 : 0 ≤ l) (h1 : l < 256) : 0 ≤ pc l ∧ pc l ≤ 8 ∧ (l = 0 ↔ pc l = 0) := by
  obtain ⟨a1, a2, a3⟩ := pc_c ⟨l.toNat, by omega⟩
  dsimp only at a1 a2 a3
  unfold pc
  omega
theorem pcN_sum (a : Nat) : pcN a = (if a.testBit 0 then 1 else 0) + (if a.testBit 1 then 1 else 0) + (if a.testBit 2 then 1 else 0) + (if a.testBit 3 then 1 else 0) + (if a.testBit 4 then 1 else 0) + (if a.testBit 5 then 1 else 0) + (if a.testBit 6 then 1 else 0) + (if a.testBit 7 then 1 else 0) := by
  have : pcN a = 0 + (if a.testBit 0 then 1 else 0) + (if a.testBit 1 then 1 else 0) + (if a.testBit 2 then 1 else 0) + (if a.testBit 3 then 1 else 0) + (if a.testBit 4 then 1 else 0) + (if a.testBit 5 then 1 else 0) + (if a.testBit 6 then 1 else 0) + (if a.testBit 7 then 1 else 0) := rfl
  omega
theorem pc_sub {l t : Int} (hs : iandn l t = 0) : pc t - pc l = pc (iandn t l) := by
  have key : ∀ j, (if t.toNat.testBit j = true then (1 : Nat) else 0) = (if l.toNat.testBit j = true then 1 else 0) + (if (iandn t l).toNat.testBit j = true then 1 else 0) := by
    intro j
    have := congrArg (fun z : Int => z.toNat.testBit j) hs
    try dsimp only at this
    rw [iandn_bit, show (0 : Int).toNat.testBit j = false by simp] at this
    rw [iandn_bit]
    cases h1 : t.toNat.testBit j <;> cases h2 : l.toNat.testBit j <;> simp_all
  unfold pc
  rw [pcN_sum, pcN_sum, pcN_sum, key 0, key 1, key 2, key 3, key 4, key 5, key 6, key 7]
  omega
def gV (mn yr : Int → Int) (fs : Bool) (f : Int → Int) (l : Int) : Nat → Int
  | 0 => if fs = true then -792 else 792
  | k + 1 => if hb l k = true then (if fs = true then mx2 (gV mn yr fs f l k) (f (rmv l k) + mn k) else mi2 (gV mn yr fs f l k) (f (rmv l k) - yr k)) else gV mn yr fs f l k
def fsT (t l : Int) : Bool := decide ((pc t - pc l).tmod 2 = 0)
def gT (mn yr : Int → Int) (t : Int) : Nat → Int → Int
  | 0 => fun _ => 0
  | k + 1 => fun z => if z = ((k + 1 : Nat) : Int) ∧ iandn z t = 0 then gV mn yr (fsT t z) (gT mn yr t k) z 8 else gT mn yr t k z
def VOk (mn yr : Int → Int) : Prop := ∀ s, 0 ≤ s → s < 8 → 0 ≤ mn s ∧ mn s ≤ 99 ∧ 0 ≤ yr s ∧ yr s ≤ 99
/-- the table's entries are held -/
def FOk (f : Int → Int) (l : Int) : Prop := ∀ k : Nat, k < 8 → hb l k = true → -(99 * (pc l - 1)) ≤ f (rmv l k) ∧ f (rmv l k) ≤ 99 * (pc l - 1)
section GV
variable {mn yr f : Int → Int} {l t : Int} {fs : Bool}
theorem gV_bd (V : VOk mn yr) (F : FOk f l) (h0 : 0 ≤ l) (h1 : l < 256) : ∀ k : Nat, k ≤ 8 → ((∀ j, j < k → hb l j = false) ∧ gV mn yr fs f l k = if fs = true then -792 else 792) ∨ ((∃ j, j < k ∧ hb l j = true ∧ (fs = true → f (rmv l j) + mn j = gV mn yr fs f l k)) ∧ -(99 * pc l) ≤ gV mn yr fs f l k ∧ gV mn yr fs f l k ≤ 99 * pc l)
  | 0, _ => Or.inl ⟨fun j hj => absurd hj (by omega), rfl⟩
  | k + 1, hk => by
    have ih := gV_bd V F h0 h1 k (by omega)
    have hp := pc_bd h0 h1
    rw [gV]
    by_cases c : hb l k = true
    · obtain ⟨r1, r2, r3⟩ := rmv_ok h0 h1 (by omega) c
      have r4 : 1 ≤ pc l := by
        have := (pc_bd r1 (by omega)).1
        omega
      have f1 := F k (by omega) c
      have v1 := V (k : Int) (by omega) (by omega)
      rw [if_pos c]
      refine Or.inr ?_
      by_cases e : fs = true
      · rw [if_pos e] at ih ⊢
        unfold mx2
        rcases ih with ⟨i1, i2⟩ | ⟨⟨j, j1, j2, j3⟩, i2, i3⟩
        · rw [i2]
          by_cases g : -792 < f (rmv l k) + mn (k : Int)
          · rw [if_pos g]; exact ⟨⟨k, by omega, c, fun _ => rfl⟩, by omega, by omega⟩
          · rw [if_neg g]; exact ⟨⟨k, by omega, c, fun _ => by omega⟩, by omega, by omega⟩
        · by_cases g : gV mn yr fs f l k < f (rmv l k) + mn (k : Int)
          · rw [if_pos g]; exact ⟨⟨k, by omega, c, fun _ => rfl⟩, by omega, by omega⟩
          · rw [if_neg g]; exact ⟨⟨j, by omega, j2, fun h => j3 h⟩, by omega, by omega⟩
      · rw [if_neg e] at ih ⊢
        unfold mi2
        rcases ih with ⟨i1, i2⟩ | ⟨⟨j, j1, j2, j3⟩, i2, i3⟩
        · rw [i2]
          by_cases g : f (rmv l k) - yr (k : Int) < 792
          · rw [if_pos g]; exact ⟨⟨k, by omega, c, fun h => absurd h e⟩, by omega, by omega⟩
          · rw [if_neg g]; exact ⟨⟨k, by omega, c, fun h => absurd h e⟩, by omega, by omega⟩
        · by_cases g : f (rmv l k) - yr (k : Int) < gV mn yr fs f l k
          · rw [if_pos g]; exact ⟨⟨k, by omega, c, fun h => absurd h e⟩, by omega, by omega⟩
          · rw [if_neg g]; exact ⟨⟨j, by omega, j2, fun h => absurd h e⟩, by omega, by omega⟩
    · rw [if_neg c]
      rcases ih with ⟨i1, i2⟩ | ⟨⟨j, j1, j2, j3⟩, i2, i3⟩
      · refine Or.inl ⟨fun j hj => ?_, i2⟩
        by_cases g : j = k
        · subst g; simpa using c
        · exact i1 j (by omega)
      · exact Or.inr ⟨⟨j, by omega, j2, j3⟩, i2, i3⟩
theorem hb_some {l : Int} (h0 : 1 ≤ l) (h1 : l < 256) : ∃ k, k < 8 ∧ hb l k = true := by
  have key : ∀ a : Fin 256, a.val ≠ 0 → ∃ k : Fin 8, a.val.testBit k.val = true := by decide +kernel
  obtain ⟨k, hk⟩ := key ⟨l.toNat, by omega⟩ (by show l.toNat ≠ 0; omega)
  exact ⟨k.val, k.isLt, hk⟩
theorem gV_8 (V : VOk mn yr) (F : FOk f l) (h0 : 1 ≤ l) (h1 : l < 256) : (∃ j, j < 8 ∧ hb l j = true ∧ (fs = true → f (rmv l j) + mn j = gV mn yr fs f l 8)) ∧ -(99 * pc l) ≤ gV mn yr fs f l 8 ∧ gV mn yr fs f l 8 ≤ 99 * pc l := by
  rcases gV_bd (fs := fs) V F (by omega) h1 8 (Nat.le_refl 8) with ⟨i1, _⟩ | h
  · obtain ⟨k, k1, k2⟩ := hb_some h0 h1
    rw [i1 k k1] at k2
    cases k2
  · exact h
theorem gT_bd (V : VOk mn yr) : ∀ k : Nat, k < 256 → ∀ l, 0 ≤ l → l ≤ (k : Int) → iandn l t = 0 → -(99 * pc l) ≤ gT mn yr t k l ∧ gT mn yr t k l ≤ 99 * pc l
  | 0, _, l, h0, h1, _ => by
    have := (pc_bd h0 (by omega)).1
    show -(99 * pc l) ≤ 0 ∧ 0 ≤ 99 * pc l
    omega
  | k + 1, hk, l, h0, h1, hs => by
    have ih := gT_bd V k (by omega)
    rw [gT]
    dsimp only
    by_cases c : l = ((k + 1 : Nat) : Int) ∧ iandn l t = 0
    · rw [if_pos c]
      refine (gV_8 V (fun j j8 hj => ?_) (by omega) (by omega)).2
      obtain ⟨r1, r2, r3⟩ := rmv_ok h0 (by omega) j8 hj
      have := ih (rmv l j) r1 (by omega) (rmv_sub hj hs)
      rw [show pc (rmv l j) = pc l - 1 by omega] at this
      exact this
    · rw [if_neg c]
      exact ih l h0 (by omega) hs
theorem gT_F (V : VOk mn yr) {k : Nat} (hk : k < 255) (hs : iandn ((k + 1 : Nat) : Int) t = 0) : FOk (gT mn yr t k) ((k + 1 : Nat) : Int) := by
  intro j j8 hj
  obtain ⟨r1, r2, r3⟩ := rmv_ok (l := ((k + 1 : Nat) : Int)) (by omega) (by omega) j8 hj
  have := gT_bd (t := t) V k (by omega) (rmv ((k + 1 : Nat) : Int) j) r1 (by omega) (rmv_sub hj hs)
  rw [show pc (rmv ((k + 1 : Nat) : Int) j) = pc ((k + 1 : Nat) : Int) - 1 by omega] at this
  exact this
end GV
section GC
variable {d L T o n : Nat} {w u : Nat → Int → Int} {v : Nat → Nat → Int64} {mn yr f : Int → Int} {l t : Int}
set_option maxHeartbeats 1000000 in
theorem c_mostOf (V : VOk mn yr) (F : FOk f l) (l0 : 0 ≤ l) (l1 : l < 256) (hw : ∀ k : Nat, k < 8 → hb l k = true → w 367 (rmv l k) = f (rmv l k)) (hm : ∀ s, 0 ≤ s → s < 8 → w 19 s = mn s) :
    am_call d 250 [.ref 366, .int (iI l), .ref 19] (L, T, S0 n, am_w w, v, R0 o) = some (some (.int (iI (gV mn yr true f l 8))), (L, T, S0 n, am_w w, v, R0 o)) := by
  have hp := pc_bd l0 l1
  refine Eq.trans ?_ ((loop_up (fun k : Nat => am_run d 250 (am_B 250 7) [some (.ref 366), some (.int (iI l)), some (.ref 19), some (.int (iI (gV mn yr true f l k))), some (.int (iI (k : Int)))] [] (L, T, S0 n, am_w w, v, R0 o)) 8 ?_).trans ?_)
  · have e0 : gV mn yr true f l 0 = -792 := rfl
    simp (decide := true) (disch := omega) only [en_250, bk_250_0, bk_250_45, bk_250_51, bq_250_0, bq_250_7, bq_250_45, bq_250_51, rn_iconst, rn_bipush, rn_sipush, rn_ldc_w, rn_ldc, rn_ldcS, rn_lconst, rn_ldc2, rn_gets, rn_iload0, rn_lload0, rn_aload0, rn_istore0, rn_astore0, rn_lstore0, rn_iinc0, rn_iload1, rn_lload1, rn_aload1, rn_istore1, rn_astore1, rn_lstore1, rn_iinc1, rn_iload2, rn_lload2, rn_aload2, rn_istore2, rn_astore2, rn_lstore2, rn_iinc2, rn_iload3, rn_lload3, rn_aload3, rn_istore3, rn_astore3, rn_lstore3, rn_iinc3, rn_iload4, rn_lload4, rn_aload4, rn_istore4, rn_astore4, rn_lstore4, rn_iinc4, rn_iload5, rn_lload5, rn_aload5, rn_istore5, rn_astore5, rn_lstore5, rn_iinc5, rn_iload6, rn_lload6, rn_aload6, rn_istore6, rn_astore6, rn_lstore6, rn_iinc6, rn_iload7, rn_aload7, rn_istore7, rn_astore7, rn_iinc7, rn_iload8, rn_aload8, rn_istore8, rn_astore8, rn_iinc8, rn_iload9, rn_aload9, rn_istore9, rn_astore9, rn_iinc9, rn_iadd, rn_isub, rn_imul, rn_iand, rn_ior, rn_ixor, rn_ishl, rn_ishr, rn_iushr, rn_idiv, rn_irem, rn_ineg, rn_ladd, rn_lsub, rn_lmul, rn_lor, rn_ldiv, rn_lrem, rn_lneg, rn_lshl, rn_lshr, rn_i2l, rn_l2i, rn_i2c, rn_lcmp, rn_dupi, rn_dupa, rn_popi, rn_popa, rn_dup2, rn_aast, rn_alen, rn_geta, rn_aald, rn_puta, rn_new, rn_newa, rn_anew, rn_min, rn_max, rn_slen, rn_chat, rn_indx, rn_objI, rn_nop, rn_goto, rn_ifeq, rn_ifne, rn_iflt, rn_ifge, rn_ifgt, rn_ifle, rn_iceq, rn_icne, rn_iclt, rn_icge, rn_icgt, rn_icle, rn_tsw, rn_lsw, rn_iret, rn_zret, rn_lret, rn_aret, rn_vret, rn_cs0, rn_cs1, rn_cs2, rn_cs3, rn_cs4, rn_cs5, rn_cs6, rn_cs7, rn_cv1, rn_ci1, rn_cv2, rn_ci2, rn_cv3, rn_ci3, rn_cv4, rn_cv5, rn_cv6, rn_cv7, cs_n, cs_i, cs_a, cs_l, rc_i, rc_a, rc_l, rc_n, rw_iald, rw_bald, rw_lald, rw_iast, rw_bast, rw_last, rw_geti, rw_getl, rw_puti, rw_putz, rw_putl, iI_add, iI_sub, iI_mul, iI_neg, iI_lt, iI_le, iI_eq, iI_lt0, iI_le0, iI_0lt, iI_0le, iI_eq0, iI_eq1, iI_div, iI_rem, am_in_ok, am_in_no, iI_toInt, iL_add, iL_sub, iL_mul, iL_neg, iL_div, iL_rem, iI_i2l, iL_l2i, iL_cmp, iL_eq0, iI_or, iI_and, iI_shl, if_true, if_false, true_or, or_true, true_and, and_true, false_or, or_false, not_true_eq_false, not_false_eq_true, Option.bind_some, Option.toList_some, Option.toList_none, List.nil_append, List.cons_append, ite_self, nc_0, nc_1, nc_2, nc_3, nc_4, nc_5, nc_6, nc_7, nc_8, nc_9, nc_10, nc_11, nc_12, nc_13, nc_14, nc_15, nc_16, nc_17, nc_18, nc_19, nc_20, nc_21, nc_22, nc_23, nc_24, nc_25, nc_26, nc_27, nc_28, nc_29, nc_30, nc_31, nc_32, nc_33, nc_34, nc_35, nc_36, nc_40, nc_48, nc_100, nc_256, nc_300, nc_304, e0, if_pos, if_neg, sh_0, sh_393, rw_copy, am_cp_ok]
  · intro k hk
    conv => lhs; rw [bk_250_7]
    have gb : -792 ≤ gV mn yr true f l k ∧ gV mn yr true f l k ≤ 792 := by
      rcases gV_bd (fs := true) V F l0 l1 k (by omega) with ⟨_, h⟩ | ⟨_, h⟩
      · rw [h, if_pos rfl]; omega
      · omega
    have ib := iI_bit (a := l) (s := (k : Int)) l0 l1 (by omega) (by omega)
    rw [Int.toNat_natCast] at ib
    have ec : ((k + 1 : Nat) : Int) = (k : Int) + 1 := by omega
    rw [ec, gV]
    have hmk := hm (k : Int) (by omega) (by omega)
    have vk := V (k : Int) (by omega) (by omega)
    have pk := pw_0 (s := (k : Int))
    by_cases c : hb l k = true
    · have c' : l.toNat.testBit k = true := c
      rw [bI_t c'] at ib
      obtain ⟨r1, r2, r3⟩ := rmv_ok l0 l1 (by omega) c
      have fk := F k (by omega) c
      have hx := iI_xor (a := l) (b := pw (k : Int)) l0 (by omega)
      have hx2 : ixr l (pw (k : Int)) = rmv l k := rfl
      rw [hx2] at hx
      have hwk := hw k (by omega) c
      rw [if_pos c, if_pos rfl]
      unfold mx2
      by_cases g : gV mn yr true f l k < f (rmv l k) + mn (k : Int)
      · rw [if_pos g]
        simp (decide := true) (disch := omega) only [en_250, bk_250_0, bk_250_45, bk_250_51, bq_250_0, bq_250_7, bq_250_45, bq_250_51, rn_iconst, rn_bipush, rn_sipush, rn_ldc_w, rn_ldc, rn_ldcS, rn_lconst, rn_ldc2, rn_gets, rn_iload0, rn_lload0, rn_aload0, rn_istore0, rn_astore0, rn_lstore0, rn_iinc0, rn_iload1, rn_lload1, rn_aload1, rn_istore1, rn_astore1, rn_lstore1, rn_iinc1, rn_iload2, rn_lload2, rn_aload2, rn_istore2, rn_astore2, rn_lstore2, rn_iinc2, rn_iload3, rn_lload3, rn_aload3, rn_istore3, rn_astore3, rn_lstore3, rn_iinc3, rn_iload4, rn_lload4, rn_aload4, rn_istore4, rn_astore4, rn_lstore4, rn_iinc4, rn_iload5, rn_lload5, rn_aload5, rn_istore5, rn_astore5, rn_lstore5, rn_iinc5, rn_iload6, rn_lload6, rn_aload6, rn_istore6, rn_astore6, rn_lstore6, rn_iinc6, rn_iload7, rn_aload7, rn_istore7, rn_astore7, rn_iinc7, rn_iload8, rn_aload8, rn_istore8, rn_astore8, rn_iinc8, rn_iload9, rn_aload9, rn_istore9, rn_astore9, rn_iinc9, rn_iadd, rn_isub, rn_imul, rn_iand, rn_ior, rn_ixor, rn_ishl, rn_ishr, rn_iushr, rn_idiv, rn_irem, rn_ineg, rn_ladd, rn_lsub, rn_lmul, rn_lor, rn_ldiv, rn_lrem, rn_lneg, rn_lshl, rn_lshr, rn_i2l, rn_l2i, rn_i2c, rn_lcmp, rn_dupi, rn_dupa, rn_popi, rn_popa, rn_dup2, rn_aast, rn_alen, rn_geta, rn_aald, rn_puta, rn_new, rn_newa, rn_anew, rn_min, rn_max, rn_slen, rn_chat, rn_indx, rn_objI, rn_nop, rn_goto, rn_ifeq, rn_ifne, rn_iflt, rn_ifge, rn_ifgt, rn_ifle, rn_iceq, rn_icne, rn_iclt, rn_icge, rn_icgt, rn_icle, rn_tsw, rn_lsw, rn_iret, rn_zret, rn_lret, rn_aret, rn_vret, rn_cs0, rn_cs1, rn_cs2, rn_cs3, rn_cs4, rn_cs5, rn_cs6, rn_cs7, rn_cv1, rn_ci1, rn_cv2, rn_ci2, rn_cv3, rn_ci3, rn_cv4, rn_cv5, rn_cv6, rn_cv7, cs_n, cs_i, cs_a, cs_l, rc_i, rc_a, rc_l, rc_n, rw_iald, rw_bald, rw_lald, rw_iast, rw_bast, rw_last, rw_geti, rw_getl, rw_puti, rw_putz, rw_putl, iI_add, iI_sub, iI_mul, iI_neg, iI_lt, iI_le, iI_eq, iI_lt0, iI_le0, iI_0lt, iI_0le, iI_eq0, iI_eq1, iI_div, iI_rem, am_in_ok, am_in_no, iI_toInt, iL_add, iL_sub, iL_mul, iL_neg, iL_div, iL_rem, iI_i2l, iL_l2i, iL_cmp, iL_eq0, iI_or, iI_and, iI_shl, if_true, if_false, true_or, or_true, true_and, and_true, false_or, or_false, not_true_eq_false, not_false_eq_true, Option.bind_some, Option.toList_some, Option.toList_none, List.nil_append, List.cons_append, ite_self, nc_0, nc_1, nc_2, nc_3, nc_4, nc_5, nc_6, nc_7, nc_8, nc_9, nc_10, nc_11, nc_12, nc_13, nc_14, nc_15, nc_16, nc_17, nc_18, nc_19, nc_20, nc_21, nc_22, nc_23, nc_24, nc_25, nc_26, nc_27, nc_28, nc_29, nc_30, nc_31, nc_32, nc_33, nc_34, nc_35, nc_36, nc_40, nc_48, nc_100, nc_256, nc_300, nc_304, sh_19, sh_366, rf_366_0, sh_367, ib, hx, hwk, hmk, g, if_pos, if_neg, sh_0, sh_393, rw_copy, am_cp_ok]
      · rw [if_neg g]
        simp (decide := true) (disch := omega) only [en_250, bk_250_0, bk_250_45, bk_250_51, bq_250_0, bq_250_7, bq_250_45, bq_250_51, rn_iconst, rn_bipush, rn_sipush, rn_ldc_w, rn_ldc, rn_ldcS, rn_lconst, rn_ldc2, rn_gets, rn_iload0, rn_lload0, rn_aload0, rn_istore0, rn_astore0, rn_lstore0, rn_iinc0, rn_iload1, rn_lload1, rn_aload1, rn_istore1, rn_astore1, rn_lstore1, rn_iinc1, rn_iload2, rn_lload2, rn_aload2, rn_istore2, rn_astore2, rn_lstore2, rn_iinc2, rn_iload3, rn_lload3, rn_aload3, rn_istore3, rn_astore3, rn_lstore3, rn_iinc3, rn_iload4, rn_lload4, rn_aload4, rn_istore4, rn_astore4, rn_lstore4, rn_iinc4, rn_iload5, rn_lload5, rn_aload5, rn_istore5, rn_astore5, rn_lstore5, rn_iinc5, rn_iload6, rn_lload6, rn_aload6, rn_istore6, rn_astore6, rn_lstore6, rn_iinc6, rn_iload7, rn_aload7, rn_istore7, rn_astore7, rn_iinc7, rn_iload8, rn_aload8, rn_istore8, rn_astore8, rn_iinc8, rn_iload9, rn_aload9, rn_istore9, rn_astore9, rn_iinc9, rn_iadd, rn_isub, rn_imul, rn_iand, rn_ior, rn_ixor, rn_ishl, rn_ishr, rn_iushr, rn_idiv, rn_irem, rn_ineg, rn_ladd, rn_lsub, rn_lmul, rn_lor, rn_ldiv, rn_lrem, rn_lneg, rn_lshl, rn_lshr, rn_i2l, rn_l2i, rn_i2c, rn_lcmp, rn_dupi, rn_dupa, rn_popi, rn_popa, rn_dup2, rn_aast, rn_alen, rn_geta, rn_aald, rn_puta, rn_new, rn_newa, rn_anew, rn_min, rn_max, rn_slen, rn_chat, rn_indx, rn_objI, rn_nop, rn_goto, rn_ifeq, rn_ifne, rn_iflt, rn_ifge, rn_ifgt, rn_ifle, rn_iceq, rn_icne, rn_iclt, rn_icge, rn_icgt, rn_icle, rn_tsw, rn_lsw, rn_iret, rn_zret, rn_lret, rn_aret, rn_vret, rn_cs0, rn_cs1, rn_cs2, rn_cs3, rn_cs4, rn_cs5, rn_cs6, rn_cs7, rn_cv1, rn_ci1, rn_cv2, rn_ci2, rn_cv3, rn_ci3, rn_cv4, rn_cv5, rn_cv6, rn_cv7, cs_n, cs_i, cs_a, cs_l, rc_i, rc_a, rc_l, rc_n, rw_iald, rw_bald, rw_lald, rw_iast, rw_bast, rw_last, rw_geti, rw_getl, rw_puti, rw_putz, rw_putl, iI_add, iI_sub, iI_mul, iI_neg, iI_lt, iI_le, iI_eq, iI_lt0, iI_le0, iI_0lt, iI_0le, iI_eq0, iI_eq1, iI_div, iI_rem, am_in_ok, am_in_no, iI_toInt, iL_add, iL_sub, iL_mul, iL_neg, iL_div, iL_rem, iI_i2l, iL_l2i, iL_cmp, iL_eq0, iI_or, iI_and, iI_shl, if_true, if_false, true_or, or_true, true_and, and_true, false_or, or_false, not_true_eq_false, not_false_eq_true, Option.bind_some, Option.toList_some, Option.toList_none, List.nil_append, List.cons_append, ite_self, nc_0, nc_1, nc_2, nc_3, nc_4, nc_5, nc_6, nc_7, nc_8, nc_9, nc_10, nc_11, nc_12, nc_13, nc_14, nc_15, nc_16, nc_17, nc_18, nc_19, nc_20, nc_21, nc_22, nc_23, nc_24, nc_25, nc_26, nc_27, nc_28, nc_29, nc_30, nc_31, nc_32, nc_33, nc_34, nc_35, nc_36, nc_40, nc_48, nc_100, nc_256, nc_300, nc_304, sh_19, sh_366, rf_366_0, sh_367, ib, hx, hwk, hmk, g, if_pos, if_neg, sh_0, sh_393, rw_copy, am_cp_ok]
    · have c' : ¬ l.toNat.testBit k = true := c
      rw [bI_f c'] at ib
      rw [if_neg c]
      simp (decide := true) (disch := omega) only [en_250, bk_250_0, bk_250_45, bk_250_51, bq_250_0, bq_250_7, bq_250_45, bq_250_51, rn_iconst, rn_bipush, rn_sipush, rn_ldc_w, rn_ldc, rn_ldcS, rn_lconst, rn_ldc2, rn_gets, rn_iload0, rn_lload0, rn_aload0, rn_istore0, rn_astore0, rn_lstore0, rn_iinc0, rn_iload1, rn_lload1, rn_aload1, rn_istore1, rn_astore1, rn_lstore1, rn_iinc1, rn_iload2, rn_lload2, rn_aload2, rn_istore2, rn_astore2, rn_lstore2, rn_iinc2, rn_iload3, rn_lload3, rn_aload3, rn_istore3, rn_astore3, rn_lstore3, rn_iinc3, rn_iload4, rn_lload4, rn_aload4, rn_istore4, rn_astore4, rn_lstore4, rn_iinc4, rn_iload5, rn_lload5, rn_aload5, rn_istore5, rn_astore5, rn_lstore5, rn_iinc5, rn_iload6, rn_lload6, rn_aload6, rn_istore6, rn_astore6, rn_lstore6, rn_iinc6, rn_iload7, rn_aload7, rn_istore7, rn_astore7, rn_iinc7, rn_iload8, rn_aload8, rn_istore8, rn_astore8, rn_iinc8, rn_iload9, rn_aload9, rn_istore9, rn_astore9, rn_iinc9, rn_iadd, rn_isub, rn_imul, rn_iand, rn_ior, rn_ixor, rn_ishl, rn_ishr, rn_iushr, rn_idiv, rn_irem, rn_ineg, rn_ladd, rn_lsub, rn_lmul, rn_lor, rn_ldiv, rn_lrem, rn_lneg, rn_lshl, rn_lshr, rn_i2l, rn_l2i, rn_i2c, rn_lcmp, rn_dupi, rn_dupa, rn_popi, rn_popa, rn_dup2, rn_aast, rn_alen, rn_geta, rn_aald, rn_puta, rn_new, rn_newa, rn_anew, rn_min, rn_max, rn_slen, rn_chat, rn_indx, rn_objI, rn_nop, rn_goto, rn_ifeq, rn_ifne, rn_iflt, rn_ifge, rn_ifgt, rn_ifle, rn_iceq, rn_icne, rn_iclt, rn_icge, rn_icgt, rn_icle, rn_tsw, rn_lsw, rn_iret, rn_zret, rn_lret, rn_aret, rn_vret, rn_cs0, rn_cs1, rn_cs2, rn_cs3, rn_cs4, rn_cs5, rn_cs6, rn_cs7, rn_cv1, rn_ci1, rn_cv2, rn_ci2, rn_cv3, rn_ci3, rn_cv4, rn_cv5, rn_cv6, rn_cv7, cs_n, cs_i, cs_a, cs_l, rc_i, rc_a, rc_l, rc_n, rw_iald, rw_bald, rw_lald, rw_iast, rw_bast, rw_last, rw_geti, rw_getl, rw_puti, rw_putz, rw_putl, iI_add, iI_sub, iI_mul, iI_neg, iI_lt, iI_le, iI_eq, iI_lt0, iI_le0, iI_0lt, iI_0le, iI_eq0, iI_eq1, iI_div, iI_rem, am_in_ok, am_in_no, iI_toInt, iL_add, iL_sub, iL_mul, iL_neg, iL_div, iL_rem, iI_i2l, iL_l2i, iL_cmp, iL_eq0, iI_or, iI_and, iI_shl, if_true, if_false, true_or, or_true, true_and, and_true, false_or, or_false, not_true_eq_false, not_false_eq_true, Option.bind_some, Option.toList_some, Option.toList_none, List.nil_append, List.cons_append, ite_self, nc_0, nc_1, nc_2, nc_3, nc_4, nc_5, nc_6, nc_7, nc_8, nc_9, nc_10, nc_11, nc_12, nc_13, nc_14, nc_15, nc_16, nc_17, nc_18, nc_19, nc_20, nc_21, nc_22, nc_23, nc_24, nc_25, nc_26, nc_27, nc_28, nc_29, nc_30, nc_31, nc_32, nc_33, nc_34, nc_35, nc_36, nc_40, nc_48, nc_100, nc_256, nc_300, nc_304, sh_19, sh_366, rf_366_0, sh_367, ib, if_pos, if_neg, sh_0, sh_393, rw_copy, am_cp_ok]
  · conv => lhs; rw [bk_250_7]
    simp (decide := true) (disch := omega) only [en_250, bk_250_0, bk_250_45, bk_250_51, bq_250_0, bq_250_7, bq_250_45, bq_250_51, rn_iconst, rn_bipush, rn_sipush, rn_ldc_w, rn_ldc, rn_ldcS, rn_lconst, rn_ldc2, rn_gets, rn_iload0, rn_lload0, rn_aload0, rn_istore0, rn_astore0, rn_lstore0, rn_iinc0, rn_iload1, rn_lload1, rn_aload1, rn_istore1, rn_astore1, rn_lstore1, rn_iinc1, rn_iload2, rn_lload2, rn_aload2, rn_istore2, rn_astore2, rn_lstore2, rn_iinc2, rn_iload3, rn_lload3, rn_aload3, rn_istore3, rn_astore3, rn_lstore3, rn_iinc3, rn_iload4, rn_lload4, rn_aload4, rn_istore4, rn_astore4, rn_lstore4, rn_iinc4, rn_iload5, rn_lload5, rn_aload5, rn_istore5, rn_astore5, rn_lstore5, rn_iinc5, rn_iload6, rn_lload6, rn_aload6, rn_istore6, rn_astore6, rn_lstore6, rn_iinc6, rn_iload7, rn_aload7, rn_istore7, rn_astore7, rn_iinc7, rn_iload8, rn_aload8, rn_istore8, rn_astore8, rn_iinc8, rn_iload9, rn_aload9, rn_istore9, rn_astore9, rn_iinc9, rn_iadd, rn_isub, rn_imul, rn_iand, rn_ior, rn_ixor, rn_ishl, rn_ishr, rn_iushr, rn_idiv, rn_irem, rn_ineg, rn_ladd, rn_lsub, rn_lmul, rn_lor, rn_ldiv, rn_lrem, rn_lneg, rn_lshl, rn_lshr, rn_i2l, rn_l2i, rn_i2c, rn_lcmp, rn_dupi, rn_dupa, rn_popi, rn_popa, rn_dup2, rn_aast, rn_alen, rn_geta, rn_aald, rn_puta, rn_new, rn_newa, rn_anew, rn_min, rn_max, rn_slen, rn_chat, rn_indx, rn_objI, rn_nop, rn_goto, rn_ifeq, rn_ifne, rn_iflt, rn_ifge, rn_ifgt, rn_ifle, rn_iceq, rn_icne, rn_iclt, rn_icge, rn_icgt, rn_icle, rn_tsw, rn_lsw, rn_iret, rn_zret, rn_lret, rn_aret, rn_vret, rn_cs0, rn_cs1, rn_cs2, rn_cs3, rn_cs4, rn_cs5, rn_cs6, rn_cs7, rn_cv1, rn_ci1, rn_cv2, rn_ci2, rn_cv3, rn_ci3, rn_cv4, rn_cv5, rn_cv6, rn_cv7, cs_n, cs_i, cs_a, cs_l, rc_i, rc_a, rc_l, rc_n, rw_iald, rw_bald, rw_lald, rw_iast, rw_bast, rw_last, rw_geti, rw_getl, rw_puti, rw_putz, rw_putl, iI_add, iI_sub, iI_mul, iI_neg, iI_lt, iI_le, iI_eq, iI_lt0, iI_le0, iI_0lt, iI_0le, iI_eq0, iI_eq1, iI_div, iI_rem, am_in_ok, am_in_no, iI_toInt, iL_add, iL_sub, iL_mul, iL_neg, iL_div, iL_rem, iI_i2l, iL_l2i, iL_cmp, iL_eq0, iI_or, iI_and, iI_shl, if_true, if_false, true_or, or_true, true_and, and_true, false_or, or_false, not_true_eq_false, not_false_eq_true, Option.bind_some, Option.toList_some, Option.toList_none, List.nil_append, List.cons_append, ite_self, nc_0, nc_1, nc_2, nc_3, nc_4, nc_5, nc_6, nc_7, nc_8, nc_9, nc_10, nc_11, nc_12, nc_13, nc_14, nc_15, nc_16, nc_17, nc_18, nc_19, nc_20, nc_21, nc_22, nc_23, nc_24, nc_25, nc_26, nc_27, nc_28, nc_29, nc_30, nc_31, nc_32, nc_33, nc_34, nc_35, nc_36, nc_40, nc_48, nc_100, nc_256, nc_300, nc_304, Int.le_refl, if_pos, if_neg, sh_0, sh_393, rw_copy, am_cp_ok]
set_option maxHeartbeats 1000000 in
theorem c_leastOf (V : VOk mn yr) (F : FOk f l) (l0 : 0 ≤ l) (l1 : l < 256) (hw : ∀ k : Nat, k < 8 → hb l k = true → w 367 (rmv l k) = f (rmv l k)) (hm : ∀ s, 0 ≤ s → s < 8 → w 20 s = yr s) :
    am_call d 251 [.ref 366, .int (iI l), .ref 20] (L, T, S0 n, am_w w, v, R0 o) = some (some (.int (iI (gV mn yr false f l 8))), (L, T, S0 n, am_w w, v, R0 o)) := by
  have hp := pc_bd l0 l1
  refine Eq.trans ?_ ((loop_up (fun k : Nat => am_run d 251 (am_B 251 7) [some (.ref 366), some (.int (iI l)), some (.ref 20), some (.int (iI (gV mn yr false f l k))), some (.int (iI (k : Int)))] [] (L, T, S0 n, am_w w, v, R0 o)) 8 ?_).trans ?_)
  · have e0 : gV mn yr false f l 0 = 792 := rfl
    simp (decide := true) (disch := omega) only [en_251, bk_251_0, bk_251_45, bk_251_51, bq_251_0, bq_251_7, bq_251_45, bq_251_51, rn_iconst, rn_bipush, rn_sipush, rn_ldc_w, rn_ldc, rn_ldcS, rn_lconst, rn_ldc2, rn_gets, rn_iload0, rn_lload0, rn_aload0, rn_istore0, rn_astore0, rn_lstore0, rn_iinc0, rn_iload1, rn_lload1, rn_aload1, rn_istore1, rn_astore1, rn_lstore1, rn_iinc1, rn_iload2, rn_lload2, rn_aload2, rn_istore2, rn_astore2, rn_lstore2, rn_iinc2, rn_iload3, rn_lload3, rn_aload3, rn_istore3, rn_astore3, rn_lstore3, rn_iinc3, rn_iload4, rn_lload4, rn_aload4, rn_istore4, rn_astore4, rn_lstore4, rn_iinc4, rn_iload5, rn_lload5, rn_aload5, rn_istore5, rn_astore5, rn_lstore5, rn_iinc5, rn_iload6, rn_lload6, rn_aload6, rn_istore6, rn_astore6, rn_lstore6, rn_iinc6, rn_iload7, rn_aload7, rn_istore7, rn_astore7, rn_iinc7, rn_iload8, rn_aload8, rn_istore8, rn_astore8, rn_iinc8, rn_iload9, rn_aload9, rn_istore9, rn_astore9, rn_iinc9, rn_iadd, rn_isub, rn_imul, rn_iand, rn_ior, rn_ixor, rn_ishl, rn_ishr, rn_iushr, rn_idiv, rn_irem, rn_ineg, rn_ladd, rn_lsub, rn_lmul, rn_lor, rn_ldiv, rn_lrem, rn_lneg, rn_lshl, rn_lshr, rn_i2l, rn_l2i, rn_i2c, rn_lcmp, rn_dupi, rn_dupa, rn_popi, rn_popa, rn_dup2, rn_aast, rn_alen, rn_geta, rn_aald, rn_puta, rn_new, rn_newa, rn_anew, rn_min, rn_max, rn_slen, rn_chat, rn_indx, rn_objI, rn_nop, rn_goto, rn_ifeq, rn_ifne, rn_iflt, rn_ifge, rn_ifgt, rn_ifle, rn_iceq, rn_icne, rn_iclt, rn_icge, rn_icgt, rn_icle, rn_tsw, rn_lsw, rn_iret, rn_zret, rn_lret, rn_aret, rn_vret, rn_cs0, rn_cs1, rn_cs2, rn_cs3, rn_cs4, rn_cs5, rn_cs6, rn_cs7, rn_cv1, rn_ci1, rn_cv2, rn_ci2, rn_cv3, rn_ci3, rn_cv4, rn_cv5, rn_cv6, rn_cv7, cs_n, cs_i, cs_a, cs_l, rc_i, rc_a, rc_l, rc_n, rw_iald, rw_bald, rw_lald, rw_iast, rw_bast, rw_last, rw_geti, rw_getl, rw_puti, rw_putz, rw_putl, iI_add, iI_sub, iI_mul, iI_neg, iI_lt, iI_le, iI_eq, iI_lt0, iI_le0, iI_0lt, iI_0le, iI_eq0, iI_eq1, iI_div, iI_rem, am_in_ok, am_in_no, iI_toInt, iL_add, iL_sub, iL_mul, iL_neg, iL_div, iL_rem, iI_i2l, iL_l2i, iL_cmp, iL_eq0, iI_or, iI_and, iI_shl, if_true, if_false, true_or, or_true, true_and, and_true, false_or, or_false, not_true_eq_false, not_false_eq_true, Option.bind_some, Option.toList_some, Option.toList_none, List.nil_append, List.cons_append, ite_self, nc_0, nc_1, nc_2, nc_3, nc_4, nc_5, nc_6, nc_7, nc_8, nc_9, nc_10, nc_11, nc_12, nc_13, nc_14, nc_15, nc_16, nc_17, nc_18, nc_19, nc_20, nc_21, nc_22, nc_23, nc_24, nc_25, nc_26, nc_27, nc_28, nc_29, nc_30, nc_31, nc_32, nc_33, nc_34, nc_35, nc_36, nc_40, nc_48, nc_100, nc_256, nc_300, nc_304, e0, if_pos, if_neg, sh_0, sh_393, rw_copy, am_cp_ok]
  · intro k hk
    conv => lhs; rw [bk_251_7]
    have gb : -792 ≤ gV mn yr false f l k ∧ gV mn yr false f l k ≤ 792 := by
      rcases gV_bd (fs := false) V F l0 l1 k (by omega) with ⟨_, h⟩ | ⟨_, h⟩
      · rw [h, if_neg (by decide)]; omega
      · omega
    have ib := iI_bit (a := l) (s := (k : Int)) l0 l1 (by omega) (by omega)
    rw [Int.toNat_natCast] at ib
    have ec : ((k + 1 : Nat) : Int) = (k : Int) + 1 := by omega
    rw [ec, gV]
    have hmk := hm (k : Int) (by omega) (by omega)
    have vk := V (k : Int) (by omega) (by omega)
    have pk := pw_0 (s := (k : Int))
    by_cases c : hb l k = true
    · have c' : l.toNat.testBit k = true := c
      rw [bI_t c'] at ib
      obtain ⟨r1, r2, r3⟩ := rmv_ok l0 l1 (by omega) c
      have fk := F k (by omega) c
      have hx := iI_xor (a := l) (b := pw (k : Int)) l0 (by omega)
      have hx2 : ixr l (pw (k : Int)) = rmv l k := rfl
      rw [hx2] at hx
      have hwk := hw k (by omega) c
      rw [if_pos c, if_neg (by decide)]
      unfold mi2
      by_cases g : f (rmv l k) - yr (k : Int) < gV mn yr false f l k
      · rw [if_pos g]
        simp (decide := true) (disch := omega) only [en_251, bk_251_0, bk_251_45, bk_251_51, bq_251_0, bq_251_7, bq_251_45, bq_251_51, rn_iconst, rn_bipush, rn_sipush, rn_ldc_w, rn_ldc, rn_ldcS, rn_lconst, rn_ldc2, rn_gets, rn_iload0, rn_lload0, rn_aload0, rn_istore0, rn_astore0, rn_lstore0, rn_iinc0, rn_iload1, rn_lload1, rn_aload1, rn_istore1, rn_astore1, rn_lstore1, rn_iinc1, rn_iload2, rn_lload2, rn_aload2, rn_istore2, rn_astore2, rn_lstore2, rn_iinc2, rn_iload3, rn_lload3, rn_aload3, rn_istore3, rn_astore3, rn_lstore3, rn_iinc3, rn_iload4, rn_lload4, rn_aload4, rn_istore4, rn_astore4, rn_lstore4, rn_iinc4, rn_iload5, rn_lload5, rn_aload5, rn_istore5, rn_astore5, rn_lstore5, rn_iinc5, rn_iload6, rn_lload6, rn_aload6, rn_istore6, rn_astore6, rn_lstore6, rn_iinc6, rn_iload7, rn_aload7, rn_istore7, rn_astore7, rn_iinc7, rn_iload8, rn_aload8, rn_istore8, rn_astore8, rn_iinc8, rn_iload9, rn_aload9, rn_istore9, rn_astore9, rn_iinc9, rn_iadd, rn_isub, rn_imul, rn_iand, rn_ior, rn_ixor, rn_ishl, rn_ishr, rn_iushr, rn_idiv, rn_irem, rn_ineg, rn_ladd, rn_lsub, rn_lmul, rn_lor, rn_ldiv, rn_lrem, rn_lneg, rn_lshl, rn_lshr, rn_i2l, rn_l2i, rn_i2c, rn_lcmp, rn_dupi, rn_dupa, rn_popi, rn_popa, rn_dup2, rn_aast, rn_alen, rn_geta, rn_aald, rn_puta, rn_new, rn_newa, rn_anew, rn_min, rn_max, rn_slen, rn_chat, rn_indx, rn_objI, rn_nop, rn_goto, rn_ifeq, rn_ifne, rn_iflt, rn_ifge, rn_ifgt, rn_ifle, rn_iceq, rn_icne, rn_iclt, rn_icge, rn_icgt, rn_icle, rn_tsw, rn_lsw, rn_iret, rn_zret, rn_lret, rn_aret, rn_vret, rn_cs0, rn_cs1, rn_cs2, rn_cs3, rn_cs4, rn_cs5, rn_cs6, rn_cs7, rn_cv1, rn_ci1, rn_cv2, rn_ci2, rn_cv3, rn_ci3, rn_cv4, rn_cv5, rn_cv6, rn_cv7, cs_n, cs_i, cs_a, cs_l, rc_i, rc_a, rc_l, rc_n, rw_iald, rw_bald, rw_lald, rw_iast, rw_bast, rw_last, rw_geti, rw_getl, rw_puti, rw_putz, rw_putl, iI_add, iI_sub, iI_mul, iI_neg, iI_lt, iI_le, iI_eq, iI_lt0, iI_le0, iI_0lt, iI_0le, iI_eq0, iI_eq1, iI_div, iI_rem, am_in_ok, am_in_no, iI_toInt, iL_add, iL_sub, iL_mul, iL_neg, iL_div, iL_rem, iI_i2l, iL_l2i, iL_cmp, iL_eq0, iI_or, iI_and, iI_shl, if_true, if_false, true_or, or_true, true_and, and_true, false_or, or_false, not_true_eq_false, not_false_eq_true, Option.bind_some, Option.toList_some, Option.toList_none, List.nil_append, List.cons_append, ite_self, nc_0, nc_1, nc_2, nc_3, nc_4, nc_5, nc_6, nc_7, nc_8, nc_9, nc_10, nc_11, nc_12, nc_13, nc_14, nc_15, nc_16, nc_17, nc_18, nc_19, nc_20, nc_21, nc_22, nc_23, nc_24, nc_25, nc_26, nc_27, nc_28, nc_29, nc_30, nc_31, nc_32, nc_33, nc_34, nc_35, nc_36, nc_40, nc_48, nc_100, nc_256, nc_300, nc_304, sh_20, sh_366, rf_366_0, sh_367, ib, hx, hwk, hmk, g, if_pos, if_neg, sh_0, sh_393, rw_copy, am_cp_ok]
      · rw [if_neg g]
        simp (decide := true) (disch := omega) only [en_251, bk_251_0, bk_251_45, bk_251_51, bq_251_0, bq_251_7, bq_251_45, bq_251_51, rn_iconst, rn_bipush, rn_sipush, rn_ldc_w, rn_ldc, rn_ldcS, rn_lconst, rn_ldc2, rn_gets, rn_iload0, rn_lload0, rn_aload0, rn_istore0, rn_astore0, rn_lstore0, rn_iinc0, rn_iload1, rn_lload1, rn_aload1, rn_istore1, rn_astore1, rn_lstore1, rn_iinc1, rn_iload2, rn_lload2, rn_aload2, rn_istore2, rn_astore2, rn_lstore2, rn_iinc2, rn_iload3, rn_lload3, rn_aload3, rn_istore3, rn_astore3, rn_lstore3, rn_iinc3, rn_iload4, rn_lload4, rn_aload4, rn_istore4, rn_astore4, rn_lstore4, rn_iinc4, rn_iload5, rn_lload5, rn_aload5, rn_istore5, rn_astore5, rn_lstore5, rn_iinc5, rn_iload6, rn_lload6, rn_aload6, rn_istore6, rn_astore6, rn_lstore6, rn_iinc6, rn_iload7, rn_aload7, rn_istore7, rn_astore7, rn_iinc7, rn_iload8, rn_aload8, rn_istore8, rn_astore8, rn_iinc8, rn_iload9, rn_aload9, rn_istore9, rn_astore9, rn_iinc9, rn_iadd, rn_isub, rn_imul, rn_iand, rn_ior, rn_ixor, rn_ishl, rn_ishr, rn_iushr, rn_idiv, rn_irem, rn_ineg, rn_ladd, rn_lsub, rn_lmul, rn_lor, rn_ldiv, rn_lrem, rn_lneg, rn_lshl, rn_lshr, rn_i2l, rn_l2i, rn_i2c, rn_lcmp, rn_dupi, rn_dupa, rn_popi, rn_popa, rn_dup2, rn_aast, rn_alen, rn_geta, rn_aald, rn_puta, rn_new, rn_newa, rn_anew, rn_min, rn_max, rn_slen, rn_chat, rn_indx, rn_objI, rn_nop, rn_goto, rn_ifeq, rn_ifne, rn_iflt, rn_ifge, rn_ifgt, rn_ifle, rn_iceq, rn_icne, rn_iclt, rn_icge, rn_icgt, rn_icle, rn_tsw, rn_lsw, rn_iret, rn_zret, rn_lret, rn_aret, rn_vret, rn_cs0, rn_cs1, rn_cs2, rn_cs3, rn_cs4, rn_cs5, rn_cs6, rn_cs7, rn_cv1, rn_ci1, rn_cv2, rn_ci2, rn_cv3, rn_ci3, rn_cv4, rn_cv5, rn_cv6, rn_cv7, cs_n, cs_i, cs_a, cs_l, rc_i, rc_a, rc_l, rc_n, rw_iald, rw_bald, rw_lald, rw_iast, rw_bast, rw_last, rw_geti, rw_getl, rw_puti, rw_putz, rw_putl, iI_add, iI_sub, iI_mul, iI_neg, iI_lt, iI_le, iI_eq, iI_lt0, iI_le0, iI_0lt, iI_0le, iI_eq0, iI_eq1, iI_div, iI_rem, am_in_ok, am_in_no, iI_toInt, iL_add, iL_sub, iL_mul, iL_neg, iL_div, iL_rem, iI_i2l, iL_l2i, iL_cmp, iL_eq0, iI_or, iI_and, iI_shl, if_true, if_false, true_or, or_true, true_and, and_true, false_or, or_false, not_true_eq_false, not_false_eq_true, Option.bind_some, Option.toList_some, Option.toList_none, List.nil_append, List.cons_append, ite_self, nc_0, nc_1, nc_2, nc_3, nc_4, nc_5, nc_6, nc_7, nc_8, nc_9, nc_10, nc_11, nc_12, nc_13, nc_14, nc_15, nc_16, nc_17, nc_18, nc_19, nc_20, nc_21, nc_22, nc_23, nc_24, nc_25, nc_26, nc_27, nc_28, nc_29, nc_30, nc_31, nc_32, nc_33, nc_34, nc_35, nc_36, nc_40, nc_48, nc_100, nc_256, nc_300, nc_304, sh_20, sh_366, rf_366_0, sh_367, ib, hx, hwk, hmk, g, if_pos, if_neg, sh_0, sh_393, rw_copy, am_cp_ok]
    · have c' : ¬ l.toNat.testBit k = true := c
      rw [bI_f c'] at ib
      rw [if_neg c]
      simp (decide := true) (disch := omega) only [en_251, bk_251_0, bk_251_45, bk_251_51, bq_251_0, bq_251_7, bq_251_45, bq_251_51, rn_iconst, rn_bipush, rn_sipush, rn_ldc_w, rn_ldc, rn_ldcS, rn_lconst, rn_ldc2, rn_gets, rn_iload0, rn_lload0, rn_aload0, rn_istore0, rn_astore0, rn_lstore0, rn_iinc0, rn_iload1, rn_lload1, rn_aload1, rn_istore1, rn_astore1, rn_lstore1, rn_iinc1, rn_iload2, rn_lload2, rn_aload2, rn_istore2, rn_astore2, rn_lstore2, rn_iinc2, rn_iload3, rn_lload3, rn_aload3, rn_istore3, rn_astore3, rn_lstore3, rn_iinc3, rn_iload4, rn_lload4, rn_aload4, rn_istore4, rn_astore4, rn_lstore4, rn_iinc4, rn_iload5, rn_lload5, rn_aload5, rn_istore5, rn_astore5, rn_lstore5, rn_iinc5, rn_iload6, rn_lload6, rn_aload6, rn_istore6, rn_astore6, rn_lstore6, rn_iinc6, rn_iload7, rn_aload7, rn_istore7, rn_astore7, rn_iinc7, rn_iload8, rn_aload8, rn_istore8, rn_astore8, rn_iinc8, rn_iload9, rn_aload9, rn_istore9, rn_astore9, rn_iinc9, rn_iadd, rn_isub, rn_imul, rn_iand, rn_ior, rn_ixor, rn_ishl, rn_ishr, rn_iushr, rn_idiv, rn_irem, rn_ineg, rn_ladd, rn_lsub, rn_lmul, rn_lor, rn_ldiv, rn_lrem, rn_lneg, rn_lshl, rn_lshr, rn_i2l, rn_l2i, rn_i2c, rn_lcmp, rn_dupi, rn_dupa, rn_popi, rn_popa, rn_dup2, rn_aast, rn_alen, rn_geta, rn_aald, rn_puta, rn_new, rn_newa, rn_anew, rn_min, rn_max, rn_slen, rn_chat, rn_indx, rn_objI, rn_nop, rn_goto, rn_ifeq, rn_ifne, rn_iflt, rn_ifge, rn_ifgt, rn_ifle, rn_iceq, rn_icne, rn_iclt, rn_icge, rn_icgt, rn_icle, rn_tsw, rn_lsw, rn_iret, rn_zret, rn_lret, rn_aret, rn_vret, rn_cs0, rn_cs1, rn_cs2, rn_cs3, rn_cs4, rn_cs5, rn_cs6, rn_cs7, rn_cv1, rn_ci1, rn_cv2, rn_ci2, rn_cv3, rn_ci3, rn_cv4, rn_cv5, rn_cv6, rn_cv7, cs_n, cs_i, cs_a, cs_l, rc_i, rc_a, rc_l, rc_n, rw_iald, rw_bald, rw_lald, rw_iast, rw_bast, rw_last, rw_geti, rw_getl, rw_puti, rw_putz, rw_putl, iI_add, iI_sub, iI_mul, iI_neg, iI_lt, iI_le, iI_eq, iI_lt0, iI_le0, iI_0lt, iI_0le, iI_eq0, iI_eq1, iI_div, iI_rem, am_in_ok, am_in_no, iI_toInt, iL_add, iL_sub, iL_mul, iL_neg, iL_div, iL_rem, iI_i2l, iL_l2i, iL_cmp, iL_eq0, iI_or, iI_and, iI_shl, if_true, if_false, true_or, or_true, true_and, and_true, false_or, or_false, not_true_eq_false, not_false_eq_true, Option.bind_some, Option.toList_some, Option.toList_none, List.nil_append, List.cons_append, ite_self, nc_0, nc_1, nc_2, nc_3, nc_4, nc_5, nc_6, nc_7, nc_8, nc_9, nc_10, nc_11, nc_12, nc_13, nc_14, nc_15, nc_16, nc_17, nc_18, nc_19, nc_20, nc_21, nc_22, nc_23, nc_24, nc_25, nc_26, nc_27, nc_28, nc_29, nc_30, nc_31, nc_32, nc_33, nc_34, nc_35, nc_36, nc_40, nc_48, nc_100, nc_256, nc_300, nc_304, sh_20, sh_366, rf_366_0, sh_367, ib, if_pos, if_neg, sh_0, sh_393, rw_copy, am_cp_ok]
  · conv => lhs; rw [bk_251_7]
    simp (decide := true) (disch := omega) only [en_251, bk_251_0, bk_251_45, bk_251_51, bq_251_0, bq_251_7, bq_251_45, bq_251_51, rn_iconst, rn_bipush, rn_sipush, rn_ldc_w, rn_ldc, rn_ldcS, rn_lconst, rn_ldc2, rn_gets, rn_iload0, rn_lload0, rn_aload0, rn_istore0, rn_astore0, rn_lstore0, rn_iinc0, rn_iload1, rn_lload1, rn_aload1, rn_istore1, rn_astore1, rn_lstore1, rn_iinc1, rn_iload2, rn_lload2, rn_aload2, rn_istore2, rn_astore2, rn_lstore2, rn_iinc2, rn_iload3, rn_lload3, rn_aload3, rn_istore3, rn_astore3, rn_lstore3, rn_iinc3, rn_iload4, rn_lload4, rn_aload4, rn_istore4, rn_astore4, rn_lstore4, rn_iinc4, rn_iload5, rn_lload5, rn_aload5, rn_istore5, rn_astore5, rn_lstore5, rn_iinc5, rn_iload6, rn_lload6, rn_aload6, rn_istore6, rn_astore6, rn_lstore6, rn_iinc6, rn_iload7, rn_aload7, rn_istore7, rn_astore7, rn_iinc7, rn_iload8, rn_aload8, rn_istore8, rn_astore8, rn_iinc8, rn_iload9, rn_aload9, rn_istore9, rn_astore9, rn_iinc9, rn_iadd, rn_isub, rn_imul, rn_iand, rn_ior, rn_ixor, rn_ishl, rn_ishr, rn_iushr, rn_idiv, rn_irem, rn_ineg, rn_ladd, rn_lsub, rn_lmul, rn_lor, rn_ldiv, rn_lrem, rn_lneg, rn_lshl, rn_lshr, rn_i2l, rn_l2i, rn_i2c, rn_lcmp, rn_dupi, rn_dupa, rn_popi, rn_popa, rn_dup2, rn_aast, rn_alen, rn_geta, rn_aald, rn_puta, rn_new, rn_newa, rn_anew, rn_min, rn_max, rn_slen, rn_chat, rn_indx, rn_objI, rn_nop, rn_goto, rn_ifeq, rn_ifne, rn_iflt, rn_ifge, rn_ifgt, rn_ifle, rn_iceq, rn_icne, rn_iclt, rn_icge, rn_icgt, rn_icle, rn_tsw, rn_lsw, rn_iret, rn_zret, rn_lret, rn_aret, rn_vret, rn_cs0, rn_cs1, rn_cs2, rn_cs3, rn_cs4, rn_cs5, rn_cs6, rn_cs7, rn_cv1, rn_ci1, rn_cv2, rn_ci2, rn_cv3, rn_ci3, rn_cv4, rn_cv5, rn_cv6, rn_cv7, cs_n, cs_i, cs_a, cs_l, rc_i, rc_a, rc_l, rc_n, rw_iald, rw_bald, rw_lald, rw_iast, rw_bast, rw_last, rw_geti, rw_getl, rw_puti, rw_putz, rw_putl, iI_add, iI_sub, iI_mul, iI_neg, iI_lt, iI_le, iI_eq, iI_lt0, iI_le0, iI_0lt, iI_0le, iI_eq0, iI_eq1, iI_div, iI_rem, am_in_ok, am_in_no, iI_toInt, iL_add, iL_sub, iL_mul, iL_neg, iL_div, iL_rem, iI_i2l, iL_l2i, iL_cmp, iL_eq0, iI_or, iI_and, iI_shl, if_true, if_false, true_or, or_true, true_and, and_true, false_or, or_false, not_true_eq_false, not_false_eq_true, Option.bind_some, Option.toList_some, Option.toList_none, List.nil_append, List.cons_append, ite_self, nc_0, nc_1, nc_2, nc_3, nc_4, nc_5, nc_6, nc_7, nc_8, nc_9, nc_10, nc_11, nc_12, nc_13, nc_14, nc_15, nc_16, nc_17, nc_18, nc_19, nc_20, nc_21, nc_22, nc_23, nc_24, nc_25, nc_26, nc_27, nc_28, nc_29, nc_30, nc_31, nc_32, nc_33, nc_34, nc_35, nc_36, nc_40, nc_48, nc_100, nc_256, nc_300, nc_304, Int.le_refl, if_pos, if_neg, sh_0, sh_393, rw_copy, am_cp_ok]
theorem gT_k {k : Nat} {z : Int} (h : z ≠ ((k + 1 : Nat) : Int) ∨ iandn z t ≠ 0) : gT mn yr t (k + 1) z = gT mn yr t k z := by
  rw [gT]; dsimp only; rw [if_neg (by rcases h with h | h; exact fun q => h q.1; exact fun q => h q.2)]
theorem gT_n {k : Nat} (h : iandn ((k + 1 : Nat) : Int) t = 0) : gT mn yr t (k + 1) ((k + 1 : Nat) : Int) = gV mn yr (fsT t ((k + 1 : Nat) : Int)) (gT mn yr t k) ((k + 1 : Nat) : Int) 8 := by
  rw [gT]; dsimp only; rw [if_pos ⟨rfl, h⟩]
/-- the class's table of games -/
def GTb (w : Nat → Int → Int) (a : Nat) (mn yr : Int → Int) (t : Int) (k : Nat) : Prop := ∀ l, 0 ≤ l → l ≤ (k : Int) → iandn l t = 0 → w a l = gT mn yr t k l
set_option maxHeartbeats 1000000 in
theorem c_reckonTray (V : VOk mn yr) {t : Nat} (t1 : t < 256) (hm : ∀ s, 0 ≤ s → s < 8 → w 19 s = mn s) (hy : ∀ s, 0 ≤ s → s < 8 → w 20 s = yr s) :
    ∃ w2, am_call (d + 1) 207 [.ref 366, .int (iI (t : Int)), .ref 19, .ref 20] (L, T, S0 n, am_w w, v, R0 o) = some (some (.int (iI (gT mn yr (t : Int) t (t : Int)))), (L, T, S0 n, am_w w2, v, R0 o)) ∧ GTb w2 367 mn yr (t : Int) t ∧ ∀ b, b ≠ 367 → w2 b = w b := by
  have tt : iandn (t : Int) (t : Int) = 0 := by
    refine bit_ext iandn_0 (by decide) (fun j => ?_)
    rw [iandn_bit]; simp
  obtain ⟨⟨jf, wf⟩, ⟨Gf, Ff⟩, ef⟩ := loop_p (fun (k : Nat) (p : Option Value × (Nat → Int → Int)) => GTb p.2 367 mn yr (t : Int) k ∧ ∀ b, b ≠ 367 → p.2 b = w b) (fun (k : Nat) (p : Option Value × (Nat → Int → Int)) => am_run (d + 1) 207 (am_B 207 16) [some (.ref 366), some (.int (iI (t : Int))), some (.ref 19), some (.ref 20), some (.int (iI (pc (t : Int)))), some (.int (iI ((k : Int) + 1))), p.1] [] (L, T, S0 n, am_w p.2, v, R0 o)) t (by
    rintro k hk ⟨jj, wk⟩ ⟨Gk, Fk⟩
    dsimp only at Gk Fk ⊢
    have ec : ((k + 1 : Nat) : Int) = (k : Int) + 1 := by omega
    have g1 : ¬ (t : Int) < (k : Int) + 1 := by omega
    have hn := iI_andn (a := (k : Int) + 1) (b := (t : Int)) (by omega) (by omega)
    have p1 := pc_bd (l := (t : Int)) (by omega) (by omega)
    have p2 := pc_bd (l := (k : Int) + 1) (by omega) (by omega)
    by_cases c : iandn ((k : Int) + 1) (t : Int) = 0
    · have c' : iandn ((k + 1 : Nat) : Int) (t : Int) = 0 := by rw [ec]; exact c
      have F := gT_F (t := (t : Int)) V (k := k) (by omega) c'
      have hw : ∀ j : Nat, j < 8 → hb ((k + 1 : Nat) : Int) j = true → wk 367 (rmv ((k + 1 : Nat) : Int) j) = gT mn yr (t : Int) k (rmv ((k + 1 : Nat) : Int) j) := fun j j8 hj => by
        obtain ⟨r1, r2, r3⟩ := rmv_ok (l := ((k + 1 : Nat) : Int)) (by omega) (by omega) j8 hj
        exact Gk _ r1 (by omega) (rmv_sub hj c')
      have hG : GTb (upI wk 367 ((k : Int) + 1) (gV mn yr (fsT (t : Int) ((k + 1 : Nat) : Int)) (gT mn yr (t : Int) k) ((k + 1 : Nat) : Int) 8)) 367 mn yr (t : Int) (k + 1) := fun l l0 l1 hs => by
        by_cases e : l = ((k + 1 : Nat) : Int)
        · subst e
          rw [gT_n c', ec, upI_s]
        · rw [gT_k (Or.inl e), upI_2 (by omega)]
          exact Gk l l0 (by omega) hs
      by_cases e : fsT (t : Int) ((k + 1 : Nat) : Int) = true
      · have e' : (pc (t : Int) - pc ((k : Int) + 1)).tmod 2 = 0 := by rw [← ec]; exact of_decide_eq_true e
        have q1 := c_mostOf (d := d) (L := L) (T := T) (o := o) (n := n) (v := v) (w := wk) V F (by omega) (by omega) hw (fun s s0 s1 => by rw [Fk 19 (by decide)]; exact hm s s0 s1)
        have G2 := hG
        rw [e] at G2
        refine ⟨(some (.int (iI 1)), upI wk 367 ((k : Int) + 1) (gV mn yr true (gT mn yr (t : Int) k) ((k + 1 : Nat) : Int) 8)), ⟨G2, fun b hb => by dsimp only; rw [upI_c hb]; exact Fk b hb⟩, ?_⟩
        dsimp only
        rw [ec] at q1 ⊢
        conv => lhs; rw [bk_207_16]
        simp (decide := true) (disch := omega) only [en_207, bk_207_0, bk_207_48, bk_207_49, bk_207_72, bk_207_79, bk_207_80, bk_207_86, bq_207_0, bq_207_16, bq_207_48, bq_207_49, bq_207_72, bq_207_79, bq_207_80, bq_207_86, rn_iconst, rn_bipush, rn_sipush, rn_ldc_w, rn_ldc, rn_ldcS, rn_lconst, rn_ldc2, rn_gets, rn_iload0, rn_lload0, rn_aload0, rn_istore0, rn_astore0, rn_lstore0, rn_iinc0, rn_iload1, rn_lload1, rn_aload1, rn_istore1, rn_astore1, rn_lstore1, rn_iinc1, rn_iload2, rn_lload2, rn_aload2, rn_istore2, rn_astore2, rn_lstore2, rn_iinc2, rn_iload3, rn_lload3, rn_aload3, rn_istore3, rn_astore3, rn_lstore3, rn_iinc3, rn_iload4, rn_lload4, rn_aload4, rn_istore4, rn_astore4, rn_lstore4, rn_iinc4, rn_iload5, rn_lload5, rn_aload5, rn_istore5, rn_astore5, rn_lstore5, rn_iinc5, rn_iload6, rn_lload6, rn_aload6, rn_istore6, rn_astore6, rn_lstore6, rn_iinc6, rn_iload7, rn_aload7, rn_istore7, rn_astore7, rn_iinc7, rn_iload8, rn_aload8, rn_istore8, rn_astore8, rn_iinc8, rn_iload9, rn_aload9, rn_istore9, rn_astore9, rn_iinc9, rn_iadd, rn_isub, rn_imul, rn_iand, rn_ior, rn_ixor, rn_ishl, rn_ishr, rn_iushr, rn_idiv, rn_irem, rn_ineg, rn_ladd, rn_lsub, rn_lmul, rn_lor, rn_ldiv, rn_lrem, rn_lneg, rn_lshl, rn_lshr, rn_i2l, rn_l2i, rn_i2c, rn_lcmp, rn_dupi, rn_dupa, rn_popi, rn_popa, rn_dup2, rn_aast, rn_alen, rn_geta, rn_aald, rn_puta, rn_new, rn_newa, rn_anew, rn_min, rn_max, rn_slen, rn_chat, rn_indx, rn_objI, rn_nop, rn_goto, rn_ifeq, rn_ifne, rn_iflt, rn_ifge, rn_ifgt, rn_ifle, rn_iceq, rn_icne, rn_iclt, rn_icge, rn_icgt, rn_icle, rn_tsw, rn_lsw, rn_iret, rn_zret, rn_lret, rn_aret, rn_vret, rn_cs0, rn_cs1, rn_cs2, rn_cs3, rn_cs4, rn_cs5, rn_cs6, rn_cs7, rn_cv1, rn_ci1, rn_cv2, rn_ci2, rn_cv3, rn_ci3, rn_cv4, rn_cv5, rn_cv6, rn_cv7, cs_n, cs_i, cs_a, cs_l, rc_i, rc_a, rc_l, rc_n, rw_iald, rw_bald, rw_lald, rw_iast, rw_bast, rw_last, rw_geti, rw_getl, rw_puti, rw_putz, rw_putl, iI_add, iI_sub, iI_mul, iI_neg, iI_lt, iI_le, iI_eq, iI_lt0, iI_le0, iI_0lt, iI_0le, iI_eq0, iI_eq1, iI_div, iI_rem, am_in_ok, am_in_no, iI_toInt, iL_add, iL_sub, iL_mul, iL_neg, iL_div, iL_rem, iI_i2l, iL_l2i, iL_cmp, iL_eq0, iI_or, iI_and, iI_shl, if_true, if_false, true_or, or_true, true_and, and_true, false_or, or_false, not_true_eq_false, not_false_eq_true, Option.bind_some, Option.toList_some, Option.toList_none, List.nil_append, List.cons_append, ite_self, nc_0, nc_1, nc_2, nc_3, nc_4, nc_5, nc_6, nc_7, nc_8, nc_9, nc_10, nc_11, nc_12, nc_13, nc_14, nc_15, nc_16, nc_17, nc_18, nc_19, nc_20, nc_21, nc_22, nc_23, nc_24, nc_25, nc_26, nc_27, nc_28, nc_29, nc_30, nc_31, nc_32, nc_33, nc_34, nc_35, nc_36, nc_40, nc_48, nc_100, nc_256, nc_300, nc_304, sh_366, rf_366_0, sh_367, hn, c, c_bitCount, e', q1, mx_194, mx_250, g1, if_pos, if_neg, sh_0, sh_393, rw_copy, am_cp_ok]
      · have e' : ¬ (pc (t : Int) - pc ((k : Int) + 1)).tmod 2 = 0 := by rw [← ec]; exact fun h => e (decide_eq_true h)
        have e2 : fsT (t : Int) ((k + 1 : Nat) : Int) = false := by simpa using e
        have q1 := c_leastOf (d := d) (L := L) (T := T) (o := o) (n := n) (v := v) (w := wk) V F (by omega) (by omega) hw (fun s s0 s1 => by rw [Fk 20 (by decide)]; exact hy s s0 s1)
        have G2 := hG
        rw [e2] at G2
        have tb : -2 < (pc (t : Int) - pc ((k : Int) + 1)).tmod 2 ∧ (pc (t : Int) - pc ((k : Int) + 1)).tmod 2 < 2 := ⟨by have := Int.lt_tmod_of_pos (pc (t : Int) - pc ((k : Int) + 1)) (show (0 : Int) < 2 by decide); omega, Int.tmod_lt_of_pos _ (by decide)⟩
        refine ⟨(some (.int (iI 0)), upI wk 367 ((k : Int) + 1) (gV mn yr false (gT mn yr (t : Int) k) ((k + 1 : Nat) : Int) 8)), ⟨G2, fun b hb => by dsimp only; rw [upI_c hb]; exact Fk b hb⟩, ?_⟩
        dsimp only
        rw [ec] at q1 ⊢
        conv => lhs; rw [bk_207_16]
        simp (decide := true) (disch := omega) only [en_207, bk_207_0, bk_207_48, bk_207_49, bk_207_72, bk_207_79, bk_207_80, bk_207_86, bq_207_0, bq_207_16, bq_207_48, bq_207_49, bq_207_72, bq_207_79, bq_207_80, bq_207_86, rn_iconst, rn_bipush, rn_sipush, rn_ldc_w, rn_ldc, rn_ldcS, rn_lconst, rn_ldc2, rn_gets, rn_iload0, rn_lload0, rn_aload0, rn_istore0, rn_astore0, rn_lstore0, rn_iinc0, rn_iload1, rn_lload1, rn_aload1, rn_istore1, rn_astore1, rn_lstore1, rn_iinc1, rn_iload2, rn_lload2, rn_aload2, rn_istore2, rn_astore2, rn_lstore2, rn_iinc2, rn_iload3, rn_lload3, rn_aload3, rn_istore3, rn_astore3, rn_lstore3, rn_iinc3, rn_iload4, rn_lload4, rn_aload4, rn_istore4, rn_astore4, rn_lstore4, rn_iinc4, rn_iload5, rn_lload5, rn_aload5, rn_istore5, rn_astore5, rn_lstore5, rn_iinc5, rn_iload6, rn_lload6, rn_aload6, rn_istore6, rn_astore6, rn_lstore6, rn_iinc6, rn_iload7, rn_aload7, rn_istore7, rn_astore7, rn_iinc7, rn_iload8, rn_aload8, rn_istore8, rn_astore8, rn_iinc8, rn_iload9, rn_aload9, rn_istore9, rn_astore9, rn_iinc9, rn_iadd, rn_isub, rn_imul, rn_iand, rn_ior, rn_ixor, rn_ishl, rn_ishr, rn_iushr, rn_idiv, rn_irem, rn_ineg, rn_ladd, rn_lsub, rn_lmul, rn_lor, rn_ldiv, rn_lrem, rn_lneg, rn_lshl, rn_lshr, rn_i2l, rn_l2i, rn_i2c, rn_lcmp, rn_dupi, rn_dupa, rn_popi, rn_popa, rn_dup2, rn_aast, rn_alen, rn_geta, rn_aald, rn_puta, rn_new, rn_newa, rn_anew, rn_min, rn_max, rn_slen, rn_chat, rn_indx, rn_objI, rn_nop, rn_goto, rn_ifeq, rn_ifne, rn_iflt, rn_ifge, rn_ifgt, rn_ifle, rn_iceq, rn_icne, rn_iclt, rn_icge, rn_icgt, rn_icle, rn_tsw, rn_lsw, rn_iret, rn_zret, rn_lret, rn_aret, rn_vret, rn_cs0, rn_cs1, rn_cs2, rn_cs3, rn_cs4, rn_cs5, rn_cs6, rn_cs7, rn_cv1, rn_ci1, rn_cv2, rn_ci2, rn_cv3, rn_ci3, rn_cv4, rn_cv5, rn_cv6, rn_cv7, cs_n, cs_i, cs_a, cs_l, rc_i, rc_a, rc_l, rc_n, rw_iald, rw_bald, rw_lald, rw_iast, rw_bast, rw_last, rw_geti, rw_getl, rw_puti, rw_putz, rw_putl, iI_add, iI_sub, iI_mul, iI_neg, iI_lt, iI_le, iI_eq, iI_lt0, iI_le0, iI_0lt, iI_0le, iI_eq0, iI_eq1, iI_div, iI_rem, am_in_ok, am_in_no, iI_toInt, iL_add, iL_sub, iL_mul, iL_neg, iL_div, iL_rem, iI_i2l, iL_l2i, iL_cmp, iL_eq0, iI_or, iI_and, iI_shl, if_true, if_false, true_or, or_true, true_and, and_true, false_or, or_false, not_true_eq_false, not_false_eq_true, Option.bind_some, Option.toList_some, Option.toList_none, List.nil_append, List.cons_append, ite_self, nc_0, nc_1, nc_2, nc_3, nc_4, nc_5, nc_6, nc_7, nc_8, nc_9, nc_10, nc_11, nc_12, nc_13, nc_14, nc_15, nc_16, nc_17, nc_18, nc_19, nc_20, nc_21, nc_22, nc_23, nc_24, nc_25, nc_26, nc_27, nc_28, nc_29, nc_30, nc_31, nc_32, nc_33, nc_34, nc_35, nc_36, nc_40, nc_48, nc_100, nc_256, nc_300, nc_304, sh_366, rf_366_0, sh_367, hn, c, c_bitCount, e', q1, mx_194, mx_251, g1, if_pos, if_neg, sh_0, sh_393, rw_copy, am_cp_ok]
    · have cn : iandn ((k : Int) + 1) (t : Int) ≤ (k : Int) + 1 := by
        have := Nat.and_le_left (n := ((k : Int) + 1).toNat) (m := ((k : Int) + 1).toNat &&& (t : Int).toNat)
        have h2 : iandn ((k : Int) + 1) (t : Int) < 256 := by
          unfold iandn
          have := Nat.xor_lt_two_pow (n := 8) (x := ((k : Int) + 1).toNat) (y := ((k : Int) + 1).toNat &&& (t : Int).toNat) (by omega) (Nat.lt_of_le_of_lt Nat.and_le_left (by omega))
          omega
        have key : ∀ j, (iandn ((k : Int) + 1) (t : Int)).toNat.testBit j = true → ((k : Int) + 1).toNat.testBit j = true := by
          intro j hj
          rw [iandn_bit] at hj
          simp at hj
          exact hj.1
        have e : (iandn ((k : Int) + 1) (t : Int)).toNat &&& ((k : Int) + 1).toNat = (iandn ((k : Int) + 1) (t : Int)).toNat := by
          apply Nat.eq_of_testBit_eq
          intro j
          rw [Nat.testBit_and]
          cases h : (iandn ((k : Int) + 1) (t : Int)).toNat.testBit j
          · rfl
          · rw [key j h]; rfl
        have := Nat.and_le_right (n := (iandn ((k : Int) + 1) (t : Int)).toNat) (m := ((k : Int) + 1).toNat)
        have := iandn_0 (a := (k : Int) + 1) (b := (t : Int))
        omega
      have cp := iandn_0 (a := (k : Int) + 1) (b := (t : Int))
      refine ⟨(jj, wk), ⟨fun l l0 l1 hs => ?_, Fk⟩, ?_⟩
      · have e : l ≠ ((k + 1 : Nat) : Int) := fun h => c (by rw [← ec, ← h]; exact hs)
        rw [gT_k (Or.inl e)]
        exact Gk l l0 (by omega) hs
      · dsimp only
        rw [ec]
        conv => lhs; rw [bk_207_16]
        simp (decide := true) (disch := omega) only [en_207, bk_207_0, bk_207_48, bk_207_49, bk_207_72, bk_207_79, bk_207_80, bk_207_86, bq_207_0, bq_207_16, bq_207_48, bq_207_49, bq_207_72, bq_207_79, bq_207_80, bq_207_86, rn_iconst, rn_bipush, rn_sipush, rn_ldc_w, rn_ldc, rn_ldcS, rn_lconst, rn_ldc2, rn_gets, rn_iload0, rn_lload0, rn_aload0, rn_istore0, rn_astore0, rn_lstore0, rn_iinc0, rn_iload1, rn_lload1, rn_aload1, rn_istore1, rn_astore1, rn_lstore1, rn_iinc1, rn_iload2, rn_lload2, rn_aload2, rn_istore2, rn_astore2, rn_lstore2, rn_iinc2, rn_iload3, rn_lload3, rn_aload3, rn_istore3, rn_astore3, rn_lstore3, rn_iinc3, rn_iload4, rn_lload4, rn_aload4, rn_istore4, rn_astore4, rn_lstore4, rn_iinc4, rn_iload5, rn_lload5, rn_aload5, rn_istore5, rn_astore5, rn_lstore5, rn_iinc5, rn_iload6, rn_lload6, rn_aload6, rn_istore6, rn_astore6, rn_lstore6, rn_iinc6, rn_iload7, rn_aload7, rn_istore7, rn_astore7, rn_iinc7, rn_iload8, rn_aload8, rn_istore8, rn_astore8, rn_iinc8, rn_iload9, rn_aload9, rn_istore9, rn_astore9, rn_iinc9, rn_iadd, rn_isub, rn_imul, rn_iand, rn_ior, rn_ixor, rn_ishl, rn_ishr, rn_iushr, rn_idiv, rn_irem, rn_ineg, rn_ladd, rn_lsub, rn_lmul, rn_lor, rn_ldiv, rn_lrem, rn_lneg, rn_lshl, rn_lshr, rn_i2l, rn_l2i, rn_i2c, rn_lcmp, rn_dupi, rn_dupa, rn_popi, rn_popa, rn_dup2, rn_aast, rn_alen, rn_geta, rn_aald, rn_puta, rn_new, rn_newa, rn_anew, rn_min, rn_max, rn_slen, rn_chat, rn_indx, rn_objI, rn_nop, rn_goto, rn_ifeq, rn_ifne, rn_iflt, rn_ifge, rn_ifgt, rn_ifle, rn_iceq, rn_icne, rn_iclt, rn_icge, rn_icgt, rn_icle, rn_tsw, rn_lsw, rn_iret, rn_zret, rn_lret, rn_aret, rn_vret, rn_cs0, rn_cs1, rn_cs2, rn_cs3, rn_cs4, rn_cs5, rn_cs6, rn_cs7, rn_cv1, rn_ci1, rn_cv2, rn_ci2, rn_cv3, rn_ci3, rn_cv4, rn_cv5, rn_cv6, rn_cv7, cs_n, cs_i, cs_a, cs_l, rc_i, rc_a, rc_l, rc_n, rw_iald, rw_bald, rw_lald, rw_iast, rw_bast, rw_last, rw_geti, rw_getl, rw_puti, rw_putz, rw_putl, iI_add, iI_sub, iI_mul, iI_neg, iI_lt, iI_le, iI_eq, iI_lt0, iI_le0, iI_0lt, iI_0le, iI_eq0, iI_eq1, iI_div, iI_rem, am_in_ok, am_in_no, iI_toInt, iL_add, iL_sub, iL_mul, iL_neg, iL_div, iL_rem, iI_i2l, iL_l2i, iL_cmp, iL_eq0, iI_or, iI_and, iI_shl, if_true, if_false, true_or, or_true, true_and, and_true, false_or, or_false, not_true_eq_false, not_false_eq_true, Option.bind_some, Option.toList_some, Option.toList_none, List.nil_append, List.cons_append, ite_self, nc_0, nc_1, nc_2, nc_3, nc_4, nc_5, nc_6, nc_7, nc_8, nc_9, nc_10, nc_11, nc_12, nc_13, nc_14, nc_15, nc_16, nc_17, nc_18, nc_19, nc_20, nc_21, nc_22, nc_23, nc_24, nc_25, nc_26, nc_27, nc_28, nc_29, nc_30, nc_31, nc_32, nc_33, nc_34, nc_35, nc_36, nc_40, nc_48, nc_100, nc_256, nc_300, nc_304, sh_366, rf_366_0, sh_367, hn, c, g1, if_pos, if_neg, sh_0, sh_393, rw_copy, am_cp_ok]) (none, upI w 367 0 0) ⟨fun l l0 l1 hs => by dsimp only; rw [show l = 0 by omega, upI_s]; rfl, fun b hb => upI_c hb⟩
  dsimp only at Gf Ff
  refine ⟨wf, ?_, Gf, Ff⟩
  refine Eq.trans ?_ (ef.trans ?_)
  · simp (decide := true) (disch := omega) only [en_207, bk_207_0, bk_207_48, bk_207_49, bk_207_72, bk_207_79, bk_207_80, bk_207_86, bq_207_0, bq_207_16, bq_207_48, bq_207_49, bq_207_72, bq_207_79, bq_207_80, bq_207_86, rn_iconst, rn_bipush, rn_sipush, rn_ldc_w, rn_ldc, rn_ldcS, rn_lconst, rn_ldc2, rn_gets, rn_iload0, rn_lload0, rn_aload0, rn_istore0, rn_astore0, rn_lstore0, rn_iinc0, rn_iload1, rn_lload1, rn_aload1, rn_istore1, rn_astore1, rn_lstore1, rn_iinc1, rn_iload2, rn_lload2, rn_aload2, rn_istore2, rn_astore2, rn_lstore2, rn_iinc2, rn_iload3, rn_lload3, rn_aload3, rn_istore3, rn_astore3, rn_lstore3, rn_iinc3, rn_iload4, rn_lload4, rn_aload4, rn_istore4, rn_astore4, rn_lstore4, rn_iinc4, rn_iload5, rn_lload5, rn_aload5, rn_istore5, rn_astore5, rn_lstore5, rn_iinc5, rn_iload6, rn_lload6, rn_aload6, rn_istore6, rn_astore6, rn_lstore6, rn_iinc6, rn_iload7, rn_aload7, rn_istore7, rn_astore7, rn_iinc7, rn_iload8, rn_aload8, rn_istore8, rn_astore8, rn_iinc8, rn_iload9, rn_aload9, rn_istore9, rn_astore9, rn_iinc9, rn_iadd, rn_isub, rn_imul, rn_iand, rn_ior, rn_ixor, rn_ishl, rn_ishr, rn_iushr, rn_idiv, rn_irem, rn_ineg, rn_ladd, rn_lsub, rn_lmul, rn_lor, rn_ldiv, rn_lrem, rn_lneg, rn_lshl, rn_lshr, rn_i2l, rn_l2i, rn_i2c, rn_lcmp, rn_dupi, rn_dupa, rn_popi, rn_popa, rn_dup2, rn_aast, rn_alen, rn_geta, rn_aald, rn_puta, rn_new, rn_newa, rn_anew, rn_min, rn_max, rn_slen, rn_chat, rn_indx, rn_objI, rn_nop, rn_goto, rn_ifeq, rn_ifne, rn_iflt, rn_ifge, rn_ifgt, rn_ifle, rn_iceq, rn_icne, rn_iclt, rn_icge, rn_icgt, rn_icle, rn_tsw, rn_lsw, rn_iret, rn_zret, rn_lret, rn_aret, rn_vret, rn_cs0, rn_cs1, rn_cs2, rn_cs3, rn_cs4, rn_cs5, rn_cs6, rn_cs7, rn_cv1, rn_ci1, rn_cv2, rn_ci2, rn_cv3, rn_ci3, rn_cv4, rn_cv5, rn_cv6, rn_cv7, cs_n, cs_i, cs_a, cs_l, rc_i, rc_a, rc_l, rc_n, rw_iald, rw_bald, rw_lald, rw_iast, rw_bast, rw_last, rw_geti, rw_getl, rw_puti, rw_putz, rw_putl, iI_add, iI_sub, iI_mul, iI_neg, iI_lt, iI_le, iI_eq, iI_lt0, iI_le0, iI_0lt, iI_0le, iI_eq0, iI_eq1, iI_div, iI_rem, am_in_ok, am_in_no, iI_toInt, iL_add, iL_sub, iL_mul, iL_neg, iL_div, iL_rem, iI_i2l, iL_l2i, iL_cmp, iL_eq0, iI_or, iI_and, iI_shl, if_true, if_false, true_or, or_true, true_and, and_true, false_or, or_false, not_true_eq_false, not_false_eq_true, Option.bind_some, Option.toList_some, Option.toList_none, List.nil_append, List.cons_append, ite_self, nc_0, nc_1, nc_2, nc_3, nc_4, nc_5, nc_6, nc_7, nc_8, nc_9, nc_10, nc_11, nc_12, nc_13, nc_14, nc_15, nc_16, nc_17, nc_18, nc_19, nc_20, nc_21, nc_22, nc_23, nc_24, nc_25, nc_26, nc_27, nc_28, nc_29, nc_30, nc_31, nc_32, nc_33, nc_34, nc_35, nc_36, nc_40, nc_48, nc_100, nc_256, nc_300, nc_304, sh_366, rf_366_0, sh_367, c_bitCount, mx_194, Int.zero_add, if_pos, if_neg, sh_0, sh_393, rw_copy, am_cp_ok]
  · have e1 := Gf (t : Int) (by omega) (Int.le_refl _) tt
    have g1 : (t : Int) < (t : Int) + 1 := by omega
    conv => lhs; rw [bk_207_16]
    simp (decide := true) (disch := omega) only [en_207, bk_207_0, bk_207_48, bk_207_49, bk_207_72, bk_207_79, bk_207_80, bk_207_86, bq_207_0, bq_207_16, bq_207_48, bq_207_49, bq_207_72, bq_207_79, bq_207_80, bq_207_86, rn_iconst, rn_bipush, rn_sipush, rn_ldc_w, rn_ldc, rn_ldcS, rn_lconst, rn_ldc2, rn_gets, rn_iload0, rn_lload0, rn_aload0, rn_istore0, rn_astore0, rn_lstore0, rn_iinc0, rn_iload1, rn_lload1, rn_aload1, rn_istore1, rn_astore1, rn_lstore1, rn_iinc1, rn_iload2, rn_lload2, rn_aload2, rn_istore2, rn_astore2, rn_lstore2, rn_iinc2, rn_iload3, rn_lload3, rn_aload3, rn_istore3, rn_astore3, rn_lstore3, rn_iinc3, rn_iload4, rn_lload4, rn_aload4, rn_istore4, rn_astore4, rn_lstore4, rn_iinc4, rn_iload5, rn_lload5, rn_aload5, rn_istore5, rn_astore5, rn_lstore5, rn_iinc5, rn_iload6, rn_lload6, rn_aload6, rn_istore6, rn_astore6, rn_lstore6, rn_iinc6, rn_iload7, rn_aload7, rn_istore7, rn_astore7, rn_iinc7, rn_iload8, rn_aload8, rn_istore8, rn_astore8, rn_iinc8, rn_iload9, rn_aload9, rn_istore9, rn_astore9, rn_iinc9, rn_iadd, rn_isub, rn_imul, rn_iand, rn_ior, rn_ixor, rn_ishl, rn_ishr, rn_iushr, rn_idiv, rn_irem, rn_ineg, rn_ladd, rn_lsub, rn_lmul, rn_lor, rn_ldiv, rn_lrem, rn_lneg, rn_lshl, rn_lshr, rn_i2l, rn_l2i, rn_i2c, rn_lcmp, rn_dupi, rn_dupa, rn_popi, rn_popa, rn_dup2, rn_aast, rn_alen, rn_geta, rn_aald, rn_puta, rn_new, rn_newa, rn_anew, rn_min, rn_max, rn_slen, rn_chat, rn_indx, rn_objI, rn_nop, rn_goto, rn_ifeq, rn_ifne, rn_iflt, rn_ifge, rn_ifgt, rn_ifle, rn_iceq, rn_icne, rn_iclt, rn_icge, rn_icgt, rn_icle, rn_tsw, rn_lsw, rn_iret, rn_zret, rn_lret, rn_aret, rn_vret, rn_cs0, rn_cs1, rn_cs2, rn_cs3, rn_cs4, rn_cs5, rn_cs6, rn_cs7, rn_cv1, rn_ci1, rn_cv2, rn_ci2, rn_cv3, rn_ci3, rn_cv4, rn_cv5, rn_cv6, rn_cv7, cs_n, cs_i, cs_a, cs_l, rc_i, rc_a, rc_l, rc_n, rw_iald, rw_bald, rw_lald, rw_iast, rw_bast, rw_last, rw_geti, rw_getl, rw_puti, rw_putz, rw_putl, iI_add, iI_sub, iI_mul, iI_neg, iI_lt, iI_le, iI_eq, iI_lt0, iI_le0, iI_0lt, iI_0le, iI_eq0, iI_eq1, iI_div, iI_rem, am_in_ok, am_in_no, iI_toInt, iL_add, iL_sub, iL_mul, iL_neg, iL_div, iL_rem, iI_i2l, iL_l2i, iL_cmp, iL_eq0, iI_or, iI_and, iI_shl, if_true, if_false, true_or, or_true, true_and, and_true, false_or, or_false, not_true_eq_false, not_false_eq_true, Option.bind_some, Option.toList_some, Option.toList_none, List.nil_append, List.cons_append, ite_self, nc_0, nc_1, nc_2, nc_3, nc_4, nc_5, nc_6, nc_7, nc_8, nc_9, nc_10, nc_11, nc_12, nc_13, nc_14, nc_15, nc_16, nc_17, nc_18, nc_19, nc_20, nc_21, nc_22, nc_23, nc_24, nc_25, nc_26, nc_27, nc_28, nc_29, nc_30, nc_31, nc_32, nc_33, nc_34, nc_35, nc_36, nc_40, nc_48, nc_100, nc_256, nc_300, nc_304, sh_366, rf_366_0, sh_367, e1, g1, if_pos, if_neg, sh_0, sh_393, rw_copy, am_cp_ok]
end GC
