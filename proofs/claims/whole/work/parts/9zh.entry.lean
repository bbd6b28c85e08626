/-! what the Statement gives at the law's entry -/
section ENT
variable {s : State} {A0 : Array Value}
theorem en_in {w : Cond} (h : w ∈ tables_1) : w ∈ lw_tbl := List.mem_append_right _ h
theorem en_nl {own : Nat} (ho : own < 23) {e : Nat × Nat × Nat} (he : e ∈ am_nl own) : Cond.methodLinkNest (am_CN own) e.1 (am_my e.2.1) "SpoonSet" ∈ tables_1 := by
  have a := List.all_eq_true.mp (List.all_eq_true.mp am_nl_ok own (List.mem_range.mpr ho)) e he
  rw [Bool.and_eq_true] at a
  exact List.mem_of_getElem? (of_decide_eq_true a.1)
theorem en_D (hts : ∀ w ∈ am_T, w.before A0 s = true) : ∃ D : va_G, ∀ (c : Nat) (q : vw_C), vwCl[c]? = some q → u_Kn s q.1 q.2.1 q.2.2 (D.1 c) (D.2 c) := by
  have h0 : ∀ i : Nat, ∃ q : ClassId × (Nat → Nat), i < 13 → u_Kn s (am_CN i) (am_TT i) (am_NN i) q.1 q.2 := by
    intro i
    by_cases hi : i < 13
    · obtain ⟨cC, iS, h⟩ := u_known (C := am_CN i) (T := am_TT i) (N := am_NN i) (n := am_NN i) hts (am_fc hi).2.1 (hts _ (am_ip_of hi).1)
      exact ⟨(cC, iS), fun _ => h⟩
    · exact ⟨(0, fun _ => 0), fun h => absurd h hi⟩
  obtain ⟨f, hf⟩ := Classical.axiomOfChoice h0
  refine ⟨(fun i => (f i).1, fun i => (f i).2), fun c q hq => ?_⟩
  have hc : c < 13 := (List.getElem?_eq_some_iff.mp hq).1
  have e := (am_fc hc).1.symm.trans hq
  cases e
  exact hf c hc
theorem en_P {ty : FieldType} (h : (Cond.arrayClass ty).before A0 s = true) : ∃ cA, ArrOfT s cA ty ∧ s.vm.findClass ("[" ++ ty.toString) = some cA := by
  obtain ⟨c, k, comp, h1, h2, h3⟩ := Cond.arrayClass_spec h
  exact ⟨c, fun N z => ⟨(fun k h => by cases h), k, h2, comp, h3⟩, h1⟩
theorem en_O {C : String} (h : (Cond.arrayOver (.object C)).before A0 s = true) : ∃ cA, ArrOfT s cA (.object C) ∧ va_RA s cA (.object C) := by
  obtain ⟨comp, c, k, h1, h2, h3, h4, h5⟩ := Cond.arrayOver_spec h
  exact ⟨c, fun N z => ⟨(fun k h => by cases h), k, h3, comp, h4⟩, k, comp, h3, h4, h1, h5⟩
theorem en_Ac (hts : ∀ w ∈ lw_tbl, w.before A0 s = true) : ∃ Ac : Nat → ClassId, ∀ (k : Nat) (q : ClassId × FieldType), (am_tys Ac)[k]? = some q → ArrOfT s q.1 q.2 ∧ va_RA s q.1 q.2 := by
  have ht : ∀ w ∈ am_T, w.before A0 s = true := fun w hw => hts w (List.mem_filter.mp hw).1
  obtain ⟨c0, a0, b0⟩ := en_P (ht _ am_aw_int)
  obtain ⟨c1, a1, b1⟩ := en_P (ht _ am_aw_long)
  obtain ⟨c2, a2, b2⟩ := en_P (ht _ am_aw_boolean)
  obtain ⟨c3, a3, b3⟩ := en_O (hts (.arrayOver (.object "SpoonSet$Table")) (en_in (by decide +kernel)))
  obtain ⟨c4, a4, b4⟩ := en_O (hts (.arrayOver (.object "SpoonSet$Script")) (en_in (by decide +kernel)))
  refine ⟨fun i => if i = 0 then c0 else if i = 1 then c1 else if i = 2 then c2 else if i = 3 then c3 else c4, fun k q hq => ?_⟩
  match k, hq with
  | 0, hq => cases hq; exact ⟨a0, b0⟩
  | 1, hq => cases hq; exact ⟨a1, b1⟩
  | 2, hq => cases hq; exact ⟨a2, b2⟩
  | 3, hq => cases hq; exact ⟨a3, b3⟩
  | 4, hq => cases hq; exact ⟨a4, b4⟩
  | k + 5, hq => simp at hq
/-- the ints that were there before -/
def en_i (xs : Nat → Int32) (a : Nat) : Nat → Int32 := if a = 1000000 then (fun k => iI (tzL.getD k 0)) else if a = 1000001 then (fun k => iI (tzM.getD k 0)) else if a = 1000002 then xs else if a = 1000010 then jC 0 else if a = 1000011 then jC 1 else fun _ => 0
def en_z (xs : Nat → Int32) : Nat → Int → Int := fun a k => (en_i xs a k.toNat).toInt
theorem en_zn {xs : Nat → Int32} {a k : Nat} : en_z xs a (k : Int) = (en_i xs a k).toInt := by
  unfold en_z
  rw [Int.toNat_natCast]
theorem en_u {xs : Nat → Int32} {a : Nat} (h : 407 ≤ a) : am_w (wG G00 (en_z xs)) a = en_i xs a := by
  funext k
  show iI (wG G00 (en_z xs) a (k : Int)) = _
  unfold wG
  rw [if_neg (by omega), en_zn]
  exact Int32.ofInt_toInt _
theorem en_t8 : ∀ k, k < 8 → (iI (tzL.getD k 0)).toInt = tzL.getD k 0 ∧ (iI (tzM.getD k 0)).toInt = tzM.getD k 0 := by decide +kernel
theorem en_tW : ∀ k, k < 126 → (jC 0 k).toInt = tzW.getD k 0 := by decide +kernel
theorem en_tS : ∀ k, k < 11 → (jC 1 k).toInt = tzS.getD k 0 := by decide +kernel
theorem en_stc (xs : Nat → Int32) : StcR (en_z xs) := by
  refine ⟨fun k hk => ?_, fun k hk => ?_, fun k hk => ?_⟩
  · rw [en_zn, en_zn]; exact en_t8 k hk
  · rw [en_zn]; exact en_tW k hk
  · rw [en_zn]; exact en_tS k hk
theorem en_xs {xs : Nat → Int32} {k : Int} : -2147483648 ≤ en_z xs 1000002 k ∧ en_z xs 1000002 k ≤ 2147483647 := by
  unfold en_z
  generalize en_i xs 1000002 k.toNat = v
  have h1 := Int32.le_toInt v
  have h2 := Int32.toInt_lt v
  omega
def en_st (a0 a1 b : Nat) (adK : Nat → Nat) : Nat → Nat := fun k => if k = 0 then a0 else if k = 1 then a1 else if k = 2 then b else adK (k - 10)
theorem en_st10 {a0 a1 b : Nat} {adK : Nat → Nat} : (fun i => en_st a0 a1 b adK (10 + i)) = adK := by
  funext i
  unfold en_st
  rw [if_neg (by omega), if_neg (by omega), if_neg (by omega), Nat.add_sub_cancel_left]
def en_tm (i : Nat) : Term := .string "SpoonSet$Tape" (if i = 0 then 56 else 72)
set_option maxRecDepth 20000 in
theorem en_el : ∀ i, i < 2 → ∀ j, j < ([126, 11] : List Nat).getD i 0 → Cond.eq (.elem (.field (en_tm i) "java/lang/String" "value" "[B") (.int (Int32.ofNat j))) (.int ((jB.getD i []).getD j 0)) ∈ flatC (Jvm.Cond.and given_1 narrow_1) := by decide +kernel
set_option maxRecDepth 20000 in
theorem en_elL : ∀ j, j < 8 → Cond.eq (.elem (.static "SpoonSet" "LEAST_TOLD" "[I") (.int (Int32.ofNat j))) (.int (iI (tzL.getD j 0))) ∈ flatC (Jvm.Cond.and given_1 narrow_1) := by decide +kernel
set_option maxRecDepth 20000 in
theorem en_elM : ∀ j, j < 8 → Cond.eq (.elem (.static "SpoonSet" "MOST_TOLD" "[I") (.int (Int32.ofNat j))) (.int (iI (tzM.getD j 0))) ∈ flatC (Jvm.Cond.and given_1 narrow_1) := by decide +kernel
theorem en_tX {t N : Nat} {f : Nat → Int32} {A : Nat → Prop} (h : va_T .int t N (fun j => .int (f j)) A s s.heap) : am_Xo t N f s s.heap ∧ t < s.heap.size := by
  obtain ⟨cell, h1, h2, h3, h4, h5, h6, h7⟩ := h
  exact ⟨⟨cell, h1, h2, h3, ⟨h4, h5⟩, h6⟩, (Array.getElem?_eq_some_iff.mp h1).1⟩
theorem en_xX {t N : Nat} {f : Nat → Int32} (h : va_X t N f s s.heap) : am_Xo t N f s s.heap := by
  obtain ⟨cell, h1, h2, h3, h4, h5⟩ := h
  exact ⟨cell, h1, h2, h3, ⟨by omega, by rw [h4]⟩, h5⟩
set_option maxRecDepth 20000 in
theorem en_m2 : ∀ i, i < 2 → Cond.exactly (en_tm i) "java/lang/String" ∈ flatC (Jvm.Cond.and given_1 narrow_1) ∧ Cond.eq (.field (en_tm i) "java/lang/String" "coder" "B") (.int 0) ∈ flatC (Jvm.Cond.and given_1 narrow_1) ∧ Cond.arrayOf (.field (en_tm i) "java/lang/String" "value" "[B") .byte ∈ flatC (Jvm.Cond.and given_1 narrow_1) ∧ Cond.eq (.length (.field (en_tm i) "java/lang/String" "value" "[B")) (.int (Int32.ofNat (([126, 11] : List Nat).getD i 0))) ∈ flatC (Jvm.Cond.and given_1 narrow_1) := by decide +kernel
theorem en_X (hts : ∀ w ∈ lw_tbl, w.before A0 s = true) (hg : (Jvm.Cond.and given_1 narrow_1).before A0 s = true) (sb : Nat) : ∃ (a0 a1 : Nat) (adK adV : Nat → Nat), st_X s.heap.size (en_st a0 a1 sb adK) s.heap adV s ∧ (am_Xo a0 8 (fun k => iI (tzL.getD k 0)) s s.heap ∧ a0 < s.heap.size) ∧ (am_Xo a1 8 (fun k => iI (tzM.getD k 0)) s s.heap ∧ a1 < s.heap.size) := by
  have hs := flat_of_before _ hg
  have hA : ∀ a : Nat, a < s.heap.size → ¬ (fun q => s.heap.size ≤ q) a := fun a h => Nat.not_le.mpr h
  have tb : ∀ {w : Cond}, w ∈ tables_1 → w.before A0 s = true := fun h => hts _ (en_in h)
  obtain ⟨a0, e0, T0⟩ := va_Tof (tm := .static "SpoonSet" "LEAST_TOLD" "[I") (ty := .int) (N := 8) (f := fun j => .int (iI (tzL.getD j 0))) (A := fun q => s.heap.size ≤ q) (by decide) (hs _ (by decide +kernel)) (va_eqt (hs _ (by decide +kernel))) (fun j hj => va_eqt (hs _ (en_elL j hj))) hA
  obtain ⟨a1, e1, T1⟩ := va_Tof (tm := .static "SpoonSet" "MOST_TOLD" "[I") (ty := .int) (N := 8) (f := fun j => .int (iI (tzM.getD j 0))) (A := fun q => s.heap.size ≤ q) (by decide) (hs _ (by decide +kernel)) (va_eqt (hs _ (by decide +kernel))) (fun j hj => va_eqt (hs _ (en_elM j hj))) hA
  obtain ⟨adK, adV, hS, hK⟩ := vk_Sof (N := 2) (tm := en_tm) (len := [126, 11]) (byt := jB) (A := fun q => s.heap.size ≤ q) (by decide) (fun i hi => hs _ (en_m2 i hi).1) (fun i hi => hs _ (en_m2 i hi).2.1) (fun i hi => hs _ (en_m2 i hi).2.2.1) (fun i hi => hs _ (en_m2 i hi).2.2.2) (fun i hi j hj => hs _ (en_el i hi j hj)) (fun i j hi hj hn => by
    rcases (show i = 0 ∧ j = 1 ∨ i = 1 ∧ j = 0 by omega) with ⟨rfl, rfl⟩ | ⟨rfl, rfl⟩
    · exact Or.inl (hs _ (by decide +kernel))
    · exact Or.inr (hs _ (by decide +kernel))) hA
  refine ⟨a0, a1, adK, adV, ⟨⟨va_Zof (tb (by decide +kernel)) (tb (by decide +kernel)) e0 hA, va_Zof (tb (by decide +kernel)) (tb (by decide +kernel)) e1 hA⟩, ⟨va_Nw.of rfl (tb (by decide +kernel)), va_Nw.of rfl (tb (by decide +kernel))⟩, ⟨vk_R.of (tb (by decide +kernel)) (hK 0 (by decide)), vk_R.of (tb (by decide +kernel)) (hK 1 (by decide))⟩, ⟨va_Zof (tb (by decide +kernel)) (tb (by decide +kernel)) (va_eqi (hs _ (by decide +kernel))) hA, va_Zqof (tb (by decide +kernel)) (tb (by decide +kernel)) (hs _ (by decide +kernel)) hA⟩, ?_⟩, en_tX T0, en_tX T1⟩
  rw [en_st10]
  exact hS
theorem ent_5 {L a n : Nat} (h : SM L 0 a = (5, n)) : a = 1000000 ∧ n = 8 ∨ a = 1000001 ∧ n = 8 ∨ a = 1000002 ∧ n = L := by
  unfold SM S0 at h
  by_cases g : a < 407
  · rw [if_neg (by omega)] at h
    exact absurd (congrArg Prod.fst h) (show ¬ (999 : Nat) = 5 by decide)
  · rw [if_pos (by omega), if_neg g] at h
    by_cases g0 : a = 1000000
    · rw [if_pos g0] at h; exact Or.inl ⟨g0, (congrArg Prod.snd h).symm⟩
    rw [if_neg g0] at h
    by_cases g1 : a = 1000001
    · rw [if_pos g1] at h; exact Or.inr (Or.inl ⟨g1, (congrArg Prod.snd h).symm⟩)
    rw [if_neg g1] at h
    by_cases g2 : a = 1000002
    · rw [if_pos g2] at h; exact Or.inr (Or.inr ⟨g2, (congrArg Prod.snd h).symm⟩)
    rw [if_neg g2] at h
    by_cases g3 : a = 1000010
    · rw [if_pos g3] at h; exact absurd (congrArg Prod.fst h) (show ¬ (7 : Nat) = 5 by decide)
    rw [if_neg g3] at h
    by_cases g4 : a = 1000011
    · rw [if_pos g4] at h; exact absurd (congrArg Prod.fst h) (show ¬ (7 : Nat) = 5 by decide)
    rw [if_neg g4] at h
    exact absurd (congrArg Prod.fst h) (show ¬ (999 : Nat) = 5 by decide)
theorem en_S {L a : Nat} : (SM L 0 a).1 = 5 ∧ 1000000 ≤ a ∨ (SM L 0 a).1 = 7 ∧ (a = 1000010 ∧ (SM L 0 a).2 = 126 ∨ a = 1000011 ∧ (SM L 0 a).2 = 11) ∨ (SM L 0 a).1 = 999 := by
  unfold SM S0
  by_cases g : a < 407
  · rw [if_neg (by omega)]
    exact Or.inr (Or.inr rfl)
  · rw [if_pos (by omega), if_neg g]
    by_cases g0 : a = 1000000
    · rw [if_pos g0]; exact Or.inl ⟨rfl, by omega⟩
    rw [if_neg g0]
    by_cases g1 : a = 1000001
    · rw [if_pos g1]; exact Or.inl ⟨rfl, by omega⟩
    rw [if_neg g1]
    by_cases g2 : a = 1000002
    · rw [if_pos g2]; exact Or.inl ⟨rfl, by omega⟩
    rw [if_neg g2]
    by_cases g3 : a = 1000010
    · rw [if_pos g3]; exact Or.inr (Or.inl ⟨rfl, Or.inl ⟨g3, rfl⟩⟩)
    rw [if_neg g3]
    by_cases g4 : a = 1000011
    · rw [if_pos g4]; exact Or.inr (Or.inl ⟨rfl, Or.inr ⟨g4, rfl⟩⟩)
    rw [if_neg g4]
    exact Or.inr (Or.inr rfl)
theorem en_zok {L : Nat} : am_zok (SM L 0) := fun a => by
  rcases en_S (L := L) (a := a) with h | h | h
  · exact Or.inl h.1
  · exact Or.inr (Or.inl h.1)
  · exact Or.inr (Or.inr h)
theorem ent_7 {L : Nat} {xs : Nat → Int32} : ∀ a, (SM L 0 a).1 = 7 → ∃ i, i < 2 ∧ a = 1000010 + i ∧ (SM L 0 a).2 = jN i ∧ am_w (wG G00 (en_z xs)) a = jC i := by
  intro a h
  rcases en_S (L := L) (a := a) with g | ⟨-, ⟨rfl, g2⟩ | ⟨rfl, g2⟩⟩ | g
  · omega
  · exact ⟨0, by decide, rfl, g2, en_u (by decide)⟩
  · exact ⟨1, by decide, rfl, g2, en_u (by decide)⟩
  · omega
theorem en_Rp {L : Nat} {xs : Nat → Int32} {D : va_G} {Ac : Nat → ClassId} {st : Nat → Nat} : am_Rp D Ac s.heap.size st s.heap (SM L 0) (am_w (wG G00 (en_z xs))) (MG L 0 0 G00 (en_z xs)) s.heap := by
  refine ⟨rfl, Nat.zero_le _, fun q _ => rfl, fun a ha => absurd ha (Nat.not_lt_zero a), fun a _ ha => ?_, fun a _ => ⟨rfl, rfl⟩⟩
  show (SM L 0 a).1 = 999
  rcases en_S (L := L) (a := a) with g | ⟨-, g | g⟩ | g <;> omega
end ENT
