section MW
variable {p : Bts} {z k : Int} {s t : MSt} {S : List Int} {C0 : List (Int × Int)} {a : PO} {R : PR} {i : Nat}
theorem n4_bt {K : Int} (h : N4 K) (on : opN S ≠ 41) : btO K S = -1 := by
  unfold btO
  unfold N4 N2 at h
  rw [if_neg (by omega), if_neg (by omega), if_neg (by omega), if_neg (by omega), if_neg on]
theorem pos1 {P : List Int} {l : Int} (h : ∀ x, x ∈ P → l ≤ rkO x) (hl : 1 ≤ l) : ∀ x, x ∈ P → 1 ≤ rkO x := fun x hx => Int.le_trans hl (h x hx)
theorem opN_40 {x : Int} (h : 40 ≤ x) : opN (x :: S) = x := by rw [opN, if_pos h]
theorem rk_40 {x : Int} (h : 40 ≤ x) : rkO x = 0 := by unfold rkO; rw [if_pos h]
theorem take_neg (h : ¬ a.1 = 0) : pTake p a k = a := by unfold pTake; rw [if_neg h]
theorem take_ok (h : a.1 = 0) (g : tK p a.2.1 = k) : pTake p a k = (0, a.2.1 + 1, a.2.2) := by unfold pTake; rw [if_pos h, if_pos g]
theorem take_no (h : a.1 = 0) (g : ¬ tK p a.2.1 = k) : pTake p a k = pF 1 a.2.1 := by unfold pTake; rw [if_pos h, if_neg g]
theorem tk_shut (h : MRs p z s (40 :: S) C0 5 N4 a) : ((pTake p a 30).1 = 0 → ∃ C, MStar p z s ((pTake p a 30).2.1, sdr 7 S, true, C0 ++ (C ++ em0 (stk 7 S))) ∧ LSeg z C (pTake p a 30).2.2.1) ∧ (¬ (pTake p a 30).1 = 0 → Flt p z s (pTake p a 30).1 (pTake p a 30).2.1) := by
  by_cases a0 : a.1 = 0
  · obtain ⟨P, C, g1, g2, g3, g4⟩ := h.1 a0
    have on := opN_app (S := 40 :: S) P (pos1 g2 (by decide))
    rw [opN_40 (by decide)] at on
    have bt := n4_bt (S := P ++ 40 :: S) g4 (by rw [on]; decide)
    have sa := st_app (S := 40 :: S) (pos1 g2 (by decide)) (stN_c (by decide))
    by_cases c : tK p a.2.1 = 30
    · rw [take_ok a0 c]
      have st := MStep.shut (p := p) (z := z) (C := C0 ++ C) (i := a.2.1) (S := P ++ 40 :: S) (by rw [bt]; decide) (by unfold ptO; rw [if_pos on, if_pos c]) sa.2
      rw [sa.1, if_neg (by decide)] at st
      refine ⟨fun _ => ⟨C ++ em0 P, g1.trans (MStar.one ?_), g3⟩, fun h => absurd rfl h⟩
      have e : C0 ++ C ++ (em0 P ++ ([] ++ em0 (stk 7 S))) = C0 ++ (C ++ em0 P ++ em0 (stk 7 S)) := by simp only [List.append_assoc, List.nil_append]
      rw [e] at st
      exact st
    · rw [take_no a0 c]
      exact ⟨fun h => absurd h (pF_ne (by decide)), fun _ => Flt.of g1 (Flt.now (MFlt.beh (by rw [bt]; decide) (by unfold ptO; rw [if_pos on, if_neg c]; decide) (by rw [on]; decide)))⟩
  · rw [take_neg a0]
    exact ⟨fun h => absurd h a0, h.2⟩
theorem tk_then (h : MRq p z s (41 :: S) C0 1 N9 a) : ((pTake p a 13).1 = 0 → ∃ C, MStar p z s ((pTake p a 13).2.1, 42 :: S, false, C0 ++ C) ∧ LCnd z C (pTake p a 13).2.2.2) ∧ (¬ (pTake p a 13).1 = 0 → Flt p z s (pTake p a 13).1 (pTake p a 13).2.1) := by
  by_cases a0 : a.1 = 0
  · obtain ⟨P, C, g1, g2, ⟨g3, g5⟩, g4⟩ := h.1 a0
    have on := opN_app (S := 41 :: S) P g2
    rw [opN_40 (by decide)] at on
    have bt : btO (tK p a.2.1) (P ++ 41 :: S) = -1 := by
      unfold btO
      unfold N9 N7 N4 N2 at g4
      rw [if_neg (by omega), if_neg (by omega), if_neg (by omega), if_neg (by omega), if_pos on, if_pos g5, if_neg (by omega), if_neg (by omega)]
    have sa := st_app (S := 41 :: S) g2 (stN_c (by decide))
    by_cases c : tK p a.2.1 = 13
    · rw [take_ok a0 c]
      have pt : ptO (tK p a.2.1) (P ++ 41 :: S) = 42 := by unfold ptO; rw [if_neg (by rw [on]; decide), if_pos on, if_pos ⟨c, g5⟩]
      have st := MStep.part (p := p) (z := z) (C := C0 ++ C) (i := a.2.1) (S := P ++ 41 :: S) (by rw [bt]; decide) (by rw [pt]; decide) sa.2
      rw [pt, sa.1] at st
      refine ⟨fun _ => ⟨C ++ em0 P, g1.trans (MStar.one ?_), g3⟩, fun h => absurd rfl h⟩
      rw [List.append_assoc] at st
      exact st
    · rw [take_no a0 c]
      exact ⟨fun h => absurd h (pF_ne (by decide)), fun _ => Flt.of g1 (Flt.now (MFlt.beh (by rw [bt]; decide) (by unfold ptO; rw [if_neg (by rw [on]; decide), if_pos on, if_neg (fun h => c h.1)]; decide) (by rw [on]; decide)))⟩
  · rw [take_neg a0]
    exact ⟨fun h => absurd h a0, h.2⟩
theorem tk_else (h : MRs p z s (42 :: S) C0 5 N4 a) : ((pTake p a 14).1 = 0 → ∃ C, MStar p z s ((pTake p a 14).2.1, 43 :: S, false, C0 ++ C) ∧ LSeg z C (pTake p a 14).2.2.1) ∧ (¬ (pTake p a 14).1 = 0 → Flt p z s (pTake p a 14).1 (pTake p a 14).2.1) := by
  by_cases a0 : a.1 = 0
  · obtain ⟨P, C, g1, g2, g3, g4⟩ := h.1 a0
    have on := opN_app (S := 42 :: S) P (pos1 g2 (by decide))
    rw [opN_40 (by decide)] at on
    have bt := n4_bt (S := P ++ 42 :: S) g4 (by rw [on]; decide)
    have sa := st_app (S := 42 :: S) (pos1 g2 (by decide)) (stN_c (by decide))
    by_cases c : tK p a.2.1 = 14
    · rw [take_ok a0 c]
      have pt : ptO (tK p a.2.1) (P ++ 42 :: S) = 43 := by unfold ptO; rw [if_neg (by rw [on]; decide), if_neg (by rw [on]; decide), if_pos on, if_pos c]
      have st := MStep.part (p := p) (z := z) (C := C0 ++ C) (i := a.2.1) (S := P ++ 42 :: S) (by rw [bt]; decide) (by rw [pt]; decide) sa.2
      rw [pt, sa.1] at st
      refine ⟨fun _ => ⟨C ++ em0 P, g1.trans (MStar.one ?_), g3⟩, fun h => absurd rfl h⟩
      rw [List.append_assoc] at st
      exact st
    · rw [take_no a0 c]
      exact ⟨fun h => absurd h (pF_ne (by decide)), fun _ => Flt.of g1 (Flt.now (MFlt.beh (by rw [bt]; decide) (by unfold ptO; rw [if_neg (by rw [on]; decide), if_neg (by rw [on]; decide), if_pos on, if_neg c]; decide) (by rw [on]; decide)))⟩
  · rw [take_neg a0]
    exact ⟨fun h => absurd h a0, h.2⟩
theorem tk_end (h : MRs p z s (43 :: S) C0 5 N4 a) : ((pTake p a 15).1 = 0 → ∃ C, MStar p z s ((pTake p a 15).2.1, sdr 7 S, true, C0 ++ (C ++ ([(3, 0)] ++ em0 (stk 7 S)))) ∧ LSeg z C (pTake p a 15).2.2.1) ∧ (¬ (pTake p a 15).1 = 0 → Flt p z s (pTake p a 15).1 (pTake p a 15).2.1) := by
  by_cases a0 : a.1 = 0
  · obtain ⟨P, C, g1, g2, g3, g4⟩ := h.1 a0
    have on := opN_app (S := 43 :: S) P (pos1 g2 (by decide))
    rw [opN_40 (by decide)] at on
    have bt := n4_bt (S := P ++ 43 :: S) g4 (by rw [on]; decide)
    have sa := st_app (S := 43 :: S) (pos1 g2 (by decide)) (stN_c (by decide))
    by_cases c : tK p a.2.1 = 15
    · rw [take_ok a0 c]
      have st := MStep.shut (p := p) (z := z) (C := C0 ++ C) (i := a.2.1) (S := P ++ 43 :: S) (by rw [bt]; decide) (by unfold ptO; rw [if_neg (by rw [on]; decide), if_neg (by rw [on]; decide), if_neg (by rw [on]; decide), if_pos on, if_pos c]) sa.2
      rw [sa.1, if_pos rfl] at st
      refine ⟨fun _ => ⟨C ++ em0 P, g1.trans (MStar.one ?_), g3⟩, fun h => absurd rfl h⟩
      have e : C0 ++ C ++ (em0 P ++ ([(3, 0)] ++ em0 (stk 7 S))) = C0 ++ (C ++ em0 P ++ ([(3, 0)] ++ em0 (stk 7 S))) := by simp only [List.append_assoc]
      rw [e] at st
      exact st
    · rw [take_no a0 c]
      exact ⟨fun h => absurd h (pF_ne (by decide)), fun _ => Flt.of g1 (Flt.now (MFlt.beh (by rw [bt]; decide) (by unfold ptO; rw [if_neg (by rw [on]; decide), if_neg (by rw [on]; decide), if_neg (by rw [on]; decide), if_pos on, if_neg c]; decide) (by rw [on]; decide)))⟩
  · rw [take_neg a0]
    exact ⟨fun h => absurd h a0, h.2⟩
/-- if .. then .. else .. end -/
theorem ms_if
    (H3 : ∀ i S C0, stN 5 S = 0 → (tK p i = 18 → asks S = false) → MRs p z (i, S, false, C0) S C0 5 N4 (R 3 i (opC S) V0 B0))
    (H8 : ∀ i S C0, asks S = true → stN 1 S = 0 → MRq p z (i, S, false, C0) S C0 1 N9 (R 8 i (opC S) V0 B0))
    (i : Nat) (S : List Int) (C0 : List (Int × Int)) : ((pIf p R i (opC S + 1)).1 = 0 → ∃ C, MStar p z (i, 41 :: S, false, C0) ((pIf p R i (opC S + 1)).2.1, sdr 7 S, true, C0 ++ (C ++ em0 (stk 7 S))) ∧ LSeg z C (pIf p R i (opC S + 1)).2.2.1) ∧ (¬ (pIf p R i (opC S + 1)).1 = 0 → Flt p z (i, 41 :: S, false, C0) (pIf p R i (opC S + 1)).1 (pIf p R i (opC S + 1)).2.1) := by
  have h1 := H8 i (41 :: S) C0 rfl (stN_c (by decide))
  rw [opC_1 (Or.inr (Or.inr (by decide)))] at h1
  have t1 := tk_then h1
  unfold pIf
  generalize pTake p (R 8 i (opC S + 1) V0 B0) 13 = A at t1 ⊢
  by_cases A0 : A.1 = 0
  · rw [if_pos A0]
    obtain ⟨C1, g1, L1⟩ := t1.1 A0
    have h2 := H3 A.2.1 (42 :: S) (C0 ++ C1) (stN_c (by decide)) (fun _ => asks_op (by decide) (by decide))
    rw [opC_1 (Or.inr (Or.inr (by decide)))] at h2
    have t2 := tk_else h2
    generalize pTake p (R 3 A.2.1 (opC S + 1) V0 B0) 14 = B at t2 ⊢
    by_cases B0' : B.1 = 0
    · rw [if_pos B0']
      obtain ⟨C2, g2, L2⟩ := t2.1 B0'
      have h3 := H3 B.2.1 (43 :: S) (C0 ++ C1 ++ C2) (stN_c (by decide)) (fun _ => asks_op (by decide) (by decide))
      rw [opC_1 (Or.inr (Or.inr (by decide)))] at h3
      have t3 := tk_end h3
      generalize pTake p (R 3 B.2.1 (opC S + 1) V0 B0) 15 = D at t3 ⊢
      by_cases D0 : D.1 = 0
      · rw [if_pos D0]
        obtain ⟨C3, g3, L3⟩ := t3.1 D0
        refine ⟨fun _ => ⟨C1 ++ (C2 ++ (C3 ++ [(3, 0)])), (g1.trans g2).trans ?_, LSeg.ite L1 L2 L3⟩, fun h => absurd rfl h⟩
        have e : C0 ++ C1 ++ C2 ++ (C3 ++ ([(3, 0)] ++ em0 (stk 7 S))) = C0 ++ (C1 ++ (C2 ++ (C3 ++ [(3, 0)])) ++ em0 (stk 7 S)) := by simp only [List.append_assoc]
        rw [e] at g3
        exact g3
      · rw [if_neg D0]
        exact ⟨fun h => absurd h D0, fun _ => Flt.of (g1.trans g2) (t3.2 D0)⟩
    · rw [if_neg B0']
      exact ⟨fun h => absurd h B0', fun _ => Flt.of g1 (t2.2 B0')⟩
  · rw [if_neg A0]
    exact ⟨fun h => absurd h A0, t1.2⟩
theorem ms_one (O : TpOk p) (hz : z = 0 ∨ z = 1)
    (H0 : ∀ i S C0, (tK p i = 18 → asks S = false) → MR1 p z i S C0 (R 0 i (opC S) V0 B0))
    (H3 : ∀ i S C0, stN 5 S = 0 → (tK p i = 18 → asks S = false) → MRs p z (i, S, false, C0) S C0 5 N4 (R 3 i (opC S) V0 B0))
    (H8 : ∀ i S C0, asks S = true → stN 1 S = 0 → MRq p z (i, S, false, C0) S C0 1 N9 (R 8 i (opC S) V0 B0))
    (i : Nat) (S : List Int) (C0 : List (Int × Int)) (h18 : tK p i = 18 → asks S = false) : MR1 p z i S C0 (pOne p z R i (opC S)) := by
  unfold pOne
  by_cases c1 : tK p i = 38
  · rw [if_pos c1]
    have tn := tN_ok O c1
    by_cases g : 9999 < (tN p i).1
    · rw [if_pos g]
      exact MR1.flt (pF_ne (by decide)) (Flt.now (MFlt.num c1 g))
    · rw [if_neg g]
      refine ⟨fun _ => ⟨[(0, (tN p i).1)], MStar.one (MStep.num c1 (by omega)), LSeg.num tn.1 (by omega)⟩, fun h => absurd rfl h⟩
  rw [if_neg c1]
  by_cases c2 : isNm (tK p i)
  · rw [if_pos c2]
    by_cases g : okN z (tK p i)
    · rw [if_pos g]
      refine ⟨fun _ => ⟨[(1, nmK (tK p i))], MStar.one (MStep.name c2 g), LSeg.name ((nm_cnm c2 hz).2 g)⟩, fun h => absurd rfl h⟩
    · rw [if_neg g]
      exact MR1.flt (show ¬ (5 : Int) = 0 by decide) (Flt.now (MFlt.name c2 g))
  rw [if_neg c2]
  by_cases c3 : tK p i = 29 ∨ tK p i = 26 ∨ tK p i = 10 ∨ tK p i = 11 ∨ tK p i = 12
  · rw [if_neg (fun h => h c3)]
    have ok : 0 ≤ opK (tK p i) S := by
      rcases c3 with h | h | h | h | h <;> rw [h] <;> unfold opK <;> simp
    by_cases c8 : 8 ≤ opC S
    · rw [if_pos c8]
      exact MR1.flt (pF_ne (by decide)) (Flt.now (MFlt.full ok c8))
    rw [if_neg c8]
    have st := MStep.opn (p := p) (z := z) (C := C0) (i := i) (S := S) ok (by omega)
    by_cases c29 : tK p i = 29
    · rw [if_pos c29]
      have e : opK (tK p i) S = 40 := by rw [c29]; rfl
      rw [e] at st
      have h := H3 (i + 1) (40 :: S) C0 (stN_c (by decide)) (fun _ => asks_op (by decide) (by decide))
      rw [opC_1 (Or.inr (Or.inr (by decide)))] at h
      have t := tk_shut h
      generalize pTake p (R 3 (i + 1) (opC S + 1) V0 B0) 30 = A at t ⊢
      refine ⟨fun h0 => ?_, fun h0 => Flt.of (MStar.one st) (t.2 h0)⟩
      obtain ⟨C, g1, L1⟩ := t.1 h0
      exact ⟨C, (MStar.one st).trans g1, L1⟩
    rw [if_neg c29]
    by_cases c12 : tK p i = 12
    · rw [if_pos c12]
      have e : opK (tK p i) S = 41 := by rw [c12]; rfl
      rw [e] at st
      have t := ms_if H3 H8 (i + 1) S C0
      generalize pIf p R (i + 1) (opC S + 1) = A at t ⊢
      refine ⟨fun h0 => ?_, fun h0 => Flt.of (MStar.one st) (t.2 h0)⟩
      obtain ⟨C, g1, L1⟩ := t.1 h0
      exact ⟨C, (MStar.one st).trans g1, L1⟩
    rw [if_neg c12]
    have hq : ∃ q, q = (if tK p i = 26 then 41 else tK p i) ∧ (q = 41 ∨ q = 10 ∨ q = 11) ∧ opK (tK p i) S = umo q := by
      rcases c3 with h | h | h | h | h
      · exact absurd h c29
      · exact ⟨41, by rw [h]; rfl, Or.inl rfl, by rw [h]; rfl⟩
      · exact ⟨10, by rw [h]; rfl, Or.inr (Or.inl rfl), by rw [h]; rfl⟩
      · exact ⟨11, by rw [h]; rfl, Or.inr (Or.inr rfl), by rw [h]; rfl⟩
      · exact absurd h c12
    obtain ⟨q, q1, q2, q3⟩ := hq
    rw [← q1]
    rw [q3] at st
    have rk : rkO (umo q) = 7 := by rcases q2 with rfl | rfl | rfl <;> decide
    have h := H0 (i + 1) (umo q :: S) C0 (fun _ => asks_hi (by omega))
    rw [opC_1 (Or.inl rk)] at h
    unfold MR1 at h
    rw [(st_7c rk).1, (st_7c rk).2] at h
    generalize R 0 (i + 1) (opC S + 1) V0 B0 = A at h ⊢
    by_cases a0 : A.1 = 0
    · rw [if_pos a0]
      obtain ⟨C, g1, L1⟩ := h.1 a0
      refine ⟨fun _ => ⟨C ++ [(umo q, 0)], (MStar.one st).trans ?_, L1.uno q2⟩, fun h => absurd rfl h⟩
      have e : C0 ++ (C ++ em0 (umo q :: stk 7 S)) = C0 ++ (C ++ [(umo q, 0)] ++ em0 (stk 7 S)) := by
        rw [List.append_assoc C]; rfl
      rw [e] at g1
      exact g1
    · rw [if_neg a0]
      exact MR1.flt a0 (Flt.of (MStar.one st) (h.2 a0))
  · rw [if_pos c3]
    refine MR1.flt (show ¬ (1 : Int) = 0 by decide) (Flt.now (MFlt.none c1 c2 ?_))
    unfold opK
    rw [if_neg (by omega), if_neg (by omega), if_neg (by omega), if_neg (by omega), if_neg (by omega)]
    rw [if_neg (fun h => by rw [h18 h.1] at h; exact absurd h.2 (by decide))]
    decide
def MAll (p : Bts) (z : Int) (R : PR) : Prop :=
  (∀ i S C0, (tK p i = 18 → asks S = false) → MR1 p z i S C0 (R 0 i (opC S) V0 B0)) ∧
  (∀ i S C0, stN 6 S = 0 → (tK p i = 18 → asks S = false) → MRs p z (i, S, false, C0) S C0 6 N2 (R 1 i (opC S) V0 B0)) ∧
  (∀ i S C0 P C V B, stN 6 S = 0 → (∀ x, x ∈ P → 6 ≤ rkO x) → True → LSeg z (C ++ em0 P) V → MRs p z (i, P ++ S, true, C0 ++ C) S C0 6 N2 (R 2 i (opC S) V B)) ∧
  (∀ i S C0, stN 5 S = 0 → (tK p i = 18 → asks S = false) → MRs p z (i, S, false, C0) S C0 5 N4 (R 3 i (opC S) V0 B0)) ∧
  (∀ i S C0 P C V B, stN 5 S = 0 → (∀ x, x ∈ P → 5 ≤ rkO x) → N2 (tK p i) → LSeg z (C ++ em0 P) V → MRs p z (i, P ++ S, true, C0 ++ C) S C0 5 N4 (R 4 i (opC S) V B)) ∧
  (∀ i S C0, asks S = true → MRq p z (i, S, false, C0) S C0 3 N4 (R 5 i (opC S) V0 B0)) ∧
  (∀ i S C0, asks S = true → stN 2 S = 0 → MRq p z (i, S, false, C0) S C0 2 N7 (R 6 i (opC S) V0 B0)) ∧
  (∀ i S C0 P C V B, asks S = true → stN 2 S = 0 → (∀ x, x ∈ P → 2 ≤ rkO x) → N4 (tK p i) → LCnd z (C ++ em0 P) B → cpd (P ++ S) = true → MRq p z (i, P ++ S, true, C0 ++ C) S C0 2 N7 (R 7 i (opC S) V B)) ∧
  (∀ i S C0, asks S = true → stN 1 S = 0 → MRq p z (i, S, false, C0) S C0 1 N9 (R 8 i (opC S) V0 B0)) ∧
  (∀ i S C0 P C V B, asks S = true → stN 1 S = 0 → (∀ x, x ∈ P → 1 ≤ rkO x) → N7 (tK p i) → LCnd z (C ++ em0 P) B → cpd (P ++ S) = true → MRq p z (i, P ++ S, true, C0 ++ C) S C0 1 N9 (R 9 i (opC S) V B))
theorem f9_1 {C0 : List (Int × Int)} : MR1 p z i S C0 (pF 9 i) := MR1.flt (show ¬ (9 : Int) = 0 by decide) (Or.inl rfl)
theorem f9_s {l : Int} {Nx : Int → Prop} : MRs p z s S C0 l Nx (pF 9 i) := MRs.flt (show ¬ (9 : Int) = 0 by decide) (Or.inl rfl)
theorem f9_q {l : Int} {Nx : Int → Prop} : MRq p z s S C0 l Nx (pF 9 i) := MRq.flt (show ¬ (9 : Int) = 0 by decide) (Or.inl rfl)
theorem bt_25 {K : Int} (h : K = 25 ∨ K = 25 + 1) : (0 ≤ K - 19 ∧ K - 19 < 10 ∧ rkO (K - 19) = 5 ∧ rkB (K - 19) = 5 ∧ ∀ S, btO K S = K - 19) ∧ (K = 25 ∨ K = 26 ∨ K = 27 ∨ K = 28) := by
  rcases h with rfl | rfl
  · exact ⟨⟨by decide, by decide, by decide, by decide, fun _ => rfl⟩, by decide⟩
  · exact ⟨⟨by decide, by decide, by decide, by decide, fun _ => rfl⟩, by decide⟩
theorem bt_27 {K : Int} (h : K = 27 ∨ K = 27 + 1) : (0 ≤ K - 19 ∧ K - 19 < 10 ∧ rkO (K - 19) = 6 ∧ rkB (K - 19) = 6 ∧ ∀ S, btO K S = K - 19) ∧ (K = 25 ∨ K = 26 ∨ K = 27 ∨ K = 28) := by
  rcases h with rfl | rfl
  · exact ⟨⟨by decide, by decide, by decide, by decide, fun _ => rfl⟩, by decide⟩
  · exact ⟨⟨by decide, by decide, by decide, by decide, fun _ => rfl⟩, by decide⟩
theorem ms_all (O : TpOk p) (hz : z = 0 ∨ z = 1) : ∀ f, MAll p z (pP p z f)
  | 0 => ⟨fun _ _ _ _ => f9_1, fun _ _ _ _ _ => f9_s, fun _ _ _ _ _ _ _ _ _ _ _ => f9_s, fun _ _ _ _ _ => f9_s, fun _ _ _ _ _ _ _ _ _ _ _ => f9_s, fun _ _ _ _ => f9_q, fun _ _ _ _ _ => f9_q, fun _ _ _ _ _ _ _ _ _ _ _ _ _ => f9_q, fun _ _ _ _ _ => f9_q, fun _ _ _ _ _ _ _ _ _ _ _ _ _ => f9_q⟩
  | f + 1 => by
    obtain ⟨I0, I1, I2, I3, I4, I5, I6, I7, I8, I9⟩ := ms_all O hz f
    have J0 : ∀ i S C0, stN 7 S = 0 → (tK p i = 18 → asks S = false) → MRs p z (i, S, false, C0) S C0 7 (fun _ => True) (pP p z f 0 i (opC S) V0 B0) := fun i S C0 h g => (I0 i S C0 g).to h
    have J5 : ∀ i S C0, asks S = true → stN 3 S = 0 → MRq p z (i, S, false, C0) S C0 3 N4 (pP p z f 5 i (opC S) V0 B0) := fun i S C0 h _ => I5 i S C0 h
    refine ⟨?_, ?_, ?_, ?_, ?_, ?_, ?_, ?_, ?_, ?_⟩
    · exact ms_one O hz I0 I3 I8
    · exact ms_then (R := pP p z f) (x := 0) (y := 2) (by decide) J0 I2
    · exact fun i S C0 P C V B h1 h2 h3 h4 => mz_two (R := pP p z f) (x := 0) (y := 2) (lo := 27) (by decide) (by decide) (fun K h => bt_27 h) J0 I2 i S C0 P C V h1 h2 h3 h4
    · exact ms_then (R := pP p z f) (x := 1) (y := 4) (by decide) I1 I4
    · exact fun i S C0 P C V B h1 h2 h3 h4 => mz_two (R := pP p z f) (x := 1) (y := 4) (lo := 25) (by decide) (by decide) (fun K h => bt_25 h) I1 I4 i S C0 P C V h1 h2 h3 h4
    · exact ms_ask I3 I5
    · exact ms_thenq (R := pP p z f) (x := 5) (y := 7) (by decide) J5 I7
    · exact fun i S C0 P C V B h1 h2 h3 h4 h5 h6 => mz_join (R := pP p z f) (x := 5) (y := 7) (k := 17) (Or.inl ⟨rfl, rfl, rfl, rfl⟩) J5 I7 i S C0 P C B h1 h2 h3 h4 h5 h6
    · exact ms_thenq (R := pP p z f) (x := 6) (y := 9) (by decide) I6 I9
    · exact fun i S C0 P C V B h1 h2 h3 h4 h5 h6 => mz_join (R := pP p z f) (x := 6) (y := 9) (k := 16) (Or.inr ⟨rfl, rfl, rfl, rfl⟩) I6 I9 i S C0 P C B h1 h2 h3 h4 h5 h6
end MW
