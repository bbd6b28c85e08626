/-! the whole relation, and what a step needs of it -/
def scrO (q : Int) : Nat := 368 + 5 * q.toNat
def rulO (q : Int) : Nat := if q = -1 then 388 else scrO q
def ClR (w : Nat → Int → Int) (q : Int) : Prop := w (scrO q) 9 = w 396 (681 * q) ∧ ∀ k, 0 ≤ k → k < w 396 (681 * q) → w (scrO q + 2) k = w 396 (681 * q + 1 + 3 * k) ∧ (2 ≤ w 396 (681 * q + 1 + 3 * k) → (w (scrO q + 3) k = w 396 (681 * q + 1 + 3 * k + 1) ∧ 0 ≤ w (scrO q + 3) k ∧ w (scrO q + 3) k ≤ 60) ∧ ((w 396 (681 * q + 1 + 3 * k) = 3 ∨ w 396 (681 * q + 1 + 3 * k) = 4) → w (scrO q + 4) k = w 396 (681 * q + 1 + 3 * k + 2) ∧ 0 ≤ w (scrO q + 4) k ∧ w (scrO q + 4) k ≤ 7))
def TxRel (w : Nat → Int → Int) (q : Int) : Prop := (∃ VF VT, CLaw w (scrO q) VF VT ∧ MLaw w q VF VT) ∧ ClR w q ∧ 0 ≤ w 396 (681 * q) ∧ w 396 (681 * q) ≤ 24
def TpRel (w : Nat → Int → Int) : Prop := (0 ≤ w 346 1 ∧ w 346 1 ≤ 300 ∧ w 346 1 = w 393 4) ∧ ∀ k, 0 ≤ k → k < w 346 1 → w 347 k = w 397 k ∧ 0 ≤ w 347 k ∧ w 347 k ≤ 255
def tzL : List Int := [0, 0, 1, 0, 0, 0, 0, 1]
def tzM : List Int := [0, 0, 9, 5, 5, 7, 7, 60]
def tzW : List Int := [102, 97, 100, 101, 115, 32, 102, 101, 108, 116, 32, 100, 105, 110, 101, 114, 32, 99, 97, 114, 100, 32, 101, 97, 116, 32, 115, 109, 105, 116, 104, 32, 112, 111, 108, 105, 115, 104, 32, 100, 97, 121, 32, 97, 116, 32, 119, 105, 116, 104, 32, 103, 105, 118, 101, 115, 32, 116, 111, 112, 32, 105, 102, 32, 116, 104, 101, 110, 32, 101, 108, 115, 101, 32, 101, 110, 100, 32, 111, 114, 32, 97, 110, 100, 32, 110, 111, 116, 32, 115, 112, 111, 111, 110, 32, 109, 111, 117, 116, 104, 32, 115, 116, 114, 111, 110, 103, 32, 100, 101, 101, 112, 32, 108, 97, 121, 101, 114, 115, 32, 102, 101, 101, 108, 115, 32]
def tzS : List Int := [43, 45, 42, 47, 40, 41, 60, 62, 61, 35, 59]
def StcR (w : Nat → Int → Int) : Prop := (∀ k : Nat, k < 8 → w 1000000 k = tzL.getD k 0 ∧ w 1000001 k = tzM.getD k 0) ∧ (∀ k : Nat, k < 126 → w 1000010 k = tzW.getD k 0) ∧ (∀ k : Nat, k < 11 → w 1000011 k = tzS.getD k 0)
def Inv (w : Nat → Int → Int) : Prop := WNow w ∧ WKept w ∧ w 395 1 ≤ w 394 1 ∧ (∀ q, 0 ≤ q → q < w 394 1 → TxRel w q) ∧ CLaw w 388 none none ∧ TpRel w ∧ (w 352 5 = w 393 5 ∧ w 352 6 = w 393 6) ∧ w 393 23 = 1 ∧ StcR w
theorem WKept.keep {w w2 : Nat → Int → Int} (h : WKept w) (h1 : ∀ a, 170 < a → a < 341 → w2 a = w a) (h2 : w2 395 = w 395) : WKept w2 := by
  have k : ∀ j, j < 170 → w2 (171 + j) = w (171 + j) := fun j hj => h1 _ (by omega) (by omega)
  obtain ⟨c1, c2, c3, c4, c5, c6, c7, c8, c9, c10, c11, c12, c13⟩ := WRel.iff.mp h.rel
  refine WRel.kept (WRel.iff.mpr ⟨c1.same (k 7 (by decide)) (by rw [h2]), c2.same (k 8 (by decide)) (k 9 (by decide)) (by rw [h2]) h.1.2.1 (fun j _ _ => by rw [h2]), c3.same (by rw [h2]) h.1.1 (fun j _ _ => by rw [h2]), c4.same (k 10 (by decide)) (fun j _ _ => by rw [h2]), c5.same (by rw [show w2 171 = w 171 from k 0 (by decide)]) (by rw [show w2 171 = w 171 from k 0 (by decide)]) (by rw [h2]) (by rw [h2]), c6.same (by rw [show w2 171 = w 171 from k 0 (by decide)]) (by rw [show w2 171 = w 171 from k 0 (by decide)]) (by rw [h2]), c7.same (k 11 (by decide)) (k 12 (by decide)) (by rw [h2]) (fun j _ _ => by rw [h2]), c8.same (k 13 (by decide)) (k 14 (by decide)) (by rw [h2]) (fun j _ _ => by rw [h2]), c9.same (k 15 (by decide)) (k 16 (by decide)) (by rw [h2]) (by rw [h2]; exact Int.le_refl _) (fun j _ _ => by rw [h2]), c10.same (k 17 (by decide)) (fun j _ _ => by rw [h2]), c11.same (k 18 (by decide)) (k 19 (by decide)) (fun j _ _ => by rw [h2]), c12.same (fun a q1 q2 => h1 a (by omega) (by omega)) (by rw [h2]; exact Int.le_refl _) (fun j _ _ => by rw [h2]) (fun j _ _ => by rw [h2]), c13.same c6 (fun a q1 q2 => h1 a (by omega) (by omega)) (by rw [show w2 171 = w 171 from k 0 (by decide)]) (by rw [h2]) (by rw [h2]; exact Int.le_refl _) (fun j _ _ => by rw [h2])⟩)
theorem TxRel.keep {w w2 : Nat → Int → Int} {q : Int} (h : TxRel w q) (h0 : 0 ≤ q) (h4 : q < 4) (h1 : ∀ a, 367 < a → a < 393 → w2 a = w a) (h2 : w2 396 = w 396) : TxRel w2 q := by
  have k : ∀ j, j < 5 → w2 (scrO q + j) = w (scrO q + j) := fun j hj => h1 _ (by unfold scrO; omega) (by unfold scrO; omega)
  have k0 : w2 (scrO q) = w (scrO q) := k 0 (by decide)
  obtain ⟨⟨VF, VT, a1, a2⟩, a3, a4, a5⟩ := h
  refine ⟨⟨VF, VT, a1.keep k0 (k 1 (by decide)), a2.keep h2⟩, ?_, by rw [h2]; exact a4, by rw [h2]; exact a5⟩
  unfold ClR at a3 ⊢
  rw [k0, k 2 (by decide), k 3 (by decide), k 4 (by decide), h2]
  exact a3
theorem Inv.fr {w w2 : Nat → Int → Int} (I : Inv w) (W : WNow w2) (F : Fr w w2) : Inv w2 := by
  obtain ⟨i1, i2, i3, i4, i5, i6, i7, i8, i9⟩ := I
  obtain ⟨f0, f4, f5, f6, f23, f1⟩ := F
  refine ⟨W, i2.keep (fun a q1 q2 => f0 a (by omega)) (f0 395 (by omega)), by rw [f0 395 (by omega), f1]; exact i3, fun q q0 q1 => ?_, i5.keep (f0 388 (by omega)) (f0 389 (by omega)), ?_, by rw [f0 352 (by omega), f5, f6]; exact i7, by rw [f23]; exact i8, ?_⟩
  · rw [f1] at q1
    have := i1.2.2.2.2.1.2.1
    exact (i4 q q0 q1).keep q0 (by omega) (fun a q2 q3 => f0 a (by omega)) (f0 396 (by omega))
  · unfold TpRel at i6 ⊢
    rw [f0 346 (by omega), f0 347 (by omega), f0 397 (by omega), f4]
    exact i6
  · unfold StcR at i9 ⊢
    rw [f0 1000000 (by omega), f0 1000001 (by omega), f0 1000010 (by omega), f0 1000011 (by omega)]
    exact i9
/-- what steps leave as it is -/
def StF (w w2 : Nat → Int → Int) : Prop := (∀ b, (b < 1 ∨ (6 < b ∧ b < 21) ∨ (170 < b ∧ b < 341) ∨ (345 < b ∧ b < 360) ∨ (361 < b ∧ b < 393) ∨ (394 < b ∧ b < 399) ∨ 406 < b) → w2 b = w b) ∧ (w2 1 5 = w 1 5 ∧ w2 1 6 = w 1 6) ∧ (∀ k, k ≠ -1 → (k < 24 ∨ 26 < k) → w2 393 k = w 393 k) ∧ (∀ k, (k < 3 ∨ (3 < k ∧ k < 7) ∨ (59 ≤ k ∧ k < 183)) → w2 394 k = w 394 k)
def CFr (w w2 : Nat → Int → Int) : Prop := StF w w2 ∧ ∀ b, 393 ≤ b → w2 b = w b
def MFr (w w2 : Nat → Int → Int) : Prop := StF w w2 ∧ ∀ b, b < 393 → w2 b = w b
section SF
variable {w w1 w2 : Nat → Int → Int} {N : Int} {gv fl cd : Int → Int} {VF VT : Option (LEnv → Int)} {A : AT} {a t : Nat} {P : Nat → AT}
theorem StF.refl : StF w w := ⟨fun _ _ => rfl, ⟨rfl, rfl⟩, fun _ _ _ => rfl, fun _ _ => rfl⟩
theorem StF.trans (h : StF w w1) (k : StF w1 w2) : StF w w2 := ⟨fun b g => (k.1 b g).trans (h.1 b g), ⟨k.2.1.1.trans h.2.1.1, k.2.1.2.trans h.2.1.2⟩, fun b g1 g2 => (k.2.2.1 b g1 g2).trans (h.2.2.1 b g1 g2), fun b g => (k.2.2.2 b g).trans (h.2.2.2 b g)⟩
theorem CFr.refl : CFr w w := ⟨StF.refl, fun _ _ => rfl⟩
theorem MFr.refl : MFr w w := ⟨StF.refl, fun _ _ => rfl⟩
theorem CFr.trans (h : CFr w w1) (k : CFr w1 w2) : CFr w w2 := ⟨h.1.trans k.1, fun b g => (k.2 b g).trans (h.2 b g)⟩
theorem MFr.trans (h : MFr w w1) (k : MFr w1 w2) : MFr w w2 := ⟨h.1.trans k.1, fun b g => (k.2 b g).trans (h.2 b g)⟩
theorem FrT.cf (h : FrT 2 w w2) : CFr w w2 := ⟨⟨fun b g => h b (by omega) (by omega) (by omega), ⟨by rw [h 1 (by omega) (by omega) (by omega)], by rw [h 1 (by omega) (by omega) (by omega)]⟩, fun k _ _ => by rw [h 393 (by omega) (by omega) (by omega)], fun k _ => by rw [h 394 (by omega) (by omega) (by omega)]⟩, fun b g => h b (by omega) (by omega) (by omega)⟩
theorem FrT.cf2 (h : FrT 341 w w2) : CFr w w2 := ⟨⟨fun b g => h b (by omega) (by omega) (by omega), ⟨by rw [h 1 (by omega) (by omega) (by omega)], by rw [h 1 (by omega) (by omega) (by omega)]⟩, fun k _ _ => by rw [h 393 (by omega) (by omega) (by omega)], fun k _ => by rw [h 394 (by omega) (by omega) (by omega)]⟩, fun b g => h b (by omega) (by omega) (by omega)⟩
theorem kp_cf (h : ∀ b, (b < 1 ∨ (1 < b ∧ b < 21) ∨ 170 < b) → w2 b = w b) (h5 : w2 1 5 = w 1 5) (h6 : w2 1 6 = w 1 6) : CFr w w2 := ⟨⟨fun b g => h b (by omega), ⟨h5, h6⟩, fun k _ _ => by rw [h 393 (by omega)], fun k _ => by rw [h 394 (by omega)]⟩, fun b g => h b (by omega)⟩
theorem FrP.mf (h : FrP true w w2) : MFr w w2 := ⟨⟨fun b g => h.1 b (by omega) (by omega) (by omega) (by omega), ⟨by rw [h.1 1 (by omega) (by omega) (by omega) (by omega)], by rw [h.1 1 (by omega) (by omega) (by omega) (by omega)]⟩, h.2.1, fun k g => h.2.2 k (by omega)⟩, fun b g => h.1 b (by omega) (by omega) (by omega) (by omega)⟩
theorem km_mf (h : ∀ a, a ≠ 394 → w2 a = w a) (h2 : ∀ k, (k < 3 ∨ (3 < k ∧ k < 7) ∨ (59 ≤ k ∧ k < 183)) → w2 394 k = w 394 k) : MFr w w2 := ⟨⟨fun b g => h b (by omega), ⟨by rw [h 1 (by decide)], by rw [h 1 (by decide)]⟩, fun k _ _ => by rw [h 393 (by decide)], h2⟩, fun b g => h b (by omega)⟩
theorem tst_mf {u2 : Nat → Int → Int} (h : ∀ b, b ≠ 399 → b ≠ 401 → u2 b = w b) : MFr w u2 := ⟨⟨fun b g => h b (by omega) (by omega), ⟨by rw [h 1 (by decide) (by decide)], by rw [h 1 (by decide) (by decide)]⟩, fun k _ _ => by rw [h 393 (by decide) (by decide)], fun k _ => by rw [h 394 (by decide) (by decide)]⟩, fun b g => h b (by omega) (by omega)⟩
theorem tst_cf {u2 : Nat → Int → Int} (h : ∀ b, b ≠ 360 → b ≠ 361 → u2 b = w b) : CFr w u2 := ⟨⟨fun b g => h b (by omega) (by omega), ⟨by rw [h 1 (by decide) (by decide)], by rw [h 1 (by decide) (by decide)]⟩, fun k _ _ => by rw [h 393 (by decide) (by decide)], fun k _ => by rw [h 394 (by decide) (by decide)]⟩, fun b g => h b (by omega) (by omega)⟩
theorem MGst.keep2 (h : MGst w N gv fl cd) (h1 : ∀ k, (k = 0 ∨ (59 ≤ k ∧ k < 183)) → w2 394 k = w 394 k) : MGst w2 N gv fl cd := by
  obtain ⟨⟨a1, a2, a3⟩, a4, a5, a6, a7⟩ := h
  refine ⟨⟨a1, a2, by rw [h1 0 (by omega)]; exact a3⟩, fun x => ?_, a5, fun x x0 x1 => ?_, fun x x0 x1 => ?_⟩
  · rw [a4 x]
    split
    · rw [h1 _ (by omega)]
    · rfl
  · rw [h1 _ (by omega)]; exact a6 x x0 x1
  · rw [h1 _ (by omega)]; exact a7 x x0 x1
theorem StF.mg (F : StF w w2) (G : MGst w N gv fl cd) : MGst w2 N gv fl cd := G.keep2 (fun k hk => F.2.2.2 k (by omega))
theorem StF.cg (F : StF w w2) (G : CGst w N gv fl cd) : CGst w2 N gv fl cd := G.keep (F.1 8 (by omega)) (F.1 9 (by omega)) (F.1 10 (by omega)) (F.1 11 (by omega))
theorem StF.cl (F : StF w w2) (ha : ScrC a) (K : CLaw w a VF VT) : CLaw w2 a VF VT := by
  rcases ha with rfl | rfl | rfl | rfl | rfl <;> exact K.keep (F.1 _ (by omega)) (F.1 _ (by omega))
theorem StF.ml (F : StF w w2) (K : MLaw w (w 394 2) VF VT) : MLaw w2 (w2 394 2) VF VT := by
  rw [F.2.2.2 2 (by omega)]
  exact K.keep (F.1 396 (by omega))
theorem CFr.mr {bk : Bool} (F : CFr w w2) (R : MRep bk w A) : MRep bk w2 A := R.keep (F.2 393 (by decide)) (F.2 394 (by decide))
theorem MFr.cr (F : MFr w w2) (C : CRep w 2 A) : CRep w2 2 A := C.keep (fun b q1 q2 => F.2 b (by omega))
theorem CFr.lm (F : CFr w w2) (h : LogM w 394 t P) : LogM w2 394 t P := by
  unfold LogM at h ⊢
  rw [F.2 394 (by decide)]
  exact h
theorem LogC.keep (h : LogC w 1 t P) (h1 : w2 1 2 = w 1 2) (h3 : w2 1 3 = w 1 3) (hb : ∀ b, 21 ≤ b → b ≤ 170 → w2 b = w b) : LogC w2 1 t P := by
  obtain ⟨⟨l3, l20, l21⟩, hl⟩ := h
  refine ⟨⟨by rw [h3]; exact l3, by rw [h1]; exact l20, by rw [h1]; exact l21⟩, fun i hi => ?_⟩
  rw [h1]
  exact (hl i hi).keep (fun b q1 q2 => hb b (by omega) (by omega))
theorem MFr.lc (F : MFr w w2) (h : LogC w 1 t P) : LogC w2 1 t P := h.keep (by rw [F.2 1 (by decide)]) (by rw [F.2 1 (by decide)]) (fun b q1 q2 => F.2 b (by omega))
theorem FrT.lc (F : FrT 2 w w2) (h : LogC w 1 t P) : LogC w2 1 t P := h.keep (by rw [F 1 (by omega) (by omega) (by omega)]) (by rw [F 1 (by omega) (by omega) (by omega)]) (fun b q1 q2 => F b (by omega) (by omega) (by omega))
theorem FrP.lm (F : FrP true w w2) (h : LogM w 394 t P) (hO : LogO t P N) : LogM w2 394 t P := by
  obtain ⟨l3, hl⟩ := h
  have := lgc_le t
  exact ⟨by rw [F.2.2 3 (by omega)]; exact l3, fun i hi => (hl i hi).keep (hO i hi) (fun k q0 q1 => F.2.2 _ (by omega)) (fun k q0 q1 => F.2.2 _ (by omega))⟩
/-- what a step needs -/
theorem Inv.abs (I : Inv w) : ∃ A N gv fl cd a VF VT t P, (AOk A N ∧ (0 ≤ N ∧ N ≤ 6) ∧ w 394 0 = N ∧ a = rulO (w 394 2) ∧ ScrC a) ∧ (CRep w 2 A ∧ MRep true w A) ∧ (CGst w N gv fl cd ∧ MGst w N gv fl cd) ∧ (CLaw w a VF VT ∧ MLaw w (w 394 2) VF VT) ∧ (LogC w 1 t P ∧ LogM w 394 t P ∧ LogO t P N ∧ t ≤ 30) := by
  obtain ⟨i1, i2, i3, i4, i5, i6, i7, i8, i9⟩ := I
  have W := i1
  obtain ⟨⟨c11, c12, c13⟩, c2, c3, c4, ⟨c51, c52, c53, c54, c55, c56⟩, ⟨c61, c62, c63, c64, c65⟩, -, -, -, -, -, cT, cP⟩ := i1
  obtain ⟨O, M⟩ := TRel.tab cT
  have e5 : rulO (w 394 2) = if w 394 2 = -1 then 388 else scrO (w 394 2) := rfl
  have hs : ScrC (rulO (w 394 2)) := by
    rw [e5]
    split
    · exact Or.inr (Or.inr (Or.inr (Or.inr rfl)))
    · unfold ScrC scrO; omega
  have hl : ∃ VF VT, CLaw w (rulO (w 394 2)) VF VT ∧ MLaw w (w 394 2) VF VT := by
    rw [e5]
    by_cases c : w 394 2 = -1
    · rw [if_pos c]; exact ⟨none, none, i5, Or.inl ⟨c, rfl, rfl⟩⟩
    · rw [if_neg c]
      exact (i4 (w 394 2) (by omega) c55).1
  obtain ⟨VF, VT, K1, K2⟩ := hl
  obtain ⟨t, ht⟩ := Int.eq_ofNat_of_zero_le c61
  have el : lgc t = t := by unfold lgc; omega
  have gb : ∀ x, 0 ≤ (if 0 ≤ x ∧ x < w 394 0 then w 394 (59 + x) else 0) ∧ (if 0 ≤ x ∧ x < w 394 0 then w 394 (59 + x) else 0) ≤ 9 := by
    intro x
    by_cases c : 0 ≤ x ∧ x < w 394 0
    · rw [if_pos c]; have := c2 x c.1 c.2; omega
    · rw [if_neg c]; decide
  refine ⟨tab w 2, w 394 0, fun x => if 0 ≤ x ∧ x < w 394 0 then w 394 (59 + x) else 0, fun x => w 394 (71 + x), fun x => w 394 (65 + x), rulO (w 394 2), VF, VT, t, fun i => tab w (21 + 5 * ((w 1 2 + (i : Int)) % 30).toNat), ⟨O, ⟨c11, c12⟩, rfl, rfl, hs⟩, ⟨tab_C, M.mrep i8⟩, ⟨⟨⟨c11, c12, c13⟩, fun x => ?_, gb, fun x x0 x1 => c4 x x0 x1, fun x x0 x1 => ?_⟩, ⟨⟨c11, c12, rfl⟩, fun x => rfl, gb, fun x x0 x1 => ⟨rfl, (c4 x x0 x1).2⟩, fun x x0 x1 => ?_⟩⟩, ⟨K1, K2⟩, ⟨⟨by rw [c63, ht, el], c64, c65⟩, fun i hi => ?_⟩, ⟨by rw [ht, el], fun i hi => ?_⟩, fun i hi => ?_, by omega⟩
  · dsimp only
    by_cases c : 0 ≤ x ∧ x < w 394 0
    · rw [if_pos c, if_pos c, (c2 x c.1 c.2).1]
    · rw [if_neg c, if_neg c]
  · have := c2 x x0 x1
    dsimp only
    rw [if_pos ⟨x0, x1⟩]
    omega
  · have := c2 x x0 x1
    dsimp only
    rw [if_pos ⟨x0, x1⟩]
    omega
  · rw [el, show t - t + i = i by omega]; exact tab_C
  · have := TRel.tab (cP (i : Int) (by omega) (by omega))
    rw [el, show t - t + i = i by omega]; exact this.2
  · have := TRel.tab (cP (i : Int) (by omega) (by omega))
    rw [el, show t - t + i = i by omega]; exact this.1
theorem Inv.step (I : Inv w) (hN : w 394 0 = N) (O : AOk A N) (C : CRep w2 2 A) (R : MRep true w2 A) (LC : LogC w2 1 t P) (LM : LogM w2 394 t P) (LO : LogO t P N) (F : StF w w2) : Inv w2 := by
  have i1 := I.1
  have hn6 := i1.1.2.1
  have hn0 := i1.1.1
  have hn : w2 394 0 = w 394 0 := F.2.2.2 0 (by omega)
  obtain ⟨c1, c2, c3, c4, c5, c6, c7, c8, c9, c10, c11, c12, c13⟩ := WRel.iff.mp i1.rel
  have k : ∀ j, 6 ≤ j → j < 20 → w2 (1 + j) = w (1 + j) := fun j _ _ => F.1 _ (by omega)
  have m : ∀ j, 59 ≤ j → j < 183 → w2 394 j = w 394 j := fun j _ _ => F.2.2.2 j (by omega)
  have lc := lgc_le t
  refine I.fr (WRel.now (WRel.iff.mpr ⟨c1.same (k 7 (by decide) (by decide)) hn, c2.same (k 8 (by decide) (by decide)) (k 9 (by decide) (by decide)) hn hn6 (fun j q1 q2 => m j (by omega) (by omega)), c3.same hn hn0 (fun j q1 q2 => m j (by omega) (by omega)), c4.same (k 10 (by decide) (by decide)) (fun j q1 q2 => m j (by omega) (by omega)), c5.same F.2.1.1 F.2.1.2 (F.2.2.2 1 (by omega)) (F.2.2.2 2 (by omega)), ?_, c7.same (k 11 (by decide) (by decide)) (k 12 (by decide) (by decide)) (F.2.2.2 4 (by omega)) (fun j q1 q2 => m j (by omega) (by omega)), c8.same (k 13 (by decide) (by decide)) (k 14 (by decide) (by decide)) (F.2.2.2 5 (by omega)) (fun j q1 q2 => m j (by omega) (by omega)), c9.same (k 15 (by decide) (by decide)) (k 16 (by decide) (by decide)) (F.2.2.2 6 (by omega)) (by rw [hn]; exact Int.le_refl _) (fun j q1 q2 => m j (by omega) (by omega)), c10.same (k 17 (by decide) (by decide)) (fun j q1 q2 => m j (by omega) (by omega)), c11.same (k 18 (by decide) (by decide)) (k 19 (by decide) (by decide)) (fun j q1 q2 => m j (by omega) (by omega)), ?_, ?_⟩)) ⟨fun a g => F.1 a (by omega), F.2.2.1 4 (by decide) (by decide), F.2.2.1 5 (by decide) (by decide), F.2.2.1 6 (by decide) (by decide), F.2.2.1 23 (by decide) (by decide), F.2.2.2 1 (by omega)⟩
  · obtain ⟨⟨l3, l20, l21⟩, -⟩ := LC
    have m3 := LM.1
    unfold WC6
    omega
  · unfold WC12
    rw [hn, hN]
    exact TRel.of C O R.mt
  · intro i i0 i1
    rw [LM.1] at i1
    obtain ⟨j, rfl⟩ := Int.eq_ofNat_of_zero_le i0
    rw [hn, hN]
    exact TRel.of (LC.2 j (by omega)) (LO j (by omega)) (LM.2 j (by omega))
end SF
section RU
variable {d L T o n : Nat} {w : Nat → Int → Int} {v : Nat → Nat → Int64}
theorem lay_scrs {j : Int} (h0 : 0 ≤ j) (h4 : j ≤ 4) : R0 o 351 (iI j).toNatClampNeg = some (scrO j) := by
  rw [iI_nat h0 (by omega)]
  rcases (show j = 0 ∨ j = 1 ∨ j = 2 ∨ j = 3 ∨ j = 4 by omega) with rfl | rfl | rfl | rfl | rfl <;> rfl
set_option maxHeartbeats 1000000 in
theorem c_ruling (I : WNow w) : am_call (d + 1) 138 [.ref 0] (L, T, S0 n, am_w w, v, R0 o) = some (some (.ref (rulO (w 394 2))), (L, T, S0 n, am_w w, v, R0 o)) := by
  obtain ⟨t0, t4, tc, r0, r1, rc⟩ := I.2.2.2.2.1
  by_cases g : w 394 2 = -1
  · have g2 : ¬ (0 ≤ w 394 2 ∧ w 394 2 < w 394 1) := by omega
    have hp := lay_scrs (o := o) (j := 4) (by decide) (by decide)
    have e : rulO (w 394 2) = scrO 4 := by unfold rulO; rw [if_pos g]; rfl
    rw [e]
    simp (decide := true) (disch := omega) only [en_138, bk_138_0, bk_138_28, bk_138_29, bq_138_0, bq_138_28, bq_138_29, rn_iconst, rn_bipush, rn_sipush, rn_ldc_w, rn_ldc, rn_ldcS, rn_lconst, rn_ldc2, rn_gets, rn_iload0, rn_lload0, rn_aload0, rn_istore0, rn_astore0, rn_lstore0, rn_iinc0, rn_iload1, rn_lload1, rn_aload1, rn_istore1, rn_astore1, rn_lstore1, rn_iinc1, rn_iload2, rn_lload2, rn_aload2, rn_istore2, rn_astore2, rn_lstore2, rn_iinc2, rn_iload3, rn_lload3, rn_aload3, rn_istore3, rn_astore3, rn_lstore3, rn_iinc3, rn_iload4, rn_lload4, rn_aload4, rn_istore4, rn_astore4, rn_lstore4, rn_iinc4, rn_iload5, rn_lload5, rn_aload5, rn_istore5, rn_astore5, rn_lstore5, rn_iinc5, rn_iload6, rn_lload6, rn_aload6, rn_istore6, rn_astore6, rn_lstore6, rn_iinc6, rn_iload7, rn_aload7, rn_istore7, rn_astore7, rn_iinc7, rn_iload8, rn_aload8, rn_istore8, rn_astore8, rn_iinc8, rn_iload9, rn_aload9, rn_istore9, rn_astore9, rn_iinc9, rn_iadd, rn_isub, rn_imul, rn_iand, rn_ior, rn_ixor, rn_ishl, rn_ishr, rn_iushr, rn_idiv, rn_irem, rn_ineg, rn_ladd, rn_lsub, rn_lmul, rn_lor, rn_ldiv, rn_lrem, rn_lneg, rn_lshl, rn_lshr, rn_i2l, rn_l2i, rn_i2c, rn_lcmp, rn_dupi, rn_dupa, rn_popi, rn_popa, rn_dup2, rn_aast, rn_alen, rn_geta, rn_aald, rn_puta, rn_new, rn_newa, rn_anew, rn_min, rn_max, rn_slen, rn_chat, rn_indx, rn_objI, rn_nop, rn_goto, rn_ifeq, rn_ifne, rn_iflt, rn_ifge, rn_ifgt, rn_ifle, rn_iceq, rn_icne, rn_iclt, rn_icge, rn_icgt, rn_icle, rn_tsw, rn_lsw, rn_iret, rn_zret, rn_lret, rn_aret, rn_vret, rn_cs0, rn_cs1, rn_cs2, rn_cs3, rn_cs4, rn_cs5, rn_cs6, rn_cs7, rn_cv1, rn_ci1, rn_cv2, rn_ci2, rn_cv3, rn_ci3, rn_cv4, rn_cv5, rn_cv6, rn_cv7, cs_n, cs_i, cs_a, cs_l, rc_i, rc_a, rc_l, rc_n, rw_iald, rw_bald, rw_lald, rw_iast, rw_bast, rw_last, rw_geti, rw_getl, rw_puti, rw_putz, rw_putl, iI_add, iI_sub, iI_mul, iI_neg, iI_lt, iI_le, iI_eq, iI_lt0, iI_le0, iI_0lt, iI_0le, iI_eq0, iI_eq1, iI_div, iI_rem, am_in_ok, am_in_no, iI_toInt, iL_add, iL_sub, iL_mul, iL_neg, iL_div, iL_rem, iI_i2l, iL_l2i, iL_cmp, iL_eq0, iI_or, iI_and, iI_shl, if_true, if_false, true_or, or_true, true_and, and_true, false_or, or_false, not_true_eq_false, not_false_eq_true, Option.bind_some, Option.toList_some, Option.toList_none, List.nil_append, List.cons_append, ite_self, nc_0, nc_1, nc_2, nc_3, nc_4, nc_5, nc_6, nc_7, nc_8, nc_9, nc_10, nc_11, nc_12, nc_13, nc_14, nc_15, nc_16, nc_17, nc_18, nc_19, nc_20, nc_21, nc_22, nc_23, nc_24, nc_25, nc_26, nc_27, nc_28, nc_29, nc_30, nc_31, nc_32, nc_33, nc_34, nc_35, nc_36, nc_40, nc_48, nc_100, nc_256, nc_300, nc_304, sh_0, rf_0_0, rf_0_1, rf_0_2, rf_0_3, rf_0_4, rf_0_5, rf_0_6, rf_0_7, rf_0_8, sh_1, rf_1_0, rf_1_1, rf_1_4, rf_1_7, rf_1_8, rf_1_9, rf_1_10, rf_1_11, rf_1_12, sh_351, c_isText, mx_135, tc, rc, bI_f g2, hp, if_pos, if_neg, sh_0, sh_393, rw_copy, am_cp_ok]
  · have g2 : 0 ≤ w 394 2 ∧ w 394 2 < w 394 1 := by omega
    have hp := lay_scrs (o := o) (j := w 394 2) (by omega) (by omega)
    have e : rulO (w 394 2) = scrO (w 394 2) := by unfold rulO; rw [if_neg g]
    rw [e]
    simp (decide := true) (disch := omega) only [en_138, bk_138_0, bk_138_28, bk_138_29, bq_138_0, bq_138_28, bq_138_29, rn_iconst, rn_bipush, rn_sipush, rn_ldc_w, rn_ldc, rn_ldcS, rn_lconst, rn_ldc2, rn_gets, rn_iload0, rn_lload0, rn_aload0, rn_istore0, rn_astore0, rn_lstore0, rn_iinc0, rn_iload1, rn_lload1, rn_aload1, rn_istore1, rn_astore1, rn_lstore1, rn_iinc1, rn_iload2, rn_lload2, rn_aload2, rn_istore2, rn_astore2, rn_lstore2, rn_iinc2, rn_iload3, rn_lload3, rn_aload3, rn_istore3, rn_astore3, rn_lstore3, rn_iinc3, rn_iload4, rn_lload4, rn_aload4, rn_istore4, rn_astore4, rn_lstore4, rn_iinc4, rn_iload5, rn_lload5, rn_aload5, rn_istore5, rn_astore5, rn_lstore5, rn_iinc5, rn_iload6, rn_lload6, rn_aload6, rn_istore6, rn_astore6, rn_lstore6, rn_iinc6, rn_iload7, rn_aload7, rn_istore7, rn_astore7, rn_iinc7, rn_iload8, rn_aload8, rn_istore8, rn_astore8, rn_iinc8, rn_iload9, rn_aload9, rn_istore9, rn_astore9, rn_iinc9, rn_iadd, rn_isub, rn_imul, rn_iand, rn_ior, rn_ixor, rn_ishl, rn_ishr, rn_iushr, rn_idiv, rn_irem, rn_ineg, rn_ladd, rn_lsub, rn_lmul, rn_lor, rn_ldiv, rn_lrem, rn_lneg, rn_lshl, rn_lshr, rn_i2l, rn_l2i, rn_i2c, rn_lcmp, rn_dupi, rn_dupa, rn_popi, rn_popa, rn_dup2, rn_aast, rn_alen, rn_geta, rn_aald, rn_puta, rn_new, rn_newa, rn_anew, rn_min, rn_max, rn_slen, rn_chat, rn_indx, rn_objI, rn_nop, rn_goto, rn_ifeq, rn_ifne, rn_iflt, rn_ifge, rn_ifgt, rn_ifle, rn_iceq, rn_icne, rn_iclt, rn_icge, rn_icgt, rn_icle, rn_tsw, rn_lsw, rn_iret, rn_zret, rn_lret, rn_aret, rn_vret, rn_cs0, rn_cs1, rn_cs2, rn_cs3, rn_cs4, rn_cs5, rn_cs6, rn_cs7, rn_cv1, rn_ci1, rn_cv2, rn_ci2, rn_cv3, rn_ci3, rn_cv4, rn_cv5, rn_cv6, rn_cv7, cs_n, cs_i, cs_a, cs_l, rc_i, rc_a, rc_l, rc_n, rw_iald, rw_bald, rw_lald, rw_iast, rw_bast, rw_last, rw_geti, rw_getl, rw_puti, rw_putz, rw_putl, iI_add, iI_sub, iI_mul, iI_neg, iI_lt, iI_le, iI_eq, iI_lt0, iI_le0, iI_0lt, iI_0le, iI_eq0, iI_eq1, iI_div, iI_rem, am_in_ok, am_in_no, iI_toInt, iL_add, iL_sub, iL_mul, iL_neg, iL_div, iL_rem, iI_i2l, iL_l2i, iL_cmp, iL_eq0, iI_or, iI_and, iI_shl, if_true, if_false, true_or, or_true, true_and, and_true, false_or, or_false, not_true_eq_false, not_false_eq_true, Option.bind_some, Option.toList_some, Option.toList_none, List.nil_append, List.cons_append, ite_self, nc_0, nc_1, nc_2, nc_3, nc_4, nc_5, nc_6, nc_7, nc_8, nc_9, nc_10, nc_11, nc_12, nc_13, nc_14, nc_15, nc_16, nc_17, nc_18, nc_19, nc_20, nc_21, nc_22, nc_23, nc_24, nc_25, nc_26, nc_27, nc_28, nc_29, nc_30, nc_31, nc_32, nc_33, nc_34, nc_35, nc_36, nc_40, nc_48, nc_100, nc_256, nc_300, nc_304, sh_0, rf_0_0, rf_0_1, rf_0_2, rf_0_3, rf_0_4, rf_0_5, rf_0_6, rf_0_7, rf_0_8, sh_1, rf_1_0, rf_1_1, rf_1_4, rf_1_7, rf_1_8, rf_1_9, rf_1_10, rf_1_11, rf_1_12, sh_351, c_isText, mx_135, tc, rc, bI_t g2, hp, if_pos, if_neg, sh_0, sh_393, rw_copy, am_cp_ok]
end RU
