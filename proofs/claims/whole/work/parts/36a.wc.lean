/-! the components of WRel, and how each stays -/
def WC1 (w : Nat → Int → Int) (b m : Nat) : Prop := (0 ≤ w m 0 ∧ w m 0 ≤ 6 ∧ w (b + 7) 0 = w m 0)
def WC2 (w : Nat → Int → Int) (b m : Nat) : Prop := (∀ d, 0 ≤ d → d < w m 0 → w (b + 8) d = w m (59 + d) ∧ 1 ≤ w m (59 + d) ∧ w m (59 + d) ≤ 9 ∧ w (b + 9) d = w m (65 + d) ∧ -1 ≤ w m (65 + d) ∧ w m (65 + d) ≤ 7)
def WC3 (w : Nat → Int → Int) (b m : Nat) : Prop := (∀ d, w m 0 ≤ d → d < 6 → w m (65 + d) = -1)
def WC4 (w : Nat → Int → Int) (b m : Nat) : Prop := (∀ d, 0 ≤ d → d < 36 → w (b + 10) d = w m (71 + d) ∧ -9 ≤ w m (71 + d) ∧ w m (71 + d) ≤ 9)
def WC5 (w : Nat → Int → Int) (b m : Nat) : Prop := (0 ≤ w m 1 ∧ w m 1 ≤ 4 ∧ w b 5 = w m 1 ∧ -1 ≤ w m 2 ∧ w m 2 < w m 1 ∧ w b 6 = w m 2)
def WC6 (w : Nat → Int → Int) (b m : Nat) : Prop := (0 ≤ w m 3 ∧ w m 3 ≤ 30 ∧ w b 3 = w m 3 ∧ 0 ≤ w b 2 ∧ w b 2 ≤ 29)
def WC7 (w : Nat → Int → Int) (b m : Nat) : Prop := (0 ≤ w m 4 ∧ w m 4 ≤ 6 ∧ w (b + 11) 2 = w m 4 ∧ w (b + 11) 0 = 6 ∧ ∀ i, 0 ≤ i → i < w m 4 → w (b + 12) (i * 3) = w m (107 + 2 * i) ∧ w (b + 12) (i * 3 + 1) = w m (107 + 2 * i + 1) ∧ 0 ≤ w m (107 + 2 * i) ∧ w m (107 + 2 * i) ≤ 4 ∧ -1 ≤ w m (107 + 2 * i + 1) ∧ w m (107 + 2 * i + 1) ≤ 5)
def WC8 (w : Nat → Int → Int) (b m : Nat) : Prop := (0 ≤ w m 5 ∧ w m 5 ≤ 8 ∧ w (b + 13) 2 = w m 5 ∧ w (b + 13) 0 = 8 ∧ ∀ i, 0 ≤ i → i < w m 5 → w (b + 14) (i * 3) = w m (119 + 2 * i) ∧ w (b + 14) (i * 3 + 1) = w m (119 + 2 * i + 1) ∧ 0 ≤ w m (119 + 2 * i) ∧ w m (119 + 2 * i) ≤ 63 ∧ 0 ≤ w m (119 + 2 * i + 1) ∧ w m (119 + 2 * i + 1) ≤ 1)
def WC9 (w : Nat → Int → Int) (b m : Nat) : Prop := (0 ≤ w m 6 ∧ w m 6 ≤ 8 ∧ w (b + 15) 2 = w m 6 ∧ w (b + 15) 0 = 8 ∧ ∀ i, 0 ≤ i → i < w m 6 → w (b + 16) (i * 3) = w m (159 + 3 * i) ∧ w (b + 16) (i * 3 + 1) = w m (159 + 3 * i + 1) ∧ w (b + 16) (i * 3 + 2) = w m (159 + 3 * i + 2) ∧ 0 ≤ w m (159 + 3 * i) ∧ w m (159 + 3 * i) < w m 0 ∧ 0 ≤ w m (159 + 3 * i + 1) ∧ w m (159 + 3 * i + 1) ≤ 7 ∧ -999 ≤ w m (159 + 3 * i + 2) ∧ w m (159 + 3 * i + 2) ≤ 999)
def WC10 (w : Nat → Int → Int) (b m : Nat) : Prop := (∀ h, 0 ≤ h → h < 8 → w (b + 17) h = w m (135 + h) ∧ 0 ≤ w m (135 + h) ∧ w m (135 + h) ≤ 7)
def WC11 (w : Nat → Int → Int) (b m : Nat) : Prop := (∀ s, 0 ≤ s → s < 8 → w (b + 18) s = w m (143 + 2 * s) ∧ w (b + 19) s = w m (143 + 2 * s + 1) ∧ 0 ≤ w m (143 + 2 * s) ∧ w m (143 + 2 * s) ≤ 99 ∧ 0 ≤ w m (143 + 2 * s + 1) ∧ w m (143 + 2 * s + 1) ≤ 99)
def WC12 (w : Nat → Int → Int) (b m : Nat) : Prop := TRel w (b + 1) (fun k => w m (7 + k)) (fun k => w m (2493 + k)) (w m 0)
def WC13 (w : Nat → Int → Int) (b m : Nat) : Prop := (∀ i, 0 ≤ i → i < w m 3 → TRel w (b + 20 + 5 * ((w b 2 + i) % 30).toNat) (fun k => w m (183 + 77 * i + k)) (fun k => w m (183 + 77 * i + 52 + k)) (w m 0))
theorem WRel.iff {w : Nat → Int → Int} {b m : Nat} : WRel w b m ↔ WC1 w b m ∧ WC2 w b m ∧ WC3 w b m ∧ WC4 w b m ∧ WC5 w b m ∧ WC6 w b m ∧ WC7 w b m ∧ WC8 w b m ∧ WC9 w b m ∧ WC10 w b m ∧ WC11 w b m ∧ WC12 w b m ∧ WC13 w b m := Iff.rfl
theorem WC1.same {w w' : Nat → Int → Int} {b m : Nat} (h : WC1 w b m) (c7 : w' (b + 7) = w (b + 7)) (m0 : w' m 0 = w m 0) : WC1 w' b m := by
  unfold WC1 at h ⊢
  rw [c7, m0]
  exact h
theorem WC2.same {w w' : Nat → Int → Int} {b m : Nat} (h : WC2 w b m) (c8 : w' (b + 8) = w (b + 8)) (c9 : w' (b + 9) = w (b + 9)) (m0 : w' m 0 = w m 0) (hle : w m 0 ≤ 6) (m59 : ∀ k, 59 ≤ k → k < 71 → w' m k = w m k) : WC2 w' b m := by
  unfold WC2 at h ⊢
  obtain hn := h
  rw [m0, c8, c9]
  intro d h0 h1
  by_cases hd : d < 6
  · rw [m59 (59 + d) (by omega) (by omega), m59 (65 + d) (by omega) (by omega)]
    exact h d h0 h1
  · exact absurd h1 (by have := hle; omega)
theorem WC3.same {w w' : Nat → Int → Int} {b m : Nat} (h : WC3 w b m) (m0 : w' m 0 = w m 0) (hle : 0 ≤ w m 0) (m65 : ∀ k, 65 ≤ k → k < 71 → w' m k = w m k) : WC3 w' b m := by
  unfold WC3 at h ⊢
  rw [m0]
  intro d h0 h1
  rw [m65 (65 + d) (by omega) (by omega)]
  exact h d h0 h1
theorem WC4.same {w w' : Nat → Int → Int} {b m : Nat} (h : WC4 w b m) (c10 : w' (b + 10) = w (b + 10)) (m71 : ∀ k, 71 ≤ k → k < 107 → w' m k = w m k) : WC4 w' b m := by
  unfold WC4 at h ⊢
  rw [c10]
  intro d h0 h1
  rw [m71 (71 + d) (by omega) (by omega)]
  exact h d h0 h1
theorem WC5.same {w w' : Nat → Int → Int} {b m : Nat} (h : WC5 w b m) (b5 : w' b 5 = w b 5) (b6 : w' b 6 = w b 6) (m1 : w' m 1 = w m 1) (m2 : w' m 2 = w m 2) : WC5 w' b m := by
  unfold WC5 at h ⊢
  rw [m1, m2, b5, b6]
  exact h
theorem WC6.same {w w' : Nat → Int → Int} {b m : Nat} (h : WC6 w b m) (b2 : w' b 2 = w b 2) (b3 : w' b 3 = w b 3) (m3 : w' m 3 = w m 3) : WC6 w' b m := by
  unfold WC6 at h ⊢
  rw [m3, b2, b3]
  exact h
theorem WC7.same {w w' : Nat → Int → Int} {b m : Nat} (h : WC7 w b m) (c11 : w' (b + 11) = w (b + 11)) (c12 : w' (b + 12) = w (b + 12)) (m4 : w' m 4 = w m 4) (m107 : ∀ k, 107 ≤ k → k < 119 → w' m k = w m k) : WC7 w' b m := by
  unfold WC7 at h ⊢
  rw [m4, c11, c12]
  obtain ⟨h1, h2, h3, h4, h5⟩ := h
  refine ⟨h1, h2, h3, h4, fun i a e => ?_⟩
  rw [m107 (107 + 2 * i) (by omega) (by omega), m107 (107 + 2 * i + 1) (by omega) (by omega)]
  exact h5 i a e
theorem WC8.same {w w' : Nat → Int → Int} {b m : Nat} (h : WC8 w b m) (c13 : w' (b + 13) = w (b + 13)) (c14 : w' (b + 14) = w (b + 14)) (m5 : w' m 5 = w m 5) (m119 : ∀ k, 119 ≤ k → k < 135 → w' m k = w m k) : WC8 w' b m := by
  unfold WC8 at h ⊢
  rw [m5, c13, c14]
  obtain ⟨h1, h2, h3, h4, h5⟩ := h
  refine ⟨h1, h2, h3, h4, fun i a e => ?_⟩
  rw [m119 (119 + 2 * i) (by omega) (by omega), m119 (119 + 2 * i + 1) (by omega) (by omega)]
  exact h5 i a e
theorem WC9.same {w w' : Nat → Int → Int} {b m : Nat} (h : WC9 w b m) (c15 : w' (b + 15) = w (b + 15)) (c16 : w' (b + 16) = w (b + 16)) (m6 : w' m 6 = w m 6) (hle : w m 0 ≤ w' m 0) (m159 : ∀ k, 159 ≤ k → k < 183 → w' m k = w m k) : WC9 w' b m := by
  unfold WC9 at h ⊢
  rw [m6, c15, c16]
  obtain ⟨h1, h2, h3, h4, h5⟩ := h
  refine ⟨h1, h2, h3, h4, fun i a e => ?_⟩
  rw [m159 (159 + 3 * i) (by omega) (by omega), m159 (159 + 3 * i + 1) (by omega) (by omega), m159 (159 + 3 * i + 2) (by omega) (by omega)]
  have := h5 i a e
  omega
theorem WC10.same {w w' : Nat → Int → Int} {b m : Nat} (h : WC10 w b m) (c17 : w' (b + 17) = w (b + 17)) (m135 : ∀ k, 135 ≤ k → k < 143 → w' m k = w m k) : WC10 w' b m := by
  unfold WC10 at h ⊢
  rw [c17]
  intro d h0 h1
  rw [m135 (135 + d) (by omega) (by omega)]
  exact h d h0 h1
theorem WC11.same {w w' : Nat → Int → Int} {b m : Nat} (h : WC11 w b m) (c18 : w' (b + 18) = w (b + 18)) (c19 : w' (b + 19) = w (b + 19)) (m143 : ∀ k, 143 ≤ k → k < 159 → w' m k = w m k) : WC11 w' b m := by
  unfold WC11 at h ⊢
  rw [c18, c19]
  intro d h0 h1
  rw [m143 (143 + 2 * d) (by omega) (by omega), m143 (143 + 2 * d + 1) (by omega) (by omega)]
  exact h d h0 h1
theorem WC12.same {w w' : Nat → Int → Int} {b m : Nat} (h : WC12 w b m) (cT : ∀ a, b + 1 ≤ a → a ≤ b + 5 → w' a = w a) (hle : w m 0 ≤ w' m 0) (m7 : ∀ k, 7 ≤ k → k < 59 → w' m k = w m k) (m2493 : ∀ k, 2493 ≤ k → k < 2518 → w' m k = w m k) : WC12 w' b m :=
  TRel.same h (fun a h1 h2 => cT a h1 (by omega)) (fun k h1 h2 => m7 (7 + k) (by omega) (by omega)) (fun k h1 h2 => m2493 (2493 + k) (by omega) (by omega)) hle
theorem WC13.same {w w' : Nat → Int → Int} {b m : Nat} (h : WC13 w b m) (h6 : WC6 w b m) (cP : ∀ a, b + 20 ≤ a → a < b + 170 → w' a = w a) (b2 : w' b 2 = w b 2) (m3 : w' m 3 = w m 3) (hle : w m 0 ≤ w' m 0) (m183 : ∀ k, 183 ≤ k → k < 2493 → w' m k = w m k) : WC13 w' b m := by
  unfold WC13 at h ⊢
  rw [m3, b2]
  intro i h0 h1
  have hs := h6.2.1
  have hp : ((w b 2 + i) % 30).toNat < 30 := by omega
  exact TRel.same (h i h0 h1) (fun a g1 g2 => cP a (by omega) (by omega)) (fun k g1 g2 => m183 (183 + 77 * i + k) (by omega) (by omega)) (fun k g1 g2 => m183 (183 + 77 * i + 52 + k) (by omega) (by omega)) hle
