theorem upI_s {w : Nat → Int → Int} {a : Nat} {e z : Int} : upI w a e z a e = z := by unfold upI; rw [if_pos ⟨rfl, rfl⟩]
theorem upI_1 {w : Nat → Int → Int} {a a' : Nat} {e z e' : Int} (h : a' ≠ a) : upI w a e z a' e' = w a' e' := by unfold upI; rw [if_neg (fun q => h q.1)]
theorem upI_2 {w : Nat → Int → Int} {a : Nat} {e z e' : Int} (h : e' ≠ e) : upI w a e z a e' = w a e' := by unfold upI; rw [if_neg (fun q => h q.2)]
theorem upI_c {w : Nat → Int → Int} {a a' : Nat} {e z : Int} (h : a' ≠ a) : upI w a e z a' = w a' := by funext k; exact upI_1 h
theorem TRel.same {w w' : Nat → Int → Int} {t : Nat} {f f' g g' : Int → Int} {n n' : Int} (h : TRel w t f g n) (hc : ∀ a, t ≤ a → a ≤ t + 4 → w' a = w a) (hf : ∀ k, 0 ≤ k → k < 52 → f' k = f k) (hg : ∀ k, 0 ≤ k → k < 25 → g' k = g k) (hn : n ≤ n') : TRel w' t f' g' n' := by
  obtain ⟨h1, h2, h3, h4, h5⟩ := h
  have c0 := hc t (by omega) (by omega)
  have c1 := hc (t + 1) (by omega) (by omega)
  have c2 := hc (t + 2) (by omega) (by omega)
  have c3 := hc (t + 3) (by omega) (by omega)
  have c4 := hc (t + 4) (by omega) (by omega)
  have f0 := hf 0 (by decide) (by decide)
  have f1 := hf 1 (by decide) (by decide)
  have f2 := hf 2 (by decide) (by decide)
  have f3 := hf 3 (by decide) (by decide)
  refine ⟨?_, ?_, fun s a b => ?_, fun s i a b c e => ?_, fun i a b => ?_⟩
  · rw [c0, f0, f1, f2, f3]; exact h1
  · rw [f0, f1, f2, f3]; exact h2
  · rw [c3, hf (4 + s) (by omega) (by omega)]; exact h3 s a b
  · rw [hf (4 + s) (by omega) (by omega)] at e
    have k := h4 s i a b c e
    have k2 := h3 s a b
    unfold LRel at k ⊢
    rw [c1, c2, hf (4 + s) (by omega) (by omega), hf (12 + 5 * s + i) (by omega) (by omega)]
    omega
  · rw [f3] at b
    have k := h5 i a b
    unfold BRel at k ⊢
    rw [c4, hg i a (by omega)]
    exact k
