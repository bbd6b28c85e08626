abbrev JT : Type := Option Value × Option Value × Option Value
def CSeg (z : Int) (c : Int → Int) (i j : Int) (V : LEnv → Int) : Prop := (0 ≤ i ∧ i < j ∧ ∀ E, EOk E → -1000000 ≤ V E ∧ V E ≤ 1000000) ∧ ∀ (d L T o n a t : Nat) (v : Nat → Nat → Int64) (w : Nat → Int → Int) (E : LEnv) (fr to N : Int) (jj : JT), ScrC a → (t = 2 ∨ t = 341) → EOk E → CEnv z w t E → (∀ k, i ≤ k → k < j → w (a + 1) k = c k) → j ≤ w a 1 → w a 1 ≤ 300 → j ≤ to → to ≤ 300 → 2 ≤ N → N + (j - i) ≤ 303 → ∃ w2 j2, cHd d L T o n v a t fr to N i jj w = cHd d L T o n v a t fr to (N + 1) j j2 w2 ∧ w2 361 N = V E ∧ (∀ k, k < N → w2 361 k = w 361 k) ∧ (∀ b, b ≠ 361 → w2 b = w b)
theorem bI_01 {b : Bool} : 0 ≤ bI (b = true) ∧ bI (b = true) ≤ 1 := by cases b <;> decide
section CG
variable {z i j k g p : Int} {c c2 : Int → Int} {V V1 V2 : LEnv → Int} {B B1 B2 : LEnv → Bool}
theorem ScrC.ne {a : Nat} (h : ScrC a) : a ≠ 361 ∧ a + 1 ≠ 361 := by rcases h with rfl | rfl | rfl | rfl | rfl <;> decide
theorem CSeg.congr (H : CSeg z c i j V) (h : ∀ k, i ≤ k → k < j → c2 k = c k) : CSeg z c2 i j V :=
  ⟨H.1, fun d L T o n a t v w E fr to N jj ha ht hE hC hc h1 h2 h3 h4 h5 h6 => H.2 d L T o n a t v w E fr to N jj ha ht hE hC (fun k a b => (hc k a b).trans (h k a b)) h1 h2 h3 h4 h5 h6⟩
theorem CSeg.num (i0 : 0 ≤ i) (hc : c i = 38 + 64 * g) (g0 : 0 ≤ g) (g1 : g ≤ 9999) : CSeg z c i (i + 1) (fun _ => g) := by
  refine ⟨⟨i0, by omega, fun E _ => by dsimp only; omega⟩, fun d L T o n a t v w E fr to N jj ha ht hE hC hw h1 h2 h3 h4 h5 h6 => ?_⟩
  have hf : FOp w a i 38 g := ⟨i0, by omega, h2, by rw [hw i (by omega) (by omega)]; exact hc, by decide, by decide, g0, by omega⟩
  obtain ⟨j2, e⟩ := cs_num (d := d) (L := L) (T := T) (o := o) (n := n) (v := v) (t := t) (fr := fr) (to := to) (N := N) (jj := jj) ha hf (by omega) h4 h5 (by omega)
  exact ⟨_, j2, e, upI_s, fun k hk => upI_2 (by omega), fun b hb => upI_c hb⟩
theorem CSeg.name (i0 : 0 ≤ i) (hk : allow z k) (hc : c i = cnm k) : CSeg z c i (i + 1) (fun E => E.1 k) := by
  have hk2 : 0 ≤ k ∧ k < 8 := by unfold allow at hk; omega
  have hk3 : 0 ≤ cnm k ∧ cnm k < 64 := by unfold cnm; split; omega; split; omega; split <;> omega
  refine ⟨⟨i0, by omega, fun E hE => by have := hE.1 k hk2.1 hk2.2; dsimp only; omega⟩, fun d L T o n a t v w E fr to N jj ha ht hE hC hw h1 h2 h3 h4 h5 h6 => ?_⟩
  have hf : FOp w a i (cnm k) 0 := ⟨i0, by omega, h2, by rw [hw i (by omega) (by omega), hc]; omega, hk3.1, hk3.2, by decide, by decide⟩
  obtain ⟨j2, e⟩ := cs_name (d := d) (L := L) (T := T) (o := o) (n := n) (v := v) (t := t) (fr := fr) (to := to) (N := N) (jj := jj) ha hk hC hf (by omega) h4 h5 (by omega)
  exact ⟨_, j2, e, upI_s, fun k hk => upI_2 (by omega), fun b hb => upI_c hb⟩
theorem uno_bd {E : LEnv} {x : Int} (hE : EOk E) (hp : p = 41 ∨ p = 10 ∨ p = 11) (x0 : -1000000 ≤ x) (x1 : x ≤ 1000000) : -1000000 ≤ uno p E x ∧ uno p E x ≤ 1000000 := by
  have h1 := hE.2.1 x
  have h2 := hE.2.2 x
  unfold uno
  split
  · omega
  · split <;> omega
theorem CSeg.uno (H : CSeg z c i j V) (hp : p = 41 ∨ p = 10 ∨ p = 11) (hc : c j = p) : CSeg z c i (j + 1) (fun E => uno p E (V E)) := by
  obtain ⟨⟨i0, i1, hV⟩, H⟩ := H
  refine ⟨⟨i0, by omega, fun E hE => uno_bd hE hp (hV E hE).1 (hV E hE).2⟩, fun d L T o n a t v w E fr to N jj ha ht hE hC hw h1 h2 h3 h4 h5 h6 => ?_⟩
  obtain ⟨w2, j2, e2, v2, k2, b2⟩ := H d L T o n a t v w E fr to N jj ha ht hE hC (fun k q1 q2 => hw k q1 (by omega)) (by omega) h2 (by omega) h4 h5 (by omega)
  have n1 := ha.ne
  have hf : FOp w2 a j p 0 := ⟨by omega, by rw [b2 a n1.1]; omega, by rw [b2 a n1.1]; exact h2, by rw [b2 (a + 1) n1.2, hw j (by omega) (by omega), hc]; omega, by omega, by omega, by decide, by decide⟩
  have hV := hV E hE
  obtain ⟨j3, e3⟩ := cs_uno (d := d) (L := L) (T := T) (o := o) (n := n) (v := v) (t := t) (fr := fr) (to := to) (N := N + 1) (jj := j2) (x := V E) ha ht hp (hC.keep ht b2) hf (by omega) h4 (by omega) (by omega) (by rw [show N + 1 - 1 = N by omega]; exact v2) hV.1 hV.2
  rw [show N + 1 - 1 = N by omega] at e3
  exact ⟨_, j3, e2.trans e3, upI_s, fun k hk => by rw [upI_2 (by omega)]; exact k2 k hk, fun b hb => by rw [upI_c hb]; exact b2 b hb⟩
theorem CSeg.not (H : CSeg z c i j (fun E => bI (B E = true))) (hc : c j = 18) : CSeg z c i (j + 1) (fun E => bI ((!B E) = true)) := by
  obtain ⟨⟨i0, i1, hV⟩, H⟩ := H
  refine ⟨⟨i0, by omega, fun E hE => by have := bI_01 (b := !B E); dsimp only; omega⟩, fun d L T o n a t v w E fr to N jj ha ht hE hC hw h1 h2 h3 h4 h5 h6 => ?_⟩
  obtain ⟨w2, j2, e2, v2, k2, b2⟩ := H d L T o n a t v w E fr to N jj ha ht hE hC (fun k q1 q2 => hw k q1 (by omega)) (by omega) h2 (by omega) h4 h5 (by omega)
  have n1 := ha.ne
  have hf : FOp w2 a j 18 0 := ⟨by omega, by rw [b2 a n1.1]; omega, by rw [b2 a n1.1]; exact h2, by rw [b2 (a + 1) n1.2, hw j (by omega) (by omega), hc]; omega, by omega, by omega, by decide, by decide⟩
  obtain ⟨j3, e3⟩ := cs_not (d := d) (L := L) (T := T) (o := o) (n := n) (v := v) (t := t) (fr := fr) (to := to) (N := N + 1) (jj := j2) (b := B E) ha hf (by omega) h4 (by omega) (by omega) (by rw [show N + 1 - 1 = N by omega]; exact v2)
  rw [show N + 1 - 1 = N by omega] at e3
  exact ⟨_, j3, e2.trans e3, upI_s, fun k hk => by rw [upI_2 (by omega)]; exact k2 k hk, fun b hb => by rw [upI_c hb]; exact b2 b hb⟩
/-- two pieces of code behind each other, then a sign of two -/
theorem CSeg.pair {W : LEnv → Int} (H1 : CSeg z c i j V1) (H2 : CSeg z c j k V2) (hp0 : 0 ≤ p) (hp1 : p < 64) (hc : c k = p) (hW : ∀ E, EOk E → -1000000 ≤ W E ∧ W E ≤ 1000000)
    (hs : ∀ (d L T o n a t : Nat) (v : Nat → Nat → Int64) (w : Nat → Int → Int) (E : LEnv) (fr to N : Int) (jj : JT), EOk E → ScrC a → FOp w a k p 0 → k < to → to ≤ 300 → 3 ≤ N → N ≤ 303 → w 361 (N - 2) = V1 E → w 361 (N - 1) = V2 E → ∃ j2, cHd d L T o n v a t fr to N k jj w = cHd d L T o n v a t fr to (N - 1) (k + 1) j2 (upI w 361 (N - 2) (W E))) : CSeg z c i (k + 1) W := by
  obtain ⟨⟨i0, i1, hV1⟩, H1⟩ := H1
  obtain ⟨⟨_, i2, hV2⟩, H2⟩ := H2
  refine ⟨⟨i0, by omega, hW⟩, fun d L T o n a t v w E fr to N jj ha ht hE hC hw h1 h2 h3 h4 h5 h6 => ?_⟩
  have n1 := ha.ne
  obtain ⟨w2, j2, e2, v2, k2, b2⟩ := H1 d L T o n a t v w E fr to N jj ha ht hE hC (fun k q1 q2 => hw k q1 (by omega)) (by omega) h2 (by omega) h4 h5 (by omega)
  obtain ⟨w3, j3, e3, v3, k3, b3⟩ := H2 d L T o n a t v w2 E fr to (N + 1) j2 ha ht hE (hC.keep ht b2) (fun k q1 q2 => by rw [b2 (a + 1) n1.2]; exact hw k (by omega) (by omega)) (by rw [b2 a n1.1]; omega) (by rw [b2 a n1.1]; exact h2) (by omega) h4 (by omega) (by omega)
  have hf : FOp w3 a k p 0 := ⟨by omega, by rw [b3 a n1.1, b2 a n1.1]; omega, by rw [b3 a n1.1, b2 a n1.1]; exact h2, by rw [b3 (a + 1) n1.2, b2 (a + 1) n1.2, hw k (by omega) (by omega), hc]; omega, hp0, hp1, by decide, by decide⟩
  obtain ⟨j4, e4⟩ := hs d L T o n a t v w3 E fr to (N + 1 + 1) j3 hE ha hf (by omega) h4 (by omega) (by omega) (by rw [show N + 1 + 1 - 2 = N by omega, k3 N (by omega)]; exact v2) (by rw [show N + 1 + 1 - 1 = N + 1 by omega]; exact v3)
  rw [show N + 1 + 1 - 1 = N + 1 by omega, show N + 1 + 1 - 2 = N by omega] at e4
  exact ⟨_, j4, e2.trans (e3.trans e4), upI_s, fun k hk => by rw [upI_2 (by omega), k3 k (by omega)]; exact k2 k hk, fun b hb => by rw [upI_c hb, b3 b hb]; exact b2 b hb⟩
theorem CSeg.two (H1 : CSeg z c i j V1) (H2 : CSeg z c j k V2) (hp : p = 25 ∨ p = 26 ∨ p = 27 ∨ p = 28) (hc : c k = p) : CSeg z c i (k + 1) (fun E => two p (V1 E) (V2 E)) :=
  H1.pair H2 (by omega) (by omega) hc (fun E _ => two_bd) (fun d L T o n a t v w E fr to N jj hE ha hf h1 h2 h3 h4 hx hy => cs_two ha hp hf h1 h2 h3 h4 hx hy (H1.1.2.2 E hE).1 (H1.1.2.2 E hE).2 (H2.1.2.2 E hE).1 (H2.1.2.2 E hE).2)
theorem CSeg.cmp (H1 : CSeg z c i j V1) (H2 : CSeg z c j k V2) (hp : p = 31 ∨ p = 36 ∨ p = 32 ∨ p = 37 ∨ p = 33 ∨ p = 34) (hc : c k = p) : CSeg z c i (k + 1) (fun E => bI (cmpB p (V1 E) (V2 E) = true)) :=
  H1.pair H2 (by omega) (by omega) hc (fun E _ => by have := bI_01 (b := cmpB p (V1 E) (V2 E)); omega) (fun d L T o n a t v w E fr to N jj hE ha hf h1 h2 h3 h4 hx hy => cs_hold ha (by omega) hf h1 h2 h3 h4 hx hy (H1.1.2.2 E hE).1 (H1.1.2.2 E hE).2 (H2.1.2.2 E hE).1 (H2.1.2.2 E hE).2 (c_holds hp (H1.1.2.2 E hE).1 (H1.1.2.2 E hE).2 (H2.1.2.2 E hE).1 (H2.1.2.2 E hE).2))
theorem CSeg.or (H1 : CSeg z c i j (fun E => bI (B1 E = true))) (H2 : CSeg z c j k (fun E => bI (B2 E = true))) (hc : c k = 16) : CSeg z c i (k + 1) (fun E => bI ((B1 E || B2 E) = true)) :=
  H1.pair H2 (by omega) (by omega) hc (fun E _ => by have := bI_01 (b := B1 E || B2 E); omega) (fun d L T o n a t v w E fr to N jj hE ha hf h1 h2 h3 h4 hx hy => cs_hold ha (by omega) hf h1 h2 h3 h4 hx hy (H1.1.2.2 E hE).1 (H1.1.2.2 E hE).2 (H2.1.2.2 E hE).1 (H2.1.2.2 E hE).2 c_holdsOr)
theorem CSeg.and (H1 : CSeg z c i j (fun E => bI (B1 E = true))) (H2 : CSeg z c j k (fun E => bI (B2 E = true))) (hc : c k = 17) : CSeg z c i (k + 1) (fun E => bI ((B1 E && B2 E) = true)) :=
  H1.pair H2 (by omega) (by omega) hc (fun E _ => by have := bI_01 (b := B1 E && B2 E); omega) (fun d L T o n a t v w E fr to N jj hE ha hf h1 h2 h3 h4 hx hy => cs_hold ha (by omega) hf h1 h2 h3 h4 hx hy (H1.1.2.2 E hE).1 (H1.1.2.2 E hE).2 (H2.1.2.2 E hE).1 (H2.1.2.2 E hE).2 c_holdsAnd)
theorem CSeg.ite {k1 : Int} (H0 : CSeg z c i j (fun E => bI (B E = true))) (hc0 : c j = 13 + 64 * (k + 1)) (H1 : CSeg z c (j + 1) k V1) (hc1 : c k = 14 + 64 * k1) (H2 : CSeg z c (k + 1) k1 V2) (hk : k1 ≤ 300) : CSeg z c i k1 (fun E => if B E = true then V1 E else V2 E) := by
  obtain ⟨⟨i0, i1, hV0⟩, H0⟩ := H0
  obtain ⟨⟨_, i2, hV1⟩, H1⟩ := H1
  obtain ⟨⟨_, i3, hV2⟩, H2⟩ := H2
  refine ⟨⟨i0, by omega, fun E hE => by dsimp only; split; exact hV1 E hE; exact hV2 E hE⟩, fun d L T o n a t v w E fr to N jj ha ht hE hC hw h1 h2 h3 h4 h5 h6 => ?_⟩
  have n1 := ha.ne
  obtain ⟨w2, j2, e2, v2, k2, b2⟩ := H0 d L T o n a t v w E fr to N jj ha ht hE hC (fun k q1 q2 => hw k q1 (by omega)) (by omega) h2 (by omega) h4 h5 (by omega)
  have hf : FOp w2 a j 13 (k + 1) := ⟨by omega, by rw [b2 a n1.1]; omega, by rw [b2 a n1.1]; exact h2, by rw [b2 (a + 1) n1.2, hw j (by omega) (by omega), hc0], by decide, by decide, by omega, by omega⟩
  obtain ⟨j3, e3⟩ := cs_then (d := d) (L := L) (T := T) (o := o) (n := n) (v := v) (t := t) (fr := fr) (to := to) (N := N + 1) (jj := j2) (b := B E) ha hf (by omega) h4 (by omega) (by omega) (by rw [show N + 1 - 1 = N by omega]; exact v2) (by omega)
  rw [show N + 1 - 1 = N by omega] at e3
  by_cases hB : B E = true
  · rw [if_pos hB] at e3
    obtain ⟨w4, j4, e4, v4, k4, b4⟩ := H1 d L T o n a t v w2 E fr to N j3 ha ht hE (hC.keep ht b2) (fun k q1 q2 => by rw [b2 (a + 1) n1.2]; exact hw k (by omega) (by omega)) (by rw [b2 a n1.1]; omega) (by rw [b2 a n1.1]; exact h2) (by omega) h4 (by omega) (by omega)
    have hf2 : FOp w4 a k 14 k1 := ⟨by omega, by rw [b4 a n1.1, b2 a n1.1]; omega, by rw [b4 a n1.1, b2 a n1.1]; exact h2, by rw [b4 (a + 1) n1.2, b2 (a + 1) n1.2, hw k (by omega) (by omega), hc1], by decide, by decide, by omega, by omega⟩
    obtain ⟨j5, e5⟩ := cs_else (d := d) (L := L) (T := T) (o := o) (n := n) (v := v) (t := t) (fr := fr) (to := to) (N := N + 1) (jj := j4) ha hf2 (by omega) h4 (by omega) (by omega) (by omega)
    refine ⟨w4, j5, e2.trans (e3.trans (e4.trans e5)), by dsimp only; rw [if_pos hB]; exact v4, fun k hk => by rw [k4 k hk]; exact k2 k hk, fun b hb => by rw [b4 b hb]; exact b2 b hb⟩
  · rw [if_neg hB] at e3
    obtain ⟨w4, j4, e4, v4, k4, b4⟩ := H2 d L T o n a t v w2 E fr to N j3 ha ht hE (hC.keep ht b2) (fun k q1 q2 => by rw [b2 (a + 1) n1.2]; exact hw k (by omega) (by omega)) (by rw [b2 a n1.1]; omega) (by rw [b2 a n1.1]; exact h2) (by omega) h4 (by omega) (by omega)
    refine ⟨w4, j4, e2.trans (e3.trans e4), by dsimp only; rw [if_neg hB]; exact v4, fun k hk => by rw [k4 k hk]; exact k2 k hk, fun b hb => by rw [b4 b hb]; exact b2 b hb⟩
end CG
