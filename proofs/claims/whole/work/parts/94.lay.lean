/-! all layings, weighed: least, most, how many are so, and the first of them -/
abbrev Q4 : Type := Int × Int × Int × (Int → Int)
def qz : Q4 := (0, 0, 0, fun _ => 0)
def qop (a b : Q4) : Q4 := if a.2.2.1 = 0 then b else if b.2.2.1 = 0 then a else (if b.1 < a.1 then b.1 else a.1, if a.2.1 < b.2.1 then b.2 else if b.2.1 = a.2.1 then (a.2.1, a.2.2.1 + b.2.2.1, a.2.2.2) else a.2)
theorem qop_n {a b : Q4} (ha : a.2.2.1 ≠ 0) (hb : b.2.2.1 ≠ 0) : qop a b = (if b.1 < a.1 then b.1 else a.1, if a.2.1 < b.2.1 then b.2 else if b.2.1 = a.2.1 then (a.2.1, a.2.2.1 + b.2.2.1, a.2.2.2) else a.2) := by unfold qop; rw [if_neg ha, if_neg hb]
theorem qop_c {a b : Q4} (ha : 0 ≤ a.2.2.1) (hb : 0 ≤ b.2.2.1) : 0 ≤ (qop a b).2.2.1 ∧ (a.2.2.1 ≠ 0 ∨ b.2.2.1 ≠ 0 → (qop a b).2.2.1 ≠ 0) ∧ (qop a b).2.2.1 ≤ a.2.2.1 + b.2.2.1 := by
  unfold qop
  split
  · omega
  · split
    · omega
    · dsimp only
      split
      · omega
      · split
        · dsimp only; omega
        · omega
theorem qop_assoc {a b c : Q4} (ha : 0 ≤ a.2.2.1) (hb : 0 ≤ b.2.2.1) (hc : 0 ≤ c.2.2.1) : qop (qop a b) c = qop a (qop b c) := by
  by_cases a0 : a.2.2.1 = 0
  · rw [show qop a b = b by unfold qop; rw [if_pos a0], show qop a (qop b c) = qop b c by unfold qop; rw [if_pos a0]]
  by_cases b0 : b.2.2.1 = 0
  · rw [show qop a b = a by unfold qop; rw [if_neg a0, if_pos b0], show qop b c = c by unfold qop; rw [if_pos b0]]
  by_cases c0 : c.2.2.1 = 0
  · have h1 := (qop_c ha hb).2.1 (Or.inl a0)
    rw [show qop (qop a b) c = qop a b by rw [qop.eq_def (qop a b) c, if_neg h1, if_pos c0], show qop b c = b by unfold qop; rw [if_neg b0, if_pos c0]]
  have h1 := (qop_c ha hb).2.1 (Or.inl a0)
  have h2 := (qop_c hb hc).2.1 (Or.inl b0)
  rw [qop_n h1 c0, qop_n a0 h2, qop_n a0 b0, qop_n b0 c0]
  obtain ⟨a1, a2, a3, a4⟩ := a
  obtain ⟨b1, b2, b3, b4⟩ := b
  obtain ⟨c1, c2, c3, c4⟩ := c
  dsimp only at *
  refine Prod.ext ?_ ?_
  · dsimp only
    by_cases g1 : b1 < a1 <;> by_cases g2 : c1 < b1 <;> simp (disch := omega) only [if_pos, if_neg] <;> (try split) <;> omega
  · dsimp only
    rcases Int.lt_trichotomy a2 b2 with g1 | g1 | g1 <;> rcases Int.lt_trichotomy b2 c2 with g2 | g2 | g2 <;> simp (disch := omega) only [if_pos, if_neg] <;> first | rfl | (rw [Int.add_assoc]) | (rcases Int.lt_trichotomy a2 c2 with g3 | g3 | g3 <;> simp (disch := omega) only [if_pos, if_neg])
def fld (g : Nat → Q4) : Nat → Q4
  | 0 => qz
  | k + 1 => qop (fld g k) (g k)
def frB (l : Int → Int) : Nat → Int → Bool
  | 0, _ => true
  | j + 1, s => frB l j s && decide (l (j : Int) ≠ s)
def upL (l : Int → Int) (e s : Int) : Int → Int := fun x => if x = e then s else l x
def tr (F : Int → Int → Int) : Nat → Nat → (Int → Int) → Int → Q4
  | 0, _, l, z => (z, z, 1, l)
  | r + 1, e, l, z => fld (fun s => if frB l e (s : Int) = true then tr F r (e + 1) (upL l (e : Int) (s : Int)) (z + F (e : Int) (s : Int)) else qz) 8
def dcb (p : Int × Int) (x c : Int) : Int × Int := if p.2 = 0 ∨ p.1 < x then (x, c) else if x = p.1 then (p.1, p.2 + c) else p
def dfl (g : Nat → Option (Int × Int)) : Nat → Int × Int
  | 0 => (0, 0)
  | k + 1 => match g k with
    | none => dfl g k
    | some q => dcb (dfl g k) q.1 q.2
def dp (F : Int → Int → Int) : Nat → Nat → Nat → Int × Int
  | 0, _, _ => (0, 1)
  | r + 1, m, e => dfl (fun s => if m.testBit s = true then none else some (F (e : Int) (s : Int) + (dp F r (m ||| 2 ^ s) (e + 1)).1, (dp F r (m ||| 2 ^ s) (e + 1)).2)) 8
/-- the spoons laid so far, as a set -/
def Mk (l : Int → Int) (e m : Nat) : Prop := m < 256 ∧ pcN m = e ∧ ∀ s : Nat, s < 8 → (m.testBit s = true ↔ frB l e (s : Int) = false)
theorem or_c : ∀ a : Fin 256, ∀ s : Fin 8, a.val ||| 2 ^ s.val < 256 ∧ (a.val.testBit s.val = false → pcN (a.val ||| 2 ^ s.val) = pcN a.val + 1 ∧ a.val < a.val ||| 2 ^ s.val) ∧ (a.val.testBit s.val = true → a.val ||| 2 ^ s.val = a.val) := by decide +kernel
theorem fr_ex : ∀ a : Fin 256, pcN a.val < 8 → ∃ s : Fin 8, a.val.testBit s.val = false := by decide +kernel
section TRS
variable {F : Int → Int → Int} {l : Int → Int} {e m s : Nat}
theorem frB_upL (h : e ≤ e) {x : Int} {y : Int} : ∀ j : Nat, j ≤ e → frB (upL l (e : Int) x) j y = frB l j y
  | 0, _ => rfl
  | j + 1, hj => by
    rw [frB, frB, frB_upL h j (by omega)]
    congr 2
    unfold upL
    rw [if_neg (by omega)]
theorem Mk.add (h : Mk l e m) (hs : s < 8) (c : frB l e (s : Int) = true) : Mk (upL l (e : Int) (s : Int)) (e + 1) (m ||| 2 ^ s) := by
  obtain ⟨h1, h2, h3⟩ := h
  have hb : m.testBit s = false := by
    cases q : m.testBit s
    · rfl
    · rw [(h3 s hs).mp q] at c; cases c
  obtain ⟨o1, o2, o3⟩ := or_c ⟨m, h1⟩ ⟨s, hs⟩
  dsimp only at o1 o2 o3
  refine ⟨o1, by rw [(o2 hb).1, h2], fun s' hs' => ?_⟩
  rw [frB, frB_upL (Nat.le_refl e) e (Nat.le_refl e), Nat.testBit_or, Nat.testBit_two_pow]
  rw [show upL l (e : Int) (s : Int) (e : Int) = (s : Int) from if_pos rfl]
  by_cases q : s = s'
  · subst q; simp
  · have q2 : ¬ (s : Int) = (s' : Int) := by omega
    simp [q, q2]
    have h4 := h3 s' hs'
    cases q3 : m.testBit s' <;> cases q4 : frB l e (s' : Int) <;> simp_all
theorem Mk.zero : Mk l 0 0 := ⟨by decide, by decide, fun s _ => by simp [frB]⟩
theorem Mk.bit (h : Mk l e m) (hs : s < 8) : m.testBit s = !frB l e (s : Int) := by
  have := h.2.2 s hs
  cases q : m.testBit s <;> cases q2 : frB l e (s : Int) <;> simp_all
/-- both ways of weighing agree -/
theorem tr_dp (Fb : ∀ a b, -495 ≤ F a b ∧ F a b ≤ 495) : ∀ (r e m : Nat) (l : Int → Int) (z : Int), e + r ≤ 6 → Mk l e m → (tr F r e l z).2.1 = z + (dp F r m e).1 ∧ (tr F r e l z).2.2.1 = (dp F r m e).2 ∧ (tr F r e l z).1 = z - (dp (fun a b => - F a b) r m e).1 ∧ 0 < (dp F r m e).2 ∧ 0 < (dp (fun a b => - F a b) r m e).2 ∧ (dp F r m e).2 ≤ (8 ^ r : Nat) ∧ (-(495 * (r : Int)) ≤ (dp F r m e).1 ∧ (dp F r m e).1 ≤ 495 * r) ∧ (-(495 * (r : Int)) ≤ (dp (fun a b => - F a b) r m e).1 ∧ (dp (fun a b => - F a b) r m e).1 ≤ 495 * r)
  | 0, e, m, l, z, _, _ => by
    refine ⟨?_, rfl, ?_, by show (0 : Int) < 1; decide, by show (0 : Int) < 1; decide, by show (1 : Int) ≤ ((8 ^ 0 : Nat) : Int); decide, ?_, ?_⟩
    · show z = z + 0; omega
    · show z = z - 0; omega
    · show -(495 * ((0 : Nat) : Int)) ≤ 0 ∧ 0 ≤ 495 * ((0 : Nat) : Int); decide
    · show -(495 * ((0 : Nat) : Int)) ≤ 0 ∧ 0 ≤ 495 * ((0 : Nat) : Int); decide
  | r + 1, e, m, l, z, he, hm => by
    have ih := tr_dp Fb r (e + 1)
    obtain ⟨P, hP⟩ : ∃ P : Nat, P = 8 ^ r := ⟨_, rfl⟩
    rw [← hP] at ih
    have key : ∀ k : Nat, k ≤ 8 → ∀ (X : Q4) (Y Y' : Int × Int), X = fld (fun s => if frB l e (s : Int) = true then tr F r (e + 1) (upL l (e : Int) (s : Int)) (z + F (e : Int) (s : Int)) else qz) k → Y = dfl (fun s => if m.testBit s = true then none else some (F (e : Int) (s : Int) + (dp F r (m ||| 2 ^ s) (e + 1)).1, (dp F r (m ||| 2 ^ s) (e + 1)).2)) k → Y' = dfl (fun s => if m.testBit s = true then none else some (- F (e : Int) (s : Int) + (dp (fun a b => - F a b) r (m ||| 2 ^ s) (e + 1)).1, (dp (fun a b => - F a b) r (m ||| 2 ^ s) (e + 1)).2)) k →
        ((∀ s, s < k → frB l e (s : Int) = false) ∧ X.2.2.1 = 0 ∧ Y.2 = 0 ∧ Y'.2 = 0) ∨ (X.2.1 = z + Y.1 ∧ X.2.2.1 = Y.2 ∧ X.1 = z - Y'.1 ∧ 0 < Y.2 ∧ 0 < Y'.2 ∧ Y.2 ≤ (k * P : Nat) ∧ (-(495 * ((r : Int) + 1)) ≤ Y.1 ∧ Y.1 ≤ 495 * ((r : Int) + 1)) ∧ (-(495 * ((r : Int) + 1)) ≤ Y'.1 ∧ Y'.1 ≤ 495 * ((r : Int) + 1))) := by
      intro k
      induction k with
      | zero => intro _ X Y Y' hX hY hY'; left; subst hX hY hY'; exact ⟨fun s hs => absurd hs (by omega), rfl, rfl, rfl⟩
      | succ k ihk =>
        intro hk X Y Y' hX hY hY'
        have i1 := ihk (by omega) _ _ _ rfl rfl rfl
        rw [fld] at hX
        rw [dfl] at hY hY'
        generalize fld (fun s => if frB l e (s : Int) = true then tr F r (e + 1) (upL l (e : Int) (s : Int)) (z + F (e : Int) (s : Int)) else qz) k = X0 at *
        generalize dfl (fun s => if m.testBit s = true then none else some (F (e : Int) (s : Int) + (dp F r (m ||| 2 ^ s) (e + 1)).1, (dp F r (m ||| 2 ^ s) (e + 1)).2)) k = Y0 at *
        generalize dfl (fun s => if m.testBit s = true then none else some (- F (e : Int) (s : Int) + (dp (fun a b => - F a b) r (m ||| 2 ^ s) (e + 1)).1, (dp (fun a b => - F a b) r (m ||| 2 ^ s) (e + 1)).2)) k = Y1 at *
        have hb := hm.bit (s := k) (by omega)
        have kk : ((k + 1) * P : Nat) = k * P + P := by rw [Nat.add_mul, Nat.one_mul]
        by_cases c : frB l e (k : Int) = true
        · obtain ⟨j1, j2, j3, j4, j5, j6, j7, j8⟩ := ih (m ||| 2 ^ k) (upL l (e : Int) (k : Int)) (z + F (e : Int) (k : Int)) (by omega) (hm.add (by omega) c)
          rw [if_pos c] at hX
          rw [c] at hb
          rw [if_neg (by rw [hb]; decide)] at hY hY'
          dsimp only at hY hY'
          generalize tr F r (e + 1) (upL l (e : Int) (k : Int)) (z + F (e : Int) (k : Int)) = Z at *
          generalize dp F r (m ||| 2 ^ k) (e + 1) = D at *
          generalize dp (fun a b => - F a b) r (m ||| 2 ^ k) (e + 1) = D' at *
          have fb := Fb (e : Int) (k : Int)
          generalize F (e : Int) (k : Int) = fz at *
          right
          subst hX hY hY'
          have zn : Z.2.2.1 ≠ 0 := by omega
          rw [kk]
          have kp : ((k * P + P : Nat) : Int) = ((k * P : Nat) : Int) + (P : Int) := Int.natCast_add _ _
          rw [kp]
          have kp0 : (0 : Int) ≤ ((k * P : Nat) : Int) := Int.natCast_nonneg _
          generalize ((k * P : Nat) : Int) = kP at *
          rcases i1 with ⟨_, x0, y0, y1⟩ | ⟨q1, q2, q3, q4, q5, q6, q7, q8⟩
          · rw [show qop X0 Z = Z by unfold qop; rw [if_pos x0]]
            unfold dcb
            rw [if_pos (Or.inl y0), if_pos (Or.inl y1)]
            dsimp only
            omega
          · rw [qop_n (by omega) zn]
            unfold dcb
            dsimp only
            refine ⟨?_, ?_, ?_, ?_, ?_, ?_, ?_, ?_⟩
            all_goals (rcases Int.lt_trichotomy Y0.1 (fz + D.1) with g1 | g1 | g1 <;> rcases Int.lt_trichotomy Y1.1 (-fz + D'.1) with g2 | g2 | g2 <;> simp (disch := omega) only [if_pos, if_neg] <;> omega)
        · rw [if_neg c] at hX
          have cb : frB l e (k : Int) = false := by simpa using c
          rw [cb] at hb
          rw [if_pos (by rw [hb]; decide)] at hY hY'
          dsimp only at hY hY'
          subst hY hY'
          have hX2 : X = X0 ∨ (X0.2.2.1 = 0 ∧ X = qz) := by
            rw [hX]
            unfold qop
            by_cases x0 : X0.2.2.1 = 0
            · rw [if_pos x0]; exact Or.inr ⟨x0, rfl⟩
            · rw [if_neg x0, if_pos (show qz.2.2.1 = 0 from rfl)]; exact Or.inl rfl
          rcases i1 with ⟨n1, x0, y0, y1⟩ | ⟨q1, q2, q3, q4, q5, q6, q7, q8⟩
          · left
            refine ⟨fun s hs => ?_, ?_, y0, y1⟩
            · by_cases g : s = k
              · subst g; exact cb
              · exact n1 s (by omega)
            · rcases hX2 with h | ⟨_, h⟩ <;> rw [h]
              · exact x0
              · rfl
          · right
            rcases hX2 with h | ⟨h, _⟩
            · rw [h]; exact ⟨q1, q2, q3, q4, q5, by rw [kk, Int.natCast_add]; omega, q7, q8⟩
            · omega
    have k8 := key 8 (Nat.le_refl 8) _ _ _ rfl rfl rfl
    have er : ((r + 1 : Nat) : Int) = (r : Int) + 1 := by omega
    have ep : (8 ^ (r + 1) : Nat) = 8 * P := by rw [hP, Nat.pow_succ, Nat.mul_comm]
    rcases k8 with ⟨n1, _⟩ | h
    · obtain ⟨s, hs⟩ := fr_ex ⟨m, hm.1⟩ (by show pcN m < 8; rw [hm.2.1]; omega)
      have := hm.bit (s := s.val) s.isLt
      rw [n1 s.val s.isLt] at this
      dsimp only at hs
      rw [hs] at this
      cases this
    · rw [er, ep]
      exact h
end TRS
