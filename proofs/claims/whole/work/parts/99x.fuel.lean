/-! the reading is long enough -/
def Ok9 (i : Nat) (a : PO) : Prop := ¬ a.1 = 9 ∧ (a.1 = 0 → i < a.2.1 ∧ a.2.1 ≤ 300)
section FU
variable {p : Bts} {z op k lo : Int} {i j : Nat} {a : PO} {R : PR} {V : LEnv → Int} {B : LEnv → Bool} {x y : Nat}
theorem Ok9.up (h : Ok9 j a) (g : i ≤ j) : Ok9 i a := ⟨h.1, fun h0 => ⟨by have := (h.2 h0).1; omega, (h.2 h0).2⟩⟩
theorem ok9_take (O : TpOk p) (h : Ok9 i a) (hk : k ≠ 39) : Ok9 i (pTake p a k) := by
  by_cases a0 : a.1 = 0
  · by_cases c : tK p a.2.1 = k
    · rw [take_ok a0 c]
      have := tk_299 O (i := a.2.1) (by rw [c]; exact hk)
      exact ⟨show ¬ (0 : Int) = 9 by decide, fun _ => ⟨by have := (h.2 a0).1; show i < a.2.1 + 1; omega, by show a.2.1 + 1 ≤ 300; omega⟩⟩
    · rw [take_no a0 c]
      exact ⟨show ¬ (1 : Int) = 9 by decide, fun h => absurd h (show ¬ (1 : Int) = 0 by decide)⟩
  · rw [take_neg a0]
    exact h
theorem ok9_F {c : Int} (h : ¬ c = 9) (h0 : ¬ c = 0) : Ok9 i (pF c j) := ⟨h, fun g => absurd g h0⟩
theorem no_if (O : TpOk p) (H8 : Ok9 i (R 8 i op V0 B0)) (H3 : ∀ j, i < j → j ≤ 300 → Ok9 j (R 3 j op V0 B0)) : Ok9 i (pIf p R i op) := by
  have t1 := ok9_take O H8 (k := 13) (by decide)
  unfold pIf
  generalize pTake p (R 8 i op V0 B0) 13 = A at t1 ⊢
  by_cases A0 : A.1 = 0
  · rw [if_pos A0]
    have a1 := t1.2 A0
    have t2 := ok9_take O (H3 A.2.1 a1.1 a1.2) (k := 14) (by decide)
    generalize pTake p (R 3 A.2.1 op V0 B0) 14 = D at t2 ⊢
    by_cases D0 : D.1 = 0
    · rw [if_pos D0]
      have d1 := t2.2 D0
      have t3 := ok9_take O (H3 D.2.1 (by omega) d1.2) (k := 15) (by decide)
      generalize pTake p (R 3 D.2.1 op V0 B0) 15 = G at t3 ⊢
      by_cases G0 : G.1 = 0
      · rw [if_pos G0]
        have g1 := t3.2 G0
        exact ⟨show ¬ (0 : Int) = 9 by decide, fun _ => ⟨by show i < G.2.1; omega, g1.2⟩⟩
      · rw [if_neg G0]
        exact t3.up (by omega)
    · rw [if_neg D0]
      exact t2.up (by omega)
  · rw [if_neg A0]
    exact t1
theorem no_one (O : TpOk p) (H0 : i + 1 ≤ 300 → Ok9 (i + 1) (R 0 (i + 1) (op + 1) V0 B0)) (H8 : i + 1 ≤ 300 → Ok9 (i + 1) (R 8 (i + 1) (op + 1) V0 B0)) (H3 : ∀ j, i < j → j ≤ 300 → Ok9 j (R 3 j (op + 1) V0 B0)) : Ok9 i (pOne p z R i op) := by
  have nx : tK p i ≠ 39 → i + 1 ≤ 300 := fun h => by have := tk_299 O h; omega
  have okv : ∀ W, tK p i ≠ 39 → Ok9 i (pV (i + 1) W) := fun W h => ⟨show ¬ (0 : Int) = 9 by decide, fun _ => ⟨by show i < i + 1; omega, nx h⟩⟩
  unfold pOne
  by_cases c1 : tK p i = 38
  · rw [if_pos c1]
    by_cases g : 9999 < (tN p i).1
    · rw [if_pos g]; exact ok9_F (by decide) (by decide)
    · rw [if_neg g]; exact okv _ (by omega)
  rw [if_neg c1]
  by_cases c2 : isNm (tK p i)
  · rw [if_pos c2]
    by_cases g : okN z (tK p i)
    · rw [if_pos g]; exact okv _ (by omega)
    · rw [if_neg g]; exact ok9_F (by decide) (by decide)
  rw [if_neg c2]
  by_cases c3 : tK p i = 29 ∨ tK p i = 26 ∨ tK p i = 10 ∨ tK p i = 11 ∨ tK p i = 12
  · rw [if_neg (fun h => h c3)]
    have n1 := nx (by omega)
    by_cases c8 : 8 ≤ op
    · rw [if_pos c8]; exact ok9_F (by decide) (by decide)
    rw [if_neg c8]
    by_cases c29 : tK p i = 29
    · rw [if_pos c29]
      exact (ok9_take O (H3 (i + 1) (by omega) n1) (by decide)).up (by omega)
    rw [if_neg c29]
    by_cases c12 : tK p i = 12
    · rw [if_pos c12]
      exact (no_if O (H8 n1) (fun j h1 h2 => H3 j (by omega) h2)).up (by omega)
    rw [if_neg c12]
    have h := H0 n1
    generalize R 0 (i + 1) (op + 1) V0 B0 = A at h ⊢
    by_cases a0 : A.1 = 0
    · rw [if_pos a0]
      have := h.2 a0
      exact ⟨show ¬ (0 : Int) = 9 by decide, fun _ => ⟨by show i < A.2.1; omega, this.2⟩⟩
    · rw [if_neg a0]
      exact h.up (by omega)
  · rw [if_pos c3]; exact ok9_F (by decide) (by decide)
/-- loops may stay where they are -/
def Ok9l (i : Nat) (a : PO) : Prop := ¬ a.1 = 9 ∧ (a.1 = 0 → i ≤ a.2.1 ∧ a.2.1 ≤ 300)
theorem Ok9.l (h : Ok9 j a) (g : i ≤ j) : Ok9l i a := ⟨h.1, fun h0 => ⟨by have := (h.2 h0).1; omega, (h.2 h0).2⟩⟩
theorem Ok9l.up (h : Ok9l j a) (g : i ≤ j) : Ok9l i a := ⟨h.1, fun h0 => ⟨by have := (h.2 h0).1; omega, (h.2 h0).2⟩⟩
theorem Ok9l.ok (h : Ok9l j a) (g : i < j) : Ok9 i a := ⟨h.1, fun h0 => ⟨by have := (h.2 h0).1; omega, (h.2 h0).2⟩⟩
theorem no_then (H : Ok9 i (R x i op V0 B0)) (Hl : ∀ j V B, i < j → j ≤ 300 → Ok9l j (R y j op V B)) : Ok9 i (pThen R x y i op) := by
  unfold pThen
  generalize R x i op V0 B0 = A at H ⊢
  by_cases a0 : A.1 = 0
  · rw [if_pos a0]
    have := H.2 a0
    exact (Hl _ _ _ this.1 this.2).ok this.1
  · rw [if_neg a0]; exact H
theorem no_two (O : TpOk p) (hi : i ≤ 300) (hlo : lo ≠ 39 ∧ lo + 1 ≠ 39) (H : i + 1 ≤ 300 → Ok9 (i + 1) (R x (i + 1) op V0 B0)) (Hl : ∀ j V B, i < j → j ≤ 300 → Ok9l j (R y j op V B)) : Ok9l i (pTwo p R x y lo i op V) := by
  unfold pTwo
  by_cases c : tK p i = lo ∨ tK p i = lo + 1
  · rw [if_pos c]
    have n1 : i ≤ 299 := tk_299 O (by rcases c with h | h <;> rw [h]; exact hlo.1; exact hlo.2)
    have h := H (by omega)
    generalize R x (i + 1) op V0 B0 = A at h ⊢
    by_cases a0 : A.1 = 0
    · rw [if_pos a0]
      have := h.2 a0
      exact (Hl _ _ _ (by omega) this.2).up (by omega)
    · rw [if_neg a0]; exact h.l (by omega)
  · rw [if_neg c]
    exact ⟨show ¬ (0 : Int) = 9 by decide, fun _ => ⟨Nat.le_refl i, hi⟩⟩
theorem no_join (O : TpOk p) (hi : i ≤ 300) (hk : k ≠ 39) (H : i + 1 ≤ 300 → Ok9 (i + 1) (R x (i + 1) op V0 B0)) (Hl : ∀ j V B, i < j → j ≤ 300 → Ok9l j (R y j op V B)) : Ok9l i (pJoin p R x y k i op B) := by
  unfold pJoin
  by_cases c : tK p i = k
  · rw [if_pos c]
    have n1 : i ≤ 299 := tk_299 O (by rw [c]; exact hk)
    have h := H (by omega)
    generalize R x (i + 1) op V0 B0 = A at h ⊢
    by_cases a0 : A.1 = 0
    · rw [if_pos a0]
      have := h.2 a0
      exact (Hl _ _ _ (by omega) this.2).up (by omega)
    · rw [if_neg a0]; exact h.l (by omega)
  · rw [if_neg c]
    exact ⟨show ¬ (0 : Int) = 9 by decide, fun _ => ⟨Nat.le_refl i, hi⟩⟩
theorem no_ask (O : TpOk p) (H3 : ∀ j, i ≤ j → j ≤ 300 → Ok9 j (R 3 j op V0 B0)) (hi : i ≤ 300) (H5 : i + 1 ≤ 300 → Ok9 (i + 1) (R 5 (i + 1) (op + 1) V0 B0)) : Ok9 i (pAsk p R i op) := by
  unfold pAsk
  by_cases c : tK p i = 18
  · rw [if_pos c]
    have n1 : i ≤ 299 := tk_299 O (by omega)
    by_cases c8 : 8 ≤ op
    · rw [if_pos c8]; exact ok9_F (by decide) (by decide)
    rw [if_neg c8]
    have h := H5 (by omega)
    generalize R 5 (i + 1) (op + 1) V0 B0 = A at h ⊢
    by_cases a0 : A.1 = 0
    · rw [if_pos a0]
      have := h.2 a0
      exact ⟨show ¬ (0 : Int) = 9 by decide, fun _ => ⟨by show i < A.2.1; omega, this.2⟩⟩
    · rw [if_neg a0]; exact h.up (by omega)
  · rw [if_neg c]
    have h := H3 i (Nat.le_refl i) hi
    generalize R 3 i op V0 B0 = A at h ⊢
    by_cases a0 : A.1 = 0
    · rw [if_pos a0]
      have a1 := h.2 a0
      by_cases cp : isCp (tK p A.2.1)
      · rw [if_pos cp]
        have n2 : A.2.1 ≤ 299 := tk_299 O (by omega)
        have h2 := H3 (A.2.1 + 1) (by omega) (by omega)
        generalize R 3 (A.2.1 + 1) op V0 B0 = D at h2 ⊢
        by_cases d0 : D.1 = 0
        · rw [if_pos d0]
          have := h2.2 d0
          exact ⟨show ¬ (0 : Int) = 9 by decide, fun _ => ⟨by show i < D.2.1; omega, this.2⟩⟩
        · rw [if_neg d0]; exact h2.up (by omega)
      · rw [if_neg cp]; exact ok9_F (by decide) (by decide)
    · rw [if_neg a0]; exact h
def NAll (p : Bts) (z : Int) (f : Nat) : Prop := ∀ (i : Nat) (op : Int), i ≤ 300 →
  (8 * (301 - i) + 1 ≤ f → Ok9 i (pP p z f 0 i op V0 B0)) ∧
  (8 * (301 - i) + 2 ≤ f → Ok9 i (pP p z f 1 i op V0 B0)) ∧
  (8 * (301 - i) + 1 ≤ f → ∀ V B, Ok9l i (pP p z f 2 i op V B)) ∧
  (8 * (301 - i) + 3 ≤ f → Ok9 i (pP p z f 3 i op V0 B0)) ∧
  (8 * (301 - i) + 1 ≤ f → ∀ V B, Ok9l i (pP p z f 4 i op V B)) ∧
  (8 * (301 - i) + 4 ≤ f → Ok9 i (pP p z f 5 i op V0 B0)) ∧
  (8 * (301 - i) + 5 ≤ f → Ok9 i (pP p z f 6 i op V0 B0)) ∧
  (8 * (301 - i) + 1 ≤ f → ∀ V B, Ok9l i (pP p z f 7 i op V B)) ∧
  (8 * (301 - i) + 6 ≤ f → Ok9 i (pP p z f 8 i op V0 B0)) ∧
  (8 * (301 - i) + 1 ≤ f → ∀ V B, Ok9l i (pP p z f 9 i op V B))
theorem no_all (O : TpOk p) : ∀ f, NAll p z f
  | 0 => fun i op hi => ⟨fun h => by omega, fun h => by omega, fun h => by omega, fun h => by omega, fun h => by omega, fun h => by omega, fun h => by omega, fun h => by omega, fun h => by omega, fun h => by omega⟩
  | f + 1 => by
    have ih := no_all O f
    intro i op hi
    refine ⟨fun h => ?_, fun h => ?_, fun h V B => ?_, fun h => ?_, fun h V B => ?_, fun h => ?_, fun h => ?_, fun h V B => ?_, fun h => ?_, fun h V B => ?_⟩
    · exact no_one (R := pP p z f) O (fun g => (ih (i + 1) (op + 1) g).1 (by omega)) (fun g => (ih (i + 1) (op + 1) g).2.2.2.2.2.2.2.2.1 (by omega)) (fun j g1 g2 => (ih j (op + 1) g2).2.2.2.1 (by omega))
    · exact no_then (R := pP p z f) ((ih i op hi).1 (by omega)) (fun j V B g1 g2 => (ih j op g2).2.2.1 (by omega) V B)
    · exact no_two (R := pP p z f) O hi (by decide) (fun g => (ih (i + 1) op g).1 (by omega)) (fun j V B g1 g2 => (ih j op g2).2.2.1 (by omega) V B)
    · exact no_then (R := pP p z f) ((ih i op hi).2.1 (by omega)) (fun j V B g1 g2 => (ih j op g2).2.2.2.2.1 (by omega) V B)
    · exact no_two (R := pP p z f) O hi (by decide) (fun g => (ih (i + 1) op g).2.1 (by omega)) (fun j V B g1 g2 => (ih j op g2).2.2.2.2.1 (by omega) V B)
    · exact no_ask (R := pP p z f) O (fun j g1 g2 => (ih j op g2).2.2.2.1 (by omega)) hi (fun g => (ih (i + 1) (op + 1) g).2.2.2.2.2.1 (by omega))
    · exact no_then (R := pP p z f) ((ih i op hi).2.2.2.2.2.1 (by omega)) (fun j V B g1 g2 => (ih j op g2).2.2.2.2.2.2.2.1 (by omega) V B)
    · exact no_join (R := pP p z f) O hi (by decide) (fun g => (ih (i + 1) op g).2.2.2.2.2.1 (by omega)) (fun j V B g1 g2 => (ih j op g2).2.2.2.2.2.2.2.1 (by omega) V B)
    · exact no_then (R := pP p z f) ((ih i op hi).2.2.2.2.2.2.1 (by omega)) (fun j V B g1 g2 => (ih j op g2).2.2.2.2.2.2.2.2.2 (by omega) V B)
    · exact no_join (R := pP p z f) O hi (by decide) (fun g => (ih (i + 1) op g).2.2.2.2.2.2.1 (by omega)) (fun j V B g1 g2 => (ih j op g2).2.2.2.2.2.2.2.2.2 (by omega) V B)
/-- a sum from an empty pile: its end, or its fault -/
theorem ms_sum (O : TpOk p) (hz : z = 0 ∨ z = 1) (hi : i ≤ 300) : MRs p z (i, [], false, []) [] [] 5 N4 (pP p z 3000 3 i 0 V0 B0) ∧ Ok9 i (pP p z 3000 3 i 0 V0 B0) :=
  ⟨(ms_all O hz 3000).2.2.2.1 i [] [] rfl (fun _ => rfl), (no_all O 3000 i 0 hi).2.2.2.1 (by omega)⟩
end FU
