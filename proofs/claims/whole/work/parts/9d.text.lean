/-! a text's clauses: token, clauses (how many, each its sort and two numbers), the laws -/
abbrev Cls : Type := Int × (Int → Int × Int × Int)
abbrev TS : Type := Nat × Cls × Option (LEnv → Int) × Option (LEnv → Int)
def clAdd (c : Cls) (x : Int × Int × Int) : Cls := (c.1 + 1, fun k => if k = c.1 then x else c.2 k)
abbrev FG : Type := Int × Nat × Int
abbrev CO : Type := Int × Nat × Int × Int
def tLo (K : Int) : Int := if K = 2 then 1 else if K = 7 then 1 else 0
def tHi (K : Int) : Int := if K = 2 then 9 else if K = 3 then 5 else if K = 4 then 5 else if K = 7 then 60 else 7
/-- a number told: fault, token, number -/
def pFig (p : Bts) (i : Nat) (lo hi : Int) : FG := if tK p i = 38 then (if lo ≤ (tN p i).1 ∧ (tN p i).1 ≤ hi then (0, i + 1, (tN p i).1) else (2, i, 0)) else (1, i, 0)
def pAct (p : Bts) (K : Int) (f : FG) : CO :=
  if f.1 = 0 then
    (if K = 3 ∨ K = 4 then
      (if tK p f.2.1 = (if K = 3 then 8 else 9) then
        (if (pFig p (f.2.1 + 1) 0 7).1 = 0 then (0, (pFig p (f.2.1 + 1) 0 7).2.1, f.2.2, (pFig p (f.2.1 + 1) 0 7).2.2) else ((pFig p (f.2.1 + 1) 0 7).1, (pFig p (f.2.1 + 1) 0 7).2.1, 0, 0))
      else (1, f.2.1, 0, 0))
    else (0, f.2.1, f.2.2, 0))
  else (f.1, f.2.1, 0, 0)
def pStop (p : Bts) (c : CO) : CO := if c.1 = 0 then (if tK p c.2.1 = 35 then (0, c.2.1 + 1, c.2.2) else (1, c.2.1, 0, 0)) else c
abbrev pLw (p : Bts) (K : Int) (i : Nat) : PO := pTake p (pP p K 3000 3 i 0 V0 B0) 35
abbrev pAc (p : Bts) (K : Int) (i : Nat) : CO := pStop p (pAct p K (pFig p i (tLo K) (tHi K)))
abbrev lawThere (K : Int) (s : TS) : Prop := (K = 0 ∧ s.2.2.1.isSome = true) ∨ (K = 1 ∧ s.2.2.2.isSome = true)
/-- a clause: fault, token, what there is now -/
def pCl (p : Bts) (s : TS) : Int × Nat × TS :=
  if 7 < tK p s.1 then (1, s.1, s)
  else if lawThere (tK p s.1) s then (4, s.1, s)
  else if 24 ≤ s.2.1.1 then (6, s.1, s)
  else if tK p s.1 ≤ 1 then
    (if (pLw p (tK p s.1) (s.1 + 1)).1 = 0 then (0, (pLw p (tK p s.1) (s.1 + 1)).2.1, ((pLw p (tK p s.1) (s.1 + 1)).2.1, clAdd s.2.1 (tK p s.1, 0, 0), (if tK p s.1 = 0 then some (pLw p (tK p s.1) (s.1 + 1)).2.2.1 else s.2.2.1), (if tK p s.1 = 0 then s.2.2.2 else some (pLw p (tK p s.1) (s.1 + 1)).2.2.1)))
     else ((pLw p (tK p s.1) (s.1 + 1)).1, (pLw p (tK p s.1) (s.1 + 1)).2.1, s))
  else (if (pAc p (tK p s.1) (s.1 + 1)).1 = 0 then (0, (pAc p (tK p s.1) (s.1 + 1)).2.1, ((pAc p (tK p s.1) (s.1 + 1)).2.1, clAdd s.2.1 (tK p s.1, (pAc p (tK p s.1) (s.1 + 1)).2.2.1, (pAc p (tK p s.1) (s.1 + 1)).2.2.2), s.2.2.1, s.2.2.2))
     else ((pAc p (tK p s.1) (s.1 + 1)).1, (pAc p (tK p s.1) (s.1 + 1)).2.1, s))
def pTx (p : Bts) : Nat → TS → Int × Nat × TS
  | 0, s => (9, 0, s)
  | f + 1, s => if tK p s.1 = 39 then (0, s.1, s) else if (pCl p s).1 = 0 then pTx p f (pCl p s).2.2 else pCl p s
/-- what is sure of what there is -/
def TsOk (s : TS) : Prop := (0 ≤ s.2.1.1 ∧ s.2.1.1 ≤ 24 ∧ s.1 ≤ 300) ∧ (∀ k, 0 ≤ k → k < s.2.1.1 → (0 ≤ (s.2.1.2 k).1 ∧ (s.2.1.2 k).1 ≤ 7) ∧ (0 ≤ (s.2.1.2 k).2.1 ∧ (s.2.1.2 k).2.1 ≤ 60) ∧ (0 ≤ (s.2.1.2 k).2.2 ∧ (s.2.1.2 k).2.2 ≤ 7))
section TX
variable {p : Bts} {s : TS} {K lo hi : Int} {i f : Nat}
theorem fig_ok (O : TpOk p) (hi2 : i ≤ 300) (h0 : 0 ≤ lo) (h1 : hi ≤ 60) : 0 ≤ (pFig p i lo hi).1 ∧ (pFig p i lo hi).1 ≤ 2 ∧ (0 ≤ (pFig p i lo hi).2.2 ∧ (pFig p i lo hi).2.2 ≤ 60) ∧ (hi ≤ 7 → 0 ≤ hi → (pFig p i lo hi).2.2 ≤ 7) ∧ ((pFig p i lo hi).1 = 0 → (pFig p i lo hi).2.1 = i + 1 ∧ i + 1 ≤ 300) := by
  unfold pFig
  by_cases c : tK p i = 38
  · have i9 := tk_299 O (i := i) (by omega)
    rw [if_pos c]
    by_cases g : lo ≤ (tN p i).1 ∧ (tN p i).1 ≤ hi
    · rw [if_pos g]
      dsimp only
      omega
    · rw [if_neg g]
      dsimp only
      omega
  · rw [if_neg c]
    dsimp only
    omega
theorem t_lh (h : 2 ≤ K) (h7 : K ≤ 7) : 0 ≤ tLo K ∧ tHi K ≤ 60 ∧ tLo K ≤ tHi K ∧ 0 ≤ tHi K := by
  rcases (show K = 2 ∨ K = 3 ∨ K = 4 ∨ K = 5 ∨ K = 6 ∨ K = 7 by omega) with rfl | rfl | rfl | rfl | rfl | rfl <;> decide
theorem act_ok (O : TpOk p) (hi2 : i ≤ 300) (h : 2 ≤ K) (h7 : K ≤ 7) : (0 ≤ (pAc p K i).1 ∧ (pAc p K i).1 ≤ 2) ∧ (0 ≤ (pAc p K i).2.2.1 ∧ (pAc p K i).2.2.1 ≤ 60) ∧ (0 ≤ (pAc p K i).2.2.2 ∧ (pAc p K i).2.2.2 ≤ 7) ∧ ((pAc p K i).1 = 0 → i < (pAc p K i).2.1 ∧ (pAc p K i).2.1 ≤ 300) := by
  have lh := t_lh h h7
  have f1 := fig_ok O hi2 lh.1 lh.2.1
  unfold pAc pAct
  generalize pFig p i (tLo K) (tHi K) = f at f1 ⊢
  by_cases f0 : f.1 = 0
  · rw [if_pos f0]
    have f2 := f1.2.2.2.2 f0
    by_cases c : K = 3 ∨ K = 4
    · rw [if_pos c]
      by_cases g : tK p f.2.1 = (if K = 3 then 8 else 9)
      · rw [if_pos g]
        have i9 := tk_299 O (i := f.2.1) (by rw [g]; split <;> decide)
        have g1 := fig_ok O (i := f.2.1 + 1) (lo := 0) (hi := 7) (by omega) (by decide) (by decide)
        generalize pFig p (f.2.1 + 1) 0 7 = e at g1 ⊢
        by_cases e0 : e.1 = 0
        · rw [if_pos e0]
          have e2 := g1.2.2.2.2 e0
          unfold pStop
          rw [if_pos rfl]
          dsimp only
          by_cases t : tK p e.2.1 = 35
          · rw [if_pos t]
            have i9 := tk_299 O (i := e.2.1) (by omega)
            dsimp only
            omega
          · rw [if_neg t]
            dsimp only
            omega
        · rw [if_neg e0]
          unfold pStop
          rw [if_neg e0]
          dsimp only
          omega
      · rw [if_neg g]
        unfold pStop
        rw [if_neg (show ¬ (1 : Int) = 0 by decide)]
        dsimp only
        omega
    · rw [if_neg c]
      unfold pStop
      rw [if_pos rfl]
      dsimp only
      by_cases t : tK p f.2.1 = 35
      · rw [if_pos t]
        have i9 := tk_299 O (i := f.2.1) (by omega)
        dsimp only
        omega
      · rw [if_neg t]
        dsimp only
        omega
  · rw [if_neg f0]
    unfold pStop
    rw [if_neg f0]
    dsimp only
    omega
theorem law_ok (O : TpOk p) (hi2 : i ≤ 300) : Ok9 i (pLw p K i) := ok9_take O ((no_all O 3000 i 0 hi2).2.2.2.1 (by omega)) (by decide)
theorem clAdd_k {c : Cls} {x : Int × Int × Int} {k : Int} (h : k ≠ c.1) : (clAdd c x).2 k = c.2 k := if_neg h
theorem clAdd_n {c : Cls} {x : Int × Int × Int} : (clAdd c x).2 c.1 = x := if_pos rfl
theorem TsOk.add (h : TsOk s) (h24 : s.2.1.1 < 24) {x : Int × Int × Int} {VF VT : Option (LEnv → Int)} {j : Nat} (hj : j ≤ 300) (hx : (0 ≤ x.1 ∧ x.1 ≤ 7) ∧ (0 ≤ x.2.1 ∧ x.2.1 ≤ 60) ∧ (0 ≤ x.2.2 ∧ x.2.2 ≤ 7)) : TsOk (j, clAdd s.2.1 x, VF, VT) := by
  refine ⟨⟨?_, ?_, hj⟩, fun k k0 k1 => ?_⟩
  · show 0 ≤ s.2.1.1 + 1
    have := h.1.1
    omega
  · show s.2.1.1 + 1 ≤ 24
    omega
  · have k1 : k < s.2.1.1 + 1 := k1
    by_cases c : k = s.2.1.1
    · subst c
      dsimp only
      rw [clAdd_n]
      exact hx
    · dsimp only
      rw [clAdd_k c]
      exact h.2 k k0 (by omega)
/-- a good clause is one more, further on -/
theorem cl_ok (O : TpOk p) (h : TsOk s) (h0 : (pCl p s).1 = 0) : TsOk (pCl p s).2.2 ∧ (pCl p s).2.2.2.1.1 = s.2.1.1 + 1 := by
  have kb := tK_bd p s.1
  unfold pCl at h0 ⊢
  by_cases c1 : 7 < tK p s.1
  · rw [if_pos c1] at h0; exact absurd h0 (show ¬ (1 : Int) = 0 by decide)
  rw [if_neg c1] at h0 ⊢
  by_cases c2 : lawThere (tK p s.1) s
  · rw [if_pos c2] at h0; exact absurd h0 (show ¬ (4 : Int) = 0 by decide)
  rw [if_neg c2] at h0 ⊢
  by_cases c3 : 24 ≤ s.2.1.1
  · rw [if_pos c3] at h0; exact absurd h0 (show ¬ (6 : Int) = 0 by decide)
  rw [if_neg c3] at h0 ⊢
  have i9 := tk_299 O (i := s.1) (by omega)
  by_cases c4 : tK p s.1 ≤ 1
  · rw [if_pos c4] at h0 ⊢
    have l := law_ok O (i := s.1 + 1) (K := tK p s.1) (by omega)
    generalize pLw p (tK p s.1) (s.1 + 1) = b at *
    by_cases b0 : b.1 = 0
    · rw [if_pos b0]
      exact ⟨h.add (by omega) (l.2 b0).2 ⟨by dsimp only; omega, by dsimp only; omega, by dsimp only; omega⟩, rfl⟩
    · rw [if_neg b0] at h0; exact absurd h0 b0
  · rw [if_neg c4] at h0 ⊢
    have l := act_ok O (i := s.1 + 1) (K := tK p s.1) (by omega) (by omega) (by omega)
    generalize pAc p (tK p s.1) (s.1 + 1) = b at *
    by_cases b0 : b.1 = 0
    · rw [if_pos b0]
      exact ⟨h.add (by omega) (l.2.2.2 b0).2 ⟨by dsimp only; omega, l.2.1, l.2.2.1⟩, rfl⟩
    · rw [if_neg b0] at h0; exact absurd h0 b0
end TX
