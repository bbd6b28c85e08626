/-! the model's reading of sums as a machine of its own: token, pile (top first), whether one is whole, the code written -/
abbrev MSt : Type := Nat × List Int × Bool × List (Int × Int)
def em0 (l : List Int) : List (Int × Int) := l.map (fun x => (x, 0))
def opC : List Int → Int
  | [] => 0
  | x :: r => opC r + (if rkO x = 7 ∨ x = 20 ∨ 40 ≤ x then 1 else 0)
def stk (l : Int) (S : List Int) : List Int := S.take (stN l S)
def sdr (l : Int) (S : List Int) : List Int := S.drop (stN l S)
def opK (K : Int) (S : List Int) : Int := if K = 29 then 40 else if K = 26 then 5 else if K = 10 then 2 else if K = 11 then 4 else if K = 12 then 41 else if K = 18 ∧ asks S = true then 20 else -1
def cpO (K : Int) : Int := if K = 31 then 10 else if K = 36 then 11 else if K = 32 then 12 else if K = 37 then 13 else if K = 33 then 14 else if K = 34 then 15 else -1
def btO (K : Int) (S : List Int) : Int := if K = 25 then 6 else if K = 26 then 7 else if K = 27 then 8 else if K = 28 then 9 else if opN S = 41 then (if cpd S = true then (if K = 17 then 21 else if K = 16 then 22 else -1) else cpO K) else -1
def ptO (K : Int) (S : List Int) : Int := if opN S = 40 then (if K = 30 then 0 else -1) else if opN S = 41 then (if K = 13 ∧ cpd S = true then 42 else -1) else if opN S = 42 then (if K = 14 then 43 else -1) else if opN S = 43 then (if K = 15 then 0 else -1) else -1
def rkB (x : Int) : Int := if rkO x = 4 then 5 else rkO x
def MStep (p : Bts) (z : Int) (s t : MSt) : Prop :=
  (s.2.2.1 = false ∧ ((tK p s.1 = 38 ∧ (tN p s.1).1 ≤ 9999 ∧ t = (s.1 + 1, sdr 7 s.2.1, true, s.2.2.2 ++ ((0, (tN p s.1).1) :: em0 (stk 7 s.2.1)))) ∨
    (isNm (tK p s.1) ∧ okN z (tK p s.1) ∧ t = (s.1 + 1, sdr 7 s.2.1, true, s.2.2.2 ++ ((1, nmK (tK p s.1)) :: em0 (stk 7 s.2.1)))) ∨
    (0 ≤ opK (tK p s.1) s.2.1 ∧ opC s.2.1 < 8 ∧ t = (s.1 + 1, opK (tK p s.1) s.2.1 :: s.2.1, false, s.2.2.2)))) ∨
  (s.2.2.1 = true ∧ ((0 ≤ btO (tK p s.1) s.2.1 ∧ t = (s.1 + 1, btO (tK p s.1) s.2.1 :: sdr (rkB (btO (tK p s.1) s.2.1)) s.2.1, false, s.2.2.2 ++ em0 (stk (rkB (btO (tK p s.1) s.2.1)) s.2.1))) ∨
    (∃ y R, btO (tK p s.1) s.2.1 < 0 ∧ 0 < ptO (tK p s.1) s.2.1 ∧ sdr 1 s.2.1 = y :: R ∧ t = (s.1 + 1, ptO (tK p s.1) s.2.1 :: R, false, s.2.2.2 ++ em0 (stk 1 s.2.1))) ∨
    (∃ y R, btO (tK p s.1) s.2.1 < 0 ∧ ptO (tK p s.1) s.2.1 = 0 ∧ sdr 1 s.2.1 = y :: R ∧ t = (s.1 + 1, sdr 7 R, true, s.2.2.2 ++ (em0 (stk 1 s.2.1) ++ ((if y = 43 then [(3, 0)] else []) ++ em0 (stk 7 R)))))))
def MFlt (p : Bts) (z : Int) (s : MSt) (c : Int) : Prop :=
  (s.2.2.1 = false ∧ ((tK p s.1 = 38 ∧ 9999 < (tN p s.1).1 ∧ c = 2) ∨ (isNm (tK p s.1) ∧ ¬ okN z (tK p s.1) ∧ c = 5) ∨
    (¬ tK p s.1 = 38 ∧ ¬ isNm (tK p s.1) ∧ opK (tK p s.1) s.2.1 < 0 ∧ c = 1) ∨ (0 ≤ opK (tK p s.1) s.2.1 ∧ 8 ≤ opC s.2.1 ∧ c = 3))) ∨
  (s.2.2.1 = true ∧ btO (tK p s.1) s.2.1 < 0 ∧ ptO (tK p s.1) s.2.1 < 0 ∧ 0 ≤ opN s.2.1 ∧ c = 1)
def MStN (p : Bts) (z : Int) : Nat → MSt → MSt → Prop
  | 0, a, c => a = c
  | n + 1, a, c => ∃ b, MStep p z a b ∧ MStN p z n b c
def MStar (p : Bts) (z : Int) (a c : MSt) : Prop := ∃ n, MStN p z n a c
section SC
variable {p : Bts} {z y : Int} {i : Nat} {S R : List Int} {C : List (Int × Int)} {a b c : MSt}
theorem MStep.num (h1 : tK p i = 38) (h2 : (tN p i).1 ≤ 9999) : MStep p z (i, S, false, C) (i + 1, sdr 7 S, true, C ++ ((0, (tN p i).1) :: em0 (stk 7 S))) := Or.inl ⟨rfl, Or.inl ⟨h1, h2, rfl⟩⟩
theorem MStep.name (h1 : isNm (tK p i)) (h2 : okN z (tK p i)) : MStep p z (i, S, false, C) (i + 1, sdr 7 S, true, C ++ ((1, nmK (tK p i)) :: em0 (stk 7 S))) := Or.inl ⟨rfl, Or.inr (Or.inl ⟨h1, h2, rfl⟩)⟩
theorem MStep.opn (h1 : 0 ≤ opK (tK p i) S) (h2 : opC S < 8) : MStep p z (i, S, false, C) (i + 1, opK (tK p i) S :: S, false, C) := Or.inl ⟨rfl, Or.inr (Or.inr ⟨h1, h2, rfl⟩)⟩
theorem MStep.bet (h1 : 0 ≤ btO (tK p i) S) : MStep p z (i, S, true, C) (i + 1, btO (tK p i) S :: sdr (rkB (btO (tK p i) S)) S, false, C ++ em0 (stk (rkB (btO (tK p i) S)) S)) := Or.inr ⟨rfl, Or.inl ⟨h1, rfl⟩⟩
theorem MStep.part (h1 : btO (tK p i) S < 0) (h2 : 0 < ptO (tK p i) S) (h3 : sdr 1 S = y :: R) : MStep p z (i, S, true, C) (i + 1, ptO (tK p i) S :: R, false, C ++ em0 (stk 1 S)) := Or.inr ⟨rfl, Or.inr (Or.inl ⟨y, R, h1, h2, h3, rfl⟩)⟩
theorem MStep.shut (h1 : btO (tK p i) S < 0) (h2 : ptO (tK p i) S = 0) (h3 : sdr 1 S = y :: R) : MStep p z (i, S, true, C) (i + 1, sdr 7 R, true, C ++ (em0 (stk 1 S) ++ ((if y = 43 then [(3, 0)] else []) ++ em0 (stk 7 R)))) := Or.inr ⟨rfl, Or.inr (Or.inr ⟨y, R, h1, h2, h3, rfl⟩)⟩
theorem MFlt.num (h1 : tK p i = 38) (h2 : 9999 < (tN p i).1) : MFlt p z (i, S, false, C) 2 := Or.inl ⟨rfl, Or.inl ⟨h1, h2, rfl⟩⟩
theorem MFlt.name (h1 : isNm (tK p i)) (h2 : ¬ okN z (tK p i)) : MFlt p z (i, S, false, C) 5 := Or.inl ⟨rfl, Or.inr (Or.inl ⟨h1, h2, rfl⟩)⟩
theorem MFlt.none (h1 : ¬ tK p i = 38) (h2 : ¬ isNm (tK p i)) (h3 : opK (tK p i) S < 0) : MFlt p z (i, S, false, C) 1 := Or.inl ⟨rfl, Or.inr (Or.inr (Or.inl ⟨h1, h2, h3, rfl⟩))⟩
theorem MFlt.full (h1 : 0 ≤ opK (tK p i) S) (h2 : 8 ≤ opC S) : MFlt p z (i, S, false, C) 3 := Or.inl ⟨rfl, Or.inr (Or.inr (Or.inr ⟨h1, h2, rfl⟩))⟩
theorem MFlt.beh (h1 : btO (tK p i) S < 0) (h2 : ptO (tK p i) S < 0) (h3 : 0 ≤ opN S) : MFlt p z (i, S, true, C) 1 := Or.inr ⟨rfl, h1, h2, h3, rfl⟩
theorem MStar.refl : MStar p z a a := ⟨0, rfl⟩
theorem MStar.step (h : MStep p z a b) (g : MStar p z b c) : MStar p z a c := by
  obtain ⟨n, g⟩ := g
  exact ⟨n + 1, b, h, g⟩
theorem MStN.trans : ∀ (n : Nat) {a : MSt}, MStN p z n a b → MStar p z b c → MStar p z a c
  | 0, a, h, g => by
    have h : a = b := h
    rw [h]
    exact g
  | n + 1, a, h, g => by
    obtain ⟨t, h1, h2⟩ := h
    exact MStar.step h1 (MStN.trans n h2 g)
theorem MStar.trans (h : MStar p z a b) (g : MStar p z b c) : MStar p z a c := by
  obtain ⟨n, h⟩ := h
  exact MStN.trans n h g
end SC
/-- it comes to this fault at this token (9: the reading was not long enough) -/
def Flt (p : Bts) (z : Int) (s : MSt) (c : Int) (i : Nat) : Prop := c = 9 ∨ ∃ t, MStar p z s t ∧ MFlt p z t c ∧ t.1 = i
def Hol (c cv : Int → Int) : Int → List (Int × Int) → Prop
  | _, [] => True
  | i, x :: r => (c i = x.1 ∧ cv i = x.2) ∧ Hol c cv (i + 1) r
/-- this code is this sum, this question -/
def LSeg (z : Int) (C : List (Int × Int)) (V : LEnv → Int) : Prop := ∀ (c cv : Int → Int) (i : Int), 0 ≤ i → Hol c cv i C → MSeg z c cv i (i + C.length) V
def LCnd (z : Int) (C : List (Int × Int)) (B : LEnv → Bool) : Prop := ∀ (c cv : Int → Int) (i : Int), 0 ≤ i → Hol c cv i C → MCnd z c cv i (i + C.length) B
section LS
variable {z : Int} {C C2 C3 : List (Int × Int)} {V V2 : LEnv → Int} {B B2 : LEnv → Bool} {c cv : Int → Int} {g k : Int}
theorem hol_app : ∀ (A : List (Int × Int)) {D : List (Int × Int)} {i : Int}, Hol c cv i (A ++ D) → Hol c cv i A ∧ Hol c cv (i + A.length) D
  | [], D, i, h => ⟨trivial, by rw [show i + (([] : List (Int × Int)).length : Int) = i by show i + 0 = i; omega]; exact h⟩
  | x :: r, D, i, h => by
    have ih := hol_app r h.2
    refine ⟨⟨h.1, ih.1⟩, ?_⟩
    rw [show i + ((x :: r).length : Int) = i + 1 + (r.length : Int) by show i + ((r.length + 1 : Nat) : Int) = _; omega]
    exact ih.2
theorem ln_app (A D : List (Int × Int)) (i : Int) : i + ((A ++ D).length : Int) = i + A.length + D.length := by rw [List.length_append]; omega
theorem ln_1 (A : List (Int × Int)) (x : Int × Int) (i : Int) : i + ((A ++ [x]).length : Int) = i + A.length + 1 := by rw [List.length_append]; show i + ((A.length + 1 : Nat) : Int) = _; omega
theorem LSeg.num (g0 : 0 ≤ g) (g1 : g ≤ 9999) : LSeg z [(0, g)] (fun _ => g) := fun _ _ _ i0 h => MSeg.num i0 h.1.1 h.1.2 g0 g1
theorem LSeg.name (hk : allow z k) : LSeg z [(1, k)] (fun E => E.1 k) := fun _ _ _ i0 h => MSeg.name i0 hk h.1.1 h.1.2
theorem LSeg.uno (H : LSeg z C V) {q : Int} (hp : q = 41 ∨ q = 10 ∨ q = 11) : LSeg z (C ++ [(umo q, 0)]) (fun E => uno q E (V E)) := fun c cv i i0 h => by
  have a := hol_app C h
  rw [ln_1]
  exact (H c cv i i0 a.1).uno hp a.2.1.1 a.2.1.2
theorem LSeg.two (H : LSeg z C V) (H2 : LSeg z C2 V2) {q : Int} (hp : q = 25 ∨ q = 26 ∨ q = 27 ∨ q = 28) : LSeg z (C ++ (C2 ++ [(q - 19, 0)])) (fun E => two q (V E) (V2 E)) := fun c cv i i0 h => by
  have a := hol_app C h
  have b := hol_app C2 a.2
  rw [ln_app, ln_1]
  exact (H c cv i i0 a.1).two (H2 c cv _ (by omega) b.1) hp b.2.1.1 b.2.1.2
theorem LSeg.cmp (H : LSeg z C V) (H2 : LSeg z C2 V2) {q : Int} (hp : q = 31 ∨ q = 36 ∨ q = 32 ∨ q = 37 ∨ q = 33 ∨ q = 34) : LCnd z (C ++ (C2 ++ [(cmo q, 0)])) (fun E => cmpB q (V E) (V2 E)) := fun c cv i i0 h => by
  have a := hol_app C h
  have b := hol_app C2 a.2
  rw [ln_app, ln_1]
  exact (H c cv i i0 a.1).cmp (H2 c cv _ (by omega) b.1) hp b.2.1.1 b.2.1.2
theorem LCnd.not (H : LCnd z C B) : LCnd z (C ++ [(20, 0)]) (fun E => !B E) := fun c cv i i0 h => by
  have a := hol_app C h
  rw [ln_1]
  exact (H c cv i i0 a.1).not a.2.1.1 a.2.1.2
theorem LCnd.and (H : LCnd z C B) (H2 : LCnd z C2 B2) : LCnd z (C ++ (C2 ++ [(21, 0)])) (fun E => B E && B2 E) := fun c cv i i0 h => by
  have a := hol_app C h
  have b := hol_app C2 a.2
  rw [ln_app, ln_1]
  exact (H c cv i i0 a.1).and (H2 c cv _ (by omega) b.1) b.2.1.1 b.2.1.2
theorem LCnd.or (H : LCnd z C B) (H2 : LCnd z C2 B2) : LCnd z (C ++ (C2 ++ [(22, 0)])) (fun E => B E || B2 E) := fun c cv i i0 h => by
  have a := hol_app C h
  have b := hol_app C2 a.2
  rw [ln_app, ln_1]
  exact (H c cv i i0 a.1).or (H2 c cv _ (by omega) b.1) b.2.1.1 b.2.1.2
theorem LSeg.ite (H : LCnd z C B) (H1 : LSeg z C2 V) (H2 : LSeg z C3 V2) : LSeg z (C ++ (C2 ++ (C3 ++ [(3, 0)]))) (fun E => if B E = true then V E else V2 E) := fun c cv i i0 h => by
  have a := hol_app C h
  have b := hol_app C2 a.2
  have d := hol_app C3 b.2
  rw [ln_app, ln_app, ln_1]
  exact MSeg.ite (H c cv i i0 a.1) (H1 c cv _ (by omega) b.1) (H2 c cv _ (by omega) d.1) d.2.1.1 d.2.1.2
end LS
section MM
variable {p : Bts} {z c l : Int} {a b s t : MSt} {i : Nat} {S P : List Int} {x : Int}
theorem MStar.one (h : MStep p z a b) : MStar p z a b := MStar.step h MStar.refl
theorem Flt.of (h : MStar p z s t) (g : Flt p z t c i) : Flt p z s c i := by
  rcases g with g | ⟨t2, g1, g2, g3⟩
  · exact Or.inl g
  · exact Or.inr ⟨t2, h.trans g1, g2, g3⟩
theorem Flt.now (h : MFlt p z s c) : Flt p z s c s.1 := Or.inr ⟨s, MStar.refl, h, rfl⟩
theorem em_app (A D : List Int) : em0 (A ++ D) = em0 A ++ em0 D := List.map_append
theorem stN_app : ∀ (P : List Int), (∀ x, x ∈ P → l ≤ rkO x) → stN l (P ++ S) = P.length + stN l S
  | [], _ => by show stN l S = 0 + _; omega
  | x :: r, h => by
    show stN l (x :: (r ++ S)) = _
    rw [stN, if_pos (h x (List.mem_cons_self ..)), stN_app r (fun y hy => h y (List.mem_cons_of_mem _ hy))]
    show _ = r.length + 1 + _
    omega
theorem stN_c (h : rkO x < l) : stN l (x :: S) = 0 := by rw [stN, if_neg (by omega)]
theorem st_app (h : ∀ x, x ∈ P → l ≤ rkO x) (h0 : stN l S = 0) : stk l (P ++ S) = P ∧ sdr l (P ++ S) = S := by
  unfold stk sdr
  rw [stN_app P h, h0, Nat.add_zero, List.take_left, List.drop_left]
  exact ⟨rfl, rfl⟩
theorem st_0 (h0 : stN l S = 0) : stk l S = [] ∧ sdr l S = S := by
  unfold stk sdr
  rw [h0]
  exact ⟨rfl, rfl⟩
theorem st_7c (h : rkO x = 7) : stk 7 (x :: S) = x :: stk 7 S ∧ sdr 7 (x :: S) = sdr 7 S := by
  unfold stk sdr
  rw [stN, if_pos (by omega)]
  exact ⟨rfl, rfl⟩
theorem rk_pos (h : 1 ≤ rkO x) : ¬ 40 ≤ x := fun g => by unfold rkO at h; rw [if_pos g] at h; omega
theorem opN_app : ∀ (P : List Int), (∀ x, x ∈ P → 1 ≤ rkO x) → opN (P ++ S) = opN S
  | [], _ => rfl
  | x :: r, h => by
    show opN (x :: (r ++ S)) = _
    rw [opN, if_neg (rk_pos (h x (List.mem_cons_self ..)))]
    exact opN_app r (fun y hy => h y (List.mem_cons_of_mem _ hy))
theorem cpd_app : ∀ (P : List Int), (∀ x, x ∈ P → 5 ≤ rkO x) → cpd (P ++ S) = cpd S
  | [], _ => rfl
  | x :: r, h => by
    show cpd (x :: (r ++ S)) = _
    rw [cpd, if_pos (by have := h x (List.mem_cons_self ..); omega)]
    exact cpd_app r (fun y hy => h y (List.mem_cons_of_mem _ hy))
theorem asks_ok (h : asks S = true) : opN S = 41 ∧ stN 5 S = 0 ∧ cpd S = false := by
  cases S with
  | nil => exact absurd h (by decide)
  | cons x r =>
    unfold asks at h
    simp only [Bool.and_eq_true, Bool.or_eq_true, decide_eq_true_eq] at h
    have rk : rkO x < 4 := by
      rcases h.2 with g | g
      · unfold rkO; rw [if_pos g]; omega
      · omega
    refine ⟨h.1, stN_c (by omega), ?_⟩
    rw [cpd, if_neg (by omega)]
    exact decide_eq_false (by omega)
theorem asks_c (h0 : opN S = 41) (h1 : 1 ≤ rkO x) (h3 : rkO x ≤ 3) : asks (x :: S) = true := by
  have e : opN (x :: S) = 41 := by
    show (if 40 ≤ x then x else opN S) = 41
    rw [if_neg (rk_pos h1), h0]
  show (decide (opN (x :: S) = 41) && _) = true
  rw [e]
  simp [h1, h3]
theorem asks_hi (h1 : 4 ≤ rkO x) : asks (x :: S) = false := by
  have := rk_pos (x := x) (by omega)
  have h3 : ¬ rkO x ≤ 3 := by omega
  unfold asks
  simp [this, h3]
theorem asks_op (h0 : 40 ≤ x) (h1 : x ≠ 41) : asks (x :: S) = false := by
  have e : opN (x :: S) = x := by
    show (if 40 ≤ x then x else opN S) = x
    rw [if_pos h0]
  show (decide (opN (x :: S) = 41) && _) = false
  rw [e]
  simp [h1]
end MM
