/-- from s on: one number, kept from the pile what binds less -/
def MR1 (p : Bts) (z : Int) (i : Nat) (S : List Int) (C0 : List (Int × Int)) (a : PO) : Prop :=
  (a.1 = 0 → ∃ C, MStar p z (i, S, false, C0) (a.2.1, sdr 7 S, true, C0 ++ (C ++ em0 (stk 7 S))) ∧ LSeg z C a.2.2.1) ∧ (¬ a.1 = 0 → Flt p z (i, S, false, C0) a.1 a.2.1)
def MRs (p : Bts) (z : Int) (s : MSt) (S : List Int) (C0 : List (Int × Int)) (l : Int) (Nx : Int → Prop) (a : PO) : Prop :=
  (a.1 = 0 → ∃ P C, MStar p z s (a.2.1, P ++ S, true, C0 ++ C) ∧ (∀ x, x ∈ P → l ≤ rkO x) ∧ LSeg z (C ++ em0 P) a.2.2.1 ∧ Nx (tK p a.2.1)) ∧ (¬ a.1 = 0 → Flt p z s a.1 a.2.1)
def MRq (p : Bts) (z : Int) (s : MSt) (S : List Int) (C0 : List (Int × Int)) (l : Int) (Nx : Int → Prop) (a : PO) : Prop :=
  (a.1 = 0 → ∃ P C, MStar p z s (a.2.1, P ++ S, true, C0 ++ C) ∧ (∀ x, x ∈ P → l ≤ rkO x) ∧ (LCnd z (C ++ em0 P) a.2.2.2 ∧ cpd (P ++ S) = true) ∧ Nx (tK p a.2.1)) ∧ (¬ a.1 = 0 → Flt p z s a.1 a.2.1)
def N2 (K : Int) : Prop := True ∧ ¬ (K = 27 ∨ K = 27 + 1)
def N4 (K : Int) : Prop := N2 K ∧ ¬ (K = 25 ∨ K = 25 + 1)
def N7 (K : Int) : Prop := N4 K ∧ ¬ K = 17
def N9 (K : Int) : Prop := N7 K ∧ ¬ K = 16
section MN
variable {p : Bts} {z l m lo k o : Int} {s t : MSt} {S : List Int} {C0 : List (Int × Int)} {Nx Ni : Int → Prop} {a : PO} {R : PR} {x y : Nat}
theorem MRs.of (h : MStar p z s t) (g : MRs p z t S C0 l Nx a) : MRs p z s S C0 l Nx a :=
  ⟨fun h0 => by obtain ⟨P, C, g1, g2⟩ := g.1 h0; exact ⟨P, C, h.trans g1, g2⟩, fun h0 => Flt.of h (g.2 h0)⟩
theorem MRq.of (h : MStar p z s t) (g : MRq p z t S C0 l Nx a) : MRq p z s S C0 l Nx a :=
  ⟨fun h0 => by obtain ⟨P, C, g1, g2⟩ := g.1 h0; exact ⟨P, C, h.trans g1, g2⟩, fun h0 => Flt.of h (g.2 h0)⟩
theorem MRs.flt (h0 : ¬ a.1 = 0) (g : Flt p z s a.1 a.2.1) : MRs p z s S C0 l Nx a := ⟨fun h => absurd h h0, fun _ => g⟩
theorem MRq.flt (h0 : ¬ a.1 = 0) (g : Flt p z s a.1 a.2.1) : MRq p z s S C0 l Nx a := ⟨fun h => absurd h h0, fun _ => g⟩
theorem MR1.flt {i : Nat} (h0 : ¬ a.1 = 0) (g : Flt p z (i, S, false, C0) a.1 a.2.1) : MR1 p z i S C0 a := ⟨fun h => absurd h h0, fun _ => g⟩
theorem stN_mono (h : stN l S = 0) (hm : l ≤ m) : stN m S = 0 := by
  cases S with
  | nil => rfl
  | cons x r =>
    rw [stN] at h ⊢
    by_cases c : l ≤ rkO x
    · rw [if_pos c] at h; omega
    · rw [if_neg (by omega)]
theorem opC_0 {x : Int} (h : rkO x ≠ 7) (h2 : x ≠ 20) (h3 : ¬ 40 ≤ x) : opC (x :: S) = opC S := by
  rw [opC, if_neg (fun g => g.elim h (fun g => g.elim h2 h3))]; omega
theorem opC_1 {x : Int} (h : rkO x = 7 ∨ x = 20 ∨ 40 ≤ x) : opC (x :: S) = opC S + 1 := by rw [opC, if_pos h]
theorem MR1.to {i : Nat} (h : MR1 p z i S C0 a) (h0 : stN 7 S = 0) : MRs p z (i, S, false, C0) S C0 7 (fun _ => True) a := by
  refine ⟨fun a0 => ?_, h.2⟩
  obtain ⟨C, g, L⟩ := h.1 a0
  rw [(st_0 h0).1, (st_0 h0).2] at g
  refine ⟨[], C, ?_, fun x hx => absurd hx (List.not_mem_nil), ?_, trivial⟩
  · show MStar p z _ (_, S, true, C0 ++ C)
    have e : C0 ++ (C ++ em0 []) = C0 ++ C := by show C0 ++ (C ++ []) = _; rw [List.append_nil]
    rw [e] at g
    exact g
  · show LSeg z (C ++ []) _
    rw [List.append_nil]
    exact L
/-- the loop of signs between two numbers -/
theorem mz_two (hm : l < m) (h5 : 5 ≤ l ∧ l ≤ 6) (hr : ∀ K, K = lo ∨ K = lo + 1 → (0 ≤ K - 19 ∧ K - 19 < 10 ∧ rkO (K - 19) = l ∧ rkB (K - 19) = l ∧ ∀ S, btO K S = K - 19) ∧ (K = 25 ∨ K = 26 ∨ K = 27 ∨ K = 28))
    (Hin : ∀ i S C0, stN m S = 0 → (tK p i = 18 → asks S = false) → MRs p z (i, S, false, C0) S C0 m Ni (R x i (opC S) V0 B0))
    (Hl : ∀ i S C0 P C V B, stN l S = 0 → (∀ x, x ∈ P → l ≤ rkO x) → Ni (tK p i) → LSeg z (C ++ em0 P) V → MRs p z (i, P ++ S, true, C0 ++ C) S C0 l (fun K => Ni K ∧ ¬ (K = lo ∨ K = lo + 1)) (R y i (opC S) V B))
    (i : Nat) (S : List Int) (C0 : List (Int × Int)) (P : List Int) (C : List (Int × Int)) (V : LEnv → Int) (hS : stN l S = 0) (hP : ∀ x, x ∈ P → l ≤ rkO x) (hN : Ni (tK p i)) (hL : LSeg z (C ++ em0 P) V) :
    MRs p z (i, P ++ S, true, C0 ++ C) S C0 l (fun K => Ni K ∧ ¬ (K = lo ∨ K = lo + 1)) (pTwo p R x y lo i (opC S) V) := by
  unfold pTwo
  by_cases c : tK p i = lo ∨ tK p i = lo + 1
  · rw [if_pos c]
    obtain ⟨⟨k0, k1, k2, k3, k4⟩, k5⟩ := hr _ c
    have st := MStep.bet (p := p) (z := z) (C := C0 ++ C) (i := i) (S := P ++ S) (by rw [k4]; exact k0)
    rw [k4, k3, (st_app hP hS).1, (st_app hP hS).2] at st
    generalize hK : tK p i = K at *
    have oc : opC ((K - 19) :: S) = opC S := opC_0 (by omega) (by omega) (by omega)
    have h := Hin (i + 1) ((K - 19) :: S) (C0 ++ C ++ em0 P) (stN_c (by omega)) (fun _ => asks_hi (by omega))
    rw [oc] at h
    generalize R x (i + 1) (opC S) V0 B0 = a at h ⊢
    by_cases a0 : a.1 = 0
    · rw [if_pos a0]
      obtain ⟨P2, C2, g1, g2, g3, g4⟩ := h.1 a0
      have e1 : P2 ++ (K - 19) :: S = (P2 ++ [K - 19]) ++ S := by simp only [List.append_assoc, List.cons_append, List.nil_append]
      have e2 : C0 ++ C ++ em0 P ++ C2 = C0 ++ (C ++ em0 P ++ C2) := by simp only [List.append_assoc]
      rw [e1, e2] at g1
      refine MRs.of ((MStar.one st).trans g1) (Hl a.2.1 S C0 (P2 ++ [K - 19]) (C ++ em0 P ++ C2) (fun E => two K (V E) (a.2.2.1 E)) B0 hS (fun x hx => ?_) g4 ?_)
      · rcases List.mem_append.mp hx with q | q
        · have := g2 x q; omega
        · rw [List.mem_singleton.mp q]; omega
      · have e3 : C ++ em0 P ++ C2 ++ em0 (P2 ++ [K - 19]) = (C ++ em0 P) ++ ((C2 ++ em0 P2) ++ [(K - 19, 0)]) := by
          rw [em_app]; simp only [List.append_assoc]; rfl
        rw [e3]
        exact hL.two g3 k5
    · rw [if_neg a0]
      exact MRs.flt a0 (Flt.of (MStar.one st) (h.2 a0))
  · rw [if_neg c]
    exact ⟨fun _ => ⟨P, C, MStar.refl, hP, hL, hN, c⟩, fun h => absurd rfl h⟩
theorem ms_then {No : Int → Prop} (hm : l ≤ m)
    (Hin : ∀ i S C0, stN m S = 0 → (tK p i = 18 → asks S = false) → MRs p z (i, S, false, C0) S C0 m Ni (R x i (opC S) V0 B0))
    (Hl : ∀ i S C0 P C V B, stN l S = 0 → (∀ x, x ∈ P → l ≤ rkO x) → Ni (tK p i) → LSeg z (C ++ em0 P) V → MRs p z (i, P ++ S, true, C0 ++ C) S C0 l No (R y i (opC S) V B))
    (i : Nat) (S : List Int) (C0 : List (Int × Int)) (hS : stN l S = 0) (h18 : tK p i = 18 → asks S = false) : MRs p z (i, S, false, C0) S C0 l No (pThen R x y i (opC S)) := by
  unfold pThen
  have h := Hin i S C0 (stN_mono hS hm) h18
  generalize R x i (opC S) V0 B0 = a at h ⊢
  by_cases a0 : a.1 = 0
  · rw [if_pos a0]
    obtain ⟨P2, C2, g1, g2, g3, g4⟩ := h.1 a0
    exact MRs.of g1 (Hl a.2.1 S C0 P2 C2 a.2.2.1 a.2.2.2 hS (fun x hx => Int.le_trans hm (g2 x hx)) g4 g3)
  · rw [if_neg a0]
    exact MRs.flt a0 (h.2 a0)
/-- the loop of and, of or -/
theorem mz_join (hk : (k = 17 ∧ o = 21 ∧ l = 2 ∧ m = 3) ∨ (k = 16 ∧ o = 22 ∧ l = 1 ∧ m = 2))
    (Hin : ∀ i S C0, asks S = true → stN m S = 0 → MRq p z (i, S, false, C0) S C0 m Ni (R x i (opC S) V0 B0))
    (Hl : ∀ i S C0 P C V B, asks S = true → stN l S = 0 → (∀ x, x ∈ P → l ≤ rkO x) → Ni (tK p i) → LCnd z (C ++ em0 P) B → cpd (P ++ S) = true → MRq p z (i, P ++ S, true, C0 ++ C) S C0 l (fun K => Ni K ∧ ¬ K = k) (R y i (opC S) V B))
    (i : Nat) (S : List Int) (C0 : List (Int × Int)) (P : List Int) (C : List (Int × Int)) (B : LEnv → Bool) (ha : asks S = true) (hS : stN l S = 0) (hP : ∀ x, x ∈ P → l ≤ rkO x) (hN : Ni (tK p i)) (hL : LCnd z (C ++ em0 P) B) (hc : cpd (P ++ S) = true) :
    MRq p z (i, P ++ S, true, C0 ++ C) S C0 l (fun K => Ni K ∧ ¬ K = k) (pJoin p R x y k i (opC S) B) := by
  unfold pJoin
  have l1 : 1 ≤ l := by omega
  have on := opN_app (S := S) P (fun x hx => Int.le_trans l1 (hP x hx))
  rw [(asks_ok ha).1] at on
  by_cases c : tK p i = k
  · rw [if_pos c]
    have bt : btO (tK p i) (P ++ S) = o := by
      unfold btO
      rw [c, if_neg (by omega), if_neg (by omega), if_neg (by omega), if_neg (by omega), if_pos on, if_pos hc]
      rcases hk with ⟨rfl, rfl, _⟩ | ⟨rfl, rfl, _⟩ <;> decide
    have hr : rkB o = l ∧ rkO o = l ∧ 0 ≤ o ∧ o < 40 ∧ o ≠ 20 ∧ l ≤ 2 ∧ l < m := by rcases hk with ⟨rfl, rfl, rfl, rfl⟩ | ⟨rfl, rfl, rfl, rfl⟩ <;> decide
    have st := MStep.bet (p := p) (z := z) (C := C0 ++ C) (i := i) (S := P ++ S) (by rw [bt]; exact hr.2.2.1)
    rw [bt, hr.1, (st_app hP hS).1, (st_app hP hS).2] at st
    have oc : opC (o :: S) = opC S := opC_0 (by omega) (by omega) (by omega)
    have h := Hin (i + 1) (o :: S) (C0 ++ C ++ em0 P) (asks_c (asks_ok ha).1 (by omega) (by omega)) (stN_c (by omega))
    rw [oc] at h
    generalize R x (i + 1) (opC S) V0 B0 = a at h ⊢
    by_cases a0 : a.1 = 0
    · rw [if_pos a0]
      obtain ⟨P2, C2, g1, g2, ⟨g3, g5⟩, g4⟩ := h.1 a0
      have e1 : P2 ++ o :: S = (P2 ++ [o]) ++ S := by simp only [List.append_assoc, List.cons_append, List.nil_append]
      have e2 : C0 ++ C ++ em0 P ++ C2 = C0 ++ (C ++ em0 P ++ C2) := by simp only [List.append_assoc]
      rw [e1, e2] at g1
      rw [e1] at g5
      refine MRq.of ((MStar.one st).trans g1) (Hl a.2.1 S C0 (P2 ++ [o]) (C ++ em0 P ++ C2) V0 _ ha hS (fun x hx => ?_) g4 ?_ g5)
      · rcases List.mem_append.mp hx with q | q
        · have := g2 x q; omega
        · rw [List.mem_singleton.mp q]; omega
      · have e3 : C ++ em0 P ++ C2 ++ em0 (P2 ++ [o]) = (C ++ em0 P) ++ ((C2 ++ em0 P2) ++ [(o, 0)]) := by
          rw [em_app]; simp only [List.append_assoc]; rfl
        rw [e3]
        rcases hk with ⟨rfl, rfl, _⟩ | ⟨rfl, rfl, _⟩
        · have := hL.and g3
          exact this
        · have := hL.or g3
          exact this
    · rw [if_neg a0]
      exact MRq.flt a0 (Flt.of (MStar.one st) (h.2 a0))
  · rw [if_neg c]
    exact ⟨fun _ => ⟨P, C, MStar.refl, hP, ⟨hL, hc⟩, hN, c⟩, fun h => absurd rfl h⟩
theorem ms_thenq {No : Int → Prop} (hm : l ≤ m)
    (Hin : ∀ i S C0, asks S = true → stN m S = 0 → MRq p z (i, S, false, C0) S C0 m Ni (R x i (opC S) V0 B0))
    (Hl : ∀ i S C0 P C V B, asks S = true → stN l S = 0 → (∀ x, x ∈ P → l ≤ rkO x) → Ni (tK p i) → LCnd z (C ++ em0 P) B → cpd (P ++ S) = true → MRq p z (i, P ++ S, true, C0 ++ C) S C0 l No (R y i (opC S) V B))
    (i : Nat) (S : List Int) (C0 : List (Int × Int)) (ha : asks S = true) (hS : stN l S = 0) : MRq p z (i, S, false, C0) S C0 l No (pThen R x y i (opC S)) := by
  unfold pThen
  have h := Hin i S C0 ha (stN_mono hS hm)
  generalize R x i (opC S) V0 B0 = a at h ⊢
  by_cases a0 : a.1 = 0
  · rw [if_pos a0]
    obtain ⟨P2, C2, g1, g2, ⟨g3, g5⟩, g4⟩ := h.1 a0
    exact MRq.of g1 (Hl a.2.1 S C0 P2 C2 a.2.2.1 a.2.2.2 ha hS (fun x hx => Int.le_trans hm (g2 x hx)) g4 g3 g5)
  · rw [if_neg a0]
    exact MRq.flt a0 (h.2 a0)
theorem cp_ok {K : Int} (h : isCp K) : cpO K = cmo K ∧ 10 ≤ cmo K ∧ cmo K ≤ 15 ∧ (K = 31 ∨ K = 36 ∨ K = 32 ∨ K = 37 ∨ K = 33 ∨ K = 34) := by
  rcases (show K = 31 ∨ K = 36 ∨ K = 32 ∨ K = 37 ∨ K = 33 ∨ K = 34 by omega) with rfl | rfl | rfl | rfl | rfl | rfl <;> decide
theorem cp_no {K : Int} (h : ¬ isCp K) : cpO K = -1 := by
  unfold cpO
  repeat rw [if_neg (by omega)]
theorem rk_cmp {x : Int} (h0 : 10 ≤ x) (h1 : x ≤ 15) : rkO x = 4 := by
  unfold rkO
  rw [if_neg (by omega), if_neg (by omega), if_neg (by omega), if_neg (by omega), if_pos h0]
theorem ms_ask
    (H3 : ∀ i S C0, stN 5 S = 0 → (tK p i = 18 → asks S = false) → MRs p z (i, S, false, C0) S C0 5 N4 (R 3 i (opC S) V0 B0))
    (H5 : ∀ i S C0, asks S = true → MRq p z (i, S, false, C0) S C0 3 N4 (R 5 i (opC S) V0 B0))
    (i : Nat) (S : List Int) (C0 : List (Int × Int)) (ha : asks S = true) : MRq p z (i, S, false, C0) S C0 3 N4 (pAsk p R i (opC S)) := by
  have as := asks_ok ha
  unfold pAsk
  by_cases c : tK p i = 18
  · rw [if_pos c]
    have ok : opK (tK p i) S = 20 := by rw [c]; unfold opK; rw [ha]; decide
    by_cases c8 : 8 ≤ opC S
    · rw [if_pos c8]
      exact MRq.flt (pF_ne (by decide)) (Flt.now (MFlt.full (by rw [ok]; decide) c8))
    · rw [if_neg c8]
      have st := MStep.opn (p := p) (z := z) (C := C0) (i := i) (S := S) (by rw [ok]; decide) (by omega)
      rw [ok] at st
      have h := H5 (i + 1) (20 :: S) C0 (asks_c as.1 (by decide) (by decide))
      rw [opC_1 (Or.inr (Or.inl rfl))] at h
      generalize R 5 (i + 1) (opC S + 1) V0 B0 = a at h ⊢
      by_cases a0 : a.1 = 0
      · rw [if_pos a0]
        obtain ⟨P2, C2, g1, g2, ⟨g3, g5⟩, g4⟩ := h.1 a0
        have e1 : P2 ++ (20 : Int) :: S = (P2 ++ [20]) ++ S := by simp only [List.append_assoc, List.cons_append, List.nil_append]
        rw [e1] at g1 g5
        refine ⟨fun _ => ⟨P2 ++ [20], C2, (MStar.one st).trans g1, fun x hx => ?_, ⟨?_, g5⟩, g4⟩, fun h => absurd rfl h⟩
        · rcases List.mem_append.mp hx with q | q
          · exact g2 x q
          · rw [List.mem_singleton.mp q]; decide
        · have e3 : C2 ++ em0 (P2 ++ [20]) = (C2 ++ em0 P2) ++ [(20, 0)] := by
            rw [em_app]; simp only [List.append_assoc]; rfl
          rw [e3]
          exact g3.not
      · rw [if_neg a0]
        exact MRq.flt a0 (Flt.of (MStar.one st) (h.2 a0))
  · rw [if_neg c]
    have h := H3 i S C0 as.2.1 (fun g => absurd g c)
    generalize R 3 i (opC S) V0 B0 = a at h ⊢
    by_cases a0 : a.1 = 0
    · rw [if_pos a0]
      obtain ⟨P, C, g1, g2, g3, g4⟩ := h.1 a0
      have on := opN_app (S := S) P (fun x hx => by have := g2 x hx; omega)
      have oc := cpd_app (S := S) P g2
      rw [as.1] at on
      rw [as.2.2] at oc
      have nn : ¬ (tK p a.2.1 = 25) ∧ ¬ (tK p a.2.1 = 26) ∧ ¬ (tK p a.2.1 = 27) ∧ ¬ (tK p a.2.1 = 28) := by unfold N4 N2 at g4; omega
      have bt : btO (tK p a.2.1) (P ++ S) = cpO (tK p a.2.1) := by
        unfold btO
        rw [if_neg nn.1, if_neg nn.2.1, if_neg nn.2.2.1, if_neg nn.2.2.2, if_pos on, oc, if_neg (by decide)]
      by_cases cp : isCp (tK p a.2.1)
      · rw [if_pos cp]
        obtain ⟨q1, q2, q3, q4⟩ := cp_ok cp
        have rk := rk_cmp q2 q3
        have rb : rkB (cmo (tK p a.2.1)) = 5 := by unfold rkB; rw [if_pos rk]
        rw [q1] at bt
        have st := MStep.bet (p := p) (z := z) (C := C0 ++ C) (i := a.2.1) (S := P ++ S) (by rw [bt]; omega)
        rw [bt, rb, (st_app g2 as.2.1).1, (st_app g2 as.2.1).2] at st
        have h2 := H3 (a.2.1 + 1) (cmo (tK p a.2.1) :: S) (C0 ++ C ++ em0 P) (stN_c (by omega)) (fun _ => asks_hi (by omega))
        rw [opC_0 (by omega) (by omega) (by omega)] at h2
        generalize R 3 (a.2.1 + 1) (opC S) V0 B0 = b at h2 ⊢
        by_cases b0 : b.1 = 0
        · rw [if_pos b0]
          obtain ⟨P2, C2, f1, f2, f3, f4⟩ := h2.1 b0
          have oc2 := cpd_app (S := cmo (tK p a.2.1) :: S) P2 f2
          rw [cpd, if_neg (by omega), decide_eq_true rk] at oc2
          have e1 : P2 ++ cmo (tK p a.2.1) :: S = (P2 ++ [cmo (tK p a.2.1)]) ++ S := by simp only [List.append_assoc, List.cons_append, List.nil_append]
          have e2 : C0 ++ C ++ em0 P ++ C2 = C0 ++ (C ++ em0 P ++ C2) := by simp only [List.append_assoc]
          rw [e1, e2] at f1
          rw [e1] at oc2
          refine ⟨fun _ => ⟨P2 ++ [cmo (tK p a.2.1)], C ++ em0 P ++ C2, (g1.trans (MStar.one st)).trans f1, fun x hx => ?_, ⟨?_, oc2⟩, f4⟩, fun h => absurd rfl h⟩
          · rcases List.mem_append.mp hx with q | q
            · have := f2 x q; omega
            · rw [List.mem_singleton.mp q]; omega
          · have e3 : C ++ em0 P ++ C2 ++ em0 (P2 ++ [cmo (tK p a.2.1)]) = (C ++ em0 P) ++ ((C2 ++ em0 P2) ++ [(cmo (tK p a.2.1), 0)]) := by
              rw [em_app]; simp only [List.append_assoc]; rfl
            rw [e3]
            exact g3.cmp f3 q4
        · rw [if_neg b0]
          exact MRq.flt b0 (Flt.of (g1.trans (MStar.one st)) (h2.2 b0))
      · rw [if_neg cp]
        rw [cp_no cp] at bt
        refine MRq.flt (pF_ne (by decide)) (Flt.of g1 (Flt.now (MFlt.beh (by rw [bt]; decide) ?_ (by rw [on]; decide))))
        unfold ptO
        rw [on, oc]
        rw [if_neg (by decide), if_pos rfl, if_neg (fun h => absurd h.2 (by decide))]
        decide
    · rw [if_neg a0]
      exact MRq.flt a0 (h.2 a0)
end MN
