/-! what was there before and is an int row stays as it is, whatever runs -/
def KP (M M' : am_M) : Prop := ∀ a, 1000000 ≤ a → (M.2.2.1 a).1 = 5 → ¬ (M.2.2.1 a).2 = 0 → M'.2.2.1 a = M.2.2.1 a ∧ M'.2.2.2.1 a = M.2.2.2.1 a
theorem KP.refl {M : am_M} : KP M M := fun _ _ _ _ => ⟨rfl, rfl⟩
theorem KP.trans {M M' M'' : am_M} (h : KP M M') (g : KP M' M'') : KP M M'' := fun a h1 h2 h3 => by
  obtain ⟨e1, e2⟩ := h a h1 h2 h3
  obtain ⟨e3, e4⟩ := g a h1 (by rw [e1]; exact h2) (by rw [e1]; exact h3)
  exact ⟨e3.trans e1, e4.trans e2⟩
theorem kp_up {L T : Nat} {S : Nat → Nat × Nat} {u : Nat → Nat → Int32} {v v' : Nat → Nat → Int64} {r r' : Nat → Nat → Option Nat} {a j : Nat} {x : Int32} (h : (S a).1 ≠ 5 ∨ (S a).2 = 0) : KP (L, T, S, u, v, r) (L, T, S, am_up u a j x, v', r') := fun b h1 h2 h3 => by
  refine ⟨rfl, ?_⟩
  funext k
  show (if b = a ∧ k = j then x else u b k) = u b k
  rw [if_neg]
  rintro ⟨rfl, _⟩
  rcases h with h | h
  · exact h h2
  · exact h3 h
theorem kp_row {L T : Nat} {S : Nat → Nat × Nat} {u : Nat → Nat → Int32} {v v' : Nat → Nat → Int64} {r r' : Nat → Nat → Option Nat} {a : Nat} {g : Nat → Int32} (h : (S a).1 ≠ 5 ∨ (S a).2 = 0) : KP (L, T, S, u, v, r) (L, T, S, am_row u a g, v', r') := fun b h1 h2 h3 => by
  refine ⟨rfl, ?_⟩
  show (if b = a then g else u b) = u b
  rw [if_neg]
  rintro rfl
  rcases h with h | h
  · exact h h2
  · exact h3 h
theorem kp_new {L T L' T' : Nat} {S : Nat → Nat × Nat} {u : Nat → Nat → Int32} {v v' : Nat → Nat → Int64} {r r' : Nat → Nat → Option Nat} {q : Nat × Nat} {g : Nat → Int32} (h : L < 900000) : KP (L, T, S, u, v, r) (L', T', am_sh S L q, am_row u L g, v', r') := fun b h1 h2 h3 => by
  refine ⟨?_, ?_⟩
  · show (if b = L then q else S b) = S b
    rw [if_neg (by omega)]
  · show (if b = L then g else u b) = u b
    rw [if_neg (by omega)]
theorem kp_same {M M' : am_M} (h1 : M'.2.2.1 = M.2.2.1) (h2 : M'.2.2.2.1 = M.2.2.2.1) : KP M M' := fun _ _ _ _ => ⟨by rw [h1], by rw [h2]⟩
set_option maxHeartbeats 4000000 in
theorem ex_keep {i : Instr} {x y : Nat} {z : Int} {loc : am_L} {stk : List Value} {M : am_M} {q : am_L × List Value × am_M} (h : am_ex i x y z loc stk M = some q) : KP M q.2.2 := by
  obtain ⟨L, T, S, u, v, r⟩ := M
  unfold am_ex am_ldi am_ldl am_lda am_sti am_sta am_stl am_bi am_bl at h
  repeat' split at h
  all_goals first
    | (cases h; done)
    | (cases h; exact KP.refl)
    | (cases h; exact kp_same rfl rfl)
    | (rename_i hin; cases h; exact kp_up (Or.inl (fun e => absurd (hin.1.symm.trans e) (by decide))))
    | (rename_i hin; cases h; exact kp_up (Or.inl (fun e => absurd (hin.1.1.symm.trans e) (by decide))))
    | (rename_i hin; cases h; exact kp_up (Or.inr (congrArg Prod.snd hin.1)))
    | (rename_i hin; cases h; exact kp_row (Or.inl (fun e => absurd (hin.1.1.symm.trans e) (by decide))))
    | (rename_i hin; cases h; exact kp_new hin)
    | (rename_i hin; cases h; exact kp_new hin.2.2)
theorem act_keep {m : Nat} {o : am_op} {rest : List am_op} {loc : am_L} {stk : List Value} {M : am_M} {A : am_Act} (h : am_act m o rest loc stk M = some A) : (∀ q, A = .inl q → KP M q.2.2.2) ∧ (∀ q, A = .inr (.inl q) → KP M q.2) := by
  have ex : ∀ {B : am_Act}, (am_ex o.1 o.2.1 o.2.2.1 o.2.2.2 loc stk M).bind (fun q => some (.inl (rest, q.1, q.2.1, q.2.2) : am_Act)) = some B → (∀ q, B = .inl q → KP M q.2.2.2) ∧ (∀ q, B = .inr (.inl q) → KP M q.2) := by
    intro B hB
    obtain ⟨t, h1, h2⟩ := Option.bind_eq_some_iff.mp hB
    cases h2
    exact ⟨fun q hq => (by cases hq; exact ex_keep h1), fun q hq => by cases hq⟩
  have cl : ∀ {B : am_Act} {n : Nat} {f : List Value × List Value → Option am_Act}, (∀ t B, f t = some B → ∃ c, B = .inr (.inr c)) → (am_cl stk n).bind f = some B → (∀ q, B = .inl q → KP M q.2.2.2) ∧ (∀ q, B = .inr (.inl q) → KP M q.2) := by
    intro B n f hf hB
    obtain ⟨t, h1, h2⟩ := Option.bind_eq_some_iff.mp hB
    obtain ⟨c, rfl⟩ := hf t B h2
    exact ⟨fun q hq => (by cases hq), fun q hq => (by cases hq)⟩
  unfold am_act at h
  split at h
  all_goals repeat' split at h
  all_goals first
    | exact ex h
    | (cases h; done)
    | (cases h; exact ⟨fun q hq => (by cases hq; exact KP.refl), fun q hq => by cases hq⟩)
    | (cases h; exact ⟨fun q hq => (by cases hq), fun q hq => (by cases hq; exact KP.refl)⟩)
    | (refine cl ?_ h
       intro t B hB
       repeat' split at hB
       all_goals first | (cases hB; done) | (cases hB; exact ⟨_, rfl⟩))
theorem rf_keep : ∀ (n d m : Nat) (ops : List am_op) (loc : am_L) (stk : List Value) (M : am_M) (r : Option Value × am_M), am_rf n d m ops loc stk M = some r → KP M r.2
  | 0, _, _, _, _, _, _, _, h => by cases h
  | n + 1, d, m, ops, loc, stk, M, r, h => by
    have h : am_F (am_rf n) d m ops loc stk M = some r := h
    unfold am_F at h
    cases ops with
    | nil => cases h
    | cons o rest =>
      dsimp only at h
      cases ha : am_act m o rest loc stk M with
      | none => rw [ha] at h; cases h
      | some q =>
        rw [ha] at h
        have k := act_keep ha
        rcases q with q | q | q
        · exact (k.1 q rfl).trans (rf_keep n _ _ _ _ _ _ _ h)
        · have h : some q = some r := h
          cases h
          exact k.2 _ rfl
        · cases d with
          | zero => cases h
          | succ d' =>
            dsimp only at h
            obtain ⟨w, h1, h2⟩ := Option.bind_eq_some_iff.mp h
            exact (rf_keep n _ _ _ _ _ _ _ h1).trans (rf_keep n _ _ _ _ _ _ _ h2)
theorem call_keep {d m : Nat} {vs : List Value} {M : am_M} {r : Option Value × am_M} (h : am_call d m vs M = some r) : KP M r.2 := by
  obtain ⟨n, hn⟩ := (am_run_iff r).mp h
  exact rf_keep n _ _ _ _ _ _ _ hn
