/-! how the abstract memory lies in the heap -/
def am_ad (b : Nat) (st : Nat → Nat) (a : Nat) : Nat := if a < 1000000 then b + a else st (a - 1000000)
def am_cv (b : Nat) (st : Nat → Nat) (v : Value) : Value := match v with
  | .ref a => .ref (am_ad b st a)
  | v => v
theorem am_cv_cat (b : Nat) (st : Nat → Nat) (v : Value) : (am_cv b st v).category = v.category := by cases v <;> rfl
def am_rv (b : Nat) (st : Nat → Nat) (r : Option Nat) : Value := match r with
  | none => .null
  | some a => .ref (am_ad b st a)
def am_fv (b : Nat) (st : Nat → Nat) (t : FieldType) (x : Int32) (y : Int64) (r : Option Nat) : Value := match t with
  | .long => .long y
  | .object _ => am_rv b st r
  | .array _ => am_rv b st r
  | _ => .int x
def am_av (b : Nat) (st : Nat → Nat) (t : Nat) (f : Nat → Int32) (g : Nat → Int64) (r : Nat → Option Nat) (j : Nat) : Value :=
  if t = 1 then .long (g j) else if t = 3 ∨ t = 4 then am_rv b st (r j) else .int (f j)
def am_at (D : va_G) (Ac : Nat → ClassId) (b : Nat) (st : Nat → Nat) (q : Nat × Nat) (f : Nat → Int32) (g : Nat → Int64) (r : Nat → Option Nat) (a : Nat) (H : Heap) : Prop :=
  (q.1 < 5 ∧ H[b + a]? = some (arrV (Ac q.1) q.2 (am_av b st q.1 f g r))) ∨
  (10 ≤ q.1 ∧ q.1 < 23 ∧ t_OB (b + a) (D.1 (q.1 - 10)) (am_NN (q.1 - 10)) (D.2 (q.1 - 10)) H (fun k => am_fv b st (am_ty (q.1 - 10) k) (f k) (g k) (r k)))
def am_Rp (D : va_G) (Ac : Nat → ClassId) (b : Nat) (st : Nat → Nat) (HB : Heap) (zS : Nat → Nat × Nat) (zu : Nat → Nat → Int32) (M : am_M) (H : Heap) : Prop :=
  H.size = b + M.1 ∧ M.1 ≤ 900000 ∧ (∀ q : Nat, q < b → H[q]? = HB[q]?) ∧ (∀ a, a < M.1 → am_at D Ac b st (M.2.2.1 a) (M.2.2.2.1 a) (M.2.2.2.2.1 a) (M.2.2.2.2.2 a) a H) ∧
  (∀ a, M.1 ≤ a → a < 1000000 → (M.2.2.1 a).1 = 999) ∧ (∀ a, 1000000 ≤ a → M.2.2.1 a = zS a ∧ M.2.2.2.1 a = zu a)
def am_zok (zS : Nat → Nat × Nat) : Prop := ∀ a, (zS a).1 = 5 ∨ (zS a).1 = 7 ∨ (zS a).1 = 999
section REP
variable {D : va_G} {Ac : Nat → ClassId} {b : Nat} {st : Nat → Nat} {HB : Heap} {zS : Nat → Nat × Nat} {zu : Nat → Nat → Int32} {M : am_M} {H : Heap}
theorem am_Rp.lt (h : am_Rp D Ac b st HB zS zu M H) (hz : am_zok zS) {a : Nat} (h5 : (M.2.2.1 a).1 ≠ 5) (h7 : (M.2.2.1 a).1 ≠ 7) (h9 : (M.2.2.1 a).1 ≠ 999) : a < M.1 := by
  obtain ⟨-, -, -, -, h1, h2⟩ := h
  rcases Nat.lt_or_ge a M.1 with h | h
  · exact h
  · rcases Nat.lt_or_ge a 1000000 with g | g
    · exact absurd (h1 a h g) h9
    · rcases hz a with k | k | k
      · exact absurd (by rw [(h2 a g).1]; exact k) h5
      · exact absurd (by rw [(h2 a g).1]; exact k) h7
      · exact absurd (by rw [(h2 a g).1]; exact k) h9
theorem am_Rp.ad (h : am_Rp D Ac b st HB zS zu M H) {a : Nat} (ha : a < M.1) : am_ad b st a = b + a := by
  unfold am_ad
  rw [if_pos (by have := h.2.1; omega)]
theorem am_Rp.arr (h : am_Rp D Ac b st HB zS zu M H) (hz : am_zok zS) {a t : Nat} (ht : (M.2.2.1 a).1 = t) (h5 : t < 5) : a < M.1 ∧ am_ad b st a = b + a ∧ H[b + a]? = some (arrV (Ac t) (M.2.2.1 a).2 (am_av b st t (M.2.2.2.1 a) (M.2.2.2.2.1 a) (M.2.2.2.2.2 a))) := by
  have ha := h.lt hz (a := a) (by omega) (by omega) (by omega)
  refine ⟨ha, h.ad ha, ?_⟩
  rcases h.2.2.2.1 a ha with ⟨-, g⟩ | ⟨g, -⟩
  · rw [ht] at g; exact g
  · omega
theorem am_Rp.obj (h : am_Rp D Ac b st HB zS zu M H) (hz : am_zok zS) {a x : Nat} (ht : M.2.2.1 a = (x, 0)) (h5 : 10 ≤ x) (h6 : x < 23) : a < M.1 ∧ am_ad b st a = b + a ∧ t_OB (b + a) (D.1 (x - 10)) (am_NN (x - 10)) (D.2 (x - 10)) H (fun k => am_fv b st (am_ty (x - 10) k) (M.2.2.2.1 a k) (M.2.2.2.2.1 a k) (M.2.2.2.2.2 a k)) := by
  have hx : (M.2.2.1 a).1 = x := by rw [ht]
  have ha := h.lt hz (a := a) (by omega) (by omega) (by omega)
  refine ⟨ha, h.ad ha, ?_⟩
  rcases h.2.2.2.1 a ha with ⟨g, -⟩ | ⟨-, -, g⟩
  · omega
  · rw [hx] at g; exact g
theorem am_at.kept {q : Nat × Nat} {f : Nat → Int32} {g : Nat → Int64} {r : Nat → Option Nat} {a : Nat} {H' : Heap} (h : am_at D Ac b st q f g r a H) (hq : H'[b + a]? = H[b + a]?) : am_at D Ac b st q f g r a H' := by
  rcases h with ⟨g1, g2⟩ | ⟨g1, g2, g3⟩
  · exact Or.inl ⟨g1, by rw [hq]; exact g2⟩
  · exact Or.inr ⟨g1, g2, g3.kept hq⟩
theorem am_Rp.put (h : am_Rp D Ac b st HB zS zu M H) {a : Nat} (ha : a < M.1) {H' : Heap} (hz : H'.size = H.size) (ho : ∀ q : Nat, q ≠ b + a → H'[q]? = H[q]?) {u' : Nat → Nat → Int32} {v' : Nat → Nat → Int64} {r' : Nat → Nat → Option Nat}
    (hu : ∀ c, c ≠ a → u' c = M.2.2.2.1 c) (hv : ∀ c, c ≠ a → v' c = M.2.2.2.2.1 c) (hr : ∀ c, c ≠ a → r' c = M.2.2.2.2.2 c) (hat : am_at D Ac b st (M.2.2.1 a) (u' a) (v' a) (r' a) a H') : am_Rp D Ac b st HB zS zu (M.1, M.2.1, M.2.2.1, u', v', r') H' := by
  obtain ⟨h1, h2, h3, h4, h5, h6⟩ := h
  refine ⟨by rw [hz]; exact h1, h2, fun q hq => ?_, fun c hc => ?_, h5, fun c hc => ?_⟩
  · rw [ho q (by omega)]; exact h3 q hq
  · by_cases hca : c = a
    · subst hca; exact hat
    · have := h4 c hc
      dsimp only
      rw [hu c hca, hv c hca, hr c hca]
      exact this.kept (ho _ (by omega))
  · dsimp only
    rw [hu c (by omega)]
    exact h6 c hc
theorem am_Rp.grow (h : am_Rp D Ac b st HB zS zu M H) (hM : M.1 < 900000) {H' : Heap} (hz : H'.size = H.size + 1) (ho : ∀ q : Nat, q < H.size → H'[q]? = H[q]?) {T' : Nat} {q : Nat × Nat} {f : Nat → Int32} {g : Nat → Int64} {r : Nat → Option Nat}
    (hat : am_at D Ac b st q f g r M.1 H') : am_Rp D Ac b st HB zS zu (M.1 + 1, T', am_sh M.2.2.1 M.1 q, am_row M.2.2.2.1 M.1 f, am_row M.2.2.2.2.1 M.1 g, am_row M.2.2.2.2.2 M.1 r) H' := by
  obtain ⟨h1, h2, h3, h4, h5, h6⟩ := h
  refine ⟨by rw [hz, h1]; show b + M.1 + 1 = b + (M.1 + 1); omega, by show M.1 + 1 ≤ 900000; omega, fun q hq => ?_, fun c hc => ?_, fun c hc hc2 => ?_, fun c hc => ?_⟩
  · rw [ho q (by omega)]; exact h3 q hq
  · dsimp only at hc ⊢
    by_cases hca : c = M.1
    · subst hca
      simp only [am_sh, am_row, if_true]
      exact hat
    · have := h4 c (by omega)
      simp only [am_sh, am_row, if_neg hca]
      exact this.kept (ho _ (by omega))
  · dsimp only at hc ⊢
    simp only [am_sh, if_neg (show ¬ c = M.1 by omega)]
    exact h5 c (by omega) hc2
  · dsimp only
    simp only [am_sh, am_row, if_neg (show ¬ c = M.1 by omega)]
    exact h6 c hc
end REP
/-! locals -/
theorem am_set1_len : ∀ (loc : am_L) (i : Nat) (x : Value), (am_set1 loc i x).length = loc.length
  | [], _, _ => rfl
  | _ :: _, 0, _ => rfl
  | _ :: ls, 1, x => by simp [am_set1, am_set1_len ls 0 x]
  | _ :: ls, n + 2, x => by simp [am_set1, am_set1_len ls (n + 1) x]
theorem am_set2_len : ∀ (loc : am_L) (i : Nat) (x : Value), (am_set2 loc i x).length = loc.length
  | [], _, _ => rfl
  | _ :: [], 0, _ => rfl
  | _ :: _ :: _, 0, _ => rfl
  | _ :: ls, 1, x => by simp [am_set2, am_set2_len ls 0 x]
  | _ :: ls, n + 2, x => by simp [am_set2, am_set2_len ls (n + 1) x]
theorem am_c1_some {l : Option Value} {w : Value} (h : am_c1 l = some w) : l = some w ∧ w.category ≠ 2 := by
  cases l with
  | none => cases h
  | some v => cases v <;> first | (cases h; exact ⟨rfl, by simp [Value.category]⟩) | cases h
theorem am_set1_spec : ∀ (loc : am_L) (i : Nat) (x : Value) (j : Nat) (w : Value), (am_set1 loc i x)[j]? = some (some w) → (j = i ∧ w = x) ∨ (j ≠ i ∧ loc[j]? = some (some w) ∧ ¬ (j + 1 = i ∧ w.category = 2))
  | [], _, _, j, w, h => by simp [am_set1] at h
  | l :: ls, 0, x, 0, w, h => by simp [am_set1] at h; exact Or.inl ⟨rfl, h.symm⟩
  | l :: ls, 0, x, j + 1, w, h => by
    simp [am_set1] at h
    exact Or.inr ⟨by omega, by simpa using h, by omega⟩
  | l :: ls, 1, x, 0, w, h => by
    simp [am_set1] at h
    obtain ⟨h1, h2⟩ := am_c1_some h
    exact Or.inr ⟨by omega, by simpa using h1, fun q => h2 q.2⟩
  | l :: ls, 1, x, j + 1, w, h => by
    have h' : (am_set1 ls 0 x)[j]? = some (some w) := by simpa [am_set1] using h
    rcases am_set1_spec ls 0 x j w h' with ⟨h1, h2⟩ | ⟨h1, h2, -⟩
    · exact Or.inl ⟨by omega, h2⟩
    · exact Or.inr ⟨by omega, by simpa using h2, by omega⟩
  | l :: ls, n + 2, x, 0, w, h => by
    simp [am_set1] at h
    exact Or.inr ⟨by omega, by simpa using h, by omega⟩
  | l :: ls, n + 2, x, j + 1, w, h => by
    have h' : (am_set1 ls (n + 1) x)[j]? = some (some w) := by simpa [am_set1] using h
    rcases am_set1_spec ls (n + 1) x j w h' with ⟨h1, h2⟩ | ⟨h1, h2, h3⟩
    · exact Or.inl ⟨by omega, h2⟩
    · exact Or.inr ⟨by omega, by simpa using h2, fun q => h3 ⟨by omega, q.2⟩⟩
theorem am_set2_spec : ∀ (loc : am_L) (i : Nat) (x : Value) (j : Nat) (w : Value), (am_set2 loc i x)[j]? = some (some w) → (j = i ∧ w = x) ∨ (j ≠ i ∧ j ≠ i + 1 ∧ loc[j]? = some (some w) ∧ ¬ (j + 1 = i ∧ w.category = 2))
  | [], _, _, j, w, h => by simp [am_set2] at h
  | l :: ls, 0, x, 0, w, h => by simp [am_set2] at h; exact Or.inl ⟨rfl, h.symm⟩
  | l :: [], 0, x, j + 1, w, h => by simp [am_set2] at h
  | l :: _ :: ls, 0, x, 1, w, h => by simp [am_set2] at h
  | l :: _ :: ls, 0, x, j + 2, w, h => by
    simp [am_set2] at h
    exact Or.inr ⟨by omega, by omega, by simpa using h, by omega⟩
  | l :: ls, 1, x, 0, w, h => by
    simp [am_set2] at h
    obtain ⟨h1, h2⟩ := am_c1_some h
    exact Or.inr ⟨by omega, by omega, by simpa using h1, fun q => h2 q.2⟩
  | l :: ls, 1, x, j + 1, w, h => by
    have h' : (am_set2 ls 0 x)[j]? = some (some w) := by simpa [am_set2] using h
    rcases am_set2_spec ls 0 x j w h' with ⟨h1, h2⟩ | ⟨h1, h1', h2, -⟩
    · exact Or.inl ⟨by omega, h2⟩
    · exact Or.inr ⟨by omega, by omega, by simpa using h2, by omega⟩
  | l :: ls, n + 2, x, 0, w, h => by
    simp [am_set2] at h
    exact Or.inr ⟨by omega, by omega, by simpa using h, by omega⟩
  | l :: ls, n + 2, x, j + 1, w, h => by
    have h' : (am_set2 ls (n + 1) x)[j]? = some (some w) := by simpa [am_set2] using h
    rcases am_set2_spec ls (n + 1) x j w h' with ⟨h1, h2⟩ | ⟨h1, h1', h2, h3⟩
    · exact Or.inl ⟨by omega, h2⟩
    · exact Or.inr ⟨by omega, by omega, by simpa using h2, fun q => h3 ⟨by omega, q.2⟩⟩
def am_LS (b : Nat) (st : Nat → Nat) (ls : Array Slot) (nL : Nat) (loc : am_L) : Prop :=
  ls.size = nL ∧ loc.length = nL ∧ lv_wf ls ∧ ∀ (i : Nat) (v : Value), loc[i]? = some (some v) → ls[i]? = some (.val (am_cv b st v))
def am_la (b : Nat) (st : Nat → Nat) (loc : am_L) : List (Nat × Value) := (List.range loc.length).filterMap (fun i => match loc[i]? with
  | some (some v) => some (i, am_cv b st v)
  | _ => none)
theorem am_la_mem {b : Nat} {st : Nat → Nat} {loc : am_L} {q : Nat × Value} : q ∈ am_la b st loc ↔ ∃ v, loc[q.1]? = some (some v) ∧ q.2 = am_cv b st v := by
  unfold am_la
  rw [List.mem_filterMap]
  constructor
  · rintro ⟨i, -, hi⟩
    split at hi
    · rename_i v hv
      cases hi
      exact ⟨v, hv, rfl⟩
    · cases hi
  · rintro ⟨v, hv, hq⟩
    refine ⟨q.1, List.mem_range.mpr (List.getElem?_eq_some_iff.mp hv).1, ?_⟩
    rw [hv]
    show some (q.1, am_cv b st v) = some q
    rw [← hq]
theorem am_LS.has {b : Nat} {st : Nat → Nat} {ls : Array Slot} {nL : Nat} {loc : am_L} (h : am_LS b st ls nL loc) : lv_has ls nL (am_la b st loc) := by
  refine ⟨h.1, h.2.2.1, fun q hq => ?_⟩
  obtain ⟨v, h1, h2⟩ := am_la_mem.mp hq
  rw [h2]
  exact h.2.2.2 _ _ h1
theorem am_LS.st1 {b : Nat} {st : Nat → Nat} {ls ls' : Array Slot} {nL : Nat} {loc : am_L} (h : am_LS b st ls nL loc) {i : Nat} {x : Value} (h' : lv_has ls' nL ((i, am_cv b st x) :: (am_la b st loc).filter (fun q => !(q.1 == i) && !(q.1 + 1 == i && q.2.category == 2)))) : am_LS b st ls' nL (am_set1 loc i x) := by
  refine ⟨h'.1, by rw [am_set1_len]; exact h.2.1, h'.2.1, fun j w hj => ?_⟩
  rcases am_set1_spec loc i x j w hj with ⟨h1, h2⟩ | ⟨h1, h2, h3⟩
  · subst h1; subst h2
    exact h'.2.2 _ List.mem_cons_self
  · refine h'.2.2 (j, am_cv b st w) (List.mem_cons_of_mem _ (List.mem_filter.mpr ⟨am_la_mem.mpr ⟨w, h2, rfl⟩, ?_⟩))
    simp only [am_cv_cat]
    by_cases hw : w.category = 2
    · have : ¬ j + 1 = i := fun q => h3 ⟨q, hw⟩
      simp [h1, this]
    · simp [h1, hw]
theorem am_LS.st2 {b : Nat} {st : Nat → Nat} {ls ls' : Array Slot} {nL : Nat} {loc : am_L} (h : am_LS b st ls nL loc) {i : Nat} {x : Value} (h' : lv_has ls' nL ((i, am_cv b st x) :: (am_la b st loc).filter (fun q => !(q.1 == i) && (!(q.1 == i + 1) && !(q.1 + 1 == i && q.2.category == 2))))) : am_LS b st ls' nL (am_set2 loc i x) := by
  refine ⟨h'.1, by rw [am_set2_len]; exact h.2.1, h'.2.1, fun j w hj => ?_⟩
  rcases am_set2_spec loc i x j w hj with ⟨h1, h2⟩ | ⟨h1, h1', h2, h3⟩
  · subst h1; subst h2
    exact h'.2.2 _ List.mem_cons_self
  · refine h'.2.2 (j, am_cv b st w) (List.mem_cons_of_mem _ (List.mem_filter.mpr ⟨am_la_mem.mpr ⟨w, h2, rfl⟩, ?_⟩))
    simp only [am_cv_cat]
    by_cases hw : w.category = 2
    · have : ¬ j + 1 = i := fun q => h3 ⟨q, hw⟩
      simp [h1, h1', this]
    · simp [h1, h1', hw]
