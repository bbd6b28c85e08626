theorem min99_bd {z : Int} (h : 1 ≤ z) : 1 ≤ min99 z ∧ min99 z ≤ 99 := by unfold min99; split <;> omega
theorem clmp_bd {lo hi z : Int} (h : lo ≤ hi) : lo ≤ clmp lo hi z ∧ clmp lo hi z ≤ hi := by unfold clmp; split; omega; split <;> omega
section AO
variable {A : AT} {n s i z e c : Int}
theorem AOk.take (O : AOk A n) (h0 : 0 ≤ s) (h1 : s < 8) (i0 : 0 ≤ i) (i1 : i < A.h s) : AOk (A.take s i) n := by
  refine ⟨O.1, fun q q0 q1 => ?_, fun q k q0 q1 k0 k1 => ?_, O.2.2.2⟩
  · have := O.h q q0 q1
    show 0 ≤ (if q = s then A.h s - 1 else A.h q) ∧ (if q = s then A.h s - 1 else A.h q) ≤ 5
    split
    · rename_i e; subst e; omega
    · exact this
  · have k1 : k < if q = s then A.h s - 1 else A.h q := k1
    show 0 ≤ (if q = s ∧ i ≤ k then A.m s (k + 1) else A.m q k) ∧ (if q = s ∧ i ≤ k then A.m s (k + 1) else A.m q k) < n ∧ 1 ≤ (if q = s ∧ i ≤ k then A.g s (k + 1) else A.g q k) ∧ (if q = s ∧ i ≤ k then A.g s (k + 1) else A.g q k) ≤ 99
    by_cases e : q = s ∧ i ≤ k
    · simp only [if_pos e]
      rw [if_pos e.1] at k1
      exact O.l s (k + 1) h0 h1 (by omega) (by omega)
    · simp only [if_neg e]
      refine O.l q k q0 q1 k0 ?_
      by_cases e2 : q = s
      · rw [if_pos e2] at k1; subst e2; omega
      · rw [if_neg e2] at k1; exact k1
theorem AOk.str (O : AOk A n) (z0 : 1 ≤ z) (z1 : z ≤ 99) : AOk (A.str s i z) n := by
  refine ⟨O.1, O.2.1, fun q k q0 q1 k0 k1 => ?_, O.2.2.2⟩
  have := O.l q k q0 q1 k0 k1
  show 0 ≤ A.m q k ∧ A.m q k < n ∧ 1 ≤ (if q = s ∧ k = i then z else A.g q k) ∧ (if q = s ∧ k = i then z else A.g q k) ≤ 99
  by_cases e : q = s ∧ k = i
  · simp only [if_pos e]; omega
  · simp only [if_neg e]; exact this
theorem AOk.push (O : AOk A n) (h0 : 0 ≤ s) (h1 : s < 8) (h2 : A.h s ≤ 4) (e0 : 0 ≤ e) (e1 : e < n) (z0 : 1 ≤ z) (z1 : z ≤ 99) : AOk (A.push s e z) n := by
  refine ⟨O.1, fun q q0 q1 => ?_, fun q k q0 q1 k0 k1 => ?_, O.2.2.2⟩
  · have := O.h q q0 q1
    show 0 ≤ (if q = s then A.h s + 1 else A.h q) ∧ (if q = s then A.h s + 1 else A.h q) ≤ 5
    split
    · rename_i e; subst e; omega
    · exact this
  · have k1 : k < if q = s then A.h s + 1 else A.h q := k1
    show 0 ≤ (if q = s then (if k = 0 then e else A.m s (k - 1)) else A.m q k) ∧ (if q = s then (if k = 0 then e else A.m s (k - 1)) else A.m q k) < n ∧ 1 ≤ (if q = s then (if k = 0 then z else A.g s (k - 1)) else A.g q k) ∧ (if q = s then (if k = 0 then z else A.g s (k - 1)) else A.g q k) ≤ 99
    by_cases c : q = s
    · simp only [if_pos c] at k1 ⊢
      by_cases c2 : k = 0
      · simp only [if_pos c2]; omega
      · simp only [if_neg c2]
        exact O.l s (k - 1) h0 h1 (by omega) (by omega)
    · simp only [if_neg c] at k1 ⊢
      exact O.l q k q0 q1 k0 k1
theorem AOk.top (O : AOk A n) (hn : n ≤ 6) (h0 : 0 ≤ s) (h1 : s < 8) : -1 ≤ A.top s ∧ A.top s ≤ 5 := by
  unfold AT.top
  split
  · rename_i g; have := O.l s 0 h0 h1 (by omega) g; omega
  · omega
theorem AOk.wr (O : AOk A n) (hn : n ≤ 6) (h0 : 0 ≤ s) (h1 : s < 8) (c0 : 0 ≤ c) (c1 : c ≤ 2) : AOk (A.wr c s) n := by
  have ht := O.top hn h0 h1
  obtain ⟨o1, o2, o3, o4, o5, o6, o7, o8⟩ := O.1
  have hl : 0 ≤ A.line c s 0 ∧ A.line c s 0 ≤ 9999 ∧ 0 ≤ A.line c s 1 ∧ A.line c s 1 ≤ 2 ∧ 0 ≤ A.line c s 2 ∧ A.line c s 2 ≤ 7 ∧ -1 ≤ A.line c s 3 ∧ A.line c s 3 ≤ 5 := by
    show 0 ≤ A.din ∧ A.din ≤ 9999 ∧ 0 ≤ c ∧ c ≤ 2 ∧ 0 ≤ s ∧ s ≤ 7 ∧ -1 ≤ A.top s ∧ A.top s ≤ 5
    omega
  unfold AT.wr
  by_cases g : A.nb < 25
  · rw [if_pos g]
    refine ⟨⟨o1, o2, o3, o4, o5, o6, by show 0 ≤ A.nb + 1; omega, by show A.nb + 1 ≤ 25; omega⟩, O.2.1, O.2.2.1, fun i i0 i1 => ?_⟩
    have i1 : i < A.nb + 1 := i1
    by_cases q : i = A.nb
    · have qq : ∀ k, (AT.mk A.din A.x A.mood (A.nb + 1) A.h A.m A.g (fun i k => if i = A.nb then A.line c s k else A.b i k)).b i k = A.line c s k := fun k => by show (if i = A.nb then A.line c s k else A.b i k) = _; rw [if_pos q]
      simp only [qq]; exact hl
    · have qq : ∀ k, (AT.mk A.din A.x A.mood (A.nb + 1) A.h A.m A.g (fun i k => if i = A.nb then A.line c s k else A.b i k)).b i k = A.b i k := fun k => by show (if i = A.nb then A.line c s k else A.b i k) = _; rw [if_neg q]
      simp only [qq]; exact O.b i i0 (by omega)
  · rw [if_neg g]
    refine ⟨⟨o1, o2, o3, o4, o5, o6, by show (0 : Int) ≤ 25; omega, by show (25 : Int) ≤ 25; omega⟩, O.2.1, O.2.2.1, fun i i0 i1 => ?_⟩
    have i1 : i < 25 := i1
    by_cases q : i = 24
    · have qq : ∀ k, (AT.mk A.din A.x A.mood 25 A.h A.m A.g (fun i k => if i = 24 then A.line c s k else A.b (i + 1) k)).b i k = A.line c s k := fun k => by show (if i = 24 then A.line c s k else A.b (i + 1) k) = _; rw [if_pos q]
      simp only [qq]; exact hl
    · have qq : ∀ k, (AT.mk A.din A.x A.mood 25 A.h A.m A.g (fun i k => if i = 24 then A.line c s k else A.b (i + 1) k)).b i k = A.b (i + 1) k := fun k => by show (if i = 24 then A.line c s k else A.b (i + 1) k) = _; rw [if_neg q]
      simp only [qq]; exact O.b (i + 1) (by omega) (by omega)
theorem AOk.draw (O : AOk A n) : AOk A.draw n := by
  obtain ⟨o1, o2, o3, o4, o5, o6, o7, o8⟩ := O.1
  refine ⟨⟨o1, o2, ?_, ?_, o5, o6, o7, o8⟩, O.2.1, O.2.2.1, O.2.2.2⟩
  · show 0 ≤ (A.x * 727 + 593).tmod 31051
    rw [Int.tmod_eq_emod_of_nonneg (by omega)]; omega
  · show (A.x * 727 + 593).tmod 31051 ≤ 31050
    rw [Int.tmod_eq_emod_of_nonneg (by omega)]; omega
theorem AOk.md (O : AOk A n) : AOk (A.md z) n := by
  obtain ⟨o1, o2, o3, o4, o5, o6, o7, o8⟩ := O.1
  have := clmp_bd (lo := -99999) (hi := 99999) (z := A.mood + z) (by decide)
  exact ⟨⟨o1, o2, o3, o4, this.1, this.2, o7, o8⟩, O.2.1, O.2.2.1, O.2.2.2⟩
theorem AOk.nxt (O : AOk A n) (h : A.din < 9999) : AOk A.nxt n := by
  obtain ⟨o1, o2, o3, o4, o5, o6, o7, o8⟩ := O.1
  exact ⟨⟨by show 0 ≤ A.din + 1; omega, by show A.din + 1 ≤ 9999; omega, o3, o4, o5, o6, o7, o8⟩, O.2.1, O.2.2.1, O.2.2.2⟩
end AO
def AT.put (A : AT) (s e z : Int) : AT := (if A.top s = e then A.str s 0 (min99 (A.g s 0 + z)) else (if A.h s = 5 then A.take s 4 else A).push s e z).wr 0 s
def AT.smi (A : AT) (s : Int) : AT := (A.take s (A.h s - 1)).wr 1 s
def AT.pol (A : AT) (s : Int) : AT := (A.str s 0 (min99 (A.g s 0 * 2))).wr 2 s
section AP
variable {A : AT} {n s e z : Int}
theorem AOk.top_h (O : AOk A n) (e0 : 0 ≤ e) (h : A.top s = e) : 0 < A.h s := by
  unfold AT.top at h
  split at h
  · assumption
  · omega
theorem AOk.put0 (O : AOk A n) (h0 : 0 ≤ s) (h1 : s < 8) (e0 : 0 ≤ e) (e1 : e < n) (z0 : 1 ≤ z) (z1 : z ≤ 99) : AOk (if A.top s = e then A.str s 0 (min99 (A.g s 0 + z)) else (if A.h s = 5 then A.take s 4 else A).push s e z) n := by
  have hh := O.h s h0 h1
  split
  · rename_i c
    have := O.l s 0 h0 h1 (by omega) (O.top_h e0 c)
    have := min99_bd (z := A.g s 0 + z) (by omega)
    exact O.str this.1 this.2
  · split
    · rename_i c
      refine (O.take h0 h1 (by omega) (by omega)).push h0 h1 ?_ e0 e1 z0 z1
      show (if s = s then A.h s - 1 else A.h s) ≤ 4
      rw [if_pos rfl]; omega
    · exact O.push h0 h1 (by omega) e0 e1 z0 z1
theorem AOk.put (O : AOk A n) (hn : n ≤ 6) (h0 : 0 ≤ s) (h1 : s < 8) (e0 : 0 ≤ e) (e1 : e < n) (z0 : 1 ≤ z) (z1 : z ≤ 99) : AOk (A.put s e z) n := (O.put0 h0 h1 e0 e1 z0 z1).wr hn h0 h1 (by decide) (by decide)
theorem AOk.smi (O : AOk A n) (hn : n ≤ 6) (h0 : 0 ≤ s) (h1 : s < 8) (h2 : 0 < A.h s) : AOk (A.smi s) n := (O.take h0 h1 (by omega) (by omega)).wr hn h0 h1 (by decide) (by decide)
theorem AOk.pol (O : AOk A n) (hn : n ≤ 6) (h0 : 0 ≤ s) (h1 : s < 8) (h2 : 0 < A.h s) : AOk (A.pol s) n := by
  have := O.l s 0 h0 h1 (by omega) h2
  have := min99_bd (z := A.g s 0 * 2) (by omega)
  exact (O.str this.1 this.2).wr hn h0 h1 (by decide) (by decide)
end AP
