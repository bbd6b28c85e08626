/-! the steps that read statics and Strings -/
section SO
theorem am_Rp.ro7 {D : va_G} {Ac : Nat → ClassId} {b : Nat} {st : Nat → Nat} {HB : Heap} {zS : Nat → Nat × Nat} {zu : Nat → Nat → Int32} {M : am_M} {H : Heap} (h : am_Rp D Ac b st HB zS zu M H) {a : Nat} (ht : (M.2.2.1 a).1 = 7) : 1000000 ≤ a ∧ M.2.2.1 a = zS a ∧ M.2.2.2.1 a = zu a := by
  rcases Nat.lt_or_ge a M.1 with g | g
  · rcases h.2.2.2.1 a g with ⟨q, -⟩ | ⟨q1, q2, -⟩
    · omega
    · rcases h.2.2.2.1 a g with ⟨q, -⟩ | ⟨q1, q2, q3⟩ <;> omega
  · rcases Nat.lt_or_ge a 1000000 with k | k
    · have := h.2.2.2.2.1 a g k; omega
    · exact ⟨k, h.2.2.2.2.2 a k⟩
theorem ex910 {k y : Nat} {z : Int} {loc : am_L} {stk : List Value} {M : am_M} {q : am_L × List Value × am_M} (h : am_ex (.invokevirtual k) 910 y z loc stk M = some q) : ∃ a st0, stk = .ref a :: st0 ∧ ((M.2.2.1 a).1 = 7 ∧ am_cs st0 ≤ 8) ∧ q = (loc, .int (Int32.ofNat (M.2.2.1 a).2) :: st0, M) := by
  rcases stk with _ | ⟨v, st0⟩
  · have h : (none : Option (am_L × List Value × am_M)) = some q := h
    cases h
  · cases v with
    | ref a =>
      have h : (if (M.2.2.1 a).1 = 7 ∧ am_cs st0 ≤ 8 then some (loc, Value.int (Int32.ofNat (M.2.2.1 a).2) :: st0, M) else none) = some q := h
      split at h
      · rename_i hc
        cases h
        exact ⟨a, st0, rfl, hc, rfl⟩
      · cases h
    | _ =>
      have h : (none : Option (am_L × List Value × am_M)) = some q := h
      cases h
theorem ex911 {k y : Nat} {z : Int} {loc : am_L} {stk : List Value} {M : am_M} {q : am_L × List Value × am_M} (h : am_ex (.invokevirtual k) 911 y z loc stk M = some q) : ∃ j a st0, stk = .int j :: .ref a :: st0 ∧ (am_in (M.2.2.1 a) 7 j ∧ am_cs st0 ≤ 8) ∧ q = (loc, .int (M.2.2.2.1 a j.toNatClampNeg) :: st0, M) := by
  rcases stk with _ | ⟨v, st0⟩
  · have h : (none : Option (am_L × List Value × am_M)) = some q := h
    cases h
  · cases v with
    | int j =>
      rcases st0 with _ | ⟨v, st0⟩
      · have h : (none : Option (am_L × List Value × am_M)) = some q := h
        cases h
      · cases v with
        | ref a =>
          have h : (if am_in (M.2.2.1 a) 7 j ∧ am_cs st0 ≤ 8 then some (loc, Value.int (M.2.2.2.1 a j.toNatClampNeg) :: st0, M) else none) = some q := h
          split at h
          · rename_i hc
            cases h
            exact ⟨j, a, st0, rfl, hc, rfl⟩
          · cases h
        | _ =>
          have h : (none : Option (am_L × List Value × am_M)) = some q := h
          cases h
    | _ =>
      have h : (none : Option (am_L × List Value × am_M)) = some q := h
      cases h
theorem ex912 {k y : Nat} {z : Int} {loc : am_L} {stk : List Value} {M : am_M} {q : am_L × List Value × am_M} (h : am_ex (.invokevirtual k) 912 y z loc stk M = some q) : ∃ j a st0, stk = .int j :: .ref a :: st0 ∧ ((M.2.2.1 a).1 = 7 ∧ am_cs st0 ≤ 8) ∧ q = (loc, .int (am_ix (M.2.2.2.1 a) j (M.2.2.1 a).2 0) :: st0, M) := by
  rcases stk with _ | ⟨v, st0⟩
  · have h : (none : Option (am_L × List Value × am_M)) = some q := h
    cases h
  · cases v with
    | int j =>
      rcases st0 with _ | ⟨v, st0⟩
      · have h : (none : Option (am_L × List Value × am_M)) = some q := h
        cases h
      · cases v with
        | ref a =>
          have h : (if (M.2.2.1 a).1 = 7 ∧ am_cs st0 ≤ 8 then some (loc, Value.int (am_ix (M.2.2.2.1 a) j (M.2.2.1 a).2 0) :: st0, M) else none) = some q := h
          split at h
          · rename_i hc
            cases h
            exact ⟨j, a, st0, rfl, hc, rfl⟩
          · cases h
        | _ =>
          have h : (none : Option (am_L × List Value × am_M)) = some q := h
          cases h
    | _ =>
      have h : (none : Option (am_L × List Value × am_M)) = some q := h
      cases h
variable {l : Launch} {D : va_G} {Ac : Nat → ClassId} {b : Nat} {st adV : Nat → Nat} {HB : Heap} {zS : Nat → Nat × Nat} {zu : Nat → Nat → Int32}
set_option maxHeartbeats 4000000 in
theorem am_so_ok (hz : ∀ a, (zS a).1 = 7 → ∃ i, i < 2 ∧ a = 1000010 + i ∧ (zS a).2 = jN i ∧ zu a = jC i) : am_SO3 (st_X b st HB adV) l D Ac b st HB zS zu := by
  intro p e R s m args below meth c Q nL n0 t0 own ini cc pc loc loc1 stk stk1 M M1 i x y z hX C hd hck hsok hst hex hn ht hr hf k
  have str : ∀ {a : Nat} {H : Heap}, am_Rp D Ac b st HB zS zu M H → (M.2.2.1 a).1 = 7 → ∃ j, j < 2 ∧ am_ad b st a = st (10 + j) ∧ (M.2.2.1 a).2 = jN j ∧ M.2.2.2.1 a = jC j := by
    intro a H hR h7
    obtain ⟨q1, q2, q3⟩ := hR.ro7 h7
    obtain ⟨j, j1, j2, j3, j4⟩ := hz a (by rw [← q2]; exact h7)
    refine ⟨j, j1, ?_, by rw [q2]; exact j3, by rw [q3]; exact j4⟩
    unfold am_ad
    rw [if_neg (by omega), j2, show 1000010 + j - 1000000 = 10 + j by omega]
  have hts := C.2.2.2.2.1
  unfold am_stat at hst
  dsimp only at hst
  split at hst
  · rename_i kk
    have hsok : ((decide (own = am_mo 259) && decide (z = 3)) && ((decide (kk = 90) && decide (y = 0)) || (decide (kk = 93) && decide (y = 1)))) = true := hsok
    simp only [Bool.and_eq_true, Bool.or_eq_true, decide_eq_true_eq] at hsok
    obtain ⟨⟨ho, hz3⟩, hky⟩ := hsok
    subst hz3
    have hex : some (loc, Value.ref (1000000 + y) :: stk, M) = some (loc1, stk1, M1) := hex
    cases hex
    have hown : s.vm.findClass "SpoonSet$Reader" = some m.cls := by have := C.2.2.2.1; rw [ho] at this; exact this
    rcases hky with ⟨rfl, rfl⟩ | ⟨rfl, rfl⟩
    · exact ar_gets (C := "") hX.1.1 hX.2.1.1 hown C.1 C.2.1 hd k
    · exact ar_gets (C := "") hX.1.2 hX.2.1.2 hown C.1 C.2.1 hd k
  · rename_i kk
    have hx0 : ¬ x = 0 := of_decide_eq_true hst
    have hsok : (decide (x = 0) || (decide (own = am_mo 299) && ((decide (kk = 56) && decide (y = 10)) || (decide (kk = 72) && decide (y = 11))))) = true := hsok
    simp only [Bool.and_eq_true, Bool.or_eq_true, decide_eq_true_eq] at hsok
    rcases hsok with h | ⟨ho, hky⟩
    · exact absurd h hx0
    have hex : (if x = 0 then some (loc, Value.int (Int32.ofInt z) :: stk, M) else some (loc, Value.ref (1000000 + y) :: stk, M)) = some (loc1, stk1, M1) := hex
    rw [if_neg hx0] at hex
    cases hex
    have hown : s.vm.findClass "SpoonSet$Tape" = some m.cls := by have := C.2.2.2.1; rw [ho] at this; exact this
    rcases hky with ⟨rfl, rfl⟩ | ⟨rfl, rfl⟩
    · exact ar_ldcS hX.2.2.1.1 hown C.1 C.2.1 hd k
    · exact ar_ldcS hX.2.2.1.2 hown C.1 C.2.1 hd k
  · rename_i kk
    have hx0 : 900 ≤ x := of_decide_eq_true hst
    have hsok : (decide (x < 900) || (decide (own = am_mo 299) && ((decide (kk = 58) && decide (x = 910)) || ((decide (kk = 62) && decide (x = 911)) || (decide (kk = 74) && decide (x = 912)))))) = true := hsok
    simp only [Bool.and_eq_true, Bool.or_eq_true, decide_eq_true_eq] at hsok
    rcases hsok with h | ⟨ho, hky⟩
    · omega
    have hown : s.vm.findClass "SpoonSet$Tape" = some m.cls := by have := C.2.2.2.1; rw [ho] at this; exact this
    rcases hky with ⟨rfl, rfl⟩ | ⟨rfl, rfl⟩ | ⟨rfl, rfl⟩
    · obtain ⟨a, st0, rfl, h7, hq⟩ := ex910 hex
      cases hq
      intro H locs ls hR hL hl
      obtain ⟨j, j1, j2, j3, j4⟩ := str hR h7.1
      have kk := fun locs1 hl1 => k H locs1 ls hR hL hl1
      show W p l e R s m args below meth c H locs (M.1 - n0) (M.2.1 - t0) Q (F0 m pc ls (.ref (am_ad b st a) :: st0.map (am_cv b st)))
      rw [j2]
      refine jc_V (n := 0) (vs := []) (rest := st0.map (am_cv b st)) j1 C.1 C.2.1 C.2.2.1 hown hts hX hR.2.2.1 (j_length l j1) (am_has_in (i := 442) (by decide +kernel)) (am_has_in (i := 14) (by decide +kernel)) (am_has_in (i := 439) (by decide +kernel)) (am_has_in (i := 440) (by decide +kernel)) (am_has_in (i := 441) (by decide +kernel)) rfl (by decide) rfl ⟨by omega, by omega⟩ hr hL.1 (by rw [am_cs_sum]; exact h7.2) hd hl (fun locs1 hl1 => ?_)
      have := kk locs1 hl1
      rw [j3] at this
      exact this
    · obtain ⟨jx, a, st0, rfl, h7, hq⟩ := ex911 hex
      cases hq
      intro H locs ls hR hL hl
      obtain ⟨j, j1, j2, j3, j4⟩ := str hR h7.1.1
      have kk := fun locs1 hl1 => k H locs1 ls hR hL hl1
      show W p l e R s m args below meth c H locs (M.1 - n0) (M.2.1 - t0) Q (F0 m pc ls (.int jx :: .ref (am_ad b st a) :: st0.map (am_cv b st)))
      rw [j2]
      refine jc_V (n := 1) (vs := [.int jx]) (rest := st0.map (am_cv b st)) j1 C.1 C.2.1 C.2.2.1 hown hts hX hR.2.2.1 (j_charAt l j1 h7.1.2.1 (by rw [← j3]; exact h7.1.2.2)) (am_has_in (i := 452) (by decide +kernel)) (am_has_in (i := 14) (by decide +kernel)) (am_has_in (i := 449) (by decide +kernel)) (am_has_in (i := 450) (by decide +kernel)) (am_has_in (i := 451) (by decide +kernel)) rfl (by decide) rfl ⟨by omega, by omega⟩ hr hL.1 (by rw [am_cs_sum]; exact h7.2) hd hl (fun locs1 hl1 => ?_)
      have := kk locs1 hl1
      rw [j4] at this
      exact this
    · obtain ⟨ch, a, st0, rfl, h7, hq⟩ := ex912 hex
      cases hq
      intro H locs ls hR hL hl
      obtain ⟨j, j1, j2, j3, j4⟩ := str hR h7.1
      have kk := fun locs1 hl1 => k H locs1 ls hR hL hl1
      show W p l e R s m args below meth c H locs (M.1 - n0) (M.2.1 - t0) Q (F0 m pc ls (.int ch :: .ref (am_ad b st a) :: st0.map (am_cv b st)))
      rw [j2]
      refine jc_V (n := 1) (vs := [.int ch]) (rest := st0.map (am_cv b st)) j1 C.1 C.2.1 C.2.2.1 hown hts hX hR.2.2.1 (j_ix1 l j1) (am_has_in (i := 505) (by decide +kernel)) (am_has_in (i := 14) (by decide +kernel)) (am_has_in (i := 502) (by decide +kernel)) (am_has_in (i := 503) (by decide +kernel)) (am_has_in (i := 504) (by decide +kernel)) rfl (by decide) rfl ⟨by omega, by omega⟩ hr hL.1 (by rw [am_cs_sum]; exact h7.2) hd hl (fun locs1 hl1 => ?_)
      have := kk locs1 hl1
      rw [j3, j4] at this
      exact this
  · cases hst
end SO
