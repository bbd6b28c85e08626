/-! text is good -/
section TG
variable {w w1 w2 : Nat → Int → Int} {q j t : Int} {VF VT : Option (LEnv → Int)} {p : Bts}
theorem WNow.texts (h : WNow w) (h1 : ∀ a, 1 < a → a < 171 → w2 a = w a) (h2 : ∀ k, k ≠ 1 → w2 394 k = w 394 k) (h3 : ∀ k, k ≠ 5 → w2 1 k = w 1 k) (h5 : w2 1 5 = t) (h6 : w2 394 1 = t) (t0 : 0 ≤ t) (t4 : t ≤ 4) (tr : w 394 2 < t) : WNow w2 := by
  have k : ∀ j, 0 < j → j < 170 → w2 (1 + j) = w (1 + j) := fun j hj hk => h1 _ (by omega) (by omega)
  obtain ⟨c1, c2, c3, c4, c5, c6, c7, c8, c9, c10, c11, c12, c13⟩ := WRel.iff.mp h.rel
  refine WRel.now (WRel.iff.mpr ⟨c1.same (k 7 (by decide) (by decide)) (h2 0 (by decide)), c2.same (k 8 (by decide) (by decide)) (k 9 (by decide) (by decide)) (h2 0 (by decide)) h.1.2.1 (fun j _ _ => h2 _ (by omega)), c3.same (h2 0 (by decide)) h.1.1 (fun j _ _ => h2 _ (by omega)), c4.same (k 10 (by decide) (by decide)) (fun j _ _ => h2 _ (by omega)), ?_, c6.same (h3 2 (by decide)) (h3 3 (by decide)) (h2 3 (by decide)), c7.same (k 11 (by decide) (by decide)) (k 12 (by decide) (by decide)) (h2 4 (by decide)) (fun j _ _ => h2 _ (by omega)), c8.same (k 13 (by decide) (by decide)) (k 14 (by decide) (by decide)) (h2 5 (by decide)) (fun j _ _ => h2 _ (by omega)), c9.same (k 15 (by decide) (by decide)) (k 16 (by decide) (by decide)) (h2 6 (by decide)) (by rw [h2 0 (by decide)]; exact Int.le_refl _) (fun j _ _ => h2 _ (by omega)), c10.same (k 17 (by decide) (by decide)) (fun j _ _ => h2 _ (by omega)), c11.same (k 18 (by decide) (by decide)) (k 19 (by decide) (by decide)) (fun j _ _ => h2 _ (by omega)), c12.same (fun a q1 q2 => h1 a (by omega) (by omega)) (by rw [h2 0 (by decide)]; exact Int.le_refl _) (fun j _ _ => h2 _ (by omega)) (fun j _ _ => h2 _ (by omega)), c13.same c6 (fun a q1 q2 => h1 a (by omega) (by omega)) (h3 2 (by decide)) (h2 3 (by decide)) (by rw [h2 0 (by decide)]; exact Int.le_refl _) (fun j _ _ => h2 _ (by omega))⟩)
  unfold WC5 at c5 ⊢
  rw [h5, h6, h2 2 (by decide), h3 6 (by decide)]
  exact ⟨t0, t4, rfl, c5.2.2.2.1, tr, c5.2.2.2.2.2⟩
theorem MOne.lo {z : Int} {V : Option (LEnv → Int)} (h : MOne w j z V) (h24 : w 396 (681 * j) ≤ 24) (hc : ∀ y, 681 * j ≤ y → y < 681 * j + 681 → w2 396 y = w 396 y) : MOne w2 j z V := by
  have e0 := hc (681 * j) (by omega) (by omega)
  cases V with
  | none =>
    intro k k0 k1
    rw [e0] at k1
    rw [hc _ (by omega) (by omega)]
    exact h k k0 k1
  | some U =>
    obtain ⟨k, ⟨k0, k1, k2⟩, k3, k4, k5⟩ := h
    refine ⟨k, ⟨k0, by rw [e0]; exact k1, by rw [hc _ (by omega) (by omega)]; exact k2⟩, fun i i0 i1 => by rw [hc _ (by omega) (by omega)]; exact k3 i i0 i1, by rw [hc _ (by omega) (by omega)]; exact k4, ?_⟩
    rw [hc (681 * j + 1 + 3 * k + 1) (by omega) (by omega), hc (681 * j + 1 + 3 * k + 2) (by omega) (by omega)]
    have k6 := k5.1.1
    exact MSeg.congr k5 (fun t t0 t1 => ⟨hc _ (by omega) (by omega), hc _ (by omega) (by omega)⟩)
theorem TxRel.lo (h : TxRel w j) (h0 : 0 ≤ j) (h4 : j < 4) (h1 : ∀ a, a < 5 → w2 (scrO j + a) = w (scrO j + a)) (hc : ∀ y, 681 * j ≤ y → y < 681 * j + 681 → w2 396 y = w 396 y) : TxRel w2 j := by
  obtain ⟨⟨VF, VT, a1, a2⟩, a3, a4, a5⟩ := h
  have e0 := hc (681 * j) (by omega) (by omega)
  have k0 : w2 (scrO j) = w (scrO j) := h1 0 (by decide)
  refine ⟨⟨VF, VT, a1.keep k0 (h1 1 (by decide)), ?_⟩, ?_, by rw [e0]; exact a4, by rw [e0]; exact a5⟩
  · rcases a2 with a2 | ⟨b1, b2, b3, b4⟩
    · omega
    · refine Or.inr ⟨b1, ⟨by rw [e0]; exact a4, by rw [e0]; exact a5, fun k k0 k1 => ?_⟩, b3.lo a5 hc, b4.lo a5 hc⟩
      rw [e0] at k1
      rw [hc _ (by omega) (by omega)]
      exact b2.2.2 k k0 k1
  · refine ⟨by rw [k0, e0]; exact a3.1, fun k g0 g1 => ?_⟩
    rw [e0] at g1
    have := a3.2 k g0 g1
    rw [hc (681 * j + 1 + 3 * k) (by omega) (by omega), hc (681 * j + 1 + 3 * k + 1) (by omega) (by omega), hc (681 * j + 1 + 3 * k + 2) (by omega) (by omega), h1 2 (by decide), h1 3 (by decide), h1 4 (by decide)]
    exact this
theorem TxRel.new {c : Cls} {kw : Int} {s : TS} (Ts : TsOk s) (q0 : 0 ≤ q) (q1 : q ≤ 3) (a1 : CLaw w2 (scrO q) s.2.2.1 s.2.2.2) (a2 : ClC w2 (scrO q) s.2.1) (b1 : ClM w2 q s.2.1 kw) (b2 : MOne w2 q 0 s.2.2.1) (b3 : MOne w2 q 1 s.2.2.2) : TxRel w2 q := by
  have n := Ts.1
  refine ⟨⟨s.2.2.1, s.2.2.2, a1, Or.inr ⟨⟨q0, q1⟩, ⟨by rw [b1.1]; exact n.1, by rw [b1.1]; exact n.2.1, fun k k0 k1 => ?_⟩, b2, b3⟩⟩, ⟨by rw [a2.1, b1.1], fun k k0 k1 => ?_⟩, by rw [b1.1]; exact n.1, by rw [b1.1]; exact n.2.1⟩
  · rw [b1.1] at k1
    rw [(b1.2 k k0 k1).1]
    exact (Ts.2 k k0 k1).1
  · rw [b1.1] at k1
    have g := b1.2 k k0 k1
    have e := a2.2 k k0 k1
    have t := Ts.2 k k0 k1
    rw [g.1, e.1, e.2.1, e.2.2]
    refine ⟨rfl, fun h => ⟨⟨((g.2.1 h).1).symm, t.2.1⟩, fun h3 => ⟨((g.2.1 h).2 h3).symm, t.2.2⟩⟩⟩
set_option maxHeartbeats 2000000 in
theorem g_text : Good 13 14 [] := by
  intro L T n o d w v I
  obtain ⟨i1, i2, i3, i4, i5, i6, i7, i8, i9⟩ := I
  obtain ⟨t0, t4, tc, r0, r1, rc⟩ := i1.2.2.2.2.1
  by_cases c4 : w 394 1 = 4
  · exact ⟨w, v, o, ⟨-1, w, c_textF (d := d + 97) (by rw [tc, c4]), m_textF (d := d + 187) c4⟩, ⟨i1, i2, i3, i4, i5, i6, i7, i8, i9⟩, rfl⟩
  obtain ⟨wl, rfl⟩ := wl_of v
  have O : TpOk (w 346 1, w 347) := ⟨⟨i6.1.1, i6.1.2.1⟩, fun k k0 k1 => (i6.2 k k0 k1).2⟩
  have CC : CTp w (w 346 1, w 347) := ⟨rfl, fun _ _ _ => rfl⟩
  generalize hq : w 394 1 = q at *
  obtain ⟨w1, e1, s1, s2, s3, s4, s5, s6⟩ := c_text (d := d + 97) (L := L) (T := T) (n := n) (o1 := o) (v := am_wl wl) (q := q) O i9 CC tc t0 (by omega)
  have so : scrO q = 368 + 5 * q.toNat := rfl
  have f1 : ∀ x, x ≠ 1 → x ≠ 346 → (x < 348 ∨ 352 < x) → (x < 368 ∨ 387 < x) → w1 x = w x := fun x h1 h2 h3 h4 => s4 x h1 h2 h3 (by omega)
  have MC : MTp w1 (w 346 1, w 347) := by
    refine ⟨by rw [f1 393 (by decide) (by decide) (by decide) (by decide)]; exact i6.1.2.2.symm, fun k k0 k1 => ?_⟩
    rw [f1 397 (by decide) (by decide) (by decide) (by decide)]
    exact ((i6.2 k k0 k1).1).symm
  obtain ⟨w2, wl2, e2, m1, m2, m3, m4, m5, m6, m7, m8⟩ := m_text (d := d + 187) (L := L) (T := T) (o := scrO q) (n := n) (wl := wl) (u := w1) (q := q) O MC (by rw [f1 394 (by decide) (by decide) (by decide) (by decide)]; exact hq) t0 (by omega)
  have g1 : ∀ b, b < 393 → w2 b = w1 b := fun b hb => m4 b (by omega) (by omega) (by omega) (by omega)
  have wk : WNow w2 := by
    refine i1.texts (t := if (pTx (w 346 1, w 347) 25 TS0).1 = 0 then q + 1 else q) (fun a h1 h2 => by rw [g1 a (by omega), f1 a (by omega) (by omega) (by omega) (by omega)]) (fun k hk => by rw [m7 k hk, f1 394 (by decide) (by decide) (by decide) (by decide)]) (fun k hk => by rw [g1 1 (by decide), s5 k hk]) (by rw [g1 1 (by decide), s6]) m8 ?_ ?_ ?_
    all_goals split <;> omega
  have kt : WKept w2 := i2.keep (fun a h1 h2 => by rw [g1 a (by omega), f1 a (by omega) (by omega) (by omega) (by omega)]) (by rw [m4 395 (by decide) (by decide) (by decide) (by decide), f1 395 (by decide) (by decide) (by decide) (by decide)])
  have old : ∀ j, 0 ≤ j → j < q → TxRel w2 j := by
    intro j j0 j1
    have sj : scrO j = 368 + 5 * j.toNat := rfl
    refine (i4 j j0 j1).lo j0 (by omega) (fun a ha => by rw [g1 _ (by omega), s4 _ (by omega) (by omega) (by omega) (by omega)]) (fun y y0 y1 => by rw [m6 y (by omega), f1 396 (by decide) (by decide) (by decide) (by decide)])
  have st : StcR w2 := i9.keep (fun a ha => by rw [m4 a (by omega) (by omega) (by omega) (by omega), f1 a (by omega) (by omega) (by omega) (by omega)])
  have l5 : CLaw w2 388 none none := i5.keep (by rw [g1 388 (by decide), f1 388 (by decide) (by decide) (by decide) (by decide)]) (by rw [g1 389 (by decide), f1 389 (by decide) (by decide) (by decide) (by decide)])
  have tp : TpRel w2 := by
    have a1 : w2 346 1 = 0 := by rw [g1 346 (by decide)]; exact s3
    refine ⟨⟨by omega, by omega, by omega⟩, fun k k0 k1 => by omega⟩
  have i395 : w2 395 1 = w 395 1 := by rw [m4 395 (by decide) (by decide) (by decide) (by decide), f1 395 (by decide) (by decide) (by decide) (by decide)]
  have w23 : w2 393 23 = 1 := by rw [m5 23 (by decide), f1 393 (by decide) (by decide) (by decide) (by decide)]; exact i8
  have w02 : w2 1000002 = w 1000002 := by rw [m4 1000002 (by decide) (by decide) (by decide) (by decide), f1 1000002 (by decide) (by decide) (by decide) (by decide)]
  refine ⟨w2, am_wl wl2, scrO q, ⟨_, w1, e1, e2⟩, ⟨wk, kt, ?_, ?_, l5, tp, ?_, w23, st⟩, w02⟩
  · rw [i395, m8]
    split <;> omega
  · rw [m8]
    intro j j0 j1
    by_cases cj : j < q
    · exact old j j0 cj
    · by_cases c : (pTx (w 346 1, w 347) 25 TS0).1 = 0
      · rw [if_pos c] at j1
        have ej : j = q := by omega
        rw [ej]
        obtain ⟨⟨x1, x2⟩, x3, _⟩ := s1 c
        obtain ⟨⟨⟨kw, y1⟩, y2, y3⟩, _⟩ := m1 c
        have kk : ∀ a, a < 5 → w2 (scrO q + a) = w1 (scrO q + a) := fun a ha => g1 _ (by omega)
        exact TxRel.new (c := (0, fun _ => (0, 0, 0))) x3 t0 (by omega) (x1.keep (kk 0 (by decide)) (kk 1 (by decide))) (x2.keep (by rw [show w2 (scrO q) = w1 (scrO q) from kk 0 (by decide)]) (kk 2 (by decide)) (kk 3 (by decide)) (kk 4 (by decide))) y1 y2 y3
      · rw [if_neg c] at j1
        exact absurd j1 cj
  · rw [g1 352 (by decide)]
    by_cases c : (pTx (w 346 1, w 347) 25 TS0).1 = 0
    · have a := (s1 c).2.2
      have b := (m1 c).2.2
      exact ⟨by rw [a.1, b.1], by rw [a.2, b.2]⟩
    · have a := s2 c
      have b := m2 c
      exact ⟨by rw [a.1, b.1], by rw [a.2, b.2]⟩
end TG
