def MCx (u : Nat → Int → Int) (x cd hi : Int) : Prop := 0 ≤ x ∧ x ≤ 2700 ∧ 0 ≤ cd ∧ cd ≤ 2116 ∧ u 396 (x + 2) = hi ∧ hi ≤ 300
def MSeg (z : Int) (c cv : Int → Int) (i j : Int) (V : LEnv → Int) : Prop := (0 ≤ i ∧ i < j ∧ ∀ E, EOk E → -1000000 ≤ V E ∧ V E ≤ 1000000) ∧ ∀ (d L T o n : Nat) (u wl : Nat → Int → Int) (E : LEnv) (q cl x cd hi N tr : Int) (jj : JM), EOk E → MEnv z u E → MCx u x cd hi → (∀ k, i ≤ k → k < j → u 396 (cd + 2 * k) = c k ∧ u 396 (cd + 2 * k + 1) = cv k) → j ≤ hi → 0 ≤ N → N + (j - i) ≤ 330 → 0 ≤ tr → tr + (j - i) ≤ 330 → ∃ u2 wl2 j2, mHd d L T o n q cl x cd N tr i jj u wl = mHd d L T o n q cl x cd (N + 1) tr j j2 u2 wl2 ∧ wl2 400 N = V E ∧ (∀ k, k < N → wl2 400 k = wl 400 k) ∧ (∀ k, k < tr → u2 401 k = u 401 k) ∧ (∀ b, b ≠ 401 → u2 b = u b)
def MCnd (z : Int) (c cv : Int → Int) (i j : Int) (B : LEnv → Bool) : Prop := (0 ≤ i ∧ i < j) ∧ ∀ (d L T o n : Nat) (u wl : Nat → Int → Int) (E : LEnv) (q cl x cd hi N tr : Int) (jj : JM), EOk E → MEnv z u E → MCx u x cd hi → (∀ k, i ≤ k → k < j → u 396 (cd + 2 * k) = c k ∧ u 396 (cd + 2 * k + 1) = cv k) → j ≤ hi → 0 ≤ N → N + (j - i) ≤ 330 → 0 ≤ tr → tr + (j - i) ≤ 330 → ∃ u2 wl2 j2, mHd d L T o n q cl x cd N tr i jj u wl = mHd d L T o n q cl x cd N (tr + 1) j j2 u2 wl2 ∧ u2 401 tr = bI (B E = true) ∧ (∀ k, k < N → wl2 400 k = wl 400 k) ∧ (∀ k, k < tr → u2 401 k = u 401 k) ∧ (∀ b, b ≠ 401 → u2 b = u b)
section MU
variable {z i j k g p : Int} {c cv c2 cv2 : Int → Int} {V V1 V2 : LEnv → Int} {B B1 B2 : LEnv → Bool}
theorem MCx.keep {u u2 : Nat → Int → Int} {x cd hi : Int} (h : MCx u x cd hi) (hu : ∀ b, b ≠ 401 → u2 b = u b) : MCx u2 x cd hi := by
  unfold MCx at h ⊢
  rw [hu 396 (by decide)]
  exact h
theorem MSeg.congr (H : MSeg z c cv i j V) (h : ∀ k, i ≤ k → k < j → c2 k = c k ∧ cv2 k = cv k) : MSeg z c2 cv2 i j V :=
  ⟨H.1, fun d L T o n u wl E q cl x cd hi N tr jj hE hC hx hc h1 h2 h3 h4 h5 => H.2 d L T o n u wl E q cl x cd hi N tr jj hE hC hx (fun k a b => by rw [← (h k a b).1, ← (h k a b).2]; exact hc k a b) h1 h2 h3 h4 h5⟩
theorem MCnd.congr (H : MCnd z c cv i j B) (h : ∀ k, i ≤ k → k < j → c2 k = c k ∧ cv2 k = cv k) : MCnd z c2 cv2 i j B :=
  ⟨H.1, fun d L T o n u wl E q cl x cd hi N tr jj hE hC hx hc h1 h2 h3 h4 h5 => H.2 d L T o n u wl E q cl x cd hi N tr jj hE hC hx (fun k a b => by rw [← (h k a b).1, ← (h k a b).2]; exact hc k a b) h1 h2 h3 h4 h5⟩
theorem MSeg.num (i0 : 0 ≤ i) (hc : c i = 0) (hv : cv i = g) (g0 : 0 ≤ g) (g1 : g ≤ 9999) : MSeg z c cv i (i + 1) (fun _ => g) := by
  refine ⟨⟨i0, by omega, fun E _ => by dsimp only; omega⟩, fun d L T o n u wl E q cl x cd hi N tr jj hE hC hx hw h1 h2 h3 h4 h5 => ?_⟩
  have hi := hw i (by omega) (by omega)
  obtain ⟨j2, e⟩ := ms_num (d := d) (L := L) (T := T) (o := o) (n := n) (wl := wl) (q := q) (cl := cl) (N := N) (tr := tr) (jj := jj) ⟨hx, i0, by omega, hi.1.trans hc, hi.2.trans hv⟩ g0 g1 h2 (by omega)
  exact ⟨u, _, j2, e, upI_s, fun k hk => upI_2 (by omega), fun k hk => rfl, fun b hb => rfl⟩
theorem MSeg.name (i0 : 0 ≤ i) (hk : allow z k) (hc : c i = 1) (hv : cv i = k) : MSeg z c cv i (i + 1) (fun E => E.1 k) := by
  have hk2 : 0 ≤ k ∧ k < 8 := by unfold allow at hk; omega
  refine ⟨⟨i0, by omega, fun E hE => by have := hE.1 k hk2.1 hk2.2; dsimp only; omega⟩, fun d L T o n u wl E q cl x cd hi N tr jj hE hC hx hw h1 h2 h3 h4 h5 => ?_⟩
  have hi := hw i (by omega) (by omega)
  obtain ⟨j2, e⟩ := ms_name (d := d) (L := L) (T := T) (o := o) (n := n) (wl := wl) (q := q) (cl := cl) (N := N) (tr := tr) (jj := jj) hk hC hE ⟨hx, i0, by omega, hi.1.trans hc, hi.2.trans hv⟩ h2 (by omega)
  exact ⟨u, _, j2, e, upI_s, fun k hk => upI_2 (by omega), fun k hk => rfl, fun b hb => rfl⟩
theorem MSeg.uno (H : MSeg z c cv i j V) (hp : p = 41 ∨ p = 10 ∨ p = 11) (hc : c j = umo p) (hv : cv j = 0) : MSeg z c cv i (j + 1) (fun E => uno p E (V E)) := by
  obtain ⟨⟨i0, i1, hV⟩, H⟩ := H
  refine ⟨⟨i0, by omega, fun E hE => uno_bd hE hp (hV E hE).1 (hV E hE).2⟩, fun d L T o n u wl E q cl x cd hi N tr jj hE hC hx hw h1 h2 h3 h4 h5 => ?_⟩
  obtain ⟨u2, w2, j2, e2, v2, k2, t2, b2⟩ := H d L T o n u wl E q cl x cd hi N tr jj hE hC hx (fun k q1 q2 => hw k q1 (by omega)) (by omega) h2 (by omega) h4 (by omega)
  have hi := hw j (by omega) (by omega)
  rw [← b2 396 (by decide)] at hi
  have hV := hV E hE
  obtain ⟨j3, e3⟩ := ms_uno (d := d) (L := L) (T := T) (o := o) (n := n) (wl := w2) (q := q) (cl := cl) (N := N + 1) (tr := tr) (jj := j2) (y := V E) hp (hC.keep b2) hE ⟨hx.keep b2, by omega, by omega, hi.1.trans hc, hi.2.trans hv⟩ (by omega) (by omega) (by rw [show N + 1 - 1 = N by omega]; exact v2) hV.1 hV.2
  rw [show N + 1 - 1 = N by omega] at e3
  exact ⟨u2, _, j3, e2.trans e3, upI_s, fun k hk => by rw [upI_2 (by omega)]; exact k2 k hk, t2, b2⟩
theorem MSeg.two (H1 : MSeg z c cv i j V1) (H2 : MSeg z c cv j k V2) (hp : p = 25 ∨ p = 26 ∨ p = 27 ∨ p = 28) (hc : c k = p - 19) (hv : cv k = 0) : MSeg z c cv i (k + 1) (fun E => two p (V1 E) (V2 E)) := by
  obtain ⟨⟨i0, i1, hV1⟩, H1⟩ := H1
  obtain ⟨⟨_, i2, hV2⟩, H2⟩ := H2
  refine ⟨⟨i0, by omega, fun E _ => two_bd⟩, fun d L T o n u wl E q cl x cd hi N tr jj hE hC hx hw h1 h2 h3 h4 h5 => ?_⟩
  obtain ⟨u2, w2, j2, e2, v2, k2, t2, b2⟩ := H1 d L T o n u wl E q cl x cd hi N tr jj hE hC hx (fun k q1 q2 => hw k q1 (by omega)) (by omega) h2 (by omega) h4 (by omega)
  obtain ⟨u3, w3, j3, e3, v3, k3, t3, b3⟩ := H2 d L T o n u2 w2 E q cl x cd hi (N + 1) tr j2 hE (hC.keep b2) (hx.keep b2) (fun k q1 q2 => by rw [b2 396 (by decide)]; exact hw k (by omega) (by omega)) (by omega) (by omega) (by omega) h4 (by omega)
  have bb : ∀ b, b ≠ 401 → u3 b = u b := fun b hb => (b3 b hb).trans (b2 b hb)
  have hi := hw k (by omega) (by omega)
  rw [← bb 396 (by decide)] at hi
  have q1 := hV1 E hE
  have q2 := hV2 E hE
  obtain ⟨j4, e4⟩ := ms_two (d := d) (L := L) (T := T) (o := o) (n := n) (wl := w3) (q := q) (cl := cl) (N := N + 1 + 1) (tr := tr) (jj := j3) (y := V1 E) (y2 := V2 E) hp ⟨hx.keep bb, by omega, by omega, hi.1.trans hc, hi.2.trans hv⟩ (by omega) (by omega) (by rw [show N + 1 + 1 - 2 = N by omega, k3 N (by omega)]; exact v2) (by rw [show N + 1 + 1 - 1 = N + 1 by omega]; exact v3) q1.1 q1.2 q2.1 q2.2
  rw [show N + 1 + 1 - 1 = N + 1 by omega, show N + 1 + 1 - 2 = N by omega] at e4
  exact ⟨u3, _, j4, e2.trans (e3.trans e4), upI_s, fun k hk => by rw [upI_2 (by omega), k3 k (by omega)]; exact k2 k hk, fun k hk => (t3 k hk).trans (t2 k hk), bb⟩
theorem MSeg.cmp (H1 : MSeg z c cv i j V1) (H2 : MSeg z c cv j k V2) (hp : p = 31 ∨ p = 36 ∨ p = 32 ∨ p = 37 ∨ p = 33 ∨ p = 34) (hc : c k = cmo p) (hv : cv k = 0) : MCnd z c cv i (k + 1) (fun E => cmpB p (V1 E) (V2 E)) := by
  obtain ⟨⟨i0, i1, hV1⟩, H1⟩ := H1
  obtain ⟨⟨_, i2, hV2⟩, H2⟩ := H2
  refine ⟨⟨i0, by omega⟩, fun d L T o n u wl E q cl x cd hi N tr jj hE hC hx hw h1 h2 h3 h4 h5 => ?_⟩
  obtain ⟨u2, w2, j2, e2, v2, k2, t2, b2⟩ := H1 d L T o n u wl E q cl x cd hi N tr jj hE hC hx (fun k q1 q2 => hw k q1 (by omega)) (by omega) h2 (by omega) h4 (by omega)
  obtain ⟨u3, w3, j3, e3, v3, k3, t3, b3⟩ := H2 d L T o n u2 w2 E q cl x cd hi (N + 1) tr j2 hE (hC.keep b2) (hx.keep b2) (fun k q1 q2 => by rw [b2 396 (by decide)]; exact hw k (by omega) (by omega)) (by omega) (by omega) (by omega) h4 (by omega)
  have bb : ∀ b, b ≠ 401 → u3 b = u b := fun b hb => (b3 b hb).trans (b2 b hb)
  have hi := hw k (by omega) (by omega)
  rw [← bb 396 (by decide)] at hi
  have q1 := hV1 E hE
  have q2 := hV2 E hE
  obtain ⟨j4, e4⟩ := ms_cmp (d := d) (L := L) (T := T) (o := o) (n := n) (wl := w3) (q := q) (cl := cl) (N := N + 1 + 1) (tr := tr) (jj := j3) (y := V1 E) (y2 := V2 E) hp ⟨hx.keep bb, by omega, by omega, hi.1.trans hc, hi.2.trans hv⟩ (by omega) (by omega) h4 (by omega) (by rw [show N + 1 + 1 - 2 = N by omega, k3 N (by omega)]; exact v2) (by rw [show N + 1 + 1 - 1 = N + 1 by omega]; exact v3) q1.1 q1.2 q2.1 q2.2
  rw [show N + 1 + 1 - 2 = N by omega] at e4
  exact ⟨_, w3, j4, e2.trans (e3.trans e4), upI_s, fun k hk => by rw [k3 k (by omega)]; exact k2 k hk, fun k hk => by rw [upI_2 (by omega), t3 k hk]; exact t2 k hk, fun b hb => by rw [upI_c hb]; exact bb b hb⟩
theorem MCnd.not (H : MCnd z c cv i j B) (hc : c j = 20) (hv : cv j = 0) : MCnd z c cv i (j + 1) (fun E => !B E) := by
  obtain ⟨⟨i0, i1⟩, H⟩ := H
  refine ⟨⟨i0, by omega⟩, fun d L T o n u wl E q cl x cd hi N tr jj hE hC hx hw h1 h2 h3 h4 h5 => ?_⟩
  obtain ⟨u2, w2, j2, e2, v2, k2, t2, b2⟩ := H d L T o n u wl E q cl x cd hi N tr jj hE hC hx (fun k q1 q2 => hw k q1 (by omega)) (by omega) h2 (by omega) h4 (by omega)
  have hi := hw j (by omega) (by omega)
  rw [← b2 396 (by decide)] at hi
  obtain ⟨j3, e3⟩ := ms_not (d := d) (L := L) (T := T) (o := o) (n := n) (wl := w2) (q := q) (cl := cl) (N := N) (tr := tr + 1) (jj := j2) (b := B E) ⟨hx.keep b2, by omega, by omega, hi.1.trans hc, hi.2.trans hv⟩ (by omega) (by omega) (by rw [show tr + 1 - 1 = tr by omega]; exact v2)
  rw [show tr + 1 - 1 = tr by omega] at e3
  exact ⟨_, w2, j3, e2.trans e3, upI_s, k2, fun k hk => by rw [upI_2 (by omega)]; exact t2 k hk, fun b hb => by rw [upI_c hb]; exact b2 b hb⟩
theorem MCnd.join {B3 : LEnv → Bool} (H1 : MCnd z c cv i j B1) (H2 : MCnd z c cv j k B2) (hp : p = 21 ∨ p = 22) (hc : c k = p) (hv : cv k = 0)
    (hj : ∀ (E : LEnv) (d : Nat) (M : am_M), am_call d 298 [.int (iI p), .int (iI (bI (B1 E = true))), .int (iI (bI (B2 E = true)))] M = some (some (.int (iI (bI (B3 E = true)))), M)) : MCnd z c cv i (k + 1) B3 := by
  obtain ⟨⟨i0, i1⟩, H1⟩ := H1
  obtain ⟨⟨_, i2⟩, H2⟩ := H2
  refine ⟨⟨i0, by omega⟩, fun d L T o n u wl E q cl x cd hi N tr jj hE hC hx hw h1 h2 h3 h4 h5 => ?_⟩
  obtain ⟨u2, w2, j2, e2, v2, k2, t2, b2⟩ := H1 d L T o n u wl E q cl x cd hi N tr jj hE hC hx (fun k q1 q2 => hw k q1 (by omega)) (by omega) h2 (by omega) h4 (by omega)
  obtain ⟨u3, w3, j3, e3, v3, k3, t3, b3⟩ := H2 d L T o n u2 w2 E q cl x cd hi N (tr + 1) j2 hE (hC.keep b2) (hx.keep b2) (fun k q1 q2 => by rw [b2 396 (by decide)]; exact hw k (by omega) (by omega)) (by omega) (by omega) (by omega) (by omega) (by omega)
  have bb : ∀ b, b ≠ 401 → u3 b = u b := fun b hb => (b3 b hb).trans (b2 b hb)
  have hi := hw k (by omega) (by omega)
  rw [← bb 396 (by decide)] at hi
  obtain ⟨j4, e4⟩ := ms_join (d := d) (L := L) (T := T) (o := o) (n := n) (wl := w3) (q := q) (cl := cl) (N := N) (tr := tr + 1 + 1) (jj := j3) (b := B1 E) (b2 := B2 E) (b3 := B3 E) hp ⟨hx.keep bb, by omega, by omega, hi.1.trans hc, hi.2.trans hv⟩ (by omega) (by omega) (by rw [show tr + 1 + 1 - 2 = tr by omega, t3 tr (by omega)]; exact v2) (by rw [show tr + 1 + 1 - 1 = tr + 1 by omega]; exact v3) (hj E _ _)
  rw [show tr + 1 + 1 - 1 = tr + 1 by omega, show tr + 1 + 1 - 2 = tr by omega] at e4
  exact ⟨_, w3, j4, e2.trans (e3.trans e4), upI_s, fun k hk => by rw [k3 k (by omega)]; exact k2 k hk, fun k hk => by rw [upI_2 (by omega), t3 k (by omega)]; exact t2 k hk, fun b hb => by rw [upI_c hb]; exact bb b hb⟩
theorem MCnd.and (H1 : MCnd z c cv i j B1) (H2 : MCnd z c cv j k B2) (hc : c k = 21) (hv : cv k = 0) : MCnd z c cv i (k + 1) (fun E => B1 E && B2 E) := H1.join H2 (Or.inl rfl) hc hv (fun _ _ _ => m_joinAnd)
theorem MCnd.or (H1 : MCnd z c cv i j B1) (H2 : MCnd z c cv j k B2) (hc : c k = 22) (hv : cv k = 0) : MCnd z c cv i (k + 1) (fun E => B1 E || B2 E) := H1.join H2 (Or.inr rfl) hc hv (fun _ _ _ => m_joinOr)
theorem MSeg.ite {k1 : Int} (H0 : MCnd z c cv i j B) (H1 : MSeg z c cv j k V1) (H2 : MSeg z c cv k k1 V2) (hc : c k1 = 3) (hv : cv k1 = 0) : MSeg z c cv i (k1 + 1) (fun E => if B E = true then V1 E else V2 E) := by
  obtain ⟨⟨i0, i1⟩, H0⟩ := H0
  obtain ⟨⟨_, i2, hV1⟩, H1⟩ := H1
  obtain ⟨⟨_, i3, hV2⟩, H2⟩ := H2
  refine ⟨⟨i0, by omega, fun E hE => by dsimp only; split; exact hV1 E hE; exact hV2 E hE⟩, fun d L T o n u wl E q cl x cd hi N tr jj hE hC hx hw h1 h2 h3 h4 h5 => ?_⟩
  obtain ⟨u2, w2, j2, e2, v2, k2, t2, b2⟩ := H0 d L T o n u wl E q cl x cd hi N tr jj hE hC hx (fun k q1 q2 => hw k q1 (by omega)) (by omega) h2 (by omega) h4 (by omega)
  obtain ⟨u3, w3, j3, e3, v3, k3, t3, b3⟩ := H1 d L T o n u2 w2 E q cl x cd hi N (tr + 1) j2 hE (hC.keep b2) (hx.keep b2) (fun k q1 q2 => by rw [b2 396 (by decide)]; exact hw k (by omega) (by omega)) (by omega) (by omega) (by omega) (by omega) (by omega)
  have bb : ∀ b, b ≠ 401 → u3 b = u b := fun b hb => (b3 b hb).trans (b2 b hb)
  obtain ⟨u4, w4, j4, e4, v4, k4, t4, b4⟩ := H2 d L T o n u3 w3 E q cl x cd hi (N + 1) (tr + 1) j3 hE (hC.keep bb) (hx.keep bb) (fun k q1 q2 => by rw [bb 396 (by decide)]; exact hw k (by omega) (by omega)) (by omega) (by omega) (by omega) (by omega) (by omega)
  have bc : ∀ b, b ≠ 401 → u4 b = u b := fun b hb => (b4 b hb).trans (bb b hb)
  have hi := hw k1 (by omega) (by omega)
  rw [← bc 396 (by decide)] at hi
  obtain ⟨j5, e5⟩ := ms_sel (d := d) (L := L) (T := T) (o := o) (n := n) (wl := w4) (q := q) (cl := cl) (N := N + 1 + 1) (tr := tr + 1) (jj := j4) (b := B E) ⟨hx.keep bc, by omega, by omega, hi.1.trans hc, hi.2.trans hv⟩ (by omega) (by omega) (by omega) (by omega) (by rw [show tr + 1 - 1 = tr by omega, t4 tr (by omega), t3 tr (by omega)]; exact v2)
  rw [show N + 1 + 1 - 1 = N + 1 by omega, show N + 1 + 1 - 2 = N by omega, show tr + 1 - 1 = tr by omega] at e5
  refine ⟨u4, _, j5, e2.trans (e3.trans (e4.trans e5)), ?_, fun k hk => ?_, fun k hk => by rw [t4 k (by omega), t3 k (by omega)]; exact t2 k hk, bc⟩
  · dsimp only
    by_cases hB : B E = true
    · rw [if_pos hB, if_pos hB, k4 N (by omega)]; exact v3
    · rw [if_neg hB, if_neg hB, upI_s]; exact v4
  · split
    · rw [k4 k (by omega), k3 k (by omega)]; exact k2 k hk
    · rw [upI_2 (by omega), k4 k (by omega), k3 k (by omega)]; exact k2 k hk
end MU
