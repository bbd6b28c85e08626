theorem am_K.same {D : va_G} {Ac : Nat → ClassId} {b : Nat} {st : Nat → Nat} {HB : Heap} {zS : Nat → Nat × Nat} {zu : Nat → Nat → Int32} {u U : State} (h : u.vm = U.vm) (hK : am_K D Ac b st HB zS zu u) : am_K D Ac b st HB zS zu U := by
  have hA : u.vm.Alike U.vm := by rw [h]; exact Vm.Alike.refl _
  exact ⟨hK.1.moved hA, fun own ho e he => (hK.2.1 own ho e he).same rfl h, hK.2.2.1.moved hA, hK.2.2.2.1.moved hA, fun a n ha => ⟨(hK.2.2.2.2 a n ha).1.moved hA, (hK.2.2.2.2 a n ha).2⟩⟩
theorem am_cs_sum (b : Nat) (st : Nat → Nat) : ∀ l : List Value, ((l.map (am_cv b st)).map fun v => v.category).sum = am_cs l
  | [] => rfl
  | v :: l => by
    have ih := am_cs_sum b st l
    rw [List.map_cons, List.map_cons, List.sum_cons, ih]
    cases v <;> rfl
def am_nt (t : ArrayType) : Nat := match t with
  | .int => 0
  | .long => 1
  | .boolean => 2
  | _ => 99
section MORE
variable {p : Program} {l : Launch} {e : Env} {R : Room} {s : State} {m : MethodId} {args : Array Value} {below : List Frame} {meth : Method} {c : Code} {Q : State → Prop} {D : va_G} {Ac : Nat → ClassId} {b : Nat} {st : Nat → Nat} {HB : Heap} {zS : Nat → Nat × Nat} {zu : Nat → Nat → Int32} {nL n0 t0 own : Nat} {ini : Bool} {cc : ByteArray} {pc : Nat} {loc : am_L} {stk : List Value} {M : am_M}
theorem ar_newa {t : ArrayType} {x : Nat} {n : Int32} (C : am_C p s m args meth c cc nL own ini D Ac b st HB zS zu) (hd : decode cc pc = .ok (.newarray t, 2)) (hx : x = am_nt t) (hx2 : x < 3) (hw : Cond.arrayClass (newarray.typeOf t) ∈ am_T) (h0 : ¬ n < 0) (hle : n.toNatClampNeg ≤ 100000)
    (hM : M.1 < 900000) (hn : n0 ≤ M.1) (htn : t0 ≤ M.2.1) (hr : M.1 + 1 - n0 ≤ R.cells ∧ M.2.1 + n.toNatClampNeg - t0 ≤ R.slots) (kk : am_G p l e R s m args below meth c Q D Ac b st HB zS zu nL n0 t0 (pc + 2) (loc) (.ref M.1 :: stk) (M.1 + 1, M.2.1 + n.toNatClampNeg, am_sh M.2.2.1 M.1 (x, n.toNatClampNeg), am_row M.2.2.2.1 M.1 (fun _ => 0), am_row M.2.2.2.2.1 M.1 (fun _ => 0), am_row M.2.2.2.2.2 M.1 (fun _ => none))) : am_G p l e R s m args below meth c Q D Ac b st HB zS zu nL n0 t0 (pc) (loc) (.int n :: stk) (M) := by
  intro H locs ls hR hL hl
  have hcb : componentBytes (newarray.typeOf t) ≤ 8 := by cases t <;> decide
  refine va_newaK C.1 C.2.1 (C.2.2.2.2.1 _ hw) rfl hd rfl h0 rfl (Nat.le_trans (Nat.mul_le_mul hle hcb) (by decide)) (by omega) (by omega) rfl fun H1 cA e1 z1 o1 hA hN => ?_
  have hR' := hR.grow hM z1 o1 (T' := M.2.1 + n.toNatClampNeg) (q := (x, n.toNatClampNeg)) (f := fun _ => 0) (g := fun _ => 0) (r := fun _ => none) (Or.inl ⟨by show x < 5; omega, by
    rw [← hR.1, e1]
    cases t with
    | int =>
      have hk : s.vm.findClass ("[" ++ (newarray.typeOf .int).toString) = some (Ac 0) := (C.2.2.2.2.2.1.1.2 0 _ rfl).2
      cases hN.symm.trans hk
      subst hx
      rfl
    | long =>
      have hk : s.vm.findClass ("[" ++ (newarray.typeOf .long).toString) = some (Ac 1) := (C.2.2.2.2.2.1.1.2 1 _ rfl).2
      cases hN.symm.trans hk
      subst hx
      rfl
    | boolean =>
      have hk : s.vm.findClass ("[" ++ (newarray.typeOf .boolean).toString) = some (Ac 2) := (C.2.2.2.2.2.1.1.2 2 _ rfl).2
      cases hN.symm.trans hk
      subst hx
      rfl
    | _ => subst hx; exact absurd hx2 (by decide)⟩)
  have := kk H1 locs ls hR' hL hl
  have ead : am_ad b st M.1 = H.size := by rw [hR.1]; unfold am_ad; rw [if_pos (by omega)]
  have es : List.map (am_cv b st) (Value.ref M.1 :: stk) = .ref H.size :: stk.map (am_cv b st) := by rw [← ead]; rfl
  rw [es] at this
  dsimp only at this
  rw [show M.1 + 1 - n0 = M.1 - n0 + 1 by omega, show M.2.1 + n.toNatClampNeg - t0 = M.2.1 - t0 + n.toNatClampNeg by omega] at this
  exact this
theorem ar_anew {i x : Nat} {n : Int32} (C : am_C p s m args meth c cc nL own ini D Ac b st HB zS zu) (hd : decode cc pc = .ok (.anewarray i, 3)) (hx : x = 3 ∨ x = 4) (hw : Cond.classLink (am_CN own) i (am_an x) ∈ am_T) (h0 : ¬ n < 0) (hle : n.toNatClampNeg ≤ 100000)
    (hM : M.1 < 900000) (hn : n0 ≤ M.1) (htn : t0 ≤ M.2.1) (hr : M.1 + 1 - n0 ≤ R.cells ∧ M.2.1 + n.toNatClampNeg - t0 ≤ R.slots) (kk : am_G p l e R s m args below meth c Q D Ac b st HB zS zu nL n0 t0 (pc + 3) (loc) (.ref M.1 :: stk) (M.1 + 1, M.2.1 + n.toNatClampNeg, am_sh M.2.2.1 M.1 (x, n.toNatClampNeg), am_row M.2.2.2.1 M.1 (fun _ => 0), am_row M.2.2.2.2.1 M.1 (fun _ => 0), am_row M.2.2.2.2.2 M.1 (fun _ => none))) : am_G p l e R s m args below meth c Q D Ac b st HB zS zu nL n0 t0 (pc) (loc) (.int n :: stk) (M) := by
  intro H locs ls hR hL hl
  have ead : am_ad b st M.1 = H.size := by rw [hR.1]; unfold am_ad; rw [if_pos (by omega)]
  have es : List.map (am_cv b st) (Value.ref M.1 :: stk) = .ref H.size :: stk.map (am_cv b st) := by rw [← ead]; rfl
  have fin : ∀ (cA : ClassId), cA = Ac x → W p l e R s m args below meth c (H.push { cls := cA, slots := Array.replicate n.toNatClampNeg .null, vm := .none }) locs (M.1 - n0 + 1) (M.2.1 - t0 + n.toNatClampNeg) Q (F0 m (pc + 3) ls (.ref H.size :: stk.map (am_cv b st))) := by
    intro cA hA
    have hR' := hR.grow hM (H' := H.push { cls := cA, slots := Array.replicate n.toNatClampNeg .null, vm := .none }) (by simp) (fun q hq => by rw [Array.getElem?_push, if_neg (Nat.ne_of_lt hq)]) (T' := M.2.1 + n.toNatClampNeg) (q := (x, n.toNatClampNeg)) (f := fun _ => 0) (g := fun _ => 0) (r := fun _ => none) (Or.inl ⟨by show x < 5; omega, by
      rw [← hR.1, arrV_new, hA]
      rw [Array.getElem?_push, if_pos rfl]
      rcases hx with rfl | rfl <;> rfl⟩)
    have := kk _ locs ls hR' hL hl
    rw [es] at this
    dsimp only at this
    rw [show M.1 + 1 - n0 = M.1 - n0 + 1 by omega, show M.2.1 + n.toNatClampNeg - t0 = M.2.1 - t0 + n.toNatClampNeg by omega] at this
    exact this
  rcases hx with rfl | rfl
  · refine W.anew (C := "SpoonSet$Table") C.1 C.2.1 C.2.2.2.1 (C.2.2.2.2.1 _ hw) C.2.2.2.2.2.1.2.2.1.use rfl hd rfl h0 (Nat.le_trans (Nat.mul_le_mul_right 4 hle) (by decide)) (by omega) (by omega) fun cA kA comp g1 g2 g3 g4 => ?_
    obtain ⟨kA', comp', k1, k2, k3, k4⟩ := (C.2.2.2.2.2.1.1.2 3 _ rfl).2
    exact fin cA (Option.some.inj (g1.symm.trans k4))
  · refine W.anew (C := "SpoonSet$Script") C.1 C.2.1 C.2.2.2.1 (C.2.2.2.2.1 _ hw) C.2.2.2.2.2.1.2.2.2.1.use rfl hd rfl h0 (Nat.le_trans (Nat.mul_le_mul_right 4 hle) (by decide)) (by omega) (by omega) fun cA kA comp g1 g2 g3 g4 => ?_
    obtain ⟨kA', comp', k1, k2, k3, k4⟩ := (C.2.2.2.2.2.1.1.2 4 _ rfl).2
    exact fin cA (Option.some.inj (g1.symm.trans k4))
theorem ar_aast {a q t ci : Nat} {j : Int32} (C : am_C p s m args meth c cc nL own ini D Ac b st HB zS zu) (hd : decode cc pc = .ok (.aastore, 1)) (ht : (t = 3 ∧ ci = 8) ∨ (t = 4 ∧ ci = 7)) (hin : am_in (M.2.2.1 a) t j) (hq : M.2.2.1 q = (10 + ci, 0)) (kk : am_G p l e R s m args below meth c Q D Ac b st HB zS zu nL n0 t0 (pc + 1) (loc) (stk) (M.1, M.2.1, M.2.2.1, M.2.2.2.1, M.2.2.2.2.1, am_up M.2.2.2.2.2 a j.toNatClampNeg (some q))) : am_G p l e R s m args below meth c Q D Ac b st HB zS zu nL n0 t0 (pc) (loc) (.ref q :: .int j :: .ref a :: stk) (M) := by
  intro H locs ls hR hL hl
  obtain ⟨ha, had, hc⟩ := hR.arr C.2.2.2.2.2.2.2.2.2 hin.1 (by omega)
  obtain ⟨hqa, hqd, cellV, g1, g2, g3, -⟩ := hR.obj C.2.2.2.2.2.2.2.2.2 hq (by omega) (by omega)
  rw [show 10 + ci - 10 = ci by omega] at g2
  have hg : F0 m pc ls ((Value.ref q :: Value.int j :: Value.ref a :: stk).map (am_cv b st)) = F0 m pc ls (.ref (b + q) :: .int j :: .ref (b + a) :: stk.map (am_cv b st)) := by rw [← had, ← hqd]; rfl
  rw [hg]
  have f1 := (am_fc (show ci < 13 by omega)).1
  have hcls := (C.2.2.2.2.2.1.1.1 ci _ f1).2
  obtain ⟨kC, hkC, -⟩ := hcls.2
  have fin : ∀ H1 : Heap, H1[b + a]? = some ((arrV (Ac t) (M.2.2.1 a).2 (am_av b st t (M.2.2.2.1 a) (M.2.2.2.2.1 a) (M.2.2.2.2.2 a))).setSlot j.toNatClampNeg (.ref (b + q))) → H1.size = H.size → (∀ x, x ≠ b + a → H1[x]? = H[x]?) → W p l e R s m args below meth c H1 (locs ++ [⟨b + a, j.toNatClampNeg⟩]) (M.1 - n0) (M.2.1 - t0) Q (F0 m (pc + 1) ls (stk.map (am_cv b st))) := by
    intro H1 e z oq
    refine kk H1 _ ls (hR.put ha z oq (u' := M.2.2.2.1) (v' := M.2.2.2.2.1) (r' := am_up M.2.2.2.2.2 a j.toNatClampNeg (some q)) (fun _ _ => rfl) (fun _ _ => rfl) (fun c hc => am_up_ne hc) (Or.inl ⟨by rw [hin.1]; omega, ?_⟩)) hL ?_
    · rw [e, arrV_store]
      simp only [hin.1]
      congr 2
      funext i
      have h1 : ¬ t = 1 := by omega
      have h34 : t = 3 ∨ t = 4 := by omega
      by_cases hi : i = j.toNatClampNeg <;> simp [updV, am_av, am_up_at, hi, h1, h34, am_rv, hqd]
    · intro x hx
      rcases List.mem_append.mp hx with h | h
      · exact hl x h
      · rw [List.mem_singleton.mp h]; exact Nat.le_add_right _ _
  rcases ht with ⟨rfl, rfl⟩ | ⟨rfl, rfl⟩
  · obtain ⟨kA, comp, k1, k2, k3, -⟩ := (C.2.2.2.2.2.1.1.2 3 _ rfl).2
    have hcomp : comp = D.1 8 := Option.some.inj (k3.symm.trans hcls.1)
    subst hcomp
    exact W.aast C.1 C.2.1 hc (fun q h => by cases h) (fun h => by cases h) k1 k2 rfl hkC ⟨hin.2.1, by rw [arrV_size]; exact hin.2.2⟩ g1 (fun q h => by rw [g3] at h; cases h) (by rw [g2]; exact hkC) (by rw [g2]; exact va_assign hcls) rfl rfl hd fin
  · obtain ⟨kA, comp, k1, k2, k3, -⟩ := (C.2.2.2.2.2.1.1.2 4 _ rfl).2
    have hcomp : comp = D.1 7 := Option.some.inj (k3.symm.trans hcls.1)
    subst hcomp
    exact W.aast C.1 C.2.1 hc (fun q h => by cases h) (fun h => by cases h) k1 k2 rfl hkC ⟨hin.2.1, by rw [arrV_size]; exact hin.2.2⟩ g1 (fun q h => by rw [g3] at h; cases h) (by rw [g2]; exact hkC) (by rw [g2]; exact va_assign hcls) rfl rfl hd fin
theorem ar_mmin {i : Nat} {x y : Int32} (C : am_C p s m args meth c cc nL own ini D Ac b st HB zS zu) (hd : decode cc pc = .ok (.invokestatic i, 3)) (hw : Cond.methodLink (am_CN own) i Lib.Math.min.name ∈ am_T) (h1 : Cond.static Lib.Math.min.name ∈ am_T) (h2 : Cond.initialized "java/lang/Math" ∈ am_T) (h3 : Cond.code Lib.Math.min.name Lib.Math.min.code 2 (some .int) ∈ am_T) (hcs : am_cs stk ≤ 8) (hf : 1 ≤ R.frames ∧ 80 ≤ R.locals) (hr : M.1 - n0 ≤ R.cells ∧ M.2.1 - t0 ≤ R.slots) (k : am_G p l e R s m args below meth c Q D Ac b st HB zS zu nL n0 t0 (pc + 3) (loc) (.int (if y < x then y else x) :: stk) (M)) : am_G p l e R s m args below meth c Q D Ac b st HB zS zu nL n0 t0 (pc) (loc) (.int y :: .int x :: stk) (M) := fun H locs ls hR hL hl =>
  va_mmin C.1 C.2.1 (C.2.2.1.trans hL.1.symm) C.2.2.2.1 (C.2.2.2.2.1 _ hw) (C.2.2.2.2.1 _ h1) (C.2.2.2.2.1 _ h2) (C.2.2.2.2.1 _ h3) hf.1 (by rw [am_cs_sum]; omega) hr.1 hr.2 hd (k H locs ls hR hL hl)
theorem ar_mmax {i : Nat} {x y : Int32} (C : am_C p s m args meth c cc nL own ini D Ac b st HB zS zu) (hd : decode cc pc = .ok (.invokestatic i, 3)) (hw : Cond.methodLink (am_CN own) i Lib.Math.max.name ∈ am_T) (h1 : Cond.static Lib.Math.max.name ∈ am_T) (h2 : Cond.initialized "java/lang/Math" ∈ am_T) (h3 : Cond.code Lib.Math.max.name Lib.Math.max.code 2 (some .int) ∈ am_T) (hcs : am_cs stk ≤ 8) (hf : 1 ≤ R.frames ∧ 80 ≤ R.locals) (hr : M.1 - n0 ≤ R.cells ∧ M.2.1 - t0 ≤ R.slots) (k : am_G p l e R s m args below meth c Q D Ac b st HB zS zu nL n0 t0 (pc + 3) (loc) (.int (if x < y then y else x) :: stk) (M)) : am_G p l e R s m args below meth c Q D Ac b st HB zS zu nL n0 t0 (pc) (loc) (.int y :: .int x :: stk) (M) := fun H locs ls hR hL hl =>
  va_mmax C.1 C.2.1 (C.2.2.1.trans hL.1.symm) C.2.2.2.1 (C.2.2.2.2.1 _ hw) (C.2.2.2.2.1 _ h1) (C.2.2.2.2.1 _ h2) (C.2.2.2.2.1 _ h3) hf.1 (by rw [am_cs_sum]; omega) hr.1 hr.2 hd (k H locs ls hR hL hl)
theorem ar_objI {i a : Nat} (C : am_C p s m args meth c cc nL own ini D Ac b st HB zS zu) (hd : decode cc pc = .ok (.invokespecial i, 3)) (hw : Cond.methodLink (am_CN own) i Lib.objectInit ∈ am_T) (h1 : Cond.instanceMethod Lib.objectInit ∈ am_T) (h2 : Cond.code Lib.objectInit ⟨#[0xb1]⟩ 1 none ∈ am_T) (hcs : am_cs stk ≤ 8) (hf : 1 ≤ R.frames ∧ 80 ≤ R.locals) (k : am_G p l e R s m args below meth c Q D Ac b st HB zS zu nL n0 t0 (pc + 3) (loc) (stk) (M)) : am_G p l e R s m args below meth c Q D Ac b st HB zS zu nL n0 t0 (pc) (loc) (.ref a :: stk) (M) := fun H locs ls hR hL hl =>
  W.objInit C.1 C.2.1 C.2.2.2.1 (C.2.2.2.2.1 _ hw) (C.2.2.2.2.1 _ h1) (C.2.2.2.2.1 _ h2) rfl (hL.1.trans C.2.2.1.symm) rfl hd hf.1 (by rw [am_cs_sum]; show 2 * 0 + _ + 12 ≤ _; omega) (k H locs ls hR hL hl)
theorem am_cpy_at (f g : Nat → Int32) (s d n : Nat) (j : Nat) : True := trivial
theorem ar_copy {i a a0 : Nat} {n dp sp : Int32} (C : am_C p s m args meth c cc nL own ini D Ac b st HB zS zu) (hd : decode cc pc = .ok (.invokestatic i, 3)) (hw : Cond.methodLink (am_CN own) i arraycopyName ∈ am_T) (w1 : Cond.native arraycopyName ∈ am_T) (w2 : Cond.static arraycopyName ∈ am_T) (w3 : Cond.initialized "java/lang/System" ∈ am_T)
    (ht : (M.2.2.1 a).1 = 0) (ht0 : (M.2.2.1 a0).1 = 0) (h1 : ¬ sp < 0) (h2 : ¬ dp < 0) (h3 : ¬ n < 0) (h4 : sp.toNatClampNeg + n.toNatClampNeg ≤ (M.2.2.1 a0).2) (h5 : dp.toNatClampNeg + n.toNatClampNeg ≤ (M.2.2.1 a).2) (hcs : am_cs stk ≤ 8) (hf : 1 ≤ R.frames ∧ 80 ≤ R.locals)
    (kk : am_G p l e R s m args below meth c Q D Ac b st HB zS zu nL n0 t0 (pc + 3) (loc) (stk) (M.1, M.2.1, M.2.2.1, am_row M.2.2.2.1 a (va_cpy (M.2.2.2.1 a0) (M.2.2.2.1 a) sp.toNatClampNeg dp.toNatClampNeg n.toNatClampNeg), M.2.2.2.2.1, M.2.2.2.2.2)) : am_G p l e R s m args below meth c Q D Ac b st HB zS zu nL n0 t0 (pc) (loc) (.int n :: .int dp :: .ref a :: .int sp :: .ref a0 :: stk) (M) := by
  intro H locs ls hR hL hl
  have nn : ∀ z : Int32, ¬ z < 0 → z.toInt = (z.toNatClampNeg : Int) := by
    intro z hz
    have hz0 : (0 : Int) ≤ z.toInt := by
      have := Int32.not_lt.mp hz
      simpa using Int32.le_iff_toInt_le.mp this
    show z.toInt = ((z.toInt.toNat : Nat) : Int)
    omega
  obtain ⟨ha, had, hc1⟩ := hR.arr C.2.2.2.2.2.2.2.2.2 ht (by decide)
  obtain ⟨ha0, had0, hc0⟩ := hR.arr C.2.2.2.2.2.2.2.2.2 ht0 (by decide)
  have hg : F0 m pc ls ((Value.int n :: Value.int dp :: Value.ref a :: Value.int sp :: Value.ref a0 :: stk).map (am_cv b st)) = F0 m pc ls (.int n :: .int dp :: .ref (b + a) :: .int sp :: .ref (b + a0) :: stk.map (am_cv b st)) := by rw [← had, ← had0]; rfl
  rw [hg]
  have e0 : arrV (Ac 0) (M.2.2.1 a0).2 (am_av b st 0 (M.2.2.2.1 a0) (M.2.2.2.2.1 a0) (M.2.2.2.2.2 a0)) = vp_cell (Ac 0) ((M.2.2.1 a0).2, .inl (M.2.2.2.1 a0)) := rfl
  have e1 : arrV (Ac 0) (M.2.2.1 a).2 (am_av b st 0 (M.2.2.2.1 a) (M.2.2.2.2.1 a) (M.2.2.2.2.2 a)) = vp_cell (Ac 0) ((M.2.2.1 a).2, .inl (M.2.2.2.1 a)) := rfl
  rw [e0] at hc0
  rw [e1] at hc1
  generalize hN0 : (M.2.2.1 a0).2 = N0 at hc0 h4
  generalize hN1 : (M.2.2.1 a).2 = N1 at hc1 h5
  generalize hF : M.2.2.2.1 a0 = f at hc0 kk
  generalize hG : M.2.2.2.1 a = g at hc1 kk
  intro T hT X
  obtain ⟨-, k0, hk0, cm0, hkk0⟩ := (C.2.2.2.2.2.1.1.2 0 _ rfl).1 N0 (fun j => .int (f j))
  obtain ⟨-, k1, hk1, cm1, hkk1⟩ := (C.2.2.2.2.2.1.1.2 0 _ rfl).1 N1 (fun j => .int (g j))
  obtain ⟨vm', X', step⟩ := X.arraycopy C.1 C.2.2.2.1 (C.2.2.2.2.1 _ hw) (C.2.2.2.2.1 _ w1) (C.2.2.2.2.1 _ w2) (C.2.2.2.2.1 _ w3) (src := b + a0) (dst := b + a) (cs := vp_cell (Ac 0) (N0, .inl f)) (cd := vp_cell (Ac 0) (N1, .inl g)) (srcPos := sp) (destPos := dp) (n := n) (by rw [hT]; exact hc0) (by rw [hT]; exact hc1)
    (fun _ h => by cases h) (fun _ h => by cases h) (fun h => by cases h) (fun h => by cases h) hk0 hk1 hkk0 hkk1 (by simp [refKind]) h1 h2 h3
    (by rw [nn sp h1, nn n h3]; show ¬ _ > ((arrV (Ac 0) N0 (fun j => .int (f j))).slots.size : Int); rw [arrV_size]; omega)
    (by rw [nn dp h2, nn n h3]; show ¬ _ > ((arrV (Ac 0) N1 (fun j => .int (g j))).slots.size : Int); rw [arrV_size]; omega)
    (fun vm₁ _ i hi => by
      have e : (vp_cell (Ac 0) (N0, .inl f)).slots.getD (sp.toNatClampNeg + i) .null = .int (f (sp.toNatClampNeg + i)) := by
        show (arrV (Ac 0) N0 (fun j => .int (f j))).slots.getD _ _ = _
        rw [Array.getD_eq_getD_getElem?, arrV_read _ _ (by omega)]
        rfl
      refine ⟨?_, ?_⟩
      · rw [e]
        rfl
      · rw [e]
        exact trivial)
    (g := F0 m pc ls (.int n :: .int dp :: .ref (b + a) :: .int sp :: .ref (b + a0) :: stk.map (am_cv b st))) rfl (hL.1.trans C.2.2.1.symm) (rest := stk.map (am_cv b st)) rfl (by rw [C.2.1]; exact hd) hf.1 (by show 2 * 0 + _ + _ ≤ _; rw [am_cs_sum]; exact Nat.le_trans (Nat.add_le_add (show 2 * 0 + am_cs stk ≤ 8 by omega) (show nativeFrameWords "java/lang/System" "arraycopy" 5 + 11 ≤ 60 by decide)) (by omega))
  have e2 : copied (vp_cell (Ac 0) (N0, .inl f)) (vp_cell (Ac 0) (N1, .inl g)) sp dp n = vp_cell (Ac 0) (N1, .inl (va_cpy f g sp.toNatClampNeg dp.toNatClampNeg n.toNatClampNeg)) := va_copied (fun z => .int z) (Ac 0) (Ac 0) f g h4
  rw [e2] at X' step
  have hl1 : b + a < H.size := (Array.getElem?_eq_some_iff.mp hc1).1
  have hheap : ((T.setVm vm').setCell (b + a) (vp_cell (Ac 0) (N1, .inl (va_cpy f g sp.toNatClampNeg dp.toNatClampNeg n.toNatClampNeg)))).heap = H.setIfInBounds (b + a) (vp_cell (Ac 0) (N1, .inl (va_cpy f g sp.toNatClampNeg dp.toNatClampNeg n.toNatClampNeg))) := by rw [← hT]; rfl
  have oq : ∀ q : Nat, q ≠ b + a → (H.setIfInBounds (b + a) (vp_cell (Ac 0) (N1, .inl (va_cpy f g sp.toNatClampNeg dp.toNatClampNeg n.toNatClampNeg))))[q]? = H[q]? := fun q hq => by simp [Array.getElem?_setIfInBounds, Ne.symm hq]
  have hR' := hR.put ha (H' := H.setIfInBounds (b + a) (vp_cell (Ac 0) (N1, .inl (va_cpy f g sp.toNatClampNeg dp.toNatClampNeg n.toNatClampNeg)))) (by simp) oq (u' := am_row M.2.2.2.1 a (va_cpy f g sp.toNatClampNeg dp.toNatClampNeg n.toNatClampNeg)) (v' := M.2.2.2.2.1) (r' := M.2.2.2.2.2) (fun c hc => by unfold am_row; rw [if_neg hc]) (fun _ _ => rfl) (fun _ _ => rfl) (Or.inl ⟨by rw [ht]; decide, by
    rw [show am_row M.2.2.2.1 a (va_cpy f g sp.toNatClampNeg dp.toNatClampNeg n.toNatClampNeg) a = va_cpy f g sp.toNatClampNeg dp.toNatClampNeg n.toNatClampNeg by unfold am_row; rw [if_pos rfl], ht, hN1]
    rw [show (H.setIfInBounds (b + a) (vp_cell (Ac 0) (N1, .inl (va_cpy f g sp.toNatClampNeg dp.toNatClampNeg n.toNatClampNeg))))[b + a]? = some (vp_cell (Ac 0) (N1, .inl (va_cpy f g sp.toNatClampNeg dp.toNatClampNeg n.toNatClampNeg))) by simp [Array.getElem?_setIfInBounds, hl1]]
    rfl⟩)
  obtain ⟨t, a1, b1⟩ := kk _ _ ls hR' hL (fun q hq => by
      rcases List.mem_append.mp hq with h | h
      · exact hl q h
      · obtain ⟨z, -, hz⟩ := List.mem_map.mp h
        rw [← hz]
        exact Nat.le_add_right _ _) _ hheap X'
  exact ⟨t, step t a1, b1⟩
theorem ar_goto {off : Int} {t : Nat} (C : am_C p s m args meth c cc nL own ini D Ac b st HB zS zu) (hd : decode cc pc = .ok (.goto off, 3)) (ht : (pc : Int) + off = (t : Int)) (k : am_G p l e R s m args below meth c Q D Ac b st HB zS zu nL n0 t0 (t) (loc) (stk) (M)) : am_G p l e R s m args below meth c Q D Ac b st HB zS zu nL n0 t0 (pc) (loc) (stk) (M) := fun H locs ls hR hL hl => lv_goto C.1 C.2.1 hd ht (k H locs ls hR hL hl)
theorem ar_if0 {cd : Jvm.ClassFile.Cond} {off : Int} {t : Nat} {x : Int32} (C : am_C p s m args meth c cc nL own ini D Ac b st HB zS zu) (hd : decode cc pc = .ok (.ifCond cd off, 3)) (ht : (pc : Int) + off = (t : Int)) (kt : am_if0 cd x = true → am_G p l e R s m args below meth c Q D Ac b st HB zS zu nL n0 t0 (t) (loc) (stk) (M)) (kf : am_if0 cd x = false → am_G p l e R s m args below meth c Q D Ac b st HB zS zu nL n0 t0 (pc + 3) (loc) (stk) (M)) : am_G p l e R s m args below meth c Q D Ac b st HB zS zu nL n0 t0 (pc) (loc) (.int x :: stk) (M) := by
  intro H locs ls hR hL hl
  have k1 : am_if0 cd x = true → W p l e R s m args below meth c H locs (M.1 - n0) (M.2.1 - t0) Q (F0 m t ls (stk.map (am_cv b st))) := fun h => kt h H locs ls hR hL hl
  have k2 : am_if0 cd x = false → W p l e R s m args below meth c H locs (M.1 - n0) (M.2.1 - t0) Q (F0 m (pc + 3) ls (stk.map (am_cv b st))) := fun h => kf h H locs ls hR hL hl
  cases cd
  · exact lv_if_eq C.1 C.2.1 hd ht (fun h => k1 (decide_eq_true h)) (fun h => k2 (decide_eq_false h))
  · exact lv_if_ne C.1 C.2.1 hd ht (fun h => k1 (decide_eq_true h)) (fun h => k2 (decide_eq_false (fun q => q h)))
  · exact lv_if_lt C.1 C.2.1 hd ht (fun h => k1 (decide_eq_true h)) (fun h => k2 (decide_eq_false h))
  · exact lv_if_ge C.1 C.2.1 hd ht (fun h => k1 (decide_eq_true h)) (fun h => k2 (decide_eq_false h))
  · exact lv_if_gt C.1 C.2.1 hd ht (fun h => k1 (decide_eq_true h)) (fun h => k2 (decide_eq_false h))
  · exact lv_if_le C.1 C.2.1 hd ht (fun h => k1 (decide_eq_true h)) (fun h => k2 (decide_eq_false h))
theorem ar_if2 {cd : Jvm.ClassFile.Cond} {off : Int} {t : Nat} {x y : Int32} (C : am_C p s m args meth c cc nL own ini D Ac b st HB zS zu) (hd : decode cc pc = .ok (.if_icmp cd off, 3)) (ht : (pc : Int) + off = (t : Int)) (kt : am_if2 cd x y = true → am_G p l e R s m args below meth c Q D Ac b st HB zS zu nL n0 t0 (t) (loc) (stk) (M)) (kf : am_if2 cd x y = false → am_G p l e R s m args below meth c Q D Ac b st HB zS zu nL n0 t0 (pc + 3) (loc) (stk) (M)) : am_G p l e R s m args below meth c Q D Ac b st HB zS zu nL n0 t0 (pc) (loc) (.int y :: .int x :: stk) (M) := by
  intro H locs ls hR hL hl
  have k1 : am_if2 cd x y = true → W p l e R s m args below meth c H locs (M.1 - n0) (M.2.1 - t0) Q (F0 m t ls (stk.map (am_cv b st))) := fun h => kt h H locs ls hR hL hl
  have k2 : am_if2 cd x y = false → W p l e R s m args below meth c H locs (M.1 - n0) (M.2.1 - t0) Q (F0 m (pc + 3) ls (stk.map (am_cv b st))) := fun h => kf h H locs ls hR hL hl
  cases cd
  · exact lv_icmp_eq C.1 C.2.1 hd ht (fun h => k1 (decide_eq_true h)) (fun h => k2 (decide_eq_false h))
  · exact lv_icmp_ne C.1 C.2.1 hd ht (fun h => k1 (decide_eq_true h)) (fun h => k2 (decide_eq_false (fun q => q h)))
  · exact lv_icmp_lt C.1 C.2.1 hd ht (fun h => k1 (decide_eq_true h)) (fun h => k2 (decide_eq_false h))
  · exact lv_icmp_ge C.1 C.2.1 hd ht (fun h => k1 (decide_eq_true h)) (fun h => k2 (decide_eq_false h))
  · exact lv_icmp_gt C.1 C.2.1 hd ht (fun h => k1 (decide_eq_true h)) (fun h => k2 (decide_eq_false h))
  · exact lv_icmp_le C.1 C.2.1 hd ht (fun h => k1 (decide_eq_true h)) (fun h => k2 (decide_eq_false h))
end MORE
