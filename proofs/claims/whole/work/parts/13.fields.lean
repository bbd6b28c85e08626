def am_Fc (i : Nat) : Prop := vwCl[i]? = some (am_CN i, am_TT i, am_NN i) ∧ (∀ w ∈ u_ws (am_CN i) (am_TT i) (am_NN i), w ∈ am_T) ∧ (∀ k, k < am_NN i → parseFieldDescriptor (am_TT i k).2.2.1 = some (am_ty i k)) ∧ (∀ a, a < am_NN i → ∀ b, b < am_NN i → a ≠ b → (am_TT i a).2.1 ≠ (am_TT i b).2.1) ∧ (∀ k, k < am_NN i → (am_TT i k).1 = am_CN i)
theorem am_u_in {C : String} {T : u_T} {N : Nat} {ps : List Nat} (h : ((List.range N).all fun k => am_has (ps.getD k 0) (u_lay C T k)) = true) : ∀ w ∈ u_ws C T N, w ∈ am_T := by
  intro w hw
  obtain ⟨k, hk, rfl⟩ := List.mem_map.mp hw
  exact am_has_in (List.all_eq_true.mp h k hk)
theorem am_fc0 : am_Fc 0 := ⟨rfl, am_u_in am_u0, tyX0_ok, nmX0, by decide +kernel⟩
theorem am_fc1 : am_Fc 1 := ⟨rfl, am_u_in am_u1, tyX1_ok, nmX1, by decide +kernel⟩
theorem am_fc2 : am_Fc 2 := ⟨rfl, am_u_in am_u2, tyX2_ok, nmX2, by decide +kernel⟩
theorem am_fc3 : am_Fc 3 := ⟨rfl, am_u_in am_u3, tyX3_ok, nmX3, by decide +kernel⟩
theorem am_fc4 : am_Fc 4 := ⟨rfl, am_u_in am_u4, tyX4_ok, nmX4, by decide +kernel⟩
theorem am_fc5 : am_Fc 5 := ⟨rfl, am_u_in am_u5, tyX5_ok, nmX5, by decide +kernel⟩
theorem am_fc6 : am_Fc 6 := ⟨rfl, am_u_in am_u6, tyX6_ok, nmX6, by decide +kernel⟩
theorem am_fc7 : am_Fc 7 := ⟨rfl, am_u_in am_u7, tyX7_ok, nmX7, by decide +kernel⟩
theorem am_fc8 : am_Fc 8 := ⟨rfl, am_u_in am_u8, tyX8_ok, nmX8, by decide +kernel⟩
theorem am_fc9 : am_Fc 9 := ⟨rfl, am_u_in am_u9, tyX9_ok, nmX9, by decide +kernel⟩
theorem am_fc10 : am_Fc 10 := ⟨rfl, am_u_in am_u10, tyX10_ok, nmX10, by decide +kernel⟩
theorem am_fc11 : am_Fc 11 := ⟨rfl, am_u_in am_u11, tyX11_ok, nmX11, by decide +kernel⟩
theorem am_fc12 : am_Fc 12 := ⟨rfl, am_u_in am_u12, tyX12_ok, nmX12, by decide +kernel⟩
theorem am_fc {i : Nat} (h : i < 13) : am_Fc i := match i, h with
  | 0, _ => am_fc0
  | 1, _ => am_fc1
  | 2, _ => am_fc2
  | 3, _ => am_fc3
  | 4, _ => am_fc4
  | 5, _ => am_fc5
  | 6, _ => am_fc6
  | 7, _ => am_fc7
  | 8, _ => am_fc8
  | 9, _ => am_fc9
  | 10, _ => am_fc10
  | 11, _ => am_fc11
  | 12, _ => am_fc12
def am_tz (t : FieldType) (z : Int) : Bool := match t with
  | .long => z == 1
  | .object _ => z == 3
  | .array _ => z == 3
  | .int => z == 0
  | .boolean => z == 0
  | _ => false
def am_tp (t : FieldType) (z : Int) : Bool := match t with
  | .long => z == 1
  | .object _ => z == 3
  | .array _ => z == 3
  | .int => z == 0
  | .boolean => z == 2
  | _ => false
section FLD
variable {p : Program} {l : Launch} {e : Env} {R : Room} {s : State} {m : MethodId} {args : Array Value} {below : List Frame} {meth : Method} {c : Code} {Q : State → Prop} {D : va_G} {Ac : Nat → ClassId} {b : Nat} {st : Nat → Nat} {HB : Heap} {zS : Nat → Nat × Nat} {zu : Nat → Nat → Int32} {nL n0 t0 own : Nat} {ini : Bool} {cc : ByteArray} {pc : Nat} {loc : am_L} {stk : List Value} {M : am_M}
theorem ar_get {a i k x : Nat} (C : am_C p s m args meth c cc nL own ini D Ac b st HB zS zu) (hd : decode cc pc = .ok (.getfield i, 3)) (hx : 10 ≤ x) (hx2 : x < 23) (hk : k < am_NN (x - 10)) (hw : Cond.fieldLink (am_CN own) i (am_CN (x - 10)) (am_TT (x - 10) k).2.1 (am_TT (x - 10) k).2.2.1 ∈ am_T) (ht : M.2.2.1 a = (x, 0)) {v : Value} (hv : am_fv b st (am_ty (x - 10) k) (M.2.2.2.1 a k) (M.2.2.2.2.1 a k) (M.2.2.2.2.2 a k) = am_cv b st v) (kk : am_G p l e R s m args below meth c Q D Ac b st HB zS zu nL n0 t0 (pc + 3) (loc) (v :: stk) (M)) : am_G p l e R s m args below meth c Q D Ac b st HB zS zu nL n0 t0 (pc) (loc) (.ref a :: stk) (M) := by
  intro H locs ls hR hL hl
  obtain ⟨ha, had, cell, q1, q2, q3, q4⟩ := hR.obj C.2.2.2.2.2.2.2.2.2 ht hx hx2
  have hkk := kk H locs ls hR hL hl
  have hg : F0 m pc ls ((Value.ref a :: stk).map (am_cv b st)) = F0 m pc ls (.ref (b + a) :: stk.map (am_cv b st)) := by rw [← had]; rfl
  rw [hg]
  obtain ⟨f1, f2, f3, f4, f5⟩ := am_fc (show x - 10 < 13 by omega)
  obtain ⟨hS, hfc, kC, hkC, hkind⟩ := C.2.2.2.2.2.1.1.1 (x - 10) _ f1
  obtain ⟨cf, kf, fi, f, hi, hsl⟩ := hS k hk
  dsimp only at hi hfc
  have hi' := hi
  rw [f5 k hk] at hi'
  exact W.getf C.1 C.2.1 C.2.2.2.1 (C.2.2.2.2.1 _ hw) hi' (u_facts hfc hkC (u_lays C.2.2.2.2.1 f2 hk) hi).1 q1 (by rw [q3]; exact fun h => by cases h) (v := am_cv b st v) (by rw [hsl, q4 k hk]; exact congrArg some hv) rfl rfl hd hkk
theorem ar_put {a i k x : Nat} {v : Value} {u' : Nat → Nat → Int32} {v' : Nat → Nat → Int64} {r' : Nat → Nat → Option Nat} (C : am_C p s m args meth c cc nL own ini D Ac b st HB zS zu) (hd : decode cc pc = .ok (.putfield i, 3)) (hx : 10 ≤ x) (hx2 : x < 23) (hk : k < am_NN (x - 10)) (hw : Cond.fieldLink (am_CN own) i (am_CN (x - 10)) (am_TT (x - 10) k).2.1 (am_TT (x - 10) k).2.2.1 ∈ am_T) (ht : M.2.2.1 a = (x, 0))
    (hfin : (am_TT (x - 10) k).2.2.2 = false ∨ (ini = true ∧ own = x - 10)) (hn : narrow (am_ty (x - 10) k) (am_cv b st v) = am_cv b st v) (hfit : fits (am_ty (x - 10) k) (am_cv b st v) = true)
    (hu : ∀ c, c ≠ a → u' c = M.2.2.2.1 c) (hv : ∀ c, c ≠ a → v' c = M.2.2.2.2.1 c) (hr : ∀ c, c ≠ a → r' c = M.2.2.2.2.2 c)
    (hnew : ∀ j, am_fv b st (am_ty (x - 10) j) (u' a j) (v' a j) (r' a j) = if j = k then am_cv b st v else am_fv b st (am_ty (x - 10) j) (M.2.2.2.1 a j) (M.2.2.2.2.1 a j) (M.2.2.2.2.2 a j)) (kk : am_G p l e R s m args below meth c Q D Ac b st HB zS zu nL n0 t0 (pc + 3) (loc) (stk) (M.1, M.2.1, M.2.2.1, u', v', r')) : am_G p l e R s m args below meth c Q D Ac b st HB zS zu nL n0 t0 (pc) (loc) (v :: .ref a :: stk) (M) := by
  intro H locs ls hR hL hl
  obtain ⟨ha, had, cell, q1, q2, q3, q4⟩ := hR.obj C.2.2.2.2.2.2.2.2.2 ht hx hx2
  have hg : F0 m pc ls ((v :: Value.ref a :: stk).map (am_cv b st)) = F0 m pc ls (am_cv b st v :: .ref (b + a) :: stk.map (am_cv b st)) := by rw [← had]; rfl
  rw [hg]
  obtain ⟨f1, f2, f3, f4, f5⟩ := am_fc (show x - 10 < 13 by omega)
  have hap := va_apart (own := am_CN own) C.2.2.2.2.1 f2 (am_ty (x - 10)) f3 f4 C.2.2.2.2.2.1.1 f1
  obtain ⟨hS, hfc, kC, hkC, hkind⟩ := C.2.2.2.2.2.1.1.1 (x - 10) _ f1
  obtain ⟨cf, kf, fi, f, hi, hsl⟩ := hS k hk
  dsimp only at hi hfc
  have hi' := hi
  rw [f5 k hk] at hi'
  have hst := (u_facts hfc hkC (u_lays C.2.2.2.2.1 f2 hk) hi).1
  have fin : ∀ H' : Heap, H'[b + a]? = some (cell.setSlot f.slot (am_cv b st v)) → H'.size = H.size → (∀ q, q ≠ b + a → H'[q]? = H[q]?) → W p l e R s m args below meth c H' (locs ++ [⟨b + a, f.slot⟩]) (M.1 - n0) (M.2.1 - t0) Q (F0 m (pc + 3) ls (stk.map (am_cv b st))) := by
    intro H' e1 e2 e3
    refine kk H' _ ls (hR.put ha e2 e3 hu hv hr (Or.inr ⟨by rw [ht]; exact hx, by rw [ht]; exact hx2, ?_⟩)) hL ?_
    · rw [ht]
      rw [hsl] at e1
      refine t_OB.to (V := updV (fun j => am_fv b st (am_ty (x - 10) j) (M.2.2.2.1 a j) (M.2.2.2.2.1 a j) (M.2.2.2.2.2 a j)) k (am_cv b st v)) ⟨_, e1, q2, q3, t_set q4 hap hk _⟩ (fun j _ => ?_)
      rw [hnew j]
      rfl
    · intro q hq
      rcases List.mem_append.mp hq with h | h
      · exact hl q h
      · rw [List.mem_singleton.mp h]; exact Nat.le_add_right _ _
  have hlay := C.2.2.2.2.1 _ (f2 _ (u_in_lay hk))
  unfold u_lay at hlay
  by_cases hF : (am_TT (x - 10) k).2.2.2 = true
  · rw [if_pos hF] at hlay
    rcases hfin with h | ⟨h1, h2⟩
    · rw [h] at hF; cases hF
    · have hcf : m.cls = cf := by
        obtain ⟨_, _, c', _, _, _, -, -, hf', -, -, -, hown2, -⟩ := Cond.laysFinal_spec hlay
        have e1 : c' = cf := by have := hi.symm.trans hf'; simp at this; exact this.1.symm
        rw [f5 k hk, ← h2] at hown2
        rw [← e1]; exact Option.some.inj (C.2.2.2.1.symm.trans hown2)
      have h6 := u_fits hfc hkC hkind (Or.inr hlay) hi (f3 k hk) hn hfit
      exact W.putFinK C.1 C.2.1 C.2.2.2.1 (C.2.2.2.2.1 _ hw) hi' hst hcf (C.2.2.2.2.2.2.2.1 h1) (by rw [q2]; exact h6) q1 q3 (by rw [hsl]; exact k2_hasslot (q4 k hk)) rfl rfl hd fin
  · rw [if_neg hF] at hlay
    have h6 := u_store hfc hkC hkind hlay hi (f3 k hk) hn hfit
    exact W.putK C.1 C.2.1 (f := f) ⟨C.2.2.2.1, C.2.2.2.2.1 _ hw, ⟨_, _, _, hi'⟩, hst⟩ (by rw [q2]; exact h6) q1 q3 (by rw [hsl]; exact k2_hasslot (q4 k hk)) rfl rfl hd fin
theorem am_fv0 (t : FieldType) : am_fv b st t 0 0 none = defaultValue t ∨ ¬ (am_tz t 0 = true ∨ am_tz t 1 = true ∨ am_tz t 3 = true) := by
  cases t <;> first | exact Or.inl rfl | (right; simp [am_tz])
theorem ar_new {i x y : Nat} (C : am_C p s m args meth c cc nL own ini D Ac b st HB zS zu) (hd : decode cc pc = .ok (.new i, 3)) (hx : 10 ≤ x) (hx2 : x < 23) (hy : y = am_NN (x - 10)) (hw : Cond.classLink (am_CN own) i (am_CN (x - 10)) ∈ am_T) (hi : Cond.instantiable (am_CN (x - 10)) (am_NN (x - 10)) ∈ am_T) (hini : Cond.initialized (am_CN (x - 10)) ∈ am_T) (hty : ∀ k, k < am_NN (x - 10) → am_fv b st (am_ty (x - 10) k) 0 0 none = defaultValue (am_ty (x - 10) k))
    (hM : M.1 < 900000) (hn : n0 ≤ M.1) (htn : t0 ≤ M.2.1) (hr : M.1 + 1 - n0 ≤ R.cells ∧ M.2.1 + y - t0 ≤ R.slots) (kk : am_G p l e R s m args below meth c Q D Ac b st HB zS zu nL n0 t0 (pc + 3) (loc) (.ref M.1 :: stk) (M.1 + 1, M.2.1 + y, am_sh M.2.2.1 M.1 (x, 0), am_row M.2.2.2.1 M.1 (fun _ => 0), am_row M.2.2.2.2.1 M.1 (fun _ => 0), am_row M.2.2.2.2.2 M.1 (fun _ => none))) : am_G p l e R s m args below meth c Q D Ac b st HB zS zu nL n0 t0 (pc) (loc) (stk) (M) := by
  intro H locs ls hR hL hl
  obtain ⟨f1, f2, f3, f4, f5⟩ := am_fc (show x - 10 < 13 by omega)
  have hKn := C.2.2.2.2.2.1.1.1 (x - 10) _ f1
  subst hy
  refine W.newcK C.1 C.2.1 C.2.2.2.1 (C.2.2.2.2.1 _ hw) (C.2.2.2.2.1 _ hi) (C.2.2.2.2.1 _ hini) rfl hd (by omega) (by omega) hKn.2.1 rfl fun H1 kC hkC e1 z1 o1 => ?_
  have hR' := hR.grow hM z1 o1 (T' := M.2.1 + am_NN (x - 10)) (q := (x, 0)) (f := fun _ => 0) (g := fun _ => 0) (r := fun _ => none) (Or.inr ⟨hx, hx2, by
    have hb := u_born (am_ty (x - 10)) C.2.2.2.2.1 f2 hKn hkC e1 f3
    rw [hR.1] at hb
    exact hb.to (fun k hk => (hty k hk).symm)⟩)
  have := kk H1 locs ls hR' hL hl
  have ead : am_ad b st M.1 = H.size := by rw [hR.1]; unfold am_ad; rw [if_pos (by omega)]
  have es : List.map (am_cv b st) (Value.ref M.1 :: stk) = .ref H.size :: stk.map (am_cv b st) := by rw [← ead]; rfl
  rw [es] at this
  dsimp only at this
  rw [show M.1 + 1 - n0 = M.1 - n0 + 1 by omega, show M.2.1 + am_NN (x - 10) - t0 = M.2.1 - t0 + am_NN (x - 10) by omega] at this
  exact this
end FLD
