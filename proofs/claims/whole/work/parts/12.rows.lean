abbrev am_tys (Ac : Nat → ClassId) : List (ClassId × FieldType) := [(Ac 0, .int), (Ac 1, .long), (Ac 2, .boolean), (Ac 3, .object "SpoonSet$Table"), (Ac 4, .object "SpoonSet$Script")]
/-- an int array that was there before: at least n long, and its length as an int is n's -/
def am_Xo (t n : Nat) (xs : Nat → Int32) (U : State) (H : Heap) : Prop := ∃ scr : Cell, H[t]? = some scr ∧ U.isArrayOf scr .int ∧ scr.vm ≠ .unknown ∧ (n ≤ scr.slots.size ∧ scr.slots.size.toInt32 = Int32.ofNat n) ∧ ∀ j : Nat, j < n → scr.slots[j]? = some (.int (xs j))
theorem am_Xo.moved {t n : Nat} {xs : Nat → Int32} {u U : State} {H : Heap} (hvm : u.vm.Alike U.vm) (h : am_Xo t n xs u H) : am_Xo t n xs U H := by
  obtain ⟨cell, h1, h2, h3⟩ := h
  exact ⟨cell, h1, State.isArrayOf_alike hvm h2, h3⟩
def am_K (D : va_G) (Ac : Nat → ClassId) (b : Nat) (st : Nat → Nat) (HB : Heap) (zS : Nat → Nat × Nat) (zu : Nat → Nat → Int32) (U : State) : Prop :=
  va_K D vwCl (am_tys Ac) U ∧ (∀ own, own < 23 → ∀ e ∈ am_nl own, va_Nw (.methodLinkNest (am_CN own) e.1 (am_my e.2.1) "SpoonSet") U) ∧ va_AO "SpoonSet$Table" U ∧ va_AO "SpoonSet$Script" U ∧ (∀ a n, zS a = (5, n) → am_Xo (am_ad b st a) n (zu a) U HB ∧ am_ad b st a < b)
theorem am_K.warm {D : va_G} {Ac : Nat → ClassId} {b : Nat} {st : Nat → Nat} {HB : Heap} {zS : Nat → Nat × Nat} {zu : Nat → Nat → Int32} {s U : State} (hW : s.WarmedH U.vm) (h : am_K D Ac b st HB zS zu s) : am_K D Ac b st HB zS zu U :=
  ⟨h.1.moved hW.alike, fun own ho e he => va_Nw.warmM hW (h.2.1 own ho e he), h.2.2.1.moved hW.alike, h.2.2.2.1.moved hW.alike, fun a n ha => ⟨(h.2.2.2.2 a n ha).1.moved hW.alike, (h.2.2.2.2 a n ha).2⟩⟩
def am_C (p : Program) (s : State) (m : MethodId) (args : Array Value) (meth : Method) (c : Code) (cc : ByteArray) (nL own : Nat) (ini : Bool) (D : va_G) (Ac : Nat → ClassId) (b : Nat) (st : Nat → Nat) (HB : Heap) (zS : Nat → Nat × Nat) (zu : Nat → Nat → Int32) : Prop :=
  p.tables.exec = Jvm.exec ∧ c.code = cc ∧ c.maxLocals = nL ∧ s.vm.findClass (am_CN own) = some m.cls ∧ (∀ w ∈ am_T, w.before args s = true) ∧ am_K D Ac b st HB zS zu s ∧ meth.locks = false ∧ (ini = true → meth.name = "<init>") ∧ own < 23 ∧ am_zok zS
def am_G (p : Program) (l : Launch) (e : Env) (R : Room) (s : State) (m : MethodId) (args : Array Value) (below : List Frame) (meth : Method) (c : Code) (Q : State → Prop) (D : va_G) (Ac : Nat → ClassId) (b : Nat) (st : Nat → Nat) (HB : Heap) (zS : Nat → Nat × Nat) (zu : Nat → Nat → Int32) (nL n0 t0 : Nat) (pc : Nat) (loc : am_L) (stk : List Value) (M : am_M) : Prop :=
  ∀ (H : Heap) (locs : List Loc) (ls : Array Slot), am_Rp D Ac b st HB zS zu M H → am_LS b st ls nL loc → (∀ q ∈ locs, b ≤ q.base) → W p l e R s m args below meth c H locs (M.1 - n0) (M.2.1 - t0) Q (F0 m pc ls (stk.map (am_cv b st)))
theorem am_Rp.ro {D : va_G} {Ac : Nat → ClassId} {b : Nat} {st : Nat → Nat} {HB : Heap} {zS : Nat → Nat × Nat} {zu : Nat → Nat → Int32} {M : am_M} {H : Heap} (h : am_Rp D Ac b st HB zS zu M H) {a : Nat} (ht : (M.2.2.1 a).1 = 5) : 1000000 ≤ a ∧ M.2.2.1 a = zS a ∧ M.2.2.2.1 a = zu a := by
  rcases Nat.lt_or_ge a M.1 with g | g
  · rcases h.2.2.2.1 a g with ⟨q, -⟩ | ⟨q, -⟩ <;> omega
  · rcases Nat.lt_or_ge a 1000000 with g2 | g2
    · have := h.2.2.2.2.1 a g g2; omega
    · exact ⟨g2, h.2.2.2.2.2 a g2⟩
theorem am_up_ne {α : Type} {f : Nat → Nat → α} {a k : Nat} {x : α} {c : Nat} (h : c ≠ a) : am_up f a k x c = f c := by
  funext j; unfold am_up; rw [if_neg (fun q => h q.1)]
theorem am_up_at {α : Type} {f : Nat → Nat → α} {a k : Nat} {x : α} (j : Nat) : am_up f a k x a j = if j = k then x else f a j := by
  unfold am_up
  by_cases h : j = k
  · rw [if_pos ⟨rfl, h⟩, if_pos h]
  · rw [if_neg (fun q => h q.2), if_neg h]
theorem am_inR {q : Nat × Nat} {t : Nat} {j : Int32} (h : am_in q t j) (cA : ClassId) (f : Nat → Value) : ¬ (j < 0 ∨ (arrV cA q.2 f).slots.size ≤ j.toNatClampNeg) := by
  rw [arrV_size]
  intro k
  rcases k with k | k
  · exact h.2.1 k
  · exact absurd h.2.2 (by omega)
section ROWS
variable {p : Program} {l : Launch} {e : Env} {R : Room} {s : State} {m : MethodId} {args : Array Value} {below : List Frame} {meth : Method} {c : Code} {Q : State → Prop} {D : va_G} {Ac : Nat → ClassId} {b : Nat} {st : Nat → Nat} {HB : Heap} {zS : Nat → Nat × Nat} {zu : Nat → Nat → Int32} {nL n0 t0 own : Nat} {ini : Bool} {cc : ByteArray} {pc : Nat} {loc : am_L} {stk : List Value} {M : am_M}
theorem ar_iconst {z : Int} (C : am_C p s m args meth c cc nL own ini D Ac b st HB zS zu) (hd : decode cc pc = .ok (.iconst z, 1)) (k : am_G p l e R s m args below meth c Q D Ac b st HB zS zu nL n0 t0 (pc + 1) (loc) (.int (Int32.ofInt z) :: stk) (M)) : am_G p l e R s m args below meth c Q D Ac b st HB zS zu nL n0 t0 (pc) (loc) (stk) (M) := fun H locs ls hR hL hl => lv_iconst C.1 C.2.1 hd rfl (k H locs ls hR hL hl)
theorem ar_bipush {z : Int} (C : am_C p s m args meth c cc nL own ini D Ac b st HB zS zu) (hd : decode cc pc = .ok (.bipush z, 2)) (hv : (Int8.ofInt z).toInt32 = Int32.ofInt z) (k : am_G p l e R s m args below meth c Q D Ac b st HB zS zu nL n0 t0 (pc + 2) (loc) (.int (Int32.ofInt z) :: stk) (M)) : am_G p l e R s m args below meth c Q D Ac b st HB zS zu nL n0 t0 (pc) (loc) (stk) (M) := fun H locs ls hR hL hl => lv_bipush C.1 C.2.1 hd hv (k H locs ls hR hL hl)
theorem ar_sipush {z : Int} (C : am_C p s m args meth c cc nL own ini D Ac b st HB zS zu) (hd : decode cc pc = .ok (.sipush z, 3)) (hv : (Int16.ofInt z).toInt32 = Int32.ofInt z) (k : am_G p l e R s m args below meth c Q D Ac b st HB zS zu nL n0 t0 (pc + 3) (loc) (.int (Int32.ofInt z) :: stk) (M)) : am_G p l e R s m args below meth c Q D Ac b st HB zS zu nL n0 t0 (pc) (loc) (stk) (M) := fun H locs ls hR hL hl => lv_sipush C.1 C.2.1 hd hv (k H locs ls hR hL hl)
theorem ar_lconst {n : Fin 2} {v : Int64} (C : am_C p s m args meth c cc nL own ini D Ac b st HB zS zu) (hd : decode cc pc = .ok (.lconst n, 1)) (hv : Int64.ofNat n.val = v) (k : am_G p l e R s m args below meth c Q D Ac b st HB zS zu nL n0 t0 (pc + 1) (loc) (.long v :: stk) (M)) : am_G p l e R s m args below meth c Q D Ac b st HB zS zu nL n0 t0 (pc) (loc) (stk) (M) := fun H locs ls hR hL hl => lv_lconst C.1 C.2.1 hd hv (k H locs ls hR hL hl)
theorem ar_ldc {i : Nat} {v : Int32} (C : am_C p s m args meth c cc nL own ini D Ac b st HB zS zu) (hd : decode cc pc = .ok (.ldc i, 2)) (hw : Cond.constant (am_CN own) i v ∈ am_T) (k : am_G p l e R s m args below meth c Q D Ac b st HB zS zu nL n0 t0 (pc + 2) (loc) (.int v :: stk) (M)) : am_G p l e R s m args below meth c Q D Ac b st HB zS zu nL n0 t0 (pc) (loc) (stk) (M) := fun H locs ls hR hL hl => lv_ldc C.1 C.2.1 C.2.2.2.1 (C.2.2.2.2.1 _ hw) hd (k H locs ls hR hL hl)
theorem ar_ldcw {i : Nat} {v : Int32} (C : am_C p s m args meth c cc nL own ini D Ac b st HB zS zu) (hd : decode cc pc = .ok (.ldc_w i, 3)) (hw : Cond.constant (am_CN own) i v ∈ am_T) (k : am_G p l e R s m args below meth c Q D Ac b st HB zS zu nL n0 t0 (pc + 3) (loc) (.int v :: stk) (M)) : am_G p l e R s m args below meth c Q D Ac b st HB zS zu nL n0 t0 (pc) (loc) (stk) (M) := fun H locs ls hR hL hl => lv_ldcw C.1 C.2.1 C.2.2.2.1 (C.2.2.2.2.1 _ hw) hd (k H locs ls hR hL hl)
theorem ar_ldc2 {i : Nat} {v : Int64} (C : am_C p s m args meth c cc nL own ini D Ac b st HB zS zu) (hd : decode cc pc = .ok (.ldc2_w i, 3)) (hw : Cond.constantLong (am_CN own) i v ∈ am_T) (k : am_G p l e R s m args below meth c Q D Ac b st HB zS zu nL n0 t0 (pc + 3) (loc) (.long v :: stk) (M)) : am_G p l e R s m args below meth c Q D Ac b st HB zS zu nL n0 t0 (pc) (loc) (stk) (M) := fun H locs ls hR hL hl => lv_ldc2 C.1 C.2.1 C.2.2.2.1 (C.2.2.2.2.1 _ hw) hd (k H locs ls hR hL hl)
theorem ar_iload_n {i : Fin 4} {v : Int32} (C : am_C p s m args meth c cc nL own ini D Ac b st HB zS zu) (hd : decode cc pc = .ok (.iload_n i, 1)) (hv : loc[i.val]? = some (some (.int v))) (k : am_G p l e R s m args below meth c Q D Ac b st HB zS zu nL n0 t0 (pc + 1) (loc) (.int v :: stk) (M)) : am_G p l e R s m args below meth c Q D Ac b st HB zS zu nL n0 t0 (pc) (loc) (stk) (M) := fun H locs ls hR hL hl => lv_iload_n C.1 C.2.1 hd rfl (hL.2.2.2 _ _ hv) (k H locs ls hR hL hl)
theorem ar_iload {i : Nat} {v : Int32} (C : am_C p s m args meth c cc nL own ini D Ac b st HB zS zu) (hd : decode cc pc = .ok (.iload i, 2)) (hv : loc[i]? = some (some (.int v))) (k : am_G p l e R s m args below meth c Q D Ac b st HB zS zu nL n0 t0 (pc + 2) (loc) (.int v :: stk) (M)) : am_G p l e R s m args below meth c Q D Ac b st HB zS zu nL n0 t0 (pc) (loc) (stk) (M) := fun H locs ls hR hL hl => lv_iload C.1 C.2.1 hd (hL.2.2.2 _ _ hv) (k H locs ls hR hL hl)
theorem ar_lload_n {i : Fin 4} {v : Int64} (C : am_C p s m args meth c cc nL own ini D Ac b st HB zS zu) (hd : decode cc pc = .ok (.lload_n i, 1)) (hv : loc[i.val]? = some (some (.long v))) (k : am_G p l e R s m args below meth c Q D Ac b st HB zS zu nL n0 t0 (pc + 1) (loc) (.long v :: stk) (M)) : am_G p l e R s m args below meth c Q D Ac b st HB zS zu nL n0 t0 (pc) (loc) (stk) (M) := fun H locs ls hR hL hl => lv_lload_n C.1 C.2.1 hd rfl (hL.2.2.2 _ _ hv) (k H locs ls hR hL hl)
theorem ar_lload {i : Nat} {v : Int64} (C : am_C p s m args meth c cc nL own ini D Ac b st HB zS zu) (hd : decode cc pc = .ok (.lload i, 2)) (hv : loc[i]? = some (some (.long v))) (k : am_G p l e R s m args below meth c Q D Ac b st HB zS zu nL n0 t0 (pc + 2) (loc) (.long v :: stk) (M)) : am_G p l e R s m args below meth c Q D Ac b st HB zS zu nL n0 t0 (pc) (loc) (stk) (M) := fun H locs ls hR hL hl => lv_lload C.1 C.2.1 hd (hL.2.2.2 _ _ hv) (k H locs ls hR hL hl)
theorem ar_aload_n {i : Fin 4} {v : Nat} (C : am_C p s m args meth c cc nL own ini D Ac b st HB zS zu) (hd : decode cc pc = .ok (.aload_n i, 1)) (hv : loc[i.val]? = some (some (.ref v))) (k : am_G p l e R s m args below meth c Q D Ac b st HB zS zu nL n0 t0 (pc + 1) (loc) (.ref v :: stk) (M)) : am_G p l e R s m args below meth c Q D Ac b st HB zS zu nL n0 t0 (pc) (loc) (stk) (M) := fun H locs ls hR hL hl => lv_aload_n C.1 C.2.1 hd rfl (hL.2.2.2 _ _ hv) (k H locs ls hR hL hl)
theorem ar_aload {i : Nat} {v : Nat} (C : am_C p s m args meth c cc nL own ini D Ac b st HB zS zu) (hd : decode cc pc = .ok (.aload i, 2)) (hv : loc[i]? = some (some (.ref v))) (k : am_G p l e R s m args below meth c Q D Ac b st HB zS zu nL n0 t0 (pc + 2) (loc) (.ref v :: stk) (M)) : am_G p l e R s m args below meth c Q D Ac b st HB zS zu nL n0 t0 (pc) (loc) (stk) (M) := fun H locs ls hR hL hl => lv_aload C.1 C.2.1 hd (hL.2.2.2 _ _ hv) (k H locs ls hR hL hl)
theorem ar_istore_n {i : Fin 4} {v : Int32} (C : am_C p s m args meth c cc nL own ini D Ac b st HB zS zu) (hd : decode cc pc = .ok (.istore_n i, 1)) (hi : i.val < loc.length) (k : am_G p l e R s m args below meth c Q D Ac b st HB zS zu nL n0 t0 (pc + 1) (am_set1 loc i.val (.int v)) (stk) (M)) : am_G p l e R s m args below meth c Q D Ac b st HB zS zu nL n0 t0 (pc) (loc) (.int v :: stk) (M) := fun H locs ls hR hL hl => lv_istore_n C.1 C.2.1 hd rfl hL.has (by rw [← hL.2.1]; exact hi) rfl (fun ls' h' => k H locs ls' hR (hL.st1 (x := .int v) h') hl)
theorem ar_istore {i : Nat} {v : Int32} (C : am_C p s m args meth c cc nL own ini D Ac b st HB zS zu) (hd : decode cc pc = .ok (.istore i, 2)) (hi : i < loc.length) (k : am_G p l e R s m args below meth c Q D Ac b st HB zS zu nL n0 t0 (pc + 2) (am_set1 loc i (.int v)) (stk) (M)) : am_G p l e R s m args below meth c Q D Ac b st HB zS zu nL n0 t0 (pc) (loc) (.int v :: stk) (M) := fun H locs ls hR hL hl => lv_istore C.1 C.2.1 hd hL.has (by rw [← hL.2.1]; exact hi) rfl (fun ls' h' => k H locs ls' hR (hL.st1 (x := .int v) h') hl)
theorem ar_astore_n {i : Fin 4} {v : Nat} (C : am_C p s m args meth c cc nL own ini D Ac b st HB zS zu) (hd : decode cc pc = .ok (.astore_n i, 1)) (hi : i.val < loc.length) (k : am_G p l e R s m args below meth c Q D Ac b st HB zS zu nL n0 t0 (pc + 1) (am_set1 loc i.val (.ref v)) (stk) (M)) : am_G p l e R s m args below meth c Q D Ac b st HB zS zu nL n0 t0 (pc) (loc) (.ref v :: stk) (M) := fun H locs ls hR hL hl => lv_astore_n C.1 C.2.1 hd rfl hL.has (by rw [← hL.2.1]; exact hi) rfl (fun ls' h' => k H locs ls' hR (hL.st1 (x := .ref v) h') hl)
theorem ar_astore {i : Nat} {v : Nat} (C : am_C p s m args meth c cc nL own ini D Ac b st HB zS zu) (hd : decode cc pc = .ok (.astore i, 2)) (hi : i < loc.length) (k : am_G p l e R s m args below meth c Q D Ac b st HB zS zu nL n0 t0 (pc + 2) (am_set1 loc i (.ref v)) (stk) (M)) : am_G p l e R s m args below meth c Q D Ac b st HB zS zu nL n0 t0 (pc) (loc) (.ref v :: stk) (M) := fun H locs ls hR hL hl => lv_astore C.1 C.2.1 hd hL.has (by rw [← hL.2.1]; exact hi) rfl (fun ls' h' => k H locs ls' hR (hL.st1 (x := .ref v) h') hl)
theorem ar_lstore_n {i : Fin 4} {v : Int64} (C : am_C p s m args meth c cc nL own ini D Ac b st HB zS zu) (hd : decode cc pc = .ok (.lstore_n i, 1)) (hi : i.val + 1 < loc.length) (k : am_G p l e R s m args below meth c Q D Ac b st HB zS zu nL n0 t0 (pc + 1) (am_set2 loc i.val (.long v)) (stk) (M)) : am_G p l e R s m args below meth c Q D Ac b st HB zS zu nL n0 t0 (pc) (loc) (.long v :: stk) (M) := fun H locs ls hR hL hl => lv_lstore_n C.1 C.2.1 hd rfl hL.has (by rw [← hL.2.1]; exact hi) rfl (fun ls' h' => k H locs ls' hR (hL.st2 (x := .long v) h') hl)
theorem ar_lstore {i : Nat} {v : Int64} (C : am_C p s m args meth c cc nL own ini D Ac b st HB zS zu) (hd : decode cc pc = .ok (.lstore i, 2)) (hi : i + 1 < loc.length) (k : am_G p l e R s m args below meth c Q D Ac b st HB zS zu nL n0 t0 (pc + 2) (am_set2 loc i (.long v)) (stk) (M)) : am_G p l e R s m args below meth c Q D Ac b st HB zS zu nL n0 t0 (pc) (loc) (.long v :: stk) (M) := fun H locs ls hR hL hl => lv_lstore C.1 C.2.1 hd hL.has (by rw [← hL.2.1]; exact hi) rfl (fun ls' h' => k H locs ls' hR (hL.st2 (x := .long v) h') hl)
theorem ar_iinc {i : Nat} {z : Int} {v : Int32} (C : am_C p s m args meth c cc nL own ini D Ac b st HB zS zu) (hd : decode cc pc = .ok (.iinc i z, 3)) (hv : loc[i]? = some (some (.int v))) (k : am_G p l e R s m args below meth c Q D Ac b st HB zS zu nL n0 t0 (pc + 3) (am_set1 loc i (.int (v + Int32.ofInt z))) (stk) (M)) : am_G p l e R s m args below meth c Q D Ac b st HB zS zu nL n0 t0 (pc) (loc) (stk) (M) := by
  intro H locs ls hR hL hl
  have hm : (i, Value.int v) ∈ am_la b st loc := am_la_mem.mpr ⟨.int v, hv, rfl⟩
  obtain ⟨j, hj⟩ := List.getElem?_of_mem hm
  exact lv_iinc C.1 C.2.1 hd hL.has hj rfl (by rw [← hL.2.1]; exact (List.getElem?_eq_some_iff.mp hv).1) rfl (fun ls' h' => k H locs ls' hR (hL.st1 (x := .int (v + Int32.ofInt z)) h') hl)
theorem ar_iadd {x y : Int32} (C : am_C p s m args meth c cc nL own ini D Ac b st HB zS zu) (hd : decode cc pc = .ok (.iadd, 1)) (k : am_G p l e R s m args below meth c Q D Ac b st HB zS zu nL n0 t0 (pc + 1) (loc) (.int (x + y) :: stk) (M)) : am_G p l e R s m args below meth c Q D Ac b st HB zS zu nL n0 t0 (pc) (loc) (.int y :: .int x :: stk) (M) := fun H locs ls hR hL hl => lv_iadd C.1 C.2.1 hd (k H locs ls hR hL hl)
theorem ar_isub {x y : Int32} (C : am_C p s m args meth c cc nL own ini D Ac b st HB zS zu) (hd : decode cc pc = .ok (.isub, 1)) (k : am_G p l e R s m args below meth c Q D Ac b st HB zS zu nL n0 t0 (pc + 1) (loc) (.int (x - y) :: stk) (M)) : am_G p l e R s m args below meth c Q D Ac b st HB zS zu nL n0 t0 (pc) (loc) (.int y :: .int x :: stk) (M) := fun H locs ls hR hL hl => lv_isub C.1 C.2.1 hd (k H locs ls hR hL hl)
theorem ar_imul {x y : Int32} (C : am_C p s m args meth c cc nL own ini D Ac b st HB zS zu) (hd : decode cc pc = .ok (.imul, 1)) (k : am_G p l e R s m args below meth c Q D Ac b st HB zS zu nL n0 t0 (pc + 1) (loc) (.int (x * y) :: stk) (M)) : am_G p l e R s m args below meth c Q D Ac b st HB zS zu nL n0 t0 (pc) (loc) (.int y :: .int x :: stk) (M) := fun H locs ls hR hL hl => lv_imul C.1 C.2.1 hd (k H locs ls hR hL hl)
theorem ar_iand {x y : Int32} (C : am_C p s m args meth c cc nL own ini D Ac b st HB zS zu) (hd : decode cc pc = .ok (.iand, 1)) (k : am_G p l e R s m args below meth c Q D Ac b st HB zS zu nL n0 t0 (pc + 1) (loc) (.int (x &&& y) :: stk) (M)) : am_G p l e R s m args below meth c Q D Ac b st HB zS zu nL n0 t0 (pc) (loc) (.int y :: .int x :: stk) (M) := fun H locs ls hR hL hl => lv_iand C.1 C.2.1 hd (k H locs ls hR hL hl)
theorem ar_ior {x y : Int32} (C : am_C p s m args meth c cc nL own ini D Ac b st HB zS zu) (hd : decode cc pc = .ok (.ior, 1)) (k : am_G p l e R s m args below meth c Q D Ac b st HB zS zu nL n0 t0 (pc + 1) (loc) (.int (x ||| y) :: stk) (M)) : am_G p l e R s m args below meth c Q D Ac b st HB zS zu nL n0 t0 (pc) (loc) (.int y :: .int x :: stk) (M) := fun H locs ls hR hL hl => lv_ior C.1 C.2.1 hd (k H locs ls hR hL hl)
theorem ar_ixor {x y : Int32} (C : am_C p s m args meth c cc nL own ini D Ac b st HB zS zu) (hd : decode cc pc = .ok (.ixor, 1)) (k : am_G p l e R s m args below meth c Q D Ac b st HB zS zu nL n0 t0 (pc + 1) (loc) (.int (x ^^^ y) :: stk) (M)) : am_G p l e R s m args below meth c Q D Ac b st HB zS zu nL n0 t0 (pc) (loc) (.int y :: .int x :: stk) (M) := fun H locs ls hR hL hl => lv_ixor C.1 C.2.1 hd (k H locs ls hR hL hl)
theorem ar_ishl {x y : Int32} (C : am_C p s m args meth c cc nL own ini D Ac b st HB zS zu) (hd : decode cc pc = .ok (.ishl, 1)) (k : am_G p l e R s m args below meth c Q D Ac b st HB zS zu nL n0 t0 (pc + 1) (loc) (.int (am_shl x y) :: stk) (M)) : am_G p l e R s m args below meth c Q D Ac b st HB zS zu nL n0 t0 (pc) (loc) (.int y :: .int x :: stk) (M) := fun H locs ls hR hL hl => lv_ishl C.1 C.2.1 hd (k H locs ls hR hL hl)
theorem ar_ishr {x y : Int32} (C : am_C p s m args meth c cc nL own ini D Ac b st HB zS zu) (hd : decode cc pc = .ok (.ishr, 1)) (k : am_G p l e R s m args below meth c Q D Ac b st HB zS zu nL n0 t0 (pc + 1) (loc) (.int (am_shr x y) :: stk) (M)) : am_G p l e R s m args below meth c Q D Ac b st HB zS zu nL n0 t0 (pc) (loc) (.int y :: .int x :: stk) (M) := fun H locs ls hR hL hl => lv_ishr C.1 C.2.1 hd (k H locs ls hR hL hl)
theorem ar_iushr {x y : Int32} (C : am_C p s m args meth c cc nL own ini D Ac b st HB zS zu) (hd : decode cc pc = .ok (.iushr, 1)) (k : am_G p l e R s m args below meth c Q D Ac b st HB zS zu nL n0 t0 (pc + 1) (loc) (.int (am_ushr x y) :: stk) (M)) : am_G p l e R s m args below meth c Q D Ac b st HB zS zu nL n0 t0 (pc) (loc) (.int y :: .int x :: stk) (M) := fun H locs ls hR hL hl => lv_iushr C.1 C.2.1 hd rfl (k H locs ls hR hL hl)
theorem ar_idiv {x y : Int32} (C : am_C p s m args meth c cc nL own ini D Ac b st HB zS zu) (hd : decode cc pc = .ok (.idiv, 1)) (hne : ¬ y = 0) (k : am_G p l e R s m args below meth c Q D Ac b st HB zS zu nL n0 t0 (pc + 1) (loc) (.int (x / y) :: stk) (M)) : am_G p l e R s m args below meth c Q D Ac b st HB zS zu nL n0 t0 (pc) (loc) (.int y :: .int x :: stk) (M) := fun H locs ls hR hL hl => lv_idiv C.1 C.2.1 hd hne (k H locs ls hR hL hl)
theorem ar_irem {x y : Int32} (C : am_C p s m args meth c cc nL own ini D Ac b st HB zS zu) (hd : decode cc pc = .ok (.irem, 1)) (hne : ¬ y = 0) (k : am_G p l e R s m args below meth c Q D Ac b st HB zS zu nL n0 t0 (pc + 1) (loc) (.int (am_rem x y) :: stk) (M)) : am_G p l e R s m args below meth c Q D Ac b st HB zS zu nL n0 t0 (pc) (loc) (.int y :: .int x :: stk) (M) := fun H locs ls hR hL hl => lv_irem C.1 C.2.1 hd hne (k H locs ls hR hL hl)
theorem ar_ineg {x : Int32} (C : am_C p s m args meth c cc nL own ini D Ac b st HB zS zu) (hd : decode cc pc = .ok (.ineg, 1)) (k : am_G p l e R s m args below meth c Q D Ac b st HB zS zu nL n0 t0 (pc + 1) (loc) (.int (-x) :: stk) (M)) : am_G p l e R s m args below meth c Q D Ac b st HB zS zu nL n0 t0 (pc) (loc) (.int x :: stk) (M) := fun H locs ls hR hL hl => lv_ineg C.1 C.2.1 hd (k H locs ls hR hL hl)
theorem ar_ladd {x y : Int64} (C : am_C p s m args meth c cc nL own ini D Ac b st HB zS zu) (hd : decode cc pc = .ok (.ladd, 1)) (k : am_G p l e R s m args below meth c Q D Ac b st HB zS zu nL n0 t0 (pc + 1) (loc) (.long (x + y) :: stk) (M)) : am_G p l e R s m args below meth c Q D Ac b st HB zS zu nL n0 t0 (pc) (loc) (.long y :: .long x :: stk) (M) := fun H locs ls hR hL hl => lv_ladd C.1 C.2.1 hd (k H locs ls hR hL hl)
theorem ar_lsub {x y : Int64} (C : am_C p s m args meth c cc nL own ini D Ac b st HB zS zu) (hd : decode cc pc = .ok (.lsub, 1)) (k : am_G p l e R s m args below meth c Q D Ac b st HB zS zu nL n0 t0 (pc + 1) (loc) (.long (x - y) :: stk) (M)) : am_G p l e R s m args below meth c Q D Ac b st HB zS zu nL n0 t0 (pc) (loc) (.long y :: .long x :: stk) (M) := fun H locs ls hR hL hl => lv_lsub C.1 C.2.1 hd (k H locs ls hR hL hl)
theorem ar_lmul {x y : Int64} (C : am_C p s m args meth c cc nL own ini D Ac b st HB zS zu) (hd : decode cc pc = .ok (.lmul, 1)) (k : am_G p l e R s m args below meth c Q D Ac b st HB zS zu nL n0 t0 (pc + 1) (loc) (.long (x * y) :: stk) (M)) : am_G p l e R s m args below meth c Q D Ac b st HB zS zu nL n0 t0 (pc) (loc) (.long y :: .long x :: stk) (M) := fun H locs ls hR hL hl => lv_lmul C.1 C.2.1 hd (k H locs ls hR hL hl)
theorem ar_lor {x y : Int64} (C : am_C p s m args meth c cc nL own ini D Ac b st HB zS zu) (hd : decode cc pc = .ok (.lor, 1)) (k : am_G p l e R s m args below meth c Q D Ac b st HB zS zu nL n0 t0 (pc + 1) (loc) (.long (x ||| y) :: stk) (M)) : am_G p l e R s m args below meth c Q D Ac b st HB zS zu nL n0 t0 (pc) (loc) (.long y :: .long x :: stk) (M) := fun H locs ls hR hL hl => lv_lor C.1 C.2.1 hd (k H locs ls hR hL hl)
theorem ar_ldiv {x y : Int64} (C : am_C p s m args meth c cc nL own ini D Ac b st HB zS zu) (hd : decode cc pc = .ok (.ldiv, 1)) (hne : ¬ y = 0) (k : am_G p l e R s m args below meth c Q D Ac b st HB zS zu nL n0 t0 (pc + 1) (loc) (.long (x / y) :: stk) (M)) : am_G p l e R s m args below meth c Q D Ac b st HB zS zu nL n0 t0 (pc) (loc) (.long y :: .long x :: stk) (M) := fun H locs ls hR hL hl => lv_ldiv C.1 C.2.1 hd hne (k H locs ls hR hL hl)
theorem ar_lrem {x y : Int64} (C : am_C p s m args meth c cc nL own ini D Ac b st HB zS zu) (hd : decode cc pc = .ok (.lrem, 1)) (hne : ¬ y = 0) (k : am_G p l e R s m args below meth c Q D Ac b st HB zS zu nL n0 t0 (pc + 1) (loc) (.long (am_lrem x y) :: stk) (M)) : am_G p l e R s m args below meth c Q D Ac b st HB zS zu nL n0 t0 (pc) (loc) (.long y :: .long x :: stk) (M) := fun H locs ls hR hL hl => lv_lrem C.1 C.2.1 hd hne (k H locs ls hR hL hl)
theorem ar_lneg {x : Int64} (C : am_C p s m args meth c cc nL own ini D Ac b st HB zS zu) (hd : decode cc pc = .ok (.lneg, 1)) (k : am_G p l e R s m args below meth c Q D Ac b st HB zS zu nL n0 t0 (pc + 1) (loc) (.long (-x) :: stk) (M)) : am_G p l e R s m args below meth c Q D Ac b st HB zS zu nL n0 t0 (pc) (loc) (.long x :: stk) (M) := fun H locs ls hR hL hl => lv_lneg C.1 C.2.1 hd (k H locs ls hR hL hl)
theorem ar_lshl {x : Int64} {y : Int32} (C : am_C p s m args meth c cc nL own ini D Ac b st HB zS zu) (hd : decode cc pc = .ok (.lshl, 1)) (k : am_G p l e R s m args below meth c Q D Ac b st HB zS zu nL n0 t0 (pc + 1) (loc) (.long (am_lshl x y) :: stk) (M)) : am_G p l e R s m args below meth c Q D Ac b st HB zS zu nL n0 t0 (pc) (loc) (.int y :: .long x :: stk) (M) := fun H locs ls hR hL hl => lv_lshl C.1 C.2.1 hd rfl (k H locs ls hR hL hl)
theorem ar_lshr {x : Int64} {y : Int32} (C : am_C p s m args meth c cc nL own ini D Ac b st HB zS zu) (hd : decode cc pc = .ok (.lshr, 1)) (k : am_G p l e R s m args below meth c Q D Ac b st HB zS zu nL n0 t0 (pc + 1) (loc) (.long (am_lshr x y) :: stk) (M)) : am_G p l e R s m args below meth c Q D Ac b st HB zS zu nL n0 t0 (pc) (loc) (.int y :: .long x :: stk) (M) := fun H locs ls hR hL hl => lv_lshr C.1 C.2.1 hd rfl (k H locs ls hR hL hl)
theorem ar_i2l {x : Int32} (C : am_C p s m args meth c cc nL own ini D Ac b st HB zS zu) (hd : decode cc pc = .ok (.i2l, 1)) (k : am_G p l e R s m args below meth c Q D Ac b st HB zS zu nL n0 t0 (pc + 1) (loc) (.long x.toInt64 :: stk) (M)) : am_G p l e R s m args below meth c Q D Ac b st HB zS zu nL n0 t0 (pc) (loc) (.int x :: stk) (M) := fun H locs ls hR hL hl => lv_i2l C.1 C.2.1 hd rfl (k H locs ls hR hL hl)
theorem ar_l2i {x : Int64} (C : am_C p s m args meth c cc nL own ini D Ac b st HB zS zu) (hd : decode cc pc = .ok (.l2i, 1)) (k : am_G p l e R s m args below meth c Q D Ac b st HB zS zu nL n0 t0 (pc + 1) (loc) (.int x.toInt32 :: stk) (M)) : am_G p l e R s m args below meth c Q D Ac b st HB zS zu nL n0 t0 (pc) (loc) (.long x :: stk) (M) := fun H locs ls hR hL hl => lv_l2i C.1 C.2.1 hd rfl (k H locs ls hR hL hl)
theorem ar_i2c {x : Int32} (C : am_C p s m args meth c cc nL own ini D Ac b st HB zS zu) (hd : decode cc pc = .ok (.i2c, 1)) (k : am_G p l e R s m args below meth c Q D Ac b st HB zS zu nL n0 t0 (pc + 1) (loc) (.int (am_ic x) :: stk) (M)) : am_G p l e R s m args below meth c Q D Ac b st HB zS zu nL n0 t0 (pc) (loc) (.int x :: stk) (M) := fun H locs ls hR hL hl => lv_i2c C.1 C.2.1 hd rfl (k H locs ls hR hL hl)
theorem ar_lcmp {x y : Int64} (C : am_C p s m args meth c cc nL own ini D Ac b st HB zS zu) (hd : decode cc pc = .ok (.lcmp, 1)) (k : am_G p l e R s m args below meth c Q D Ac b st HB zS zu nL n0 t0 (pc + 1) (loc) (.int (lg_cmp x y) :: stk) (M)) : am_G p l e R s m args below meth c Q D Ac b st HB zS zu nL n0 t0 (pc) (loc) (.long y :: .long x :: stk) (M) := fun H locs ls hR hL hl => W.lcmp C.1 C.2.1 hd (k H locs ls hR hL hl)
theorem ar_dupi {x : Int32} (C : am_C p s m args meth c cc nL own ini D Ac b st HB zS zu) (hd : decode cc pc = .ok (.dup, 1)) (k : am_G p l e R s m args below meth c Q D Ac b st HB zS zu nL n0 t0 (pc + 1) (loc) (.int x :: .int x :: stk) (M)) : am_G p l e R s m args below meth c Q D Ac b st HB zS zu nL n0 t0 (pc) (loc) (.int x :: stk) (M) := fun H locs ls hR hL hl => lv_dup C.1 C.2.1 hd rfl (k H locs ls hR hL hl)
theorem ar_dupa {x : Nat} (C : am_C p s m args meth c cc nL own ini D Ac b st HB zS zu) (hd : decode cc pc = .ok (.dup, 1)) (k : am_G p l e R s m args below meth c Q D Ac b st HB zS zu nL n0 t0 (pc + 1) (loc) (.ref x :: .ref x :: stk) (M)) : am_G p l e R s m args below meth c Q D Ac b st HB zS zu nL n0 t0 (pc) (loc) (.ref x :: stk) (M) := fun H locs ls hR hL hl => lv_dup C.1 C.2.1 hd rfl (k H locs ls hR hL hl)
theorem ar_popi {x : Int32} (C : am_C p s m args meth c cc nL own ini D Ac b st HB zS zu) (hd : decode cc pc = .ok (.pop, 1)) (k : am_G p l e R s m args below meth c Q D Ac b st HB zS zu nL n0 t0 (pc + 1) (loc) (stk) (M)) : am_G p l e R s m args below meth c Q D Ac b st HB zS zu nL n0 t0 (pc) (loc) (.int x :: stk) (M) := fun H locs ls hR hL hl => lv_pop C.1 C.2.1 hd rfl (k H locs ls hR hL hl)
theorem ar_popa {x : Nat} (C : am_C p s m args meth c cc nL own ini D Ac b st HB zS zu) (hd : decode cc pc = .ok (.pop, 1)) (k : am_G p l e R s m args below meth c Q D Ac b st HB zS zu nL n0 t0 (pc + 1) (loc) (stk) (M)) : am_G p l e R s m args below meth c Q D Ac b st HB zS zu nL n0 t0 (pc) (loc) (.ref x :: stk) (M) := fun H locs ls hR hL hl => lv_pop C.1 C.2.1 hd rfl (k H locs ls hR hL hl)
theorem ar_dup2 {x : Int32} {y : Nat} (C : am_C p s m args meth c cc nL own ini D Ac b st HB zS zu) (hd : decode cc pc = .ok (.dup2, 1)) (k : am_G p l e R s m args below meth c Q D Ac b st HB zS zu nL n0 t0 (pc + 1) (loc) (.int x :: .ref y :: .int x :: .ref y :: stk) (M)) : am_G p l e R s m args below meth c Q D Ac b st HB zS zu nL n0 t0 (pc) (loc) (.int x :: .ref y :: stk) (M) := fun H locs ls hR hL hl => lv_dup2_11 C.1 C.2.1 hd rfl rfl (k H locs ls hR hL hl)
theorem ar_iald0 {a : Nat} {j : Int32} (C : am_C p s m args meth c cc nL own ini D Ac b st HB zS zu) (hd : decode cc pc = .ok (.iaload, 1)) (hin : am_in (M.2.2.1 a) 0 j) (k : am_G p l e R s m args below meth c Q D Ac b st HB zS zu nL n0 t0 (pc + 1) (loc) (.int (M.2.2.2.1 a j.toNatClampNeg) :: stk) (M)) : am_G p l e R s m args below meth c Q D Ac b st HB zS zu nL n0 t0 (pc) (loc) (.int j :: .ref a :: stk) (M) := by
  intro H locs ls hR hL hl
  obtain ⟨ha, had, hc⟩ := hR.arr C.2.2.2.2.2.2.2.2.2 hin.1 (by decide)
  have kk := k H locs ls hR hL hl
  have hg : F0 m pc ls ((Value.int j :: Value.ref a :: stk).map (am_cv b st)) = F0 m pc ls (.int j :: .ref (b + a) :: stk.map (am_cv b st)) := by rw [← had]; rfl
  rw [hg]
  exact W.iald (v := .int (M.2.2.2.1 a j.toNatClampNeg)) C.1 C.2.1 hc ((C.2.2.2.2.2.1.1.2 0 _ rfl).1 _ _) (fun q => by cases q) (am_inR hin _ _) (by rw [arrV_read _ _ hin.2.2]; simp [am_av]) rfl rfl hd kk
theorem ar_lald {a : Nat} {j : Int32} (C : am_C p s m args meth c cc nL own ini D Ac b st HB zS zu) (hd : decode cc pc = .ok (.laload, 1)) (hin : am_in (M.2.2.1 a) 1 j) (k : am_G p l e R s m args below meth c Q D Ac b st HB zS zu nL n0 t0 (pc + 1) (loc) (.long (M.2.2.2.2.1 a j.toNatClampNeg) :: stk) (M)) : am_G p l e R s m args below meth c Q D Ac b st HB zS zu nL n0 t0 (pc) (loc) (.int j :: .ref a :: stk) (M) := by
  intro H locs ls hR hL hl
  obtain ⟨ha, had, hc⟩ := hR.arr C.2.2.2.2.2.2.2.2.2 hin.1 (by decide)
  have kk := k H locs ls hR hL hl
  have hg : F0 m pc ls ((Value.int j :: Value.ref a :: stk).map (am_cv b st)) = F0 m pc ls (.int j :: .ref (b + a) :: stk.map (am_cv b st)) := by rw [← had]; rfl
  rw [hg]
  exact W.lald (v := .long (M.2.2.2.2.1 a j.toNatClampNeg)) C.1 C.2.1 hc ((C.2.2.2.2.2.1.1.2 1 _ rfl).1 _ _) (fun q => by cases q) (am_inR hin _ _) (by rw [arrV_read _ _ hin.2.2]; simp [am_av]) rfl rfl hd kk
theorem ar_bald {a : Nat} {j : Int32} (C : am_C p s m args meth c cc nL own ini D Ac b st HB zS zu) (hd : decode cc pc = .ok (.baload, 1)) (hin : am_in (M.2.2.1 a) 2 j) (k : am_G p l e R s m args below meth c Q D Ac b st HB zS zu nL n0 t0 (pc + 1) (loc) (.int (M.2.2.2.1 a j.toNatClampNeg) :: stk) (M)) : am_G p l e R s m args below meth c Q D Ac b st HB zS zu nL n0 t0 (pc) (loc) (.int j :: .ref a :: stk) (M) := by
  intro H locs ls hR hL hl
  obtain ⟨ha, had, hc⟩ := hR.arr C.2.2.2.2.2.2.2.2.2 hin.1 (by decide)
  have kk := k H locs ls hR hL hl
  have hg : F0 m pc ls ((Value.int j :: Value.ref a :: stk).map (am_cv b st)) = F0 m pc ls (.int j :: .ref (b + a) :: stk.map (am_cv b st)) := by rw [← had]; rfl
  rw [hg]
  exact W.zald (v := .int (M.2.2.2.1 a j.toNatClampNeg)) C.1 C.2.1 hc ((C.2.2.2.2.2.1.1.2 2 _ rfl).1 _ _) (fun q => by cases q) (am_inR hin _ _) (by rw [arrV_read _ _ hin.2.2]; simp [am_av]) rfl rfl hd kk
theorem ar_iald5 {a : Nat} {j : Int32} (C : am_C p s m args meth c cc nL own ini D Ac b st HB zS zu) (hd : decode cc pc = .ok (.iaload, 1)) (hin : am_in (M.2.2.1 a) 5 j) (k : am_G p l e R s m args below meth c Q D Ac b st HB zS zu nL n0 t0 (pc + 1) (loc) (.int (M.2.2.2.1 a j.toNatClampNeg) :: stk) (M)) : am_G p l e R s m args below meth c Q D Ac b st HB zS zu nL n0 t0 (pc) (loc) (.int j :: .ref a :: stk) (M) := by
  intro H locs ls hR hL hl
  obtain ⟨ha, hs, hu⟩ := hR.ro hin.1
  have kk := k H locs ls hR hL hl
  rw [hs] at hin
  obtain ⟨⟨scr, h1, h2, h3, h4, h5⟩, hlt⟩ := C.2.2.2.2.2.1.2.2.2.2 a (zS a).2 (by rw [← hin.1])
  rw [hu] at kk
  exact W.iald (j := j) (v := .int (zu a j.toNatClampNeg)) C.1 C.2.1 (by rw [hR.2.2.1 _ hlt]; exact h1) h2 h3 (fun q => q.elim hin.2.1 (fun q => absurd hin.2.2 (by have := h4.1; omega))) (h5 _ hin.2.2) rfl rfl hd kk
theorem ar_aald {a q t : Nat} {j : Int32} (C : am_C p s m args meth c cc nL own ini D Ac b st HB zS zu) (hd : decode cc pc = .ok (.aaload, 1)) (ht : t = 3 ∨ t = 4) (hin : am_in (M.2.2.1 a) t j) (hq : M.2.2.2.2.2 a j.toNatClampNeg = some q) (k : am_G p l e R s m args below meth c Q D Ac b st HB zS zu nL n0 t0 (pc + 1) (loc) (.ref q :: stk) (M)) : am_G p l e R s m args below meth c Q D Ac b st HB zS zu nL n0 t0 (pc) (loc) (.int j :: .ref a :: stk) (M) := by
  intro H locs ls hR hL hl
  obtain ⟨ha, had, hc⟩ := hR.arr C.2.2.2.2.2.2.2.2.2 hin.1 (by omega)
  have kk := k H locs ls hR hL hl
  have hg : F0 m pc ls ((Value.int j :: Value.ref a :: stk).map (am_cv b st)) = F0 m pc ls (.int j :: .ref (b + a) :: stk.map (am_cv b st)) := by rw [← had]; rfl
  rw [hg]
  rcases ht with rfl | rfl
  · exact W.aald (v := .ref (am_ad b st q)) (ty := .object "SpoonSet$Table") C.1 C.2.1 hc ((C.2.2.2.2.2.1.1.2 3 _ rfl).1 _ _) rfl (fun q => by cases q) (am_inR hin _ _) (by rw [arrV_read _ _ hin.2.2]; simp [am_av, am_rv, hq]) rfl rfl hd kk
  · exact W.aald (v := .ref (am_ad b st q)) (ty := .object "SpoonSet$Script") C.1 C.2.1 hc ((C.2.2.2.2.2.1.1.2 4 _ rfl).1 _ _) rfl (fun q => by cases q) (am_inR hin _ _) (by rw [arrV_read _ _ hin.2.2]; simp [am_av, am_rv, hq]) rfl rfl hd kk
theorem ar_iast {a : Nat} {j : Int32} {w : Int32} (C : am_C p s m args meth c cc nL own ini D Ac b st HB zS zu) (hd : decode cc pc = .ok (.iastore, 1)) (hin : am_in (M.2.2.1 a) 0 j) (k : am_G p l e R s m args below meth c Q D Ac b st HB zS zu nL n0 t0 (pc + 1) (loc) (stk) (M.1, M.2.1, M.2.2.1, am_up M.2.2.2.1 a j.toNatClampNeg w, M.2.2.2.2.1, M.2.2.2.2.2)) : am_G p l e R s m args below meth c Q D Ac b st HB zS zu nL n0 t0 (pc) (loc) (.int w :: .int j :: .ref a :: stk) (M) := by
  intro H locs ls hR hL hl
  obtain ⟨ha, had, hc⟩ := hR.arr C.2.2.2.2.2.2.2.2.2 hin.1 (by decide)
  have hg : F0 m pc ls ((Value.int w :: Value.int j :: Value.ref a :: stk).map (am_cv b st)) = F0 m pc ls (.int w :: .int j :: .ref (b + a) :: stk.map (am_cv b st)) := by rw [← had]; rfl
  rw [hg]
  refine W.iast C.1 C.2.1 hc ((C.2.2.2.2.2.1.1.2 0 _ rfl).1 _ _) (fun q => by cases q) (am_inR hin _ _) rfl rfl hd fun H' e z oq => ?_
  refine k H' _ ls (hR.put ha z oq (u' := am_up M.2.2.2.1 a j.toNatClampNeg w) (v' := M.2.2.2.2.1) (r' := M.2.2.2.2.2) (fun c hc => am_up_ne hc) (fun c hc => rfl) (fun _ _ => rfl) (Or.inl ⟨by rw [hin.1]; decide, ?_⟩)) hL ?_
  · rw [e, arrV_store]
    simp only [hin.1]
    congr 2
    funext q
    by_cases hq : q = j.toNatClampNeg <;> simp [updV, am_av, am_up_at, hq]
  · intro q hq
    rcases List.mem_append.mp hq with h | h
    · exact hl q h
    · rw [List.mem_singleton.mp h]; exact Nat.le_add_right _ _
theorem ar_last {a : Nat} {j : Int32} {w : Int64} (C : am_C p s m args meth c cc nL own ini D Ac b st HB zS zu) (hd : decode cc pc = .ok (.lastore, 1)) (hin : am_in (M.2.2.1 a) 1 j) (k : am_G p l e R s m args below meth c Q D Ac b st HB zS zu nL n0 t0 (pc + 1) (loc) (stk) (M.1, M.2.1, M.2.2.1, M.2.2.2.1, am_up M.2.2.2.2.1 a j.toNatClampNeg w, M.2.2.2.2.2)) : am_G p l e R s m args below meth c Q D Ac b st HB zS zu nL n0 t0 (pc) (loc) (.long w :: .int j :: .ref a :: stk) (M) := by
  intro H locs ls hR hL hl
  obtain ⟨ha, had, hc⟩ := hR.arr C.2.2.2.2.2.2.2.2.2 hin.1 (by decide)
  have hg : F0 m pc ls ((Value.long w :: Value.int j :: Value.ref a :: stk).map (am_cv b st)) = F0 m pc ls (.long w :: .int j :: .ref (b + a) :: stk.map (am_cv b st)) := by rw [← had]; rfl
  rw [hg]
  refine W.last C.1 C.2.1 hc ((C.2.2.2.2.2.1.1.2 1 _ rfl).1 _ _) (fun q => by cases q) (am_inR hin _ _) rfl rfl hd fun H' e z oq => ?_
  refine k H' _ ls (hR.put ha z oq (u' := M.2.2.2.1) (v' := am_up M.2.2.2.2.1 a j.toNatClampNeg w) (r' := M.2.2.2.2.2) (fun c hc => rfl) (fun c hc => am_up_ne hc) (fun _ _ => rfl) (Or.inl ⟨by rw [hin.1]; decide, ?_⟩)) hL ?_
  · rw [e, arrV_store]
    simp only [hin.1]
    congr 2
    funext q
    by_cases hq : q = j.toNatClampNeg <;> simp [updV, am_av, am_up_at, hq]
  · intro q hq
    rcases List.mem_append.mp hq with h | h
    · exact hl q h
    · rw [List.mem_singleton.mp h]; exact Nat.le_add_right _ _
theorem ar_bast {a : Nat} {j : Int32} {w : Int32} (C : am_C p s m args meth c cc nL own ini D Ac b st HB zS zu) (hd : decode cc pc = .ok (.bastore, 1)) (hin : am_in (M.2.2.1 a) 2 j) (hw : narrow .boolean (.int w) = .int w) (k : am_G p l e R s m args below meth c Q D Ac b st HB zS zu nL n0 t0 (pc + 1) (loc) (stk) (M.1, M.2.1, M.2.2.1, am_up M.2.2.2.1 a j.toNatClampNeg w, M.2.2.2.2.1, M.2.2.2.2.2)) : am_G p l e R s m args below meth c Q D Ac b st HB zS zu nL n0 t0 (pc) (loc) (.int w :: .int j :: .ref a :: stk) (M) := by
  intro H locs ls hR hL hl
  obtain ⟨ha, had, hc⟩ := hR.arr C.2.2.2.2.2.2.2.2.2 hin.1 (by decide)
  have hg : F0 m pc ls ((Value.int w :: Value.int j :: Value.ref a :: stk).map (am_cv b st)) = F0 m pc ls (.int w :: .int j :: .ref (b + a) :: stk.map (am_cv b st)) := by rw [← had]; rfl
  rw [hg]
  refine W.zast C.1 C.2.1 hc ((C.2.2.2.2.2.1.1.2 2 _ rfl).1 _ _) (fun q => by cases q) (am_inR hin _ _) rfl rfl hd fun H' e z oq => ?_
  refine k H' _ ls (hR.put ha z oq (u' := am_up M.2.2.2.1 a j.toNatClampNeg w) (v' := M.2.2.2.2.1) (r' := M.2.2.2.2.2) (fun c hc => am_up_ne hc) (fun c hc => rfl) (fun _ _ => rfl) (Or.inl ⟨by rw [hin.1]; decide, ?_⟩)) hL ?_
  · rw [e, arrV_store]
    simp only [hin.1]
    congr 2
    funext q
    by_cases hq : q = j.toNatClampNeg <;> simp [updV, am_av, am_up_at, hq, hw]
  · intro q hq
    rcases List.mem_append.mp hq with h | h
    · exact hl q h
    · rw [List.mem_singleton.mp h]; exact Nat.le_add_right _ _
theorem ar_alen {a : Nat} (C : am_C p s m args meth c cc nL own ini D Ac b st HB zS zu) (hd : decode cc pc = .ok (.arraylength, 1)) (hin : (M.2.2.1 a).1 < 6) (k : am_G p l e R s m args below meth c Q D Ac b st HB zS zu nL n0 t0 (pc + 1) (loc) (.int (Int32.ofNat (M.2.2.1 a).2) :: stk) (M)) : am_G p l e R s m args below meth c Q D Ac b st HB zS zu nL n0 t0 (pc) (loc) (.ref a :: stk) (M) := by
  intro H locs ls hR hL hl
  have kk := k H locs ls hR hL hl
  by_cases h5 : (M.2.2.1 a).1 = 5
  · obtain ⟨ha, hs, hu⟩ := hR.ro h5
    rw [hs] at h5
    obtain ⟨⟨scr, h1, h2, h3, h4, -⟩, hlt⟩ := C.2.2.2.2.2.1.2.2.2.2 a (zS a).2 (by rw [← h5])
    rw [hs] at kk
    exact W.alen (n := Int32.ofNat (zS a).2) C.1 C.2.1 (by rw [hR.2.2.1 _ hlt]; exact h1) h2 h4.2 rfl rfl hd kk
  · generalize ht : (M.2.2.1 a).1 = t at hin h5
    obtain ⟨ha, had, hc⟩ := hR.arr C.2.2.2.2.2.2.2.2.2 ht (by omega)
    have hg : F0 m pc ls ((Value.ref a :: stk).map (am_cv b st)) = F0 m pc ls (.ref (b + a) :: stk.map (am_cv b st)) := by rw [← had]; rfl
    rw [hg]
    have hA : ∃ ty, s.isArrayOf (arrV (Ac t) (M.2.2.1 a).2 (am_av b st t (M.2.2.2.1 a) (M.2.2.2.2.1 a) (M.2.2.2.2.2 a))) ty := by
      match t, hin, h5 with
      | 0, _, _ => exact ⟨_, (C.2.2.2.2.2.1.1.2 0 _ rfl).1 _ _⟩
      | 1, _, _ => exact ⟨_, (C.2.2.2.2.2.1.1.2 1 _ rfl).1 _ _⟩
      | 2, _, _ => exact ⟨_, (C.2.2.2.2.2.1.1.2 2 _ rfl).1 _ _⟩
      | 3, _, _ => exact ⟨_, (C.2.2.2.2.2.1.1.2 3 _ rfl).1 _ _⟩
      | 4, _, _ => exact ⟨_, (C.2.2.2.2.2.1.1.2 4 _ rfl).1 _ _⟩
      | 5, _, h => exact absurd rfl h
    obtain ⟨ty, hA⟩ := hA
    exact W.alen (n := Int32.ofNat (M.2.2.1 a).2) C.1 C.2.1 hc hA (by rw [arrV_size] <;> rfl) rfl rfl hd kk
end ROWS
