/-! calls and runs once more, with facts X of the machine's tables kept along (statics, Strings) -/
def am_Pc3 (X : State → Prop) (D : va_G) (Ac : Nat → ClassId) (b : Nat) (st : Nat → Nat) (HB : Heap) (zS : Nat → Nat × Nat) (zu : Nat → Nat → Int32) (vs : List Value) (M : am_M) : Array Value → State → Prop := fun a U => a = (vs.map (am_cv b st)).toArray ∧ (am_K D Ac b st HB zS zu U ∧ X U) ∧ am_Rp D Ac b st HB zS zu M U.heap
theorem am_blind3 {X : State → Prop} (hXs : ∀ u U : State, u.vm = U.vm → X u → X U) {D : va_G} {Ac : Nat → ClassId} {b : Nat} {st : Nat → Nat} {HB : Heap} {zS : Nat → Nat × Nat} {zu : Nat → Nat → Int32} (vs : List Value) (M : am_M) : FrameBlind (am_Pc3 X D Ac b st HB zS zu vs M) := fun a U g mk h => ⟨h.1, ⟨am_K.same (u := U) (U := U.calling g mk a) rfl h.2.1.1, hXs U (U.calling g mk a) rfl h.2.1.2⟩, h.2.2⟩
section CALL3
variable {X : State → Prop} {p : Program} {l : Launch} {e : Jvm.Env} {R : Room} {s : State} {m : MethodId} {args : Array Value} {below : List Frame} {meth : Method} {c : Code} {Q : State → Prop} {D : va_G} {Ac : Nat → ClassId} {b : Nat} {st : Nat → Nat} {HB : Heap} {zS : Nat → Nat × Nat} {zu : Nat → Nat → Int32} {nL n0 t0 own : Nat} {ini : Bool} {cc : ByteArray} {pc : Nat} {loc : am_L} {stk : List Value} {M M1 : am_M}
theorem ar_callS3 {k x d : Nat} {vs : List Value} {r : Option Value} (hXw : ∀ u U : State, u.WarmedH U.vm → X u → X U) (hXs : ∀ u U : State, u.vm = U.vm → X u → X U) (hX : X s) (C : am_C p s m args meth c cc nL own ini D Ac b st HB zS zu) (hd : decode cc pc = .ok (.invokestatic k, 3)) (h0 : 0 < x) (h328 : x < 328) (hk : (am_mp x).2.2.2.1 = 0) (hlen : vs.length = am_np x) (hlk : am_lnk own k x = true) (hcs : am_cs stk ≤ 8)
    (hM : Met l (am_my x) (am_ws x) (am_rm d (M1.1 - M.1) (M1.2.1 - M.2.1)) (am_Pc3 X D Ac b st HB zS zu vs M) (am_Qc D Ac b st HB zS zu r M1) (M1.1 - M.1) (M1.2.1 - M.2.1) (fun q => b ≤ q))
    (hR : d + 2 ≤ R.frames ∧ 100 * d + 200 ≤ R.locals) (hn : n0 ≤ M.1 ∧ t0 ≤ M.2.1 ∧ M.1 ≤ M1.1 ∧ M.2.1 ≤ M1.2.1) (hr : M1.1 - n0 ≤ R.cells ∧ M1.2.1 - t0 ≤ R.slots)
    (kk : am_G p l e R s m args below meth c Q D Ac b st HB zS zu nL n0 t0 (pc + 3) loc (r.toList ++ stk) M1) : am_G p l e R s m args below meth c Q D Ac b st HB zS zu nL n0 t0 pc loc (vs.reverse ++ stk) M := by
  intro H locs ls hRp hL hl
  obtain ⟨f1, f2, f3, f4, f5, f6, f7, f8, f9, f10, f11⟩ := am_mfacts h0 h328
  have hfr : (am_rm d (M1.1 - M.1) (M1.2.1 - M.2.1)).frames + 1 ≤ R.frames ∧ 8 + (am_mx x + 11) + (am_rm d (M1.1 - M.1) (M1.2.1 - M.2.1)).locals ≤ R.locals := ⟨hR.1, by show 8 + (am_mx x + 11) + (100 * d + 100) ≤ _; omega⟩
  have hpre : PreS s H (am_Pc3 X D Ac b st HB zS zu vs M) (vs.map (am_cv b st)) := ⟨am_blind3 hXs vs M, fun U hU hW => ⟨rfl, ⟨C.2.2.2.2.2.1.warm hW, hXw _ _ hW hX⟩, by rw [hU]; exact hRp⟩⟩
  have hst : (F0 m pc ls ((vs.reverse ++ stk).map (am_cv b st))).stack = (vs.map (am_cv b st)).reverse ++ stk.map (am_cv b st) := by
    show (vs.reverse ++ stk).map (am_cv b st) = _
    rw [List.map_append, List.map_reverse]
  have fin : ∀ (H1 : Heap) (locs1 : List Loc), am_Rp D Ac b st HB zS zu M1 H1 → (∀ q ∈ locs1, b ≤ q.base) → W p l e R s m args below meth c H1 locs1 (M.1 - n0 + (M1.1 - M.1)) (M.2.1 - t0 + (M1.2.1 - M.2.1)) Q (F0 m (pc + 3) ls ((r.map (am_cv b st)).toList ++ stk.map (am_cv b st))) := by
    intro H1 locs1 g1 g2
    have := kk H1 locs1 ls g1 hL g2
    rw [show M.1 - n0 + (M1.1 - M.1) = M1.1 - n0 by omega, show M.2.1 - t0 + (M1.2.1 - M.2.1) = M1.2.1 - t0 by omega]
    rw [List.map_append] at this
    rw [show (r.map (am_cv b st)).toList = r.toList.map (am_cv b st) by cases r <;> rfl]
    exact this
  rcases am_mem_lnk C.2.2.2.2.2.2.2.2.1 hlk with hw | ⟨e, he, rfl, rfl⟩
  · exact am_after (va_runS (Ts := am_T) (own := am_CN own) (ws := am_ws x) ⟨C.1, C.2.1, C.2.2.1, C.2.2.2.1, C.2.2.2.2.1⟩ hM ⟨callB_of (am_np x) C.2.2.2.2.1 (am_ws_in h0 h328) rfl rfl rfl (C.2.2.2.2.1 _ f1) (C.2.2.2.2.1 _ hw) ⟨f7.1, f7.2, f8⟩ hfr, C.2.2.2.2.1 _ (f2 hk)⟩ hpre rfl (by rw [List.length_map]; exact hlen) hL.1 hst (am_cat8 hcs) hd ⟨by omega, by omega⟩) hl fin
  · exact am_after (va_runSN (Ts := am_T) (own := am_CN own) (ws := am_ws e.2.1) ⟨C.1, C.2.1, C.2.2.1, C.2.2.2.1, C.2.2.2.2.1⟩ hM ⟨va_cnB (am_np e.2.1) C.2.2.2.2.1 (am_ws_in h0 h328) rfl rfl rfl (C.2.2.2.2.2.1.2.1 own C.2.2.2.2.2.2.2.2.1 e he) (C.2.2.2.2.1 _ f1) ⟨f7.1, f7.2, f8⟩ hfr, C.2.2.2.2.1 _ (f2 hk), trivial⟩ hpre rfl (by rw [List.length_map]; exact hlen) hL.1 hst (am_cat8 hcs) hd ⟨by omega, by omega⟩) hl fin
theorem ar_callV3 {k x d a : Nat} {vs : List Value} {r : Option Value} (hXw : ∀ u U : State, u.WarmedH U.vm → X u → X U) (hXs : ∀ u U : State, u.vm = U.vm → X u → X U) (hX : X s) (C : am_C p s m args meth c cc nL own ini D Ac b st HB zS zu) (hd : decode cc pc = .ok (.invokevirtual k, 3)) (h0 : 0 < x) (h328 : x < 328) (hk0 : (am_mp x).2.2.2.1 ≠ 0) (hk1 : (am_mp x).2.2.2.1 ≠ 1) (hlen : vs.length = am_np x) (hlk : am_lnk own k x = true) (hcs : am_cs stk ≤ 8) (ht : M.2.2.1 a = (10 + am_mo x, 0)) (h13 : am_mo x < 13)
    (hM : Met l (am_my x) (am_ws x) (am_rm d (M1.1 - M.1) (M1.2.1 - M.2.1)) (am_Pc3 X D Ac b st HB zS zu (.ref a :: vs) M) (am_Qc D Ac b st HB zS zu r M1) (M1.1 - M.1) (M1.2.1 - M.2.1) (fun q => b ≤ q))
    (hR : d + 2 ≤ R.frames ∧ 100 * d + 200 ≤ R.locals) (hn : n0 ≤ M.1 ∧ t0 ≤ M.2.1 ∧ M.1 ≤ M1.1 ∧ M.2.1 ≤ M1.2.1) (hr : M1.1 - n0 ≤ R.cells ∧ M1.2.1 - t0 ≤ R.slots)
    (kk : am_G p l e R s m args below meth c Q D Ac b st HB zS zu nL n0 t0 (pc + 3) loc (r.toList ++ stk) M1) : am_G p l e R s m args below meth c Q D Ac b st HB zS zu nL n0 t0 pc loc (vs.reverse ++ .ref a :: stk) M := by
  intro H locs ls hRp hL hl
  obtain ⟨f1, f2, f3, f4, f5, f6, f7, f8, f9, f10, f11⟩ := am_mfacts h0 h328
  have hfr : (am_rm d (M1.1 - M.1) (M1.2.1 - M.2.1)).frames + 1 ≤ R.frames ∧ 8 + (am_mx x + 11) + (am_rm d (M1.1 - M.1) (M1.2.1 - M.2.1)).locals ≤ R.locals := ⟨hR.1, by show 8 + (am_mx x + 11) + (100 * d + 100) ≤ _; omega⟩
  obtain ⟨ha, had, cell, q1, q2, q3, -⟩ := hRp.obj C.2.2.2.2.2.2.2.2.2 ht (by omega) (by omega)
  rw [show 10 + am_mo x - 10 = am_mo x by omega] at q2
  have hrecv : ∃ cellB : Cell, H[am_ad b st a]? = some cellB ∧ cellB.vm.isStatics = false ∧ s.vm.findClass (am_my x).cls = some cellB.cls := ⟨cell, by rw [had]; exact q1, by rw [q3]; rfl, by rw [q2, f6]; exact (C.2.2.2.2.2.1.1.1 (am_mo x) _ (am_fc h13).1).2.1⟩
  have hpre : PreV s H (am_my x).cls (am_ad b st a) (am_Pc3 X D Ac b st HB zS zu (.ref a :: vs) M) (vs.map (am_cv b st)) := ⟨am_blind3 hXs _ M, hrecv, fun U hU hW => ⟨rfl, ⟨C.2.2.2.2.2.1.warm hW, hXw _ _ hW hX⟩, by rw [hU]; exact hRp⟩⟩
  have hst : (F0 m pc ls ((vs.reverse ++ .ref a :: stk).map (am_cv b st))).stack = (vs.map (am_cv b st)).reverse ++ .ref (am_ad b st a) :: stk.map (am_cv b st) := by
    show (vs.reverse ++ .ref a :: stk).map (am_cv b st) = _
    rw [List.map_append, List.map_reverse]
    rfl
  have fin : ∀ (H1 : Heap) (locs1 : List Loc), am_Rp D Ac b st HB zS zu M1 H1 → (∀ q ∈ locs1, b ≤ q.base) → W p l e R s m args below meth c H1 locs1 (M.1 - n0 + (M1.1 - M.1)) (M.2.1 - t0 + (M1.2.1 - M.2.1)) Q (F0 m (pc + 3) ls ((r.map (am_cv b st)).toList ++ stk.map (am_cv b st))) := by
    intro H1 locs1 g1 g2
    have := kk H1 locs1 ls g1 hL g2
    rw [show M.1 - n0 + (M1.1 - M.1) = M1.1 - n0 by omega, show M.2.1 - t0 + (M1.2.1 - M.2.1) = M1.2.1 - t0 by omega]
    rw [List.map_append] at this
    rw [show (r.map (am_cv b st)).toList = r.toList.map (am_cv b st) by cases r <;> rfl]
    exact this
  rcases am_mem_lnk C.2.2.2.2.2.2.2.2.1 hlk with hw | ⟨e, he, rfl, rfl⟩
  · exact am_after (va_runV (Ts := am_T) (own := am_CN own) (ws := am_ws x) ⟨C.1, C.2.1, C.2.2.1, C.2.2.2.1, C.2.2.2.2.1⟩ hM ⟨callB_of (am_np x) C.2.2.2.2.1 (am_ws_in h0 h328) rfl rfl rfl (C.2.2.2.2.1 _ f1) (C.2.2.2.2.1 _ hw) ⟨f7.1, f7.2, f8⟩ hfr, C.2.2.2.2.1 _ (f3 hk0), C.2.2.2.2.1 _ (f5 hk0 hk1)⟩ hpre rfl (by rw [List.length_map]; exact hlen) hL.1 hst (am_cat8 hcs) hd ⟨by omega, by omega⟩) hl fin
  · exact am_after (va_runVN (Ts := am_T) (own := am_CN own) (ws := am_ws e.2.1) ⟨C.1, C.2.1, C.2.2.1, C.2.2.2.1, C.2.2.2.2.1⟩ hM ⟨va_cnB (am_np e.2.1) C.2.2.2.2.1 (am_ws_in h0 h328) rfl rfl rfl (C.2.2.2.2.2.1.2.1 own C.2.2.2.2.2.2.2.2.1 e he) (C.2.2.2.2.1 _ f1) ⟨f7.1, f7.2, f8⟩ hfr, C.2.2.2.2.1 _ (f3 hk0), C.2.2.2.2.1 _ (f5 hk0 hk1)⟩ hpre rfl (by rw [List.length_map]; exact hlen) hL.1 hst (am_cat8 hcs) hd ⟨by omega, by omega⟩) hl fin
theorem ar_callI3 {k x d a : Nat} {vs : List Value} {r : Option Value} (hXw : ∀ u U : State, u.WarmedH U.vm → X u → X U) (hXs : ∀ u U : State, u.vm = U.vm → X u → X U) (hX : X s) (C : am_C p s m args meth c cc nL own ini D Ac b st HB zS zu) (hd : decode cc pc = .ok (.invokespecial k, 3)) (h0 : 0 < x) (h328 : x < 328) (hk1 : (am_mp x).2.2.2.1 = 1) (hlen : vs.length = am_np x) (hlk : am_lnk own k x = true) (hcs : am_cs stk ≤ 8)
    (hM : Met l (am_my x) (am_ws x) (am_rm d (M1.1 - M.1) (M1.2.1 - M.2.1)) (am_Pc3 X D Ac b st HB zS zu (.ref a :: vs) M) (am_Qc D Ac b st HB zS zu r M1) (M1.1 - M.1) (M1.2.1 - M.2.1) (fun q => b ≤ q))
    (hR : d + 2 ≤ R.frames ∧ 100 * d + 200 ≤ R.locals) (hn : n0 ≤ M.1 ∧ t0 ≤ M.2.1 ∧ M.1 ≤ M1.1 ∧ M.2.1 ≤ M1.2.1) (hr : M1.1 - n0 ≤ R.cells ∧ M1.2.1 - t0 ≤ R.slots)
    (kk : am_G p l e R s m args below meth c Q D Ac b st HB zS zu nL n0 t0 (pc + 3) loc (r.toList ++ stk) M1) : am_G p l e R s m args below meth c Q D Ac b st HB zS zu nL n0 t0 pc loc (vs.reverse ++ .ref a :: stk) M := by
  intro H locs ls hRp hL hl
  obtain ⟨f1, f2, f3, f4, f5, f6, f7, f8, f9, f10, f11⟩ := am_mfacts h0 h328
  have hfr : (am_rm d (M1.1 - M.1) (M1.2.1 - M.2.1)).frames + 1 ≤ R.frames ∧ 8 + (am_mx x + 11) + (am_rm d (M1.1 - M.1) (M1.2.1 - M.2.1)).locals ≤ R.locals := ⟨hR.1, by show 8 + (am_mx x + 11) + (100 * d + 100) ≤ _; omega⟩
  have hpre : PreS s H (am_Pc3 X D Ac b st HB zS zu (.ref a :: vs) M) (.ref (am_ad b st a) :: vs.map (am_cv b st)) := ⟨am_blind3 hXs _ M, fun U hU hW => ⟨rfl, ⟨C.2.2.2.2.2.1.warm hW, hXw _ _ hW hX⟩, by rw [hU]; exact hRp⟩⟩
  have hst : (F0 m pc ls ((vs.reverse ++ .ref a :: stk).map (am_cv b st))).stack = (vs.map (am_cv b st)).reverse ++ .ref (am_ad b st a) :: stk.map (am_cv b st) := by
    show (vs.reverse ++ .ref a :: stk).map (am_cv b st) = _
    rw [List.map_append, List.map_reverse]
    rfl
  have fin : ∀ (H1 : Heap) (locs1 : List Loc), am_Rp D Ac b st HB zS zu M1 H1 → (∀ q ∈ locs1, b ≤ q.base) → W p l e R s m args below meth c H1 locs1 (M.1 - n0 + (M1.1 - M.1)) (M.2.1 - t0 + (M1.2.1 - M.2.1)) Q (F0 m (pc + 3) ls ((r.map (am_cv b st)).toList ++ stk.map (am_cv b st))) := by
    intro H1 locs1 g1 g2
    have := kk H1 locs1 ls g1 hL g2
    rw [show M.1 - n0 + (M1.1 - M.1) = M1.1 - n0 by omega, show M.2.1 - t0 + (M1.2.1 - M.2.1) = M1.2.1 - t0 by omega]
    rw [List.map_append] at this
    rw [show (r.map (am_cv b st)).toList = r.toList.map (am_cv b st) by cases r <;> rfl]
    exact this
  have hret : am_mr x = none := (f4 hk1).2
  have hk0 : (am_mp x).2.2.2.1 ≠ 0 := by omega
  have hws : am_ws x = Cond.code (am_my x) (am_mc x) (am_mx x) none :: am_T := by unfold am_ws; rw [hret]
  rcases am_mem_lnk C.2.2.2.2.2.2.2.2.1 hlk with hw | ⟨e, he, rfl, rfl⟩
  · exact am_after (va_runI (Ts := am_T) (own := am_CN own) (ws := am_ws x) ⟨C.1, C.2.1, C.2.2.1, C.2.2.2.1, C.2.2.2.2.1⟩ hM ⟨callB_of (am_np x) C.2.2.2.2.1 (am_ws_in h0 h328) hws rfl rfl (C.2.2.2.2.1 _ f1) (C.2.2.2.2.1 _ hw) ⟨f7.1, f7.2, f8⟩ hfr, (f4 hk1).1, C.2.2.2.2.1 _ (f3 hk0)⟩ hpre rfl (by rw [List.length_map]; exact hlen) hL.1 hst (am_cat8 hcs) hd ⟨by omega, by omega⟩) hl fin
  · exact am_after (va_runIN (Ts := am_T) (own := am_CN own) (ws := am_ws e.2.1) ⟨C.1, C.2.1, C.2.2.1, C.2.2.2.1, C.2.2.2.2.1⟩ hM ⟨va_cnB (am_np e.2.1) C.2.2.2.2.1 (am_ws_in h0 h328) hws rfl rfl (C.2.2.2.2.2.1.2.1 own C.2.2.2.2.2.2.2.2.1 e he) (C.2.2.2.2.1 _ f1) ⟨f7.1, f7.2, f8⟩ hfr, (f4 hk1).1, C.2.2.2.2.1 _ (f3 hk0)⟩ hpre rfl (by rw [List.length_map]; exact hlen) hL.1 hst (am_cat8 hcs) hd ⟨by omega, by omega⟩) hl fin
end CALL3
def am_SO3 (X : State → Prop) (l : Launch) (D : va_G) (Ac : Nat → ClassId) (b : Nat) (st : Nat → Nat) (HB : Heap) (zS : Nat → Nat × Nat) (zu : Nat → Nat → Int32) : Prop :=
  ∀ (p : Program) (e : Jvm.Env) (R : Room) (s : State) (m : MethodId) (args : Array Value) (below : List Frame) (meth : Method) (c : Code) (Q : State → Prop) (nL n0 t0 own : Nat) (ini : Bool) (cc : ByteArray) (pc : Nat) (loc loc1 : am_L) (stk stk1 : List Value) (M M1 : am_M) (i : Instr) (x y : Nat) (z : Int),
    X s → am_C p s m args meth c cc nL own ini D Ac b st HB zS zu → decode cc pc = .ok (i, am_ln i) → am_ckx own ini (i, x, y, z) = true → am_sok own (i, x, y, z) = true → am_stat (i, x, y, z) = true → am_ex i x y z loc stk M = some (loc1, stk1, M1) → n0 ≤ M.1 → t0 ≤ M.2.1 → (M1.1 - n0 ≤ R.cells ∧ M1.2.1 - t0 ≤ R.slots) → (41 ≤ R.frames ∧ 4100 ≤ R.locals) →
    am_G p l e R s m args below meth c Q D Ac b st HB zS zu nL n0 t0 (pc + am_ln i) loc1 stk1 M1 → am_G p l e R s m args below meth c Q D Ac b st HB zS zu nL n0 t0 pc loc stk M
set_option maxHeartbeats 8000000 in
theorem am_main3 (X : State → Prop) (hXw : ∀ u U : State, u.WarmedH U.vm → X u → X U) (hXs : ∀ u U : State, u.vm = U.vm → X u → X U) (l : Launch) (D : va_G) (Ac : Nat → ClassId) (b : Nat) (st : Nat → Nat) (HB : Heap) (zS : Nat → Nat × Nat) (zu : Nat → Nat → Int32) (hSO : am_SO3 X l D Ac b st HB zS zu) (hP : am_Prog) :
    ∀ (n d mid : Nat) (ops : List am_op) (loc : am_L) (stk : List Value) (M : am_M) (r : Option Value) (M' : am_M), am_rf n d mid ops loc stk M = some (r, M') → mid < 328 → (∀ o ∈ ops, am_sok (am_mo mid) o = true) →
    ∀ (p : Program) (e : Jvm.Env) (R : Room) (s : State) (m : MethodId) (args : Array Value) (below : List Frame) (meth : Method) (c : Code) (Q : State → Prop) (n0 t0 : Nat), X s → am_C p s m args meth c (am_mc mid) (am_mx mid) (am_mo mid) (am_ini mid) D Ac b st HB zS zu →
    (d + 41 ≤ R.frames ∧ 100 * d + 4100 ≤ R.locals) → n0 ≤ M.1 → t0 ≤ M.2.1 → (M'.1 - n0 ≤ R.cells ∧ M'.2.1 - t0 ≤ R.slots) →
    (∀ (pc : Nat) (H : Heap) (locs : List Loc) (ls : Array Slot), am_Rp D Ac b st HB zS zu M' H → (∀ q ∈ locs, b ≤ q.base) → am_isret (am_mc mid) (am_mr mid) pc r → W p l e R s m args below meth c H locs (M'.1 - n0) (M'.2.1 - t0) Q (F0 m pc ls (r.map (am_cv b st)).toList)) →
    ∀ pc, am_chk mid pc ops = true → am_G p l e R s m args below meth c Q D Ac b st HB zS zu (am_mx mid) n0 t0 pc loc stk M := by
  intro n
  induction n with
  | zero => intro d mid ops loc stk M r M' h; cases h
  | succ n ih =>
    intro d mid ops loc stk M r M' h hmid hsk p e R s m args below meth c Q n0 t0 hX C hroom hn0 ht0 hcap hQ pc hchk
    cases ops with
    | nil => cases h
    | cons o rest =>
      obtain ⟨i, x, y, z⟩ := o
      obtain ⟨act, hact, h'⟩ := am_rf_inv h
      have hsr : ∀ o ∈ rest, am_sok (am_mo mid) o = true := fun o ho => hsk o (List.mem_cons_of_mem _ ho)
      have hso := hsk (i, x, y, z) (List.mem_cons_self ..)
      -- going on within the method
      have goes : ∀ (pc1 : Nat) (ops1 : List am_op) (loc1 : am_L) (stk1 : List Value) (M1 : am_M), am_rf n d mid ops1 loc1 stk1 M1 = some (r, M') → (∀ o ∈ ops1, am_sok (am_mo mid) o = true) → n0 ≤ M1.1 → t0 ≤ M1.2.1 → am_chk mid pc1 ops1 = true → am_G p l e R s m args below meth c Q D Ac b st HB zS zu (am_mx mid) n0 t0 pc1 loc1 stk1 M1 :=
        fun pc1 ops1 loc1 stk1 M1 g1 gs g2 g3 g4 => ih d mid ops1 loc1 stk1 M1 r M' g1 hmid gs p e R s m args below meth c Q n0 t0 hX C hroom g2 g3 hcap hQ pc1 g4
      -- a callee's contract
      have met : ∀ (d' x : Nat) (vs : List Value) (r1 : Option Value) (M1 : am_M), am_rf n d' x (am_B x 0) (am_init (am_mx x) vs) [] M = some (r1, M1) → 0 < x → x < 328 → am_cs vs ≤ am_mx x →
          Met l (am_my x) (am_ws x) (am_rm (d' + 40) (M1.1 - M.1) (M1.2.1 - M.2.1)) (am_Pc3 X D Ac b st HB zS zu vs M) (am_Qc D Ac b st HB zS zu r1 M1) (M1.1 - M.1) (M1.2.1 - M.2.1) (fun q => b ≤ q) := by
        intro d' x vs r1 M1 g1 hx0 hx hcs
        obtain ⟨f1, f2, f3, f4, f5, f6, f7, f8, f9, f10, f11⟩ := am_mfacts hx0 hx
        refine Met.ofW (cc := am_mc x) (maxL := am_mx x) (ret := am_mr x) f10 rfl ?_
        intro p2 e2 s2 m2 args2 below2 meth2 c2 s3 B hml hPc
        obtain ⟨rfl, ⟨hK2, hX2⟩, hR2⟩ := hPc
        have hts : ∀ w ∈ am_ws x, w.before (vs.map (am_cv b st)).toArray s2 = true := atoms_spec (ws := am_ws x) B.pre
        have hnm := name_of_methodNamed B.named B.method
        have C2 : am_C p2 s2 m2 (vs.map (am_cv b st)).toArray meth2 c2 (am_mc x) (am_mx x) (am_mo x) (am_ini x) D Ac b st HB zS zu :=
          ⟨B.exec, B.bytes, hml, by rw [← f6]; exact findClass_of_methodNamed B.named, fun w hw => hts w (List.mem_cons_of_mem _ hw), hK2, B.notSynchronized, fun hi => hnm.1.trans (of_decide_eq_true hi), f11, C.2.2.2.2.2.2.2.2.2⟩
        rw [lg_entry_eq]
        have hG := ih d' x (am_B x 0) (am_init (am_mx x) vs) [] M r1 M1 g1 hx (am_sk hx 0) p2 e2 (am_rm (d' + 40) (M1.1 - M.1) (M1.2.1 - M.2.1)) s2 m2 (vs.map (am_cv b st)).toArray below2 meth2 c2 (MQ below2 (am_Qc D Ac b st HB zS zu r1 M1) (vs.map (am_cv b st)).toArray s2 (M1.1 - M.1) (M1.2.1 - M.2.1) (fun q => b ≤ q)) M.1 M.2.1 hX2 C2
          ⟨Nat.le_refl _, Nat.le_refl _⟩ (Nat.le_refl _) (Nat.le_refl _) ⟨Nat.le_refl _, Nat.le_refl _⟩ ?_ 0 (hP x hx 0)
        · have := hG s2.heap [] _ hR2 (am_LS_init b st vs (n := am_mx x) (by rw [am_cs_slots]; exact hcs)) (fun q hq => by cases hq)
          rw [Nat.sub_self, Nat.sub_self] at this
          exact this
        · intro pc1 H1 locs1 ls1 hR1 hl1 hret
          have hq : ∀ t : State, t.heap = H1 → s2.WarmedH t.vm → am_Qc D Ac b st HB zS zu r1 M1 (vs.map (am_cv b st)).toArray s2 (.returned (r1.map (am_cv b st))) t := fun t ht _ => ⟨rfl, by rw [ht]; exact hR1⟩
          rcases hret with ⟨v, ty, rfl, k1, k2, k3⟩ | ⟨v, rfl, k1, k2⟩ | ⟨a, Cn, rfl, k1, k2⟩ | ⟨rfl, k1, k2⟩
          · exact W.zret C2.1 C2.2.1 (B.returns.trans k2) k3 hq hl1 k1 C2.2.2.2.2.2.2.1
          · exact W.lret C2.1 C2.2.1 (B.returns.trans k2) hq hl1 k1 C2.2.2.2.2.2.2.1
          · exact W.aret C2.1 C2.2.1 (B.returns.trans k2) (Or.inl ⟨_, rfl⟩) (Or.inr ⟨_, rfl⟩) hq hl1 k1 C2.2.2.2.2.2.2.1
          · exact W.vret C2.1 C2.2.1 (B.returns.trans k2) hq hl1 k1 C2.2.2.2.2.2.2.1
      have hcc : am_term i = false → am_ck1 mid pc (i, x, y, z) = true ∧ am_chk mid (pc + am_ln i) rest = true := by
        intro ht
        have := hchk
        simp only [am_chk, ht, Bool.false_and, Bool.false_or, Bool.not_false, Bool.true_and, Bool.and_eq_true] at this
        exact this
      have hct : am_term i = true → i ≠ .athrow → am_ck1 mid pc (i, x, y, z) = true := by
        intro ht hne
        have := hchk
        simp only [am_chk, ht, Bool.true_and, Bool.not_true, Bool.false_and, Bool.or_false] at this
        first
          | exact this
          | (split at this
             · rename_i heq; exact absurd heq hne
             · exact this)
      -- a straight step
      have straight : am_act mid (i, x, y, z) rest loc stk M = (am_ex i x y z loc stk M).bind (fun q => some (.inl (rest, q.1, q.2.1, q.2.2))) → am_ck1 mid pc (i, x, y, z) = (decide (decode (am_mc mid) pc = .ok (i, am_ln i)) && am_ckx (am_mo mid) (am_ini mid) (i, x, y, z)) → am_term i = false → am_G p l e R s m args below meth c Q D Ac b st HB zS zu (am_mx mid) n0 t0 pc loc stk M := by
        intro ha hck ht
        rw [ha] at hact
        cases hx : am_ex i x y z loc stk M with
        | none => rw [hx] at hact; cases hact
        | some q =>
          obtain ⟨loc1, stk1, M1⟩ := q
          rw [hx] at hact
          cases hact
          have h2 : am_rf n d mid rest loc1 stk1 M1 = some (r, M') := h'
          obtain ⟨hc1, hc2⟩ := hcc ht
          rw [hck] at hc1
          simp only [Bool.and_eq_true, decide_eq_true_eq] at hc1
          have hm := am_ex_mono hx
          have hm2 := am_rf_mono _ _ _ _ _ _ _ _ h2
          dsimp only at hm hm2
          have k := goes (pc + am_ln i) rest loc1 stk1 M1 h2 hsr (by omega) (by omega) hc2
          have hr1 : M1.1 - n0 ≤ R.cells ∧ M1.2.1 - t0 ≤ R.slots := ⟨by omega, by omega⟩
          have hf1 : 1 ≤ R.frames ∧ 80 ≤ R.locals := ⟨by omega, by omega⟩
          have hf2 : 41 ≤ R.frames ∧ 4100 ≤ R.locals := ⟨by omega, by omega⟩
          cases hs : am_stat (i, x, y, z) with
          | false => exact am_step C hc1.1 hc1.2 hs hx hn0 ht0 hr1 hf1 k
          | true => exact hSO p e R s m args below meth c Q (am_mx mid) n0 t0 (am_mo mid) (am_ini mid) (am_mc mid) pc loc loc1 stk stk1 M M1 i x y z hX C hc1.1 hc1.2 hso hs hx hn0 ht0 hr1 hf2 k
      cases i
      case nop =>
        have hc := hct rfl (by simp)
        simp only [am_ck1, decide_eq_true_eq] at hc
        subst hc
        cases hact
        exact goes pc (am_B mid pc) loc stk M h' (am_sk hmid _) hn0 ht0 (hP mid hmid pc)
      case goto off =>
        have hc := hct rfl (by simp)
        simp only [am_ck1, Bool.and_eq_true, decide_eq_true_eq] at hc
        cases hact
        exact ar_goto C hc.1 hc.2 (goes x (am_B mid x) loc stk M h' (am_sk hmid _) hn0 ht0 (hP mid hmid x))
      case ifCond cd off =>
        obtain ⟨hc, hc2⟩ := hcc rfl
        simp only [am_ck1, Bool.and_eq_true, decide_eq_true_eq] at hc
        obtain ⟨v, st0, rfl, rfl⟩ := ai_if0 hact
        have h2 : am_rf n d mid (if am_if0 cd v then am_B mid x else rest) loc st0 M = some (r, M') := h'
        refine ar_if0 C hc.1 hc.2 (fun hv => ?_) (fun hv => ?_)
        · rw [if_pos hv] at h2
          exact goes x (am_B mid x) loc st0 M h2 (am_sk hmid _) hn0 ht0 (hP mid hmid x)
        · rw [if_neg (by rw [hv]; decide)] at h2
          exact goes (pc + 3) rest loc st0 M h2 hsr hn0 ht0 hc2
      case if_icmp cd off =>
        obtain ⟨hc, hc2⟩ := hcc rfl
        simp only [am_ck1, Bool.and_eq_true, decide_eq_true_eq] at hc
        obtain ⟨v, w, st0, rfl, rfl⟩ := ai_if2 hact
        have h2 : am_rf n d mid (if am_if2 cd v w then am_B mid x else rest) loc st0 M = some (r, M') := h'
        refine ar_if2 C hc.1 hc.2 (fun hv => ?_) (fun hv => ?_)
        · rw [if_pos hv] at h2
          exact goes x (am_B mid x) loc st0 M h2 (am_sk hmid _) hn0 ht0 (hP mid hmid x)
        · rw [if_neg (by rw [hv]; decide)] at h2
          exact goes (pc + 3) rest loc st0 M h2 hsr hn0 ht0 hc2
      case tableswitch dd lo hi offs =>
        have hc := hct rfl (by simp)
        simp only [am_ck1, Bool.and_eq_true, decide_eq_true_eq] at hc
        obtain ⟨k1, k2, rfl, k4, k5⟩ := hc
        obtain ⟨len, hd⟩ := am_dec_of k1
        obtain ⟨v, st0, rfl, rfl⟩ := ai_tsw hact
        have k := goes _ _ loc st0 M h' (am_sk hmid _) hn0 ht0 (hP mid hmid _)
        obtain ⟨s1, s2⟩ := am_tck_spec (x := x) offs.toList lo (am_sw mid y) v.toInt k5
        intro H locs ls hR hL hl
        by_cases hin : v.toInt < lo ∨ hi < v.toInt
        · have e0 := s2 (by omega)
          rw [e0] at k
          exact lv_tableOut C.1 C.2.1 hd hin k2 (k H locs ls hR hL hl)
        · obtain ⟨o, g1, g2⟩ := s1 (by omega) (by omega)
          exact lv_tableIn C.1 C.2.1 hd (by omega) (by omega) (by rw [← Array.getElem?_toList]; exact g1) g2 (k H locs ls hR hL hl)
      case lookupswitch dd ps =>
        have hc := hct rfl (by simp)
        simp only [am_ck1, Bool.and_eq_true, decide_eq_true_eq] at hc
        obtain ⟨k1, k2, rfl, k4, k5⟩ := hc
        obtain ⟨len, hd⟩ := am_dec_of k1
        obtain ⟨v, st0, rfl, rfl⟩ := ai_lsw hact
        have k := goes _ _ loc st0 M h' (am_sk hmid _) hn0 ht0 (hP mid hmid _)
        intro H locs ls hR hL hl
        exact lv_lookup C.1 C.2.1 hd k4 rfl (am_lck_spec k2 ps.toList (am_sw mid y) v.toInt k5) (k H locs ls hR hL hl)
      case ireturn =>
        have hc := hct rfl (by simp)
        simp only [am_ck1, Bool.and_eq_true, decide_eq_true_eq] at hc
        obtain ⟨v, rfl, hk, rfl⟩ := ai_iret hact
        cases h'
        intro H locs ls hR hL hl
        refine hQ pc H locs ls hR hl (Or.inl ?_)
        rcases hc.2 with ⟨g1, g2⟩ | ⟨g1, g2⟩
        · exact ⟨v, .int, rfl, hc.1, g2, rfl⟩
        · refine ⟨v, .boolean, rfl, hc.1, g2, ?_⟩
          subst g1
          simp only [am_rk, show ¬ (1 : Nat) = 0 by decide, if_false, if_true, Bool.or_eq_true, decide_eq_true_eq] at hk
          rcases hk with hk | hk <;> rw [hk] <;> rfl
      case lreturn =>
        have hc := hct rfl (by simp)
        simp only [am_ck1, Bool.and_eq_true, decide_eq_true_eq] at hc
        obtain ⟨v, rfl, rfl⟩ := ai_lret hact
        cases h'
        intro H locs ls hR hL hl
        exact hQ pc H locs ls hR hl (Or.inr (Or.inl ⟨_, rfl, hc.1, hc.2⟩))
      case areturn =>
        have hc := hct rfl (by simp)
        simp only [am_ck1, Bool.and_eq_true, decide_eq_true_eq] at hc
        obtain ⟨v, rfl, rfl⟩ := ai_aret hact
        cases h'
        intro H locs ls hR hL hl
        have : ∃ Cn, am_mr mid = some (.object Cn) := by
          have h2 := hc.2
          split at h2
          · rename_i Cn hCn; exact ⟨Cn, hCn⟩
          · cases h2
        obtain ⟨Cn, hCn⟩ := this
        exact hQ pc H locs ls hR hl (Or.inr (Or.inr (Or.inl ⟨_, Cn, rfl, hc.1, hCn⟩)))
      case return_ =>
        have hc := hct rfl (by simp)
        simp only [am_ck1, Bool.and_eq_true, decide_eq_true_eq] at hc
        obtain ⟨rfl, rfl⟩ := ai_vret hact
        cases h'
        intro H locs ls hR hL hl
        exact hQ pc H locs ls hR hl (Or.inr (Or.inr (Or.inr ⟨rfl, hc.1, hc.2⟩)))
      case athrow => cases hact
      case invokestatic k =>
        by_cases hx : x < 900
        · obtain ⟨hc, hc2⟩ := hcc rfl
          simp only [am_ck1, if_pos hx, Bool.and_eq_true, decide_eq_true_eq] at hc
          obtain ⟨k1, ⟨k2, k3⟩, k4, k5, k6⟩ := hc
          obtain ⟨vs, st0, rfl, e2, e3, hm, rfl⟩ := ai_cs hx hact
          obtain ⟨d', r1, M1, rfl, g1, g2⟩ := am_cal_inv h'
          have m1 := am_rf_mono _ _ _ _ _ _ _ _ g1
          have m2 := am_rf_mono _ _ _ _ _ _ _ _ g2
          dsimp only at m1 m2 g1 g2
          exact ar_callS3 hXw hXs hX C k1 k2 k3 k4 (e2.trans k5) k6 e3 (met d' x vs r1 M1 g1 k2 k3 hm) ⟨by omega, by omega⟩ ⟨hn0, ht0, m1.1, m1.2⟩ ⟨by omega, by omega⟩ (goes (pc + 3) rest loc _ M1 g2 hsr (by omega) (by omega) hc2)
        · exact straight (by simp only [am_act, if_neg hx]) (by simp only [am_ck1, if_neg hx]; rfl) rfl
      case invokevirtual k =>
        by_cases hx : x < 900
        · obtain ⟨hc, hc2⟩ := hcc rfl
          simp only [am_ck1, if_pos hx, Bool.and_eq_true, decide_eq_true_eq] at hc
          obtain ⟨k1, ⟨k2, k3⟩, ⟨k4, k4'⟩, k5, ⟨k6, k7⟩, k8⟩ := hc
          obtain ⟨q, vs, st0, rfl, e2, e3, hm, hS, rfl⟩ := ai_cv hx hact
          obtain ⟨d', r1, M1, rfl, g1, g2⟩ := am_cal_inv h'
          have m1 := am_rf_mono _ _ _ _ _ _ _ _ g1
          have m2 := am_rf_mono _ _ _ _ _ _ _ _ g2
          dsimp only at m1 m2 g1 g2
          exact ar_callV3 hXw hXs hX C k1 k2 k3 k4 k4' (by omega) k8 e3 (hS.trans (by rw [k6])) k7 (met d' x (.ref q :: vs) r1 M1 g1 k2 k3 hm) ⟨by omega, by omega⟩ ⟨hn0, ht0, m1.1, m1.2⟩ ⟨by omega, by omega⟩ (goes (pc + 3) rest loc _ M1 g2 hsr (by omega) (by omega) hc2)
        · exact straight (by simp only [am_act, if_neg hx]) (by simp only [am_ck1, if_neg hx]; rfl) rfl
      case invokespecial k =>
        by_cases hx : x < 900
        · obtain ⟨hc, hc2⟩ := hcc rfl
          simp only [am_ck1, if_pos hx, Bool.and_eq_true, decide_eq_true_eq] at hc
          obtain ⟨k1, ⟨k2, k3⟩, k4, k5, k8⟩ := hc
          obtain ⟨q, vs, st0, rfl, e2, e3, hm, hS, rfl⟩ := ai_ci hx hact
          obtain ⟨d', r1, M1, rfl, g1, g2⟩ := am_cal_inv h'
          have m1 := am_rf_mono _ _ _ _ _ _ _ _ g1
          have m2 := am_rf_mono _ _ _ _ _ _ _ _ g2
          dsimp only at m1 m2 g1 g2
          exact ar_callI3 hXw hXs hX C k1 k2 k3 k4 (by omega) k8 e3 (met d' x (.ref q :: vs) r1 M1 g1 k2 k3 hm) ⟨by omega, by omega⟩ ⟨hn0, ht0, m1.1, m1.2⟩ ⟨by omega, by omega⟩ (goes (pc + 3) rest loc _ M1 g2 hsr (by omega) (by omega) hc2)
        · exact straight (by simp only [am_act, if_neg hx]) (by simp only [am_ck1, if_neg hx]; rfl) rfl
      all_goals exact straight rfl rfl rfl
