/-! switches, returns, calls -/
theorem am_tck_spec {pc x : Nat} : ∀ (os : List Int) (lo : Int) (sw : List (Int × Nat)) (z : Int), am_tck pc lo os sw = true →
    (lo ≤ z → z < lo + (os.length : Int) → ∃ v, os[(z - lo).toNat]? = some v ∧ (pc : Int) + v = (am_swt sw x z : Int)) ∧ (z < lo ∨ lo + (os.length : Int) ≤ z → am_swt sw x z = x)
  | [], lo, [], z, _ => ⟨fun h1 h2 => by simp at h2; omega, fun _ => rfl⟩
  | [], lo, _ :: _, z, h => by simp [am_tck] at h
  | o :: os, lo, [], z, h => by simp [am_tck] at h
  | o :: os, lo, (cc, t) :: r, z, h => by
    simp only [am_tck, Bool.and_eq_true, decide_eq_true_eq] at h
    obtain ⟨rfl, h2, h3⟩ := h
    obtain ⟨i1, i2⟩ := am_tck_spec os (cc + 1) r z h3 (x := x)
    by_cases hz : z = cc
    · subst hz
      refine ⟨fun _ _ => ⟨o, by simp, by simp only [am_swt, if_true]; exact h2⟩, fun h => ?_⟩
      simp only [List.length_cons, Int.natCast_add] at h
      omega
    · simp only [am_swt, if_neg hz]
      refine ⟨fun g1 g2 => ?_, fun g => ?_⟩
      · simp only [List.length_cons, Int.natCast_add] at g2
        obtain ⟨v, k1, k2⟩ := i1 (by omega) (by omega)
        refine ⟨v, ?_, k2⟩
        rw [show (z - cc).toNat = (z - (cc + 1)).toNat + 1 by omega, List.getElem?_cons_succ]
        exact k1
      · simp only [List.length_cons, Int.natCast_add] at g
        exact i2 (by omega)
theorem am_lck_spec {pc x : Nat} {d : Int} (hd : (pc : Int) + d = (x : Int)) : ∀ (os : List (Int × Int)) (sw : List (Int × Nat)) (z : Int), am_lck pc os sw = true → (pc : Int) + Op.lookupswitch.offset os d z = (am_swt sw x z : Int)
  | [], [], z, _ => by rw [Op.lookupswitch.offset_nil]; exact hd
  | [], _ :: _, z, h => by simp [am_lck] at h
  | _ :: _, [], z, h => by simp [am_lck] at h
  | (a, o) :: os, (cc, t) :: r, z, h => by
    simp only [am_lck, Bool.and_eq_true, decide_eq_true_eq] at h
    obtain ⟨rfl, h2, h3⟩ := h
    rw [Op.lookupswitch.offset_cons]
    by_cases hz : cc = z
    · subst hz
      rw [if_pos rfl]
      simp only [am_swt, if_true]
      exact h2
    · rw [if_neg hz]
      simp only [am_swt, if_neg (Ne.symm hz)]
      exact am_lck_spec hd os r z h3
theorem am_dec_of {cc : ByteArray} {pc : Nat} {i : Instr} (h : am_dec cc pc i = true) : ∃ n, decode cc pc = .ok (i, n) := by
  unfold am_dec at h
  split at h
  · rename_i j n hj
    exact ⟨n, by rw [hj, of_decide_eq_true h]⟩
  · cases h
def am_Pc (D : va_G) (Ac : Nat → ClassId) (b : Nat) (st : Nat → Nat) (HB : Heap) (zS : Nat → Nat × Nat) (zu : Nat → Nat → Int32) (vs : List Value) (M : am_M) : Array Value → State → Prop := fun a U => a = (vs.map (am_cv b st)).toArray ∧ am_K D Ac b st HB zS zu U ∧ am_Rp D Ac b st HB zS zu M U.heap
def am_Qc (D : va_G) (Ac : Nat → ClassId) (b : Nat) (st : Nat → Nat) (HB : Heap) (zS : Nat → Nat × Nat) (zu : Nat → Nat → Int32) (r : Option Value) (M' : am_M) : Array Value → State → Outcome → State → Prop := fun _ _ o t => o = .returned (r.map (am_cv b st)) ∧ am_Rp D Ac b st HB zS zu M' t.heap
theorem am_blind {D : va_G} {Ac : Nat → ClassId} {b : Nat} {st : Nat → Nat} {HB : Heap} {zS : Nat → Nat × Nat} {zu : Nat → Nat → Int32} (vs : List Value) (M : am_M) : FrameBlind (am_Pc D Ac b st HB zS zu vs M) := fun a U g mk h => ⟨h.1, am_K.same (u := U) (U := U.calling g mk a) rfl h.2.1, h.2.2⟩
abbrev am_ws (x : Nat) : List Cond := Cond.code (am_my x) (am_mc x) (am_mx x) (am_mr x) :: am_T
def am_rm (d mc ms : Nat) : Room := { frames := d + 1, cells := mc, slots := ms, locals := 100 * d + 100 }
theorem am_code_in {x : Nat} (h0 : 0 < x) (h : x < 328) : Cond.code (am_my x) (am_mc x) (am_mx x) (am_mr x) ∈ am_T :=
  List.mem_filter.mpr ⟨List.mem_append_right _ (List.mem_of_getElem? (cwt_1_328 x h0 h)), rfl⟩
theorem am_ws_in {x : Nat} (h0 : 0 < x) (h : x < 328) : GoodIn am_T (am_ws x) := by
  have key : ∀ w ∈ am_T, (w.onTables && w.keeps) = true ∨ ∃ ty, w = .arrayClass ty := fun w hw => good_of_word (List.mem_filter.mp hw).2
  intro w hw
  rcases List.mem_cons.mp hw with rfl | hw
  · exact ⟨am_code_in h0 h, key _ (am_code_in h0 h)⟩
  · exact ⟨hw, key _ hw⟩
theorem am_mfacts {x : Nat} (h0 : 0 < x) (h : x < 328) : Cond.initialized (am_my x).cls ∈ am_T ∧ ((am_mp x).2.2.2.1 = 0 → Cond.static (am_my x) ∈ am_T) ∧ ((am_mp x).2.2.2.1 ≠ 0 → Cond.instanceMethod (am_my x) ∈ am_T) ∧ ((am_mp x).2.2.2.1 = 1 → (am_my x).name = "<init>" ∧ am_mr x = none) ∧
    ((am_mp x).2.2.2.1 ≠ 0 → (am_mp x).2.2.2.1 ≠ 1 → Cond.selects (am_my x).cls (am_my x) (am_my x) ∈ am_T) ∧ (am_my x).cls = am_CN (am_mo x) ∧ ((am_my x).cls ≠ "java/lang/invoke/MethodHandle" ∧ (am_my x).cls ≠ "java/lang/invoke/VarHandle") ∧ (parseMethodDescriptor (am_my x).desc).map (fun d => d.parameters.length) = some (am_np x) ∧ am_mx x ≤ 81 ∧ plainName (am_my x).cls = true ∧ am_mo x < 23 := by
  have hm := am_mok_all h0 h
  unfold am_mok at hm
  simp only [Bool.and_eq_true, decide_eq_true_eq] at hm
  obtain ⟨h1, h2, h3, h4, h5, h6, h7, h8⟩ := hm
  refine ⟨am_has_in h1, fun hk => ?_, fun hk => ?_, fun hk => ?_, fun hk hk1 => ?_, h3, h4, h5, h6, h7, h8⟩
  · rw [if_pos hk] at h2
    exact am_has_in h2
  · rw [if_neg hk] at h2
    exact am_has_in (Bool.and_eq_true_iff.mp h2).1
  · rw [if_neg (by omega)] at h2
    have h9 := (Bool.and_eq_true_iff.mp h2).2
    rw [if_pos hk] at h9
    exact of_decide_eq_true h9
  · rw [if_neg hk] at h2
    have h9 := (Bool.and_eq_true_iff.mp h2).2
    rw [if_neg hk1] at h9
    split at h9
    · exact am_has_in h9
    · exact am_hasP_in h9
section CALL
variable {p : Program} {l : Launch} {e : Env} {R : Room} {s : State} {m : MethodId} {args : Array Value} {below : List Frame} {meth : Method} {c : Code} {Q : State → Prop} {D : va_G} {Ac : Nat → ClassId} {b : Nat} {st : Nat → Nat} {HB : Heap} {zS : Nat → Nat × Nat} {zu : Nat → Nat → Int32} {nL n0 t0 own : Nat} {ini : Bool} {cc : ByteArray} {pc : Nat} {loc : am_L} {stk : List Value} {M M1 : am_M}
theorem am_after {H : Heap} {locs : List Loc} {cells slots mc ms : Nat} {ls : Array Slot} {stk0 rest : List Value} {r : Option Value} {a : Array Value} (hr : va_Run p l e R s m args below meth c H locs cells slots mc ms (F0 m pc ls stk0) rest (am_Qc D Ac b st HB zS zu r M1 a) (fun q => b ≤ q)) (hl : ∀ q ∈ locs, b ≤ q.base)
    (kk : ∀ (H1 : Heap) (locs1 : List Loc), am_Rp D Ac b st HB zS zu M1 H1 → (∀ q ∈ locs1, b ≤ q.base) → W p l e R s m args below meth c H1 locs1 (cells + mc) (slots + ms) Q (F0 m (pc + 3) ls ((r.map (am_cv b st)).toList ++ rest))) : W p l e R s m args below meth c H locs cells slots Q (F0 m pc ls stk0) := by
  intro T hT X
  obtain ⟨v, s0, t, T', L, e0, X', hL, e1, e2, ⟨ho, hR⟩, go⟩ := hr T hT X
  have hv : v = r.map (am_cv b st) := Outcome.returned.inj ho
  subst hv
  obtain ⟨t2, a1, b1⟩ := kk T'.heap (locs ++ L) (by rw [e1]; exact hR) (fun q hq => (List.mem_append.mp hq).elim (hl q) (hL q)) T' rfl X'
  exact ⟨t2, go _ a1, b1⟩
theorem am_cat8 {k : Nat} {ls : Array Slot} {g : List Value} (h : am_cs stk ≤ 8) : 2 * (F0 m k ls g).monitorRoom + ((stk.map (am_cv b st)).map fun v => v.category).sum ≤ 8 := by
  rw [am_cs_sum]
  show 2 * 0 + _ ≤ 8
  omega
theorem am_mem_lnk {k x : Nat} (ho : own < 23) (h : am_lnk own k x = true) : Cond.methodLink (am_CN own) k (am_my x) ∈ am_T ∨ ∃ e ∈ am_nl own, e.1 = k ∧ e.2.1 = x := by
  unfold am_lnk at h
  rcases Bool.or_eq_true_iff.mp h with h | h
  · obtain ⟨e, he, hp⟩ := am_any h
    simp only [Bool.and_eq_true, beq_iff_eq] at hp
    obtain ⟨rfl, rfl⟩ := hp
    have h3 := am_all3 (p := fun own (e : Nat × Nat × Nat) => am_has e.2.2 (.methodLink (am_CN own) e.1 (am_my e.2.1)) && decide (e.2.1 < 328)) am_ml_ok ho he
    exact Or.inl (am_has_in (Bool.and_eq_true_iff.mp h3).1)
  · obtain ⟨e, he, hp⟩ := am_any h
    simp only [Bool.and_eq_true, beq_iff_eq] at hp
    exact Or.inr ⟨e, he, hp.1, hp.2⟩
theorem ar_callS {k x d : Nat} {vs : List Value} {r : Option Value} (C : am_C p s m args meth c cc nL own ini D Ac b st HB zS zu) (hd : decode cc pc = .ok (.invokestatic k, 3)) (h0 : 0 < x) (h328 : x < 328) (hk : (am_mp x).2.2.2.1 = 0) (hlen : vs.length = am_np x) (hlk : am_lnk own k x = true) (hcs : am_cs stk ≤ 8)
    (hM : Met l (am_my x) (am_ws x) (am_rm d (M1.1 - M.1) (M1.2.1 - M.2.1)) (am_Pc D Ac b st HB zS zu vs M) (am_Qc D Ac b st HB zS zu r M1) (M1.1 - M.1) (M1.2.1 - M.2.1) (fun q => b ≤ q))
    (hR : d + 2 ≤ R.frames ∧ 100 * d + 200 ≤ R.locals) (hn : n0 ≤ M.1 ∧ t0 ≤ M.2.1 ∧ M.1 ≤ M1.1 ∧ M.2.1 ≤ M1.2.1) (hr : M1.1 - n0 ≤ R.cells ∧ M1.2.1 - t0 ≤ R.slots)
    (kk : am_G p l e R s m args below meth c Q D Ac b st HB zS zu nL n0 t0 (pc + 3) loc (r.toList ++ stk) M1) : am_G p l e R s m args below meth c Q D Ac b st HB zS zu nL n0 t0 pc loc (vs.reverse ++ stk) M := by
  intro H locs ls hRp hL hl
  obtain ⟨f1, f2, f3, f4, f5, f6, f7, f8, f9, f10, f11⟩ := am_mfacts h0 h328
  have hfr : (am_rm d (M1.1 - M.1) (M1.2.1 - M.2.1)).frames + 1 ≤ R.frames ∧ 8 + (am_mx x + 11) + (am_rm d (M1.1 - M.1) (M1.2.1 - M.2.1)).locals ≤ R.locals := ⟨hR.1, by show 8 + (am_mx x + 11) + (100 * d + 100) ≤ _; omega⟩
  have hpre : PreS s H (am_Pc D Ac b st HB zS zu vs M) (vs.map (am_cv b st)) := ⟨am_blind vs M, fun U hU hW => ⟨rfl, C.2.2.2.2.2.1.warm hW, by rw [hU]; exact hRp⟩⟩
  have hst : (F0 m pc ls ((vs.reverse ++ stk).map (am_cv b st))).stack = (vs.map (am_cv b st)).reverse ++ stk.map (am_cv b st) := by
    show (vs.reverse ++ stk).map (am_cv b st) = _
    rw [List.map_append, List.map_reverse]
  have fin : ∀ (H1 : Heap) (locs1 : List Loc), am_Rp D Ac b st HB zS zu M1 H1 → (∀ q ∈ locs1, b ≤ q.base) → W p l e R s m args below meth c H1 locs1 (M.1 - n0 + (M1.1 - M.1)) (M.2.1 - t0 + (M1.2.1 - M.2.1)) Q (F0 m (pc + 3) ls ((r.map (am_cv b st)).toList ++ stk.map (am_cv b st))) := by
    intro H1 locs1 g1 g2
    have := kk H1 locs1 ls g1 hL g2
    rw [show M.1 - n0 + (M1.1 - M.1) = M1.1 - n0 by omega, show M.2.1 - t0 + (M1.2.1 - M.2.1) = M1.2.1 - t0 by omega]
    rw [List.map_append] at this
    rw [show (r.map (am_cv b st)).toList = r.toList.map (am_cv b st) by cases r <;> rfl]
    exact this
  rcases am_mem_lnk C.2.2.2.2.2.2.2.2.1 hlk with hw | ⟨e, he, rfl, rfl⟩
  · exact am_after (va_runS (Ts := am_T) (own := am_CN own) (ws := am_ws x) ⟨C.1, C.2.1, C.2.2.1, C.2.2.2.1, C.2.2.2.2.1⟩ hM ⟨callB_of (am_np x) C.2.2.2.2.1 (am_ws_in h0 h328) rfl rfl rfl (C.2.2.2.2.1 _ f1) (C.2.2.2.2.1 _ hw) ⟨f7.1, f7.2, f8⟩ hfr, C.2.2.2.2.1 _ (f2 hk)⟩ hpre rfl (by rw [List.length_map]; exact hlen) hL.1 hst (am_cat8 hcs) hd ⟨by omega, by omega⟩) hl fin
  · exact am_after (va_runSN (Ts := am_T) (own := am_CN own) (ws := am_ws e.2.1) ⟨C.1, C.2.1, C.2.2.1, C.2.2.2.1, C.2.2.2.2.1⟩ hM ⟨va_cnB (am_np e.2.1) C.2.2.2.2.1 (am_ws_in h0 h328) rfl rfl rfl (C.2.2.2.2.2.1.2.1 own C.2.2.2.2.2.2.2.2.1 e he) (C.2.2.2.2.1 _ f1) ⟨f7.1, f7.2, f8⟩ hfr, C.2.2.2.2.1 _ (f2 hk), trivial⟩ hpre rfl (by rw [List.length_map]; exact hlen) hL.1 hst (am_cat8 hcs) hd ⟨by omega, by omega⟩) hl fin
theorem ar_callV {k x d a : Nat} {vs : List Value} {r : Option Value} (C : am_C p s m args meth c cc nL own ini D Ac b st HB zS zu) (hd : decode cc pc = .ok (.invokevirtual k, 3)) (h0 : 0 < x) (h328 : x < 328) (hk0 : (am_mp x).2.2.2.1 ≠ 0) (hk1 : (am_mp x).2.2.2.1 ≠ 1) (hlen : vs.length = am_np x) (hlk : am_lnk own k x = true) (hcs : am_cs stk ≤ 8) (ht : M.2.2.1 a = (10 + am_mo x, 0)) (h13 : am_mo x < 13)
    (hM : Met l (am_my x) (am_ws x) (am_rm d (M1.1 - M.1) (M1.2.1 - M.2.1)) (am_Pc D Ac b st HB zS zu (.ref a :: vs) M) (am_Qc D Ac b st HB zS zu r M1) (M1.1 - M.1) (M1.2.1 - M.2.1) (fun q => b ≤ q))
    (hR : d + 2 ≤ R.frames ∧ 100 * d + 200 ≤ R.locals) (hn : n0 ≤ M.1 ∧ t0 ≤ M.2.1 ∧ M.1 ≤ M1.1 ∧ M.2.1 ≤ M1.2.1) (hr : M1.1 - n0 ≤ R.cells ∧ M1.2.1 - t0 ≤ R.slots)
    (kk : am_G p l e R s m args below meth c Q D Ac b st HB zS zu nL n0 t0 (pc + 3) loc (r.toList ++ stk) M1) : am_G p l e R s m args below meth c Q D Ac b st HB zS zu nL n0 t0 pc loc (vs.reverse ++ .ref a :: stk) M := by
  intro H locs ls hRp hL hl
  obtain ⟨f1, f2, f3, f4, f5, f6, f7, f8, f9, f10, f11⟩ := am_mfacts h0 h328
  have hfr : (am_rm d (M1.1 - M.1) (M1.2.1 - M.2.1)).frames + 1 ≤ R.frames ∧ 8 + (am_mx x + 11) + (am_rm d (M1.1 - M.1) (M1.2.1 - M.2.1)).locals ≤ R.locals := ⟨hR.1, by show 8 + (am_mx x + 11) + (100 * d + 100) ≤ _; omega⟩
  obtain ⟨ha, had, cell, q1, q2, q3, -⟩ := hRp.obj C.2.2.2.2.2.2.2.2.2 ht (by omega) (by omega)
  rw [show 10 + am_mo x - 10 = am_mo x by omega] at q2
  have hrecv : ∃ cellB : Cell, H[am_ad b st a]? = some cellB ∧ cellB.vm.isStatics = false ∧ s.vm.findClass (am_my x).cls = some cellB.cls := ⟨cell, by rw [had]; exact q1, by rw [q3]; rfl, by rw [q2, f6]; exact (C.2.2.2.2.2.1.1.1 (am_mo x) _ (am_fc h13).1).2.1⟩
  have hpre : PreV s H (am_my x).cls (am_ad b st a) (am_Pc D Ac b st HB zS zu (.ref a :: vs) M) (vs.map (am_cv b st)) := ⟨am_blind _ M, hrecv, fun U hU hW => ⟨rfl, C.2.2.2.2.2.1.warm hW, by rw [hU]; exact hRp⟩⟩
  have hst : (F0 m pc ls ((vs.reverse ++ .ref a :: stk).map (am_cv b st))).stack = (vs.map (am_cv b st)).reverse ++ .ref (am_ad b st a) :: stk.map (am_cv b st) := by
    show (vs.reverse ++ .ref a :: stk).map (am_cv b st) = _
    rw [List.map_append, List.map_reverse]
    rfl
  have fin : ∀ (H1 : Heap) (locs1 : List Loc), am_Rp D Ac b st HB zS zu M1 H1 → (∀ q ∈ locs1, b ≤ q.base) → W p l e R s m args below meth c H1 locs1 (M.1 - n0 + (M1.1 - M.1)) (M.2.1 - t0 + (M1.2.1 - M.2.1)) Q (F0 m (pc + 3) ls ((r.map (am_cv b st)).toList ++ stk.map (am_cv b st))) := by
    intro H1 locs1 g1 g2
    have := kk H1 locs1 ls g1 hL g2
    rw [show M.1 - n0 + (M1.1 - M.1) = M1.1 - n0 by omega, show M.2.1 - t0 + (M1.2.1 - M.2.1) = M1.2.1 - t0 by omega]
    rw [List.map_append] at this
    rw [show (r.map (am_cv b st)).toList = r.toList.map (am_cv b st) by cases r <;> rfl]
    exact this
  rcases am_mem_lnk C.2.2.2.2.2.2.2.2.1 hlk with hw | ⟨e, he, rfl, rfl⟩
  · exact am_after (va_runV (Ts := am_T) (own := am_CN own) (ws := am_ws x) ⟨C.1, C.2.1, C.2.2.1, C.2.2.2.1, C.2.2.2.2.1⟩ hM ⟨callB_of (am_np x) C.2.2.2.2.1 (am_ws_in h0 h328) rfl rfl rfl (C.2.2.2.2.1 _ f1) (C.2.2.2.2.1 _ hw) ⟨f7.1, f7.2, f8⟩ hfr, C.2.2.2.2.1 _ (f3 hk0), C.2.2.2.2.1 _ (f5 hk0 hk1)⟩ hpre rfl (by rw [List.length_map]; exact hlen) hL.1 hst (am_cat8 hcs) hd ⟨by omega, by omega⟩) hl fin
  · exact am_after (va_runVN (Ts := am_T) (own := am_CN own) (ws := am_ws e.2.1) ⟨C.1, C.2.1, C.2.2.1, C.2.2.2.1, C.2.2.2.2.1⟩ hM ⟨va_cnB (am_np e.2.1) C.2.2.2.2.1 (am_ws_in h0 h328) rfl rfl rfl (C.2.2.2.2.2.1.2.1 own C.2.2.2.2.2.2.2.2.1 e he) (C.2.2.2.2.1 _ f1) ⟨f7.1, f7.2, f8⟩ hfr, C.2.2.2.2.1 _ (f3 hk0), C.2.2.2.2.1 _ (f5 hk0 hk1)⟩ hpre rfl (by rw [List.length_map]; exact hlen) hL.1 hst (am_cat8 hcs) hd ⟨by omega, by omega⟩) hl fin
theorem ar_callI {k x d a : Nat} {vs : List Value} {r : Option Value} (C : am_C p s m args meth c cc nL own ini D Ac b st HB zS zu) (hd : decode cc pc = .ok (.invokespecial k, 3)) (h0 : 0 < x) (h328 : x < 328) (hk1 : (am_mp x).2.2.2.1 = 1) (hlen : vs.length = am_np x) (hlk : am_lnk own k x = true) (hcs : am_cs stk ≤ 8)
    (hM : Met l (am_my x) (am_ws x) (am_rm d (M1.1 - M.1) (M1.2.1 - M.2.1)) (am_Pc D Ac b st HB zS zu (.ref a :: vs) M) (am_Qc D Ac b st HB zS zu r M1) (M1.1 - M.1) (M1.2.1 - M.2.1) (fun q => b ≤ q))
    (hR : d + 2 ≤ R.frames ∧ 100 * d + 200 ≤ R.locals) (hn : n0 ≤ M.1 ∧ t0 ≤ M.2.1 ∧ M.1 ≤ M1.1 ∧ M.2.1 ≤ M1.2.1) (hr : M1.1 - n0 ≤ R.cells ∧ M1.2.1 - t0 ≤ R.slots)
    (kk : am_G p l e R s m args below meth c Q D Ac b st HB zS zu nL n0 t0 (pc + 3) loc (r.toList ++ stk) M1) : am_G p l e R s m args below meth c Q D Ac b st HB zS zu nL n0 t0 pc loc (vs.reverse ++ .ref a :: stk) M := by
  intro H locs ls hRp hL hl
  obtain ⟨f1, f2, f3, f4, f5, f6, f7, f8, f9, f10, f11⟩ := am_mfacts h0 h328
  have hfr : (am_rm d (M1.1 - M.1) (M1.2.1 - M.2.1)).frames + 1 ≤ R.frames ∧ 8 + (am_mx x + 11) + (am_rm d (M1.1 - M.1) (M1.2.1 - M.2.1)).locals ≤ R.locals := ⟨hR.1, by show 8 + (am_mx x + 11) + (100 * d + 100) ≤ _; omega⟩
  have hpre : PreS s H (am_Pc D Ac b st HB zS zu (.ref a :: vs) M) (.ref (am_ad b st a) :: vs.map (am_cv b st)) := ⟨am_blind _ M, fun U hU hW => ⟨rfl, C.2.2.2.2.2.1.warm hW, by rw [hU]; exact hRp⟩⟩
  have hst : (F0 m pc ls ((vs.reverse ++ .ref a :: stk).map (am_cv b st))).stack = (vs.map (am_cv b st)).reverse ++ .ref (am_ad b st a) :: stk.map (am_cv b st) := by
    show (vs.reverse ++ .ref a :: stk).map (am_cv b st) = _
    rw [List.map_append, List.map_reverse]
    rfl
  have fin : ∀ (H1 : Heap) (locs1 : List Loc), am_Rp D Ac b st HB zS zu M1 H1 → (∀ q ∈ locs1, b ≤ q.base) → W p l e R s m args below meth c H1 locs1 (M.1 - n0 + (M1.1 - M.1)) (M.2.1 - t0 + (M1.2.1 - M.2.1)) Q (F0 m (pc + 3) ls ((r.map (am_cv b st)).toList ++ stk.map (am_cv b st))) := by
    intro H1 locs1 g1 g2
    have := kk H1 locs1 ls g1 hL g2
    rw [show M.1 - n0 + (M1.1 - M.1) = M1.1 - n0 by omega, show M.2.1 - t0 + (M1.2.1 - M.2.1) = M1.2.1 - t0 by omega]
    rw [List.map_append] at this
    rw [show (r.map (am_cv b st)).toList = r.toList.map (am_cv b st) by cases r <;> rfl]
    exact this
  have hret : am_mr x = none := (f4 hk1).2
  have hk0 : (am_mp x).2.2.2.1 ≠ 0 := by omega
  have hws : am_ws x = Cond.code (am_my x) (am_mc x) (am_mx x) none :: am_T := by unfold am_ws; rw [hret]
  rcases am_mem_lnk C.2.2.2.2.2.2.2.2.1 hlk with hw | ⟨e, he, rfl, rfl⟩
  · exact am_after (va_runI (Ts := am_T) (own := am_CN own) (ws := am_ws x) ⟨C.1, C.2.1, C.2.2.1, C.2.2.2.1, C.2.2.2.2.1⟩ hM ⟨callB_of (am_np x) C.2.2.2.2.1 (am_ws_in h0 h328) hws rfl rfl (C.2.2.2.2.1 _ f1) (C.2.2.2.2.1 _ hw) ⟨f7.1, f7.2, f8⟩ hfr, (f4 hk1).1, C.2.2.2.2.1 _ (f3 hk0)⟩ hpre rfl (by rw [List.length_map]; exact hlen) hL.1 hst (am_cat8 hcs) hd ⟨by omega, by omega⟩) hl fin
  · exact am_after (va_runIN (Ts := am_T) (own := am_CN own) (ws := am_ws e.2.1) ⟨C.1, C.2.1, C.2.2.1, C.2.2.2.1, C.2.2.2.2.1⟩ hM ⟨va_cnB (am_np e.2.1) C.2.2.2.2.1 (am_ws_in h0 h328) hws rfl rfl (C.2.2.2.2.2.1.2.1 own C.2.2.2.2.2.2.2.2.1 e he) (C.2.2.2.2.1 _ f1) ⟨f7.1, f7.2, f8⟩ hfr, (f4 hk1).1, C.2.2.2.2.1 _ (f3 hk0)⟩ hpre rfl (by rw [List.length_map]; exact hlen) hL.1 hst (am_cat8 hcs) hd ⟨by omega, by omega⟩) hl fin
end CALL
