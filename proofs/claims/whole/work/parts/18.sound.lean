theorem am_cl_spec {stk : List Value} {n : Nat} {q : List Value × List Value} (h : am_cl stk n = some q) : stk = q.1.reverse ++ q.2 ∧ q.1.length = n ∧ am_cs q.2 ≤ 8 := by
  unfold am_cl at h
  split at h
  · rename_i hc
    cases h
    refine ⟨?_, ?_, hc.2⟩
    · rw [List.reverse_reverse, List.take_append_drop]
    · rw [List.length_reverse, List.length_take]
      exact Nat.min_eq_left hc.1
  · cases h
theorem am_act_mono {m : Nat} {o : am_op} {rest : List am_op} {loc : am_L} {stk : List Value} {M : am_M} {q : List am_op × am_L × List Value × am_M} (h : am_act m o rest loc stk M = some (.inl q)) : M.1 ≤ q.2.2.2.1 ∧ M.2.1 ≤ q.2.2.2.2.1 := by
  have key : ∀ {i : Instr} {x y : Nat} {z : Int}, (am_ex i x y z loc stk M).bind (fun q => some (Sum.inl (rest, q.1, q.2.1, q.2.2) : am_Act)) = some (.inl q) → M.1 ≤ q.2.2.2.1 ∧ M.2.1 ≤ q.2.2.2.2.1 := by
    intro i x y z hb
    obtain ⟨w, h1, h2⟩ := Option.bind_eq_some_iff.mp hb
    cases h2
    exact am_ex_mono h1
  unfold am_act at h
  split at h
  case h_1 => cases h; exact ⟨Nat.le_refl _, Nat.le_refl _⟩
  case h_2 => cases h; exact ⟨Nat.le_refl _, Nat.le_refl _⟩
  case h_3 =>
    split at h
    · cases h; exact ⟨Nat.le_refl _, Nat.le_refl _⟩
    · cases h
  case h_4 =>
    split at h
    · cases h; exact ⟨Nat.le_refl _, Nat.le_refl _⟩
    · cases h
  case h_5 =>
    split at h
    · cases h; exact ⟨Nat.le_refl _, Nat.le_refl _⟩
    · cases h
  case h_6 =>
    split at h
    · cases h; exact ⟨Nat.le_refl _, Nat.le_refl _⟩
    · cases h
  case h_7 =>
    split at h
    · split at h <;> cases h
    · cases h
  case h_8 => split at h <;> cases h
  case h_9 => split at h <;> cases h
  case h_10 => split at h <;> cases h
  case h_11 =>
    split at h
    · obtain ⟨w, -, h2⟩ := Option.bind_eq_some_iff.mp h
      split at h2 <;> cases h2
    · exact key h
  case h_12 =>
    split at h
    · obtain ⟨w, -, h2⟩ := Option.bind_eq_some_iff.mp h
      split at h2
      · split at h2 <;> cases h2
      · cases h2
    · exact key h
  case h_13 =>
    split at h
    · obtain ⟨w, -, h2⟩ := Option.bind_eq_some_iff.mp h
      split at h2
      · split at h2 <;> cases h2
      · cases h2
    · exact key h
  case h_14 => exact key h
theorem am_act_ret {m : Nat} {o : am_op} {rest : List am_op} {loc : am_L} {stk : List Value} {M : am_M} {q : Option Value × am_M} (h : am_act m o rest loc stk M = some (.inr (.inl q))) : q.2 = M := by
  have key : ∀ {i : Instr} {x y : Nat} {z : Int}, (am_ex i x y z loc stk M).bind (fun q => some (Sum.inl (rest, q.1, q.2.1, q.2.2) : am_Act)) = some (.inr (.inl q)) → q.2 = M := by
    intro i x y z hb
    obtain ⟨w, h1, h2⟩ := Option.bind_eq_some_iff.mp hb
    cases h2
  unfold am_act at h
  split at h
  case h_1 => cases h
  case h_2 => cases h
  case h_3 => split at h <;> cases h
  case h_4 => split at h <;> cases h
  case h_5 => split at h <;> cases h
  case h_6 => split at h <;> cases h
  case h_7 =>
    split at h
    · split at h
      · cases h; rfl
      · cases h
    · cases h
  case h_8 =>
    split at h
    · cases h; rfl
    · cases h
  case h_9 =>
    split at h
    · cases h; rfl
    · cases h
  case h_10 =>
    split at h
    · cases h; rfl
    · cases h
  case h_11 =>
    split at h
    · obtain ⟨w, -, h2⟩ := Option.bind_eq_some_iff.mp h
      split at h2 <;> cases h2
    · exact key h
  case h_12 =>
    split at h
    · obtain ⟨w, -, h2⟩ := Option.bind_eq_some_iff.mp h
      split at h2
      · split at h2 <;> cases h2
      · cases h2
    · exact key h
  case h_13 =>
    split at h
    · obtain ⟨w, -, h2⟩ := Option.bind_eq_some_iff.mp h
      split at h2
      · split at h2 <;> cases h2
      · cases h2
    · exact key h
  case h_14 => exact key h
theorem am_rf_mono : ∀ (n d m : Nat) (ops : List am_op) (loc : am_L) (stk : List Value) (M : am_M) (r : Option Value × am_M), am_rf n d m ops loc stk M = some r → M.1 ≤ r.2.1 ∧ M.2.1 ≤ r.2.2.1
  | 0, _, _, _, _, _, _, _, h => by cases h
  | n + 1, d, m, ops, loc, stk, M, r, h => by
    have h' : am_F (am_rf n) d m ops loc stk M = some r := h
    unfold am_F at h'
    cases ops with
    | nil => cases h'
    | cons o rest =>
      dsimp only at h'
      cases ha : am_act m o rest loc stk M with
      | none => rw [ha] at h'; cases h'
      | some q =>
        rw [ha] at h'
        rcases q with q | q | q
        · have h1 := am_act_mono ha
          have h2 := am_rf_mono n _ _ _ _ _ _ _ h'
          exact ⟨Nat.le_trans h1.1 h2.1, Nat.le_trans h1.2 h2.2⟩
        · cases h'
          rw [am_act_ret ha]
          exact ⟨Nat.le_refl _, Nat.le_refl _⟩
        · cases d with
          | zero => cases h'
          | succ d' =>
            dsimp only at h'
            obtain ⟨w, h1, h2⟩ := Option.bind_eq_some_iff.mp h'
            have g1 := am_rf_mono n _ _ _ _ _ _ _ h1
            have g2 := am_rf_mono n _ _ _ _ _ _ _ h2
            exact ⟨Nat.le_trans g1.1 g2.1, Nat.le_trans g1.2 g2.2⟩
def am_isret (cc : ByteArray) (ret : Option FieldType) (pc : Nat) (r : Option Value) : Prop :=
  (∃ v ty, r = some (.int v) ∧ decode cc pc = .ok (.ireturn, 1) ∧ ret = some ty ∧ narrow ty (.int v) = .int v) ∨ (∃ v, r = some (.long v) ∧ decode cc pc = .ok (.lreturn, 1) ∧ ret = some .long) ∨
  (∃ a C, r = some (.ref a) ∧ decode cc pc = .ok (.areturn, 1) ∧ ret = some (.object C)) ∨ (r = none ∧ decode cc pc = .ok (.return_, 1) ∧ ret = none)
/-- what is owed of the steps that read what was there before -/
def am_SO (l : Launch) (D : va_G) (Ac : Nat → ClassId) (b : Nat) (st : Nat → Nat) (HB : Heap) (zS : Nat → Nat × Nat) (zu : Nat → Nat → Int32) : Prop :=
  ∀ (p : Program) (e : Env) (R : Room) (s : State) (m : MethodId) (args : Array Value) (below : List Frame) (meth : Method) (c : Code) (Q : State → Prop) (nL n0 t0 own : Nat) (ini : Bool) (cc : ByteArray) (pc : Nat) (loc loc1 : am_L) (stk stk1 : List Value) (M M1 : am_M) (i : Instr) (x y : Nat) (z : Int),
    am_C p s m args meth c cc nL own ini D Ac b st HB zS zu → decode cc pc = .ok (i, am_ln i) → am_ckx own ini (i, x, y, z) = true → am_stat (i, x, y, z) = true → am_ex i x y z loc stk M = some (loc1, stk1, M1) → n0 ≤ M.1 → t0 ≤ M.2.1 → (M1.1 - n0 ≤ R.cells ∧ M1.2.1 - t0 ≤ R.slots) → (1 ≤ R.frames ∧ 80 ≤ R.locals) →
    am_G p l e R s m args below meth c Q D Ac b st HB zS zu nL n0 t0 (pc + am_ln i) loc1 stk1 M1 → am_G p l e R s m args below meth c Q D Ac b st HB zS zu nL n0 t0 pc loc stk M
def am_Prog : Prop := ∀ m, m < 328 → ∀ L, am_chk m L (am_B m L) = true
theorem am_slots_args : ∀ (vs : List Value) (b : Nat) (st : Nat → Nat) (i j : Nat) (v : Value), (am_slots vs)[j]? = some (some v) → (i + j, am_cv b st v) ∈ lv_args i (vs.map (am_cv b st))
  | [], b, st, i, j, v, h => by simp [am_slots] at h
  | w :: vs, b, st, i, j, v, h => by
    unfold am_slots at h
    have hc : (am_cv b st w).category = w.category := am_cv_cat b st w
    rw [List.map_cons]
    unfold lv_args
    by_cases hw : w.category = 2
    · rw [if_pos hw] at h
      match j, h with
      | 0, h => simp at h; subst h; exact List.mem_cons_self
      | 1, h => simp at h
      | j + 2, h =>
        simp only [List.getElem?_cons_succ] at h
        have := am_slots_args vs b st (i + 2) j v h
        rw [hc, if_pos hw]
        rw [show i + (j + 2) = i + 2 + j by omega]
        exact List.mem_cons_of_mem _ this
    · rw [if_neg hw] at h
      match j, h with
      | 0, h => simp at h; subst h; exact List.mem_cons_self
      | j + 1, h =>
        simp only [List.getElem?_cons_succ] at h
        have := am_slots_args vs b st (i + 1) j v h
        rw [hc, if_neg hw]
        rw [show i + (j + 1) = i + 1 + j by omega]
        exact List.mem_cons_of_mem _ this
theorem am_slots_len (b : Nat) (st : Nat → Nat) : ∀ vs : List Value, (lg_sl (vs.map (am_cv b st))).length = (am_slots vs).length
  | [] => rfl
  | w :: vs => by
    have ih := am_slots_len b st vs
    have hc : (am_cv b st w).category = w.category := am_cv_cat b st w
    unfold am_slots
    rw [List.map_cons]
    unfold lg_sl at ih ⊢
    rw [List.flatMap_cons, List.length_append, ih, hc]
    by_cases hw : w.category = 2
    · rw [if_pos hw, if_pos hw]; simp; omega
    · rw [if_neg hw, if_neg hw]; simp; omega
theorem am_LS_init (b : Nat) (st : Nat → Nat) (vs : List Value) {n : Nat} (h : (am_slots vs).length ≤ n) : am_LS b st ((lg_sl (vs.map (am_cv b st)) ++ List.replicate (n - (lg_sl (vs.map (am_cv b st))).length) Slot.unset).toArray) n (am_init n vs) := by
  have hE := lv_entry (vs.map (am_cv b st)) (n := n) (by rw [am_slots_len]; exact h)
  refine ⟨hE.1, ?_, hE.2.1, fun i v hi => ?_⟩
  · unfold am_init; simp; omega
  · unfold am_init at hi
    by_cases hl : i < (am_slots vs).length
    · rw [List.getElem?_append_left hl] at hi
      have := am_slots_args vs b st 0 i v hi
      rw [Nat.zero_add] at this
      exact hE.2.2 _ this
    · rw [List.getElem?_append_right (by omega)] at hi
      have := List.mem_of_getElem? hi
      rw [List.mem_replicate] at this
      cases this.2
theorem am_cs_slots : ∀ vs : List Value, (am_slots vs).length = am_cs vs
  | [] => rfl
  | v :: vs => by
    have ih := am_cs_slots vs
    cases v <;> simp [am_slots, am_cs, Value.category] <;> omega
def am_cal (n d mid : Nat) (rest : List am_op) (loc : am_L) (M : am_M) (q : Nat × List Value × List Value) : am_R := match d with
  | 0 => none
  | d' + 1 => (am_rf n d' q.1 (am_B q.1 0) (am_init (am_mx q.1) q.2.1) [] M).bind (fun w => am_rf n (d' + 1) mid rest loc (w.1.toList ++ q.2.2) w.2)
def am_do (n d mid : Nat) (rest : List am_op) (loc : am_L) (M : am_M) (a : am_Act) : am_R := match a with
  | .inl q => am_rf n d mid q.1 q.2.1 q.2.2.1 q.2.2.2
  | .inr (.inl q) => some q
  | .inr (.inr q) => am_cal n d mid rest loc M q
theorem am_rf_inv {n d mid : Nat} {o : am_op} {rest : List am_op} {loc : am_L} {stk : List Value} {M : am_M} {r : Option Value × am_M} (h : am_rf (n + 1) d mid (o :: rest) loc stk M = some r) : ∃ a, am_act mid o rest loc stk M = some a ∧ am_do n d mid rest loc M a = some r := by
  have h' : am_F (am_rf n) d mid (o :: rest) loc stk M = some r := h
  unfold am_F at h'
  dsimp only at h'
  cases ha : am_act mid o rest loc stk M with
  | none => rw [ha] at h'; cases h'
  | some q =>
    rw [ha] at h'
    refine ⟨q, rfl, ?_⟩
    rcases q with q | q | q
    · exact h'
    · exact h'
    · cases d <;> exact h'
theorem am_cal_inv {n d mid : Nat} {rest : List am_op} {loc : am_L} {M : am_M} {q : Nat × List Value × List Value} {r : Option Value × am_M} (h : am_cal n d mid rest loc M q = some r) : ∃ d' r1 M1, d = d' + 1 ∧ am_rf n d' q.1 (am_B q.1 0) (am_init (am_mx q.1) q.2.1) [] M = some (r1, M1) ∧ am_rf n (d' + 1) mid rest loc (r1.toList ++ q.2.2) M1 = some r := by
  unfold am_cal at h
  cases d with
  | zero => cases h
  | succ d' =>
    dsimp only at h
    obtain ⟨⟨r1, M1⟩, h1, h2⟩ := Option.bind_eq_some_iff.mp h
    exact ⟨d', r1, M1, rfl, h1, h2⟩
section AINV
variable {m x y : Nat} {z : Int} {rest : List am_op} {loc : am_L} {stk : List Value} {M : am_M} {a : am_Act}
theorem ai_if0 {cd : Jvm.ClassFile.Cond} {off : Int} (h : am_act m (.ifCond cd off, x, y, z) rest loc stk M = some a) : ∃ v st, stk = .int v :: st ∧ a = .inl (if am_if0 cd v then am_B m x else rest, loc, st, M) := by
  unfold am_act at h
  dsimp only at h
  split at h
  · cases h; exact ⟨_, _, rfl, rfl⟩
  · cases h
theorem ai_if2 {cd : Jvm.ClassFile.Cond} {off : Int} (h : am_act m (.if_icmp cd off, x, y, z) rest loc stk M = some a) : ∃ v w st, stk = .int w :: .int v :: st ∧ a = .inl (if am_if2 cd v w then am_B m x else rest, loc, st, M) := by
  unfold am_act at h
  dsimp only at h
  split at h
  · cases h; exact ⟨_, _, _, rfl, rfl⟩
  · cases h
theorem ai_tsw {dd lo hi : Int} {offs : Array Int} (h : am_act m (.tableswitch dd lo hi offs, x, y, z) rest loc stk M = some a) : ∃ v st, stk = .int v :: st ∧ a = .inl (am_B m (am_swt (am_sw m y) x v.toInt), loc, st, M) := by
  unfold am_act at h
  dsimp only at h
  split at h
  · cases h; exact ⟨_, _, rfl, rfl⟩
  · cases h
theorem ai_lsw {dd : Int} {ps : Array (Int × Int)} (h : am_act m (.lookupswitch dd ps, x, y, z) rest loc stk M = some a) : ∃ v st, stk = .int v :: st ∧ a = .inl (am_B m (am_swt (am_sw m y) x v.toInt), loc, st, M) := by
  unfold am_act at h
  dsimp only at h
  split at h
  · cases h; exact ⟨_, _, rfl, rfl⟩
  · cases h
theorem ai_iret (h : am_act m (.ireturn, x, y, z) rest loc stk M = some a) : ∃ v, stk = [.int v] ∧ am_rk y v = true ∧ a = .inr (.inl (some (.int v), M)) := by
  unfold am_act at h
  dsimp only at h
  split at h
  · split at h
    · rename_i hk; cases h; exact ⟨_, rfl, hk, rfl⟩
    · cases h
  · cases h
theorem ai_lret (h : am_act m (.lreturn, x, y, z) rest loc stk M = some a) : ∃ v, stk = [.long v] ∧ a = .inr (.inl (some (.long v), M)) := by
  unfold am_act at h
  dsimp only at h
  split at h
  · cases h; exact ⟨_, rfl, rfl⟩
  · cases h
theorem ai_aret (h : am_act m (.areturn, x, y, z) rest loc stk M = some a) : ∃ v, stk = [.ref v] ∧ a = .inr (.inl (some (.ref v), M)) := by
  unfold am_act at h
  dsimp only at h
  split at h
  · cases h; exact ⟨_, rfl, rfl⟩
  · cases h
theorem ai_vret (h : am_act m (.return_, x, y, z) rest loc stk M = some a) : stk = [] ∧ a = .inr (.inl (none, M)) := by
  unfold am_act at h
  dsimp only at h
  split at h
  · cases h; exact ⟨rfl, rfl⟩
  · cases h
theorem ai_cs {k : Nat} (hx : x < 900) (h : am_act m (.invokestatic k, x, y, z) rest loc stk M = some a) : ∃ vs st, stk = vs.reverse ++ st ∧ vs.length = y ∧ am_cs st ≤ 8 ∧ am_cs vs ≤ am_mx x ∧ a = .inr (.inr (x, vs, st)) := by
  unfold am_act at h
  dsimp only at h
  rw [if_pos hx] at h
  obtain ⟨⟨vs, st⟩, h1, h2⟩ := Option.bind_eq_some_iff.mp h
  obtain ⟨e1, e2, e3⟩ := am_cl_spec h1
  dsimp only at e1 e2 e3 h2
  split at h2
  · rename_i hm; cases h2; exact ⟨vs, st, e1, e2, e3, hm, rfl⟩
  · cases h2
theorem ai_cv {k : Nat} (hx : x < 900) (h : am_act m (.invokevirtual k, x, y, z) rest loc stk M = some a) : ∃ q vs st, stk = vs.reverse ++ .ref q :: st ∧ vs.length + 1 = y ∧ am_cs st ≤ 8 ∧ am_cs (.ref q :: vs) ≤ am_mx x ∧ M.2.2.1 q = (z.toNat, 0) ∧ a = .inr (.inr (x, .ref q :: vs, st)) := by
  unfold am_act at h
  dsimp only at h
  rw [if_pos hx] at h
  obtain ⟨⟨vs, st⟩, h1, h2⟩ := Option.bind_eq_some_iff.mp h
  obtain ⟨e1, e2, e3⟩ := am_cl_spec h1
  dsimp only at e1 e2 e3 h2
  split at h2
  · rename_i q vs'
    split at h2
    · rename_i hm; cases h2; exact ⟨q, vs', st, by rw [e1]; simp, by simpa using e2, e3, hm.2, hm.1, rfl⟩
    · cases h2
  · cases h2
theorem ai_ci {k : Nat} (hx : x < 900) (h : am_act m (.invokespecial k, x, y, z) rest loc stk M = some a) : ∃ q vs st, stk = vs.reverse ++ .ref q :: st ∧ vs.length + 1 = y ∧ am_cs st ≤ 8 ∧ am_cs (.ref q :: vs) ≤ am_mx x ∧ M.2.2.1 q = (z.toNat, 0) ∧ a = .inr (.inr (x, .ref q :: vs, st)) := by
  unfold am_act at h
  dsimp only at h
  rw [if_pos hx] at h
  obtain ⟨⟨vs, st⟩, h1, h2⟩ := Option.bind_eq_some_iff.mp h
  obtain ⟨e1, e2, e3⟩ := am_cl_spec h1
  dsimp only at e1 e2 e3 h2
  split at h2
  · rename_i q vs'
    split at h2
    · rename_i hm; cases h2; exact ⟨q, vs', st, by rw [e1]; simp, by simpa using e2, e3, hm.2, hm.1, rfl⟩
    · cases h2
  · cases h2
end AINV
