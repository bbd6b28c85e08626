/-! the same over what the program has of statics and Strings -/
def am_sok (own : Nat) (o : am_op) : Bool := match o.1 with
  | .getstatic k => (decide (own = am_mo 259) && decide (o.2.2.2 = 3)) && ((decide (k = 90) && decide (o.2.2.1 = 0)) || (decide (k = 93) && decide (o.2.2.1 = 1)))
  | .ldc k => decide (o.2.1 = 0) || (decide (own = am_mo 299) && ((decide (k = 56) && decide (o.2.2.1 = 10)) || (decide (k = 72) && decide (o.2.2.1 = 11))))
  | .invokevirtual k => decide (o.2.1 < 900) || (decide (own = am_mo 299) && ((decide (k = 58) && decide (o.2.1 = 910)) || ((decide (k = 62) && decide (o.2.1 = 911)) || (decide (k = 74) && decide (o.2.1 = 912)))))
  | _ => true
theorem am_sk_all : ((List.range 328).all fun m => (am_tab m).all fun q => q.2.all (am_sok (am_mo m))) = true := by decide +kernel
theorem am_sk {m : Nat} (h : m < 328) (L : Nat) : ∀ o ∈ am_B m L, am_sok (am_mo m) o = true := by
  have a := List.all_eq_true.mp am_sk_all m (List.mem_range.mpr h)
  unfold am_B
  cases hq : (am_tab m).find? (fun q => q.1 == L) with
  | none => intro o ho; exact absurd ho (List.not_mem_nil)
  | some q =>
    intro o ho
    exact List.all_eq_true.mp (List.all_eq_true.mp a q (List.mem_of_find?_eq_some hq)) o ho
def am_SO2 (l : Launch) (D : va_G) (Ac : Nat → ClassId) (b : Nat) (st : Nat → Nat) (HB : Heap) (zS : Nat → Nat × Nat) (zu : Nat → Nat → Int32) : Prop :=
  ∀ (p : Program) (e : Jvm.Env) (R : Room) (s : State) (m : MethodId) (args : Array Value) (below : List Frame) (meth : Method) (c : Code) (Q : State → Prop) (nL n0 t0 own : Nat) (ini : Bool) (cc : ByteArray) (pc : Nat) (loc loc1 : am_L) (stk stk1 : List Value) (M M1 : am_M) (i : Instr) (x y : Nat) (z : Int),
    am_C p s m args meth c cc nL own ini D Ac b st HB zS zu → decode cc pc = .ok (i, am_ln i) → am_ckx own ini (i, x, y, z) = true → am_sok own (i, x, y, z) = true → am_stat (i, x, y, z) = true → am_ex i x y z loc stk M = some (loc1, stk1, M1) → n0 ≤ M.1 → t0 ≤ M.2.1 → (M1.1 - n0 ≤ R.cells ∧ M1.2.1 - t0 ≤ R.slots) → (41 ≤ R.frames ∧ 4100 ≤ R.locals) →
    am_G p l e R s m args below meth c Q D Ac b st HB zS zu nL n0 t0 (pc + am_ln i) loc1 stk1 M1 → am_G p l e R s m args below meth c Q D Ac b st HB zS zu nL n0 t0 pc loc stk M
set_option maxHeartbeats 8000000 in
theorem am_main2 (l : Launch) (D : va_G) (Ac : Nat → ClassId) (b : Nat) (st : Nat → Nat) (HB : Heap) (zS : Nat → Nat × Nat) (zu : Nat → Nat → Int32) (hSO : am_SO2 l D Ac b st HB zS zu) (hP : am_Prog) :
    ∀ (n d mid : Nat) (ops : List am_op) (loc : am_L) (stk : List Value) (M : am_M) (r : Option Value) (M' : am_M), am_rf n d mid ops loc stk M = some (r, M') → mid < 328 → (∀ o ∈ ops, am_sok (am_mo mid) o = true) →
    ∀ (p : Program) (e : Jvm.Env) (R : Room) (s : State) (m : MethodId) (args : Array Value) (below : List Frame) (meth : Method) (c : Code) (Q : State → Prop) (n0 t0 : Nat), am_C p s m args meth c (am_mc mid) (am_mx mid) (am_mo mid) (am_ini mid) D Ac b st HB zS zu →
    (d + 41 ≤ R.frames ∧ 100 * d + 4100 ≤ R.locals) → n0 ≤ M.1 → t0 ≤ M.2.1 → (M'.1 - n0 ≤ R.cells ∧ M'.2.1 - t0 ≤ R.slots) →
    (∀ (pc : Nat) (H : Heap) (locs : List Loc) (ls : Array Slot), am_Rp D Ac b st HB zS zu M' H → (∀ q ∈ locs, b ≤ q.base) → am_isret (am_mc mid) (am_mr mid) pc r → W p l e R s m args below meth c H locs (M'.1 - n0) (M'.2.1 - t0) Q (F0 m pc ls (r.map (am_cv b st)).toList)) →
    ∀ pc, am_chk mid pc ops = true → am_G p l e R s m args below meth c Q D Ac b st HB zS zu (am_mx mid) n0 t0 pc loc stk M := by
  intro n
  induction n with
  | zero => intro d mid ops loc stk M r M' h; cases h
  | succ n ih =>
    intro d mid ops loc stk M r M' h hmid hsk p e R s m args below meth c Q n0 t0 C hroom hn0 ht0 hcap hQ pc hchk
    cases ops with
    | nil => cases h
    | cons o rest =>
      obtain ⟨i, x, y, z⟩ := o
      obtain ⟨act, hact, h'⟩ := am_rf_inv h
      have hsr : ∀ o ∈ rest, am_sok (am_mo mid) o = true := fun o ho => hsk o (List.mem_cons_of_mem _ ho)
      have hso := hsk (i, x, y, z) (List.mem_cons_self ..)
      -- going on within the method
      have goes : ∀ (pc1 : Nat) (ops1 : List am_op) (loc1 : am_L) (stk1 : List Value) (M1 : am_M), am_rf n d mid ops1 loc1 stk1 M1 = some (r, M') → (∀ o ∈ ops1, am_sok (am_mo mid) o = true) → n0 ≤ M1.1 → t0 ≤ M1.2.1 → am_chk mid pc1 ops1 = true → am_G p l e R s m args below meth c Q D Ac b st HB zS zu (am_mx mid) n0 t0 pc1 loc1 stk1 M1 :=
        fun pc1 ops1 loc1 stk1 M1 g1 gs g2 g3 g4 => ih d mid ops1 loc1 stk1 M1 r M' g1 hmid gs p e R s m args below meth c Q n0 t0 C hroom g2 g3 hcap hQ pc1 g4
      -- a callee's contract
      have met : ∀ (d' x : Nat) (vs : List Value) (r1 : Option Value) (M1 : am_M), am_rf n d' x (am_B x 0) (am_init (am_mx x) vs) [] M = some (r1, M1) → 0 < x → x < 328 → am_cs vs ≤ am_mx x →
          Met l (am_my x) (am_ws x) (am_rm (d' + 40) (M1.1 - M.1) (M1.2.1 - M.2.1)) (am_Pc D Ac b st HB zS zu vs M) (am_Qc D Ac b st HB zS zu r1 M1) (M1.1 - M.1) (M1.2.1 - M.2.1) (fun q => b ≤ q) := by
        intro d' x vs r1 M1 g1 hx0 hx hcs
        obtain ⟨f1, f2, f3, f4, f5, f6, f7, f8, f9, f10, f11⟩ := am_mfacts hx0 hx
        refine Met.ofW (cc := am_mc x) (maxL := am_mx x) (ret := am_mr x) f10 rfl ?_
        intro p2 e2 s2 m2 args2 below2 meth2 c2 s3 B hml hPc
        obtain ⟨rfl, hK2, hR2⟩ := hPc
        have hts : ∀ w ∈ am_ws x, w.before (vs.map (am_cv b st)).toArray s2 = true := atoms_spec (ws := am_ws x) B.pre
        have hnm := name_of_methodNamed B.named B.method
        have C2 : am_C p2 s2 m2 (vs.map (am_cv b st)).toArray meth2 c2 (am_mc x) (am_mx x) (am_mo x) (am_ini x) D Ac b st HB zS zu :=
          ⟨B.exec, B.bytes, hml, by rw [← f6]; exact findClass_of_methodNamed B.named, fun w hw => hts w (List.mem_cons_of_mem _ hw), hK2, B.notSynchronized, fun hi => hnm.1.trans (of_decide_eq_true hi), f11, C.2.2.2.2.2.2.2.2.2⟩
        rw [lg_entry_eq]
        have hG := ih d' x (am_B x 0) (am_init (am_mx x) vs) [] M r1 M1 g1 hx (am_sk hx 0) p2 e2 (am_rm (d' + 40) (M1.1 - M.1) (M1.2.1 - M.2.1)) s2 m2 (vs.map (am_cv b st)).toArray below2 meth2 c2 (MQ below2 (am_Qc D Ac b st HB zS zu r1 M1) (vs.map (am_cv b st)).toArray s2 (M1.1 - M.1) (M1.2.1 - M.2.1) (fun q => b ≤ q)) M.1 M.2.1 C2
          ⟨Nat.le_refl _, Nat.le_refl _⟩ (Nat.le_refl _) (Nat.le_refl _) ⟨Nat.le_refl _, Nat.le_refl _⟩ ?_ 0 (hP x hx 0)
        · have := hG s2.heap [] _ hR2 (am_LS_init b st vs (n := am_mx x) (by rw [am_cs_slots]; exact hcs)) (fun q hq => by cases hq)
          rw [Nat.sub_self, Nat.sub_self] at this
          exact this
        · intro pc1 H1 locs1 ls1 hR1 hl1 hret
          have hq : ∀ t : State, t.heap = H1 → s2.WarmedH t.vm → am_Qc D Ac b st HB zS zu r1 M1 (vs.map (am_cv b st)).toArray s2 (.returned (r1.map (am_cv b st))) t := fun t ht _ => ⟨rfl, by rw [ht]; exact hR1⟩
          rcases hret with ⟨v, ty, rfl, k1, k2, k3⟩ | ⟨v, rfl, k1, k2⟩ | ⟨a, Cn, rfl, k1, k2⟩ | ⟨rfl, k1, k2⟩
          · exact W.zret C2.1 C2.2.1 (B.returns.trans k2) k3 hq hl1 k1 C2.2.2.2.2.2.2.1
          · exact W.lret C2.1 C2.2.1 (B.returns.trans k2) hq hl1 k1 C2.2.2.2.2.2.2.1
          · exact W.aret C2.1 C2.2.1 (B.returns.trans k2) (Or.inl ⟨_, rfl⟩) (Or.inr ⟨_, rfl⟩) hq hl1 k1 C2.2.2.2.2.2.2.1
          · exact W.vret C2.1 C2.2.1 (B.returns.trans k2) hq hl1 k1 C2.2.2.2.2.2.2.1
      have hcc : am_term i = false → am_ck1 mid pc (i, x, y, z) = true ∧ am_chk mid (pc + am_ln i) rest = true := by
        intro ht
        have := hchk
        simp only [am_chk, ht, Bool.false_and, Bool.false_or, Bool.not_false, Bool.true_and, Bool.and_eq_true] at this
        exact this
      have hct : am_term i = true → i ≠ .athrow → am_ck1 mid pc (i, x, y, z) = true := by
        intro ht hne
        have := hchk
        simp only [am_chk, ht, Bool.true_and, Bool.not_true, Bool.false_and, Bool.or_false] at this
        first
          | exact this
          | (split at this
             · rename_i heq; exact absurd heq hne
             · exact this)
      -- a straight step
      have straight : am_act mid (i, x, y, z) rest loc stk M = (am_ex i x y z loc stk M).bind (fun q => some (.inl (rest, q.1, q.2.1, q.2.2))) → am_ck1 mid pc (i, x, y, z) = (decide (decode (am_mc mid) pc = .ok (i, am_ln i)) && am_ckx (am_mo mid) (am_ini mid) (i, x, y, z)) → am_term i = false → am_G p l e R s m args below meth c Q D Ac b st HB zS zu (am_mx mid) n0 t0 pc loc stk M := by
        intro ha hck ht
        rw [ha] at hact
        cases hx : am_ex i x y z loc stk M with
        | none => rw [hx] at hact; cases hact
        | some q =>
          obtain ⟨loc1, stk1, M1⟩ := q
          rw [hx] at hact
          cases hact
          have h2 : am_rf n d mid rest loc1 stk1 M1 = some (r, M') := h'
          obtain ⟨hc1, hc2⟩ := hcc ht
          rw [hck] at hc1
          simp only [Bool.and_eq_true, decide_eq_true_eq] at hc1
          have hm := am_ex_mono hx
          have hm2 := am_rf_mono _ _ _ _ _ _ _ _ h2
          dsimp only at hm hm2
          have k := goes (pc + am_ln i) rest loc1 stk1 M1 h2 hsr (by omega) (by omega) hc2
          have hr1 : M1.1 - n0 ≤ R.cells ∧ M1.2.1 - t0 ≤ R.slots := ⟨by omega, by omega⟩
          have hf1 : 1 ≤ R.frames ∧ 80 ≤ R.locals := ⟨by omega, by omega⟩
          have hf2 : 41 ≤ R.frames ∧ 4100 ≤ R.locals := ⟨by omega, by omega⟩
          cases hs : am_stat (i, x, y, z) with
          | false => exact am_step C hc1.1 hc1.2 hs hx hn0 ht0 hr1 hf1 k
          | true => exact hSO p e R s m args below meth c Q (am_mx mid) n0 t0 (am_mo mid) (am_ini mid) (am_mc mid) pc loc loc1 stk stk1 M M1 i x y z C hc1.1 hc1.2 hso hs hx hn0 ht0 hr1 hf2 k
      cases i
      case nop =>
        have hc := hct rfl (by simp)
        simp only [am_ck1, decide_eq_true_eq] at hc
        subst hc
        cases hact
        exact goes pc (am_B mid pc) loc stk M h' (am_sk hmid _) hn0 ht0 (hP mid hmid pc)
      case goto off =>
        have hc := hct rfl (by simp)
        simp only [am_ck1, Bool.and_eq_true, decide_eq_true_eq] at hc
        cases hact
        exact ar_goto C hc.1 hc.2 (goes x (am_B mid x) loc stk M h' (am_sk hmid _) hn0 ht0 (hP mid hmid x))
      case ifCond cd off =>
        obtain ⟨hc, hc2⟩ := hcc rfl
        simp only [am_ck1, Bool.and_eq_true, decide_eq_true_eq] at hc
        obtain ⟨v, st0, rfl, rfl⟩ := ai_if0 hact
        have h2 : am_rf n d mid (if am_if0 cd v then am_B mid x else rest) loc st0 M = some (r, M') := h'
        refine ar_if0 C hc.1 hc.2 (fun hv => ?_) (fun hv => ?_)
        · rw [if_pos hv] at h2
          exact goes x (am_B mid x) loc st0 M h2 (am_sk hmid _) hn0 ht0 (hP mid hmid x)
        · rw [if_neg (by rw [hv]; decide)] at h2
          exact goes (pc + 3) rest loc st0 M h2 hsr hn0 ht0 hc2
      case if_icmp cd off =>
        obtain ⟨hc, hc2⟩ := hcc rfl
        simp only [am_ck1, Bool.and_eq_true, decide_eq_true_eq] at hc
        obtain ⟨v, w, st0, rfl, rfl⟩ := ai_if2 hact
        have h2 : am_rf n d mid (if am_if2 cd v w then am_B mid x else rest) loc st0 M = some (r, M') := h'
        refine ar_if2 C hc.1 hc.2 (fun hv => ?_) (fun hv => ?_)
        · rw [if_pos hv] at h2
          exact goes x (am_B mid x) loc st0 M h2 (am_sk hmid _) hn0 ht0 (hP mid hmid x)
        · rw [if_neg (by rw [hv]; decide)] at h2
          exact goes (pc + 3) rest loc st0 M h2 hsr hn0 ht0 hc2
      case tableswitch dd lo hi offs =>
        have hc := hct rfl (by simp)
        simp only [am_ck1, Bool.and_eq_true, decide_eq_true_eq] at hc
        obtain ⟨k1, k2, rfl, k4, k5⟩ := hc
        obtain ⟨len, hd⟩ := am_dec_of k1
        obtain ⟨v, st0, rfl, rfl⟩ := ai_tsw hact
        have k := goes _ _ loc st0 M h' (am_sk hmid _) hn0 ht0 (hP mid hmid _)
        obtain ⟨s1, s2⟩ := am_tck_spec (x := x) offs.toList lo (am_sw mid y) v.toInt k5
        intro H locs ls hR hL hl
        by_cases hin : v.toInt < lo ∨ hi < v.toInt
        · have e0 := s2 (by omega)
          rw [e0] at k
          exact lv_tableOut C.1 C.2.1 hd hin k2 (k H locs ls hR hL hl)
        · obtain ⟨o, g1, g2⟩ := s1 (by omega) (by omega)
          exact lv_tableIn C.1 C.2.1 hd (by omega) (by omega) (by rw [← Array.getElem?_toList]; exact g1) g2 (k H locs ls hR hL hl)
      case lookupswitch dd ps =>
        have hc := hct rfl (by simp)
        simp only [am_ck1, Bool.and_eq_true, decide_eq_true_eq] at hc
        obtain ⟨k1, k2, rfl, k4, k5⟩ := hc
        obtain ⟨len, hd⟩ := am_dec_of k1
        obtain ⟨v, st0, rfl, rfl⟩ := ai_lsw hact
        have k := goes _ _ loc st0 M h' (am_sk hmid _) hn0 ht0 (hP mid hmid _)
        intro H locs ls hR hL hl
        exact lv_lookup C.1 C.2.1 hd k4 rfl (am_lck_spec k2 ps.toList (am_sw mid y) v.toInt k5) (k H locs ls hR hL hl)
      case ireturn =>
        have hc := hct rfl (by simp)
        simp only [am_ck1, Bool.and_eq_true, decide_eq_true_eq] at hc
        obtain ⟨v, rfl, hk, rfl⟩ := ai_iret hact
        cases h'
        intro H locs ls hR hL hl
        refine hQ pc H locs ls hR hl (Or.inl ?_)
        rcases hc.2 with ⟨g1, g2⟩ | ⟨g1, g2⟩
        · exact ⟨v, .int, rfl, hc.1, g2, rfl⟩
        · refine ⟨v, .boolean, rfl, hc.1, g2, ?_⟩
          subst g1
          simp only [am_rk, show ¬ (1 : Nat) = 0 by decide, if_false, if_true, Bool.or_eq_true, decide_eq_true_eq] at hk
          rcases hk with hk | hk <;> rw [hk] <;> rfl
      case lreturn =>
        have hc := hct rfl (by simp)
        simp only [am_ck1, Bool.and_eq_true, decide_eq_true_eq] at hc
        obtain ⟨v, rfl, rfl⟩ := ai_lret hact
        cases h'
        intro H locs ls hR hL hl
        exact hQ pc H locs ls hR hl (Or.inr (Or.inl ⟨_, rfl, hc.1, hc.2⟩))
      case areturn =>
        have hc := hct rfl (by simp)
        simp only [am_ck1, Bool.and_eq_true, decide_eq_true_eq] at hc
        obtain ⟨v, rfl, rfl⟩ := ai_aret hact
        cases h'
        intro H locs ls hR hL hl
        have : ∃ Cn, am_mr mid = some (.object Cn) := by
          have h2 := hc.2
          split at h2
          · rename_i Cn hCn; exact ⟨Cn, hCn⟩
          · cases h2
        obtain ⟨Cn, hCn⟩ := this
        exact hQ pc H locs ls hR hl (Or.inr (Or.inr (Or.inl ⟨_, Cn, rfl, hc.1, hCn⟩)))
      case return_ =>
        have hc := hct rfl (by simp)
        simp only [am_ck1, Bool.and_eq_true, decide_eq_true_eq] at hc
        obtain ⟨rfl, rfl⟩ := ai_vret hact
        cases h'
        intro H locs ls hR hL hl
        exact hQ pc H locs ls hR hl (Or.inr (Or.inr (Or.inr ⟨rfl, hc.1, hc.2⟩)))
      case athrow => cases hact
      case invokestatic k =>
        by_cases hx : x < 900
        · obtain ⟨hc, hc2⟩ := hcc rfl
          simp only [am_ck1, if_pos hx, Bool.and_eq_true, decide_eq_true_eq] at hc
          obtain ⟨k1, ⟨k2, k3⟩, k4, k5, k6⟩ := hc
          obtain ⟨vs, st0, rfl, e2, e3, hm, rfl⟩ := ai_cs hx hact
          obtain ⟨d', r1, M1, rfl, g1, g2⟩ := am_cal_inv h'
          have m1 := am_rf_mono _ _ _ _ _ _ _ _ g1
          have m2 := am_rf_mono _ _ _ _ _ _ _ _ g2
          dsimp only at m1 m2 g1 g2
          exact ar_callS C k1 k2 k3 k4 (e2.trans k5) k6 e3 (met d' x vs r1 M1 g1 k2 k3 hm) ⟨by omega, by omega⟩ ⟨hn0, ht0, m1.1, m1.2⟩ ⟨by omega, by omega⟩ (goes (pc + 3) rest loc _ M1 g2 hsr (by omega) (by omega) hc2)
        · exact straight (by simp only [am_act, if_neg hx]) (by simp only [am_ck1, if_neg hx]; rfl) rfl
      case invokevirtual k =>
        by_cases hx : x < 900
        · obtain ⟨hc, hc2⟩ := hcc rfl
          simp only [am_ck1, if_pos hx, Bool.and_eq_true, decide_eq_true_eq] at hc
          obtain ⟨k1, ⟨k2, k3⟩, ⟨k4, k4'⟩, k5, ⟨k6, k7⟩, k8⟩ := hc
          obtain ⟨q, vs, st0, rfl, e2, e3, hm, hS, rfl⟩ := ai_cv hx hact
          obtain ⟨d', r1, M1, rfl, g1, g2⟩ := am_cal_inv h'
          have m1 := am_rf_mono _ _ _ _ _ _ _ _ g1
          have m2 := am_rf_mono _ _ _ _ _ _ _ _ g2
          dsimp only at m1 m2 g1 g2
          exact ar_callV C k1 k2 k3 k4 k4' (by omega) k8 e3 (hS.trans (by rw [k6])) k7 (met d' x (.ref q :: vs) r1 M1 g1 k2 k3 hm) ⟨by omega, by omega⟩ ⟨hn0, ht0, m1.1, m1.2⟩ ⟨by omega, by omega⟩ (goes (pc + 3) rest loc _ M1 g2 hsr (by omega) (by omega) hc2)
        · exact straight (by simp only [am_act, if_neg hx]) (by simp only [am_ck1, if_neg hx]; rfl) rfl
      case invokespecial k =>
        by_cases hx : x < 900
        · obtain ⟨hc, hc2⟩ := hcc rfl
          simp only [am_ck1, if_pos hx, Bool.and_eq_true, decide_eq_true_eq] at hc
          obtain ⟨k1, ⟨k2, k3⟩, k4, k5, k8⟩ := hc
          obtain ⟨q, vs, st0, rfl, e2, e3, hm, hS, rfl⟩ := ai_ci hx hact
          obtain ⟨d', r1, M1, rfl, g1, g2⟩ := am_cal_inv h'
          have m1 := am_rf_mono _ _ _ _ _ _ _ _ g1
          have m2 := am_rf_mono _ _ _ _ _ _ _ _ g2
          dsimp only at m1 m2 g1 g2
          exact ar_callI C k1 k2 k3 k4 (by omega) k8 e3 (met d' x (.ref q :: vs) r1 M1 g1 k2 k3 hm) ⟨by omega, by omega⟩ ⟨hn0, ht0, m1.1, m1.2⟩ ⟨by omega, by omega⟩ (goes (pc + 3) rest loc _ M1 g2 hsr (by omega) (by omega) hc2)
        · exact straight (by simp only [am_act, if_neg hx]) (by simp only [am_ck1, if_neg hx]; rfl) rfl
      all_goals exact straight rfl rfl rfl
