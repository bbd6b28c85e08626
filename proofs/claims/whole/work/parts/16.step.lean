section STEP
variable {p : Program} {l : Launch} {e : Env} {R : Room} {s : State} {m : MethodId} {args : Array Value} {below : List Frame} {meth : Method} {c : Code} {Q : State → Prop} {D : va_G} {Ac : Nat → ClassId} {b : Nat} {st : Nat → Nat} {HB : Heap} {zS : Nat → Nat × Nat} {zu : Nat → Nat → Int32} {nL n0 t0 own : Nat} {ini : Bool} {cc : ByteArray} {pc : Nat} {loc loc1 : am_L} {stk stk1 : List Value} {M M1 : am_M}
theorem am_fl_of (ho : own < 23) {k x y : Nat} (h : ((am_fl own).any fun e => e.1 == k && (e.2.1 + 10 == x && e.2.2.1 == y)) = true) : x < 23 ∧ y < am_NN (x - 10) ∧ Cond.fieldLink (am_CN own) k (am_CN (x - 10)) (am_TT (x - 10) y).2.1 (am_TT (x - 10) y).2.2.1 ∈ am_T := by
  obtain ⟨e, he, hp⟩ := am_any h
  simp only [Bool.and_eq_true, beq_iff_eq] at hp
  obtain ⟨rfl, h2, rfl⟩ := hp
  have h3 := am_all3 (p := fun own (e : Nat × Nat × Nat × Nat) => am_has e.2.2.2 (.fieldLink (am_CN own) e.1 (am_CN e.2.1) (am_TT e.2.1 e.2.2.1).2.1 (am_TT e.2.1 e.2.2.1).2.2.1) && (decide (e.2.1 < 13) && decide (e.2.2.1 < am_NN e.2.1))) am_fl_ok ho he
  simp only [Bool.and_eq_true, decide_eq_true_eq] at h3
  rw [show x - 10 = e.2.1 by omega]
  exact ⟨by omega, h3.2.2, am_has_in h3.1⟩
theorem am_kl_of (ho : own < 23) {k : Nat} {z : Int} (h : ((am_kl own).any fun e => e.1 == k && e.2.1 == z) = true) : Cond.constant (am_CN own) k (Int32.ofInt z) ∈ am_T := by
  obtain ⟨e, he, hp⟩ := am_any h
  simp only [Bool.and_eq_true, beq_iff_eq] at hp
  obtain ⟨rfl, rfl⟩ := hp
  exact am_has_in (am_all3 (p := fun own (e : Nat × Int × Nat) => am_has e.2.2 (.constant (am_CN own) e.1 (Int32.ofInt e.2.1))) am_kl_ok ho he)
theorem am_jl_of (ho : own < 23) {k : Nat} {z : Int} (h : ((am_jl own).any fun e => e.1 == k && e.2.1 == z) = true) : Cond.constantLong (am_CN own) k (Int64.ofInt z) ∈ am_T := by
  obtain ⟨e, he, hp⟩ := am_any h
  simp only [Bool.and_eq_true, beq_iff_eq] at hp
  obtain ⟨rfl, rfl⟩ := hp
  exact am_has_in (am_all3 (p := fun own (e : Nat × Int × Nat) => am_has e.2.2 (.constantLong (am_CN own) e.1 (Int64.ofInt e.2.1))) am_jl_ok ho he)
theorem am_cl_of (ho : own < 23) {k x : Nat} (h : ((am_cl0 own).any fun e => e.1 == k && e.2.1 + 10 == x) = true) : x < 23 ∧ Cond.classLink (am_CN own) k (am_CN (x - 10)) ∈ am_T := by
  obtain ⟨e, he, hp⟩ := am_any h
  simp only [Bool.and_eq_true, beq_iff_eq] at hp
  obtain ⟨rfl, h2⟩ := hp
  have h3 := am_all3 (p := fun own (e : Nat × Nat × Nat) => am_has e.2.2 (.classLink (am_CN own) e.1 (am_CN e.2.1)) && decide (e.2.1 < 13)) am_cl0_ok ho he
  simp only [Bool.and_eq_true, decide_eq_true_eq] at h3
  rw [show x - 10 = e.2.1 by omega]
  exact ⟨by omega, am_has_in h3.1⟩
theorem am_al_of (ho : own < 23) {k x : Nat} (h : ((am_al own).any fun e => e.1 == k && e.2.1 == x) = true) : (x = 3 ∨ x = 4) ∧ Cond.classLink (am_CN own) k (am_an x) ∈ am_T := by
  obtain ⟨e, he, hp⟩ := am_any h
  simp only [Bool.and_eq_true, beq_iff_eq] at hp
  obtain ⟨rfl, rfl⟩ := hp
  have h3 := am_all3 (p := fun own (e : Nat × Nat × Nat) => am_has e.2.2 (.classLink (am_CN own) e.1 (am_an e.2.1)) && decide (e.2.1 = 3 ∨ e.2.1 = 4)) am_al_ok ho he
  simp only [Bool.and_eq_true, decide_eq_true_eq] at h3
  exact ⟨h3.2, am_has_in h3.1⟩
theorem am_pl_of (ho : own < 23) {k x : Nat} (h : ((am_pl own).any fun e => e.1 == k && e.2.1 == x) = true) : Cond.methodLink (am_CN own) k (am_pn x) ∈ am_T := by
  obtain ⟨e, he, hp⟩ := am_any h
  simp only [Bool.and_eq_true, beq_iff_eq] at hp
  obtain ⟨rfl, rfl⟩ := hp
  exact am_has_in (am_all3 (p := fun own (e : Nat × Nat × Nat) => am_has e.2.2 (.methodLink (am_CN own) e.1 (am_pn e.2.1))) am_pl_ok ho he)
theorem am_ip_of {i : Nat} (h : i < 13) : Cond.instantiable (am_CN i) (am_NN i) ∈ am_T ∧ Cond.initialized (am_CN i) ∈ am_T ∧ ∀ (b : Nat) (st : Nat → Nat) (k : Nat), k < am_NN i → am_fv b st (am_ty i k) 0 0 none = defaultValue (am_ty i k) := by
  have h3 := List.all_eq_true.mp am_ip_ok i (List.mem_range.mpr h)
  simp only [Bool.and_eq_true] at h3
  refine ⟨am_has_in h3.1, am_has_in h3.2.1, fun b st k hk => ?_⟩
  have h4 := List.all_eq_true.mp h3.2.2 k (List.mem_range.mpr hk)
  simp only [Bool.or_eq_true] at h4
  rcases am_fv0 (b := b) (st := st) (am_ty i k) with h5 | h5
  · exact h5
  · exact absurd h4 h5
set_option maxHeartbeats 4000000 in
theorem am_step {i : Instr} {x y : Nat} {z : Int} (C : am_C p s m args meth c cc nL own ini D Ac b st HB zS zu) (hd : decode cc pc = .ok (i, am_ln i)) (hck : am_ckx own ini (i, x, y, z) = true) (hns : am_stat (i, x, y, z) = false) (hex : am_ex i x y z loc stk M = some (loc1, stk1, M1)) (hn : n0 ≤ M.1) (ht : t0 ≤ M.2.1) (hr : M1.1 - n0 ≤ R.cells ∧ M1.2.1 - t0 ≤ R.slots) (hf : 1 ≤ R.frames ∧ 80 ≤ R.locals) (k : am_G p l e R s m args below meth c Q D Ac b st HB zS zu nL n0 t0 (pc + am_ln i) (loc1) (stk1) (M1)) : am_G p l e R s m args below meth c Q D Ac b st HB zS zu nL n0 t0 (pc) (loc) (stk) (M) := by
  have ho : own < 23 := C.2.2.2.2.2.2.2.2.1
  cases i
  case iconst n =>
    simp only [am_ckx, decide_eq_true_eq] at hck
    subst hck
    cases hex
    exact ar_iconst C hd k
  case bipush n =>
    simp only [am_ckx, Bool.and_eq_true, decide_eq_true_eq] at hck
    obtain ⟨h1, h2⟩ := hck
    subst h1
    cases hex
    exact ar_bipush C hd h2 k
  case sipush n =>
    simp only [am_ckx, Bool.and_eq_true, decide_eq_true_eq] at hck
    obtain ⟨h1, h2⟩ := hck
    subst h1
    cases hex
    exact ar_sipush C hd h2 k
  case lconst n =>
    simp only [am_ckx, decide_eq_true_eq] at hck
    cases hex
    exact ar_lconst C hd hck k
  case ldc q =>
    simp only [am_stat, decide_eq_false_iff_not, ne_eq, Decidable.not_not] at hns
    subst hns
    simp only [am_ckx, ne_eq, not_true_eq_false, decide_false, Bool.false_or] at hck
    simp only [am_ex, if_true] at hex
    cases hex
    exact ar_ldc C hd (am_kl_of ho hck) k
  case ldc_w q =>
    cases hex
    exact ar_ldcw C hd (am_kl_of ho hck) k
  case ldc2_w q =>
    cases hex
    exact ar_ldc2 C hd (am_jl_of ho hck) k
  case iload_n q =>
    simp only [am_ex, am_ldi] at hex
    split at hex
    · rename_i v hv
      cases hex
      exact ar_iload_n C hd hv k
    · cases hex
  case iload q =>
    simp only [am_ex, am_ldi] at hex
    split at hex
    · rename_i v hv
      cases hex
      exact ar_iload C hd hv k
    · cases hex
  case istore_n q =>
    simp only [am_ex, am_sti] at hex
    split at hex
    · split at hex
      · rename_i hi
        cases hex
        exact ar_istore_n C hd hi k
      · cases hex
    · cases hex
  case istore q =>
    simp only [am_ex, am_sti] at hex
    split at hex
    · split at hex
      · rename_i hi
        cases hex
        exact ar_istore C hd hi k
      · cases hex
    · cases hex
  case lload_n q =>
    simp only [am_ex, am_ldl] at hex
    split at hex
    · rename_i v hv
      cases hex
      exact ar_lload_n C hd hv k
    · cases hex
  case lload q =>
    simp only [am_ex, am_ldl] at hex
    split at hex
    · rename_i v hv
      cases hex
      exact ar_lload C hd hv k
    · cases hex
  case lstore_n q =>
    simp only [am_ex, am_stl] at hex
    split at hex
    · split at hex
      · rename_i hi
        cases hex
        exact ar_lstore_n C hd hi k
      · cases hex
    · cases hex
  case lstore q =>
    simp only [am_ex, am_stl] at hex
    split at hex
    · split at hex
      · rename_i hi
        cases hex
        exact ar_lstore C hd hi k
      · cases hex
    · cases hex
  case aload_n q =>
    simp only [am_ex, am_lda] at hex
    split at hex
    · rename_i v hv
      cases hex
      exact ar_aload_n C hd hv k
    · cases hex
  case aload q =>
    simp only [am_ex, am_lda] at hex
    split at hex
    · rename_i v hv
      cases hex
      exact ar_aload C hd hv k
    · cases hex
  case astore_n q =>
    simp only [am_ex, am_sta] at hex
    split at hex
    · split at hex
      · rename_i hi
        cases hex
        exact ar_astore_n C hd hi k
      · cases hex
    · cases hex
  case astore q =>
    simp only [am_ex, am_sta] at hex
    split at hex
    · split at hex
      · rename_i hi
        cases hex
        exact ar_astore C hd hi k
      · cases hex
    · cases hex
  case iinc q n =>
    simp only [am_ex] at hex
    split at hex
    · rename_i v hv
      cases hex
      exact ar_iinc C hd hv k
    · cases hex
  case iadd =>
    simp only [am_ex, am_bi] at hex
    split at hex
    · cases hex
      exact ar_iadd C hd k
    · cases hex
  case isub =>
    simp only [am_ex, am_bi] at hex
    split at hex
    · cases hex
      exact ar_isub C hd k
    · cases hex
  case imul =>
    simp only [am_ex, am_bi] at hex
    split at hex
    · cases hex
      exact ar_imul C hd k
    · cases hex
  case iand =>
    simp only [am_ex, am_bi] at hex
    split at hex
    · cases hex
      exact ar_iand C hd k
    · cases hex
  case ior =>
    simp only [am_ex, am_bi] at hex
    split at hex
    · cases hex
      exact ar_ior C hd k
    · cases hex
  case ixor =>
    simp only [am_ex, am_bi] at hex
    split at hex
    · cases hex
      exact ar_ixor C hd k
    · cases hex
  case ishl =>
    simp only [am_ex, am_bi] at hex
    split at hex
    · cases hex
      exact ar_ishl C hd k
    · cases hex
  case ishr =>
    simp only [am_ex, am_bi] at hex
    split at hex
    · cases hex
      exact ar_ishr C hd k
    · cases hex
  case iushr =>
    simp only [am_ex, am_bi] at hex
    split at hex
    · cases hex
      exact ar_iushr C hd k
    · cases hex
  case ladd =>
    simp only [am_ex, am_bl] at hex
    split at hex
    · cases hex
      exact ar_ladd C hd k
    · cases hex
  case lsub =>
    simp only [am_ex, am_bl] at hex
    split at hex
    · cases hex
      exact ar_lsub C hd k
    · cases hex
  case lmul =>
    simp only [am_ex, am_bl] at hex
    split at hex
    · cases hex
      exact ar_lmul C hd k
    · cases hex
  case lor =>
    simp only [am_ex, am_bl] at hex
    split at hex
    · cases hex
      exact ar_lor C hd k
    · cases hex
  case idiv =>
    simp only [am_ex] at hex
    split at hex
    · split at hex
      · cases hex
      · rename_i hne
        cases hex
        exact ar_idiv C hd hne k
    · cases hex
  case irem =>
    simp only [am_ex] at hex
    split at hex
    · split at hex
      · cases hex
      · rename_i hne
        cases hex
        exact ar_irem C hd hne k
    · cases hex
  case ldiv =>
    simp only [am_ex] at hex
    split at hex
    · split at hex
      · cases hex
      · rename_i hne
        cases hex
        exact ar_ldiv C hd hne k
    · cases hex
  case lrem =>
    simp only [am_ex] at hex
    split at hex
    · split at hex
      · cases hex
      · rename_i hne
        cases hex
        exact ar_lrem C hd hne k
    · cases hex
  case ineg =>
    simp only [am_ex] at hex
    split at hex
    · cases hex
      exact ar_ineg C hd k
    · cases hex
  case lneg =>
    simp only [am_ex] at hex
    split at hex
    · cases hex
      exact ar_lneg C hd k
    · cases hex
  case lshl =>
    simp only [am_ex] at hex
    split at hex
    · cases hex
      exact ar_lshl C hd k
    · cases hex
  case lshr =>
    simp only [am_ex] at hex
    split at hex
    · cases hex
      exact ar_lshr C hd k
    · cases hex
  case i2l =>
    simp only [am_ex] at hex
    split at hex
    · cases hex
      exact ar_i2l C hd k
    · cases hex
  case l2i =>
    simp only [am_ex] at hex
    split at hex
    · cases hex
      exact ar_l2i C hd k
    · cases hex
  case i2c =>
    simp only [am_ex] at hex
    split at hex
    · cases hex
      exact ar_i2c C hd k
    · cases hex
  case lcmp =>
    simp only [am_ex] at hex
    split at hex
    · cases hex
      exact ar_lcmp C hd k
    · cases hex
  case dup2 =>
    simp only [am_ex] at hex
    split at hex
    · cases hex
      exact ar_dup2 C hd k
    · cases hex
  case dup =>
    simp only [am_ex] at hex
    split at hex
    · cases hex
      exact ar_dupi C hd k
    · cases hex
      exact ar_dupa C hd k
    · cases hex
  case pop =>
    simp only [am_ex] at hex
    split at hex
    · cases hex
      exact ar_popi C hd k
    · cases hex
      exact ar_popa C hd k
    · cases hex
  case iaload =>
    simp only [am_ex] at hex
    split at hex
    · split at hex
      · rename_i h
        cases hex
        rcases h with h | h
        · exact ar_iald0 C hd h k
        · exact ar_iald5 C hd h k
      · cases hex
    · cases hex
  case laload =>
    simp only [am_ex] at hex
    split at hex
    · split at hex
      · rename_i h
        cases hex
        exact ar_lald C hd h k
      · cases hex
    · cases hex
  case baload =>
    simp only [am_ex] at hex
    split at hex
    · split at hex
      · rename_i h
        cases hex
        exact ar_bald C hd h k
      · cases hex
    · cases hex
  case aaload =>
    simp only [am_ex] at hex
    split at hex
    · split at hex
      · rename_i h
        split at hex
        · rename_i q hq
          cases hex
          rcases h with h | h
          · exact ar_aald C hd (Or.inl rfl) h hq k
          · exact ar_aald C hd (Or.inr rfl) h hq k
        · cases hex
      · cases hex
    · cases hex
  case iastore =>
    simp only [am_ex] at hex
    split at hex
    · split at hex
      · rename_i h
        cases hex
        exact ar_iast C hd h k
      · cases hex
    · cases hex
  case lastore =>
    simp only [am_ex] at hex
    split at hex
    · split at hex
      · rename_i h
        cases hex
        exact ar_last C hd h k
      · cases hex
    · cases hex
  case bastore =>
    simp only [am_ex] at hex
    split at hex
    · split at hex
      · rename_i h
        cases hex
        exact ar_bast C hd h.1 (by rcases h.2 with h | h <;> rw [h] <;> rfl) k
      · cases hex
    · cases hex
  case aastore =>
    simp only [am_ex] at hex
    split at hex
    · split at hex
      · rename_i h
        cases hex
        rcases h with ⟨h1, h2⟩ | ⟨h1, h2⟩
        · exact ar_aast (ci := 8) C hd (Or.inl ⟨rfl, rfl⟩) h1 h2 k
        · exact ar_aast (ci := 7) C hd (Or.inr ⟨rfl, rfl⟩) h1 h2 k
      · cases hex
    · cases hex
  case arraylength =>
    simp only [am_ex] at hex
    split at hex
    · split at hex
      · rename_i h
        cases hex
        exact ar_alen C hd h k
      · cases hex
    · cases hex
  case getfield q =>
    simp only [am_ckx, Bool.and_eq_true, decide_eq_true_eq] at hck
    obtain ⟨h10, htz, hl⟩ := hck
    obtain ⟨h23, hk, hw⟩ := am_fl_of ho hl
    simp only [am_ex] at hex
    split at hex
    · split at hex
      · rename_i a st0 hS
        generalize hty : am_ty (x - 10) y = t at htz
        cases t
        all_goals first
          | (simp [am_tz] at htz; done)
          | (simp only [am_tz, beq_iff_eq] at htz
             subst htz
             simp only [if_true] at hex
             cases hex
             exact ar_get C hd h10 h23 hk hw hS (v := .int (M.2.2.2.1 a y)) (by rw [hty]; rfl) k)
          | (simp only [am_tz, beq_iff_eq] at htz
             subst htz
             simp only [show ¬ (1 : Int) = 0 by decide, if_false, if_true] at hex
             cases hex
             exact ar_get C hd h10 h23 hk hw hS (v := .long (M.2.2.2.2.1 a y)) (by rw [hty]; rfl) k)
          | (simp only [am_tz, beq_iff_eq] at htz
             subst htz
             simp only [show ¬ (3 : Int) = 0 by decide, show ¬ (3 : Int) = 1 by decide, if_false] at hex
             split at hex
             · rename_i w hw2
               cases hex
               exact ar_get C hd h10 h23 hk hw hS (v := .ref w) (by rw [hty]; simp [am_fv, hw2, am_rv, am_cv]) k
             · cases hex)
      · cases hex
    · cases hex
  case putfield q =>
    simp only [am_ckx, Bool.and_eq_true, decide_eq_true_eq, Bool.or_eq_true, Bool.not_eq_true', beq_iff_eq] at hck
    obtain ⟨h10, htz, hfin, hl⟩ := hck
    obtain ⟨h23, hk, hw⟩ := am_fl_of ho hl
    have hfin' : (am_TT (x - 10) y).2.2.2 = false ∨ (ini = true ∧ own = x - 10) := hfin.imp id (fun h => ⟨h.1, by omega⟩)
    simp only [am_ex] at hex
    generalize hty : am_ty (x - 10) y = t at htz
    split at hex
    · split at hex
      · rename_i v a st0 h
        cases hex
        refine ar_put C hd h10 h23 hk hw h.1 hfin' ?_ ?_ (fun c hc => am_up_ne hc) (fun _ _ => rfl) (fun _ _ => rfl) ?_ k
        · rw [hty]
          rcases h.2 with h2 | ⟨h2, h3⟩
          · subst h2
            cases t <;> first | rfl | (simp [am_tp] at htz; done)
          · subst h2
            cases t <;> first | (simp [am_tp] at htz; done) | (rcases h3 with h3 | h3 <;> rw [h3] <;> rfl)
        · rw [hty]
          rcases h.2 with h2 | ⟨h2, h3⟩
          · subst h2
            cases t <;> first | rfl | (simp [am_tp] at htz; done)
          · subst h2
            cases t <;> first | (simp [am_tp] at htz; done) | (rcases h3 with h3 | h3 <;> rw [h3] <;> rfl)
        · intro j
          by_cases hj : j = y
          · subst hj
            rw [if_pos rfl, hty, am_up_at, if_pos rfl]
            rcases h.2 with h2 | ⟨h2, h3⟩
            · subst h2
              cases t <;> first | rfl | (simp [am_tp] at htz; done)
            · subst h2
              cases t <;> first | rfl | (simp [am_tp] at htz; done)
          · rw [if_neg hj, am_up_at, if_neg hj]
      · cases hex
    · split at hex
      · rename_i v a st0 h
        cases hex
        obtain ⟨hS, rfl⟩ := h
        have hl : t = .long := by cases t <;> first | rfl | (simp [am_tp] at htz; done)
        subst hl
        refine ar_put C hd h10 h23 hk hw hS hfin' (by rw [hty]; rfl) (by rw [hty]; rfl) (fun _ _ => rfl) (fun c hc => am_up_ne hc) (fun _ _ => rfl) ?_ k
        intro j
        by_cases hj : j = y
        · subst hj
          rw [if_pos rfl, hty, am_up_at, if_pos rfl]
          rfl
        · rw [if_neg hj, am_up_at, if_neg hj]
      · cases hex
    · split at hex
      · rename_i v a st0 h
        cases hex
        obtain ⟨hS, rfl⟩ := h
        refine ar_put C hd h10 h23 hk hw hS hfin' ?_ ?_ (fun _ _ => rfl) (fun _ _ => rfl) (fun c hc => am_up_ne hc) ?_ k
        · rw [hty]
          cases t <;> first | rfl | (simp [am_tp] at htz; done)
        · rw [hty]
          cases t <;> first | rfl | (simp [am_tp] at htz; done)
        · intro j
          by_cases hj : j = y
          · subst hj
            rw [if_pos rfl, hty, am_up_at, if_pos rfl]
            cases t <;> first | rfl | (simp [am_tp] at htz; done)
          · rw [if_neg hj, am_up_at, if_neg hj]
      · cases hex
    · cases hex
  case new q =>
    simp only [am_ckx, Bool.and_eq_true, decide_eq_true_eq] at hck
    obtain ⟨h10, hy, hl⟩ := hck
    obtain ⟨h23, hw⟩ := am_cl_of ho hl
    obtain ⟨w1, w2, w3⟩ := am_ip_of (show x - 10 < 13 by omega)
    simp only [am_ex] at hex
    split at hex
    · rename_i hM
      cases hex
      exact ar_new C hd h10 h23 hy hw w1 w2 (w3 b st) hM hn ht hr k
    · cases hex
  case newarray q =>
    simp only [am_ckx, Bool.and_eq_true, decide_eq_true_eq] at hck
    obtain ⟨hx, hx3⟩ := hck
    simp only [am_ex] at hex
    split at hex
    · split at hex
      · rename_i h
        cases hex
        refine ar_newa C hd hx hx3 ?_ h.1 h.2.1 h.2.2 hn ht hr k
        cases q <;> first | exact am_aw_int | exact am_aw_long | exact am_aw_boolean | (subst hx; exact absurd hx3 (by decide))
      · cases hex
    · cases hex
  case anewarray q =>
    obtain ⟨hx, hw⟩ := am_al_of ho hck
    simp only [am_ex] at hex
    split at hex
    · split at hex
      · rename_i h
        cases hex
        exact ar_anew C hd hx hw h.1 h.2.1 h.2.2 hn ht hr k
      · cases hex
    · cases hex
  case invokestatic q =>
    have hw := am_pl_of ho hck
    simp only [am_ex] at hex
    split at hex
    · rename_i hx
      subst hx
      split at hex
      · split at hex
        · rename_i h
          cases hex
          exact ar_mmin C hd hw am_wmin.1 am_wmin.2.1 am_wmin.2.2 h hf hr k
        · cases hex
      · cases hex
    · split at hex
      · rename_i hx
        subst hx
        split at hex
        · split at hex
          · rename_i h
            cases hex
            exact ar_mmax C hd hw am_wmax.1 am_wmax.2.1 am_wmax.2.2 h hf hr k
          · cases hex
        · cases hex
      · split at hex
        · rename_i hx
          subst hx
          split at hex
          · split at hex
            · rename_i h
              cases hex
              obtain ⟨⟨g1, g2, g3, g4, g5, g6, g7⟩, g8⟩ := h
              exact ar_copy C hd hw am_wcopy.1 am_wcopy.2.1 am_wcopy.2.2 g1 g2 g3 g4 g5 g6 g7 g8 hf k
            · cases hex
          · cases hex
        · cases hex
  case invokespecial q =>
    have hw := am_pl_of ho hck
    simp only [am_ex] at hex
    split at hex
    · rename_i hx
      subst hx
      split at hex
      · split at hex
        · rename_i h
          cases hex
          exact ar_objI C hd hw am_wobj.1 am_wobj.2 h hf k
        · cases hex
      · cases hex
    · cases hex
  case invokevirtual q =>
    simp only [am_stat, decide_eq_false_iff_not, Nat.not_le] at hns
    simp only [am_ex, if_neg (show ¬ x = 910 by omega), if_neg (show ¬ x = 911 by omega), if_neg (show ¬ x = 912 by omega)] at hex
    cases hex
  case getstatic q =>
    exact absurd hns (by simp [am_stat])
  all_goals (exfalso; revert hex; simp [am_ex])
end STEP
