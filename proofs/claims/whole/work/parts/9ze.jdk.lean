/-! the JDK's String methods over the two constants: contracts -/
def jPc (b : Nat) (st : Nat → Nat) (HB : Heap) (adV : Nat → Nat) (vs : List Value) : Array Value → State → Prop := fun a U => a = vs.toArray ∧ st_X b st HB adV U ∧ ∀ q : Nat, q < b → U.heap[q]? = HB[q]?
def jQc (v : Option Value) : Array Value → State → Outcome → State → Prop := fun _ U o t => o = .returned v ∧ t.heap = U.heap
def jrm (k : Nat) : Room := { frames := k, cells := 0, slots := 0, locals := 40 * k }
theorem j_blind {b : Nat} {st adV : Nat → Nat} {HB : Heap} (vs : List Value) : FrameBlind (jPc b st HB adV vs) := fun a U g mk h => ⟨h.1, st_X.same U (U.calling g mk a) rfl h.2.1, h.2.2⟩
theorem j_good {y : MethodName} {bytes : ByteArray} {maxL : Nat} {ret : Option FieldType} (h : Cond.code y bytes maxL ret ∈ am_T) : GoodIn am_T (Cond.code y bytes maxL ret :: am_T) := by
  have key : ∀ w ∈ am_T, (w.onTables && w.keeps) = true ∨ ∃ ty, w = .arrayClass ty := fun w hw => good_of_word (List.mem_filter.mp hw).2
  intro w hw
  rcases List.mem_cons.mp hw with rfl | hw
  · exact ⟨h, key _ h⟩
  · exact ⟨hw, key _ hw⟩
section JC
variable {p : Program} {l : Launch} {e : Jvm.Env} {R : Room} {s : State} {m : MethodId} {args : Array Value} {below : List Frame} {meth : Method} {c : Code} {Q : State → Prop} {b : Nat} {st adV : Nat → Nat} {HB H : Heap} {cc bytes : ByteArray} {pc nL maxL n index cells slots k : Nat} {ret : Option FieldType} {own : String} {y : MethodName} {ls : Array Slot} {locs : List Loc} {vs rest : List Value} {v : Option Value}
theorem j_after {stk0 : List Value} {a : Array Value} (hr : va_Run p l e R s m args below meth c H locs cells slots 0 0 (F0 m pc ls stk0) rest (jQc v a) (fun q => b ≤ q)) (hl : ∀ q ∈ locs, b ≤ q.base)
    (kk : ∀ locs1 : List Loc, (∀ q ∈ locs1, b ≤ q.base) → W p l e R s m args below meth c H locs1 cells slots Q (F0 m (pc + 3) ls (v.toList ++ rest))) : W p l e R s m args below meth c H locs cells slots Q (F0 m pc ls stk0) := by
  intro T hT X
  obtain ⟨v2, s0, t, T', L, e0, X', hL, e1, e2, ⟨ho, hR⟩, go⟩ := hr T hT X
  have hv : v2 = v := Outcome.returned.inj ho
  subst hv
  obtain ⟨t2, a1, b1⟩ := kk (locs ++ L) (fun q hq => (List.mem_append.mp hq).elim (hl q) (hL q)) T' (by rw [e1, hR, e0]) X'
  exact ⟨t2, go _ a1, b1⟩
theorem jc_S (hx : p.tables.exec = Jvm.exec) (hb : c.code = cc) (hml : c.maxLocals = nL) (hown : s.vm.findClass own = some m.cls) (hts : ∀ w ∈ am_T, w.before args s = true) (hX : st_X b st HB adV s) (hH : ∀ q : Nat, q < b → H[q]? = HB[q]?)
    (hM : Met l y (Cond.code y bytes maxL ret :: am_T) (jrm k) (jPc b st HB adV vs) (jQc v) 0 0 (fun q => b ≤ q)) (hcode : Cond.code y bytes maxL ret ∈ am_T) (hini : Cond.initialized y.cls ∈ am_T) (hlk : Cond.methodLink own index y ∈ am_T) (hst : Cond.static y ∈ am_T)
    (hy : y.cls ≠ "java/lang/invoke/MethodHandle" ∧ y.cls ≠ "java/lang/invoke/VarHandle" ∧ (parseMethodDescriptor y.desc).map (fun d => d.parameters.length) = some n) (hn : vs.length = n) (hR : k + 1 ≤ R.frames ∧ 8 + (maxL + 11) + 40 * k ≤ R.locals) (hRc : cells ≤ R.cells ∧ slots ≤ R.slots) (hls : ls.size = nL) (hcat : (rest.map fun v => v.category).sum ≤ 8) (hdg : decode cc pc = .ok (.invokestatic index, 3)) (hl : ∀ q ∈ locs, b ≤ q.base)
    (kk : ∀ locs1 : List Loc, (∀ q ∈ locs1, b ≤ q.base) → W p l e R s m args below meth c H locs1 cells slots Q (F0 m (pc + 3) ls (v.toList ++ rest))) : W p l e R s m args below meth c H locs cells slots Q (F0 m pc ls (vs.reverse ++ rest)) :=
  j_after (va_runS (Ts := am_T) (own := own) (ws := Cond.code y bytes maxL ret :: am_T) ⟨hx, hb, hml, hown, hts⟩ hM ⟨callB_of n hts (j_good hcode) rfl rfl rfl (hts _ hini) (hts _ hlk) hy hR, hts _ hst⟩ ⟨j_blind vs, fun U hU hW => ⟨rfl, st_X.warm s U hW hX, by rw [hU]; exact hH⟩⟩ rfl hn hls rfl (by show 2 * 0 + _ ≤ 8; omega) hdg hRc) hl kk
theorem jc_V {i : Nat} (hi : i < 2) (hx : p.tables.exec = Jvm.exec) (hb : c.code = cc) (hml : c.maxLocals = nL) (hown : s.vm.findClass own = some m.cls) (hts : ∀ w ∈ am_T, w.before args s = true) (hX : st_X b st HB adV s) (hH : ∀ q : Nat, q < b → H[q]? = HB[q]?)
    (hM : Met l y (Cond.code y bytes maxL ret :: am_T) (jrm k) (jPc b st HB adV (.ref (st (10 + i)) :: vs)) (jQc v) 0 0 (fun q => b ≤ q)) (hcode : Cond.code y bytes maxL ret ∈ am_T) (hini : Cond.initialized y.cls ∈ am_T) (hlk : Cond.methodLink own index y ∈ am_T) (hin : Cond.instanceMethod y ∈ am_T) (hsel : Cond.selects "java/lang/String" y y ∈ am_T) (hcls : y.cls = "java/lang/String")
    (hy : y.cls ≠ "java/lang/invoke/MethodHandle" ∧ y.cls ≠ "java/lang/invoke/VarHandle" ∧ (parseMethodDescriptor y.desc).map (fun d => d.parameters.length) = some n) (hn : vs.length = n) (hR : k + 1 ≤ R.frames ∧ 8 + (maxL + 11) + 40 * k ≤ R.locals) (hRc : cells ≤ R.cells ∧ slots ≤ R.slots) (hls : ls.size = nL) (hcat : (rest.map fun v => v.category).sum ≤ 8) (hdg : decode cc pc = .ok (.invokevirtual index, 3)) (hl : ∀ q ∈ locs, b ≤ q.base)
    (kk : ∀ locs1 : List Loc, (∀ q ∈ locs1, b ≤ q.base) → W p l e R s m args below meth c H locs1 cells slots Q (F0 m (pc + 3) ls (v.toList ++ rest))) : W p l e R s m args below meth c H locs cells slots Q (F0 m pc ls (vs.reverse ++ .ref (st (10 + i)) :: rest)) := by
  have hE := (hX.2.2.2.2.1 i hi).1.kept (H1 := H) (fun a _ hA => hH a (by omega))
  obtain ⟨cell, q1, q2, q3, -⟩ := hE
  exact j_after (va_runV (Ts := am_T) (own := own) (C := "java/lang/String") (ws := Cond.code y bytes maxL ret :: am_T) ⟨hx, hb, hml, hown, hts⟩ hM ⟨callB_of n hts (j_good hcode) rfl rfl rfl (hts _ hini) (hts _ hlk) hy hR, hts _ hin, hts _ hsel⟩ ⟨j_blind _, ⟨cell, q1, q2, q3⟩, fun U hU hW => ⟨rfl, st_X.warm s U hW hX, by rw [hU]; exact hH⟩⟩ rfl hn hls rfl (by show 2 * 0 + _ ≤ 8; omega) hdg hRc) hl kk
end JC
section JM
variable {b : Nat} {st adV : Nat → Nat} {HB : Heap}

theorem jd_lat_0 : decode prog_18_method_154_code 0 = .ok (.getstatic 38, 3) := by decide +kernel
theorem jd_lat_3 : decode prog_18_method_154_code 3 = .ok (.ifCond .eq 14, 3) := by decide +kernel
theorem jd_lat_6 : decode prog_18_method_154_code 6 = .ok (.aload_n 0, 1) := by decide +kernel
theorem jd_lat_7 : decode prog_18_method_154_code 7 = .ok (.getfield 15, 3) := by decide +kernel
theorem jd_lat_10 : decode prog_18_method_154_code 10 = .ok (.ifCond .ne 7, 3) := by decide +kernel
theorem jd_lat_13 : decode prog_18_method_154_code 13 = .ok (.iconst 1, 1) := by decide +kernel
theorem jd_lat_14 : decode prog_18_method_154_code 14 = .ok (.goto 4, 3) := by decide +kernel
theorem jd_lat_18 : decode prog_18_method_154_code 18 = .ok (.ireturn, 1) := by decide +kernel
set_option maxHeartbeats 4000000 in
theorem j_isLatin1 (l : Launch) {i : Nat} (hi : i < 2) : Met l ⟨"java/lang/String", "isLatin1", "()Z"⟩ (Cond.code ⟨"java/lang/String", "isLatin1", "()Z"⟩ prog_18_method_154_code 1 (some .boolean) :: am_T) (jrm 0) (jPc b st HB adV [.ref (st (10 + i))]) (jQc (some (.int 1))) 0 0 (fun q => b ≤ q) := by
  refine Met.ofW (cc := prog_18_method_154_code) (maxL := 1) (ret := (some .boolean)) (by decide) rfl ?_
  intro p e s m args below meth c s₁ B hml hv
  obtain ⟨rfl, hX, hH⟩ := hv
  have hx := B.exec
  have hb := B.bytes
  have hr := B.returns
  have hts0 := atoms_spec (ws := Cond.code ⟨"java/lang/String", "isLatin1", "()Z"⟩ prog_18_method_154_code 1 (some .boolean) :: am_T) B.pre
  have hts : ∀ w ∈ am_T, w.before _ s = true := fun w hw => hts0 w (List.mem_cons_of_mem _ hw)
  have hown : s.vm.findClass "java/lang/String" = some m.cls := findClass_of_methodNamed B.named
  have hlocks := B.notSynchronized
  have hS : va_S (fun q => b ≤ q) s.heap s.heap [] := va_S.rf
  have hE := vk_S.kept hX.2.2.2.2 (H1 := s.heap) (fun a _ hA => hH a (by omega))
  have hC := va_Z.kept hX.2.2.2.1.1 (H1 := s.heap) (fun a _ hA => hH a (by omega))
  have hl := lv_entry ([.ref (st (10 + i))]) (n := 1) (Nat.le_of_ble_eq_true rfl)
  rw [lg_entry_eq]
  generalize (lg_sl ([.ref (st (10 + i))]) ++ List.replicate (1 - (lg_sl ([.ref (st (10 + i))])).length) Slot.unset).toArray = ls at hl ⊢
  have hl : lv_has ls 1 [(0, .ref (st (10 + i)))] := hl
  refine va_gets hx hb hC hS hown (hts _ (am_has_in (i := 447) (by decide +kernel))) (fun _ h => h) jd_lat_0 ?_
  refine lv_if_eq hx hb jd_lat_3 rfl (fun h => absurd h (by decide)) (fun _ => ?_)
  refine lv_aload_n hx hb jd_lat_6 rfl (lv_at hl 0 rfl) ?_
  refine vk_getf hx hb (hE.1 i hi).2.1 hS hown (hts _ (am_has_in (i := 1901) (by decide +kernel))) (fun _ h => h) jd_lat_7 ?_
  refine lv_if_ne hx hb jd_lat_10 rfl (fun h => absurd rfl h) (fun _ => ?_)
  refine lv_iconst hx hb jd_lat_13 rfl ?_
  refine lv_goto hx hb jd_lat_14 rfl ?_
  exact W.zret hx hb hr rfl (fun t ht hW => ⟨rfl, ht⟩) (fun q hq => by cases hq) jd_lat_18
theorem jd_cod_0 : decode prog_18_method_152_code 0 = .ok (.getstatic 38, 3) := by decide +kernel
theorem jd_cod_3 : decode prog_18_method_152_code 3 = .ok (.ifCond .eq 10, 3) := by decide +kernel
theorem jd_cod_6 : decode prog_18_method_152_code 6 = .ok (.aload_n 0, 1) := by decide +kernel
theorem jd_cod_7 : decode prog_18_method_152_code 7 = .ok (.getfield 15, 3) := by decide +kernel
theorem jd_cod_10 : decode prog_18_method_152_code 10 = .ok (.goto 4, 3) := by decide +kernel
theorem jd_cod_14 : decode prog_18_method_152_code 14 = .ok (.ireturn, 1) := by decide +kernel
set_option maxHeartbeats 4000000 in
theorem j_coder (l : Launch) {i : Nat} (hi : i < 2) : Met l ⟨"java/lang/String", "coder", "()B"⟩ (Cond.code ⟨"java/lang/String", "coder", "()B"⟩ prog_18_method_152_code 1 (some .byte) :: am_T) (jrm 0) (jPc b st HB adV [.ref (st (10 + i))]) (jQc (some (.int 0))) 0 0 (fun q => b ≤ q) := by
  refine Met.ofW (cc := prog_18_method_152_code) (maxL := 1) (ret := (some .byte)) (by decide) rfl ?_
  intro p e s m args below meth c s₁ B hml hv
  obtain ⟨rfl, hX, hH⟩ := hv
  have hx := B.exec
  have hb := B.bytes
  have hr := B.returns
  have hts0 := atoms_spec (ws := Cond.code ⟨"java/lang/String", "coder", "()B"⟩ prog_18_method_152_code 1 (some .byte) :: am_T) B.pre
  have hts : ∀ w ∈ am_T, w.before _ s = true := fun w hw => hts0 w (List.mem_cons_of_mem _ hw)
  have hown : s.vm.findClass "java/lang/String" = some m.cls := findClass_of_methodNamed B.named
  have hlocks := B.notSynchronized
  have hS : va_S (fun q => b ≤ q) s.heap s.heap [] := va_S.rf
  have hE := vk_S.kept hX.2.2.2.2 (H1 := s.heap) (fun a _ hA => hH a (by omega))
  have hC := va_Z.kept hX.2.2.2.1.1 (H1 := s.heap) (fun a _ hA => hH a (by omega))
  have hl := lv_entry ([.ref (st (10 + i))]) (n := 1) (Nat.le_of_ble_eq_true rfl)
  rw [lg_entry_eq]
  generalize (lg_sl ([.ref (st (10 + i))]) ++ List.replicate (1 - (lg_sl ([.ref (st (10 + i))])).length) Slot.unset).toArray = ls at hl ⊢
  have hl : lv_has ls 1 [(0, .ref (st (10 + i)))] := hl
  refine va_gets hx hb hC hS hown (hts _ (am_has_in (i := 447) (by decide +kernel))) (fun _ h => h) jd_cod_0 ?_
  refine lv_if_eq hx hb jd_cod_3 rfl (fun h => absurd h (by decide)) (fun _ => ?_)
  refine lv_aload_n hx hb jd_cod_6 rfl (lv_at hl 0 rfl) ?_
  refine vk_getf hx hb (hE.1 i hi).2.1 hS hown (hts _ (am_has_in (i := 1901) (by decide +kernel))) (fun _ h => h) jd_cod_7 ?_
  refine lv_goto hx hb jd_cod_10 rfl ?_
  exact W.zret hx hb hr rfl (fun t ht hW => ⟨rfl, ht⟩) (fun q hq => by cases hq) jd_cod_14
theorem jd_len_0 : decode prog_18_method_54_code 0 = .ok (.aload_n 0, 1) := by decide +kernel
theorem jd_len_1 : decode prog_18_method_54_code 1 = .ok (.getfield 9, 3) := by decide +kernel
theorem jd_len_4 : decode prog_18_method_54_code 4 = .ok (.arraylength, 1) := by decide +kernel
theorem jd_len_5 : decode prog_18_method_54_code 5 = .ok (.aload_n 0, 1) := by decide +kernel
theorem jd_len_6 : decode prog_18_method_54_code 6 = .ok (.invokevirtual 335, 3) := by decide +kernel
theorem jd_len_9 : decode prog_18_method_54_code 9 = .ok (.ishr, 1) := by decide +kernel
theorem jd_len_10 : decode prog_18_method_54_code 10 = .ok (.ireturn, 1) := by decide +kernel
set_option maxHeartbeats 4000000 in
theorem j_length (l : Launch) {i : Nat} (hi : i < 2) : Met l ⟨"java/lang/String", "length", "()I"⟩ (Cond.code ⟨"java/lang/String", "length", "()I"⟩ prog_18_method_54_code 1 (some .int) :: am_T) (jrm 1) (jPc b st HB adV [.ref (st (10 + i))]) (jQc (some (.int (Int32.ofNat (([126, 11] : List Nat).getD i 0))))) 0 0 (fun q => b ≤ q) := by
  refine Met.ofW (cc := prog_18_method_54_code) (maxL := 1) (ret := (some .int)) (by decide) rfl ?_
  intro p e s m args below meth c s₁ B hml hv
  obtain ⟨rfl, hX, hH⟩ := hv
  have hx := B.exec
  have hb := B.bytes
  have hr := B.returns
  have hts0 := atoms_spec (ws := Cond.code ⟨"java/lang/String", "length", "()I"⟩ prog_18_method_54_code 1 (some .int) :: am_T) B.pre
  have hts : ∀ w ∈ am_T, w.before _ s = true := fun w hw => hts0 w (List.mem_cons_of_mem _ hw)
  have hown : s.vm.findClass "java/lang/String" = some m.cls := findClass_of_methodNamed B.named
  have hlocks := B.notSynchronized
  have hS : va_S (fun q => b ≤ q) s.heap s.heap [] := va_S.rf
  have hE := vk_S.kept hX.2.2.2.2 (H1 := s.heap) (fun a _ hA => hH a (by omega))
  have hC := va_Z.kept hX.2.2.2.1.1 (H1 := s.heap) (fun a _ hA => hH a (by omega))
  have hl := lv_entry ([.ref (st (10 + i))]) (n := 1) (Nat.le_of_ble_eq_true rfl)
  rw [lg_entry_eq]
  generalize (lg_sl ([.ref (st (10 + i))]) ++ List.replicate (1 - (lg_sl ([.ref (st (10 + i))])).length) Slot.unset).toArray = ls at hl ⊢
  have hl : lv_has ls 1 [(0, .ref (st (10 + i)))] := hl
  refine lv_aload_n hx hb jd_len_0 rfl (lv_at hl 0 rfl) ?_
  refine vk_getf hx hb (hE.1 i hi).2.2.1 hS hown (hts _ (am_has_in (i := 1900) (by decide +kernel))) (fun _ h => h) jd_len_1 ?_
  refine va_tlen hx hb (hE.1 i hi).2.2.2 hS rfl jd_len_4 ?_
  refine lv_aload_n hx hb jd_len_5 rfl (lv_at hl 0 rfl) ?_
  refine jc_V hi hx hb hml hown hts hX hH (j_coder l hi) (am_has_in (i := 446) (by decide +kernel)) (am_has_in (i := 14) (by decide +kernel)) (am_has_in (i := 443) (by decide +kernel)) (am_has_in (i := 444) (by decide +kernel)) (am_has_in (i := 445) (by decide +kernel)) rfl (by decide) rfl ⟨by decide, by decide⟩ ⟨Nat.le_refl _, Nat.le_refl _⟩ hl.1 (Nat.le_of_ble_eq_true rfl) jd_len_6 (fun q hq => by cases hq) (fun locs1 hl1 => ?_)
  refine lv_ishr hx hb jd_len_9 ?_
  have ev : Int32.ofNat (([126, 11] : List Nat).getD i 0) >>> ((0 : Int32) &&& 31) = Int32.ofNat (([126, 11] : List Nat).getD i 0) := by
    rcases (show i = 0 ∨ i = 1 by omega) with rfl | rfl <;> decide
  rw [ev]
  exact W.iret hx hb hr (fun t ht hW => ⟨rfl, ht⟩) hl1 jd_len_10
theorem jd_pre_0 : decode prog_22_method_11_code 0 = .ok (.iload_n 0, 1) := by decide +kernel
theorem jd_pre_1 : decode prog_22_method_11_code 1 = .ok (.ifCond .lt 8, 3) := by decide +kernel
theorem jd_pre_4 : decode prog_22_method_11_code 4 = .ok (.iload_n 0, 1) := by decide +kernel
theorem jd_pre_5 : decode prog_22_method_11_code 5 = .ok (.iload_n 1, 1) := by decide +kernel
theorem jd_pre_6 : decode prog_22_method_11_code 6 = .ok (.if_icmp .lt 10, 3) := by decide +kernel
theorem jd_pre_16 : decode prog_22_method_11_code 16 = .ok (.iload_n 0, 1) := by decide +kernel
theorem jd_pre_17 : decode prog_22_method_11_code 17 = .ok (.ireturn, 1) := by decide +kernel
set_option maxHeartbeats 4000000 in
theorem j_preN (l : Launch) {x y : Int32} (h0 : ¬ x < 0) (h1 : x < y) : Met l ⟨"jdk/internal/util/Preconditions", "checkIndex", "(IILjava/util/function/BiFunction;)I"⟩ (Cond.code ⟨"jdk/internal/util/Preconditions", "checkIndex", "(IILjava/util/function/BiFunction;)I"⟩ prog_22_method_11_code 3 (some .int) :: am_T) (jrm 0) (jPc b st HB adV [.int x, .int y, .null]) (jQc (some (.int x))) 0 0 (fun q => b ≤ q) := by
  refine Met.ofW (cc := prog_22_method_11_code) (maxL := 3) (ret := (some .int)) (by decide) rfl ?_
  intro p e s m args below meth c s₁ B hml hv
  obtain ⟨rfl, hX, hH⟩ := hv
  have hx := B.exec
  have hb := B.bytes
  have hr := B.returns
  have hts0 := atoms_spec (ws := Cond.code ⟨"jdk/internal/util/Preconditions", "checkIndex", "(IILjava/util/function/BiFunction;)I"⟩ prog_22_method_11_code 3 (some .int) :: am_T) B.pre
  have hts : ∀ w ∈ am_T, w.before _ s = true := fun w hw => hts0 w (List.mem_cons_of_mem _ hw)
  have hown : s.vm.findClass "jdk/internal/util/Preconditions" = some m.cls := findClass_of_methodNamed B.named
  have hlocks := B.notSynchronized
  have hS : va_S (fun q => b ≤ q) s.heap s.heap [] := va_S.rf
  have hE := vk_S.kept hX.2.2.2.2 (H1 := s.heap) (fun a _ hA => hH a (by omega))
  have hC := va_Z.kept hX.2.2.2.1.1 (H1 := s.heap) (fun a _ hA => hH a (by omega))
  have hl := lv_entry ([.int x, .int y, .null]) (n := 3) (Nat.le_of_ble_eq_true rfl)
  rw [lg_entry_eq]
  generalize (lg_sl ([.int x, .int y, .null]) ++ List.replicate (3 - (lg_sl ([.int x, .int y, .null])).length) Slot.unset).toArray = ls at hl ⊢
  have hl : lv_has ls 3 [(0, .int x), (1, .int y), (2, .null)] := hl
  refine lv_iload_n hx hb jd_pre_0 rfl (lv_at hl 0 rfl) ?_
  refine lv_if_lt hx hb jd_pre_1 rfl (fun h => absurd h h0) (fun _ => ?_)
  refine lv_iload_n hx hb jd_pre_4 rfl (lv_at hl 0 rfl) ?_
  refine lv_iload_n hx hb jd_pre_5 rfl (lv_at hl 1 rfl) ?_
  refine lv_icmp_lt hx hb jd_pre_6 rfl (fun _ => ?_) (fun h => absurd h1 h)
  refine lv_iload_n hx hb jd_pre_16 rfl (lv_at hl 0 rfl) ?_
  exact W.iret hx hb hr (fun t ht hW => ⟨rfl, ht⟩) (fun q hq => by cases hq) jd_pre_17
set_option maxHeartbeats 4000000 in
theorem j_preR (l : Launch) {x y : Int32} {t : Nat} (h0 : ¬ x < 0) (h1 : x < y) : Met l ⟨"jdk/internal/util/Preconditions", "checkIndex", "(IILjava/util/function/BiFunction;)I"⟩ (Cond.code ⟨"jdk/internal/util/Preconditions", "checkIndex", "(IILjava/util/function/BiFunction;)I"⟩ prog_22_method_11_code 3 (some .int) :: am_T) (jrm 0) (jPc b st HB adV [.int x, .int y, .ref t]) (jQc (some (.int x))) 0 0 (fun q => b ≤ q) := by
  refine Met.ofW (cc := prog_22_method_11_code) (maxL := 3) (ret := (some .int)) (by decide) rfl ?_
  intro p e s m args below meth c s₁ B hml hv
  obtain ⟨rfl, hX, hH⟩ := hv
  have hx := B.exec
  have hb := B.bytes
  have hr := B.returns
  have hts0 := atoms_spec (ws := Cond.code ⟨"jdk/internal/util/Preconditions", "checkIndex", "(IILjava/util/function/BiFunction;)I"⟩ prog_22_method_11_code 3 (some .int) :: am_T) B.pre
  have hts : ∀ w ∈ am_T, w.before _ s = true := fun w hw => hts0 w (List.mem_cons_of_mem _ hw)
  have hown : s.vm.findClass "jdk/internal/util/Preconditions" = some m.cls := findClass_of_methodNamed B.named
  have hlocks := B.notSynchronized
  have hS : va_S (fun q => b ≤ q) s.heap s.heap [] := va_S.rf
  have hE := vk_S.kept hX.2.2.2.2 (H1 := s.heap) (fun a _ hA => hH a (by omega))
  have hC := va_Z.kept hX.2.2.2.1.1 (H1 := s.heap) (fun a _ hA => hH a (by omega))
  have hl := lv_entry ([.int x, .int y, .ref t]) (n := 3) (Nat.le_of_ble_eq_true rfl)
  rw [lg_entry_eq]
  generalize (lg_sl ([.int x, .int y, .ref t]) ++ List.replicate (3 - (lg_sl ([.int x, .int y, .ref t])).length) Slot.unset).toArray = ls at hl ⊢
  have hl : lv_has ls 3 [(0, .int x), (1, .int y), (2, .ref t)] := hl
  refine lv_iload_n hx hb jd_pre_0 rfl (lv_at hl 0 rfl) ?_
  refine lv_if_lt hx hb jd_pre_1 rfl (fun h => absurd h h0) (fun _ => ?_)
  refine lv_iload_n hx hb jd_pre_4 rfl (lv_at hl 0 rfl) ?_
  refine lv_iload_n hx hb jd_pre_5 rfl (lv_at hl 1 rfl) ?_
  refine lv_icmp_lt hx hb jd_pre_6 rfl (fun _ => ?_) (fun h => absurd h1 h)
  refine lv_iload_n hx hb jd_pre_16 rfl (lv_at hl 0 rfl) ?_
  exact W.iret hx hb hr (fun t ht hW => ⟨rfl, ht⟩) (fun q hq => by cases hq) jd_pre_17
theorem jd_chk_0 : decode prog_18_method_155_code 0 = .ok (.iload_n 0, 1) := by decide +kernel
theorem jd_chk_1 : decode prog_18_method_155_code 1 = .ok (.iload_n 1, 1) := by decide +kernel
theorem jd_chk_2 : decode prog_18_method_155_code 2 = .ok (.getstatic 1053, 3) := by decide +kernel
theorem jd_chk_5 : decode prog_18_method_155_code 5 = .ok (.invokestatic 1059, 3) := by decide +kernel
theorem jd_chk_8 : decode prog_18_method_155_code 8 = .ok (.pop, 1) := by decide +kernel
theorem jd_chk_9 : decode prog_18_method_155_code 9 = .ok (.return_, 1) := by decide +kernel
set_option maxHeartbeats 4000000 in
theorem j_chk (l : Launch) {x y : Int32} (h0 : ¬ x < 0) (h1 : x < y) : Met l ⟨"java/lang/String", "checkIndex", "(II)V"⟩ (Cond.code ⟨"java/lang/String", "checkIndex", "(II)V"⟩ prog_18_method_155_code 2 none :: am_T) (jrm 1) (jPc b st HB adV [.int x, .int y]) (jQc none) 0 0 (fun q => b ≤ q) := by
  refine Met.ofW (cc := prog_18_method_155_code) (maxL := 2) (ret := none) (by decide) rfl ?_
  intro p e s m args below meth c s₁ B hml hv
  obtain ⟨rfl, hX, hH⟩ := hv
  have hx := B.exec
  have hb := B.bytes
  have hr := B.returns
  have hts0 := atoms_spec (ws := Cond.code ⟨"java/lang/String", "checkIndex", "(II)V"⟩ prog_18_method_155_code 2 none :: am_T) B.pre
  have hts : ∀ w ∈ am_T, w.before _ s = true := fun w hw => hts0 w (List.mem_cons_of_mem _ hw)
  have hown : s.vm.findClass "java/lang/String" = some m.cls := findClass_of_methodNamed B.named
  have hlocks := B.notSynchronized
  have hS : va_S (fun q => b ≤ q) s.heap s.heap [] := va_S.rf
  have hE := vk_S.kept hX.2.2.2.2 (H1 := s.heap) (fun a _ hA => hH a (by omega))
  have hC := va_Z.kept hX.2.2.2.1.1 (H1 := s.heap) (fun a _ hA => hH a (by omega))
  have hl := lv_entry ([.int x, .int y]) (n := 2) (Nat.le_of_ble_eq_true rfl)
  rw [lg_entry_eq]
  generalize (lg_sl ([.int x, .int y]) ++ List.replicate (2 - (lg_sl ([.int x, .int y])).length) Slot.unset).toArray = ls at hl ⊢
  have hl : lv_has ls 2 [(0, .int x), (1, .int y)] := hl
  refine lv_iload_n hx hb jd_chk_0 rfl (lv_at hl 0 rfl) ?_
  refine lv_iload_n hx hb jd_chk_1 rfl (lv_at hl 1 rfl) ?_
  rcases hX.2.2.2.1.2 with hF | ⟨t, hF⟩
  · have hF := hF
    have hF := va_Z.kept hF (H1 := s.heap) (fun a _ hA => hH a (by omega))
    refine va_gets hx hb hF hS hown (hts _ (am_has_in (i := 463) (by decide +kernel))) (fun _ h => h) jd_chk_2 ?_
    refine jc_S (n := 3) (vs := [.int x, .int y, .null]) (rest := []) hx hb hml hown hts hX hH (j_preN l h0 h1) (am_has_in (i := 467) (by decide +kernel)) (am_has_in (i := 16) (by decide +kernel)) (am_has_in (i := 465) (by decide +kernel)) (am_has_in (i := 466) (by decide +kernel)) (by decide) rfl ⟨by decide, by decide⟩ ⟨Nat.le_refl _, Nat.le_refl _⟩ hl.1 (Nat.le_of_ble_eq_true rfl) jd_chk_5 (fun q hq => by cases hq) (fun locs1 hl1 => ?_)
    refine lv_pop hx hb (va := .int x) jd_chk_8 rfl ?_
    exact W.vret hx hb hr (fun t ht hW => ⟨rfl, ht⟩) hl1 jd_chk_9
  · have hF := hF
    have hF := va_Z.kept hF (H1 := s.heap) (fun a _ hA => hH a (by omega))
    refine va_gets hx hb hF hS hown (hts _ (am_has_in (i := 463) (by decide +kernel))) (fun _ h => h) jd_chk_2 ?_
    refine jc_S (n := 3) (vs := [.int x, .int y, .ref t]) (rest := []) hx hb hml hown hts hX hH (j_preR l h0 h1) (am_has_in (i := 467) (by decide +kernel)) (am_has_in (i := 16) (by decide +kernel)) (am_has_in (i := 465) (by decide +kernel)) (am_has_in (i := 466) (by decide +kernel)) (by decide) rfl ⟨by decide, by decide⟩ ⟨Nat.le_refl _, Nat.le_refl _⟩ hl.1 (Nat.le_of_ble_eq_true rfl) jd_chk_5 (fun q hq => by cases hq) (fun locs1 hl1 => ?_)
    refine lv_pop hx hb (va := .int x) jd_chk_8 rfl ?_
    exact W.vret hx hb hr (fun t ht hW => ⟨rfl, ht⟩) hl1 jd_chk_9
theorem jd_l1c_0 : decode prog_19_method_2_code 0 = .ok (.iload_n 1, 1) := by decide +kernel
theorem jd_l1c_1 : decode prog_19_method_2_code 1 = .ok (.aload_n 0, 1) := by decide +kernel
theorem jd_l1c_2 : decode prog_19_method_2_code 2 = .ok (.arraylength, 1) := by decide +kernel
theorem jd_l1c_3 : decode prog_19_method_2_code 3 = .ok (.invokestatic 9, 3) := by decide +kernel
theorem jd_l1c_6 : decode prog_19_method_2_code 6 = .ok (.aload_n 0, 1) := by decide +kernel
theorem jd_l1c_7 : decode prog_19_method_2_code 7 = .ok (.iload_n 1, 1) := by decide +kernel
theorem jd_l1c_8 : decode prog_19_method_2_code 8 = .ok (.baload, 1) := by decide +kernel
theorem jd_l1c_9 : decode prog_19_method_2_code 9 = .ok (.sipush 255, 3) := by decide +kernel
theorem jd_l1c_12 : decode prog_19_method_2_code 12 = .ok (.iand, 1) := by decide +kernel
theorem jd_l1c_13 : decode prog_19_method_2_code 13 = .ok (.i2c, 1) := by decide +kernel
theorem jd_l1c_14 : decode prog_19_method_2_code 14 = .ok (.ireturn, 1) := by decide +kernel
def jN (i : Nat) : Nat := ([126, 11] : List Nat).getD i 0
def jC (i k : Nat) : Int32 := (jB.getD i []).getD k 0
theorem j_byte : ∀ (i : Fin 2) (k : Fin 126), k.val < jN i.val → ((jC i.val k.val &&& 255).toUInt32 % 65536).toInt32 = jC i.val k.val ∧ narrow .char (.int (jC i.val k.val)) = .int (jC i.val k.val) ∧ jC i.val k.val &&& 255 = jC i.val k.val ∧ (jC i.val k.val).toInt8.toInt32 = jC i.val k.val := by decide +kernel
theorem jN_le {i : Nat} (hi : i < 2) : jN i ≤ 126 := by rcases (show i = 0 ∨ i = 1 by omega) with rfl | rfl <;> decide
theorem j_lt {i : Nat} (hi : i < 2) {x : Int32} (h0 : ¬ x < 0) (h1 : x.toNatClampNeg < jN i) : x < Int32.ofNat (jN i) := by
  have := jN_le hi
  rw [Int32.lt_iff_toInt_lt] at h0 ⊢
  rw [Int32.toInt_ofNat_of_lt (by omega)]
  have e : x.toNatClampNeg = x.toInt.toNat := rfl
  have z : (0 : Int32).toInt = 0 := rfl
  omega
set_option maxHeartbeats 4000000 in
theorem j_l1c (l : Launch) {i : Nat} (hi : i < 2) {x : Int32} (h0 : ¬ x < 0) (h1 : x.toNatClampNeg < jN i) : Met l ⟨"java/lang/StringLatin1", "charAt", "([BI)C"⟩ (Cond.code ⟨"java/lang/StringLatin1", "charAt", "([BI)C"⟩ prog_19_method_2_code 2 (some .char) :: am_T) (jrm 2) (jPc b st HB adV [.ref (adV i), .int x]) (jQc (some (.int (jC i x.toNatClampNeg)))) 0 0 (fun q => b ≤ q) := by
  refine Met.ofW (cc := prog_19_method_2_code) (maxL := 2) (ret := (some .char)) (by decide) rfl ?_
  intro p e s m args below meth c s₁ B hml hv
  obtain ⟨rfl, hX, hH⟩ := hv
  have hx := B.exec
  have hb := B.bytes
  have hr := B.returns
  have hts0 := atoms_spec (ws := Cond.code ⟨"java/lang/StringLatin1", "charAt", "([BI)C"⟩ prog_19_method_2_code 2 (some .char) :: am_T) B.pre
  have hts : ∀ w ∈ am_T, w.before _ s = true := fun w hw => hts0 w (List.mem_cons_of_mem _ hw)
  have hown : s.vm.findClass "java/lang/StringLatin1" = some m.cls := findClass_of_methodNamed B.named
  have hlocks := B.notSynchronized
  have hS : va_S (fun q => b ≤ q) s.heap s.heap [] := va_S.rf
  have hE := vk_S.kept hX.2.2.2.2 (H1 := s.heap) (fun a _ hA => hH a (by omega))
  have hC := va_Z.kept hX.2.2.2.1.1 (H1 := s.heap) (fun a _ hA => hH a (by omega))
  have hl := lv_entry ([.ref (adV i), .int x]) (n := 2) (Nat.le_of_ble_eq_true rfl)
  rw [lg_entry_eq]
  generalize (lg_sl ([.ref (adV i), .int x]) ++ List.replicate (2 - (lg_sl ([.ref (adV i), .int x])).length) Slot.unset).toArray = ls at hl ⊢
  have hl : lv_has ls 2 [(0, .ref (adV i)), (1, .int x)] := hl
  have jb := j_byte ⟨i, hi⟩ ⟨x.toNatClampNeg, by have := jN_le hi; omega⟩ h1
  dsimp only at jb
  refine lv_iload_n hx hb jd_l1c_0 rfl (lv_at hl 1 rfl) ?_
  refine lv_aload_n hx hb jd_l1c_1 rfl (lv_at hl 0 rfl) ?_
  refine va_tlen hx hb (hE.1 i hi).2.2.2 hS rfl jd_l1c_2 ?_
  refine jc_S (n := 2) (vs := [.int x, .int (Int32.ofNat (jN i))]) (rest := []) hx hb hml hown hts hX hH (j_chk l h0 (j_lt hi h0 h1)) (am_has_in (i := 462) (by decide +kernel)) (am_has_in (i := 14) (by decide +kernel)) (am_has_in (i := 460) (by decide +kernel)) (am_has_in (i := 461) (by decide +kernel)) (by decide) rfl ⟨by decide, by decide⟩ ⟨Nat.le_refl _, Nat.le_refl _⟩ hl.1 (Nat.le_of_ble_eq_true rfl) jd_l1c_3 (fun q hq => by cases hq) (fun locs1 hl1 => ?_)
  refine lv_aload_n hx hb jd_l1c_6 rfl (lv_at hl 0 rfl) ?_
  refine lv_iload_n hx hb jd_l1c_7 rfl (lv_at hl 1 rfl) ?_
  refine va_tb hx hb (hE.1 i hi).2.2.2 ⟨Nat.le_refl _, fun a _ _ => rfl, hl1⟩ (i := x) (fun h => h.elim h0 (fun h => by have h1 : x.toNatClampNeg < ([126, 11] : List Nat).getD i 0 := h1; omega)) (v := .int (jC i x.toNatClampNeg)) rfl jd_l1c_8 ?_
  refine lv_sipush hx hb jd_l1c_9 rfl ?_
  refine lv_iand hx hb jd_l1c_12 ?_
  refine lv_i2c hx hb jd_l1c_13 jb.1 ?_
  exact W.zret hx hb hr jb.2.1 (fun t ht hW => ⟨rfl, ht⟩) hl1 jd_l1c_14
theorem jd_chA_0 : decode prog_18_method_56_code 0 = .ok (.aload_n 0, 1) := by decide +kernel
theorem jd_chA_1 : decode prog_18_method_56_code 1 = .ok (.invokevirtual 492, 3) := by decide +kernel
theorem jd_chA_4 : decode prog_18_method_56_code 4 = .ok (.ifCond .eq 12, 3) := by decide +kernel
theorem jd_chA_7 : decode prog_18_method_56_code 7 = .ok (.aload_n 0, 1) := by decide +kernel
theorem jd_chA_8 : decode prog_18_method_56_code 8 = .ok (.getfield 9, 3) := by decide +kernel
theorem jd_chA_11 : decode prog_18_method_56_code 11 = .ok (.iload_n 1, 1) := by decide +kernel
theorem jd_chA_12 : decode prog_18_method_56_code 12 = .ok (.invokestatic 495, 3) := by decide +kernel
theorem jd_chA_15 : decode prog_18_method_56_code 15 = .ok (.ireturn, 1) := by decide +kernel
set_option maxHeartbeats 4000000 in
theorem j_charAt (l : Launch) {i : Nat} (hi : i < 2) {x : Int32} (h0 : ¬ x < 0) (h1 : x.toNatClampNeg < jN i) : Met l ⟨"java/lang/String", "charAt", "(I)C"⟩ (Cond.code ⟨"java/lang/String", "charAt", "(I)C"⟩ prog_18_method_56_code 2 (some .char) :: am_T) (jrm 3) (jPc b st HB adV [.ref (st (10 + i)), .int x]) (jQc (some (.int (jC i x.toNatClampNeg)))) 0 0 (fun q => b ≤ q) := by
  refine Met.ofW (cc := prog_18_method_56_code) (maxL := 2) (ret := (some .char)) (by decide) rfl ?_
  intro p e s m args below meth c s₁ B hml hv
  obtain ⟨rfl, hX, hH⟩ := hv
  have hx := B.exec
  have hb := B.bytes
  have hr := B.returns
  have hts0 := atoms_spec (ws := Cond.code ⟨"java/lang/String", "charAt", "(I)C"⟩ prog_18_method_56_code 2 (some .char) :: am_T) B.pre
  have hts : ∀ w ∈ am_T, w.before _ s = true := fun w hw => hts0 w (List.mem_cons_of_mem _ hw)
  have hown : s.vm.findClass "java/lang/String" = some m.cls := findClass_of_methodNamed B.named
  have hlocks := B.notSynchronized
  have hS : va_S (fun q => b ≤ q) s.heap s.heap [] := va_S.rf
  have hE := vk_S.kept hX.2.2.2.2 (H1 := s.heap) (fun a _ hA => hH a (by omega))
  have hC := va_Z.kept hX.2.2.2.1.1 (H1 := s.heap) (fun a _ hA => hH a (by omega))
  have hl := lv_entry ([.ref (st (10 + i)), .int x]) (n := 2) (Nat.le_of_ble_eq_true rfl)
  rw [lg_entry_eq]
  generalize (lg_sl ([.ref (st (10 + i)), .int x]) ++ List.replicate (2 - (lg_sl ([.ref (st (10 + i)), .int x])).length) Slot.unset).toArray = ls at hl ⊢
  have hl : lv_has ls 2 [(0, .ref (st (10 + i))), (1, .int x)] := hl
  have jb := j_byte ⟨i, hi⟩ ⟨x.toNatClampNeg, by have := jN_le hi; omega⟩ h1
  dsimp only at jb
  refine lv_aload_n hx hb jd_chA_0 rfl (lv_at hl 0 rfl) ?_
  refine jc_V hi hx hb hml hown hts hX hH (j_isLatin1 l hi) (am_has_in (i := 456) (by decide +kernel)) (am_has_in (i := 14) (by decide +kernel)) (am_has_in (i := 453) (by decide +kernel)) (am_has_in (i := 454) (by decide +kernel)) (am_has_in (i := 455) (by decide +kernel)) rfl (by decide) rfl ⟨by decide, by decide⟩ ⟨Nat.le_refl _, Nat.le_refl _⟩ hl.1 (Nat.le_of_ble_eq_true rfl) jd_chA_1 (fun q hq => by cases hq) (fun locs1 hl1 => ?_)
  refine lv_if_eq hx hb jd_chA_4 rfl (fun h => absurd h (by decide)) (fun _ => ?_)
  refine lv_aload_n hx hb jd_chA_7 rfl (lv_at hl 0 rfl) ?_
  refine vk_getf hx hb (hE.1 i hi).2.2.1 ⟨Nat.le_refl _, fun a _ _ => rfl, hl1⟩ hown (hts _ (am_has_in (i := 1900) (by decide +kernel))) (fun _ h => h) jd_chA_8 ?_
  refine lv_iload_n hx hb jd_chA_11 rfl (lv_at hl 1 rfl) ?_
  refine jc_S (n := 2) (vs := [.ref (adV i), .int x]) (rest := []) hx hb hml hown hts hX hH (j_l1c l hi h0 h1) (am_has_in (i := 459) (by decide +kernel)) (am_has_in (i := 15) (by decide +kernel)) (am_has_in (i := 457) (by decide +kernel)) (am_has_in (i := 458) (by decide +kernel)) (by decide) rfl ⟨by decide, by decide⟩ ⟨Nat.le_refl _, Nat.le_refl _⟩ hl.1 (Nat.le_of_ble_eq_true rfl) jd_chA_12 hl1 (fun locs1 hl1 => ?_)
  exact W.zret hx hb hr jb.2.1 (fun t ht hW => ⟨rfl, ht⟩) hl1 jd_chA_15
end JM
