section JX
variable {b : Nat} {st adV : Nat → Nat} {HB : Heap}
theorem j_pos : ∀ (i : Fin 2) (k : Fin 126), k.val < jN i.val → ¬ jC i.val k.val < 0 ∧ jC i.val k.val < 128 := by decide +kernel
theorem j_ch8 : ∀ ch : Fin 256, (ch.val < 128 → (Int32.ofNat ch.val).toInt8.toInt32 = Int32.ofNat ch.val) ∧ (128 ≤ ch.val → (Int32.ofNat ch.val).toInt8.toInt32 < 0 ∧ ¬ Int32.ofNat ch.val < 128) := by decide +kernel
theorem j_i32 {x : Int32} (h0 : ¬ x < 0) : ∃ k : Nat, x = Int32.ofNat k ∧ k < 2147483648 ∧ (k : Int) = x.toInt := by
  rw [Int32.lt_iff_toInt_lt] at h0
  have z : (0 : Int32).toInt = 0 := rfl
  have hi := Int32.toInt_lt x
  refine ⟨x.toInt.toNat, ?_, by omega, by omega⟩
  apply Int32.toInt_inj.mp
  rw [Int32.toInt_ofNat_of_lt (by omega)]
  omega
theorem j_same {i : Nat} (hi : i < 2) {x : Int32} (h0 : ¬ x < 0) (h1 : ¬ 255 < x) {k : Nat} (hk : k < jN i) : jC i k = x.toInt8.toInt32 ↔ jC i k = x := by
  have jp := j_pos ⟨i, hi⟩ ⟨k, by have := jN_le hi; omega⟩ hk
  dsimp only at jp
  obtain ⟨n, rfl, hn, en⟩ := j_i32 h0
  have h255 : n < 256 := by
    rw [Int32.lt_iff_toInt_lt] at h1
    have z : (255 : Int32).toInt = 255 := rfl
    omega
  have c8 := j_ch8 ⟨n, h255⟩
  dsimp only at c8
  by_cases c : n < 128
  · rw [c8.1 c]
  · obtain ⟨c1, c2⟩ := c8.2 (by omega)
    constructor
    · intro h; rw [h] at jp; exact absurd c1 jp.1
    · intro h; rw [h] at jp; exact absurd jp.2 c2
theorem j_ixs {i : Nat} (hi : i < 2) {x : Int32} (h0 : ¬ x < 0) (h1 : ¬ 255 < x) : ∀ (r k : Nat), k + r ≤ jN i → am_ix (jC i) x.toInt8.toInt32 r k = am_ix (jC i) x r k
  | 0, _, _ => rfl
  | r + 1, k, h => by
    rw [am_ix, am_ix, j_ixs hi h0 h1 r (k + 1) (by omega)]
    by_cases c : jC i k = x
    · rw [if_pos c, if_pos ((j_same hi h0 h1 (by omega)).mpr c)]
    · rw [if_neg c, if_neg (fun g => c ((j_same hi h0 h1 (by omega)).mp g))]
theorem j_ixo {i : Nat} (hi : i < 2) {x : Int32} (h : x < 0 ∨ 255 < x) : ∀ (r k : Nat), k + r ≤ jN i → am_ix (jC i) x r k = -1
  | 0, _, _ => rfl
  | r + 1, k, hk => by
    have jp := j_pos ⟨i, hi⟩ ⟨k, by have := jN_le hi; omega⟩ (by show k < jN i; omega)
    dsimp only at jp
    rw [am_ix, if_neg, j_ixo hi h r (k + 1) (by omega)]
    intro e
    rw [e] at jp
    rcases h with h | h
    · exact jp.1 h
    · rw [Int32.lt_iff_toInt_lt] at h
      have := jp.2
      rw [Int32.lt_iff_toInt_lt] at this
      have z1 : (255 : Int32).toInt = 255 := rfl
      have z2 : (128 : Int32).toInt = 128 := rfl
      omega
theorem jd_can_0 : decode prog_19_method_4_code 0 = .ok (.iload_n 0, 1) := by decide +kernel
theorem jd_can_1 : decode prog_19_method_4_code 1 = .ok (.ifCond .lt 14, 3) := by decide +kernel
theorem jd_can_4 : decode prog_19_method_4_code 4 = .ok (.iload_n 0, 1) := by decide +kernel
theorem jd_can_5 : decode prog_19_method_4_code 5 = .ok (.sipush 255, 3) := by decide +kernel
theorem jd_can_8 : decode prog_19_method_4_code 8 = .ok (.if_icmp .gt 7, 3) := by decide +kernel
theorem jd_can_11 : decode prog_19_method_4_code 11 = .ok (.iconst 1, 1) := by decide +kernel
theorem jd_can_12 : decode prog_19_method_4_code 12 = .ok (.goto 4, 3) := by decide +kernel
theorem jd_can_15 : decode prog_19_method_4_code 15 = .ok (.iconst 0, 1) := by decide +kernel
theorem jd_can_16 : decode prog_19_method_4_code 16 = .ok (.ireturn, 1) := by decide +kernel
set_option maxHeartbeats 4000000 in
theorem j_can (l : Launch) {x : Int32} : Met l ⟨"java/lang/StringLatin1", "canEncode", "(I)Z"⟩ (Cond.code ⟨"java/lang/StringLatin1", "canEncode", "(I)Z"⟩ prog_19_method_4_code 1 (some .boolean) :: am_T) (jrm 0) (jPc b st HB adV [.int x]) (jQc (some (.int (if x < 0 ∨ 255 < x then 0 else 1)))) 0 0 (fun q => b ≤ q) := by
  refine Met.ofW (cc := prog_19_method_4_code) (maxL := 1) (ret := (some .boolean)) (by decide) rfl ?_
  intro p e s m args below meth c s₁ B hml hv
  obtain ⟨rfl, hX, hH⟩ := hv
  have hx := B.exec
  have hb := B.bytes
  have hr := B.returns
  have hts0 := atoms_spec (ws := Cond.code ⟨"java/lang/StringLatin1", "canEncode", "(I)Z"⟩ prog_19_method_4_code 1 (some .boolean) :: am_T) B.pre
  have hts : ∀ w ∈ am_T, w.before _ s = true := fun w hw => hts0 w (List.mem_cons_of_mem _ hw)
  have hown : s.vm.findClass "java/lang/StringLatin1" = some m.cls := findClass_of_methodNamed B.named
  have hlocks := B.notSynchronized
  have hS : va_S (fun q => b ≤ q) s.heap s.heap [] := va_S.rf
  have hE := vk_S.kept hX.2.2.2.2 (H1 := s.heap) (fun a _ hA => hH a (by omega))
  have hC := va_Z.kept hX.2.2.2.1.1 (H1 := s.heap) (fun a _ hA => hH a (by omega))
  have hl := lv_entry ([.int x]) (n := 1) (Nat.le_of_ble_eq_true rfl)
  rw [lg_entry_eq]
  generalize (lg_sl ([.int x]) ++ List.replicate (1 - (lg_sl ([.int x])).length) Slot.unset).toArray = ls at hl ⊢
  have hl : lv_has ls 1 [(0, .int x)] := hl
  refine lv_iload_n hx hb jd_can_0 rfl (lv_at hl 0 rfl) ?_
  refine lv_if_lt hx hb jd_can_1 rfl (fun h => ?_) (fun h => ?_)
  · rw [if_pos (Or.inl h)]
    refine lv_iconst hx hb jd_can_15 rfl ?_
    exact W.zret hx hb hr rfl (fun t ht hW => ⟨rfl, ht⟩) (fun q hq => by cases hq) jd_can_16
  · refine lv_iload_n hx hb jd_can_4 rfl (lv_at hl 0 rfl) ?_
    refine lv_sipush hx hb (v := 255) jd_can_5 rfl ?_
    refine lv_icmp_gt hx hb jd_can_8 rfl (fun h2 => ?_) (fun h2 => ?_)
    · rw [if_pos (Or.inr h2)]
      refine lv_iconst hx hb jd_can_15 rfl ?_
      exact W.zret hx hb hr rfl (fun t ht hW => ⟨rfl, ht⟩) (fun q hq => by cases hq) jd_can_16
    · rw [if_neg (fun g => g.elim h h2)]
      refine lv_iconst hx hb jd_can_11 rfl ?_
      refine lv_goto hx hb jd_can_12 rfl ?_
      exact W.zret hx hb hr rfl (fun t ht hW => ⟨rfl, ht⟩) (fun q hq => by cases hq) jd_can_16
theorem jd_ixc_0 : decode prog_19_method_23_code 0 = .ok (.iload_n 1, 1) := by decide +kernel
theorem jd_ixc_1 : decode prog_19_method_23_code 1 = .ok (.i2b, 1) := by decide +kernel
theorem jd_ixc_2 : decode prog_19_method_23_code 2 = .ok (.istore 4, 2) := by decide +kernel
theorem jd_ixc_4 : decode prog_19_method_23_code 4 = .ok (.iload_n 2, 1) := by decide +kernel
theorem jd_ixc_5 : decode prog_19_method_23_code 5 = .ok (.istore 5, 2) := by decide +kernel
theorem jd_ixc_7 : decode prog_19_method_23_code 7 = .ok (.iload 5, 2) := by decide +kernel
theorem jd_ixc_9 : decode prog_19_method_23_code 9 = .ok (.iload_n 3, 1) := by decide +kernel
theorem jd_ixc_10 : decode prog_19_method_23_code 10 = .ok (.if_icmp .ge 21, 3) := by decide +kernel
theorem jd_ixc_13 : decode prog_19_method_23_code 13 = .ok (.aload_n 0, 1) := by decide +kernel
theorem jd_ixc_14 : decode prog_19_method_23_code 14 = .ok (.iload 5, 2) := by decide +kernel
theorem jd_ixc_16 : decode prog_19_method_23_code 16 = .ok (.baload, 1) := by decide +kernel
theorem jd_ixc_17 : decode prog_19_method_23_code 17 = .ok (.iload 4, 2) := by decide +kernel
theorem jd_ixc_19 : decode prog_19_method_23_code 19 = .ok (.if_icmp .ne 6, 3) := by decide +kernel
theorem jd_ixc_22 : decode prog_19_method_23_code 22 = .ok (.iload 5, 2) := by decide +kernel
theorem jd_ixc_24 : decode prog_19_method_23_code 24 = .ok (.ireturn, 1) := by decide +kernel
theorem jd_ixc_25 : decode prog_19_method_23_code 25 = .ok (.iinc 5 1, 3) := by decide +kernel
theorem jd_ixc_28 : decode prog_19_method_23_code 28 = .ok (.goto (-21), 3) := by decide +kernel
theorem jd_ixc_31 : decode prog_19_method_23_code 31 = .ok (.iconst (-1), 1) := by decide +kernel
theorem jd_ixc_32 : decode prog_19_method_23_code 32 = .ok (.ireturn, 1) := by decide +kernel
theorem j_ofNat {k n : Nat} (hn : n ≤ 126) (hk : k ≤ n) : (Int32.ofNat n ≤ Int32.ofNat k ↔ n ≤ k) ∧ (Int32.ofNat k).toNatClampNeg = k ∧ ¬ Int32.ofNat k < 0 ∧ Int32.ofNat k + Int32.ofInt 1 = Int32.ofNat (k + 1) := by
  have e1 : (Int32.ofNat k).toInt = k := Int32.toInt_ofNat_of_lt (by omega)
  have e2 : (Int32.ofNat n).toInt = n := Int32.toInt_ofNat_of_lt (by omega)
  refine ⟨by rw [Int32.le_iff_toInt_le, e1, e2]; omega, ?_, ?_, ?_⟩
  · show (Int32.ofNat k).toInt.toNat = k
    rw [e1]; omega
  · rw [Int32.lt_iff_toInt_lt, e1]
    have z : (0 : Int32).toInt = 0 := rfl
    omega
  · rw [Int32.ofNat_add]; rfl
set_option maxHeartbeats 4000000 in
theorem j_ixc (l : Launch) {i : Nat} (hi : i < 2) {x : Int32} : Met l ⟨"java/lang/StringLatin1", "indexOfChar", "([BIII)I"⟩ (Cond.code ⟨"java/lang/StringLatin1", "indexOfChar", "([BIII)I"⟩ prog_19_method_23_code 6 (some .int) :: am_T) (jrm 0) (jPc b st HB adV [.ref (adV i), .int x, .int 0, .int (Int32.ofNat (jN i))]) (jQc (some (.int (am_ix (jC i) x.toInt8.toInt32 (jN i) 0)))) 0 0 (fun q => b ≤ q) := by
  refine Met.ofW (cc := prog_19_method_23_code) (maxL := 6) (ret := (some .int)) (by decide) rfl ?_
  intro p e s m args below meth c s₁ B hml hv
  obtain ⟨rfl, hX, hH⟩ := hv
  have hx := B.exec
  have hb := B.bytes
  have hr := B.returns
  have hts0 := atoms_spec (ws := Cond.code ⟨"java/lang/StringLatin1", "indexOfChar", "([BIII)I"⟩ prog_19_method_23_code 6 (some .int) :: am_T) B.pre
  have hts : ∀ w ∈ am_T, w.before _ s = true := fun w hw => hts0 w (List.mem_cons_of_mem _ hw)
  have hown : s.vm.findClass "java/lang/StringLatin1" = some m.cls := findClass_of_methodNamed B.named
  have hlocks := B.notSynchronized
  have hS : va_S (fun q => b ≤ q) s.heap s.heap [] := va_S.rf
  have hE := vk_S.kept hX.2.2.2.2 (H1 := s.heap) (fun a _ hA => hH a (by omega))
  have hC := va_Z.kept hX.2.2.2.1.1 (H1 := s.heap) (fun a _ hA => hH a (by omega))
  have hl := lv_entry ([.ref (adV i), .int x, .int 0, .int (Int32.ofNat (jN i))]) (n := 6) (Nat.le_of_ble_eq_true rfl)
  rw [lg_entry_eq]
  generalize (lg_sl ([.ref (adV i), .int x, .int 0, .int (Int32.ofNat (jN i))]) ++ List.replicate (6 - (lg_sl ([.ref (adV i), .int x, .int 0, .int (Int32.ofNat (jN i))])).length) Slot.unset).toArray = ls at hl ⊢
  have hl : lv_has ls 6 [(0, .ref (adV i)), (1, .int x), (2, .int 0), (3, .int (Int32.ofNat (jN i)))] := hl
  have jn := jN_le hi
  refine lv_iload_n hx hb jd_ixc_0 rfl (lv_at hl 1 rfl) ?_
  refine lv_i2b hx hb jd_ixc_1 rfl ?_
  refine lv_istore hx hb jd_ixc_2 hl (by decide) rfl (fun ls1 hl1 => ?_)
  refine lv_iload_n hx hb jd_ixc_4 rfl (lv_at hl1 3 rfl) ?_
  refine lv_istore hx hb jd_ixc_5 hl1 (by decide) rfl (fun ls2 hl2 => ?_)
  have key : ∀ (r k : Nat), k + r = jN i → ∀ ls3 : Array Slot, lv_has ls3 6 [(5, .int (Int32.ofNat k)), (4, .int x.toInt8.toInt32), (0, .ref (adV i)), (1, .int x), (2, .int 0), (3, .int (Int32.ofNat (jN i)))] → W p l e (headSpec (Cond.code ⟨"java/lang/StringLatin1", "indexOfChar", "([BIII)I"⟩ prog_19_method_23_code 6 (some .int) :: am_T) (jrm 0)).room s m #[.ref (adV i), .int x, .int 0, .int (Int32.ofNat (jN i))] below meth c s.heap [] 0 0 (MQ below (jQc (some (.int (am_ix (jC i) x.toInt8.toInt32 r k)))) #[.ref (adV i), .int x, .int 0, .int (Int32.ofNat (jN i))] s 0 0 (fun q => b ≤ q)) (F0 m 7 ls3 []) := by
    intro r
    induction r with
    | zero =>
      intro k hk ls3 h3
      obtain ⟨o1, o2, o3, o4⟩ := j_ofNat (k := k) jn (by omega)
      refine lv_iload hx hb jd_ixc_7 (lv_at h3 0 rfl) ?_
      refine lv_iload_n hx hb jd_ixc_9 rfl (lv_at h3 5 rfl) ?_
      refine lv_icmp_ge hx hb jd_ixc_10 rfl (fun _ => ?_) (fun h => absurd (o1.mpr (by omega)) h)
      refine lv_iconst hx hb jd_ixc_31 rfl ?_
      exact W.iret hx hb hr (fun t ht hW => ⟨rfl, ht⟩) (fun q hq => by cases hq) jd_ixc_32
    | succ r ih =>
      intro k hk ls3 h3
      obtain ⟨o1, o2, o3, o4⟩ := j_ofNat (k := k) jn (by omega)
      refine lv_iload hx hb jd_ixc_7 (lv_at h3 0 rfl) ?_
      refine lv_iload_n hx hb jd_ixc_9 rfl (lv_at h3 5 rfl) ?_
      refine lv_icmp_ge hx hb jd_ixc_10 rfl (fun h => absurd (o1.mp h) (by omega)) (fun _ => ?_)
      refine lv_aload_n hx hb jd_ixc_13 rfl (lv_at h3 2 rfl) ?_
      refine lv_iload hx hb jd_ixc_14 (lv_at h3 0 rfl) ?_
      refine va_tb hx hb (hE.1 i hi).2.2.2 hS (i := Int32.ofNat k) (fun h => h.elim o3 (fun h => by rw [o2] at h; have hk2 : k < ([126, 11] : List Nat).getD i 0 := (show k < jN i by omega); omega)) (v := .int (jC i k)) (by rw [o2]; rfl) jd_ixc_16 ?_
      refine lv_iload hx hb jd_ixc_17 (lv_at h3 1 rfl) ?_
      rw [am_ix]
      refine lv_icmp_ne hx hb jd_ixc_19 rfl (fun h => ?_) (fun h => ?_)
      · rw [if_neg h]
        refine lv_iinc hx hb jd_ixc_25 h3 (k := 0) rfl o4 (by decide) rfl (fun ls4 h4 => ?_)
        refine lv_goto hx hb jd_ixc_28 rfl ?_
        exact ih (k + 1) (by omega) ls4 h4
      · rw [if_pos h]
        refine lv_iload hx hb jd_ixc_22 (lv_at h3 0 rfl) ?_
        exact W.iret hx hb hr (fun t ht hW => ⟨rfl, ht⟩) (fun q hq => by cases hq) jd_ixc_24
  exact key (jN i) 0 (by omega) ls2 hl2
theorem jd_l1x_0 : decode prog_19_method_22_code 0 = .ok (.iload_n 1, 1) := by decide +kernel
theorem jd_l1x_1 : decode prog_19_method_22_code 1 = .ok (.invokestatic 88, 3) := by decide +kernel
theorem jd_l1x_4 : decode prog_19_method_22_code 4 = .ok (.ifCond .ne 5, 3) := by decide +kernel
theorem jd_l1x_7 : decode prog_19_method_22_code 7 = .ok (.iconst (-1), 1) := by decide +kernel
theorem jd_l1x_8 : decode prog_19_method_22_code 8 = .ok (.ireturn, 1) := by decide +kernel
theorem jd_l1x_9 : decode prog_19_method_22_code 9 = .ok (.iload_n 2, 1) := by decide +kernel
theorem jd_l1x_10 : decode prog_19_method_22_code 10 = .ok (.iconst 0, 1) := by decide +kernel
theorem jd_l1x_11 : decode prog_19_method_22_code 11 = .ok (.invokestatic 92, 3) := by decide +kernel
theorem jd_l1x_14 : decode prog_19_method_22_code 14 = .ok (.istore_n 2, 1) := by decide +kernel
theorem jd_l1x_15 : decode prog_19_method_22_code 15 = .ok (.iload_n 3, 1) := by decide +kernel
theorem jd_l1x_16 : decode prog_19_method_22_code 16 = .ok (.aload_n 0, 1) := by decide +kernel
theorem jd_l1x_17 : decode prog_19_method_22_code 17 = .ok (.arraylength, 1) := by decide +kernel
theorem jd_l1x_18 : decode prog_19_method_22_code 18 = .ok (.invokestatic 38, 3) := by decide +kernel
theorem jd_l1x_21 : decode prog_19_method_22_code 21 = .ok (.istore_n 3, 1) := by decide +kernel
theorem jd_l1x_22 : decode prog_19_method_22_code 22 = .ok (.iload_n 2, 1) := by decide +kernel
theorem jd_l1x_23 : decode prog_19_method_22_code 23 = .ok (.iload_n 3, 1) := by decide +kernel
theorem jd_l1x_24 : decode prog_19_method_22_code 24 = .ok (.if_icmp .lt 5, 3) := by decide +kernel
theorem jd_l1x_29 : decode prog_19_method_22_code 29 = .ok (.aload_n 0, 1) := by decide +kernel
theorem jd_l1x_30 : decode prog_19_method_22_code 30 = .ok (.iload_n 1, 1) := by decide +kernel
theorem jd_l1x_31 : decode prog_19_method_22_code 31 = .ok (.iload_n 2, 1) := by decide +kernel
theorem jd_l1x_32 : decode prog_19_method_22_code 32 = .ok (.iload_n 3, 1) := by decide +kernel
theorem jd_l1x_33 : decode prog_19_method_22_code 33 = .ok (.invokestatic 95, 3) := by decide +kernel
theorem jd_l1x_36 : decode prog_19_method_22_code 36 = .ok (.ireturn, 1) := by decide +kernel
set_option maxHeartbeats 4000000 in
theorem j_l1x (l : Launch) {i : Nat} (hi : i < 2) {x : Int32} : Met l ⟨"java/lang/StringLatin1", "indexOf", "([BIII)I"⟩ (Cond.code ⟨"java/lang/StringLatin1", "indexOf", "([BIII)I"⟩ prog_19_method_22_code 4 (some .int) :: am_T) (jrm 1) (jPc b st HB adV [.ref (adV i), .int x, .int 0, .int (Int32.ofNat (jN i))]) (jQc (some (.int (am_ix (jC i) x (jN i) 0)))) 0 0 (fun q => b ≤ q) := by
  refine Met.ofW (cc := prog_19_method_22_code) (maxL := 4) (ret := (some .int)) (by decide) rfl ?_
  intro p e s m args below meth c s₁ B hml hv
  obtain ⟨rfl, hX, hH⟩ := hv
  have hx := B.exec
  have hb := B.bytes
  have hr := B.returns
  have hts0 := atoms_spec (ws := Cond.code ⟨"java/lang/StringLatin1", "indexOf", "([BIII)I"⟩ prog_19_method_22_code 4 (some .int) :: am_T) B.pre
  have hts : ∀ w ∈ am_T, w.before _ s = true := fun w hw => hts0 w (List.mem_cons_of_mem _ hw)
  have hown : s.vm.findClass "java/lang/StringLatin1" = some m.cls := findClass_of_methodNamed B.named
  have hlocks := B.notSynchronized
  have hS : va_S (fun q => b ≤ q) s.heap s.heap [] := va_S.rf
  have hE := vk_S.kept hX.2.2.2.2 (H1 := s.heap) (fun a _ hA => hH a (by omega))
  have hC := va_Z.kept hX.2.2.2.1.1 (H1 := s.heap) (fun a _ hA => hH a (by omega))
  have hl := lv_entry ([.ref (adV i), .int x, .int 0, .int (Int32.ofNat (jN i))]) (n := 4) (Nat.le_of_ble_eq_true rfl)
  rw [lg_entry_eq]
  generalize (lg_sl ([.ref (adV i), .int x, .int 0, .int (Int32.ofNat (jN i))]) ++ List.replicate (4 - (lg_sl ([.ref (adV i), .int x, .int 0, .int (Int32.ofNat (jN i))])).length) Slot.unset).toArray = ls at hl ⊢
  have hl : lv_has ls 4 [(0, .ref (adV i)), (1, .int x), (2, .int 0), (3, .int (Int32.ofNat (jN i)))] := hl
  refine lv_iload_n hx hb jd_l1x_0 rfl (lv_at hl 1 rfl) ?_
  refine jc_S (n := 1) (vs := [.int x]) (rest := []) hx hb hml hown hts hX hH (j_can l) (am_has_in (i := 516) (by decide +kernel)) (am_has_in (i := 15) (by decide +kernel)) (am_has_in (i := 514) (by decide +kernel)) (am_has_in (i := 515) (by decide +kernel)) (by decide) rfl ⟨by decide, by decide⟩ ⟨Nat.le_refl _, Nat.le_refl _⟩ hl.1 (Nat.le_of_ble_eq_true rfl) jd_l1x_1 (fun q hq => by cases hq) (fun locs1 hl1 => ?_)
  by_cases c : x < 0 ∨ 255 < x
  · rw [if_pos c, j_ixo hi c (jN i) 0 (by omega)]
    refine lv_if_ne hx hb jd_l1x_4 rfl (fun h => absurd rfl h) (fun _ => ?_)
    refine lv_iconst hx hb jd_l1x_7 rfl ?_
    exact W.iret hx hb hr (fun t ht hW => ⟨rfl, ht⟩) hl1 jd_l1x_8
  · rw [if_neg c]
    refine lv_if_ne hx hb jd_l1x_4 rfl (fun _ => ?_) (fun h => absurd h (by decide))
    refine lv_iload_n hx hb jd_l1x_9 rfl (lv_at hl 2 rfl) ?_
    refine lv_iconst hx hb jd_l1x_10 rfl ?_
    refine va_mmax hx hb (hml.trans hl.1.symm) hown (hts _ (am_has_in (i := 517) (by decide +kernel))) (hts _ (am_has_in (i := 518) (by decide +kernel))) (hts _ (am_has_in (i := 18) (by decide +kernel))) (hts _ (am_has_in (i := 519) (by decide +kernel))) (by decide) (by decide) (Nat.le_refl _) (Nat.le_refl _) jd_l1x_11 ?_
    refine lv_istore_n hx hb jd_l1x_14 rfl hl (by decide) rfl (fun ls2 hl2 => ?_)
    refine lv_iload_n hx hb jd_l1x_15 rfl (lv_at hl2 3 rfl) ?_
    refine lv_aload_n hx hb jd_l1x_16 rfl (lv_at hl2 1 rfl) ?_
    refine va_tlen hx hb (hE.1 i hi).2.2.2 ⟨Nat.le_refl _, fun a _ _ => rfl, hl1⟩ rfl jd_l1x_17 ?_
    refine va_mmin hx hb (hml.trans hl2.1.symm) hown (hts _ (am_has_in (i := 520) (by decide +kernel))) (hts _ (am_has_in (i := 495) (by decide +kernel))) (hts _ (am_has_in (i := 18) (by decide +kernel))) (hts _ (am_has_in (i := 496) (by decide +kernel))) (by decide) (by decide) (Nat.le_refl _) (Nat.le_refl _) jd_l1x_18 ?_
    have e1 : (if Int32.ofNat (([126, 11] : List Nat).getD i 0) < Int32.ofNat (jN i) then Int32.ofNat (([126, 11] : List Nat).getD i 0) else Int32.ofNat (jN i)) = Int32.ofNat (jN i) := ite_self _
    rw [e1]
    have hl2 : lv_has ls2 4 [(2, .int 0), (0, .ref (adV i)), (1, .int x), (3, .int (Int32.ofNat (jN i)))] := hl2
    refine lv_istore_n hx hb jd_l1x_21 rfl hl2 (by decide) rfl (fun ls3 hl3 => ?_)
    refine lv_iload_n hx hb jd_l1x_22 rfl (lv_at hl3 1 rfl) ?_
    refine lv_iload_n hx hb jd_l1x_23 rfl (lv_at hl3 0 rfl) ?_
    have c0 : (0 : Int32) < Int32.ofNat (jN i) := by rcases (show i = 0 ∨ i = 1 by omega) with rfl | rfl <;> decide
    refine lv_icmp_lt hx hb jd_l1x_24 rfl (fun _ => ?_) (fun h => absurd c0 h)
    refine lv_aload_n hx hb jd_l1x_29 rfl (lv_at hl3 2 rfl) ?_
    refine lv_iload_n hx hb jd_l1x_30 rfl (lv_at hl3 3 rfl) ?_
    refine lv_iload_n hx hb jd_l1x_31 rfl (lv_at hl3 1 rfl) ?_
    refine lv_iload_n hx hb jd_l1x_32 rfl (lv_at hl3 0 rfl) ?_
    refine jc_S (n := 4) (vs := [.ref (adV i), .int x, .int 0, .int (Int32.ofNat (jN i))]) (rest := []) hx hb hml hown hts hX hH (j_ixc l hi) (am_has_in (i := 523) (by decide +kernel)) (am_has_in (i := 15) (by decide +kernel)) (am_has_in (i := 521) (by decide +kernel)) (am_has_in (i := 522) (by decide +kernel)) (by decide) rfl ⟨by decide, by decide⟩ ⟨Nat.le_refl _, Nat.le_refl _⟩ hl3.1 (Nat.le_of_ble_eq_true rfl) jd_l1x_33 hl1 (fun locs1 hl1 => ?_)
    rw [← j_ixs hi (fun h => c (Or.inl h)) (fun h => c (Or.inr h)) (jN i) 0 (by omega)]
    exact W.iret hx hb hr (fun t ht hW => ⟨rfl, ht⟩) hl1 jd_l1x_36
theorem jd_ix2_0 : decode prog_18_method_80_code 0 = .ok (.aload_n 0, 1) := by decide +kernel
theorem jd_ix2_1 : decode prog_18_method_80_code 1 = .ok (.invokevirtual 492, 3) := by decide +kernel
theorem jd_ix2_4 : decode prog_18_method_80_code 4 = .ok (.ifCond .eq 19, 3) := by decide +kernel
theorem jd_ix2_7 : decode prog_18_method_80_code 7 = .ok (.aload_n 0, 1) := by decide +kernel
theorem jd_ix2_8 : decode prog_18_method_80_code 8 = .ok (.getfield 9, 3) := by decide +kernel
theorem jd_ix2_11 : decode prog_18_method_80_code 11 = .ok (.iload_n 1, 1) := by decide +kernel
theorem jd_ix2_12 : decode prog_18_method_80_code 12 = .ok (.iload_n 2, 1) := by decide +kernel
theorem jd_ix2_13 : decode prog_18_method_80_code 13 = .ok (.aload_n 0, 1) := by decide +kernel
theorem jd_ix2_14 : decode prog_18_method_80_code 14 = .ok (.invokevirtual 505, 3) := by decide +kernel
theorem jd_ix2_17 : decode prog_18_method_80_code 17 = .ok (.invokestatic 637, 3) := by decide +kernel
theorem jd_ix2_20 : decode prog_18_method_80_code 20 = .ok (.goto 16, 3) := by decide +kernel
theorem jd_ix2_36 : decode prog_18_method_80_code 36 = .ok (.ireturn, 1) := by decide +kernel
set_option maxHeartbeats 4000000 in
theorem j_ix2 (l : Launch) {i : Nat} (hi : i < 2) {x : Int32} : Met l ⟨"java/lang/String", "indexOf", "(II)I"⟩ (Cond.code ⟨"java/lang/String", "indexOf", "(II)I"⟩ prog_18_method_80_code 3 (some .int) :: am_T) (jrm 2) (jPc b st HB adV [.ref (st (10 + i)), .int x, .int 0]) (jQc (some (.int (am_ix (jC i) x (jN i) 0)))) 0 0 (fun q => b ≤ q) := by
  refine Met.ofW (cc := prog_18_method_80_code) (maxL := 3) (ret := (some .int)) (by decide) rfl ?_
  intro p e s m args below meth c s₁ B hml hv
  obtain ⟨rfl, hX, hH⟩ := hv
  have hx := B.exec
  have hb := B.bytes
  have hr := B.returns
  have hts0 := atoms_spec (ws := Cond.code ⟨"java/lang/String", "indexOf", "(II)I"⟩ prog_18_method_80_code 3 (some .int) :: am_T) B.pre
  have hts : ∀ w ∈ am_T, w.before _ s = true := fun w hw => hts0 w (List.mem_cons_of_mem _ hw)
  have hown : s.vm.findClass "java/lang/String" = some m.cls := findClass_of_methodNamed B.named
  have hlocks := B.notSynchronized
  have hS : va_S (fun q => b ≤ q) s.heap s.heap [] := va_S.rf
  have hE := vk_S.kept hX.2.2.2.2 (H1 := s.heap) (fun a _ hA => hH a (by omega))
  have hC := va_Z.kept hX.2.2.2.1.1 (H1 := s.heap) (fun a _ hA => hH a (by omega))
  have hl := lv_entry ([.ref (st (10 + i)), .int x, .int 0]) (n := 3) (Nat.le_of_ble_eq_true rfl)
  rw [lg_entry_eq]
  generalize (lg_sl ([.ref (st (10 + i)), .int x, .int 0]) ++ List.replicate (3 - (lg_sl ([.ref (st (10 + i)), .int x, .int 0])).length) Slot.unset).toArray = ls at hl ⊢
  have hl : lv_has ls 3 [(0, .ref (st (10 + i))), (1, .int x), (2, .int 0)] := hl
  refine lv_aload_n hx hb jd_ix2_0 rfl (lv_at hl 0 rfl) ?_
  refine jc_V hi hx hb hml hown hts hX hH (j_isLatin1 l hi) (am_has_in (i := 456) (by decide +kernel)) (am_has_in (i := 14) (by decide +kernel)) (am_has_in (i := 453) (by decide +kernel)) (am_has_in (i := 454) (by decide +kernel)) (am_has_in (i := 455) (by decide +kernel)) rfl (by decide) rfl ⟨by decide, by decide⟩ ⟨Nat.le_refl _, Nat.le_refl _⟩ hl.1 (Nat.le_of_ble_eq_true rfl) jd_ix2_1 (fun q hq => by cases hq) (fun locs1 hl1 => ?_)
  refine lv_if_eq hx hb jd_ix2_4 rfl (fun h => absurd h (by decide)) (fun _ => ?_)
  refine lv_aload_n hx hb jd_ix2_7 rfl (lv_at hl 0 rfl) ?_
  refine vk_getf hx hb (hE.1 i hi).2.2.1 ⟨Nat.le_refl _, fun a _ _ => rfl, hl1⟩ hown (hts _ (am_has_in (i := 1900) (by decide +kernel))) (fun _ h => h) jd_ix2_8 ?_
  refine lv_iload_n hx hb jd_ix2_11 rfl (lv_at hl 1 rfl) ?_
  refine lv_iload_n hx hb jd_ix2_12 rfl (lv_at hl 2 rfl) ?_
  refine lv_aload_n hx hb jd_ix2_13 rfl (lv_at hl 0 rfl) ?_
  refine jc_V hi hx hb hml hown hts hX hH (j_length l hi) (am_has_in (i := 442) (by decide +kernel)) (am_has_in (i := 14) (by decide +kernel)) (am_has_in (i := 510) (by decide +kernel)) (am_has_in (i := 440) (by decide +kernel)) (am_has_in (i := 441) (by decide +kernel)) rfl (by decide) rfl ⟨by decide, by decide⟩ ⟨Nat.le_refl _, Nat.le_refl _⟩ hl.1 (Nat.le_of_ble_eq_true rfl) jd_ix2_14 hl1 (fun locs1 hl1 => ?_)
  refine jc_S (n := 4) (vs := [.ref (adV i), .int x, .int 0, .int (Int32.ofNat (jN i))]) (rest := []) hx hb hml hown hts hX hH (j_l1x l hi) (am_has_in (i := 513) (by decide +kernel)) (am_has_in (i := 15) (by decide +kernel)) (am_has_in (i := 511) (by decide +kernel)) (am_has_in (i := 512) (by decide +kernel)) (by decide) rfl ⟨by decide, by decide⟩ ⟨Nat.le_refl _, Nat.le_refl _⟩ hl.1 (Nat.le_of_ble_eq_true rfl) jd_ix2_17 hl1 (fun locs1 hl1 => ?_)
  refine lv_goto hx hb jd_ix2_20 rfl ?_
  exact W.iret hx hb hr (fun t ht hW => ⟨rfl, ht⟩) hl1 jd_ix2_36
theorem jd_ix1_0 : decode prog_18_method_79_code 0 = .ok (.aload_n 0, 1) := by decide +kernel
theorem jd_ix1_1 : decode prog_18_method_79_code 1 = .ok (.iload_n 1, 1) := by decide +kernel
theorem jd_ix1_2 : decode prog_18_method_79_code 2 = .ok (.iconst 0, 1) := by decide +kernel
theorem jd_ix1_3 : decode prog_18_method_79_code 3 = .ok (.invokevirtual 633, 3) := by decide +kernel
theorem jd_ix1_6 : decode prog_18_method_79_code 6 = .ok (.ireturn, 1) := by decide +kernel
set_option maxHeartbeats 4000000 in
theorem j_ix1 (l : Launch) {i : Nat} (hi : i < 2) {x : Int32} : Met l ⟨"java/lang/String", "indexOf", "(I)I"⟩ (Cond.code ⟨"java/lang/String", "indexOf", "(I)I"⟩ prog_18_method_79_code 2 (some .int) :: am_T) (jrm 3) (jPc b st HB adV [.ref (st (10 + i)), .int x]) (jQc (some (.int (am_ix (jC i) x (jN i) 0)))) 0 0 (fun q => b ≤ q) := by
  refine Met.ofW (cc := prog_18_method_79_code) (maxL := 2) (ret := (some .int)) (by decide) rfl ?_
  intro p e s m args below meth c s₁ B hml hv
  obtain ⟨rfl, hX, hH⟩ := hv
  have hx := B.exec
  have hb := B.bytes
  have hr := B.returns
  have hts0 := atoms_spec (ws := Cond.code ⟨"java/lang/String", "indexOf", "(I)I"⟩ prog_18_method_79_code 2 (some .int) :: am_T) B.pre
  have hts : ∀ w ∈ am_T, w.before _ s = true := fun w hw => hts0 w (List.mem_cons_of_mem _ hw)
  have hown : s.vm.findClass "java/lang/String" = some m.cls := findClass_of_methodNamed B.named
  have hlocks := B.notSynchronized
  have hS : va_S (fun q => b ≤ q) s.heap s.heap [] := va_S.rf
  have hE := vk_S.kept hX.2.2.2.2 (H1 := s.heap) (fun a _ hA => hH a (by omega))
  have hC := va_Z.kept hX.2.2.2.1.1 (H1 := s.heap) (fun a _ hA => hH a (by omega))
  have hl := lv_entry ([.ref (st (10 + i)), .int x]) (n := 2) (Nat.le_of_ble_eq_true rfl)
  rw [lg_entry_eq]
  generalize (lg_sl ([.ref (st (10 + i)), .int x]) ++ List.replicate (2 - (lg_sl ([.ref (st (10 + i)), .int x])).length) Slot.unset).toArray = ls at hl ⊢
  have hl : lv_has ls 2 [(0, .ref (st (10 + i))), (1, .int x)] := hl
  refine lv_aload_n hx hb jd_ix1_0 rfl (lv_at hl 0 rfl) ?_
  refine lv_iload_n hx hb jd_ix1_1 rfl (lv_at hl 1 rfl) ?_
  refine lv_iconst hx hb jd_ix1_2 (v := 0) rfl ?_
  refine jc_V (n := 2) (vs := [.int x, .int 0]) (rest := []) hi hx hb hml hown hts hX hH (j_ix2 l hi) (am_has_in (i := 509) (by decide +kernel)) (am_has_in (i := 14) (by decide +kernel)) (am_has_in (i := 506) (by decide +kernel)) (am_has_in (i := 507) (by decide +kernel)) (am_has_in (i := 508) (by decide +kernel)) rfl (by decide) rfl ⟨by decide, by decide⟩ ⟨Nat.le_refl _, Nat.le_refl _⟩ hl.1 (Nat.le_of_ble_eq_true rfl) jd_ix1_3 (fun q hq => by cases hq) (fun locs1 hl1 => ?_)
  exact W.iret hx hb hr (fun t ht hW => ⟨rfl, ht⟩) hl1 jd_ix1_6
end JX
