/-! what the machine's tables and the old heap have of statics and Strings -/
def jW : String := "fades felt diner card eat smith polish day at with gives top if then else end or and not spoon mouth strong deep layers feels "
def jS : String := "+-*/()<>=#;"
def jB : List (List Int32) := [tzW.map Int32.ofInt, tzS.map Int32.ofInt]
def st_X (b : Nat) (st : Nat → Nat) (HB : Heap) (adV : Nat → Nat) (U : State) : Prop :=
  (va_Z "SpoonSet" "LEAST_TOLD" "[I" (.ref (st 0)) (fun q => b ≤ q) U HB ∧ va_Z "SpoonSet" "MOST_TOLD" "[I" (.ref (st 1)) (fun q => b ≤ q) U HB) ∧
  (va_Nw (.fieldLinkNest "SpoonSet$Reader" 90 "SpoonSet" "LEAST_TOLD" "[I" "SpoonSet") U ∧ va_Nw (.fieldLinkNest "SpoonSet$Reader" 93 "SpoonSet" "MOST_TOLD" "[I" "SpoonSet") U) ∧
  (vk_R "SpoonSet$Tape" 56 jW (st 10) U ∧ vk_R "SpoonSet$Tape" 72 jS (st 11) U) ∧
  (va_Z "java/lang/String" "COMPACT_STRINGS" "Z" (.int 1) (fun q => b ≤ q) U HB ∧ va_Zq "jdk/internal/util/Preconditions" "SIOOBE_FORMATTER" "Ljava/util/function/BiFunction;" (fun q => b ≤ q) U HB) ∧
  vk_S 2 [126, 11] jB (fun i => st (10 + i)) adV (fun q => b ≤ q) U HB
section XX
variable {b : Nat} {st adV : Nat → Nat} {HB : Heap}
theorem va_Zq.mv {C n d : String} {A : Nat → Prop} {u U : State} {H : Heap} (hvm : u.vm.Alike U.vm) (h : va_Zq C n d A u H) : va_Zq C n d A U H := by
  rcases h with h | ⟨t, h⟩
  · exact Or.inl (va_Z.moved hvm h)
  · exact Or.inr ⟨t, va_Z.moved hvm h⟩
theorem st_X.warm (u U : State) (hW : u.WarmedH U.vm) (h : st_X b st HB adV u) : st_X b st HB adV U :=
  ⟨⟨va_Z.moved hW.alike h.1.1, va_Z.moved hW.alike h.1.2⟩, ⟨va_Nw.warmF hW h.2.1.1, va_Nw.warmF hW h.2.1.2⟩, ⟨vk_R.warm hW h.2.2.1.1, vk_R.warm hW h.2.2.1.2⟩, ⟨va_Z.moved hW.alike h.2.2.2.1.1, va_Zq.mv hW.alike h.2.2.2.1.2⟩, vk_S.moved hW.alike h.2.2.2.2⟩
theorem st_X.same (u U : State) (e : u.vm = U.vm) (h : st_X b st HB adV u) : st_X b st HB adV U := by
  have al : u.vm.Alike U.vm := by rw [e]; exact Vm.Alike.refl _
  exact ⟨⟨va_Z.moved al h.1.1, va_Z.moved al h.1.2⟩, ⟨va_Nw.same rfl e h.2.1.1, va_Nw.same rfl e h.2.1.2⟩, ⟨vk_R.same e.symm h.2.2.1.1, vk_R.same e.symm h.2.2.1.2⟩, ⟨va_Z.moved al h.2.2.2.1.1, va_Zq.mv al h.2.2.2.1.2⟩, vk_S.moved al h.2.2.2.2⟩
end XX
section XS
variable {p : Program} {l : Launch} {e : Jvm.Env} {R : Room} {s : State} {m : MethodId} {args : Array Value} {below : List Frame} {meth : Method} {c : Code} {Q : State → Prop} {D : va_G} {Ac : Nat → ClassId} {b : Nat} {st adV : Nat → Nat} {HB : Heap} {zS : Nat → Nat × Nat} {zu : Nat → Nat → Int32} {nL n0 t0 own : Nat} {ini : Bool} {cc : ByteArray} {pc : Nat} {loc : am_L} {stk : List Value} {M M1 : am_M}
theorem ar_gets {C n : String} {index y : Nat} (hZ : va_Z "SpoonSet" n "[I" (.ref (st y)) (fun q => b ≤ q) s HB) (hN : va_Nw (.fieldLinkNest "SpoonSet$Reader" index "SpoonSet" n "[I" "SpoonSet") s) (hown : s.vm.findClass "SpoonSet$Reader" = some m.cls) (hx : p.tables.exec = Jvm.exec) (hb : c.code = cc) (hd : decode cc pc = .ok (.getstatic index, 3))
    (k : am_G p l e R s m args below meth c Q D Ac b st HB zS zu nL n0 t0 (pc + 3) loc (.ref (1000000 + y) :: stk) M) : am_G p l e R s m args below meth c Q D Ac b st HB zS zu nL n0 t0 pc loc stk M := by
  intro H locs ls hR hL hl
  obtain ⟨cf, kf, fi, f, a, cell, h1, h2, h3, h4, h5, h6, h7, h8⟩ := hZ
  have hH : H[a]? = some cell := by rw [hR.2.2.1 a (by omega)]; exact h5
  have kk := k H locs ls hR hL hl
  have ead : am_ad b st (1000000 + y) = st y := by unfold am_ad; rw [if_neg (by omega), Nat.add_sub_cancel_left]
  have kk : W p l e R s m args below meth c H locs (M.1 - n0) (M.2.1 - t0) Q (F0 m (pc + 3) ls (.ref (st y) :: stk.map (am_cv b st))) := by
    have e2 : ((Value.ref (1000000 + y) :: stk).map (am_cv b st)) = .ref (st y) :: stk.map (am_cv b st) := by
      show Value.ref (am_ad b st (1000000 + y)) :: _ = _
      rw [ead]
    rw [← e2]
    exact kk
  exact va_WgetsN hx hb hown (hN.use rfl) h1 h2 h3 h4 hH (fun e => by rw [e] at h6; cases h6) h7 rfl hd kk
theorem ar_ldcS {index y : Nat} {tx : String} (hZ : vk_R "SpoonSet$Tape" index tx (st y) s) (hown : s.vm.findClass "SpoonSet$Tape" = some m.cls) (hx : p.tables.exec = Jvm.exec) (hb : c.code = cc) (hd : decode cc pc = .ok (.ldc index, 2))
    (k : am_G p l e R s m args below meth c Q D Ac b st HB zS zu nL n0 t0 (pc + 2) loc (.ref (1000000 + y) :: stk) M) : am_G p l e R s m args below meth c Q D Ac b st HB zS zu nL n0 t0 pc loc stk M := by
  intro H locs ls hR hL hl
  have kk := k H locs ls hR hL hl
  have ead : am_ad b st (1000000 + y) = st y := by unfold am_ad; rw [if_neg (by omega), Nat.add_sub_cancel_left]
  have kk : W p l e R s m args below meth c H locs (M.1 - n0) (M.2.1 - t0) Q (F0 m (pc + 2) ls (.ref (st y) :: stk.map (am_cv b st))) := by
    have e2 : ((Value.ref (1000000 + y) :: stk).map (am_cv b st)) = .ref (st y) :: stk.map (am_cv b st) := by
      show Value.ref (am_ad b st (1000000 + y)) :: _ = _
      rw [ead]
    rw [← e2]
    exact kk
  exact va_ldcS hx hb hown hZ hd kk
end XS
